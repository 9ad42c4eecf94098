section
-- ===== PART A: goes FIRST, ahead of the names: the tables' words, and 'selects' of the private methods out of them =====
/-- a private method of a class that the tables say can be made, by its rows of tables_1 -/
def lw_okq (q : MethodName × Nat) : Prop := (q.1.cls ≠ "java/lang/invoke/MethodHandle" ∧ q.1.cls ≠ "java/lang/invoke/VarHandle") ∧ Cond.instantiable q.1.cls q.2 ∈ tables_1 ∧ Cond.privateMethod q.1 ∈ tables_1 ∧ Cond.instanceMethod q.1 ∈ tables_1
theorem lw_p0 : lw_okq (⟨"EggSpoons", "refuse", "(I)I"⟩, 14) := ⟨⟨by decide +kernel, by decide +kernel⟩, List.mem_of_getElem? (i := 21) (by decide +kernel), List.mem_of_getElem? (i := 313) (by decide +kernel), List.mem_of_getElem? (i := 314) (by decide +kernel)⟩
theorem lw_p1 : lw_okq (⟨"EggSpoons$Reader", "takeItem", "(LEggSpoons$Race;Z)V"⟩, 7) := ⟨⟨by decide +kernel, by decide +kernel⟩, List.mem_of_getElem? (i := 164) (by decide +kernel), List.mem_of_getElem? (i := 353) (by decide +kernel), List.mem_of_getElem? (i := 354) (by decide +kernel)⟩
theorem lw_p2 : lw_okq (⟨"EggSpoons$Reader", "nextToken", "()V"⟩, 7) := ⟨⟨by decide +kernel, by decide +kernel⟩, List.mem_of_getElem? (i := 164) (by decide +kernel), List.mem_of_getElem? (i := 357) (by decide +kernel), List.mem_of_getElem? (i := 358) (by decide +kernel)⟩
theorem lw_p3 : lw_okq (⟨"EggSpoons$Reader", "skipBlanks", "()V"⟩, 7) := ⟨⟨by decide +kernel, by decide +kernel⟩, List.mem_of_getElem? (i := 164) (by decide +kernel), List.mem_of_getElem? (i := 361) (by decide +kernel), List.mem_of_getElem? (i := 362) (by decide +kernel)⟩
theorem lw_p4 : lw_okq (⟨"EggSpoons$Reader", "takeLetters", "()V"⟩, 7) := ⟨⟨by decide +kernel, by decide +kernel⟩, List.mem_of_getElem? (i := 164) (by decide +kernel), List.mem_of_getElem? (i := 368) (by decide +kernel), List.mem_of_getElem? (i := 369) (by decide +kernel)⟩
theorem lw_p5 : lw_okq (⟨"EggSpoons$Reader", "takeFigures", "()V"⟩, 7) := ⟨⟨by decide +kernel, by decide +kernel⟩, List.mem_of_getElem? (i := 164) (by decide +kernel), List.mem_of_getElem? (i := 375) (by decide +kernel), List.mem_of_getElem? (i := 376) (by decide +kernel)⟩
theorem lw_p6 : lw_okq (⟨"EggSpoons$Reader", "spells", "(Ljava/lang/String;)Z"⟩, 7) := ⟨⟨by decide +kernel, by decide +kernel⟩, List.mem_of_getElem? (i := 164) (by decide +kernel), List.mem_of_getElem? (i := 380) (by decide +kernel), List.mem_of_getElem? (i := 381) (by decide +kernel)⟩
theorem lw_p7 : lw_okq (⟨"EggSpoons$Reader", "takeLength", "(LEggSpoons$Race;)V"⟩, 7) := ⟨⟨by decide +kernel, by decide +kernel⟩, List.mem_of_getElem? (i := 164) (by decide +kernel), List.mem_of_getElem? (i := 432) (by decide +kernel), List.mem_of_getElem? (i := 433) (by decide +kernel)⟩
theorem lw_p8 : lw_okq (⟨"EggSpoons$Reader", "number", "(II)I"⟩, 7) := ⟨⟨by decide +kernel, by decide +kernel⟩, List.mem_of_getElem? (i := 164) (by decide +kernel), List.mem_of_getElem? (i := 436) (by decide +kernel), List.mem_of_getElem? (i := 437) (by decide +kernel)⟩
theorem lw_p9 : lw_okq (⟨"EggSpoons$Reader", "ended", "()Z"⟩, 7) := ⟨⟨by decide +kernel, by decide +kernel⟩, List.mem_of_getElem? (i := 164) (by decide +kernel), List.mem_of_getElem? (i := 440) (by decide +kernel), List.mem_of_getElem? (i := 441) (by decide +kernel)⟩
theorem lw_p10 : lw_okq (⟨"EggSpoons$Reader", "takeRunner", "(LEggSpoons$Race;)V"⟩, 7) := ⟨⟨by decide +kernel, by decide +kernel⟩, List.mem_of_getElem? (i := 164) (by decide +kernel), List.mem_of_getElem? (i := 446) (by decide +kernel), List.mem_of_getElem? (i := 447) (by decide +kernel)⟩
theorem lw_p11 : lw_okq (⟨"EggSpoons$Reader", "takeSpeed", "(LEggSpoons$Race;)V"⟩, 7) := ⟨⟨by decide +kernel, by decide +kernel⟩, List.mem_of_getElem? (i := 164) (by decide +kernel), List.mem_of_getElem? (i := 452) (by decide +kernel), List.mem_of_getElem? (i := 453) (by decide +kernel)⟩
theorem lw_p12 : lw_okq (⟨"EggSpoons$Reader", "takeStart", "(LEggSpoons$Race;)V"⟩, 7) := ⟨⟨by decide +kernel, by decide +kernel⟩, List.mem_of_getElem? (i := 164) (by decide +kernel), List.mem_of_getElem? (i := 457) (by decide +kernel), List.mem_of_getElem? (i := 458) (by decide +kernel)⟩
theorem lw_p13 : lw_okq (⟨"EggSpoons$Reader", "takeTicks", "(LEggSpoons$Race;)V"⟩, 7) := ⟨⟨by decide +kernel, by decide +kernel⟩, List.mem_of_getElem? (i := 164) (by decide +kernel), List.mem_of_getElem? (i := 469) (by decide +kernel), List.mem_of_getElem? (i := 470) (by decide +kernel)⟩
theorem lw_p14 : lw_okq (⟨"EggSpoons", "there", "(I)Z"⟩, 14) := ⟨⟨by decide +kernel, by decide +kernel⟩, List.mem_of_getElem? (i := 21) (by decide +kernel), List.mem_of_getElem? (i := 514) (by decide +kernel), List.mem_of_getElem? (i := 515) (by decide +kernel)⟩
theorem lw_p15 : lw_okq (⟨"EggSpoons", "homeBehind", "(II)I"⟩, 14) := ⟨⟨by decide +kernel, by decide +kernel⟩, List.mem_of_getElem? (i := 21) (by decide +kernel), List.mem_of_getElem? (i := 560) (by decide +kernel), List.mem_of_getElem? (i := 561) (by decide +kernel)⟩
def lw_privs_1 : List (MethodName × Nat) := [(⟨"EggSpoons", "refuse", "(I)I"⟩, 14), (⟨"EggSpoons$Reader", "takeItem", "(LEggSpoons$Race;Z)V"⟩, 7), (⟨"EggSpoons$Reader", "nextToken", "()V"⟩, 7), (⟨"EggSpoons$Reader", "skipBlanks", "()V"⟩, 7), (⟨"EggSpoons$Reader", "takeLetters", "()V"⟩, 7), (⟨"EggSpoons$Reader", "takeFigures", "()V"⟩, 7), (⟨"EggSpoons$Reader", "spells", "(Ljava/lang/String;)Z"⟩, 7), (⟨"EggSpoons$Reader", "takeLength", "(LEggSpoons$Race;)V"⟩, 7), (⟨"EggSpoons$Reader", "number", "(II)I"⟩, 7), (⟨"EggSpoons$Reader", "ended", "()Z"⟩, 7), (⟨"EggSpoons$Reader", "takeRunner", "(LEggSpoons$Race;)V"⟩, 7), (⟨"EggSpoons$Reader", "takeSpeed", "(LEggSpoons$Race;)V"⟩, 7), (⟨"EggSpoons$Reader", "takeStart", "(LEggSpoons$Race;)V"⟩, 7), (⟨"EggSpoons$Reader", "takeTicks", "(LEggSpoons$Race;)V"⟩, 7), (⟨"EggSpoons", "there", "(I)Z"⟩, 14), (⟨"EggSpoons", "homeBehind", "(II)I"⟩, 14)]
theorem lw_r1 : ∀ q ∈ lw_privs_1, lw_okq q := List.forall_mem_cons.mpr ⟨lw_p0, List.forall_mem_cons.mpr ⟨lw_p1, List.forall_mem_cons.mpr ⟨lw_p2, List.forall_mem_cons.mpr ⟨lw_p3, List.forall_mem_cons.mpr ⟨lw_p4, List.forall_mem_cons.mpr ⟨lw_p5, List.forall_mem_cons.mpr ⟨lw_p6, List.forall_mem_cons.mpr ⟨lw_p7, List.forall_mem_cons.mpr ⟨lw_p8, List.forall_mem_cons.mpr ⟨lw_p9, List.forall_mem_cons.mpr ⟨lw_p10, List.forall_mem_cons.mpr ⟨lw_p11, List.forall_mem_cons.mpr ⟨lw_p12, List.forall_mem_cons.mpr ⟨lw_p13, List.forall_mem_cons.mpr ⟨lw_p14, List.forall_mem_cons.mpr ⟨lw_p15, fun _ h => absurd h List.not_mem_nil⟩⟩⟩⟩⟩⟩⟩⟩⟩⟩⟩⟩⟩⟩⟩⟩
theorem lw_p16 : lw_okq (⟨"EggSpoons", "rankAll", "()V"⟩, 14) := ⟨⟨by decide +kernel, by decide +kernel⟩, List.mem_of_getElem? (i := 21) (by decide +kernel), List.mem_of_getElem? (i := 576) (by decide +kernel), List.mem_of_getElem? (i := 577) (by decide +kernel)⟩
theorem lw_p17 : lw_okq (⟨"EggSpoons", "aheadOf", "(I)I"⟩, 14) := ⟨⟨by decide +kernel, by decide +kernel⟩, List.mem_of_getElem? (i := 21) (by decide +kernel), List.mem_of_getElem? (i := 580) (by decide +kernel), List.mem_of_getElem? (i := 581) (by decide +kernel)⟩
theorem lw_p18 : lw_okq (⟨"EggSpoons", "homeTurning", "(IIII)I"⟩, 14) := ⟨⟨by decide +kernel, by decide +kernel⟩, List.mem_of_getElem? (i := 21) (by decide +kernel), List.mem_of_getElem? (i := 592) (by decide +kernel), List.mem_of_getElem? (i := 593) (by decide +kernel)⟩
theorem lw_p19 : lw_okq (⟨"EggSpoons", "areTwo", "(II)Z"⟩, 14) := ⟨⟨by decide +kernel, by decide +kernel⟩, List.mem_of_getElem? (i := 21) (by decide +kernel), List.mem_of_getElem? (i := 601) (by decide +kernel), List.mem_of_getElem? (i := 602) (by decide +kernel)⟩
theorem lw_p20 : lw_okq (⟨"EggSpoons", "nextLook", "(LEggSpoons$Runner;III)I"⟩, 14) := ⟨⟨by decide +kernel, by decide +kernel⟩, List.mem_of_getElem? (i := 21) (by decide +kernel), List.mem_of_getElem? (i := 647) (by decide +kernel), List.mem_of_getElem? (i := 648) (by decide +kernel)⟩
theorem lw_p21 : lw_okq (⟨"EggSpoons", "mostAlike", "(LEggSpoons$Runner;III)I"⟩, 14) := ⟨⟨by decide +kernel, by decide +kernel⟩, List.mem_of_getElem? (i := 21) (by decide +kernel), List.mem_of_getElem? (i := 651) (by decide +kernel), List.mem_of_getElem? (i := 652) (by decide +kernel)⟩
theorem lw_p22 : lw_okq (⟨"EggSpoons", "placeBehindFive", "(II)I"⟩, 14) := ⟨⟨by decide +kernel, by decide +kernel⟩, List.mem_of_getElem? (i := 21) (by decide +kernel), List.mem_of_getElem? (i := 716) (by decide +kernel), List.mem_of_getElem? (i := 717) (by decide +kernel)⟩
theorem lw_p23 : lw_okq (⟨"EggSpoonsModel", "bad", "(I)I"⟩, 18) := ⟨⟨by decide +kernel, by decide +kernel⟩, List.mem_of_getElem? (i := 833) (by decide +kernel), List.mem_of_getElem? (i := 906) (by decide +kernel), List.mem_of_getElem? (i := 907) (by decide +kernel)⟩
theorem lw_p24 : lw_okq (⟨"EggSpoonsModel", "many", "()I"⟩, 18) := ⟨⟨by decide +kernel, by decide +kernel⟩, List.mem_of_getElem? (i := 833) (by decide +kernel), List.mem_of_getElem? (i := 910) (by decide +kernel), List.mem_of_getElem? (i := 911) (by decide +kernel)⟩
theorem lw_p25 : lw_okq (⟨"EggSpoonsModel", "full", "()I"⟩, 18) := ⟨⟨by decide +kernel, by decide +kernel⟩, List.mem_of_getElem? (i := 833) (by decide +kernel), List.mem_of_getElem? (i := 926) (by decide +kernel), List.mem_of_getElem? (i := 927) (by decide +kernel)⟩
theorem lw_p26 : lw_okq (⟨"EggSpoonsModel", "save", "()V"⟩, 18) := ⟨⟨by decide +kernel, by decide +kernel⟩, List.mem_of_getElem? (i := 833) (by decide +kernel), List.mem_of_getElem? (i := 937) (by decide +kernel), List.mem_of_getElem? (i := 938) (by decide +kernel)⟩
theorem lw_p27 : lw_okq (⟨"EggSpoonsModel", "isOne", "(I)Z"⟩, 18) := ⟨⟨by decide +kernel, by decide +kernel⟩, List.mem_of_getElem? (i := 833) (by decide +kernel), List.mem_of_getElem? (i := 972) (by decide +kernel), List.mem_of_getElem? (i := 973) (by decide +kernel)⟩
theorem lw_p28 : lw_okq (⟨"EggSpoonsModel", "no", "()I"⟩, 18) := ⟨⟨by decide +kernel, by decide +kernel⟩, List.mem_of_getElem? (i := 833) (by decide +kernel), List.mem_of_getElem? (i := 979) (by decide +kernel), List.mem_of_getElem? (i := 980) (by decide +kernel)⟩
theorem lw_p29 : lw_okq (⟨"EggSpoonsModel", "toldOf", "(II)I"⟩, 18) := ⟨⟨by decide +kernel, by decide +kernel⟩, List.mem_of_getElem? (i := 833) (by decide +kernel), List.mem_of_getElem? (i := 996) (by decide +kernel), List.mem_of_getElem? (i := 997) (by decide +kernel)⟩
theorem lw_p30 : lw_okq (⟨"EggSpoonsModel", "layHand", "()V"⟩, 18) := ⟨⟨by decide +kernel, by decide +kernel⟩, List.mem_of_getElem? (i := 833) (by decide +kernel), List.mem_of_getElem? (i := 1004) (by decide +kernel), List.mem_of_getElem? (i := 1005) (by decide +kernel)⟩
theorem lw_p31 : lw_okq (⟨"EggSpoonsModel", "goAhead", "(I)V"⟩, 18) := ⟨⟨by decide +kernel, by decide +kernel⟩, List.mem_of_getElem? (i := 833) (by decide +kernel), List.mem_of_getElem? (i := 1008) (by decide +kernel), List.mem_of_getElem? (i := 1009) (by decide +kernel)⟩
def lw_privs_2 : List (MethodName × Nat) := [(⟨"EggSpoons", "rankAll", "()V"⟩, 14), (⟨"EggSpoons", "aheadOf", "(I)I"⟩, 14), (⟨"EggSpoons", "homeTurning", "(IIII)I"⟩, 14), (⟨"EggSpoons", "areTwo", "(II)Z"⟩, 14), (⟨"EggSpoons", "nextLook", "(LEggSpoons$Runner;III)I"⟩, 14), (⟨"EggSpoons", "mostAlike", "(LEggSpoons$Runner;III)I"⟩, 14), (⟨"EggSpoons", "placeBehindFive", "(II)I"⟩, 14), (⟨"EggSpoonsModel", "bad", "(I)I"⟩, 18), (⟨"EggSpoonsModel", "many", "()I"⟩, 18), (⟨"EggSpoonsModel", "full", "()I"⟩, 18), (⟨"EggSpoonsModel", "save", "()V"⟩, 18), (⟨"EggSpoonsModel", "isOne", "(I)Z"⟩, 18), (⟨"EggSpoonsModel", "no", "()I"⟩, 18), (⟨"EggSpoonsModel", "toldOf", "(II)I"⟩, 18), (⟨"EggSpoonsModel", "layHand", "()V"⟩, 18), (⟨"EggSpoonsModel", "goAhead", "(I)V"⟩, 18)]
theorem lw_r2 : ∀ q ∈ lw_privs_2, lw_okq q := List.forall_mem_cons.mpr ⟨lw_p16, List.forall_mem_cons.mpr ⟨lw_p17, List.forall_mem_cons.mpr ⟨lw_p18, List.forall_mem_cons.mpr ⟨lw_p19, List.forall_mem_cons.mpr ⟨lw_p20, List.forall_mem_cons.mpr ⟨lw_p21, List.forall_mem_cons.mpr ⟨lw_p22, List.forall_mem_cons.mpr ⟨lw_p23, List.forall_mem_cons.mpr ⟨lw_p24, List.forall_mem_cons.mpr ⟨lw_p25, List.forall_mem_cons.mpr ⟨lw_p26, List.forall_mem_cons.mpr ⟨lw_p27, List.forall_mem_cons.mpr ⟨lw_p28, List.forall_mem_cons.mpr ⟨lw_p29, List.forall_mem_cons.mpr ⟨lw_p30, List.forall_mem_cons.mpr ⟨lw_p31, fun _ h => absurd h List.not_mem_nil⟩⟩⟩⟩⟩⟩⟩⟩⟩⟩⟩⟩⟩⟩⟩⟩
theorem lw_p32 : lw_okq (⟨"EggSpoonsModel", "homeOf", "(I)I"⟩, 18) := ⟨⟨by decide +kernel, by decide +kernel⟩, List.mem_of_getElem? (i := 833) (by decide +kernel), List.mem_of_getElem? (i := 1016) (by decide +kernel), List.mem_of_getElem? (i := 1017) (by decide +kernel)⟩
theorem lw_p33 : lw_okq (⟨"EggSpoonsModel", "homeAtHand", "(II)I"⟩, 18) := ⟨⟨by decide +kernel, by decide +kernel⟩, List.mem_of_getElem? (i := 833) (by decide +kernel), List.mem_of_getElem? (i := 1020) (by decide +kernel), List.mem_of_getElem? (i := 1021) (by decide +kernel)⟩
theorem lw_p34 : lw_okq (⟨"EggSpoonsModel", "legsOf", "(I)I"⟩, 18) := ⟨⟨by decide +kernel, by decide +kernel⟩, List.mem_of_getElem? (i := 833) (by decide +kernel), List.mem_of_getElem? (i := 1061) (by decide +kernel), List.mem_of_getElem? (i := 1062) (by decide +kernel)⟩
theorem lw_p35 : lw_okq (⟨"EggSpoonsModel", "mostAlike", "(I)I"⟩, 18) := ⟨⟨by decide +kernel, by decide +kernel⟩, List.mem_of_getElem? (i := 833) (by decide +kernel), List.mem_of_getElem? (i := 1072) (by decide +kernel), List.mem_of_getElem? (i := 1073) (by decide +kernel)⟩
theorem lw_p36 : lw_okq (⟨"EggSpoonsModel", "kindsOfOne", "(I)I"⟩, 18) := ⟨⟨by decide +kernel, by decide +kernel⟩, List.mem_of_getElem? (i := 833) (by decide +kernel), List.mem_of_getElem? (i := 1092) (by decide +kernel), List.mem_of_getElem? (i := 1093) (by decide +kernel)⟩
theorem lw_p37 : lw_okq (⟨"EggSpoonsModel", "kindsOfEgg", "(I)I"⟩, 18) := ⟨⟨by decide +kernel, by decide +kernel⟩, List.mem_of_getElem? (i := 833) (by decide +kernel), List.mem_of_getElem? (i := 1104) (by decide +kernel), List.mem_of_getElem? (i := 1105) (by decide +kernel)⟩
theorem lw_p38 : lw_okq (⟨"EggSpoonsModel", "rests", "(IIII)Z"⟩, 18) := ⟨⟨by decide +kernel, by decide +kernel⟩, List.mem_of_getElem? (i := 833) (by decide +kernel), List.mem_of_getElem? (i := 1116) (by decide +kernel), List.mem_of_getElem? (i := 1117) (by decide +kernel)⟩
theorem lw_p39 : lw_okq (⟨"EggSpoonsModel", "getsBy", "(III)I"⟩, 18) := ⟨⟨by decide +kernel, by decide +kernel⟩, List.mem_of_getElem? (i := 833) (by decide +kernel), List.mem_of_getElem? (i := 1120) (by decide +kernel), List.mem_of_getElem? (i := 1121) (by decide +kernel)⟩
theorem lw_p40 : lw_okq (⟨"EggSpoonsModel", "fraction", "(JJ)V"⟩, 18) := ⟨⟨by decide +kernel, by decide +kernel⟩, List.mem_of_getElem? (i := 833) (by decide +kernel), List.mem_of_getElem? (i := 1129) (by decide +kernel), List.mem_of_getElem? (i := 1130) (by decide +kernel)⟩
theorem lw_p41 : lw_okq (⟨"EggSpoonsModel", "lookAt", "(I)V"⟩, 18) := ⟨⟨by decide +kernel, by decide +kernel⟩, List.mem_of_getElem? (i := 833) (by decide +kernel), List.mem_of_getElem? (i := 1156) (by decide +kernel), List.mem_of_getElem? (i := 1157) (by decide +kernel)⟩
theorem lw_p42 : lw_okq (⟨"EggSpoonsModel", "spells", "(IIIIIII)Z"⟩, 18) := ⟨⟨by decide +kernel, by decide +kernel⟩, List.mem_of_getElem? (i := 833) (by decide +kernel), List.mem_of_getElem? (i := 1170) (by decide +kernel), List.mem_of_getElem? (i := 1171) (by decide +kernel)⟩
theorem lw_p43 : lw_okq (⟨"EggSpoonsModel", "goBehind", "()V"⟩, 18) := ⟨⟨by decide +kernel, by decide +kernel⟩, List.mem_of_getElem? (i := 833) (by decide +kernel), List.mem_of_getElem? (i := 1174) (by decide +kernel), List.mem_of_getElem? (i := 1175) (by decide +kernel)⟩
theorem lw_p44 : lw_okq (⟨"EggSpoonsModel", "takes", "(III)Z"⟩, 18) := ⟨⟨by decide +kernel, by decide +kernel⟩, List.mem_of_getElem? (i := 833) (by decide +kernel), List.mem_of_getElem? (i := 1178) (by decide +kernel), List.mem_of_getElem? (i := 1179) (by decide +kernel)⟩
theorem lw_p45 : lw_okq (⟨"EggSpoonsModel", "takesItem", "()Z"⟩, 18) := ⟨⟨by decide +kernel, by decide +kernel⟩, List.mem_of_getElem? (i := 833) (by decide +kernel), List.mem_of_getElem? (i := 1182) (by decide +kernel), List.mem_of_getElem? (i := 1183) (by decide +kernel)⟩
theorem lw_p46 : lw_okq (⟨"EggSpoonsModel", "takesOne", "()Z"⟩, 18) := ⟨⟨by decide +kernel, by decide +kernel⟩, List.mem_of_getElem? (i := 833) (by decide +kernel), List.mem_of_getElem? (i := 1186) (by decide +kernel), List.mem_of_getElem? (i := 1187) (by decide +kernel)⟩
theorem lw_p47 : lw_okq (⟨"EggSpoonsModel", "takesSpeed", "()Z"⟩, 18) := ⟨⟨by decide +kernel, by decide +kernel⟩, List.mem_of_getElem? (i := 833) (by decide +kernel), List.mem_of_getElem? (i := 1190) (by decide +kernel), List.mem_of_getElem? (i := 1191) (by decide +kernel)⟩
def lw_privs_3 : List (MethodName × Nat) := [(⟨"EggSpoonsModel", "homeOf", "(I)I"⟩, 18), (⟨"EggSpoonsModel", "homeAtHand", "(II)I"⟩, 18), (⟨"EggSpoonsModel", "legsOf", "(I)I"⟩, 18), (⟨"EggSpoonsModel", "mostAlike", "(I)I"⟩, 18), (⟨"EggSpoonsModel", "kindsOfOne", "(I)I"⟩, 18), (⟨"EggSpoonsModel", "kindsOfEgg", "(I)I"⟩, 18), (⟨"EggSpoonsModel", "rests", "(IIII)Z"⟩, 18), (⟨"EggSpoonsModel", "getsBy", "(III)I"⟩, 18), (⟨"EggSpoonsModel", "fraction", "(JJ)V"⟩, 18), (⟨"EggSpoonsModel", "lookAt", "(I)V"⟩, 18), (⟨"EggSpoonsModel", "spells", "(IIIIIII)Z"⟩, 18), (⟨"EggSpoonsModel", "goBehind", "()V"⟩, 18), (⟨"EggSpoonsModel", "takes", "(III)Z"⟩, 18), (⟨"EggSpoonsModel", "takesItem", "()Z"⟩, 18), (⟨"EggSpoonsModel", "takesOne", "()Z"⟩, 18), (⟨"EggSpoonsModel", "takesSpeed", "()Z"⟩, 18)]
theorem lw_r3 : ∀ q ∈ lw_privs_3, lw_okq q := List.forall_mem_cons.mpr ⟨lw_p32, List.forall_mem_cons.mpr ⟨lw_p33, List.forall_mem_cons.mpr ⟨lw_p34, List.forall_mem_cons.mpr ⟨lw_p35, List.forall_mem_cons.mpr ⟨lw_p36, List.forall_mem_cons.mpr ⟨lw_p37, List.forall_mem_cons.mpr ⟨lw_p38, List.forall_mem_cons.mpr ⟨lw_p39, List.forall_mem_cons.mpr ⟨lw_p40, List.forall_mem_cons.mpr ⟨lw_p41, List.forall_mem_cons.mpr ⟨lw_p42, List.forall_mem_cons.mpr ⟨lw_p43, List.forall_mem_cons.mpr ⟨lw_p44, List.forall_mem_cons.mpr ⟨lw_p45, List.forall_mem_cons.mpr ⟨lw_p46, List.forall_mem_cons.mpr ⟨lw_p47, fun _ h => absurd h List.not_mem_nil⟩⟩⟩⟩⟩⟩⟩⟩⟩⟩⟩⟩⟩⟩⟩⟩
theorem lw_p48 : lw_okq (⟨"EggSpoonsModel", "takesStart", "()Z"⟩, 18) := ⟨⟨by decide +kernel, by decide +kernel⟩, List.mem_of_getElem? (i := 833) (by decide +kernel), List.mem_of_getElem? (i := 1194) (by decide +kernel), List.mem_of_getElem? (i := 1195) (by decide +kernel)⟩
theorem lw_p49 : lw_okq (⟨"EggSpoonsModel", "takesGo", "()Z"⟩, 18) := ⟨⟨by decide +kernel, by decide +kernel⟩, List.mem_of_getElem? (i := 833) (by decide +kernel), List.mem_of_getElem? (i := 1198) (by decide +kernel), List.mem_of_getElem? (i := 1199) (by decide +kernel)⟩
theorem lw_p50 : lw_okq (⟨"EggSpoonsModel", "counted", "(I)I"⟩, 18) := ⟨⟨by decide +kernel, by decide +kernel⟩, List.mem_of_getElem? (i := 833) (by decide +kernel), List.mem_of_getElem? (i := 1222) (by decide +kernel), List.mem_of_getElem? (i := 1223) (by decide +kernel)⟩
theorem lw_p51 : lw_okq (⟨"EggSpoonsModel", "sumOf", "(I)I"⟩, 18) := ⟨⟨by decide +kernel, by decide +kernel⟩, List.mem_of_getElem? (i := 833) (by decide +kernel), List.mem_of_getElem? (i := 1226) (by decide +kernel), List.mem_of_getElem? (i := 1227) (by decide +kernel)⟩
theorem lw_p52 : lw_okq (⟨"EggSpoonsModel", "sums", "(JII)J"⟩, 18) := ⟨⟨by decide +kernel, by decide +kernel⟩, List.mem_of_getElem? (i := 833) (by decide +kernel), List.mem_of_getElem? (i := 1236) (by decide +kernel), List.mem_of_getElem? (i := 1237) (by decide +kernel)⟩
def lw_privs_4 : List (MethodName × Nat) := [(⟨"EggSpoonsModel", "takesStart", "()Z"⟩, 18), (⟨"EggSpoonsModel", "takesGo", "()Z"⟩, 18), (⟨"EggSpoonsModel", "counted", "(I)I"⟩, 18), (⟨"EggSpoonsModel", "sumOf", "(I)I"⟩, 18), (⟨"EggSpoonsModel", "sums", "(JII)J"⟩, 18)]
theorem lw_r4 : ∀ q ∈ lw_privs_4, lw_okq q := List.forall_mem_cons.mpr ⟨lw_p48, List.forall_mem_cons.mpr ⟨lw_p49, List.forall_mem_cons.mpr ⟨lw_p50, List.forall_mem_cons.mpr ⟨lw_p51, List.forall_mem_cons.mpr ⟨lw_p52, fun _ h => absurd h List.not_mem_nil⟩⟩⟩⟩⟩
def lw_privs : List (MethodName × Nat) := lw_privs_1 ++ (lw_privs_2 ++ (lw_privs_3 ++ (lw_privs_4)))
def lw_tbl : List Cond := k2_sels lw_privs ++ tables_1
theorem lw_privs_ok : ∀ q ∈ lw_privs, lw_okq q := by
  show ∀ q ∈ lw_privs_1 ++ (lw_privs_2 ++ (lw_privs_3 ++ (lw_privs_4))), lw_okq q
  exact List.forall_mem_append.mpr ⟨lw_r1, List.forall_mem_append.mpr ⟨lw_r2, List.forall_mem_append.mpr ⟨lw_r3, lw_r4⟩⟩⟩
end
section
theorem goodIn_r {big : List Cond} (ws : List Cond) (ps : List Nat) (hp : ws = ps.filterMap (fun i => big[i]?)) (h : ws.all goodWord = true) : GoodIn big ws := by
  intro w hw
  have h1 := List.all_eq_true.mp h w hw
  rw [hp] at hw
  obtain ⟨i, -, hi⟩ := List.mem_filterMap.mp hw
  have hm : w ∈ big := by first | exact List.mem_of_getElem? hi | exact List.getElem?_mem hi
  exact ⟨hm, good_of_word h1⟩
theorem goodIn_app {big a b : List Cond} (ha : GoodIn big a) (hb : GoodIn big b) : GoodIn big (a ++ b) := fun w h => (List.mem_append.mp h).elim (ha w) (hb w)
theorem goodIn_ca {big a b : List Cond} {c : Cond} (ha : GoodIn big (c :: a)) (hb : GoodIn big b) : GoodIn big (c :: (a ++ b)) := fun w h => (List.mem_cons.mp h).elim (fun e => ha w (List.mem_cons.mpr (Or.inl e))) (fun h => (List.mem_append.mp h).elim (fun h => ha w (List.mem_cons.mpr (Or.inr h))) (hb w))
theorem goodIn_sub {big ws : List Cond} (hm : ∀ w ∈ ws, w ∈ big) (h : ws.all goodWord = true) : GoodIn big ws := fun w hw => ⟨hm w hw, good_of_word (List.all_eq_true.mp h w hw)⟩
def RX0 : String := "EggSpoons$Duel"
def TX0 : u_T := fun k => match k with
  | 0 => ("EggSpoons$Duel", "endsA", "[I", true)
  | 1 => ("EggSpoons$Duel", "endsB", "[I", true)
  | 2 => ("EggSpoons$Duel", "mostA", "[I", true)
  | 3 => ("EggSpoons$Duel", "mostB", "[I", true)
  | _ => ("EggSpoons$Duel", "resting", "[I", true)
def tyX0 : Nat → FieldType := fun k => match k with
  | 0 => .array .int
  | 1 => .array .int
  | 2 => .array .int
  | 3 => .array .int
  | _ => .array .int
abbrev wsX00 : List Cond := u_ws RX0 TX0 5
theorem nmX0 : ∀ a, a < 5 → ∀ b, b < 5 → a ≠ b → (TX0 a).2.1 ≠ (TX0 b).2.1 := by decide +kernel
theorem tyX0_ok : ∀ k, k < 5 → parseFieldDescriptor (TX0 k).2.2.1 = some (tyX0 k) := by decide +kernel
abbrev cX0_init : ByteArray := prog_2_method_1_code
def yX0_init : MethodName := ⟨RX0, "<init>", "()V"⟩
abbrev cX0_put : ByteArray := prog_2_method_2_code
def yX0_put : MethodName := ⟨RX0, "put", "(III)V"⟩
abbrev cX0_weigh : ByteArray := prog_2_method_3_code
def yX0_weigh : MethodName := ⟨RX0, "weigh", "(II)I"⟩
abbrev cX0_restingPair : ByteArray := prog_2_method_4_code
def yX0_restingPair : MethodName := ⟨RX0, "restingPair", "(I)I"⟩
abbrev cX0_greatestGain : ByteArray := prog_2_method_5_code
def yX0_greatestGain : MethodName := ⟨RX0, "greatestGain", "([III)I"⟩
abbrev cX0_gain : ByteArray := prog_2_method_6_code
def yX0_gain : MethodName := ⟨RX0, "gain", "(III)I"⟩
def RX1 : String := "EggSpoons$Egg"
def TX1 : u_T := fun k => match k with
  | _ => ("", "", "", false)
def tyX1 : Nat → FieldType := fun k => match k with
  | _ => .int
abbrev wsX10 : List Cond := u_ws RX1 TX1 0
theorem nmX1 : ∀ a, a < 0 → ∀ b, b < 0 → a ≠ b → (TX1 a).2.1 ≠ (TX1 b).2.1 := by decide +kernel
theorem tyX1_ok : ∀ k, k < 0 → parseFieldDescriptor (TX1 k).2.2.1 = some (tyX1 k) := by decide +kernel
abbrev cX1_limit : ByteArray := prog_3_method_2_code
def yX1_limit : MethodName := ⟨RX1, "limit", "(II)I"⟩
def RX2 : String := "EggSpoons$Gait"
def TX2 : u_T := fun k => match k with
  | _ => ("", "", "", false)
def tyX2 : Nat → FieldType := fun k => match k with
  | _ => .int
abbrev wsX20 : List Cond := u_ws RX2 TX2 0
theorem nmX2 : ∀ a, a < 0 → ∀ b, b < 0 → a ≠ b → (TX2 a).2.1 ≠ (TX2 b).2.1 := by decide +kernel
theorem tyX2_ok : ∀ k, k < 0 → parseFieldDescriptor (TX2 k).2.2.1 = some (tyX2 k) := by decide +kernel
abbrev cX2_reach : ByteArray := prog_4_method_2_code
def yX2_reach : MethodName := ⟨RX2, "reach", "(IIII)I"⟩
def RX3 : String := "EggSpoons$Odds"
def TX3 : u_T := fun k => match k with
  | 0 => ("EggSpoons$Odds", "kind", "I", false)
  | 1 => ("EggSpoons$Odds", "legs", "I", false)
  | 2 => ("EggSpoons$Odds", "egg", "I", false)
  | 3 => ("EggSpoons$Odds", "speed", "I", false)
  | 4 => ("EggSpoons$Odds", "length", "I", false)
  | 5 => ("EggSpoons$Odds", "lastTick", "I", false)
  | 6 => ("EggSpoons$Odds", "goal", "I", false)
  | _ => ("EggSpoons$Odds", "tenths", "I", false)
def tyX3 : Nat → FieldType := fun k => match k with
  | 0 => .int
  | 1 => .int
  | 2 => .int
  | 3 => .int
  | 4 => .int
  | 5 => .int
  | 6 => .int
  | _ => .int
abbrev wsX30 : List Cond := u_ws RX3 TX3 8
theorem nmX3 : ∀ a, a < 8 → ∀ b, b < 8 → a ≠ b → (TX3 a).2.1 ≠ (TX3 b).2.1 := by decide +kernel
theorem tyX3_ok : ∀ k, k < 8 → parseFieldDescriptor (TX3 k).2.2.1 = some (tyX3 k) := by decide +kernel
abbrev cX3_init : ByteArray := prog_5_method_1_code
def yX3_init : MethodName := ⟨RX3, "<init>", "()V"⟩
abbrev cX3_pose : ByteArray := prog_5_method_2_code
def yX3_pose : MethodName := ⟨RX3, "pose", "(LEggSpoons$Runner;IIII)V"⟩
abbrev cX3_ways : ByteArray := prog_5_method_3_code
def yX3_ways : MethodName := ⟨RX3, "ways", "(LEggSpoons$Odds;III)J"⟩
abbrev cX3_tenTo : ByteArray := prog_5_method_4_code
def yX3_tenTo : MethodName := ⟨RX3, "tenTo", "(I)J"⟩
abbrev cX3_commonPart : ByteArray := prog_5_method_5_code
def yX3_commonPart : MethodName := ⟨RX3, "commonPart", "(JJ)J"⟩
def RX4 : String := "EggSpoons$Past"
def TX4 : u_T := fun k => match k with
  | 0 => ("EggSpoons$Past", "cells", "[I", true)
  | _ => ("EggSpoons$Past", "size", "I", false)
def tyX4 : Nat → FieldType := fun k => match k with
  | 0 => .array .int
  | _ => .int
abbrev wsX40 : List Cond := u_ws RX4 TX4 2
theorem nmX4 : ∀ a, a < 2 → ∀ b, b < 2 → a ≠ b → (TX4 a).2.1 ≠ (TX4 b).2.1 := by decide +kernel
theorem tyX4_ok : ∀ k, k < 2 → parseFieldDescriptor (TX4 k).2.2.1 = some (tyX4 k) := by decide +kernel
abbrev cX4_init : ByteArray := prog_6_method_1_code
def yX4_init : MethodName := ⟨RX4, "<init>", "()V"⟩
abbrev cX4_push : ByteArray := prog_6_method_2_code
def yX4_push : MethodName := ⟨RX4, "push", "(I[LEggSpoons$Runner;)V"⟩
abbrev cX4_pop : ByteArray := prog_6_method_3_code
def yX4_pop : MethodName := ⟨RX4, "pop", "([LEggSpoons$Runner;)I"⟩
abbrev cX4_copyFrom : ByteArray := prog_6_method_4_code
def yX4_copyFrom : MethodName := ⟨RX4, "copyFrom", "(LEggSpoons$Past;)V"⟩
def RX5 : String := "EggSpoons$Race"
def TX5 : u_T := fun k => match k with
  | 0 => ("EggSpoons$Race", "length", "I", false)
  | 1 => ("EggSpoons$Race", "tick", "I", false)
  | 2 => ("EggSpoons$Race", "runners", "I", false)
  | 3 => ("EggSpoons$Race", "row", "[LEggSpoons$Runner;", true)
  | 4 => ("EggSpoons$Race", "past", "LEggSpoons$Past;", true)
  | 5 => ("EggSpoons$Race", "seenRows", "LEggSpoons$Rows;", true)
  | 6 => ("EggSpoons$Race", "noteRows", "LEggSpoons$Rows;", true)
  | _ => ("EggSpoons$Race", "markRows", "LEggSpoons$Rows;", true)
def tyX5 : Nat → FieldType := fun k => match k with
  | 0 => .int
  | 1 => .int
  | 2 => .int
  | 3 => .array (.object "EggSpoons$Runner")
  | 4 => .object "EggSpoons$Past"
  | 5 => .object "EggSpoons$Rows"
  | 6 => .object "EggSpoons$Rows"
  | _ => .object "EggSpoons$Rows"
abbrev wsX50 : List Cond := u_ws RX5 TX5 8
theorem nmX5 : ∀ a, a < 8 → ∀ b, b < 8 → a ≠ b → (TX5 a).2.1 ≠ (TX5 b).2.1 := by decide +kernel
theorem tyX5_ok : ∀ k, k < 8 → parseFieldDescriptor (TX5 k).2.2.1 = some (tyX5 k) := by decide +kernel
abbrev cX5_init : ByteArray := prog_7_method_1_code
def yX5_init : MethodName := ⟨RX5, "<init>", "()V"⟩
abbrev cX5_restart : ByteArray := prog_7_method_2_code
def yX5_restart : MethodName := ⟨RX5, "restart", "(I)V"⟩
abbrev cX5_welcome : ByteArray := prog_7_method_3_code
def yX5_welcome : MethodName := ⟨RX5, "welcome", "(III)V"⟩
abbrev cX5_copyLine : ByteArray := prog_7_method_4_code
def yX5_copyLine : MethodName := ⟨RX5, "copyLine", "(LEggSpoons$Race;)V"⟩
abbrev cX5_copyFrom : ByteArray := prog_7_method_5_code
def yX5_copyFrom : MethodName := ⟨RX5, "copyFrom", "(LEggSpoons$Race;)V"⟩
abbrev cX5_goOn : ByteArray := prog_7_method_6_code
def yX5_goOn : MethodName := ⟨RX5, "goOn", "()V"⟩
abbrev cX5_keep : ByteArray := prog_7_method_7_code
def yX5_keep : MethodName := ⟨RX5, "keep", "()V"⟩
abbrev cX5_takeBack : ByteArray := prog_7_method_8_code
def yX5_takeBack : MethodName := ⟨RX5, "takeBack", "()Z"⟩
abbrev cX5_homes : ByteArray := prog_7_method_9_code
def yX5_homes : MethodName := ⟨RX5, "homes", "()I"⟩
abbrev cX5_placesTogether : ByteArray := prog_7_method_10_code
def yX5_placesTogether : MethodName := ⟨RX5, "placesTogether", "()I"⟩
abbrev cX5_dropsTogether : ByteArray := prog_7_method_11_code
def yX5_dropsTogether : MethodName := ⟨RX5, "dropsTogether", "()I"⟩
abbrev cX5_legsThatFit : ByteArray := prog_7_method_12_code
def yX5_legsThatFit : MethodName := ⟨RX5, "legsThatFit", "(I)I"⟩
abbrev cX5_kindsThatFit : ByteArray := prog_7_method_13_code
def yX5_kindsThatFit : MethodName := ⟨RX5, "kindsThatFit", "(I)I"⟩
abbrev cX5_eggsThatFit : ByteArray := prog_7_method_14_code
def yX5_eggsThatFit : MethodName := ⟨RX5, "eggsThatFit", "(I)I"⟩
def RX6 : String := "EggSpoons$Reader"
def TX6 : u_T := fun k => match k with
  | 0 => ("EggSpoons$Reader", "bytes", "[I", true)
  | 1 => ("EggSpoons$Reader", "length", "I", false)
  | 2 => ("EggSpoons$Reader", "at", "I", false)
  | 3 => ("EggSpoons$Reader", "tokenAt", "I", false)
  | 4 => ("EggSpoons$Reader", "sort", "I", false)
  | 5 => ("EggSpoons$Reader", "value", "I", false)
  | _ => ("EggSpoons$Reader", "fault", "I", false)
def tyX6 : Nat → FieldType := fun k => match k with
  | 0 => .array .int
  | 1 => .int
  | 2 => .int
  | 3 => .int
  | 4 => .int
  | 5 => .int
  | _ => .int
abbrev wsX60 : List Cond := u_ws RX6 TX6 7
theorem nmX6 : ∀ a, a < 7 → ∀ b, b < 7 → a ≠ b → (TX6 a).2.1 ≠ (TX6 b).2.1 := by decide +kernel
theorem tyX6_ok : ∀ k, k < 7 → parseFieldDescriptor (TX6 k).2.2.1 = some (tyX6 k) := by decide +kernel
abbrev cX6_init : ByteArray := prog_8_method_1_code
def yX6_init : MethodName := ⟨RX6, "<init>", "()V"⟩
abbrev cX6_append : ByteArray := prog_8_method_2_code
def yX6_append : MethodName := ⟨RX6, "append", "(I)Z"⟩
abbrev cX6_takeRace : ByteArray := prog_8_method_3_code
def yX6_takeRace : MethodName := ⟨RX6, "takeRace", "(LEggSpoons$Race;)I"⟩
abbrev cX6_takeItem : ByteArray := prog_8_method_4_code
def yX6_takeItem : MethodName := ⟨RX6, "takeItem", "(LEggSpoons$Race;Z)V"⟩
abbrev cX6_takeLength : ByteArray := prog_8_method_5_code
def yX6_takeLength : MethodName := ⟨RX6, "takeLength", "(LEggSpoons$Race;)V"⟩
abbrev cX6_takeRunner : ByteArray := prog_8_method_6_code
def yX6_takeRunner : MethodName := ⟨RX6, "takeRunner", "(LEggSpoons$Race;)V"⟩
abbrev cX6_takeSpeed : ByteArray := prog_8_method_7_code
def yX6_takeSpeed : MethodName := ⟨RX6, "takeSpeed", "(LEggSpoons$Race;)V"⟩
abbrev cX6_takeStart : ByteArray := prog_8_method_8_code
def yX6_takeStart : MethodName := ⟨RX6, "takeStart", "(LEggSpoons$Race;)V"⟩
abbrev cX6_takeTicks : ByteArray := prog_8_method_9_code
def yX6_takeTicks : MethodName := ⟨RX6, "takeTicks", "(LEggSpoons$Race;)V"⟩
abbrev cX6_number : ByteArray := prog_8_method_10_code
def yX6_number : MethodName := ⟨RX6, "number", "(II)I"⟩
abbrev cX6_ended : ByteArray := prog_8_method_11_code
def yX6_ended : MethodName := ⟨RX6, "ended", "()Z"⟩
abbrev cX6_skipBlanks : ByteArray := prog_8_method_12_code
def yX6_skipBlanks : MethodName := ⟨RX6, "skipBlanks", "()V"⟩
abbrev cX6_nextToken : ByteArray := prog_8_method_13_code
def yX6_nextToken : MethodName := ⟨RX6, "nextToken", "()V"⟩
abbrev cX6_takeLetters : ByteArray := prog_8_method_14_code
def yX6_takeLetters : MethodName := ⟨RX6, "takeLetters", "()V"⟩
abbrev cX6_takeFigures : ByteArray := prog_8_method_15_code
def yX6_takeFigures : MethodName := ⟨RX6, "takeFigures", "()V"⟩
abbrev cX6_spells : ByteArray := prog_8_method_16_code
def yX6_spells : MethodName := ⟨RX6, "spells", "(Ljava/lang/String;)Z"⟩
abbrev cX6_isLetter : ByteArray := prog_8_method_17_code
def yX6_isLetter : MethodName := ⟨RX6, "isLetter", "(I)Z"⟩
abbrev cX6_isFigure : ByteArray := prog_8_method_18_code
def yX6_isFigure : MethodName := ⟨RX6, "isFigure", "(I)Z"⟩
def RX7 : String := "EggSpoons$Rows"
def TX7 : u_T := fun k => match k with
  | 0 => ("EggSpoons$Rows", "most", "I", true)
  | 1 => ("EggSpoons$Rows", "withLegs", "Z", true)
  | 2 => ("EggSpoons$Rows", "withSpeed", "Z", true)
  | 3 => ("EggSpoons$Rows", "cells", "[I", true)
  | _ => ("EggSpoons$Rows", "size", "I", false)
def tyX7 : Nat → FieldType := fun k => match k with
  | 0 => .int
  | 1 => .boolean
  | 2 => .boolean
  | 3 => .array .int
  | _ => .int
abbrev wsX70 : List Cond := u_ws RX7 TX7 5
theorem nmX7 : ∀ a, a < 5 → ∀ b, b < 5 → a ≠ b → (TX7 a).2.1 ≠ (TX7 b).2.1 := by decide +kernel
theorem tyX7_ok : ∀ k, k < 5 → parseFieldDescriptor (TX7 k).2.2.1 = some (tyX7 k) := by decide +kernel
abbrev cX7_init : ByteArray := prog_9_method_1_code
def yX7_init : MethodName := ⟨RX7, "<init>", "(IZZ)V"⟩
abbrev cX7_append : ByteArray := prog_9_method_2_code
def yX7_append : MethodName := ⟨RX7, "append", "(IIIII)Z"⟩
abbrev cX7_copyFrom : ByteArray := prog_9_method_3_code
def yX7_copyFrom : MethodName := ⟨RX7, "copyFrom", "(LEggSpoons$Rows;)V"⟩
abbrev cX7_fitRunner : ByteArray := prog_9_method_4_code
def yX7_fitRunner : MethodName := ⟨RX7, "fitRunner", "(III)Z"⟩
abbrev cX7_fitEgg : ByteArray := prog_9_method_5_code
def yX7_fitEgg : MethodName := ⟨RX7, "fitEgg", "(II)Z"⟩
abbrev cX7_mixInto : ByteArray := prog_9_method_6_code
def yX7_mixInto : MethodName := ⟨RX7, "mixInto", "(J)J"⟩
def RX8 : String := "EggSpoons$Runner"
def TX8 : u_T := fun k => match k with
  | 0 => ("EggSpoons$Runner", "kind", "I", false)
  | 1 => ("EggSpoons$Runner", "legs", "I", false)
  | 2 => ("EggSpoons$Runner", "egg", "I", false)
  | 3 => ("EggSpoons$Runner", "speed", "I", false)
  | 4 => ("EggSpoons$Runner", "place", "I", false)
  | 5 => ("EggSpoons$Runner", "drops", "I", false)
  | 6 => ("EggSpoons$Runner", "waits", "I", false)
  | _ => ("EggSpoons$Runner", "homeAt", "I", false)
def tyX8 : Nat → FieldType := fun k => match k with
  | 0 => .int
  | 1 => .int
  | 2 => .int
  | 3 => .int
  | 4 => .int
  | 5 => .int
  | 6 => .int
  | _ => .int
abbrev wsX80 : List Cond := u_ws RX8 TX8 8
theorem nmX8 : ∀ a, a < 8 → ∀ b, b < 8 → a ≠ b → (TX8 a).2.1 ≠ (TX8 b).2.1 := by decide +kernel
theorem tyX8_ok : ∀ k, k < 8 → parseFieldDescriptor (TX8 k).2.2.1 = some (tyX8 k) := by decide +kernel
abbrev cX8_init : ByteArray := prog_10_method_1_code
def yX8_init : MethodName := ⟨RX8, "<init>", "()V"⟩
abbrev cX8_begin : ByteArray := prog_10_method_2_code
def yX8_begin : MethodName := ⟨RX8, "begin", "(III)V"⟩
abbrev cX8_copyFrom : ByteArray := prog_10_method_3_code
def yX8_copyFrom : MethodName := ⟨RX8, "copyFrom", "(LEggSpoons$Runner;)V"⟩
abbrev cX8_isHome : ByteArray := prog_10_method_4_code
def yX8_isHome : MethodName := ⟨RX8, "isHome", "()Z"⟩
abbrev cX8_fact : ByteArray := prog_10_method_5_code
def yX8_fact : MethodName := ⟨RX8, "fact", "(II)I"⟩
abbrev cX8_step : ByteArray := prog_10_method_6_code
def yX8_step : MethodName := ⟨RX8, "step", "(II)V"⟩
abbrev cX8_ticksToHome : ByteArray := prog_10_method_7_code
def yX8_ticksToHome : MethodName := ⟨RX8, "ticksToHome", "(III)I"⟩
abbrev cX8_placeBehind : ByteArray := prog_10_method_8_code
def yX8_placeBehind : MethodName := ⟨RX8, "placeBehind", "(III)I"⟩
def RX9 : String := "EggSpoons$Tally"
def TX9 : u_T := fun k => match k with
  | 0 => ("EggSpoons$Tally", "counts", "[I", true)
  | _ => ("EggSpoons$Tally", "most", "I", false)
def tyX9 : Nat → FieldType := fun k => match k with
  | 0 => .array .int
  | _ => .int
abbrev wsX90 : List Cond := u_ws RX9 TX9 2
theorem nmX9 : ∀ a, a < 2 → ∀ b, b < 2 → a ≠ b → (TX9 a).2.1 ≠ (TX9 b).2.1 := by decide +kernel
theorem tyX9_ok : ∀ k, k < 2 → parseFieldDescriptor (TX9 k).2.2.1 = some (tyX9 k) := by decide +kernel
abbrev cX9_init : ByteArray := prog_11_method_1_code
def yX9_init : MethodName := ⟨RX9, "<init>", "()V"⟩
abbrev cX9_restart : ByteArray := prog_11_method_2_code
def yX9_restart : MethodName := ⟨RX9, "restart", "()V"⟩
abbrev cX9_see : ByteArray := prog_11_method_3_code
def yX9_see : MethodName := ⟨RX9, "see", "(I)V"⟩
def RX10 : String := "EggSpoons"
def TX10 : u_T := fun k => match k with
  | 0 => ("EggSpoons", "now", "LEggSpoons$Race;", false)
  | 1 => ("EggSpoons", "spare", "LEggSpoons$Race;", false)
  | 2 => ("EggSpoons", "images", "[LEggSpoons$Race;", true)
  | 3 => ("EggSpoons", "imageKept", "[Z", true)
  | 4 => ("EggSpoons", "reader", "LEggSpoons$Reader;", true)
  | 5 => ("EggSpoons", "refused", "[I", true)
  | 6 => ("EggSpoons", "above", "J", false)
  | 7 => ("EggSpoons", "below", "J", false)
  | 8 => ("EggSpoons", "ghost", "LEggSpoons$Runner;", true)
  | 9 => ("EggSpoons", "rival", "LEggSpoons$Runner;", true)
  | 10 => ("EggSpoons", "tally", "LEggSpoons$Tally;", true)
  | 11 => ("EggSpoons", "odds", "LEggSpoons$Odds;", true)
  | 12 => ("EggSpoons", "duel", "LEggSpoons$Duel;", true)
  | _ => ("EggSpoons", "ranks", "[I", true)
def tyX10 : Nat → FieldType := fun k => match k with
  | 0 => .object "EggSpoons$Race"
  | 1 => .object "EggSpoons$Race"
  | 2 => .array (.object "EggSpoons$Race")
  | 3 => .array .boolean
  | 4 => .object "EggSpoons$Reader"
  | 5 => .array .int
  | 6 => .long
  | 7 => .long
  | 8 => .object "EggSpoons$Runner"
  | 9 => .object "EggSpoons$Runner"
  | 10 => .object "EggSpoons$Tally"
  | 11 => .object "EggSpoons$Odds"
  | 12 => .object "EggSpoons$Duel"
  | _ => .array .int
abbrev wsX100 : List Cond := u_ws RX10 TX10 14
theorem nmX10 : ∀ a, a < 14 → ∀ b, b < 14 → a ≠ b → (TX10 a).2.1 ≠ (TX10 b).2.1 := by decide +kernel
theorem tyX10_ok : ∀ k, k < 14 → parseFieldDescriptor (TX10 k).2.2.1 = some (tyX10 k) := by decide +kernel
abbrev cX10_init : ByteArray := prog_1_method_1_code
def yX10_init : MethodName := ⟨RX10, "<init>", "()V"⟩
abbrev cX10_race : ByteArray := prog_1_method_2_code
def yX10_race : MethodName := ⟨RX10, "race", "(I)I"⟩
abbrev cX10_one : ByteArray := prog_1_method_3_code
def yX10_one : MethodName := ⟨RX10, "one", "(III)I"⟩
abbrev cX10_type : ByteArray := prog_1_method_4_code
def yX10_type : MethodName := ⟨RX10, "type", "(I)I"⟩
abbrev cX10_clear : ByteArray := prog_1_method_5_code
def yX10_clear : MethodName := ⟨RX10, "clear", "()I"⟩
abbrev cX10_read : ByteArray := prog_1_method_6_code
def yX10_read : MethodName := ⟨RX10, "read", "()I"⟩
abbrev cX10_ticks : ByteArray := prog_1_method_7_code
def yX10_ticks : MethodName := ⟨RX10, "ticks", "(I)I"⟩
abbrev cX10_speed : ByteArray := prog_1_method_8_code
def yX10_speed : MethodName := ⟨RX10, "speed", "(II)I"⟩
abbrev cX10_start : ByteArray := prog_1_method_9_code
def yX10_start : MethodName := ⟨RX10, "start", "(II)I"⟩
abbrev cX10_undo : ByteArray := prog_1_method_10_code
def yX10_undo : MethodName := ⟨RX10, "undo", "()I"⟩
abbrev cX10_of : ByteArray := prog_1_method_11_code
def yX10_of : MethodName := ⟨RX10, "of", "(II)I"⟩
abbrev cX10_where : ByteArray := prog_1_method_12_code
def yX10_where : MethodName := ⟨RX10, "where", "(II)I"⟩
abbrev cX10_home : ByteArray := prog_1_method_13_code
def yX10_home : MethodName := ⟨RX10, "home", "(I)I"⟩
abbrev cX10_first : ByteArray := prog_1_method_14_code
def yX10_first : MethodName := ⟨RX10, "first", "()I"⟩
abbrev cX10_order : ByteArray := prog_1_method_15_code
def yX10_order : MethodName := ⟨RX10, "order", "(I)I"⟩
abbrev cX10_best : ByteArray := prog_1_method_16_code
def yX10_best : MethodName := ⟨RX10, "best", "(II)I"⟩
abbrev cX10_turn : ByteArray := prog_1_method_17_code
def yX10_turn : MethodName := ⟨RX10, "turn", "(III)I"⟩
abbrev cX10_beats : ByteArray := prog_1_method_18_code
def yX10_beats : MethodName := ⟨RX10, "beats", "(II)I"⟩
abbrev cX10_close : ByteArray := prog_1_method_19_code
def yX10_close : MethodName := ⟨RX10, "close", "(III)I"⟩
abbrev cX10_seen : ByteArray := prog_1_method_20_code
def yX10_seen : MethodName := ⟨RX10, "seen", "(IIII)I"⟩
abbrev cX10_strong : ByteArray := prog_1_method_21_code
def yX10_strong : MethodName := ⟨RX10, "strong", "(II)I"⟩
abbrev cX10_tell : ByteArray := prog_1_method_22_code
def yX10_tell : MethodName := ⟨RX10, "tell", "(I)I"⟩
abbrev cX10_note : ByteArray := prog_1_method_23_code
def yX10_note : MethodName := ⟨RX10, "note", "(IIIII)I"⟩
abbrev cX10_mark : ByteArray := prog_1_method_24_code
def yX10_mark : MethodName := ⟨RX10, "mark", "(III)I"⟩
abbrev cX10_forget : ByteArray := prog_1_method_25_code
def yX10_forget : MethodName := ⟨RX10, "forget", "(I)I"⟩
abbrev cX10_is : ByteArray := prog_1_method_26_code
def yX10_is : MethodName := ⟨RX10, "is", "(I)I"⟩
abbrev cX10_look : ByteArray := prog_1_method_27_code
def yX10_look : MethodName := ⟨RX10, "look", "(I)I"⟩
abbrev cX10_kinds : ByteArray := prog_1_method_28_code
def yX10_kinds : MethodName := ⟨RX10, "kinds", "(I)I"⟩
abbrev cX10_ask : ByteArray := prog_1_method_29_code
def yX10_ask : MethodName := ⟨RX10, "ask", "(I)I"⟩
abbrev cX10_pair : ByteArray := prog_1_method_30_code
def yX10_pair : MethodName := ⟨RX10, "pair", "(III)I"⟩
abbrev cX10_stumble : ByteArray := prog_1_method_31_code
def yX10_stumble : MethodName := ⟨RX10, "stumble", "(IIII)I"⟩
abbrev cX10_races : ByteArray := prog_1_method_32_code
def yX10_races : MethodName := ⟨RX10, "races", "(II)I"⟩
abbrev cX10_part : ByteArray := prog_1_method_33_code
def yX10_part : MethodName := ⟨RX10, "part", "(I)J"⟩
abbrev cX10_image : ByteArray := prog_1_method_34_code
def yX10_image : MethodName := ⟨RX10, "image", "(I)I"⟩
abbrev cX10_from : ByteArray := prog_1_method_35_code
def yX10_from : MethodName := ⟨RX10, "from", "(I)I"⟩
abbrev cX10_status : ByteArray := prog_1_method_36_code
def yX10_status : MethodName := ⟨RX10, "status", "(I)I"⟩
abbrev cX10_count : ByteArray := prog_1_method_37_code
def yX10_count : MethodName := ⟨RX10, "count", "(I)I"⟩
abbrev cX10_digest : ByteArray := prog_1_method_38_code
def yX10_digest : MethodName := ⟨RX10, "digest", "()J"⟩
abbrev cX10_within : ByteArray := prog_1_method_39_code
def yX10_within : MethodName := ⟨RX10, "within", "(III)Z"⟩
abbrev cX10_hasBit : ByteArray := prog_1_method_40_code
def yX10_hasBit : MethodName := ⟨RX10, "hasBit", "(II)Z"⟩
abbrev cX10_there : ByteArray := prog_1_method_41_code
def yX10_there : MethodName := ⟨RX10, "there", "(I)Z"⟩
abbrev cX10_areTwo : ByteArray := prog_1_method_42_code
def yX10_areTwo : MethodName := ⟨RX10, "areTwo", "(II)Z"⟩
abbrev cX10_refuse : ByteArray := prog_1_method_43_code
def yX10_refuse : MethodName := ⟨RX10, "refuse", "(I)I"⟩
abbrev cX10_homeBehind : ByteArray := prog_1_method_44_code
def yX10_homeBehind : MethodName := ⟨RX10, "homeBehind", "(II)I"⟩
abbrev cX10_homeTurning : ByteArray := prog_1_method_45_code
def yX10_homeTurning : MethodName := ⟨RX10, "homeTurning", "(IIII)I"⟩
abbrev cX10_rankAll : ByteArray := prog_1_method_46_code
def yX10_rankAll : MethodName := ⟨RX10, "rankAll", "()V"⟩
abbrev cX10_aheadOf : ByteArray := prog_1_method_47_code
def yX10_aheadOf : MethodName := ⟨RX10, "aheadOf", "(I)I"⟩
abbrev cX10_nextLook : ByteArray := prog_1_method_48_code
def yX10_nextLook : MethodName := ⟨RX10, "nextLook", "(LEggSpoons$Runner;III)I"⟩
abbrev cX10_mostAlike : ByteArray := prog_1_method_49_code
def yX10_mostAlike : MethodName := ⟨RX10, "mostAlike", "(LEggSpoons$Runner;III)I"⟩
abbrev cX10_farBy : ByteArray := prog_1_method_50_code
def yX10_farBy : MethodName := ⟨RX10, "farBy", "(LEggSpoons$Runner;III)I"⟩
abbrev cX10_placeBehindFive : ByteArray := prog_1_method_51_code
def yX10_placeBehindFive : MethodName := ⟨RX10, "placeBehindFive", "(II)I"⟩
def RX11 : String := "EggSpoonsModel"
def TX11 : u_T := fun k => match k with
  | 0 => ("EggSpoonsModel", "all", "[I", true)
  | 1 => ("EggSpoonsModel", "kept", "[I", true)
  | 2 => ("EggSpoonsModel", "isKept", "[Z", true)
  | 3 => ("EggSpoonsModel", "refused", "[I", true)
  | 4 => ("EggSpoonsModel", "above", "J", false)
  | 5 => ("EggSpoonsModel", "below", "J", false)
  | 6 => ("EggSpoonsModel", "hand", "[I", true)
  | 7 => ("EggSpoonsModel", "goesBy", "[I", true)
  | 8 => ("EggSpoonsModel", "tells", "[I", true)
  | 9 => ("EggSpoonsModel", "behindBy", "[I", true)
  | 10 => ("EggSpoonsModel", "bytes", "[I", true)
  | 11 => ("EggSpoonsModel", "bytesLong", "I", false)
  | 12 => ("EggSpoonsModel", "tokenAt", "I", false)
  | 13 => ("EggSpoonsModel", "tokenLong", "I", false)
  | 14 => ("EggSpoonsModel", "token", "I", false)
  | 15 => ("EggSpoonsModel", "value", "I", false)
  | 16 => ("EggSpoonsModel", "anew", "[I", true)
  | _ => ("EggSpoonsModel", "values", "[I", true)
def tyX11 : Nat → FieldType := fun k => match k with
  | 0 => .array .int
  | 1 => .array .int
  | 2 => .array .boolean
  | 3 => .array .int
  | 4 => .long
  | 5 => .long
  | 6 => .array .int
  | 7 => .array .int
  | 8 => .array .int
  | 9 => .array .int
  | 10 => .array .int
  | 11 => .int
  | 12 => .int
  | 13 => .int
  | 14 => .int
  | 15 => .int
  | 16 => .array .int
  | _ => .array .int
abbrev wsX110 : List Cond := u_ws RX11 TX11 18
theorem nmX11 : ∀ a, a < 18 → ∀ b, b < 18 → a ≠ b → (TX11 a).2.1 ≠ (TX11 b).2.1 := by decide +kernel
theorem tyX11_ok : ∀ k, k < 18 → parseFieldDescriptor (TX11 k).2.2.1 = some (tyX11 k) := by decide +kernel
abbrev cX11_init : ByteArray := prog_13_method_1_code
def yX11_init : MethodName := ⟨RX11, "<init>", "()V"⟩
abbrev cX11_in : ByteArray := prog_13_method_3_code
def yX11_in : MethodName := ⟨RX11, "in", "(JJJ)Z"⟩
abbrev cX11_bad : ByteArray := prog_13_method_4_code
def yX11_bad : MethodName := ⟨RX11, "bad", "(I)I"⟩
abbrev cX11_no : ByteArray := prog_13_method_5_code
def yX11_no : MethodName := ⟨RX11, "no", "()I"⟩
abbrev cX11_full : ByteArray := prog_13_method_6_code
def yX11_full : MethodName := ⟨RX11, "full", "()I"⟩
abbrev cX11_has : ByteArray := prog_13_method_7_code
def yX11_has : MethodName := ⟨RX11, "has", "(II)Z"⟩
abbrev cX11_begin : ByteArray := prog_13_method_8_code
def yX11_begin : MethodName := ⟨RX11, "begin", "([II)V"⟩
abbrev cX11_many : ByteArray := prog_13_method_9_code
def yX11_many : MethodName := ⟨RX11, "many", "()I"⟩
abbrev cX11_isOne : ByteArray := prog_13_method_10_code
def yX11_isOne : MethodName := ⟨RX11, "isOne", "(I)Z"⟩
abbrev cX11_isKind : ByteArray := prog_13_method_11_code
def yX11_isKind : MethodName := ⟨RX11, "isKind", "(I)Z"⟩
abbrev cX11_isLegs : ByteArray := prog_13_method_12_code
def yX11_isLegs : MethodName := ⟨RX11, "isLegs", "(I)Z"⟩
abbrev cX11_isSpeed : ByteArray := prog_13_method_13_code
def yX11_isSpeed : MethodName := ⟨RX11, "isSpeed", "(I)Z"⟩
abbrev cX11_race : ByteArray := prog_13_method_14_code
def yX11_race : MethodName := ⟨RX11, "race", "(I)I"⟩
abbrev cX11_layOne : ByteArray := prog_13_method_15_code
def yX11_layOne : MethodName := ⟨RX11, "layOne", "([IIII)V"⟩
abbrev cX11_one : ByteArray := prog_13_method_16_code
def yX11_one : MethodName := ⟨RX11, "one", "(III)I"⟩
abbrev cX11_runsAs : ByteArray := prog_13_method_17_code
def yX11_runsAs : MethodName := ⟨RX11, "runsAs", "(IIII)I"⟩
abbrev cX11_mayAs : ByteArray := prog_13_method_18_code
def yX11_mayAs : MethodName := ⟨RX11, "mayAs", "(II)I"⟩
abbrev cX11_runsOf : ByteArray := prog_13_method_19_code
def yX11_runsOf : MethodName := ⟨RX11, "runsOf", "([III)I"⟩
abbrev cX11_isHome : ByteArray := prog_13_method_20_code
def yX11_isHome : MethodName := ⟨RX11, "isHome", "([II)Z"⟩
abbrev cX11_drop : ByteArray := prog_13_method_21_code
def yX11_drop : MethodName := ⟨RX11, "drop", "([II)V"⟩
abbrev cX11_goOne : ByteArray := prog_13_method_22_code
def yX11_goOne : MethodName := ⟨RX11, "goOne", "([IIZ)V"⟩
abbrev cX11_goTick : ByteArray := prog_13_method_23_code
def yX11_goTick : MethodName := ⟨RX11, "goTick", "([I)V"⟩
abbrev cX11_goTicks : ByteArray := prog_13_method_24_code
def yX11_goTicks : MethodName := ⟨RX11, "goTicks", "([II)V"⟩
abbrev cX11_manyHome : ByteArray := prog_13_method_25_code
def yX11_manyHome : MethodName := ⟨RX11, "manyHome", "([I)I"⟩
abbrev cX11_save : ByteArray := prog_13_method_26_code
def yX11_save : MethodName := ⟨RX11, "save", "()V"⟩
abbrev cX11_ticks : ByteArray := prog_13_method_27_code
def yX11_ticks : MethodName := ⟨RX11, "ticks", "(I)I"⟩
abbrev cX11_speed : ByteArray := prog_13_method_28_code
def yX11_speed : MethodName := ⟨RX11, "speed", "(II)I"⟩
abbrev cX11_start : ByteArray := prog_13_method_29_code
def yX11_start : MethodName := ⟨RX11, "start", "(II)I"⟩
abbrev cX11_undo : ByteArray := prog_13_method_30_code
def yX11_undo : MethodName := ⟨RX11, "undo", "()I"⟩
abbrev cX11_toldOf : ByteArray := prog_13_method_31_code
def yX11_toldOf : MethodName := ⟨RX11, "toldOf", "(II)I"⟩
abbrev cX11_of : ByteArray := prog_13_method_32_code
def yX11_of : MethodName := ⟨RX11, "of", "(II)I"⟩
abbrev cX11_layHand : ByteArray := prog_13_method_33_code
def yX11_layHand : MethodName := ⟨RX11, "layHand", "()V"⟩
abbrev cX11_goAhead : ByteArray := prog_13_method_34_code
def yX11_goAhead : MethodName := ⟨RX11, "goAhead", "(I)V"⟩
abbrev cX11_where : ByteArray := prog_13_method_35_code
def yX11_where : MethodName := ⟨RX11, "where", "(II)I"⟩
abbrev cX11_homeAtHand : ByteArray := prog_13_method_36_code
def yX11_homeAtHand : MethodName := ⟨RX11, "homeAtHand", "(II)I"⟩
abbrev cX11_homeOf : ByteArray := prog_13_method_37_code
def yX11_homeOf : MethodName := ⟨RX11, "homeOf", "(I)I"⟩
abbrev cX11_home : ByteArray := prog_13_method_38_code
def yX11_home : MethodName := ⟨RX11, "home", "(I)I"⟩
abbrev cX11_first : ByteArray := prog_13_method_39_code
def yX11_first : MethodName := ⟨RX11, "first", "()I"⟩
abbrev cX11_order : ByteArray := prog_13_method_40_code
def yX11_order : MethodName := ⟨RX11, "order", "(I)I"⟩
abbrev cX11_best : ByteArray := prog_13_method_41_code
def yX11_best : MethodName := ⟨RX11, "best", "(II)I"⟩
abbrev cX11_turn : ByteArray := prog_13_method_42_code
def yX11_turn : MethodName := ⟨RX11, "turn", "(III)I"⟩
abbrev cX11_beats : ByteArray := prog_13_method_43_code
def yX11_beats : MethodName := ⟨RX11, "beats", "(II)I"⟩
abbrev cX11_close : ByteArray := prog_13_method_44_code
def yX11_close : MethodName := ⟨RX11, "close", "(III)I"⟩
abbrev cX11_seen : ByteArray := prog_13_method_45_code
def yX11_seen : MethodName := ⟨RX11, "seen", "(IIII)I"⟩
abbrev cX11_legsOf : ByteArray := prog_13_method_46_code
def yX11_legsOf : MethodName := ⟨RX11, "legsOf", "(I)I"⟩
abbrev cX11_strong : ByteArray := prog_13_method_47_code
def yX11_strong : MethodName := ⟨RX11, "strong", "(II)I"⟩
abbrev cX11_mostAlike : ByteArray := prog_13_method_48_code
def yX11_mostAlike : MethodName := ⟨RX11, "mostAlike", "(I)I"⟩
abbrev cX11_tell : ByteArray := prog_13_method_49_code
def yX11_tell : MethodName := ⟨RX11, "tell", "(I)I"⟩
abbrev cX11_note : ByteArray := prog_13_method_50_code
def yX11_note : MethodName := ⟨RX11, "note", "(IIIII)I"⟩
abbrev cX11_mark : ByteArray := prog_13_method_51_code
def yX11_mark : MethodName := ⟨RX11, "mark", "(III)I"⟩
abbrev cX11_forget : ByteArray := prog_13_method_52_code
def yX11_forget : MethodName := ⟨RX11, "forget", "(I)I"⟩
abbrev cX11_kindsOfOne : ByteArray := prog_13_method_53_code
def yX11_kindsOfOne : MethodName := ⟨RX11, "kindsOfOne", "(I)I"⟩
abbrev cX11_kindsOfEgg : ByteArray := prog_13_method_54_code
def yX11_kindsOfEgg : MethodName := ⟨RX11, "kindsOfEgg", "(I)I"⟩
abbrev cX11_is : ByteArray := prog_13_method_55_code
def yX11_is : MethodName := ⟨RX11, "is", "(I)I"⟩
abbrev cX11_look : ByteArray := prog_13_method_56_code
def yX11_look : MethodName := ⟨RX11, "look", "(I)I"⟩
abbrev cX11_kinds : ByteArray := prog_13_method_57_code
def yX11_kinds : MethodName := ⟨RX11, "kinds", "(I)I"⟩
abbrev cX11_ask : ByteArray := prog_13_method_58_code
def yX11_ask : MethodName := ⟨RX11, "ask", "(I)I"⟩
abbrev cX11_getsBy : ByteArray := prog_13_method_59_code
def yX11_getsBy : MethodName := ⟨RX11, "getsBy", "(III)I"⟩
abbrev cX11_rests : ByteArray := prog_13_method_60_code
def yX11_rests : MethodName := ⟨RX11, "rests", "(IIII)Z"⟩
abbrev cX11_pair : ByteArray := prog_13_method_61_code
def yX11_pair : MethodName := ⟨RX11, "pair", "(III)I"⟩
abbrev cX11_fraction : ByteArray := prog_13_method_62_code
def yX11_fraction : MethodName := ⟨RX11, "fraction", "(JJ)V"⟩
abbrev cX11_stumble : ByteArray := prog_13_method_63_code
def yX11_stumble : MethodName := ⟨RX11, "stumble", "(IIII)I"⟩
abbrev cX11_races : ByteArray := prog_13_method_64_code
def yX11_races : MethodName := ⟨RX11, "races", "(II)I"⟩
abbrev cX11_type : ByteArray := prog_13_method_65_code
def yX11_type : MethodName := ⟨RX11, "type", "(I)I"⟩
abbrev cX11_clear : ByteArray := prog_13_method_66_code
def yX11_clear : MethodName := ⟨RX11, "clear", "()I"⟩
abbrev cX11_isSmall : ByteArray := prog_13_method_67_code
def yX11_isSmall : MethodName := ⟨RX11, "isSmall", "(I)Z"⟩
abbrev cX11_isFigure : ByteArray := prog_13_method_68_code
def yX11_isFigure : MethodName := ⟨RX11, "isFigure", "(I)Z"⟩
abbrev cX11_lookAt : ByteArray := prog_13_method_69_code
def yX11_lookAt : MethodName := ⟨RX11, "lookAt", "(I)V"⟩
abbrev cX11_goBehind : ByteArray := prog_13_method_70_code
def yX11_goBehind : MethodName := ⟨RX11, "goBehind", "()V"⟩
abbrev cX11_spells : ByteArray := prog_13_method_71_code
def yX11_spells : MethodName := ⟨RX11, "spells", "(IIIIIII)Z"⟩
abbrev cX11_takes : ByteArray := prog_13_method_72_code
def yX11_takes : MethodName := ⟨RX11, "takes", "(III)Z"⟩
abbrev cX11_takesOne : ByteArray := prog_13_method_73_code
def yX11_takesOne : MethodName := ⟨RX11, "takesOne", "()Z"⟩
abbrev cX11_takesSpeed : ByteArray := prog_13_method_74_code
def yX11_takesSpeed : MethodName := ⟨RX11, "takesSpeed", "()Z"⟩
abbrev cX11_takesStart : ByteArray := prog_13_method_75_code
def yX11_takesStart : MethodName := ⟨RX11, "takesStart", "()Z"⟩
abbrev cX11_takesGo : ByteArray := prog_13_method_76_code
def yX11_takesGo : MethodName := ⟨RX11, "takesGo", "()Z"⟩
abbrev cX11_takesItem : ByteArray := prog_13_method_77_code
def yX11_takesItem : MethodName := ⟨RX11, "takesItem", "()Z"⟩
abbrev cX11_read : ByteArray := prog_13_method_78_code
def yX11_read : MethodName := ⟨RX11, "read", "()I"⟩
abbrev cX11_part : ByteArray := prog_13_method_79_code
def yX11_part : MethodName := ⟨RX11, "part", "(I)J"⟩
abbrev cX11_image : ByteArray := prog_13_method_80_code
def yX11_image : MethodName := ⟨RX11, "image", "(I)I"⟩
abbrev cX11_from : ByteArray := prog_13_method_81_code
def yX11_from : MethodName := ⟨RX11, "from", "(I)I"⟩
abbrev cX11_status : ByteArray := prog_13_method_82_code
def yX11_status : MethodName := ⟨RX11, "status", "(I)I"⟩
abbrev cX11_sumOf : ByteArray := prog_13_method_83_code
def yX11_sumOf : MethodName := ⟨RX11, "sumOf", "(I)I"⟩
abbrev cX11_counted : ByteArray := prog_13_method_84_code
def yX11_counted : MethodName := ⟨RX11, "counted", "(I)I"⟩
abbrev cX11_count : ByteArray := prog_13_method_85_code
def yX11_count : MethodName := ⟨RX11, "count", "(I)I"⟩
abbrev cX11_sums : ByteArray := prog_13_method_86_code
def yX11_sums : MethodName := ⟨RX11, "sums", "(JII)J"⟩
abbrev cX11_digest : ByteArray := prog_13_method_87_code
def yX11_digest : MethodName := ⟨RX11, "digest", "()J"⟩
def RJ6 : String := "java/lang/Integer"
def TJ6 : u_T := fun k => match k with
  | _ => ("", "", "", false)
def tyJ6 : Nat → FieldType := fun k => match k with
  | _ => .int
abbrev wsJ60 : List Cond := u_ws RJ6 TJ6 0
theorem nmJ6 : ∀ a, a < 0 → ∀ b, b < 0 → a ≠ b → (TJ6 a).2.1 ≠ (TJ6 b).2.1 := by decide +kernel
theorem tyJ6_ok : ∀ k, k < 0 → parseFieldDescriptor (TJ6 k).2.2.1 = some (tyJ6 k) := by decide +kernel
abbrev cJ6_bitCount_0f7a4 : ByteArray := prog_14_method_49_code
def yJ6_bitCount_0f7a4 : MethodName := ⟨RJ6, "bitCount", "(I)I"⟩
def RJ9 : String := "java/lang/Math"
def TJ9 : u_T := fun k => match k with
  | _ => ("", "", "", false)
def tyJ9 : Nat → FieldType := fun k => match k with
  | _ => .int
abbrev wsJ90 : List Cond := u_ws RJ9 TJ9 0
theorem nmJ9 : ∀ a, a < 0 → ∀ b, b < 0 → a ≠ b → (TJ9 a).2.1 ≠ (TJ9 b).2.1 := by decide +kernel
theorem tyJ9_ok : ∀ k, k < 0 → parseFieldDescriptor (TJ9 k).2.2.1 = some (tyJ9 k) := by decide +kernel
abbrev cJ9_abs_0f7a4 : ByteArray := prog_15_method_59_code
def yJ9_abs_0f7a4 : MethodName := ⟨RJ9, "abs", "(I)I"⟩
abbrev cJ9_max_7cf53 : ByteArray := prog_15_method_65_code
def yJ9_max_7cf53 : MethodName := ⟨RJ9, "max", "(II)I"⟩
abbrev cJ9_min_7cf53 : ByteArray := prog_15_method_69_code
def yJ9_min_7cf53 : MethodName := ⟨RJ9, "min", "(II)I"⟩
def RJ0 : String := "java/lang/String"
def TJ0 : u_T := fun k => match k with
  | _ => ("", "", "", false)
def tyJ0 : Nat → FieldType := fun k => match k with
  | _ => .int
abbrev wsJ00 : List Cond := u_ws RJ0 TJ0 0
theorem nmJ0 : ∀ a, a < 0 → ∀ b, b < 0 → a ≠ b → (TJ0 a).2.1 ≠ (TJ0 b).2.1 := by decide +kernel
theorem tyJ0_ok : ∀ k, k < 0 → parseFieldDescriptor (TJ0 k).2.2.1 = some (tyJ0 k) := by decide +kernel
abbrev cJ0_length_8abf5 : ByteArray := prog_16_method_54_code
def yJ0_length_8abf5 : MethodName := ⟨RJ0, "length", "()I"⟩
abbrev cJ0_charAt_5068e : ByteArray := prog_16_method_56_code
def yJ0_charAt_5068e : MethodName := ⟨RJ0, "charAt", "(I)C"⟩
abbrev cJ0_coder_7d493 : ByteArray := prog_16_method_152_code
def yJ0_coder_7d493 : MethodName := ⟨RJ0, "coder", "()B"⟩
abbrev cJ0_isLatin1_aae02 : ByteArray := prog_16_method_154_code
def yJ0_isLatin1_aae02 : MethodName := ⟨RJ0, "isLatin1", "()Z"⟩
abbrev cJ0_checkIndex_df160 : ByteArray := prog_16_method_155_code
def yJ0_checkIndex_df160 : MethodName := ⟨RJ0, "checkIndex", "(II)V"⟩
def RJ1 : String := "java/lang/StringLatin1"
def TJ1 : u_T := fun k => match k with
  | _ => ("", "", "", false)
def tyJ1 : Nat → FieldType := fun k => match k with
  | _ => .int
abbrev wsJ10 : List Cond := u_ws RJ1 TJ1 0
theorem nmJ1 : ∀ a, a < 0 → ∀ b, b < 0 → a ≠ b → (TJ1 a).2.1 ≠ (TJ1 b).2.1 := by decide +kernel
theorem tyJ1_ok : ∀ k, k < 0 → parseFieldDescriptor (TJ1 k).2.2.1 = some (tyJ1 k) := by decide +kernel
abbrev cJ1_charAt_3b067 : ByteArray := prog_17_method_2_code
def yJ1_charAt_3b067 : MethodName := ⟨RJ1, "charAt", "([BI)C"⟩
def RJ2 : String := "java/lang/StringUTF16"
def TJ2 : u_T := fun k => match k with
  | _ => ("", "", "", false)
def tyJ2 : Nat → FieldType := fun k => match k with
  | _ => .int
abbrev wsJ20 : List Cond := u_ws RJ2 TJ2 0
theorem nmJ2 : ∀ a, a < 0 → ∀ b, b < 0 → a ≠ b → (TJ2 a).2.1 ≠ (TJ2 b).2.1 := by decide +kernel
theorem tyJ2_ok : ∀ k, k < 0 → parseFieldDescriptor (TJ2 k).2.2.1 = some (tyJ2 k) := by decide +kernel
abbrev cJ2_getChar_3b067 : ByteArray := prog_18_method_5_code
def yJ2_getChar_3b067 : MethodName := ⟨RJ2, "getChar", "([BI)C"⟩
abbrev cJ2_length_9d52b : ByteArray := prog_18_method_6_code
def yJ2_length_9d52b : MethodName := ⟨RJ2, "length", "([B)I"⟩
abbrev cJ2_charAt_3b067 : ByteArray := prog_18_method_83_code
def yJ2_charAt_3b067 : MethodName := ⟨RJ2, "charAt", "([BI)C"⟩
abbrev cJ2_checkIndex_2214a : ByteArray := prog_18_method_91_code
def yJ2_checkIndex_2214a : MethodName := ⟨RJ2, "checkIndex", "(I[B)V"⟩
def RJ10 : String := "java/lang/System"
def TJ10 : u_T := fun k => match k with
  | _ => ("", "", "", false)
def tyJ10 : Nat → FieldType := fun k => match k with
  | _ => .int
abbrev wsJ100 : List Cond := u_ws RJ10 TJ10 0
theorem nmJ10 : ∀ a, a < 0 → ∀ b, b < 0 → a ≠ b → (TJ10 a).2.1 ≠ (TJ10 b).2.1 := by decide +kernel
theorem tyJ10_ok : ∀ k, k < 0 → parseFieldDescriptor (TJ10 k).2.2.1 = some (tyJ10 k) := by decide +kernel
def RJ3 : String := "jdk/internal/util/Preconditions"
def TJ3 : u_T := fun k => match k with
  | _ => ("", "", "", false)
def tyJ3 : Nat → FieldType := fun k => match k with
  | _ => .int
abbrev wsJ30 : List Cond := u_ws RJ3 TJ3 0
theorem nmJ3 : ∀ a, a < 0 → ∀ b, b < 0 → a ≠ b → (TJ3 a).2.1 ≠ (TJ3 b).2.1 := by decide +kernel
theorem tyJ3_ok : ∀ k, k < 0 → parseFieldDescriptor (TJ3 k).2.2.1 = some (tyJ3 k) := by decide +kernel
abbrev cJ3_checkIndex_8e157 : ByteArray := prog_20_method_11_code
def yJ3_checkIndex_8e157 : MethodName := ⟨RJ3, "checkIndex", "(IILjava/util/function/BiFunction;)I"⟩
def RL : String := "EggSpoonsLaw"
abbrev cL_law : ByteArray := code
def yL_law : MethodName := ⟨RL, "law", "([I)Z"⟩
def wsX0_init : List Cond := .code yX0_init cX0_init 1 none :: ([.methodLink RX0 3 objectInit, .instanceMethod objectInit, .code objectInit ⟨#[0xb1]⟩ 1 none, .arrayClass .int, .fieldLink RX0 11 "EggSpoons$Duel" "endsA" "[I", .fieldLink RX0 15 "EggSpoons$Duel" "endsB" "[I", .fieldLink RX0 18 "EggSpoons$Duel" "mostA" "[I", .fieldLink RX0 21 "EggSpoons$Duel" "mostB" "[I", .fieldLink RX0 24 "EggSpoons$Duel" "resting" "[I"] ++ wsX00)
def wsX0_put : List Cond := .code yX0_put cX0_put 4 none :: ([.fieldLink RX0 11 "EggSpoons$Duel" "endsA" "[I", .fieldLink RX0 15 "EggSpoons$Duel" "endsB" "[I"] ++ wsX00)
def wsX0_gain : List Cond := .code yX0_gain cX0_gain 3 (some .int) :: ([])
def wsX0_greatestGain : List Cond := .code yX0_greatestGain cX0_greatestGain 5 (some .int) :: ([.methodLink RX0 35 Lib.Math.max.name, .static Lib.Math.max.name, .initialized "java/lang/Math", .code Lib.Math.max.name Lib.Math.max.code 2 (some .int), .methodLink RX0 31 yX0_gain, .static yX0_gain, .initialized RX0, .code yX0_gain cX0_gain 3 (some .int)])
def wsX0_weigh : List Cond := .code yX0_weigh cX0_weigh 7 (some .int) :: ([.fieldLink RX0 18 "EggSpoons$Duel" "mostA" "[I", .fieldLink RX0 11 "EggSpoons$Duel" "endsA" "[I", .fieldLink RX0 15 "EggSpoons$Duel" "endsB" "[I", .fieldLink RX0 21 "EggSpoons$Duel" "mostB" "[I", .fieldLink RX0 24 "EggSpoons$Duel" "resting" "[I", .methodLink RX0 27 yX0_greatestGain, .static yX0_greatestGain, .initialized RX0, .code yX0_greatestGain cX0_greatestGain 5 (some .int), .methodLink RX0 35 Lib.Math.max.name, .static Lib.Math.max.name, .initialized "java/lang/Math", .code Lib.Math.max.name Lib.Math.max.code 2 (some .int), .methodLink RX0 31 yX0_gain, .static yX0_gain, .code yX0_gain cX0_gain 3 (some .int)] ++ wsX00)
def wsX0_restingPair : List Cond := .code yX0_restingPair cX0_restingPair 2 (some .int) :: ([.fieldLink RX0 24 "EggSpoons$Duel" "resting" "[I"] ++ wsX00)
def wsX1_limit : List Cond := .code yX1_limit cX1_limit 5 (some .int) :: ([])
def wsX2_reach : List Cond := .code yX2_reach cX2_reach 7 (some .int) :: ([])
def wsX3_init : List Cond := .code yX3_init cX3_init 1 none :: ([.methodLink RX3 1 objectInit, .instanceMethod objectInit, .code objectInit ⟨#[0xb1]⟩ 1 none])
def wsX3_pose : List Cond := .code yX3_pose cX3_pose 6 none :: ([.fieldLink RX3 7 "EggSpoons$Runner" "kind" "I", .fieldLink RX3 13 "EggSpoons$Odds" "kind" "I", .fieldLink RX3 16 "EggSpoons$Runner" "legs" "I", .fieldLink RX3 19 "EggSpoons$Odds" "legs" "I", .fieldLink RX3 20 "EggSpoons$Runner" "egg" "I", .fieldLink RX3 23 "EggSpoons$Odds" "egg" "I", .fieldLink RX3 24 "EggSpoons$Runner" "speed" "I", .fieldLink RX3 27 "EggSpoons$Odds" "speed" "I", .fieldLink RX3 28 "EggSpoons$Odds" "length" "I", .fieldLink RX3 31 "EggSpoons$Odds" "lastTick" "I", .fieldLink RX3 34 "EggSpoons$Odds" "goal" "I", .fieldLink RX3 37 "EggSpoons$Odds" "tenths" "I"] ++ wsX80 ++ wsX30)
def wsX3_tenTo : List Cond := .code yX3_tenTo cX3_tenTo 4 (some .long) :: ([.constantLong RX3 44 (10)])
def wsX3_ways : List Cond := .code yX3_ways cX3_ways 8 (some .long) :: ([.fieldLink RX3 28 "EggSpoons$Odds" "length" "I", .fieldLink RX3 34 "EggSpoons$Odds" "goal" "I", .constantLong RX3 44 (10), .fieldLink RX3 31 "EggSpoons$Odds" "lastTick" "I", .fieldLink RX3 13 "EggSpoons$Odds" "kind" "I", .fieldLink RX3 19 "EggSpoons$Odds" "legs" "I", .fieldLink RX3 27 "EggSpoons$Odds" "speed" "I", .fieldLink RX3 23 "EggSpoons$Odds" "egg" "I", .fieldLink RX3 37 "EggSpoons$Odds" "tenths" "I", .methodLink RX3 40 yX3_tenTo, .static yX3_tenTo, .initialized RX3, .code yX3_tenTo cX3_tenTo 4 (some .long), .methodLink RX3 46 yX3_ways, .static yX3_ways, .methodLink RX3 50 yX2_reach, .static yX2_reach, .initialized RX2, .code yX2_reach cX2_reach 7 (some .int), .methodLink RX3 56 yX1_limit, .static yX1_limit, .initialized RX1, .code yX1_limit cX1_limit 5 (some .int)] ++ wsX30)
def wsX3_commonPart : List Cond := .code yX3_commonPart cX3_commonPart 11 (some .long) :: ([])
def wsX4_init : List Cond := .code yX4_init cX4_init 1 none :: ([.methodLink RX4 5 objectInit, .instanceMethod objectInit, .code objectInit ⟨#[0xb1]⟩ 1 none, .arrayClass .int, .fieldLink RX4 11 "EggSpoons$Past" "cells" "[I", .fieldLink RX4 15 "EggSpoons$Past" "size" "I"] ++ wsX40)
def wsX4_push : List Cond := .code yX4_push cX4_push 6 none :: ([.fieldLink RX4 15 "EggSpoons$Past" "size" "I", .fieldLink RX4 11 "EggSpoons$Past" "cells" "[I", .methodLink RX4 19 arraycopyName, .native arraycopyName, .static arraycopyName, .initialized "java/lang/System", .fieldLink RX4 25 "EggSpoons$Runner" "speed" "I", .fieldLink RX4 30 "EggSpoons$Runner" "place" "I", .fieldLink RX4 33 "EggSpoons$Runner" "drops" "I", .fieldLink RX4 36 "EggSpoons$Runner" "waits" "I", .fieldLink RX4 39 "EggSpoons$Runner" "homeAt" "I"] ++ wsX40 ++ wsX80)
def wsX4_pop : List Cond := .code yX4_pop cX4_pop 5 (some .int) :: ([.fieldLink RX4 15 "EggSpoons$Past" "size" "I", .fieldLink RX4 11 "EggSpoons$Past" "cells" "[I", .fieldLink RX4 25 "EggSpoons$Runner" "speed" "I", .fieldLink RX4 30 "EggSpoons$Runner" "place" "I", .fieldLink RX4 33 "EggSpoons$Runner" "drops" "I", .fieldLink RX4 36 "EggSpoons$Runner" "waits" "I", .fieldLink RX4 39 "EggSpoons$Runner" "homeAt" "I"] ++ wsX40 ++ wsX80)
def wsX4_copyFrom : List Cond := .code yX4_copyFrom cX4_copyFrom 2 none :: ([.fieldLink RX4 15 "EggSpoons$Past" "size" "I", .fieldLink RX4 11 "EggSpoons$Past" "cells" "[I", .methodLink RX4 19 arraycopyName, .native arraycopyName, .static arraycopyName, .initialized "java/lang/System"] ++ wsX40)
def wsX7_init : List Cond := .code yX7_init cX7_init 4 none :: ([.methodLink RX7 1 objectInit, .instanceMethod objectInit, .code objectInit ⟨#[0xb1]⟩ 1 none, .fieldLink RX7 7 "EggSpoons$Rows" "size" "I", .fieldLink RX7 13 "EggSpoons$Rows" "most" "I", .fieldLink RX7 16 "EggSpoons$Rows" "withLegs" "Z", .fieldLink RX7 20 "EggSpoons$Rows" "withSpeed" "Z", .arrayClass .int, .fieldLink RX7 23 "EggSpoons$Rows" "cells" "[I"] ++ wsX70)
def wsX8_init : List Cond := .code yX8_init cX8_init 1 none :: ([.methodLink RX8 3 objectInit, .instanceMethod objectInit, .code objectInit ⟨#[0xb1]⟩ 1 none])
def wsX5_init_r1 : List Cond := [Cond.methodLink RX5 3 objectInit, Cond.instanceMethod objectInit, Cond.code objectInit ⟨#[0xb1]⟩ 1 none, Cond.fieldLink RX5 9 "EggSpoons$Race" "length" "I", Cond.fieldLink RX5 15 "EggSpoons$Race" "tick" "I", Cond.fieldLink RX5 18 "EggSpoons$Race" "runners" "I", Cond.classLink RX5 21 RX8, Cond.fieldLink RX5 23 "EggSpoons$Race" "row" "[LEggSpoons$Runner;", Cond.classLink RX5 27 RX4, Cond.instantiable RX4 2, Cond.initialized RX4, Cond.fieldLink RX5 30 "EggSpoons$Race" "past" "LEggSpoons$Past;", Cond.classLink RX5 34 RX7, Cond.instantiable RX7 5, Cond.initialized RX7, Cond.fieldLink RX5 39 "EggSpoons$Race" "seenRows" "LEggSpoons$Rows;", Cond.fieldLink RX5 43 "EggSpoons$Race" "noteRows" "LEggSpoons$Rows;", Cond.fieldLink RX5 46 "EggSpoons$Race" "markRows" "LEggSpoons$Rows;", Cond.instantiable RX8 8, Cond.initialized RX8, Cond.instanceMethod yX4_init, Cond.code yX4_init cX4_init 1 none, Cond.methodLink RX4 5 objectInit, Cond.arrayClass .int]
def wsX5_init_r2 : List Cond := [Cond.fieldLink RX4 11 "EggSpoons$Past" "cells" "[I", Cond.fieldLink RX4 15 "EggSpoons$Past" "size" "I", Cond.methodLink RX5 36 yX7_init, Cond.instanceMethod yX7_init, Cond.code yX7_init cX7_init 4 none, Cond.methodLink RX7 1 objectInit, Cond.fieldLink RX7 7 "EggSpoons$Rows" "size" "I", Cond.fieldLink RX7 13 "EggSpoons$Rows" "most" "I", Cond.fieldLink RX7 16 "EggSpoons$Rows" "withLegs" "Z", Cond.fieldLink RX7 20 "EggSpoons$Rows" "withSpeed" "Z", Cond.fieldLink RX7 23 "EggSpoons$Rows" "cells" "[I", Cond.instanceMethod yX8_init, Cond.code yX8_init cX8_init 1 none, Cond.methodLink RX8 3 objectInit]
def wsX5_init : List Cond := .code yX5_init cX5_init 2 none :: ((wsX5_init_r1 ++ wsX5_init_r2) ++ wsX50 ++ wsX40 ++ wsX70 ++ wsX80)
def wsX5_restart : List Cond := .code yX5_restart cX5_restart 2 none :: ([.fieldLink RX5 9 "EggSpoons$Race" "length" "I", .fieldLink RX5 15 "EggSpoons$Race" "tick" "I", .fieldLink RX5 18 "EggSpoons$Race" "runners" "I", .fieldLink RX5 30 "EggSpoons$Race" "past" "LEggSpoons$Past;", .fieldLink RX5 50 "EggSpoons$Past" "size" "I", .fieldLink RX5 39 "EggSpoons$Race" "seenRows" "LEggSpoons$Rows;", .fieldLink RX5 53 "EggSpoons$Rows" "size" "I", .fieldLink RX5 43 "EggSpoons$Race" "noteRows" "LEggSpoons$Rows;", .fieldLink RX5 46 "EggSpoons$Race" "markRows" "LEggSpoons$Rows;"] ++ wsX50 ++ wsX40 ++ wsX70)
def wsX8_begin : List Cond := .code yX8_begin cX8_begin 4 none :: ([.fieldLink RX8 9 "EggSpoons$Runner" "kind" "I", .fieldLink RX8 15 "EggSpoons$Runner" "legs" "I", .fieldLink RX8 18 "EggSpoons$Runner" "egg" "I", .fieldLink RX8 21 "EggSpoons$Runner" "speed" "I", .fieldLink RX8 24 "EggSpoons$Runner" "place" "I", .fieldLink RX8 27 "EggSpoons$Runner" "drops" "I", .fieldLink RX8 30 "EggSpoons$Runner" "waits" "I", .fieldLink RX8 33 "EggSpoons$Runner" "homeAt" "I"] ++ wsX80)
def wsX5_welcome : List Cond := .code yX5_welcome cX5_welcome 4 none :: ([.fieldLink RX5 18 "EggSpoons$Race" "runners" "I", .fieldLink RX5 23 "EggSpoons$Race" "row" "[LEggSpoons$Runner;", .fieldLink RX5 30 "EggSpoons$Race" "past" "LEggSpoons$Past;", .fieldLink RX5 50 "EggSpoons$Past" "size" "I", .methodLink RX5 54 yX8_begin, .instanceMethod yX8_begin, .selects RX8 yX8_begin yX8_begin, .initialized RX8, .code yX8_begin cX8_begin 4 none, .fieldLink RX8 9 "EggSpoons$Runner" "kind" "I", .fieldLink RX8 15 "EggSpoons$Runner" "legs" "I", .fieldLink RX8 18 "EggSpoons$Runner" "egg" "I", .fieldLink RX8 21 "EggSpoons$Runner" "speed" "I", .fieldLink RX8 24 "EggSpoons$Runner" "place" "I", .fieldLink RX8 27 "EggSpoons$Runner" "drops" "I", .fieldLink RX8 30 "EggSpoons$Runner" "waits" "I", .fieldLink RX8 33 "EggSpoons$Runner" "homeAt" "I"] ++ wsX50 ++ wsX40 ++ wsX80)
def wsX8_copyFrom : List Cond := .code yX8_copyFrom cX8_copyFrom 2 none :: ([.fieldLink RX8 9 "EggSpoons$Runner" "kind" "I", .fieldLink RX8 15 "EggSpoons$Runner" "legs" "I", .fieldLink RX8 18 "EggSpoons$Runner" "egg" "I", .fieldLink RX8 21 "EggSpoons$Runner" "speed" "I", .fieldLink RX8 24 "EggSpoons$Runner" "place" "I", .fieldLink RX8 27 "EggSpoons$Runner" "drops" "I", .fieldLink RX8 30 "EggSpoons$Runner" "waits" "I", .fieldLink RX8 33 "EggSpoons$Runner" "homeAt" "I"] ++ wsX80)
def wsX5_copyLine : List Cond := .code yX5_copyLine cX5_copyLine 3 none :: ([.fieldLink RX5 9 "EggSpoons$Race" "length" "I", .fieldLink RX5 15 "EggSpoons$Race" "tick" "I", .fieldLink RX5 18 "EggSpoons$Race" "runners" "I", .fieldLink RX5 23 "EggSpoons$Race" "row" "[LEggSpoons$Runner;", .methodLink RX5 58 yX8_copyFrom, .instanceMethod yX8_copyFrom, .selects RX8 yX8_copyFrom yX8_copyFrom, .initialized RX8, .code yX8_copyFrom cX8_copyFrom 2 none, .fieldLink RX8 9 "EggSpoons$Runner" "kind" "I", .fieldLink RX8 15 "EggSpoons$Runner" "legs" "I", .fieldLink RX8 18 "EggSpoons$Runner" "egg" "I", .fieldLink RX8 21 "EggSpoons$Runner" "speed" "I", .fieldLink RX8 24 "EggSpoons$Runner" "place" "I", .fieldLink RX8 27 "EggSpoons$Runner" "drops" "I", .fieldLink RX8 30 "EggSpoons$Runner" "waits" "I", .fieldLink RX8 33 "EggSpoons$Runner" "homeAt" "I"] ++ wsX50 ++ wsX80)
def wsX7_copyFrom : List Cond := .code yX7_copyFrom cX7_copyFrom 2 none :: ([.fieldLink RX7 7 "EggSpoons$Rows" "size" "I", .fieldLink RX7 23 "EggSpoons$Rows" "cells" "[I", .methodLink RX7 27 Lib.Math.min.name, .static Lib.Math.min.name, .initialized "java/lang/Math", .code Lib.Math.min.name Lib.Math.min.code 2 (some .int), .methodLink RX7 33 arraycopyName, .native arraycopyName, .static arraycopyName, .initialized "java/lang/System"] ++ wsX70)
def wsX5_copyFrom_r1 : List Cond := [Cond.fieldLink RX5 30 "EggSpoons$Race" "past" "LEggSpoons$Past;", Cond.fieldLink RX5 39 "EggSpoons$Race" "seenRows" "LEggSpoons$Rows;", Cond.fieldLink RX5 43 "EggSpoons$Race" "noteRows" "LEggSpoons$Rows;", Cond.fieldLink RX5 46 "EggSpoons$Race" "markRows" "LEggSpoons$Rows;", Cond.methodLink RX5 62 yX5_copyLine, Cond.instanceMethod yX5_copyLine, Cond.selects RX5 yX5_copyLine yX5_copyLine, Cond.initialized RX5, Cond.code yX5_copyLine cX5_copyLine 3 none, Cond.fieldLink RX5 9 "EggSpoons$Race" "length" "I", Cond.fieldLink RX5 15 "EggSpoons$Race" "tick" "I", Cond.fieldLink RX5 18 "EggSpoons$Race" "runners" "I", Cond.fieldLink RX5 23 "EggSpoons$Race" "row" "[LEggSpoons$Runner;", Cond.methodLink RX5 58 yX8_copyFrom, Cond.instanceMethod yX8_copyFrom, Cond.selects RX8 yX8_copyFrom yX8_copyFrom, Cond.initialized RX8, Cond.code yX8_copyFrom cX8_copyFrom 2 none, Cond.fieldLink RX8 9 "EggSpoons$Runner" "kind" "I", Cond.fieldLink RX8 15 "EggSpoons$Runner" "legs" "I", Cond.fieldLink RX8 18 "EggSpoons$Runner" "egg" "I", Cond.fieldLink RX8 21 "EggSpoons$Runner" "speed" "I", Cond.fieldLink RX8 24 "EggSpoons$Runner" "place" "I", Cond.fieldLink RX8 27 "EggSpoons$Runner" "drops" "I"]
def wsX5_copyFrom_r2 : List Cond := [Cond.fieldLink RX8 30 "EggSpoons$Runner" "waits" "I", Cond.fieldLink RX8 33 "EggSpoons$Runner" "homeAt" "I", Cond.methodLink RX5 66 yX4_copyFrom, Cond.instanceMethod yX4_copyFrom, Cond.selects RX4 yX4_copyFrom yX4_copyFrom, Cond.initialized RX4, Cond.code yX4_copyFrom cX4_copyFrom 2 none, Cond.fieldLink RX4 15 "EggSpoons$Past" "size" "I", Cond.fieldLink RX4 11 "EggSpoons$Past" "cells" "[I", Cond.methodLink RX4 19 arraycopyName, Cond.native arraycopyName, Cond.static arraycopyName, Cond.initialized "java/lang/System", Cond.methodLink RX5 69 yX7_copyFrom, Cond.instanceMethod yX7_copyFrom, Cond.selects RX7 yX7_copyFrom yX7_copyFrom, Cond.initialized RX7, Cond.code yX7_copyFrom cX7_copyFrom 2 none, Cond.fieldLink RX7 7 "EggSpoons$Rows" "size" "I", Cond.fieldLink RX7 23 "EggSpoons$Rows" "cells" "[I", Cond.methodLink RX7 27 Lib.Math.min.name, Cond.static Lib.Math.min.name, Cond.initialized "java/lang/Math", Cond.code Lib.Math.min.name Lib.Math.min.code 2 (some .int)]
def wsX5_copyFrom_r3 : List Cond := [Cond.methodLink RX7 33 arraycopyName]
def wsX5_copyFrom : List Cond := .code yX5_copyFrom cX5_copyFrom 2 none :: ((wsX5_copyFrom_r1 ++ (wsX5_copyFrom_r2 ++ wsX5_copyFrom_r3)) ++ wsX50 ++ wsX80 ++ wsX40 ++ wsX70)
def wsX8_isHome : List Cond := .code yX8_isHome cX8_isHome 1 (some .boolean) :: ([.fieldLink RX8 33 "EggSpoons$Runner" "homeAt" "I"] ++ wsX80)
def wsX8_step : List Cond := .code yX8_step cX8_step 4 none :: ([.fieldLink RX8 30 "EggSpoons$Runner" "waits" "I", .fieldLink RX8 9 "EggSpoons$Runner" "kind" "I", .fieldLink RX8 15 "EggSpoons$Runner" "legs" "I", .fieldLink RX8 21 "EggSpoons$Runner" "speed" "I", .fieldLink RX8 18 "EggSpoons$Runner" "egg" "I", .fieldLink RX8 27 "EggSpoons$Runner" "drops" "I", .fieldLink RX8 24 "EggSpoons$Runner" "place" "I", .fieldLink RX8 33 "EggSpoons$Runner" "homeAt" "I", .methodLink RX8 48 yX8_isHome, .instanceMethod yX8_isHome, .selects RX8 yX8_isHome yX8_isHome, .initialized RX8, .code yX8_isHome cX8_isHome 1 (some .boolean), .methodLink RX8 36 yX2_reach, .static yX2_reach, .initialized RX2, .code yX2_reach cX2_reach 7 (some .int), .methodLink RX8 42 yX1_limit, .static yX1_limit, .initialized RX1, .code yX1_limit cX1_limit 5 (some .int)] ++ wsX80)
def wsX5_goOn_r1 : List Cond := [Cond.fieldLink RX5 15 "EggSpoons$Race" "tick" "I", Cond.fieldLink RX5 18 "EggSpoons$Race" "runners" "I", Cond.fieldLink RX5 23 "EggSpoons$Race" "row" "[LEggSpoons$Runner;", Cond.fieldLink RX5 9 "EggSpoons$Race" "length" "I", Cond.methodLink RX5 72 yX8_step, Cond.instanceMethod yX8_step, Cond.selects RX8 yX8_step yX8_step, Cond.initialized RX8, Cond.code yX8_step cX8_step 4 none, Cond.fieldLink RX8 30 "EggSpoons$Runner" "waits" "I", Cond.fieldLink RX8 9 "EggSpoons$Runner" "kind" "I", Cond.fieldLink RX8 15 "EggSpoons$Runner" "legs" "I", Cond.fieldLink RX8 21 "EggSpoons$Runner" "speed" "I", Cond.fieldLink RX8 18 "EggSpoons$Runner" "egg" "I", Cond.fieldLink RX8 27 "EggSpoons$Runner" "drops" "I", Cond.fieldLink RX8 24 "EggSpoons$Runner" "place" "I", Cond.fieldLink RX8 33 "EggSpoons$Runner" "homeAt" "I", Cond.methodLink RX8 48 yX8_isHome, Cond.instanceMethod yX8_isHome, Cond.selects RX8 yX8_isHome yX8_isHome, Cond.code yX8_isHome cX8_isHome 1 (some .boolean), Cond.methodLink RX8 36 yX2_reach, Cond.static yX2_reach, Cond.initialized RX2]
def wsX5_goOn_r2 : List Cond := [Cond.code yX2_reach cX2_reach 7 (some .int), Cond.methodLink RX8 42 yX1_limit, Cond.static yX1_limit, Cond.initialized RX1, Cond.code yX1_limit cX1_limit 5 (some .int)]
def wsX5_goOn : List Cond := .code yX5_goOn cX5_goOn 2 none :: ((wsX5_goOn_r1 ++ wsX5_goOn_r2) ++ wsX50 ++ wsX80)
def wsX5_keep : List Cond := .code yX5_keep cX5_keep 1 none :: ([.fieldLink RX5 30 "EggSpoons$Race" "past" "LEggSpoons$Past;", .fieldLink RX5 15 "EggSpoons$Race" "tick" "I", .fieldLink RX5 23 "EggSpoons$Race" "row" "[LEggSpoons$Runner;", .methodLink RX5 76 yX4_push, .instanceMethod yX4_push, .selects RX4 yX4_push yX4_push, .initialized RX4, .code yX4_push cX4_push 6 none, .fieldLink RX4 15 "EggSpoons$Past" "size" "I", .fieldLink RX4 11 "EggSpoons$Past" "cells" "[I", .methodLink RX4 19 arraycopyName, .native arraycopyName, .static arraycopyName, .initialized "java/lang/System", .fieldLink RX4 25 "EggSpoons$Runner" "speed" "I", .fieldLink RX4 30 "EggSpoons$Runner" "place" "I", .fieldLink RX4 33 "EggSpoons$Runner" "drops" "I", .fieldLink RX4 36 "EggSpoons$Runner" "waits" "I", .fieldLink RX4 39 "EggSpoons$Runner" "homeAt" "I"] ++ wsX50 ++ wsX40 ++ wsX80)
def wsX5_takeBack : List Cond := .code yX5_takeBack cX5_takeBack 2 (some .boolean) :: ([.fieldLink RX5 30 "EggSpoons$Race" "past" "LEggSpoons$Past;", .fieldLink RX5 23 "EggSpoons$Race" "row" "[LEggSpoons$Runner;", .fieldLink RX5 15 "EggSpoons$Race" "tick" "I", .methodLink RX5 80 yX4_pop, .instanceMethod yX4_pop, .selects RX4 yX4_pop yX4_pop, .initialized RX4, .code yX4_pop cX4_pop 5 (some .int), .fieldLink RX4 15 "EggSpoons$Past" "size" "I", .fieldLink RX4 11 "EggSpoons$Past" "cells" "[I", .fieldLink RX4 25 "EggSpoons$Runner" "speed" "I", .fieldLink RX4 30 "EggSpoons$Runner" "place" "I", .fieldLink RX4 33 "EggSpoons$Runner" "drops" "I", .fieldLink RX4 36 "EggSpoons$Runner" "waits" "I", .fieldLink RX4 39 "EggSpoons$Runner" "homeAt" "I"] ++ wsX50 ++ wsX40 ++ wsX80)
def wsX5_homes : List Cond := .code yX5_homes cX5_homes 3 (some .int) :: ([.fieldLink RX5 18 "EggSpoons$Race" "runners" "I", .fieldLink RX5 23 "EggSpoons$Race" "row" "[LEggSpoons$Runner;", .methodLink RX5 84 yX8_isHome, .instanceMethod yX8_isHome, .selects RX8 yX8_isHome yX8_isHome, .initialized RX8, .code yX8_isHome cX8_isHome 1 (some .boolean), .fieldLink RX8 33 "EggSpoons$Runner" "homeAt" "I"] ++ wsX50 ++ wsX80)
def wsX5_placesTogether : List Cond := .code yX5_placesTogether cX5_placesTogether 3 (some .int) :: ([.fieldLink RX5 18 "EggSpoons$Race" "runners" "I", .fieldLink RX5 23 "EggSpoons$Race" "row" "[LEggSpoons$Runner;", .fieldLink RX5 88 "EggSpoons$Runner" "place" "I"] ++ wsX50 ++ wsX80)
def wsX5_dropsTogether : List Cond := .code yX5_dropsTogether cX5_dropsTogether 3 (some .int) :: ([.fieldLink RX5 18 "EggSpoons$Race" "runners" "I", .fieldLink RX5 23 "EggSpoons$Race" "row" "[LEggSpoons$Runner;", .fieldLink RX5 91 "EggSpoons$Runner" "drops" "I"] ++ wsX50 ++ wsX80)
def wsX7_fitRunner : List Cond := .code yX7_fitRunner cX7_fitRunner 7 (some .boolean) :: ([.fieldLink RX7 7 "EggSpoons$Rows" "size" "I", .fieldLink RX7 16 "EggSpoons$Rows" "withLegs" "Z", .fieldLink RX7 23 "EggSpoons$Rows" "cells" "[I", .methodLink RX7 39 yX2_reach, .static yX2_reach, .initialized RX2, .code yX2_reach cX2_reach 7 (some .int)] ++ wsX70)
def wsX5_legsThatFit : List Cond := .code yX5_legsThatFit cX5_legsThatFit 4 (some .int) :: ([.fieldLink RX5 39 "EggSpoons$Race" "seenRows" "LEggSpoons$Rows;", .fieldLink RX5 23 "EggSpoons$Race" "row" "[LEggSpoons$Runner;", .fieldLink RX5 94 "EggSpoons$Runner" "kind" "I", .methodLink RX5 97 yX7_fitRunner, .instanceMethod yX7_fitRunner, .selects RX7 yX7_fitRunner yX7_fitRunner, .initialized RX7, .code yX7_fitRunner cX7_fitRunner 7 (some .boolean), .fieldLink RX7 7 "EggSpoons$Rows" "size" "I", .fieldLink RX7 16 "EggSpoons$Rows" "withLegs" "Z", .fieldLink RX7 23 "EggSpoons$Rows" "cells" "[I", .methodLink RX7 39 yX2_reach, .static yX2_reach, .initialized RX2, .code yX2_reach cX2_reach 7 (some .int)] ++ wsX50 ++ wsX80 ++ wsX70)
def wsX5_kindsThatFit : List Cond := .code yX5_kindsThatFit cX5_kindsThatFit 4 (some .int) :: ([.fieldLink RX5 43 "EggSpoons$Race" "noteRows" "LEggSpoons$Rows;", .methodLink RX5 97 yX7_fitRunner, .instanceMethod yX7_fitRunner, .selects RX7 yX7_fitRunner yX7_fitRunner, .initialized RX7, .code yX7_fitRunner cX7_fitRunner 7 (some .boolean), .fieldLink RX7 7 "EggSpoons$Rows" "size" "I", .fieldLink RX7 16 "EggSpoons$Rows" "withLegs" "Z", .fieldLink RX7 23 "EggSpoons$Rows" "cells" "[I", .methodLink RX7 39 yX2_reach, .static yX2_reach, .initialized RX2, .code yX2_reach cX2_reach 7 (some .int)] ++ wsX50 ++ wsX70)
def wsX7_fitEgg : List Cond := .code yX7_fitEgg cX7_fitEgg 5 (some .boolean) :: ([.fieldLink RX7 7 "EggSpoons$Rows" "size" "I", .fieldLink RX7 23 "EggSpoons$Rows" "cells" "[I", .methodLink RX7 45 yX1_limit, .static yX1_limit, .initialized RX1, .code yX1_limit cX1_limit 5 (some .int)] ++ wsX70)
def wsX5_eggsThatFit : List Cond := .code yX5_eggsThatFit cX5_eggsThatFit 4 (some .int) :: ([.fieldLink RX5 46 "EggSpoons$Race" "markRows" "LEggSpoons$Rows;", .methodLink RX5 101 yX7_fitEgg, .instanceMethod yX7_fitEgg, .selects RX7 yX7_fitEgg yX7_fitEgg, .initialized RX7, .code yX7_fitEgg cX7_fitEgg 5 (some .boolean), .fieldLink RX7 7 "EggSpoons$Rows" "size" "I", .fieldLink RX7 23 "EggSpoons$Rows" "cells" "[I", .methodLink RX7 45 yX1_limit, .static yX1_limit, .initialized RX1, .code yX1_limit cX1_limit 5 (some .int)] ++ wsX50 ++ wsX70)
def wsX6_init : List Cond := .code yX6_init cX6_init 1 none :: ([.methodLink RX6 3 objectInit, .instanceMethod objectInit, .code objectInit ⟨#[0xb1]⟩ 1 none, .arrayClass .int, .fieldLink RX6 11 "EggSpoons$Reader" "bytes" "[I", .fieldLink RX6 15 "EggSpoons$Reader" "length" "I", .fieldLink RX6 19 "EggSpoons$Reader" "at" "I", .fieldLink RX6 22 "EggSpoons$Reader" "tokenAt" "I", .fieldLink RX6 25 "EggSpoons$Reader" "sort" "I", .fieldLink RX6 28 "EggSpoons$Reader" "value" "I", .fieldLink RX6 31 "EggSpoons$Reader" "fault" "I"] ++ wsX60)
def wsX6_append : List Cond := .code yX6_append cX6_append 2 (some .boolean) :: ([.fieldLink RX6 15 "EggSpoons$Reader" "length" "I", .fieldLink RX6 11 "EggSpoons$Reader" "bytes" "[I"] ++ wsX60)
def wsX6_skipBlanks : List Cond := .code yX6_skipBlanks cX6_skipBlanks 1 none :: ([.fieldLink RX6 19 "EggSpoons$Reader" "at" "I", .fieldLink RX6 15 "EggSpoons$Reader" "length" "I", .fieldLink RX6 11 "EggSpoons$Reader" "bytes" "[I"] ++ wsX60)
def wsX6_isLetter : List Cond := .code yX6_isLetter cX6_isLetter 1 (some .boolean) :: ([])
def wsX6_takeLetters : List Cond := .code yX6_takeLetters cX6_takeLetters 1 none :: ([.fieldLink RX6 19 "EggSpoons$Reader" "at" "I", .fieldLink RX6 15 "EggSpoons$Reader" "length" "I", .fieldLink RX6 11 "EggSpoons$Reader" "bytes" "[I", .fieldLink RX6 25 "EggSpoons$Reader" "sort" "I", .methodLink RX6 118 yX6_isLetter, .static yX6_isLetter, .initialized RX6, .code yX6_isLetter cX6_isLetter 1 (some .boolean)] ++ wsX60)
def wsX6_isFigure : List Cond := .code yX6_isFigure cX6_isFigure 1 (some .boolean) :: ([])
def wsX6_takeFigures : List Cond := .code yX6_takeFigures cX6_takeFigures 1 none :: ([.fieldLink RX6 28 "EggSpoons$Reader" "value" "I", .fieldLink RX6 19 "EggSpoons$Reader" "at" "I", .fieldLink RX6 15 "EggSpoons$Reader" "length" "I", .fieldLink RX6 11 "EggSpoons$Reader" "bytes" "[I", .fieldLink RX6 22 "EggSpoons$Reader" "tokenAt" "I", .fieldLink RX6 25 "EggSpoons$Reader" "sort" "I", .methodLink RX6 125 yX6_isFigure, .static yX6_isFigure, .initialized RX6, .code yX6_isFigure cX6_isFigure 1 (some .boolean)] ++ wsX60)
def wsX6_nextToken_r1 : List Cond := [Cond.fieldLink RX6 19 "EggSpoons$Reader" "at" "I", Cond.fieldLink RX6 22 "EggSpoons$Reader" "tokenAt" "I", Cond.fieldLink RX6 15 "EggSpoons$Reader" "length" "I", Cond.fieldLink RX6 25 "EggSpoons$Reader" "sort" "I", Cond.fieldLink RX6 11 "EggSpoons$Reader" "bytes" "[I", Cond.methodLink RX6 38 yX6_skipBlanks, Cond.instanceMethod yX6_skipBlanks, Cond.selects RX6 yX6_skipBlanks yX6_skipBlanks, Cond.initialized RX6, Cond.code yX6_skipBlanks cX6_skipBlanks 1 none, Cond.methodLink RX6 118 yX6_isLetter, Cond.static yX6_isLetter, Cond.code yX6_isLetter cX6_isLetter 1 (some .boolean), Cond.methodLink RX6 122 yX6_takeLetters, Cond.instanceMethod yX6_takeLetters, Cond.selects RX6 yX6_takeLetters yX6_takeLetters, Cond.code yX6_takeLetters cX6_takeLetters 1 none, Cond.methodLink RX6 125 yX6_isFigure, Cond.static yX6_isFigure, Cond.code yX6_isFigure cX6_isFigure 1 (some .boolean), Cond.methodLink RX6 128 yX6_takeFigures, Cond.instanceMethod yX6_takeFigures, Cond.selects RX6 yX6_takeFigures yX6_takeFigures, Cond.code yX6_takeFigures cX6_takeFigures 1 none]
def wsX6_nextToken_r2 : List Cond := [Cond.fieldLink RX6 28 "EggSpoons$Reader" "value" "I"]
def wsX6_nextToken : List Cond := .code yX6_nextToken cX6_nextToken 1 none :: ((wsX6_nextToken_r1 ++ wsX6_nextToken_r2) ++ wsX60)
def wsJ0_coder_7d493 : List Cond := .code yJ0_coder_7d493 cJ0_coder_7d493 1 (some .byte) :: ([.fieldLink RJ0 38 "java/lang/String" "COMPACT_STRINGS" "Z", .fieldLink RJ0 15 "java/lang/String" "coder" "B"])
def wsJ0_length_8abf5 : List Cond := .code yJ0_length_8abf5 cJ0_length_8abf5 1 (some .int) :: ([.fieldLink RJ0 9 "java/lang/String" "value" "[B", .methodLink RJ0 335 yJ0_coder_7d493, .instanceMethod yJ0_coder_7d493, .selects RJ0 yJ0_coder_7d493 yJ0_coder_7d493, .initialized RJ0, .code yJ0_coder_7d493 cJ0_coder_7d493 1 (some .byte), .fieldLink RJ0 38 "java/lang/String" "COMPACT_STRINGS" "Z", .fieldLink RJ0 15 "java/lang/String" "coder" "B"])
def wsJ0_isLatin1_aae02 : List Cond := .code yJ0_isLatin1_aae02 cJ0_isLatin1_aae02 1 (some .boolean) :: ([.fieldLink RJ0 38 "java/lang/String" "COMPACT_STRINGS" "Z", .fieldLink RJ0 15 "java/lang/String" "coder" "B"])
def wsJ3_checkIndex_8e157 : List Cond := .code yJ3_checkIndex_8e157 cJ3_checkIndex_8e157 3 (some .int) :: ([])
def wsJ0_checkIndex_df160 : List Cond := .code yJ0_checkIndex_df160 cJ0_checkIndex_df160 2 none :: ([.fieldLink RJ0 1053 "jdk/internal/util/Preconditions" "SIOOBE_FORMATTER" "Ljava/util/function/BiFunction;", .methodLink RJ0 1059 yJ3_checkIndex_8e157, .static yJ3_checkIndex_8e157, .initialized RJ3, .code yJ3_checkIndex_8e157 cJ3_checkIndex_8e157 3 (some .int)])
def wsJ1_charAt_3b067 : List Cond := .code yJ1_charAt_3b067 cJ1_charAt_3b067 2 (some .char) :: ([.methodLink RJ1 9 yJ0_checkIndex_df160, .static yJ0_checkIndex_df160, .initialized RJ0, .code yJ0_checkIndex_df160 cJ0_checkIndex_df160 2 none, .fieldLink RJ0 1053 "jdk/internal/util/Preconditions" "SIOOBE_FORMATTER" "Ljava/util/function/BiFunction;", .methodLink RJ0 1059 yJ3_checkIndex_8e157, .static yJ3_checkIndex_8e157, .initialized RJ3, .code yJ3_checkIndex_8e157 cJ3_checkIndex_8e157 3 (some .int)])
def wsJ2_length_9d52b : List Cond := .code yJ2_length_9d52b cJ2_length_9d52b 1 (some .int) :: ([])
def wsJ2_checkIndex_2214a : List Cond := .code yJ2_checkIndex_2214a cJ2_checkIndex_2214a 2 none :: ([.methodLink RJ2 48 yJ2_length_9d52b, .static yJ2_length_9d52b, .initialized RJ2, .code yJ2_length_9d52b cJ2_length_9d52b 1 (some .int), .methodLink RJ2 414 yJ0_checkIndex_df160, .static yJ0_checkIndex_df160, .initialized RJ0, .code yJ0_checkIndex_df160 cJ0_checkIndex_df160 2 none, .fieldLink RJ0 1053 "jdk/internal/util/Preconditions" "SIOOBE_FORMATTER" "Ljava/util/function/BiFunction;", .methodLink RJ0 1059 yJ3_checkIndex_8e157, .static yJ3_checkIndex_8e157, .initialized RJ3, .code yJ3_checkIndex_8e157 cJ3_checkIndex_8e157 3 (some .int)])
def wsJ2_getChar_3b067 : List Cond := .code yJ2_getChar_3b067 cJ2_getChar_3b067 2 (some .char) :: ([.fieldLink RJ2 44 "java/lang/StringUTF16" "$assertionsDisabled" "Z", .fieldLink RJ2 59 "java/lang/StringUTF16" "HI_BYTE_SHIFT" "I", .fieldLink RJ2 63 "java/lang/StringUTF16" "LO_BYTE_SHIFT" "I", .methodLink RJ2 48 yJ2_length_9d52b, .static yJ2_length_9d52b, .initialized RJ2, .code yJ2_length_9d52b cJ2_length_9d52b 1 (some .int)])
def wsJ2_charAt_3b067 : List Cond := .code yJ2_charAt_3b067 cJ2_charAt_3b067 2 (some .char) :: ([.methodLink RJ2 67 yJ2_checkIndex_2214a, .static yJ2_checkIndex_2214a, .initialized RJ2, .code yJ2_checkIndex_2214a cJ2_checkIndex_2214a 2 none, .methodLink RJ2 48 yJ2_length_9d52b, .static yJ2_length_9d52b, .code yJ2_length_9d52b cJ2_length_9d52b 1 (some .int), .methodLink RJ2 414 yJ0_checkIndex_df160, .static yJ0_checkIndex_df160, .initialized RJ0, .code yJ0_checkIndex_df160 cJ0_checkIndex_df160 2 none, .fieldLink RJ0 1053 "jdk/internal/util/Preconditions" "SIOOBE_FORMATTER" "Ljava/util/function/BiFunction;", .methodLink RJ0 1059 yJ3_checkIndex_8e157, .static yJ3_checkIndex_8e157, .initialized RJ3, .code yJ3_checkIndex_8e157 cJ3_checkIndex_8e157 3 (some .int), .methodLink RJ2 71 yJ2_getChar_3b067, .static yJ2_getChar_3b067, .code yJ2_getChar_3b067 cJ2_getChar_3b067 2 (some .char), .fieldLink RJ2 44 "java/lang/StringUTF16" "$assertionsDisabled" "Z", .fieldLink RJ2 59 "java/lang/StringUTF16" "HI_BYTE_SHIFT" "I", .fieldLink RJ2 63 "java/lang/StringUTF16" "LO_BYTE_SHIFT" "I"])
def wsJ0_charAt_5068e_r1 : List Cond := [Cond.fieldLink RJ0 9 "java/lang/String" "value" "[B", Cond.methodLink RJ0 492 yJ0_isLatin1_aae02, Cond.instanceMethod yJ0_isLatin1_aae02, Cond.selects RJ0 yJ0_isLatin1_aae02 yJ0_isLatin1_aae02, Cond.initialized RJ0, Cond.code yJ0_isLatin1_aae02 cJ0_isLatin1_aae02 1 (some .boolean), Cond.fieldLink RJ0 38 "java/lang/String" "COMPACT_STRINGS" "Z", Cond.fieldLink RJ0 15 "java/lang/String" "coder" "B", Cond.methodLink RJ0 495 yJ1_charAt_3b067, Cond.static yJ1_charAt_3b067, Cond.initialized RJ1, Cond.code yJ1_charAt_3b067 cJ1_charAt_3b067 2 (some .char), Cond.methodLink RJ1 9 yJ0_checkIndex_df160, Cond.static yJ0_checkIndex_df160, Cond.code yJ0_checkIndex_df160 cJ0_checkIndex_df160 2 none, Cond.fieldLink RJ0 1053 "jdk/internal/util/Preconditions" "SIOOBE_FORMATTER" "Ljava/util/function/BiFunction;", Cond.methodLink RJ0 1059 yJ3_checkIndex_8e157, Cond.static yJ3_checkIndex_8e157, Cond.initialized RJ3, Cond.code yJ3_checkIndex_8e157 cJ3_checkIndex_8e157 3 (some .int), Cond.methodLink RJ0 498 yJ2_charAt_3b067, Cond.static yJ2_charAt_3b067, Cond.initialized RJ2, Cond.code yJ2_charAt_3b067 cJ2_charAt_3b067 2 (some .char)]
def wsJ0_charAt_5068e_r2 : List Cond := [Cond.methodLink RJ2 67 yJ2_checkIndex_2214a, Cond.static yJ2_checkIndex_2214a, Cond.code yJ2_checkIndex_2214a cJ2_checkIndex_2214a 2 none, Cond.methodLink RJ2 48 yJ2_length_9d52b, Cond.static yJ2_length_9d52b, Cond.code yJ2_length_9d52b cJ2_length_9d52b 1 (some .int), Cond.methodLink RJ2 414 yJ0_checkIndex_df160, Cond.methodLink RJ2 71 yJ2_getChar_3b067, Cond.static yJ2_getChar_3b067, Cond.code yJ2_getChar_3b067 cJ2_getChar_3b067 2 (some .char), Cond.fieldLink RJ2 44 "java/lang/StringUTF16" "$assertionsDisabled" "Z", Cond.fieldLink RJ2 59 "java/lang/StringUTF16" "HI_BYTE_SHIFT" "I", Cond.fieldLink RJ2 63 "java/lang/StringUTF16" "LO_BYTE_SHIFT" "I"]
def wsJ0_charAt_5068e : List Cond := .code yJ0_charAt_5068e cJ0_charAt_5068e 2 (some .char) :: ((wsJ0_charAt_5068e_r1 ++ wsJ0_charAt_5068e_r2))
def wsX6_spells_r1 : List Cond := [Cond.fieldLink RX6 19 "EggSpoons$Reader" "at" "I", Cond.fieldLink RX6 22 "EggSpoons$Reader" "tokenAt" "I", Cond.fieldLink RX6 11 "EggSpoons$Reader" "bytes" "[I", Cond.methodLink RX6 131 yJ0_length_8abf5, Cond.instanceMethod yJ0_length_8abf5, Cond.selects RJ0 yJ0_length_8abf5 yJ0_length_8abf5, Cond.initialized RJ0, Cond.code yJ0_length_8abf5 cJ0_length_8abf5 1 (some .int), Cond.fieldLink RJ0 9 "java/lang/String" "value" "[B", Cond.methodLink RJ0 335 yJ0_coder_7d493, Cond.instanceMethod yJ0_coder_7d493, Cond.selects RJ0 yJ0_coder_7d493 yJ0_coder_7d493, Cond.code yJ0_coder_7d493 cJ0_coder_7d493 1 (some .byte), Cond.fieldLink RJ0 38 "java/lang/String" "COMPACT_STRINGS" "Z", Cond.fieldLink RJ0 15 "java/lang/String" "coder" "B", Cond.methodLink RX6 136 yJ0_charAt_5068e, Cond.instanceMethod yJ0_charAt_5068e, Cond.selects RJ0 yJ0_charAt_5068e yJ0_charAt_5068e, Cond.code yJ0_charAt_5068e cJ0_charAt_5068e 2 (some .char), Cond.methodLink RJ0 492 yJ0_isLatin1_aae02, Cond.instanceMethod yJ0_isLatin1_aae02, Cond.selects RJ0 yJ0_isLatin1_aae02 yJ0_isLatin1_aae02, Cond.code yJ0_isLatin1_aae02 cJ0_isLatin1_aae02 1 (some .boolean), Cond.methodLink RJ0 495 yJ1_charAt_3b067]
def wsX6_spells_r2 : List Cond := [Cond.static yJ1_charAt_3b067, Cond.initialized RJ1, Cond.code yJ1_charAt_3b067 cJ1_charAt_3b067 2 (some .char), Cond.methodLink RJ1 9 yJ0_checkIndex_df160, Cond.static yJ0_checkIndex_df160, Cond.code yJ0_checkIndex_df160 cJ0_checkIndex_df160 2 none, Cond.fieldLink RJ0 1053 "jdk/internal/util/Preconditions" "SIOOBE_FORMATTER" "Ljava/util/function/BiFunction;", Cond.methodLink RJ0 1059 yJ3_checkIndex_8e157, Cond.static yJ3_checkIndex_8e157, Cond.initialized RJ3, Cond.code yJ3_checkIndex_8e157 cJ3_checkIndex_8e157 3 (some .int), Cond.methodLink RJ0 498 yJ2_charAt_3b067, Cond.static yJ2_charAt_3b067, Cond.initialized RJ2, Cond.code yJ2_charAt_3b067 cJ2_charAt_3b067 2 (some .char), Cond.methodLink RJ2 67 yJ2_checkIndex_2214a, Cond.static yJ2_checkIndex_2214a, Cond.code yJ2_checkIndex_2214a cJ2_checkIndex_2214a 2 none, Cond.methodLink RJ2 48 yJ2_length_9d52b, Cond.static yJ2_length_9d52b, Cond.code yJ2_length_9d52b cJ2_length_9d52b 1 (some .int), Cond.methodLink RJ2 414 yJ0_checkIndex_df160, Cond.methodLink RJ2 71 yJ2_getChar_3b067, Cond.static yJ2_getChar_3b067]
def wsX6_spells_r3 : List Cond := [Cond.code yJ2_getChar_3b067 cJ2_getChar_3b067 2 (some .char), Cond.fieldLink RJ2 44 "java/lang/StringUTF16" "$assertionsDisabled" "Z", Cond.fieldLink RJ2 59 "java/lang/StringUTF16" "HI_BYTE_SHIFT" "I", Cond.fieldLink RJ2 63 "java/lang/StringUTF16" "LO_BYTE_SHIFT" "I"]
def wsX6_spells : List Cond := .code yX6_spells cX6_spells 3 (some .boolean) :: ((wsX6_spells_r1 ++ (wsX6_spells_r2 ++ wsX6_spells_r3)) ++ wsX60)
def wsX6_number_r1 : List Cond := [Cond.fieldLink RX6 31 "EggSpoons$Reader" "fault" "I", Cond.fieldLink RX6 25 "EggSpoons$Reader" "sort" "I", Cond.fieldLink RX6 28 "EggSpoons$Reader" "value" "I", Cond.fieldLink RX6 22 "EggSpoons$Reader" "tokenAt" "I", Cond.methodLink RX6 41 yX6_nextToken, Cond.instanceMethod yX6_nextToken, Cond.selects RX6 yX6_nextToken yX6_nextToken, Cond.initialized RX6, Cond.code yX6_nextToken cX6_nextToken 1 none, Cond.fieldLink RX6 19 "EggSpoons$Reader" "at" "I", Cond.fieldLink RX6 15 "EggSpoons$Reader" "length" "I", Cond.fieldLink RX6 11 "EggSpoons$Reader" "bytes" "[I", Cond.methodLink RX6 38 yX6_skipBlanks, Cond.instanceMethod yX6_skipBlanks, Cond.selects RX6 yX6_skipBlanks yX6_skipBlanks, Cond.code yX6_skipBlanks cX6_skipBlanks 1 none, Cond.methodLink RX6 118 yX6_isLetter, Cond.static yX6_isLetter, Cond.code yX6_isLetter cX6_isLetter 1 (some .boolean), Cond.methodLink RX6 122 yX6_takeLetters, Cond.instanceMethod yX6_takeLetters, Cond.selects RX6 yX6_takeLetters yX6_takeLetters, Cond.code yX6_takeLetters cX6_takeLetters 1 none, Cond.methodLink RX6 125 yX6_isFigure]
def wsX6_number_r2 : List Cond := [Cond.static yX6_isFigure, Cond.code yX6_isFigure cX6_isFigure 1 (some .boolean), Cond.methodLink RX6 128 yX6_takeFigures, Cond.instanceMethod yX6_takeFigures, Cond.selects RX6 yX6_takeFigures yX6_takeFigures, Cond.code yX6_takeFigures cX6_takeFigures 1 none]
def wsX6_number : List Cond := .code yX6_number cX6_number 3 (some .int) :: ((wsX6_number_r1 ++ wsX6_number_r2) ++ wsX60)
def wsX6_ended_r1 : List Cond := [Cond.fieldLink RX6 31 "EggSpoons$Reader" "fault" "I", Cond.fieldLink RX6 25 "EggSpoons$Reader" "sort" "I", Cond.fieldLink RX6 22 "EggSpoons$Reader" "tokenAt" "I", Cond.methodLink RX6 41 yX6_nextToken, Cond.instanceMethod yX6_nextToken, Cond.selects RX6 yX6_nextToken yX6_nextToken, Cond.initialized RX6, Cond.code yX6_nextToken cX6_nextToken 1 none, Cond.fieldLink RX6 19 "EggSpoons$Reader" "at" "I", Cond.fieldLink RX6 15 "EggSpoons$Reader" "length" "I", Cond.fieldLink RX6 11 "EggSpoons$Reader" "bytes" "[I", Cond.methodLink RX6 38 yX6_skipBlanks, Cond.instanceMethod yX6_skipBlanks, Cond.selects RX6 yX6_skipBlanks yX6_skipBlanks, Cond.code yX6_skipBlanks cX6_skipBlanks 1 none, Cond.methodLink RX6 118 yX6_isLetter, Cond.static yX6_isLetter, Cond.code yX6_isLetter cX6_isLetter 1 (some .boolean), Cond.methodLink RX6 122 yX6_takeLetters, Cond.instanceMethod yX6_takeLetters, Cond.selects RX6 yX6_takeLetters yX6_takeLetters, Cond.code yX6_takeLetters cX6_takeLetters 1 none, Cond.methodLink RX6 125 yX6_isFigure, Cond.static yX6_isFigure]
def wsX6_ended_r2 : List Cond := [Cond.code yX6_isFigure cX6_isFigure 1 (some .boolean), Cond.methodLink RX6 128 yX6_takeFigures, Cond.instanceMethod yX6_takeFigures, Cond.selects RX6 yX6_takeFigures yX6_takeFigures, Cond.code yX6_takeFigures cX6_takeFigures 1 none, Cond.fieldLink RX6 28 "EggSpoons$Reader" "value" "I"]
def wsX6_ended : List Cond := .code yX6_ended cX6_ended 1 (some .boolean) :: ((wsX6_ended_r1 ++ wsX6_ended_r2) ++ wsX60)
def wsX6_takeLength_r1 : List Cond := [Cond.methodLink RX6 79 yX6_number, Cond.instanceMethod yX6_number, Cond.selects RX6 yX6_number yX6_number, Cond.initialized RX6, Cond.code yX6_number cX6_number 3 (some .int), Cond.fieldLink RX6 31 "EggSpoons$Reader" "fault" "I", Cond.fieldLink RX6 25 "EggSpoons$Reader" "sort" "I", Cond.fieldLink RX6 28 "EggSpoons$Reader" "value" "I", Cond.fieldLink RX6 22 "EggSpoons$Reader" "tokenAt" "I", Cond.methodLink RX6 41 yX6_nextToken, Cond.instanceMethod yX6_nextToken, Cond.selects RX6 yX6_nextToken yX6_nextToken, Cond.code yX6_nextToken cX6_nextToken 1 none, Cond.fieldLink RX6 19 "EggSpoons$Reader" "at" "I", Cond.fieldLink RX6 15 "EggSpoons$Reader" "length" "I", Cond.fieldLink RX6 11 "EggSpoons$Reader" "bytes" "[I", Cond.methodLink RX6 38 yX6_skipBlanks, Cond.instanceMethod yX6_skipBlanks, Cond.selects RX6 yX6_skipBlanks yX6_skipBlanks, Cond.code yX6_skipBlanks cX6_skipBlanks 1 none, Cond.methodLink RX6 118 yX6_isLetter, Cond.static yX6_isLetter, Cond.code yX6_isLetter cX6_isLetter 1 (some .boolean), Cond.methodLink RX6 122 yX6_takeLetters]
def wsX6_takeLength_r2 : List Cond := [Cond.instanceMethod yX6_takeLetters, Cond.selects RX6 yX6_takeLetters yX6_takeLetters, Cond.code yX6_takeLetters cX6_takeLetters 1 none, Cond.methodLink RX6 125 yX6_isFigure, Cond.static yX6_isFigure, Cond.code yX6_isFigure cX6_isFigure 1 (some .boolean), Cond.methodLink RX6 128 yX6_takeFigures, Cond.instanceMethod yX6_takeFigures, Cond.selects RX6 yX6_takeFigures yX6_takeFigures, Cond.code yX6_takeFigures cX6_takeFigures 1 none, Cond.methodLink RX6 83 yX6_ended, Cond.instanceMethod yX6_ended, Cond.selects RX6 yX6_ended yX6_ended, Cond.code yX6_ended cX6_ended 1 (some .boolean), Cond.methodLink RX6 87 yX5_restart, Cond.instanceMethod yX5_restart, Cond.selects RX5 yX5_restart yX5_restart, Cond.initialized RX5, Cond.code yX5_restart cX5_restart 2 none, Cond.fieldLink RX5 9 "EggSpoons$Race" "length" "I", Cond.fieldLink RX5 15 "EggSpoons$Race" "tick" "I", Cond.fieldLink RX5 18 "EggSpoons$Race" "runners" "I", Cond.fieldLink RX5 30 "EggSpoons$Race" "past" "LEggSpoons$Past;", Cond.fieldLink RX5 50 "EggSpoons$Past" "size" "I"]
def wsX6_takeLength_r3 : List Cond := [Cond.fieldLink RX5 39 "EggSpoons$Race" "seenRows" "LEggSpoons$Rows;", Cond.fieldLink RX5 53 "EggSpoons$Rows" "size" "I", Cond.fieldLink RX5 43 "EggSpoons$Race" "noteRows" "LEggSpoons$Rows;", Cond.fieldLink RX5 46 "EggSpoons$Race" "markRows" "LEggSpoons$Rows;"]
def wsX6_takeLength : List Cond := .code yX6_takeLength cX6_takeLength 3 none :: ((wsX6_takeLength_r1 ++ (wsX6_takeLength_r2 ++ wsX6_takeLength_r3)) ++ wsX60 ++ wsX50 ++ wsX40 ++ wsX70)
def wsX6_takeRunner_r1 : List Cond := [Cond.methodLink RX6 79 yX6_number, Cond.instanceMethod yX6_number, Cond.selects RX6 yX6_number yX6_number, Cond.initialized RX6, Cond.code yX6_number cX6_number 3 (some .int), Cond.fieldLink RX6 31 "EggSpoons$Reader" "fault" "I", Cond.fieldLink RX6 25 "EggSpoons$Reader" "sort" "I", Cond.fieldLink RX6 28 "EggSpoons$Reader" "value" "I", Cond.fieldLink RX6 22 "EggSpoons$Reader" "tokenAt" "I", Cond.methodLink RX6 41 yX6_nextToken, Cond.instanceMethod yX6_nextToken, Cond.selects RX6 yX6_nextToken yX6_nextToken, Cond.code yX6_nextToken cX6_nextToken 1 none, Cond.fieldLink RX6 19 "EggSpoons$Reader" "at" "I", Cond.fieldLink RX6 15 "EggSpoons$Reader" "length" "I", Cond.fieldLink RX6 11 "EggSpoons$Reader" "bytes" "[I", Cond.methodLink RX6 38 yX6_skipBlanks, Cond.instanceMethod yX6_skipBlanks, Cond.selects RX6 yX6_skipBlanks yX6_skipBlanks, Cond.code yX6_skipBlanks cX6_skipBlanks 1 none, Cond.methodLink RX6 118 yX6_isLetter, Cond.static yX6_isLetter, Cond.code yX6_isLetter cX6_isLetter 1 (some .boolean), Cond.methodLink RX6 122 yX6_takeLetters]
def wsX6_takeRunner_r2 : List Cond := [Cond.instanceMethod yX6_takeLetters, Cond.selects RX6 yX6_takeLetters yX6_takeLetters, Cond.code yX6_takeLetters cX6_takeLetters 1 none, Cond.methodLink RX6 125 yX6_isFigure, Cond.static yX6_isFigure, Cond.code yX6_isFigure cX6_isFigure 1 (some .boolean), Cond.methodLink RX6 128 yX6_takeFigures, Cond.instanceMethod yX6_takeFigures, Cond.selects RX6 yX6_takeFigures yX6_takeFigures, Cond.code yX6_takeFigures cX6_takeFigures 1 none, Cond.methodLink RX6 83 yX6_ended, Cond.instanceMethod yX6_ended, Cond.selects RX6 yX6_ended yX6_ended, Cond.code yX6_ended cX6_ended 1 (some .boolean), Cond.methodLink RX6 91 yX5_welcome, Cond.instanceMethod yX5_welcome, Cond.selects RX5 yX5_welcome yX5_welcome, Cond.initialized RX5, Cond.code yX5_welcome cX5_welcome 4 none, Cond.fieldLink RX5 18 "EggSpoons$Race" "runners" "I", Cond.fieldLink RX5 23 "EggSpoons$Race" "row" "[LEggSpoons$Runner;", Cond.fieldLink RX5 30 "EggSpoons$Race" "past" "LEggSpoons$Past;", Cond.fieldLink RX5 50 "EggSpoons$Past" "size" "I", Cond.methodLink RX5 54 yX8_begin]
def wsX6_takeRunner_r3 : List Cond := [Cond.instanceMethod yX8_begin, Cond.selects RX8 yX8_begin yX8_begin, Cond.initialized RX8, Cond.code yX8_begin cX8_begin 4 none, Cond.fieldLink RX8 9 "EggSpoons$Runner" "kind" "I", Cond.fieldLink RX8 15 "EggSpoons$Runner" "legs" "I", Cond.fieldLink RX8 18 "EggSpoons$Runner" "egg" "I", Cond.fieldLink RX8 21 "EggSpoons$Runner" "speed" "I", Cond.fieldLink RX8 24 "EggSpoons$Runner" "place" "I", Cond.fieldLink RX8 27 "EggSpoons$Runner" "drops" "I", Cond.fieldLink RX8 30 "EggSpoons$Runner" "waits" "I", Cond.fieldLink RX8 33 "EggSpoons$Runner" "homeAt" "I"]
def wsX6_takeRunner : List Cond := .code yX6_takeRunner cX6_takeRunner 5 none :: ((wsX6_takeRunner_r1 ++ (wsX6_takeRunner_r2 ++ wsX6_takeRunner_r3)) ++ wsX60 ++ wsX50 ++ wsX40 ++ wsX80)
def wsX6_takeSpeed_r1 : List Cond := [Cond.fieldLink RX6 56 "EggSpoons$Race" "runners" "I", Cond.fieldLink RX6 95 "EggSpoons$Race" "row" "[LEggSpoons$Runner;", Cond.fieldLink RX6 99 "EggSpoons$Runner" "speed" "I", Cond.methodLink RX6 79 yX6_number, Cond.instanceMethod yX6_number, Cond.selects RX6 yX6_number yX6_number, Cond.initialized RX6, Cond.code yX6_number cX6_number 3 (some .int), Cond.fieldLink RX6 31 "EggSpoons$Reader" "fault" "I", Cond.fieldLink RX6 25 "EggSpoons$Reader" "sort" "I", Cond.fieldLink RX6 28 "EggSpoons$Reader" "value" "I", Cond.fieldLink RX6 22 "EggSpoons$Reader" "tokenAt" "I", Cond.methodLink RX6 41 yX6_nextToken, Cond.instanceMethod yX6_nextToken, Cond.selects RX6 yX6_nextToken yX6_nextToken, Cond.code yX6_nextToken cX6_nextToken 1 none, Cond.fieldLink RX6 19 "EggSpoons$Reader" "at" "I", Cond.fieldLink RX6 15 "EggSpoons$Reader" "length" "I", Cond.fieldLink RX6 11 "EggSpoons$Reader" "bytes" "[I", Cond.methodLink RX6 38 yX6_skipBlanks, Cond.instanceMethod yX6_skipBlanks, Cond.selects RX6 yX6_skipBlanks yX6_skipBlanks, Cond.code yX6_skipBlanks cX6_skipBlanks 1 none, Cond.methodLink RX6 118 yX6_isLetter]
def wsX6_takeSpeed_r2 : List Cond := [Cond.static yX6_isLetter, Cond.code yX6_isLetter cX6_isLetter 1 (some .boolean), Cond.methodLink RX6 122 yX6_takeLetters, Cond.instanceMethod yX6_takeLetters, Cond.selects RX6 yX6_takeLetters yX6_takeLetters, Cond.code yX6_takeLetters cX6_takeLetters 1 none, Cond.methodLink RX6 125 yX6_isFigure, Cond.static yX6_isFigure, Cond.code yX6_isFigure cX6_isFigure 1 (some .boolean), Cond.methodLink RX6 128 yX6_takeFigures, Cond.instanceMethod yX6_takeFigures, Cond.selects RX6 yX6_takeFigures yX6_takeFigures, Cond.code yX6_takeFigures cX6_takeFigures 1 none, Cond.methodLink RX6 83 yX6_ended, Cond.instanceMethod yX6_ended, Cond.selects RX6 yX6_ended yX6_ended, Cond.code yX6_ended cX6_ended 1 (some .boolean)]
def wsX6_takeSpeed : List Cond := .code yX6_takeSpeed cX6_takeSpeed 4 none :: ((wsX6_takeSpeed_r1 ++ wsX6_takeSpeed_r2) ++ wsX50 ++ wsX80 ++ wsX60)
def wsX6_takeStart_r1 : List Cond := [Cond.fieldLink RX6 56 "EggSpoons$Race" "runners" "I", Cond.fieldLink RX6 95 "EggSpoons$Race" "row" "[LEggSpoons$Runner;", Cond.fieldLink RX6 22 "EggSpoons$Reader" "tokenAt" "I", Cond.fieldLink RX6 31 "EggSpoons$Reader" "fault" "I", Cond.fieldLink RX6 106 "EggSpoons$Race" "length" "I", Cond.methodLink RX6 107 Lib.Math.min.name, Cond.static Lib.Math.min.name, Cond.initialized "java/lang/Math", Cond.code Lib.Math.min.name Lib.Math.min.code 2 (some .int), Cond.fieldLink RX6 112 "EggSpoons$Runner" "place" "I", Cond.methodLink RX6 79 yX6_number, Cond.instanceMethod yX6_number, Cond.selects RX6 yX6_number yX6_number, Cond.initialized RX6, Cond.code yX6_number cX6_number 3 (some .int), Cond.fieldLink RX6 25 "EggSpoons$Reader" "sort" "I", Cond.fieldLink RX6 28 "EggSpoons$Reader" "value" "I", Cond.methodLink RX6 41 yX6_nextToken, Cond.instanceMethod yX6_nextToken, Cond.selects RX6 yX6_nextToken yX6_nextToken, Cond.code yX6_nextToken cX6_nextToken 1 none, Cond.fieldLink RX6 19 "EggSpoons$Reader" "at" "I", Cond.fieldLink RX6 15 "EggSpoons$Reader" "length" "I", Cond.fieldLink RX6 11 "EggSpoons$Reader" "bytes" "[I"]
def wsX6_takeStart_r2 : List Cond := [Cond.methodLink RX6 38 yX6_skipBlanks, Cond.instanceMethod yX6_skipBlanks, Cond.selects RX6 yX6_skipBlanks yX6_skipBlanks, Cond.code yX6_skipBlanks cX6_skipBlanks 1 none, Cond.methodLink RX6 118 yX6_isLetter, Cond.static yX6_isLetter, Cond.code yX6_isLetter cX6_isLetter 1 (some .boolean), Cond.methodLink RX6 122 yX6_takeLetters, Cond.instanceMethod yX6_takeLetters, Cond.selects RX6 yX6_takeLetters yX6_takeLetters, Cond.code yX6_takeLetters cX6_takeLetters 1 none, Cond.methodLink RX6 125 yX6_isFigure, Cond.static yX6_isFigure, Cond.code yX6_isFigure cX6_isFigure 1 (some .boolean), Cond.methodLink RX6 128 yX6_takeFigures, Cond.instanceMethod yX6_takeFigures, Cond.selects RX6 yX6_takeFigures yX6_takeFigures, Cond.code yX6_takeFigures cX6_takeFigures 1 none, Cond.methodLink RX6 103 yX8_isHome, Cond.instanceMethod yX8_isHome, Cond.selects RX8 yX8_isHome yX8_isHome, Cond.initialized RX8, Cond.code yX8_isHome cX8_isHome 1 (some .boolean), Cond.fieldLink RX8 33 "EggSpoons$Runner" "homeAt" "I"]
def wsX6_takeStart_r3 : List Cond := [Cond.methodLink RX6 83 yX6_ended, Cond.instanceMethod yX6_ended, Cond.selects RX6 yX6_ended yX6_ended, Cond.code yX6_ended cX6_ended 1 (some .boolean)]
def wsX6_takeStart : List Cond := .code yX6_takeStart cX6_takeStart 5 none :: ((wsX6_takeStart_r1 ++ (wsX6_takeStart_r2 ++ wsX6_takeStart_r3)) ++ wsX50 ++ wsX60 ++ wsX80)
def wsX6_takeTicks_r1 : List Cond := [Cond.methodLink RX6 79 yX6_number, Cond.instanceMethod yX6_number, Cond.selects RX6 yX6_number yX6_number, Cond.initialized RX6, Cond.code yX6_number cX6_number 3 (some .int), Cond.fieldLink RX6 31 "EggSpoons$Reader" "fault" "I", Cond.fieldLink RX6 25 "EggSpoons$Reader" "sort" "I", Cond.fieldLink RX6 28 "EggSpoons$Reader" "value" "I", Cond.fieldLink RX6 22 "EggSpoons$Reader" "tokenAt" "I", Cond.methodLink RX6 41 yX6_nextToken, Cond.instanceMethod yX6_nextToken, Cond.selects RX6 yX6_nextToken yX6_nextToken, Cond.code yX6_nextToken cX6_nextToken 1 none, Cond.fieldLink RX6 19 "EggSpoons$Reader" "at" "I", Cond.fieldLink RX6 15 "EggSpoons$Reader" "length" "I", Cond.fieldLink RX6 11 "EggSpoons$Reader" "bytes" "[I", Cond.methodLink RX6 38 yX6_skipBlanks, Cond.instanceMethod yX6_skipBlanks, Cond.selects RX6 yX6_skipBlanks yX6_skipBlanks, Cond.code yX6_skipBlanks cX6_skipBlanks 1 none, Cond.methodLink RX6 118 yX6_isLetter, Cond.static yX6_isLetter, Cond.code yX6_isLetter cX6_isLetter 1 (some .boolean), Cond.methodLink RX6 122 yX6_takeLetters]
def wsX6_takeTicks_r2 : List Cond := [Cond.instanceMethod yX6_takeLetters, Cond.selects RX6 yX6_takeLetters yX6_takeLetters, Cond.code yX6_takeLetters cX6_takeLetters 1 none, Cond.methodLink RX6 125 yX6_isFigure, Cond.static yX6_isFigure, Cond.code yX6_isFigure cX6_isFigure 1 (some .boolean), Cond.methodLink RX6 128 yX6_takeFigures, Cond.instanceMethod yX6_takeFigures, Cond.selects RX6 yX6_takeFigures yX6_takeFigures, Cond.code yX6_takeFigures cX6_takeFigures 1 none, Cond.methodLink RX6 83 yX6_ended, Cond.instanceMethod yX6_ended, Cond.selects RX6 yX6_ended yX6_ended, Cond.code yX6_ended cX6_ended 1 (some .boolean), Cond.methodLink RX6 115 yX5_goOn, Cond.instanceMethod yX5_goOn, Cond.selects RX5 yX5_goOn yX5_goOn, Cond.initialized RX5, Cond.code yX5_goOn cX5_goOn 2 none, Cond.fieldLink RX5 15 "EggSpoons$Race" "tick" "I", Cond.fieldLink RX5 18 "EggSpoons$Race" "runners" "I", Cond.fieldLink RX5 23 "EggSpoons$Race" "row" "[LEggSpoons$Runner;", Cond.fieldLink RX5 9 "EggSpoons$Race" "length" "I", Cond.methodLink RX5 72 yX8_step]
def wsX6_takeTicks_r3 : List Cond := [Cond.instanceMethod yX8_step, Cond.selects RX8 yX8_step yX8_step, Cond.initialized RX8, Cond.code yX8_step cX8_step 4 none, Cond.fieldLink RX8 30 "EggSpoons$Runner" "waits" "I", Cond.fieldLink RX8 9 "EggSpoons$Runner" "kind" "I", Cond.fieldLink RX8 15 "EggSpoons$Runner" "legs" "I", Cond.fieldLink RX8 21 "EggSpoons$Runner" "speed" "I", Cond.fieldLink RX8 18 "EggSpoons$Runner" "egg" "I", Cond.fieldLink RX8 27 "EggSpoons$Runner" "drops" "I", Cond.fieldLink RX8 24 "EggSpoons$Runner" "place" "I", Cond.fieldLink RX8 33 "EggSpoons$Runner" "homeAt" "I", Cond.methodLink RX8 48 yX8_isHome, Cond.instanceMethod yX8_isHome, Cond.selects RX8 yX8_isHome yX8_isHome, Cond.code yX8_isHome cX8_isHome 1 (some .boolean), Cond.methodLink RX8 36 yX2_reach, Cond.static yX2_reach, Cond.initialized RX2, Cond.code yX2_reach cX2_reach 7 (some .int), Cond.methodLink RX8 42 yX1_limit, Cond.static yX1_limit, Cond.initialized RX1, Cond.code yX1_limit cX1_limit 5 (some .int)]
def wsX6_takeTicks : List Cond := .code yX6_takeTicks cX6_takeTicks 4 none :: ((wsX6_takeTicks_r1 ++ (wsX6_takeTicks_r2 ++ wsX6_takeTicks_r3)) ++ wsX60 ++ wsX50 ++ wsX80)
def wsX6_takeItem_r1 : List Cond := [Cond.fieldLink RX6 25 "EggSpoons$Reader" "sort" "I", Cond.fieldLink RX6 22 "EggSpoons$Reader" "tokenAt" "I", Cond.fieldLink RX6 31 "EggSpoons$Reader" "fault" "I", Cond.fieldLink RX6 56 "EggSpoons$Race" "runners" "I", Cond.methodLink RX6 41 yX6_nextToken, Cond.instanceMethod yX6_nextToken, Cond.selects RX6 yX6_nextToken yX6_nextToken, Cond.initialized RX6, Cond.code yX6_nextToken cX6_nextToken 1 none, Cond.fieldLink RX6 19 "EggSpoons$Reader" "at" "I", Cond.fieldLink RX6 15 "EggSpoons$Reader" "length" "I", Cond.fieldLink RX6 11 "EggSpoons$Reader" "bytes" "[I", Cond.methodLink RX6 38 yX6_skipBlanks, Cond.instanceMethod yX6_skipBlanks, Cond.selects RX6 yX6_skipBlanks yX6_skipBlanks, Cond.code yX6_skipBlanks cX6_skipBlanks 1 none, Cond.methodLink RX6 118 yX6_isLetter, Cond.static yX6_isLetter, Cond.code yX6_isLetter cX6_isLetter 1 (some .boolean), Cond.methodLink RX6 122 yX6_takeLetters, Cond.instanceMethod yX6_takeLetters, Cond.selects RX6 yX6_takeLetters yX6_takeLetters, Cond.code yX6_takeLetters cX6_takeLetters 1 none, Cond.methodLink RX6 125 yX6_isFigure]
def wsX6_takeItem_r2 : List Cond := [Cond.static yX6_isFigure, Cond.code yX6_isFigure cX6_isFigure 1 (some .boolean), Cond.methodLink RX6 128 yX6_takeFigures, Cond.instanceMethod yX6_takeFigures, Cond.selects RX6 yX6_takeFigures yX6_takeFigures, Cond.code yX6_takeFigures cX6_takeFigures 1 none, Cond.fieldLink RX6 28 "EggSpoons$Reader" "value" "I", Cond.methodLink RX6 46 yX6_spells, Cond.instanceMethod yX6_spells, Cond.selects RX6 yX6_spells yX6_spells, Cond.code yX6_spells cX6_spells 3 (some .boolean), Cond.methodLink RX6 131 yJ0_length_8abf5, Cond.instanceMethod yJ0_length_8abf5, Cond.selects RJ0 yJ0_length_8abf5 yJ0_length_8abf5, Cond.initialized RJ0, Cond.code yJ0_length_8abf5 cJ0_length_8abf5 1 (some .int), Cond.fieldLink RJ0 9 "java/lang/String" "value" "[B", Cond.methodLink RJ0 335 yJ0_coder_7d493, Cond.instanceMethod yJ0_coder_7d493, Cond.selects RJ0 yJ0_coder_7d493 yJ0_coder_7d493, Cond.code yJ0_coder_7d493 cJ0_coder_7d493 1 (some .byte), Cond.fieldLink RJ0 38 "java/lang/String" "COMPACT_STRINGS" "Z", Cond.fieldLink RJ0 15 "java/lang/String" "coder" "B", Cond.methodLink RX6 136 yJ0_charAt_5068e]
def wsX6_takeItem_r3 : List Cond := [Cond.instanceMethod yJ0_charAt_5068e, Cond.selects RJ0 yJ0_charAt_5068e yJ0_charAt_5068e, Cond.code yJ0_charAt_5068e cJ0_charAt_5068e 2 (some .char), Cond.methodLink RJ0 492 yJ0_isLatin1_aae02, Cond.instanceMethod yJ0_isLatin1_aae02, Cond.selects RJ0 yJ0_isLatin1_aae02 yJ0_isLatin1_aae02, Cond.code yJ0_isLatin1_aae02 cJ0_isLatin1_aae02 1 (some .boolean), Cond.methodLink RJ0 495 yJ1_charAt_3b067, Cond.static yJ1_charAt_3b067, Cond.initialized RJ1, Cond.code yJ1_charAt_3b067 cJ1_charAt_3b067 2 (some .char), Cond.methodLink RJ1 9 yJ0_checkIndex_df160, Cond.static yJ0_checkIndex_df160, Cond.code yJ0_checkIndex_df160 cJ0_checkIndex_df160 2 none, Cond.fieldLink RJ0 1053 "jdk/internal/util/Preconditions" "SIOOBE_FORMATTER" "Ljava/util/function/BiFunction;", Cond.methodLink RJ0 1059 yJ3_checkIndex_8e157, Cond.static yJ3_checkIndex_8e157, Cond.initialized RJ3, Cond.code yJ3_checkIndex_8e157 cJ3_checkIndex_8e157 3 (some .int), Cond.methodLink RJ0 498 yJ2_charAt_3b067, Cond.static yJ2_charAt_3b067, Cond.initialized RJ2, Cond.code yJ2_charAt_3b067 cJ2_charAt_3b067 2 (some .char), Cond.methodLink RJ2 67 yJ2_checkIndex_2214a]
def wsX6_takeItem_r4 : List Cond := [Cond.static yJ2_checkIndex_2214a, Cond.code yJ2_checkIndex_2214a cJ2_checkIndex_2214a 2 none, Cond.methodLink RJ2 48 yJ2_length_9d52b, Cond.static yJ2_length_9d52b, Cond.code yJ2_length_9d52b cJ2_length_9d52b 1 (some .int), Cond.methodLink RJ2 414 yJ0_checkIndex_df160, Cond.methodLink RJ2 71 yJ2_getChar_3b067, Cond.static yJ2_getChar_3b067, Cond.code yJ2_getChar_3b067 cJ2_getChar_3b067 2 (some .char), Cond.fieldLink RJ2 44 "java/lang/StringUTF16" "$assertionsDisabled" "Z", Cond.fieldLink RJ2 59 "java/lang/StringUTF16" "HI_BYTE_SHIFT" "I", Cond.fieldLink RJ2 63 "java/lang/StringUTF16" "LO_BYTE_SHIFT" "I", Cond.methodLink RX6 50 yX6_takeLength, Cond.instanceMethod yX6_takeLength, Cond.selects RX6 yX6_takeLength yX6_takeLength, Cond.code yX6_takeLength cX6_takeLength 3 none, Cond.methodLink RX6 79 yX6_number, Cond.instanceMethod yX6_number, Cond.selects RX6 yX6_number yX6_number, Cond.code yX6_number cX6_number 3 (some .int), Cond.methodLink RX6 83 yX6_ended, Cond.instanceMethod yX6_ended, Cond.selects RX6 yX6_ended yX6_ended, Cond.code yX6_ended cX6_ended 1 (some .boolean)]
def wsX6_takeItem_r5 : List Cond := [Cond.methodLink RX6 87 yX5_restart, Cond.instanceMethod yX5_restart, Cond.selects RX5 yX5_restart yX5_restart, Cond.initialized RX5, Cond.code yX5_restart cX5_restart 2 none, Cond.fieldLink RX5 9 "EggSpoons$Race" "length" "I", Cond.fieldLink RX5 15 "EggSpoons$Race" "tick" "I", Cond.fieldLink RX5 18 "EggSpoons$Race" "runners" "I", Cond.fieldLink RX5 30 "EggSpoons$Race" "past" "LEggSpoons$Past;", Cond.fieldLink RX5 50 "EggSpoons$Past" "size" "I", Cond.fieldLink RX5 39 "EggSpoons$Race" "seenRows" "LEggSpoons$Rows;", Cond.fieldLink RX5 53 "EggSpoons$Rows" "size" "I", Cond.fieldLink RX5 43 "EggSpoons$Race" "noteRows" "LEggSpoons$Rows;", Cond.fieldLink RX5 46 "EggSpoons$Race" "markRows" "LEggSpoons$Rows;", Cond.methodLink RX6 61 yX6_takeRunner, Cond.instanceMethod yX6_takeRunner, Cond.selects RX6 yX6_takeRunner yX6_takeRunner, Cond.code yX6_takeRunner cX6_takeRunner 5 none, Cond.methodLink RX6 91 yX5_welcome, Cond.instanceMethod yX5_welcome, Cond.selects RX5 yX5_welcome yX5_welcome, Cond.code yX5_welcome cX5_welcome 4 none, Cond.fieldLink RX5 23 "EggSpoons$Race" "row" "[LEggSpoons$Runner;", Cond.methodLink RX5 54 yX8_begin]
def wsX6_takeItem_r6 : List Cond := [Cond.instanceMethod yX8_begin, Cond.selects RX8 yX8_begin yX8_begin, Cond.initialized RX8, Cond.code yX8_begin cX8_begin 4 none, Cond.fieldLink RX8 9 "EggSpoons$Runner" "kind" "I", Cond.fieldLink RX8 15 "EggSpoons$Runner" "legs" "I", Cond.fieldLink RX8 18 "EggSpoons$Runner" "egg" "I", Cond.fieldLink RX8 21 "EggSpoons$Runner" "speed" "I", Cond.fieldLink RX8 24 "EggSpoons$Runner" "place" "I", Cond.fieldLink RX8 27 "EggSpoons$Runner" "drops" "I", Cond.fieldLink RX8 30 "EggSpoons$Runner" "waits" "I", Cond.fieldLink RX8 33 "EggSpoons$Runner" "homeAt" "I", Cond.methodLink RX6 66 yX6_takeSpeed, Cond.instanceMethod yX6_takeSpeed, Cond.selects RX6 yX6_takeSpeed yX6_takeSpeed, Cond.code yX6_takeSpeed cX6_takeSpeed 4 none, Cond.fieldLink RX6 95 "EggSpoons$Race" "row" "[LEggSpoons$Runner;", Cond.fieldLink RX6 99 "EggSpoons$Runner" "speed" "I", Cond.methodLink RX6 71 yX6_takeStart, Cond.instanceMethod yX6_takeStart, Cond.selects RX6 yX6_takeStart yX6_takeStart, Cond.code yX6_takeStart cX6_takeStart 5 none, Cond.fieldLink RX6 106 "EggSpoons$Race" "length" "I", Cond.methodLink RX6 107 Lib.Math.min.name]
def wsX6_takeItem_r7 : List Cond := [Cond.static Lib.Math.min.name, Cond.initialized "java/lang/Math", Cond.code Lib.Math.min.name Lib.Math.min.code 2 (some .int), Cond.fieldLink RX6 112 "EggSpoons$Runner" "place" "I", Cond.methodLink RX6 103 yX8_isHome, Cond.instanceMethod yX8_isHome, Cond.selects RX8 yX8_isHome yX8_isHome, Cond.code yX8_isHome cX8_isHome 1 (some .boolean), Cond.methodLink RX6 76 yX6_takeTicks, Cond.instanceMethod yX6_takeTicks, Cond.selects RX6 yX6_takeTicks yX6_takeTicks, Cond.code yX6_takeTicks cX6_takeTicks 4 none, Cond.methodLink RX6 115 yX5_goOn, Cond.instanceMethod yX5_goOn, Cond.selects RX5 yX5_goOn yX5_goOn, Cond.code yX5_goOn cX5_goOn 2 none, Cond.methodLink RX5 72 yX8_step, Cond.instanceMethod yX8_step, Cond.selects RX8 yX8_step yX8_step, Cond.code yX8_step cX8_step 4 none, Cond.methodLink RX8 48 yX8_isHome, Cond.methodLink RX8 36 yX2_reach, Cond.static yX2_reach, Cond.initialized RX2]
def wsX6_takeItem_r8 : List Cond := [Cond.code yX2_reach cX2_reach 7 (some .int), Cond.methodLink RX8 42 yX1_limit, Cond.static yX1_limit, Cond.initialized RX1, Cond.code yX1_limit cX1_limit 5 (some .int)]
def wsX6_takeItem : List Cond := .code yX6_takeItem cX6_takeItem 3 none :: ((wsX6_takeItem_r1 ++ (wsX6_takeItem_r2 ++ (wsX6_takeItem_r3 ++ (wsX6_takeItem_r4 ++ (wsX6_takeItem_r5 ++ (wsX6_takeItem_r6 ++ (wsX6_takeItem_r7 ++ wsX6_takeItem_r8))))))) ++ wsX60 ++ wsX50 ++ wsX40 ++ wsX70 ++ wsX80)
def wsX6_takeRace_r1 : List Cond := [Cond.fieldLink RX6 19 "EggSpoons$Reader" "at" "I", Cond.fieldLink RX6 31 "EggSpoons$Reader" "fault" "I", Cond.fieldLink RX6 15 "EggSpoons$Reader" "length" "I", Cond.methodLink RX6 34 yX6_takeItem, Cond.instanceMethod yX6_takeItem, Cond.selects RX6 yX6_takeItem yX6_takeItem, Cond.initialized RX6, Cond.code yX6_takeItem cX6_takeItem 3 none, Cond.fieldLink RX6 25 "EggSpoons$Reader" "sort" "I", Cond.fieldLink RX6 22 "EggSpoons$Reader" "tokenAt" "I", Cond.fieldLink RX6 56 "EggSpoons$Race" "runners" "I", Cond.methodLink RX6 41 yX6_nextToken, Cond.instanceMethod yX6_nextToken, Cond.selects RX6 yX6_nextToken yX6_nextToken, Cond.code yX6_nextToken cX6_nextToken 1 none, Cond.fieldLink RX6 11 "EggSpoons$Reader" "bytes" "[I", Cond.methodLink RX6 38 yX6_skipBlanks, Cond.instanceMethod yX6_skipBlanks, Cond.selects RX6 yX6_skipBlanks yX6_skipBlanks, Cond.code yX6_skipBlanks cX6_skipBlanks 1 none, Cond.methodLink RX6 118 yX6_isLetter, Cond.static yX6_isLetter, Cond.code yX6_isLetter cX6_isLetter 1 (some .boolean), Cond.methodLink RX6 122 yX6_takeLetters]
def wsX6_takeRace_r2 : List Cond := [Cond.instanceMethod yX6_takeLetters, Cond.selects RX6 yX6_takeLetters yX6_takeLetters, Cond.code yX6_takeLetters cX6_takeLetters 1 none, Cond.methodLink RX6 125 yX6_isFigure, Cond.static yX6_isFigure, Cond.code yX6_isFigure cX6_isFigure 1 (some .boolean), Cond.methodLink RX6 128 yX6_takeFigures, Cond.instanceMethod yX6_takeFigures, Cond.selects RX6 yX6_takeFigures yX6_takeFigures, Cond.code yX6_takeFigures cX6_takeFigures 1 none, Cond.fieldLink RX6 28 "EggSpoons$Reader" "value" "I", Cond.methodLink RX6 46 yX6_spells, Cond.instanceMethod yX6_spells, Cond.selects RX6 yX6_spells yX6_spells, Cond.code yX6_spells cX6_spells 3 (some .boolean), Cond.methodLink RX6 131 yJ0_length_8abf5, Cond.instanceMethod yJ0_length_8abf5, Cond.selects RJ0 yJ0_length_8abf5 yJ0_length_8abf5, Cond.initialized RJ0, Cond.code yJ0_length_8abf5 cJ0_length_8abf5 1 (some .int), Cond.fieldLink RJ0 9 "java/lang/String" "value" "[B", Cond.methodLink RJ0 335 yJ0_coder_7d493, Cond.instanceMethod yJ0_coder_7d493, Cond.selects RJ0 yJ0_coder_7d493 yJ0_coder_7d493]
def wsX6_takeRace_r3 : List Cond := [Cond.code yJ0_coder_7d493 cJ0_coder_7d493 1 (some .byte), Cond.fieldLink RJ0 38 "java/lang/String" "COMPACT_STRINGS" "Z", Cond.fieldLink RJ0 15 "java/lang/String" "coder" "B", Cond.methodLink RX6 136 yJ0_charAt_5068e, Cond.instanceMethod yJ0_charAt_5068e, Cond.selects RJ0 yJ0_charAt_5068e yJ0_charAt_5068e, Cond.code yJ0_charAt_5068e cJ0_charAt_5068e 2 (some .char), Cond.methodLink RJ0 492 yJ0_isLatin1_aae02, Cond.instanceMethod yJ0_isLatin1_aae02, Cond.selects RJ0 yJ0_isLatin1_aae02 yJ0_isLatin1_aae02, Cond.code yJ0_isLatin1_aae02 cJ0_isLatin1_aae02 1 (some .boolean), Cond.methodLink RJ0 495 yJ1_charAt_3b067, Cond.static yJ1_charAt_3b067, Cond.initialized RJ1, Cond.code yJ1_charAt_3b067 cJ1_charAt_3b067 2 (some .char), Cond.methodLink RJ1 9 yJ0_checkIndex_df160, Cond.static yJ0_checkIndex_df160, Cond.code yJ0_checkIndex_df160 cJ0_checkIndex_df160 2 none, Cond.fieldLink RJ0 1053 "jdk/internal/util/Preconditions" "SIOOBE_FORMATTER" "Ljava/util/function/BiFunction;", Cond.methodLink RJ0 1059 yJ3_checkIndex_8e157, Cond.static yJ3_checkIndex_8e157, Cond.initialized RJ3, Cond.code yJ3_checkIndex_8e157 cJ3_checkIndex_8e157 3 (some .int), Cond.methodLink RJ0 498 yJ2_charAt_3b067]
def wsX6_takeRace_r4 : List Cond := [Cond.static yJ2_charAt_3b067, Cond.initialized RJ2, Cond.code yJ2_charAt_3b067 cJ2_charAt_3b067 2 (some .char), Cond.methodLink RJ2 67 yJ2_checkIndex_2214a, Cond.static yJ2_checkIndex_2214a, Cond.code yJ2_checkIndex_2214a cJ2_checkIndex_2214a 2 none, Cond.methodLink RJ2 48 yJ2_length_9d52b, Cond.static yJ2_length_9d52b, Cond.code yJ2_length_9d52b cJ2_length_9d52b 1 (some .int), Cond.methodLink RJ2 414 yJ0_checkIndex_df160, Cond.methodLink RJ2 71 yJ2_getChar_3b067, Cond.static yJ2_getChar_3b067, Cond.code yJ2_getChar_3b067 cJ2_getChar_3b067 2 (some .char), Cond.fieldLink RJ2 44 "java/lang/StringUTF16" "$assertionsDisabled" "Z", Cond.fieldLink RJ2 59 "java/lang/StringUTF16" "HI_BYTE_SHIFT" "I", Cond.fieldLink RJ2 63 "java/lang/StringUTF16" "LO_BYTE_SHIFT" "I", Cond.methodLink RX6 50 yX6_takeLength, Cond.instanceMethod yX6_takeLength, Cond.selects RX6 yX6_takeLength yX6_takeLength, Cond.code yX6_takeLength cX6_takeLength 3 none, Cond.methodLink RX6 79 yX6_number, Cond.instanceMethod yX6_number, Cond.selects RX6 yX6_number yX6_number, Cond.code yX6_number cX6_number 3 (some .int)]
def wsX6_takeRace_r5 : List Cond := [Cond.methodLink RX6 83 yX6_ended, Cond.instanceMethod yX6_ended, Cond.selects RX6 yX6_ended yX6_ended, Cond.code yX6_ended cX6_ended 1 (some .boolean), Cond.methodLink RX6 87 yX5_restart, Cond.instanceMethod yX5_restart, Cond.selects RX5 yX5_restart yX5_restart, Cond.initialized RX5, Cond.code yX5_restart cX5_restart 2 none, Cond.fieldLink RX5 9 "EggSpoons$Race" "length" "I", Cond.fieldLink RX5 15 "EggSpoons$Race" "tick" "I", Cond.fieldLink RX5 18 "EggSpoons$Race" "runners" "I", Cond.fieldLink RX5 30 "EggSpoons$Race" "past" "LEggSpoons$Past;", Cond.fieldLink RX5 50 "EggSpoons$Past" "size" "I", Cond.fieldLink RX5 39 "EggSpoons$Race" "seenRows" "LEggSpoons$Rows;", Cond.fieldLink RX5 53 "EggSpoons$Rows" "size" "I", Cond.fieldLink RX5 43 "EggSpoons$Race" "noteRows" "LEggSpoons$Rows;", Cond.fieldLink RX5 46 "EggSpoons$Race" "markRows" "LEggSpoons$Rows;", Cond.methodLink RX6 61 yX6_takeRunner, Cond.instanceMethod yX6_takeRunner, Cond.selects RX6 yX6_takeRunner yX6_takeRunner, Cond.code yX6_takeRunner cX6_takeRunner 5 none, Cond.methodLink RX6 91 yX5_welcome, Cond.instanceMethod yX5_welcome]
def wsX6_takeRace_r6 : List Cond := [Cond.selects RX5 yX5_welcome yX5_welcome, Cond.code yX5_welcome cX5_welcome 4 none, Cond.fieldLink RX5 23 "EggSpoons$Race" "row" "[LEggSpoons$Runner;", Cond.methodLink RX5 54 yX8_begin, Cond.instanceMethod yX8_begin, Cond.selects RX8 yX8_begin yX8_begin, Cond.initialized RX8, Cond.code yX8_begin cX8_begin 4 none, Cond.fieldLink RX8 9 "EggSpoons$Runner" "kind" "I", Cond.fieldLink RX8 15 "EggSpoons$Runner" "legs" "I", Cond.fieldLink RX8 18 "EggSpoons$Runner" "egg" "I", Cond.fieldLink RX8 21 "EggSpoons$Runner" "speed" "I", Cond.fieldLink RX8 24 "EggSpoons$Runner" "place" "I", Cond.fieldLink RX8 27 "EggSpoons$Runner" "drops" "I", Cond.fieldLink RX8 30 "EggSpoons$Runner" "waits" "I", Cond.fieldLink RX8 33 "EggSpoons$Runner" "homeAt" "I", Cond.methodLink RX6 66 yX6_takeSpeed, Cond.instanceMethod yX6_takeSpeed, Cond.selects RX6 yX6_takeSpeed yX6_takeSpeed, Cond.code yX6_takeSpeed cX6_takeSpeed 4 none, Cond.fieldLink RX6 95 "EggSpoons$Race" "row" "[LEggSpoons$Runner;", Cond.fieldLink RX6 99 "EggSpoons$Runner" "speed" "I", Cond.methodLink RX6 71 yX6_takeStart, Cond.instanceMethod yX6_takeStart]
def wsX6_takeRace_r7 : List Cond := [Cond.selects RX6 yX6_takeStart yX6_takeStart, Cond.code yX6_takeStart cX6_takeStart 5 none, Cond.fieldLink RX6 106 "EggSpoons$Race" "length" "I", Cond.methodLink RX6 107 Lib.Math.min.name, Cond.static Lib.Math.min.name, Cond.initialized "java/lang/Math", Cond.code Lib.Math.min.name Lib.Math.min.code 2 (some .int), Cond.fieldLink RX6 112 "EggSpoons$Runner" "place" "I", Cond.methodLink RX6 103 yX8_isHome, Cond.instanceMethod yX8_isHome, Cond.selects RX8 yX8_isHome yX8_isHome, Cond.code yX8_isHome cX8_isHome 1 (some .boolean), Cond.methodLink RX6 76 yX6_takeTicks, Cond.instanceMethod yX6_takeTicks, Cond.selects RX6 yX6_takeTicks yX6_takeTicks, Cond.code yX6_takeTicks cX6_takeTicks 4 none, Cond.methodLink RX6 115 yX5_goOn, Cond.instanceMethod yX5_goOn, Cond.selects RX5 yX5_goOn yX5_goOn, Cond.code yX5_goOn cX5_goOn 2 none, Cond.methodLink RX5 72 yX8_step, Cond.instanceMethod yX8_step, Cond.selects RX8 yX8_step yX8_step, Cond.code yX8_step cX8_step 4 none]
def wsX6_takeRace_r8 : List Cond := [Cond.methodLink RX8 48 yX8_isHome, Cond.methodLink RX8 36 yX2_reach, Cond.static yX2_reach, Cond.initialized RX2, Cond.code yX2_reach cX2_reach 7 (some .int), Cond.methodLink RX8 42 yX1_limit, Cond.static yX1_limit, Cond.initialized RX1, Cond.code yX1_limit cX1_limit 5 (some .int)]
def wsX6_takeRace : List Cond := .code yX6_takeRace cX6_takeRace 3 (some .int) :: ((wsX6_takeRace_r1 ++ (wsX6_takeRace_r2 ++ (wsX6_takeRace_r3 ++ (wsX6_takeRace_r4 ++ (wsX6_takeRace_r5 ++ (wsX6_takeRace_r6 ++ (wsX6_takeRace_r7 ++ wsX6_takeRace_r8))))))) ++ wsX60 ++ wsX50 ++ wsX40 ++ wsX70 ++ wsX80)
def wsX7_append : List Cond := .code yX7_append cX7_append 7 (some .boolean) :: ([.fieldLink RX7 7 "EggSpoons$Rows" "size" "I", .fieldLink RX7 13 "EggSpoons$Rows" "most" "I", .fieldLink RX7 23 "EggSpoons$Rows" "cells" "[I"] ++ wsX70)
def wsX7_mixInto : List Cond := .code yX7_mixInto cX7_mixInto 7 (some .long) :: ([.fieldLink RX7 7 "EggSpoons$Rows" "size" "I", .constantLong RX7 50 (31), .fieldLink RX7 23 "EggSpoons$Rows" "cells" "[I", .fieldLink RX7 16 "EggSpoons$Rows" "withLegs" "Z", .fieldLink RX7 20 "EggSpoons$Rows" "withSpeed" "Z"] ++ wsX70)
def wsX8_fact : List Cond := .code yX8_fact cX8_fact 3 (some .int) :: ([.fieldLink RX8 9 "EggSpoons$Runner" "kind" "I", .fieldLink RX8 15 "EggSpoons$Runner" "legs" "I", .fieldLink RX8 18 "EggSpoons$Runner" "egg" "I", .fieldLink RX8 21 "EggSpoons$Runner" "speed" "I", .fieldLink RX8 24 "EggSpoons$Runner" "place" "I", .fieldLink RX8 27 "EggSpoons$Runner" "drops" "I", .fieldLink RX8 30 "EggSpoons$Runner" "waits" "I", .fieldLink RX8 33 "EggSpoons$Runner" "homeAt" "I", .methodLink RX8 36 yX2_reach, .static yX2_reach, .initialized RX2, .code yX2_reach cX2_reach 7 (some .int), .methodLink RX8 42 yX1_limit, .static yX1_limit, .initialized RX1, .code yX1_limit cX1_limit 5 (some .int)] ++ wsX80)
def wsX8_ticksToHome_r1 : List Cond := [Cond.methodLink RX8 48 yX8_isHome, Cond.instanceMethod yX8_isHome, Cond.selects RX8 yX8_isHome yX8_isHome, Cond.initialized RX8, Cond.code yX8_isHome cX8_isHome 1 (some .boolean), Cond.fieldLink RX8 33 "EggSpoons$Runner" "homeAt" "I", Cond.methodLink RX8 52 yX8_step, Cond.instanceMethod yX8_step, Cond.selects RX8 yX8_step yX8_step, Cond.code yX8_step cX8_step 4 none, Cond.fieldLink RX8 30 "EggSpoons$Runner" "waits" "I", Cond.fieldLink RX8 9 "EggSpoons$Runner" "kind" "I", Cond.fieldLink RX8 15 "EggSpoons$Runner" "legs" "I", Cond.fieldLink RX8 21 "EggSpoons$Runner" "speed" "I", Cond.fieldLink RX8 18 "EggSpoons$Runner" "egg" "I", Cond.fieldLink RX8 27 "EggSpoons$Runner" "drops" "I", Cond.fieldLink RX8 24 "EggSpoons$Runner" "place" "I", Cond.methodLink RX8 36 yX2_reach, Cond.static yX2_reach, Cond.initialized RX2, Cond.code yX2_reach cX2_reach 7 (some .int), Cond.methodLink RX8 42 yX1_limit, Cond.static yX1_limit, Cond.initialized RX1]
def wsX8_ticksToHome_r2 : List Cond := [Cond.code yX1_limit cX1_limit 5 (some .int)]
def wsX8_ticksToHome : List Cond := .code yX8_ticksToHome cX8_ticksToHome 5 (some .int) :: ((wsX8_ticksToHome_r1 ++ wsX8_ticksToHome_r2) ++ wsX80)
def wsX8_placeBehind_r1 : List Cond := [Cond.fieldLink RX8 24 "EggSpoons$Runner" "place" "I", Cond.methodLink RX8 52 yX8_step, Cond.instanceMethod yX8_step, Cond.selects RX8 yX8_step yX8_step, Cond.initialized RX8, Cond.code yX8_step cX8_step 4 none, Cond.fieldLink RX8 30 "EggSpoons$Runner" "waits" "I", Cond.fieldLink RX8 9 "EggSpoons$Runner" "kind" "I", Cond.fieldLink RX8 15 "EggSpoons$Runner" "legs" "I", Cond.fieldLink RX8 21 "EggSpoons$Runner" "speed" "I", Cond.fieldLink RX8 18 "EggSpoons$Runner" "egg" "I", Cond.fieldLink RX8 27 "EggSpoons$Runner" "drops" "I", Cond.fieldLink RX8 33 "EggSpoons$Runner" "homeAt" "I", Cond.methodLink RX8 48 yX8_isHome, Cond.instanceMethod yX8_isHome, Cond.selects RX8 yX8_isHome yX8_isHome, Cond.code yX8_isHome cX8_isHome 1 (some .boolean), Cond.methodLink RX8 36 yX2_reach, Cond.static yX2_reach, Cond.initialized RX2, Cond.code yX2_reach cX2_reach 7 (some .int), Cond.methodLink RX8 42 yX1_limit, Cond.static yX1_limit, Cond.initialized RX1]
def wsX8_placeBehind_r2 : List Cond := [Cond.code yX1_limit cX1_limit 5 (some .int)]
def wsX8_placeBehind : List Cond := .code yX8_placeBehind cX8_placeBehind 5 (some .int) :: ((wsX8_placeBehind_r1 ++ wsX8_placeBehind_r2) ++ wsX80)
def wsX9_init : List Cond := .code yX9_init cX9_init 1 none :: ([.methodLink RX9 3 objectInit, .instanceMethod objectInit, .code objectInit ⟨#[0xb1]⟩ 1 none, .arrayClass .int, .fieldLink RX9 9 "EggSpoons$Tally" "counts" "[I", .fieldLink RX9 15 "EggSpoons$Tally" "most" "I"] ++ wsX90)
def wsX9_restart : List Cond := .code yX9_restart cX9_restart 2 none :: ([.fieldLink RX9 9 "EggSpoons$Tally" "counts" "[I", .fieldLink RX9 15 "EggSpoons$Tally" "most" "I"] ++ wsX90)
def wsX9_see : List Cond := .code yX9_see cX9_see 2 none :: ([.fieldLink RX9 9 "EggSpoons$Tally" "counts" "[I", .fieldLink RX9 15 "EggSpoons$Tally" "most" "I", .methodLink RX9 19 Lib.Math.max.name, .static Lib.Math.max.name, .initialized "java/lang/Math", .code Lib.Math.max.name Lib.Math.max.code 2 (some .int)] ++ wsX90)
def wsX10_init_r1 : List Cond := [Cond.methodLink RX10 1 objectInit, Cond.instanceMethod objectInit, Cond.code objectInit ⟨#[0xb1]⟩ 1 none, Cond.classLink RX10 7 RX5, Cond.instantiable RX5 8, Cond.initialized RX5, Cond.fieldLink RX10 10 "EggSpoons" "now" "LEggSpoons$Race;", Cond.fieldLink RX10 16 "EggSpoons" "spare" "LEggSpoons$Race;", Cond.fieldLink RX10 19 "EggSpoons" "images" "[LEggSpoons$Race;", Cond.arrayClass .boolean, Cond.fieldLink RX10 23 "EggSpoons" "imageKept" "[Z", Cond.classLink RX10 27 RX6, Cond.instantiable RX6 7, Cond.initialized RX6, Cond.fieldLink RX10 30 "EggSpoons" "reader" "LEggSpoons$Reader;", Cond.arrayClass .int, Cond.fieldLink RX10 34 "EggSpoons" "refused" "[I", Cond.fieldLink RX10 38 "EggSpoons" "above" "J", Cond.fieldLink RX10 42 "EggSpoons" "below" "J", Cond.classLink RX10 45 RX8, Cond.instantiable RX8 8, Cond.initialized RX8, Cond.fieldLink RX10 48 "EggSpoons" "ghost" "LEggSpoons$Runner;", Cond.fieldLink RX10 52 "EggSpoons" "rival" "LEggSpoons$Runner;"]
def wsX10_init_r2 : List Cond := [Cond.classLink RX10 55 RX9, Cond.instantiable RX9 2, Cond.initialized RX9, Cond.fieldLink RX10 58 "EggSpoons" "tally" "LEggSpoons$Tally;", Cond.classLink RX10 62 RX3, Cond.instantiable RX3 8, Cond.initialized RX3, Cond.fieldLink RX10 65 "EggSpoons" "odds" "LEggSpoons$Odds;", Cond.classLink RX10 69 RX0, Cond.instantiable RX0 5, Cond.initialized RX0, Cond.fieldLink RX10 72 "EggSpoons" "duel" "LEggSpoons$Duel;", Cond.fieldLink RX10 76 "EggSpoons" "ranks" "[I", Cond.methodLink RX10 9 yX5_init, Cond.instanceMethod yX5_init, Cond.code yX5_init cX5_init 2 none, Cond.methodLink RX5 3 objectInit, Cond.fieldLink RX5 9 "EggSpoons$Race" "length" "I", Cond.fieldLink RX5 15 "EggSpoons$Race" "tick" "I", Cond.fieldLink RX5 18 "EggSpoons$Race" "runners" "I", Cond.classLink RX5 21 RX8, Cond.fieldLink RX5 23 "EggSpoons$Race" "row" "[LEggSpoons$Runner;", Cond.classLink RX5 27 RX4, Cond.instantiable RX4 2]
def wsX10_init_r3 : List Cond := [Cond.initialized RX4, Cond.fieldLink RX5 30 "EggSpoons$Race" "past" "LEggSpoons$Past;", Cond.classLink RX5 34 RX7, Cond.instantiable RX7 5, Cond.initialized RX7, Cond.fieldLink RX5 39 "EggSpoons$Race" "seenRows" "LEggSpoons$Rows;", Cond.fieldLink RX5 43 "EggSpoons$Race" "noteRows" "LEggSpoons$Rows;", Cond.fieldLink RX5 46 "EggSpoons$Race" "markRows" "LEggSpoons$Rows;", Cond.instanceMethod yX4_init, Cond.code yX4_init cX4_init 1 none, Cond.methodLink RX4 5 objectInit, Cond.fieldLink RX4 11 "EggSpoons$Past" "cells" "[I", Cond.fieldLink RX4 15 "EggSpoons$Past" "size" "I", Cond.methodLink RX5 36 yX7_init, Cond.instanceMethod yX7_init, Cond.code yX7_init cX7_init 4 none, Cond.methodLink RX7 1 objectInit, Cond.fieldLink RX7 7 "EggSpoons$Rows" "size" "I", Cond.fieldLink RX7 13 "EggSpoons$Rows" "most" "I", Cond.fieldLink RX7 16 "EggSpoons$Rows" "withLegs" "Z", Cond.fieldLink RX7 20 "EggSpoons$Rows" "withSpeed" "Z", Cond.fieldLink RX7 23 "EggSpoons$Rows" "cells" "[I", Cond.instanceMethod yX8_init, Cond.code yX8_init cX8_init 1 none]
def wsX10_init_r4 : List Cond := [Cond.methodLink RX8 3 objectInit, Cond.instanceMethod yX6_init, Cond.code yX6_init cX6_init 1 none, Cond.methodLink RX6 3 objectInit, Cond.fieldLink RX6 11 "EggSpoons$Reader" "bytes" "[I", Cond.fieldLink RX6 15 "EggSpoons$Reader" "length" "I", Cond.fieldLink RX6 19 "EggSpoons$Reader" "at" "I", Cond.fieldLink RX6 22 "EggSpoons$Reader" "tokenAt" "I", Cond.fieldLink RX6 25 "EggSpoons$Reader" "sort" "I", Cond.fieldLink RX6 28 "EggSpoons$Reader" "value" "I", Cond.fieldLink RX6 31 "EggSpoons$Reader" "fault" "I", Cond.instanceMethod yX9_init, Cond.code yX9_init cX9_init 1 none, Cond.methodLink RX9 3 objectInit, Cond.fieldLink RX9 9 "EggSpoons$Tally" "counts" "[I", Cond.fieldLink RX9 15 "EggSpoons$Tally" "most" "I", Cond.instanceMethod yX3_init, Cond.code yX3_init cX3_init 1 none, Cond.methodLink RX3 1 objectInit, Cond.instanceMethod yX0_init, Cond.code yX0_init cX0_init 1 none, Cond.methodLink RX0 3 objectInit, Cond.fieldLink RX0 11 "EggSpoons$Duel" "endsA" "[I", Cond.fieldLink RX0 15 "EggSpoons$Duel" "endsB" "[I"]
def wsX10_init_r5 : List Cond := [Cond.fieldLink RX0 18 "EggSpoons$Duel" "mostA" "[I", Cond.fieldLink RX0 21 "EggSpoons$Duel" "mostB" "[I", Cond.fieldLink RX0 24 "EggSpoons$Duel" "resting" "[I"]
def wsX10_init : List Cond := .code yX10_init cX10_init 1 none :: ((wsX10_init_r1 ++ (wsX10_init_r2 ++ (wsX10_init_r3 ++ (wsX10_init_r4 ++ wsX10_init_r5)))) ++ wsX50 ++ wsX100 ++ wsX60 ++ wsX80 ++ wsX90 ++ wsX30 ++ wsX00 ++ wsX40 ++ wsX70)
def wsX10_within : List Cond := .code yX10_within cX10_within 3 (some .boolean) :: ([])
def wsX10_refuse : List Cond := .code yX10_refuse cX10_refuse 3 (some .int) :: ([.fieldLink RX10 34 "EggSpoons" "refused" "[I"] ++ wsX100)
def wsX10_race_r1 : List Cond := [Cond.fieldLink RX10 10 "EggSpoons" "now" "LEggSpoons$Race;", Cond.fieldLink RX10 87 "EggSpoons$Race" "runners" "I", Cond.methodLink RX10 79 yX10_within, Cond.static yX10_within, Cond.initialized RX10, Cond.code yX10_within cX10_within 3 (some .boolean), Cond.methodLink RX10 83 yX10_refuse, Cond.instanceMethod yX10_refuse, Cond.selects RX10 yX10_refuse yX10_refuse, Cond.code yX10_refuse cX10_refuse 3 (some .int), Cond.fieldLink RX10 34 "EggSpoons" "refused" "[I", Cond.methodLink RX10 91 yX5_restart, Cond.instanceMethod yX5_restart, Cond.selects RX5 yX5_restart yX5_restart, Cond.initialized RX5, Cond.code yX5_restart cX5_restart 2 none, Cond.fieldLink RX5 9 "EggSpoons$Race" "length" "I", Cond.fieldLink RX5 15 "EggSpoons$Race" "tick" "I", Cond.fieldLink RX5 18 "EggSpoons$Race" "runners" "I", Cond.fieldLink RX5 30 "EggSpoons$Race" "past" "LEggSpoons$Past;", Cond.fieldLink RX5 50 "EggSpoons$Past" "size" "I", Cond.fieldLink RX5 39 "EggSpoons$Race" "seenRows" "LEggSpoons$Rows;", Cond.fieldLink RX5 53 "EggSpoons$Rows" "size" "I", Cond.fieldLink RX5 43 "EggSpoons$Race" "noteRows" "LEggSpoons$Rows;"]
def wsX10_race_r2 : List Cond := [Cond.fieldLink RX5 46 "EggSpoons$Race" "markRows" "LEggSpoons$Rows;"]
def wsX10_race : List Cond := .code yX10_race cX10_race 3 (some .int) :: ((wsX10_race_r1 ++ wsX10_race_r2) ++ wsX100 ++ wsX50 ++ wsX40 ++ wsX70)
def wsX10_one_r1 : List Cond := [Cond.fieldLink RX10 10 "EggSpoons" "now" "LEggSpoons$Race;", Cond.fieldLink RX10 87 "EggSpoons$Race" "runners" "I", Cond.methodLink RX10 79 yX10_within, Cond.static yX10_within, Cond.initialized RX10, Cond.code yX10_within cX10_within 3 (some .boolean), Cond.methodLink RX10 83 yX10_refuse, Cond.instanceMethod yX10_refuse, Cond.selects RX10 yX10_refuse yX10_refuse, Cond.code yX10_refuse cX10_refuse 3 (some .int), Cond.fieldLink RX10 34 "EggSpoons" "refused" "[I", Cond.methodLink RX10 95 yX5_welcome, Cond.instanceMethod yX5_welcome, Cond.selects RX5 yX5_welcome yX5_welcome, Cond.initialized RX5, Cond.code yX5_welcome cX5_welcome 4 none, Cond.fieldLink RX5 18 "EggSpoons$Race" "runners" "I", Cond.fieldLink RX5 23 "EggSpoons$Race" "row" "[LEggSpoons$Runner;", Cond.fieldLink RX5 30 "EggSpoons$Race" "past" "LEggSpoons$Past;", Cond.fieldLink RX5 50 "EggSpoons$Past" "size" "I", Cond.methodLink RX5 54 yX8_begin, Cond.instanceMethod yX8_begin, Cond.selects RX8 yX8_begin yX8_begin, Cond.initialized RX8]
def wsX10_one_r2 : List Cond := [Cond.code yX8_begin cX8_begin 4 none, Cond.fieldLink RX8 9 "EggSpoons$Runner" "kind" "I", Cond.fieldLink RX8 15 "EggSpoons$Runner" "legs" "I", Cond.fieldLink RX8 18 "EggSpoons$Runner" "egg" "I", Cond.fieldLink RX8 21 "EggSpoons$Runner" "speed" "I", Cond.fieldLink RX8 24 "EggSpoons$Runner" "place" "I", Cond.fieldLink RX8 27 "EggSpoons$Runner" "drops" "I", Cond.fieldLink RX8 30 "EggSpoons$Runner" "waits" "I", Cond.fieldLink RX8 33 "EggSpoons$Runner" "homeAt" "I"]
def wsX10_one : List Cond := .code yX10_one cX10_one 4 (some .int) :: ((wsX10_one_r1 ++ wsX10_one_r2) ++ wsX100 ++ wsX50 ++ wsX40 ++ wsX80)
def wsX10_type : List Cond := .code yX10_type cX10_type 2 (some .int) :: ([.fieldLink RX10 30 "EggSpoons" "reader" "LEggSpoons$Reader;", .methodLink RX10 79 yX10_within, .static yX10_within, .initialized RX10, .code yX10_within cX10_within 3 (some .boolean), .methodLink RX10 83 yX10_refuse, .instanceMethod yX10_refuse, .selects RX10 yX10_refuse yX10_refuse, .code yX10_refuse cX10_refuse 3 (some .int), .fieldLink RX10 34 "EggSpoons" "refused" "[I", .methodLink RX10 99 yX6_append, .instanceMethod yX6_append, .selects RX6 yX6_append yX6_append, .initialized RX6, .code yX6_append cX6_append 2 (some .boolean), .fieldLink RX6 15 "EggSpoons$Reader" "length" "I", .fieldLink RX6 11 "EggSpoons$Reader" "bytes" "[I"] ++ wsX100 ++ wsX60)
def wsX10_clear : List Cond := .code yX10_clear cX10_clear 2 (some .int) :: ([.fieldLink RX10 30 "EggSpoons" "reader" "LEggSpoons$Reader;"] ++ wsX100 ++ wsX60)
def wsX10_read_r1 : List Cond := [Cond.fieldLink RX10 30 "EggSpoons" "reader" "LEggSpoons$Reader;", Cond.fieldLink RX10 16 "EggSpoons" "spare" "LEggSpoons$Race;", Cond.fieldLink RX10 10 "EggSpoons" "now" "LEggSpoons$Race;", Cond.methodLink RX10 106 yX6_takeRace, Cond.instanceMethod yX6_takeRace, Cond.selects RX6 yX6_takeRace yX6_takeRace, Cond.initialized RX6, Cond.code yX6_takeRace cX6_takeRace 3 (some .int), Cond.fieldLink RX6 19 "EggSpoons$Reader" "at" "I", Cond.fieldLink RX6 31 "EggSpoons$Reader" "fault" "I", Cond.fieldLink RX6 15 "EggSpoons$Reader" "length" "I", Cond.methodLink RX6 34 yX6_takeItem, Cond.instanceMethod yX6_takeItem, Cond.selects RX6 yX6_takeItem yX6_takeItem, Cond.code yX6_takeItem cX6_takeItem 3 none, Cond.fieldLink RX6 25 "EggSpoons$Reader" "sort" "I", Cond.fieldLink RX6 22 "EggSpoons$Reader" "tokenAt" "I", Cond.fieldLink RX6 56 "EggSpoons$Race" "runners" "I", Cond.methodLink RX6 41 yX6_nextToken, Cond.instanceMethod yX6_nextToken, Cond.selects RX6 yX6_nextToken yX6_nextToken, Cond.code yX6_nextToken cX6_nextToken 1 none, Cond.fieldLink RX6 11 "EggSpoons$Reader" "bytes" "[I", Cond.methodLink RX6 38 yX6_skipBlanks]
def wsX10_read_r2 : List Cond := [Cond.instanceMethod yX6_skipBlanks, Cond.selects RX6 yX6_skipBlanks yX6_skipBlanks, Cond.code yX6_skipBlanks cX6_skipBlanks 1 none, Cond.methodLink RX6 118 yX6_isLetter, Cond.static yX6_isLetter, Cond.code yX6_isLetter cX6_isLetter 1 (some .boolean), Cond.methodLink RX6 122 yX6_takeLetters, Cond.instanceMethod yX6_takeLetters, Cond.selects RX6 yX6_takeLetters yX6_takeLetters, Cond.code yX6_takeLetters cX6_takeLetters 1 none, Cond.methodLink RX6 125 yX6_isFigure, Cond.static yX6_isFigure, Cond.code yX6_isFigure cX6_isFigure 1 (some .boolean), Cond.methodLink RX6 128 yX6_takeFigures, Cond.instanceMethod yX6_takeFigures, Cond.selects RX6 yX6_takeFigures yX6_takeFigures, Cond.code yX6_takeFigures cX6_takeFigures 1 none, Cond.fieldLink RX6 28 "EggSpoons$Reader" "value" "I", Cond.methodLink RX6 46 yX6_spells, Cond.instanceMethod yX6_spells, Cond.selects RX6 yX6_spells yX6_spells, Cond.code yX6_spells cX6_spells 3 (some .boolean), Cond.methodLink RX6 131 yJ0_length_8abf5, Cond.instanceMethod yJ0_length_8abf5]
def wsX10_read_r3 : List Cond := [Cond.selects RJ0 yJ0_length_8abf5 yJ0_length_8abf5, Cond.initialized RJ0, Cond.code yJ0_length_8abf5 cJ0_length_8abf5 1 (some .int), Cond.fieldLink RJ0 9 "java/lang/String" "value" "[B", Cond.methodLink RJ0 335 yJ0_coder_7d493, Cond.instanceMethod yJ0_coder_7d493, Cond.selects RJ0 yJ0_coder_7d493 yJ0_coder_7d493, Cond.code yJ0_coder_7d493 cJ0_coder_7d493 1 (some .byte), Cond.fieldLink RJ0 38 "java/lang/String" "COMPACT_STRINGS" "Z", Cond.fieldLink RJ0 15 "java/lang/String" "coder" "B", Cond.methodLink RX6 136 yJ0_charAt_5068e, Cond.instanceMethod yJ0_charAt_5068e, Cond.selects RJ0 yJ0_charAt_5068e yJ0_charAt_5068e, Cond.code yJ0_charAt_5068e cJ0_charAt_5068e 2 (some .char), Cond.methodLink RJ0 492 yJ0_isLatin1_aae02, Cond.instanceMethod yJ0_isLatin1_aae02, Cond.selects RJ0 yJ0_isLatin1_aae02 yJ0_isLatin1_aae02, Cond.code yJ0_isLatin1_aae02 cJ0_isLatin1_aae02 1 (some .boolean), Cond.methodLink RJ0 495 yJ1_charAt_3b067, Cond.static yJ1_charAt_3b067, Cond.initialized RJ1, Cond.code yJ1_charAt_3b067 cJ1_charAt_3b067 2 (some .char), Cond.methodLink RJ1 9 yJ0_checkIndex_df160, Cond.static yJ0_checkIndex_df160]
def wsX10_read_r4 : List Cond := [Cond.code yJ0_checkIndex_df160 cJ0_checkIndex_df160 2 none, Cond.fieldLink RJ0 1053 "jdk/internal/util/Preconditions" "SIOOBE_FORMATTER" "Ljava/util/function/BiFunction;", Cond.methodLink RJ0 1059 yJ3_checkIndex_8e157, Cond.static yJ3_checkIndex_8e157, Cond.initialized RJ3, Cond.code yJ3_checkIndex_8e157 cJ3_checkIndex_8e157 3 (some .int), Cond.methodLink RJ0 498 yJ2_charAt_3b067, Cond.static yJ2_charAt_3b067, Cond.initialized RJ2, Cond.code yJ2_charAt_3b067 cJ2_charAt_3b067 2 (some .char), Cond.methodLink RJ2 67 yJ2_checkIndex_2214a, Cond.static yJ2_checkIndex_2214a, Cond.code yJ2_checkIndex_2214a cJ2_checkIndex_2214a 2 none, Cond.methodLink RJ2 48 yJ2_length_9d52b, Cond.static yJ2_length_9d52b, Cond.code yJ2_length_9d52b cJ2_length_9d52b 1 (some .int), Cond.methodLink RJ2 414 yJ0_checkIndex_df160, Cond.methodLink RJ2 71 yJ2_getChar_3b067, Cond.static yJ2_getChar_3b067, Cond.code yJ2_getChar_3b067 cJ2_getChar_3b067 2 (some .char), Cond.fieldLink RJ2 44 "java/lang/StringUTF16" "$assertionsDisabled" "Z", Cond.fieldLink RJ2 59 "java/lang/StringUTF16" "HI_BYTE_SHIFT" "I", Cond.fieldLink RJ2 63 "java/lang/StringUTF16" "LO_BYTE_SHIFT" "I", Cond.methodLink RX6 50 yX6_takeLength]
def wsX10_read_r5 : List Cond := [Cond.instanceMethod yX6_takeLength, Cond.selects RX6 yX6_takeLength yX6_takeLength, Cond.code yX6_takeLength cX6_takeLength 3 none, Cond.methodLink RX6 79 yX6_number, Cond.instanceMethod yX6_number, Cond.selects RX6 yX6_number yX6_number, Cond.code yX6_number cX6_number 3 (some .int), Cond.methodLink RX6 83 yX6_ended, Cond.instanceMethod yX6_ended, Cond.selects RX6 yX6_ended yX6_ended, Cond.code yX6_ended cX6_ended 1 (some .boolean), Cond.methodLink RX6 87 yX5_restart, Cond.instanceMethod yX5_restart, Cond.selects RX5 yX5_restart yX5_restart, Cond.initialized RX5, Cond.code yX5_restart cX5_restart 2 none, Cond.fieldLink RX5 9 "EggSpoons$Race" "length" "I", Cond.fieldLink RX5 15 "EggSpoons$Race" "tick" "I", Cond.fieldLink RX5 18 "EggSpoons$Race" "runners" "I", Cond.fieldLink RX5 30 "EggSpoons$Race" "past" "LEggSpoons$Past;", Cond.fieldLink RX5 50 "EggSpoons$Past" "size" "I", Cond.fieldLink RX5 39 "EggSpoons$Race" "seenRows" "LEggSpoons$Rows;", Cond.fieldLink RX5 53 "EggSpoons$Rows" "size" "I", Cond.fieldLink RX5 43 "EggSpoons$Race" "noteRows" "LEggSpoons$Rows;"]
def wsX10_read_r6 : List Cond := [Cond.fieldLink RX5 46 "EggSpoons$Race" "markRows" "LEggSpoons$Rows;", Cond.methodLink RX6 61 yX6_takeRunner, Cond.instanceMethod yX6_takeRunner, Cond.selects RX6 yX6_takeRunner yX6_takeRunner, Cond.code yX6_takeRunner cX6_takeRunner 5 none, Cond.methodLink RX6 91 yX5_welcome, Cond.instanceMethod yX5_welcome, Cond.selects RX5 yX5_welcome yX5_welcome, Cond.code yX5_welcome cX5_welcome 4 none, Cond.fieldLink RX5 23 "EggSpoons$Race" "row" "[LEggSpoons$Runner;", Cond.methodLink RX5 54 yX8_begin, Cond.instanceMethod yX8_begin, Cond.selects RX8 yX8_begin yX8_begin, Cond.initialized RX8, Cond.code yX8_begin cX8_begin 4 none, Cond.fieldLink RX8 9 "EggSpoons$Runner" "kind" "I", Cond.fieldLink RX8 15 "EggSpoons$Runner" "legs" "I", Cond.fieldLink RX8 18 "EggSpoons$Runner" "egg" "I", Cond.fieldLink RX8 21 "EggSpoons$Runner" "speed" "I", Cond.fieldLink RX8 24 "EggSpoons$Runner" "place" "I", Cond.fieldLink RX8 27 "EggSpoons$Runner" "drops" "I", Cond.fieldLink RX8 30 "EggSpoons$Runner" "waits" "I", Cond.fieldLink RX8 33 "EggSpoons$Runner" "homeAt" "I", Cond.methodLink RX6 66 yX6_takeSpeed]
def wsX10_read_r7 : List Cond := [Cond.instanceMethod yX6_takeSpeed, Cond.selects RX6 yX6_takeSpeed yX6_takeSpeed, Cond.code yX6_takeSpeed cX6_takeSpeed 4 none, Cond.fieldLink RX6 95 "EggSpoons$Race" "row" "[LEggSpoons$Runner;", Cond.fieldLink RX6 99 "EggSpoons$Runner" "speed" "I", Cond.methodLink RX6 71 yX6_takeStart, Cond.instanceMethod yX6_takeStart, Cond.selects RX6 yX6_takeStart yX6_takeStart, Cond.code yX6_takeStart cX6_takeStart 5 none, Cond.fieldLink RX6 106 "EggSpoons$Race" "length" "I", Cond.methodLink RX6 107 Lib.Math.min.name, Cond.static Lib.Math.min.name, Cond.initialized "java/lang/Math", Cond.code Lib.Math.min.name Lib.Math.min.code 2 (some .int), Cond.fieldLink RX6 112 "EggSpoons$Runner" "place" "I", Cond.methodLink RX6 103 yX8_isHome, Cond.instanceMethod yX8_isHome, Cond.selects RX8 yX8_isHome yX8_isHome, Cond.code yX8_isHome cX8_isHome 1 (some .boolean), Cond.methodLink RX6 76 yX6_takeTicks, Cond.instanceMethod yX6_takeTicks, Cond.selects RX6 yX6_takeTicks yX6_takeTicks, Cond.code yX6_takeTicks cX6_takeTicks 4 none, Cond.methodLink RX6 115 yX5_goOn]
def wsX10_read_r8 : List Cond := [Cond.instanceMethod yX5_goOn, Cond.selects RX5 yX5_goOn yX5_goOn, Cond.code yX5_goOn cX5_goOn 2 none, Cond.methodLink RX5 72 yX8_step, Cond.instanceMethod yX8_step, Cond.selects RX8 yX8_step yX8_step, Cond.code yX8_step cX8_step 4 none, Cond.methodLink RX8 48 yX8_isHome, Cond.methodLink RX8 36 yX2_reach, Cond.static yX2_reach, Cond.initialized RX2, Cond.code yX2_reach cX2_reach 7 (some .int), Cond.methodLink RX8 42 yX1_limit, Cond.static yX1_limit, Cond.initialized RX1, Cond.code yX1_limit cX1_limit 5 (some .int)]
def wsX10_read : List Cond := .code yX10_read cX10_read 3 (some .int) :: ((wsX10_read_r1 ++ (wsX10_read_r2 ++ (wsX10_read_r3 ++ (wsX10_read_r4 ++ (wsX10_read_r5 ++ (wsX10_read_r6 ++ (wsX10_read_r7 ++ wsX10_read_r8))))))) ++ wsX100 ++ wsX60 ++ wsX50 ++ wsX40 ++ wsX70 ++ wsX80)
def wsX10_ticks_r1 : List Cond := [Cond.fieldLink RX10 10 "EggSpoons" "now" "LEggSpoons$Race;", Cond.fieldLink RX10 110 "EggSpoons$Race" "tick" "I", Cond.methodLink RX10 79 yX10_within, Cond.static yX10_within, Cond.initialized RX10, Cond.code yX10_within cX10_within 3 (some .boolean), Cond.methodLink RX10 83 yX10_refuse, Cond.instanceMethod yX10_refuse, Cond.selects RX10 yX10_refuse yX10_refuse, Cond.code yX10_refuse cX10_refuse 3 (some .int), Cond.fieldLink RX10 34 "EggSpoons" "refused" "[I", Cond.methodLink RX10 113 yX5_keep, Cond.instanceMethod yX5_keep, Cond.selects RX5 yX5_keep yX5_keep, Cond.initialized RX5, Cond.code yX5_keep cX5_keep 1 none, Cond.fieldLink RX5 30 "EggSpoons$Race" "past" "LEggSpoons$Past;", Cond.fieldLink RX5 15 "EggSpoons$Race" "tick" "I", Cond.fieldLink RX5 23 "EggSpoons$Race" "row" "[LEggSpoons$Runner;", Cond.methodLink RX5 76 yX4_push, Cond.instanceMethod yX4_push, Cond.selects RX4 yX4_push yX4_push, Cond.initialized RX4, Cond.code yX4_push cX4_push 6 none]
def wsX10_ticks_r2 : List Cond := [Cond.fieldLink RX4 15 "EggSpoons$Past" "size" "I", Cond.fieldLink RX4 11 "EggSpoons$Past" "cells" "[I", Cond.methodLink RX4 19 arraycopyName, Cond.native arraycopyName, Cond.static arraycopyName, Cond.initialized "java/lang/System", Cond.fieldLink RX4 25 "EggSpoons$Runner" "speed" "I", Cond.fieldLink RX4 30 "EggSpoons$Runner" "place" "I", Cond.fieldLink RX4 33 "EggSpoons$Runner" "drops" "I", Cond.fieldLink RX4 36 "EggSpoons$Runner" "waits" "I", Cond.fieldLink RX4 39 "EggSpoons$Runner" "homeAt" "I", Cond.methodLink RX10 116 yX5_goOn, Cond.instanceMethod yX5_goOn, Cond.selects RX5 yX5_goOn yX5_goOn, Cond.code yX5_goOn cX5_goOn 2 none, Cond.fieldLink RX5 18 "EggSpoons$Race" "runners" "I", Cond.fieldLink RX5 9 "EggSpoons$Race" "length" "I", Cond.methodLink RX5 72 yX8_step, Cond.instanceMethod yX8_step, Cond.selects RX8 yX8_step yX8_step, Cond.initialized RX8, Cond.code yX8_step cX8_step 4 none, Cond.fieldLink RX8 30 "EggSpoons$Runner" "waits" "I", Cond.fieldLink RX8 9 "EggSpoons$Runner" "kind" "I"]
def wsX10_ticks_r3 : List Cond := [Cond.fieldLink RX8 15 "EggSpoons$Runner" "legs" "I", Cond.fieldLink RX8 21 "EggSpoons$Runner" "speed" "I", Cond.fieldLink RX8 18 "EggSpoons$Runner" "egg" "I", Cond.fieldLink RX8 27 "EggSpoons$Runner" "drops" "I", Cond.fieldLink RX8 24 "EggSpoons$Runner" "place" "I", Cond.fieldLink RX8 33 "EggSpoons$Runner" "homeAt" "I", Cond.methodLink RX8 48 yX8_isHome, Cond.instanceMethod yX8_isHome, Cond.selects RX8 yX8_isHome yX8_isHome, Cond.code yX8_isHome cX8_isHome 1 (some .boolean), Cond.methodLink RX8 36 yX2_reach, Cond.static yX2_reach, Cond.initialized RX2, Cond.code yX2_reach cX2_reach 7 (some .int), Cond.methodLink RX8 42 yX1_limit, Cond.static yX1_limit, Cond.initialized RX1, Cond.code yX1_limit cX1_limit 5 (some .int), Cond.methodLink RX10 119 yX5_homes, Cond.instanceMethod yX5_homes, Cond.selects RX5 yX5_homes yX5_homes, Cond.code yX5_homes cX5_homes 3 (some .int), Cond.methodLink RX5 84 yX8_isHome]
def wsX10_ticks : List Cond := .code yX10_ticks cX10_ticks 3 (some .int) :: ((wsX10_ticks_r1 ++ (wsX10_ticks_r2 ++ wsX10_ticks_r3)) ++ wsX100 ++ wsX50 ++ wsX40 ++ wsX80)
def wsX10_there : List Cond := .code yX10_there cX10_there 2 (some .boolean) :: ([.fieldLink RX10 10 "EggSpoons" "now" "LEggSpoons$Race;", .fieldLink RX10 87 "EggSpoons$Race" "runners" "I"] ++ wsX100 ++ wsX50)
def wsX10_speed_r1 : List Cond := [Cond.fieldLink RX10 10 "EggSpoons" "now" "LEggSpoons$Race;", Cond.fieldLink RX10 126 "EggSpoons$Race" "row" "[LEggSpoons$Runner;", Cond.fieldLink RX10 130 "EggSpoons$Runner" "speed" "I", Cond.methodLink RX10 123 yX10_there, Cond.instanceMethod yX10_there, Cond.selects RX10 yX10_there yX10_there, Cond.initialized RX10, Cond.code yX10_there cX10_there 2 (some .boolean), Cond.fieldLink RX10 87 "EggSpoons$Race" "runners" "I", Cond.methodLink RX10 79 yX10_within, Cond.static yX10_within, Cond.code yX10_within cX10_within 3 (some .boolean), Cond.methodLink RX10 83 yX10_refuse, Cond.instanceMethod yX10_refuse, Cond.selects RX10 yX10_refuse yX10_refuse, Cond.code yX10_refuse cX10_refuse 3 (some .int), Cond.fieldLink RX10 34 "EggSpoons" "refused" "[I", Cond.methodLink RX10 133 yX8_isHome, Cond.instanceMethod yX8_isHome, Cond.selects RX8 yX8_isHome yX8_isHome, Cond.initialized RX8, Cond.code yX8_isHome cX8_isHome 1 (some .boolean), Cond.fieldLink RX8 33 "EggSpoons$Runner" "homeAt" "I", Cond.methodLink RX10 113 yX5_keep]
def wsX10_speed_r2 : List Cond := [Cond.instanceMethod yX5_keep, Cond.selects RX5 yX5_keep yX5_keep, Cond.initialized RX5, Cond.code yX5_keep cX5_keep 1 none, Cond.fieldLink RX5 30 "EggSpoons$Race" "past" "LEggSpoons$Past;", Cond.fieldLink RX5 15 "EggSpoons$Race" "tick" "I", Cond.fieldLink RX5 23 "EggSpoons$Race" "row" "[LEggSpoons$Runner;", Cond.methodLink RX5 76 yX4_push, Cond.instanceMethod yX4_push, Cond.selects RX4 yX4_push yX4_push, Cond.initialized RX4, Cond.code yX4_push cX4_push 6 none, Cond.fieldLink RX4 15 "EggSpoons$Past" "size" "I", Cond.fieldLink RX4 11 "EggSpoons$Past" "cells" "[I", Cond.methodLink RX4 19 arraycopyName, Cond.native arraycopyName, Cond.static arraycopyName, Cond.initialized "java/lang/System", Cond.fieldLink RX4 25 "EggSpoons$Runner" "speed" "I", Cond.fieldLink RX4 30 "EggSpoons$Runner" "place" "I", Cond.fieldLink RX4 33 "EggSpoons$Runner" "drops" "I", Cond.fieldLink RX4 36 "EggSpoons$Runner" "waits" "I", Cond.fieldLink RX4 39 "EggSpoons$Runner" "homeAt" "I"]
def wsX10_speed : List Cond := .code yX10_speed cX10_speed 5 (some .int) :: ((wsX10_speed_r1 ++ wsX10_speed_r2) ++ wsX100 ++ wsX50 ++ wsX80 ++ wsX40)
def wsX10_start_r1 : List Cond := [Cond.fieldLink RX10 10 "EggSpoons" "now" "LEggSpoons$Race;", Cond.fieldLink RX10 126 "EggSpoons$Race" "row" "[LEggSpoons$Runner;", Cond.fieldLink RX10 137 "EggSpoons$Runner" "place" "I", Cond.fieldLink RX10 140 "EggSpoons$Race" "length" "I", Cond.methodLink RX10 123 yX10_there, Cond.instanceMethod yX10_there, Cond.selects RX10 yX10_there yX10_there, Cond.initialized RX10, Cond.code yX10_there cX10_there 2 (some .boolean), Cond.fieldLink RX10 87 "EggSpoons$Race" "runners" "I", Cond.methodLink RX10 79 yX10_within, Cond.static yX10_within, Cond.code yX10_within cX10_within 3 (some .boolean), Cond.methodLink RX10 83 yX10_refuse, Cond.instanceMethod yX10_refuse, Cond.selects RX10 yX10_refuse yX10_refuse, Cond.code yX10_refuse cX10_refuse 3 (some .int), Cond.fieldLink RX10 34 "EggSpoons" "refused" "[I", Cond.methodLink RX10 133 yX8_isHome, Cond.instanceMethod yX8_isHome, Cond.selects RX8 yX8_isHome yX8_isHome, Cond.initialized RX8, Cond.code yX8_isHome cX8_isHome 1 (some .boolean), Cond.fieldLink RX8 33 "EggSpoons$Runner" "homeAt" "I"]
def wsX10_start_r2 : List Cond := [Cond.methodLink RX10 113 yX5_keep, Cond.instanceMethod yX5_keep, Cond.selects RX5 yX5_keep yX5_keep, Cond.initialized RX5, Cond.code yX5_keep cX5_keep 1 none, Cond.fieldLink RX5 30 "EggSpoons$Race" "past" "LEggSpoons$Past;", Cond.fieldLink RX5 15 "EggSpoons$Race" "tick" "I", Cond.fieldLink RX5 23 "EggSpoons$Race" "row" "[LEggSpoons$Runner;", Cond.methodLink RX5 76 yX4_push, Cond.instanceMethod yX4_push, Cond.selects RX4 yX4_push yX4_push, Cond.initialized RX4, Cond.code yX4_push cX4_push 6 none, Cond.fieldLink RX4 15 "EggSpoons$Past" "size" "I", Cond.fieldLink RX4 11 "EggSpoons$Past" "cells" "[I", Cond.methodLink RX4 19 arraycopyName, Cond.native arraycopyName, Cond.static arraycopyName, Cond.initialized "java/lang/System", Cond.fieldLink RX4 25 "EggSpoons$Runner" "speed" "I", Cond.fieldLink RX4 30 "EggSpoons$Runner" "place" "I", Cond.fieldLink RX4 33 "EggSpoons$Runner" "drops" "I", Cond.fieldLink RX4 36 "EggSpoons$Runner" "waits" "I", Cond.fieldLink RX4 39 "EggSpoons$Runner" "homeAt" "I"]
def wsX10_start : List Cond := .code yX10_start cX10_start 4 (some .int) :: ((wsX10_start_r1 ++ wsX10_start_r2) ++ wsX100 ++ wsX50 ++ wsX80 ++ wsX40)
def wsX10_undo_r1 : List Cond := [Cond.fieldLink RX10 10 "EggSpoons" "now" "LEggSpoons$Race;", Cond.fieldLink RX10 110 "EggSpoons$Race" "tick" "I", Cond.methodLink RX10 141 yX5_takeBack, Cond.instanceMethod yX5_takeBack, Cond.selects RX5 yX5_takeBack yX5_takeBack, Cond.initialized RX5, Cond.code yX5_takeBack cX5_takeBack 2 (some .boolean), Cond.fieldLink RX5 30 "EggSpoons$Race" "past" "LEggSpoons$Past;", Cond.fieldLink RX5 23 "EggSpoons$Race" "row" "[LEggSpoons$Runner;", Cond.fieldLink RX5 15 "EggSpoons$Race" "tick" "I", Cond.methodLink RX5 80 yX4_pop, Cond.instanceMethod yX4_pop, Cond.selects RX4 yX4_pop yX4_pop, Cond.initialized RX4, Cond.code yX4_pop cX4_pop 5 (some .int), Cond.fieldLink RX4 15 "EggSpoons$Past" "size" "I", Cond.fieldLink RX4 11 "EggSpoons$Past" "cells" "[I", Cond.fieldLink RX4 25 "EggSpoons$Runner" "speed" "I", Cond.fieldLink RX4 30 "EggSpoons$Runner" "place" "I", Cond.fieldLink RX4 33 "EggSpoons$Runner" "drops" "I", Cond.fieldLink RX4 36 "EggSpoons$Runner" "waits" "I", Cond.fieldLink RX4 39 "EggSpoons$Runner" "homeAt" "I", Cond.methodLink RX10 83 yX10_refuse, Cond.instanceMethod yX10_refuse]
def wsX10_undo_r2 : List Cond := [Cond.selects RX10 yX10_refuse yX10_refuse, Cond.initialized RX10, Cond.code yX10_refuse cX10_refuse 3 (some .int), Cond.fieldLink RX10 34 "EggSpoons" "refused" "[I"]
def wsX10_undo : List Cond := .code yX10_undo cX10_undo 1 (some .int) :: ((wsX10_undo_r1 ++ wsX10_undo_r2) ++ wsX100 ++ wsX50 ++ wsX40 ++ wsX80)
def wsX10_of_r1 : List Cond := [Cond.fieldLink RX10 10 "EggSpoons" "now" "LEggSpoons$Race;", Cond.fieldLink RX10 126 "EggSpoons$Race" "row" "[LEggSpoons$Runner;", Cond.fieldLink RX10 110 "EggSpoons$Race" "tick" "I", Cond.methodLink RX10 123 yX10_there, Cond.instanceMethod yX10_there, Cond.selects RX10 yX10_there yX10_there, Cond.initialized RX10, Cond.code yX10_there cX10_there 2 (some .boolean), Cond.fieldLink RX10 87 "EggSpoons$Race" "runners" "I", Cond.methodLink RX10 79 yX10_within, Cond.static yX10_within, Cond.code yX10_within cX10_within 3 (some .boolean), Cond.methodLink RX10 83 yX10_refuse, Cond.instanceMethod yX10_refuse, Cond.selects RX10 yX10_refuse yX10_refuse, Cond.code yX10_refuse cX10_refuse 3 (some .int), Cond.fieldLink RX10 34 "EggSpoons" "refused" "[I", Cond.methodLink RX10 144 yX8_fact, Cond.instanceMethod yX8_fact, Cond.selects RX8 yX8_fact yX8_fact, Cond.initialized RX8, Cond.code yX8_fact cX8_fact 3 (some .int), Cond.fieldLink RX8 9 "EggSpoons$Runner" "kind" "I", Cond.fieldLink RX8 15 "EggSpoons$Runner" "legs" "I"]
def wsX10_of_r2 : List Cond := [Cond.fieldLink RX8 18 "EggSpoons$Runner" "egg" "I", Cond.fieldLink RX8 21 "EggSpoons$Runner" "speed" "I", Cond.fieldLink RX8 24 "EggSpoons$Runner" "place" "I", Cond.fieldLink RX8 27 "EggSpoons$Runner" "drops" "I", Cond.fieldLink RX8 30 "EggSpoons$Runner" "waits" "I", Cond.fieldLink RX8 33 "EggSpoons$Runner" "homeAt" "I", Cond.methodLink RX8 36 yX2_reach, Cond.static yX2_reach, Cond.initialized RX2, Cond.code yX2_reach cX2_reach 7 (some .int), Cond.methodLink RX8 42 yX1_limit, Cond.static yX1_limit, Cond.initialized RX1, Cond.code yX1_limit cX1_limit 5 (some .int)]
def wsX10_of : List Cond := .code yX10_of cX10_of 3 (some .int) :: ((wsX10_of_r1 ++ wsX10_of_r2) ++ wsX100 ++ wsX50 ++ wsX80)
def wsX10_where_r1 : List Cond := [Cond.fieldLink RX10 48 "EggSpoons" "ghost" "LEggSpoons$Runner;", Cond.fieldLink RX10 10 "EggSpoons" "now" "LEggSpoons$Race;", Cond.fieldLink RX10 126 "EggSpoons$Race" "row" "[LEggSpoons$Runner;", Cond.fieldLink RX10 110 "EggSpoons$Race" "tick" "I", Cond.fieldLink RX10 140 "EggSpoons$Race" "length" "I", Cond.methodLink RX10 123 yX10_there, Cond.instanceMethod yX10_there, Cond.selects RX10 yX10_there yX10_there, Cond.initialized RX10, Cond.code yX10_there cX10_there 2 (some .boolean), Cond.fieldLink RX10 87 "EggSpoons$Race" "runners" "I", Cond.methodLink RX10 79 yX10_within, Cond.static yX10_within, Cond.code yX10_within cX10_within 3 (some .boolean), Cond.methodLink RX10 83 yX10_refuse, Cond.instanceMethod yX10_refuse, Cond.selects RX10 yX10_refuse yX10_refuse, Cond.code yX10_refuse cX10_refuse 3 (some .int), Cond.fieldLink RX10 34 "EggSpoons" "refused" "[I", Cond.methodLink RX10 148 yX8_copyFrom, Cond.instanceMethod yX8_copyFrom, Cond.selects RX8 yX8_copyFrom yX8_copyFrom, Cond.initialized RX8, Cond.code yX8_copyFrom cX8_copyFrom 2 none]
def wsX10_where_r2 : List Cond := [Cond.fieldLink RX8 9 "EggSpoons$Runner" "kind" "I", Cond.fieldLink RX8 15 "EggSpoons$Runner" "legs" "I", Cond.fieldLink RX8 18 "EggSpoons$Runner" "egg" "I", Cond.fieldLink RX8 21 "EggSpoons$Runner" "speed" "I", Cond.fieldLink RX8 24 "EggSpoons$Runner" "place" "I", Cond.fieldLink RX8 27 "EggSpoons$Runner" "drops" "I", Cond.fieldLink RX8 30 "EggSpoons$Runner" "waits" "I", Cond.fieldLink RX8 33 "EggSpoons$Runner" "homeAt" "I", Cond.methodLink RX10 152 yX8_placeBehind, Cond.instanceMethod yX8_placeBehind, Cond.selects RX8 yX8_placeBehind yX8_placeBehind, Cond.code yX8_placeBehind cX8_placeBehind 5 (some .int), Cond.methodLink RX8 52 yX8_step, Cond.instanceMethod yX8_step, Cond.selects RX8 yX8_step yX8_step, Cond.code yX8_step cX8_step 4 none, Cond.methodLink RX8 48 yX8_isHome, Cond.instanceMethod yX8_isHome, Cond.selects RX8 yX8_isHome yX8_isHome, Cond.code yX8_isHome cX8_isHome 1 (some .boolean), Cond.methodLink RX8 36 yX2_reach, Cond.static yX2_reach, Cond.initialized RX2, Cond.code yX2_reach cX2_reach 7 (some .int)]
def wsX10_where_r3 : List Cond := [Cond.methodLink RX8 42 yX1_limit, Cond.static yX1_limit, Cond.initialized RX1, Cond.code yX1_limit cX1_limit 5 (some .int)]
def wsX10_where : List Cond := .code yX10_where cX10_where 3 (some .int) :: ((wsX10_where_r1 ++ (wsX10_where_r2 ++ wsX10_where_r3)) ++ wsX100 ++ wsX50 ++ wsX80)
def wsX10_homeBehind_r1 : List Cond := [Cond.fieldLink RX10 48 "EggSpoons" "ghost" "LEggSpoons$Runner;", Cond.fieldLink RX10 10 "EggSpoons" "now" "LEggSpoons$Race;", Cond.fieldLink RX10 126 "EggSpoons$Race" "row" "[LEggSpoons$Runner;", Cond.fieldLink RX10 110 "EggSpoons$Race" "tick" "I", Cond.fieldLink RX10 140 "EggSpoons$Race" "length" "I", Cond.methodLink RX10 148 yX8_copyFrom, Cond.instanceMethod yX8_copyFrom, Cond.selects RX8 yX8_copyFrom yX8_copyFrom, Cond.initialized RX8, Cond.code yX8_copyFrom cX8_copyFrom 2 none, Cond.fieldLink RX8 9 "EggSpoons$Runner" "kind" "I", Cond.fieldLink RX8 15 "EggSpoons$Runner" "legs" "I", Cond.fieldLink RX8 18 "EggSpoons$Runner" "egg" "I", Cond.fieldLink RX8 21 "EggSpoons$Runner" "speed" "I", Cond.fieldLink RX8 24 "EggSpoons$Runner" "place" "I", Cond.fieldLink RX8 27 "EggSpoons$Runner" "drops" "I", Cond.fieldLink RX8 30 "EggSpoons$Runner" "waits" "I", Cond.fieldLink RX8 33 "EggSpoons$Runner" "homeAt" "I", Cond.methodLink RX10 165 yX8_ticksToHome, Cond.instanceMethod yX8_ticksToHome, Cond.selects RX8 yX8_ticksToHome yX8_ticksToHome, Cond.code yX8_ticksToHome cX8_ticksToHome 5 (some .int), Cond.methodLink RX8 48 yX8_isHome, Cond.instanceMethod yX8_isHome]
def wsX10_homeBehind_r2 : List Cond := [Cond.selects RX8 yX8_isHome yX8_isHome, Cond.code yX8_isHome cX8_isHome 1 (some .boolean), Cond.methodLink RX8 52 yX8_step, Cond.instanceMethod yX8_step, Cond.selects RX8 yX8_step yX8_step, Cond.code yX8_step cX8_step 4 none, Cond.methodLink RX8 36 yX2_reach, Cond.static yX2_reach, Cond.initialized RX2, Cond.code yX2_reach cX2_reach 7 (some .int), Cond.methodLink RX8 42 yX1_limit, Cond.static yX1_limit, Cond.initialized RX1, Cond.code yX1_limit cX1_limit 5 (some .int)]
def wsX10_homeBehind : List Cond := .code yX10_homeBehind cX10_homeBehind 3 (some .int) :: ((wsX10_homeBehind_r1 ++ wsX10_homeBehind_r2) ++ wsX100 ++ wsX50 ++ wsX80)
def wsX10_home_r1 : List Cond := [Cond.methodLink RX10 123 yX10_there, Cond.instanceMethod yX10_there, Cond.selects RX10 yX10_there yX10_there, Cond.initialized RX10, Cond.code yX10_there cX10_there 2 (some .boolean), Cond.fieldLink RX10 10 "EggSpoons" "now" "LEggSpoons$Race;", Cond.fieldLink RX10 87 "EggSpoons$Race" "runners" "I", Cond.methodLink RX10 156 yX10_homeBehind, Cond.instanceMethod yX10_homeBehind, Cond.selects RX10 yX10_homeBehind yX10_homeBehind, Cond.code yX10_homeBehind cX10_homeBehind 3 (some .int), Cond.fieldLink RX10 48 "EggSpoons" "ghost" "LEggSpoons$Runner;", Cond.fieldLink RX10 126 "EggSpoons$Race" "row" "[LEggSpoons$Runner;", Cond.fieldLink RX10 110 "EggSpoons$Race" "tick" "I", Cond.fieldLink RX10 140 "EggSpoons$Race" "length" "I", Cond.methodLink RX10 148 yX8_copyFrom, Cond.instanceMethod yX8_copyFrom, Cond.selects RX8 yX8_copyFrom yX8_copyFrom, Cond.initialized RX8, Cond.code yX8_copyFrom cX8_copyFrom 2 none, Cond.fieldLink RX8 9 "EggSpoons$Runner" "kind" "I", Cond.fieldLink RX8 15 "EggSpoons$Runner" "legs" "I", Cond.fieldLink RX8 18 "EggSpoons$Runner" "egg" "I", Cond.fieldLink RX8 21 "EggSpoons$Runner" "speed" "I"]
def wsX10_home_r2 : List Cond := [Cond.fieldLink RX8 24 "EggSpoons$Runner" "place" "I", Cond.fieldLink RX8 27 "EggSpoons$Runner" "drops" "I", Cond.fieldLink RX8 30 "EggSpoons$Runner" "waits" "I", Cond.fieldLink RX8 33 "EggSpoons$Runner" "homeAt" "I", Cond.methodLink RX10 165 yX8_ticksToHome, Cond.instanceMethod yX8_ticksToHome, Cond.selects RX8 yX8_ticksToHome yX8_ticksToHome, Cond.code yX8_ticksToHome cX8_ticksToHome 5 (some .int), Cond.methodLink RX8 48 yX8_isHome, Cond.instanceMethod yX8_isHome, Cond.selects RX8 yX8_isHome yX8_isHome, Cond.code yX8_isHome cX8_isHome 1 (some .boolean), Cond.methodLink RX8 52 yX8_step, Cond.instanceMethod yX8_step, Cond.selects RX8 yX8_step yX8_step, Cond.code yX8_step cX8_step 4 none, Cond.methodLink RX8 36 yX2_reach, Cond.static yX2_reach, Cond.initialized RX2, Cond.code yX2_reach cX2_reach 7 (some .int), Cond.methodLink RX8 42 yX1_limit, Cond.static yX1_limit, Cond.initialized RX1, Cond.code yX1_limit cX1_limit 5 (some .int)]
def wsX10_home_r3 : List Cond := [Cond.methodLink RX10 83 yX10_refuse, Cond.instanceMethod yX10_refuse, Cond.selects RX10 yX10_refuse yX10_refuse, Cond.code yX10_refuse cX10_refuse 3 (some .int), Cond.fieldLink RX10 34 "EggSpoons" "refused" "[I"]
def wsX10_home : List Cond := .code yX10_home cX10_home 2 (some .int) :: ((wsX10_home_r1 ++ (wsX10_home_r2 ++ wsX10_home_r3)) ++ wsX100 ++ wsX50 ++ wsX80)
def wsX10_first_r1 : List Cond := [Cond.fieldLink RX10 10 "EggSpoons" "now" "LEggSpoons$Race;", Cond.fieldLink RX10 87 "EggSpoons$Race" "runners" "I", Cond.fieldLink RX10 126 "EggSpoons$Race" "row" "[LEggSpoons$Runner;", Cond.methodLink RX10 133 yX8_isHome, Cond.instanceMethod yX8_isHome, Cond.selects RX8 yX8_isHome yX8_isHome, Cond.initialized RX8, Cond.code yX8_isHome cX8_isHome 1 (some .boolean), Cond.fieldLink RX8 33 "EggSpoons$Runner" "homeAt" "I", Cond.methodLink RX10 156 yX10_homeBehind, Cond.instanceMethod yX10_homeBehind, Cond.selects RX10 yX10_homeBehind yX10_homeBehind, Cond.initialized RX10, Cond.code yX10_homeBehind cX10_homeBehind 3 (some .int), Cond.fieldLink RX10 48 "EggSpoons" "ghost" "LEggSpoons$Runner;", Cond.fieldLink RX10 110 "EggSpoons$Race" "tick" "I", Cond.fieldLink RX10 140 "EggSpoons$Race" "length" "I", Cond.methodLink RX10 148 yX8_copyFrom, Cond.instanceMethod yX8_copyFrom, Cond.selects RX8 yX8_copyFrom yX8_copyFrom, Cond.code yX8_copyFrom cX8_copyFrom 2 none, Cond.fieldLink RX8 9 "EggSpoons$Runner" "kind" "I", Cond.fieldLink RX8 15 "EggSpoons$Runner" "legs" "I", Cond.fieldLink RX8 18 "EggSpoons$Runner" "egg" "I"]
def wsX10_first_r2 : List Cond := [Cond.fieldLink RX8 21 "EggSpoons$Runner" "speed" "I", Cond.fieldLink RX8 24 "EggSpoons$Runner" "place" "I", Cond.fieldLink RX8 27 "EggSpoons$Runner" "drops" "I", Cond.fieldLink RX8 30 "EggSpoons$Runner" "waits" "I", Cond.methodLink RX10 165 yX8_ticksToHome, Cond.instanceMethod yX8_ticksToHome, Cond.selects RX8 yX8_ticksToHome yX8_ticksToHome, Cond.code yX8_ticksToHome cX8_ticksToHome 5 (some .int), Cond.methodLink RX8 48 yX8_isHome, Cond.methodLink RX8 52 yX8_step, Cond.instanceMethod yX8_step, Cond.selects RX8 yX8_step yX8_step, Cond.code yX8_step cX8_step 4 none, Cond.methodLink RX8 36 yX2_reach, Cond.static yX2_reach, Cond.initialized RX2, Cond.code yX2_reach cX2_reach 7 (some .int), Cond.methodLink RX8 42 yX1_limit, Cond.static yX1_limit, Cond.initialized RX1, Cond.code yX1_limit cX1_limit 5 (some .int)]
def wsX10_first : List Cond := .code yX10_first cX10_first 5 (some .int) :: ((wsX10_first_r1 ++ wsX10_first_r2) ++ wsX100 ++ wsX50 ++ wsX80)
def wsX10_rankAll_r1 : List Cond := [Cond.fieldLink RX10 10 "EggSpoons" "now" "LEggSpoons$Race;", Cond.fieldLink RX10 87 "EggSpoons$Race" "runners" "I", Cond.fieldLink RX10 126 "EggSpoons$Race" "row" "[LEggSpoons$Runner;", Cond.fieldLink RX10 76 "EggSpoons" "ranks" "[I", Cond.fieldLink RX10 303 "EggSpoons$Runner" "homeAt" "I", Cond.methodLink RX10 156 yX10_homeBehind, Cond.instanceMethod yX10_homeBehind, Cond.selects RX10 yX10_homeBehind yX10_homeBehind, Cond.initialized RX10, Cond.code yX10_homeBehind cX10_homeBehind 3 (some .int), Cond.fieldLink RX10 48 "EggSpoons" "ghost" "LEggSpoons$Runner;", Cond.fieldLink RX10 110 "EggSpoons$Race" "tick" "I", Cond.fieldLink RX10 140 "EggSpoons$Race" "length" "I", Cond.methodLink RX10 148 yX8_copyFrom, Cond.instanceMethod yX8_copyFrom, Cond.selects RX8 yX8_copyFrom yX8_copyFrom, Cond.initialized RX8, Cond.code yX8_copyFrom cX8_copyFrom 2 none, Cond.fieldLink RX8 9 "EggSpoons$Runner" "kind" "I", Cond.fieldLink RX8 15 "EggSpoons$Runner" "legs" "I", Cond.fieldLink RX8 18 "EggSpoons$Runner" "egg" "I", Cond.fieldLink RX8 21 "EggSpoons$Runner" "speed" "I", Cond.fieldLink RX8 24 "EggSpoons$Runner" "place" "I", Cond.fieldLink RX8 27 "EggSpoons$Runner" "drops" "I"]
def wsX10_rankAll_r2 : List Cond := [Cond.fieldLink RX8 30 "EggSpoons$Runner" "waits" "I", Cond.fieldLink RX8 33 "EggSpoons$Runner" "homeAt" "I", Cond.methodLink RX10 165 yX8_ticksToHome, Cond.instanceMethod yX8_ticksToHome, Cond.selects RX8 yX8_ticksToHome yX8_ticksToHome, Cond.code yX8_ticksToHome cX8_ticksToHome 5 (some .int), Cond.methodLink RX8 48 yX8_isHome, Cond.instanceMethod yX8_isHome, Cond.selects RX8 yX8_isHome yX8_isHome, Cond.code yX8_isHome cX8_isHome 1 (some .boolean), Cond.methodLink RX8 52 yX8_step, Cond.instanceMethod yX8_step, Cond.selects RX8 yX8_step yX8_step, Cond.code yX8_step cX8_step 4 none, Cond.methodLink RX8 36 yX2_reach, Cond.static yX2_reach, Cond.initialized RX2, Cond.code yX2_reach cX2_reach 7 (some .int), Cond.methodLink RX8 42 yX1_limit, Cond.static yX1_limit, Cond.initialized RX1, Cond.code yX1_limit cX1_limit 5 (some .int), Cond.methodLink RX10 133 yX8_isHome]
def wsX10_rankAll : List Cond := .code yX10_rankAll cX10_rankAll 5 none :: ((wsX10_rankAll_r1 ++ wsX10_rankAll_r2) ++ wsX100 ++ wsX50 ++ wsX80)
def wsX10_aheadOf : List Cond := .code yX10_aheadOf cX10_aheadOf 4 (some .int) :: ([.fieldLink RX10 10 "EggSpoons" "now" "LEggSpoons$Race;", .fieldLink RX10 87 "EggSpoons$Race" "runners" "I", .fieldLink RX10 76 "EggSpoons" "ranks" "[I"] ++ wsX100 ++ wsX50)
def wsX10_order_r1 : List Cond := [Cond.fieldLink RX10 10 "EggSpoons" "now" "LEggSpoons$Race;", Cond.fieldLink RX10 87 "EggSpoons$Race" "runners" "I", Cond.methodLink RX10 83 yX10_refuse, Cond.instanceMethod yX10_refuse, Cond.selects RX10 yX10_refuse yX10_refuse, Cond.initialized RX10, Cond.code yX10_refuse cX10_refuse 3 (some .int), Cond.fieldLink RX10 34 "EggSpoons" "refused" "[I", Cond.methodLink RX10 159 yX10_rankAll, Cond.instanceMethod yX10_rankAll, Cond.selects RX10 yX10_rankAll yX10_rankAll, Cond.code yX10_rankAll cX10_rankAll 5 none, Cond.fieldLink RX10 126 "EggSpoons$Race" "row" "[LEggSpoons$Runner;", Cond.fieldLink RX10 76 "EggSpoons" "ranks" "[I", Cond.fieldLink RX10 303 "EggSpoons$Runner" "homeAt" "I", Cond.methodLink RX10 156 yX10_homeBehind, Cond.instanceMethod yX10_homeBehind, Cond.selects RX10 yX10_homeBehind yX10_homeBehind, Cond.code yX10_homeBehind cX10_homeBehind 3 (some .int), Cond.fieldLink RX10 48 "EggSpoons" "ghost" "LEggSpoons$Runner;", Cond.fieldLink RX10 110 "EggSpoons$Race" "tick" "I", Cond.fieldLink RX10 140 "EggSpoons$Race" "length" "I", Cond.methodLink RX10 148 yX8_copyFrom, Cond.instanceMethod yX8_copyFrom]
def wsX10_order_r2 : List Cond := [Cond.selects RX8 yX8_copyFrom yX8_copyFrom, Cond.initialized RX8, Cond.code yX8_copyFrom cX8_copyFrom 2 none, Cond.fieldLink RX8 9 "EggSpoons$Runner" "kind" "I", Cond.fieldLink RX8 15 "EggSpoons$Runner" "legs" "I", Cond.fieldLink RX8 18 "EggSpoons$Runner" "egg" "I", Cond.fieldLink RX8 21 "EggSpoons$Runner" "speed" "I", Cond.fieldLink RX8 24 "EggSpoons$Runner" "place" "I", Cond.fieldLink RX8 27 "EggSpoons$Runner" "drops" "I", Cond.fieldLink RX8 30 "EggSpoons$Runner" "waits" "I", Cond.fieldLink RX8 33 "EggSpoons$Runner" "homeAt" "I", Cond.methodLink RX10 165 yX8_ticksToHome, Cond.instanceMethod yX8_ticksToHome, Cond.selects RX8 yX8_ticksToHome yX8_ticksToHome, Cond.code yX8_ticksToHome cX8_ticksToHome 5 (some .int), Cond.methodLink RX8 48 yX8_isHome, Cond.instanceMethod yX8_isHome, Cond.selects RX8 yX8_isHome yX8_isHome, Cond.code yX8_isHome cX8_isHome 1 (some .boolean), Cond.methodLink RX8 52 yX8_step, Cond.instanceMethod yX8_step, Cond.selects RX8 yX8_step yX8_step, Cond.code yX8_step cX8_step 4 none, Cond.methodLink RX8 36 yX2_reach]
def wsX10_order_r3 : List Cond := [Cond.static yX2_reach, Cond.initialized RX2, Cond.code yX2_reach cX2_reach 7 (some .int), Cond.methodLink RX8 42 yX1_limit, Cond.static yX1_limit, Cond.initialized RX1, Cond.code yX1_limit cX1_limit 5 (some .int), Cond.methodLink RX10 133 yX8_isHome, Cond.methodLink RX10 162 yX10_aheadOf, Cond.instanceMethod yX10_aheadOf, Cond.selects RX10 yX10_aheadOf yX10_aheadOf, Cond.code yX10_aheadOf cX10_aheadOf 4 (some .int)]
def wsX10_order : List Cond := .code yX10_order cX10_order 3 (some .int) :: ((wsX10_order_r1 ++ (wsX10_order_r2 ++ wsX10_order_r3)) ++ wsX100 ++ wsX50 ++ wsX80)
def wsX10_best_r1 : List Cond := [Cond.fieldLink RX10 10 "EggSpoons" "now" "LEggSpoons$Race;", Cond.fieldLink RX10 126 "EggSpoons$Race" "row" "[LEggSpoons$Runner;", Cond.fieldLink RX10 48 "EggSpoons" "ghost" "LEggSpoons$Runner;", Cond.fieldLink RX10 130 "EggSpoons$Runner" "speed" "I", Cond.fieldLink RX10 110 "EggSpoons$Race" "tick" "I", Cond.fieldLink RX10 140 "EggSpoons$Race" "length" "I", Cond.methodLink RX10 123 yX10_there, Cond.instanceMethod yX10_there, Cond.selects RX10 yX10_there yX10_there, Cond.initialized RX10, Cond.code yX10_there cX10_there 2 (some .boolean), Cond.fieldLink RX10 87 "EggSpoons$Race" "runners" "I", Cond.methodLink RX10 79 yX10_within, Cond.static yX10_within, Cond.code yX10_within cX10_within 3 (some .boolean), Cond.methodLink RX10 83 yX10_refuse, Cond.instanceMethod yX10_refuse, Cond.selects RX10 yX10_refuse yX10_refuse, Cond.code yX10_refuse cX10_refuse 3 (some .int), Cond.fieldLink RX10 34 "EggSpoons" "refused" "[I", Cond.methodLink RX10 133 yX8_isHome, Cond.instanceMethod yX8_isHome, Cond.selects RX8 yX8_isHome yX8_isHome, Cond.initialized RX8]
def wsX10_best_r2 : List Cond := [Cond.code yX8_isHome cX8_isHome 1 (some .boolean), Cond.fieldLink RX8 33 "EggSpoons$Runner" "homeAt" "I", Cond.methodLink RX10 148 yX8_copyFrom, Cond.instanceMethod yX8_copyFrom, Cond.selects RX8 yX8_copyFrom yX8_copyFrom, Cond.code yX8_copyFrom cX8_copyFrom 2 none, Cond.fieldLink RX8 9 "EggSpoons$Runner" "kind" "I", Cond.fieldLink RX8 15 "EggSpoons$Runner" "legs" "I", Cond.fieldLink RX8 18 "EggSpoons$Runner" "egg" "I", Cond.fieldLink RX8 21 "EggSpoons$Runner" "speed" "I", Cond.fieldLink RX8 24 "EggSpoons$Runner" "place" "I", Cond.fieldLink RX8 27 "EggSpoons$Runner" "drops" "I", Cond.fieldLink RX8 30 "EggSpoons$Runner" "waits" "I", Cond.methodLink RX10 165 yX8_ticksToHome, Cond.instanceMethod yX8_ticksToHome, Cond.selects RX8 yX8_ticksToHome yX8_ticksToHome, Cond.code yX8_ticksToHome cX8_ticksToHome 5 (some .int), Cond.methodLink RX8 48 yX8_isHome, Cond.methodLink RX8 52 yX8_step, Cond.instanceMethod yX8_step, Cond.selects RX8 yX8_step yX8_step, Cond.code yX8_step cX8_step 4 none, Cond.methodLink RX8 36 yX2_reach, Cond.static yX2_reach]
def wsX10_best_r3 : List Cond := [Cond.initialized RX2, Cond.code yX2_reach cX2_reach 7 (some .int), Cond.methodLink RX8 42 yX1_limit, Cond.static yX1_limit, Cond.initialized RX1, Cond.code yX1_limit cX1_limit 5 (some .int)]
def wsX10_best : List Cond := .code yX10_best cX10_best 8 (some .int) :: ((wsX10_best_r1 ++ (wsX10_best_r2 ++ wsX10_best_r3)) ++ wsX100 ++ wsX50 ++ wsX80)
def wsX10_homeTurning_r1 : List Cond := [Cond.methodLink RX10 300 Lib.Math.min.name, Cond.static Lib.Math.min.name, Cond.initialized "java/lang/Math", Cond.code Lib.Math.min.name Lib.Math.min.code 2 (some .int), Cond.fieldLink RX10 48 "EggSpoons" "ghost" "LEggSpoons$Runner;", Cond.fieldLink RX10 130 "EggSpoons$Runner" "speed" "I", Cond.fieldLink RX10 10 "EggSpoons" "now" "LEggSpoons$Race;", Cond.fieldLink RX10 110 "EggSpoons$Race" "tick" "I", Cond.fieldLink RX10 140 "EggSpoons$Race" "length" "I", Cond.methodLink RX10 156 yX10_homeBehind, Cond.instanceMethod yX10_homeBehind, Cond.selects RX10 yX10_homeBehind yX10_homeBehind, Cond.initialized RX10, Cond.code yX10_homeBehind cX10_homeBehind 3 (some .int), Cond.fieldLink RX10 126 "EggSpoons$Race" "row" "[LEggSpoons$Runner;", Cond.methodLink RX10 148 yX8_copyFrom, Cond.instanceMethod yX8_copyFrom, Cond.selects RX8 yX8_copyFrom yX8_copyFrom, Cond.initialized RX8, Cond.code yX8_copyFrom cX8_copyFrom 2 none, Cond.fieldLink RX8 9 "EggSpoons$Runner" "kind" "I", Cond.fieldLink RX8 15 "EggSpoons$Runner" "legs" "I", Cond.fieldLink RX8 18 "EggSpoons$Runner" "egg" "I", Cond.fieldLink RX8 21 "EggSpoons$Runner" "speed" "I"]
def wsX10_homeTurning_r2 : List Cond := [Cond.fieldLink RX8 24 "EggSpoons$Runner" "place" "I", Cond.fieldLink RX8 27 "EggSpoons$Runner" "drops" "I", Cond.fieldLink RX8 30 "EggSpoons$Runner" "waits" "I", Cond.fieldLink RX8 33 "EggSpoons$Runner" "homeAt" "I", Cond.methodLink RX10 165 yX8_ticksToHome, Cond.instanceMethod yX8_ticksToHome, Cond.selects RX8 yX8_ticksToHome yX8_ticksToHome, Cond.code yX8_ticksToHome cX8_ticksToHome 5 (some .int), Cond.methodLink RX8 48 yX8_isHome, Cond.instanceMethod yX8_isHome, Cond.selects RX8 yX8_isHome yX8_isHome, Cond.code yX8_isHome cX8_isHome 1 (some .boolean), Cond.methodLink RX8 52 yX8_step, Cond.instanceMethod yX8_step, Cond.selects RX8 yX8_step yX8_step, Cond.code yX8_step cX8_step 4 none, Cond.methodLink RX8 36 yX2_reach, Cond.static yX2_reach, Cond.initialized RX2, Cond.code yX2_reach cX2_reach 7 (some .int), Cond.methodLink RX8 42 yX1_limit, Cond.static yX1_limit, Cond.initialized RX1, Cond.code yX1_limit cX1_limit 5 (some .int)]
def wsX10_homeTurning : List Cond := .code yX10_homeTurning cX10_homeTurning 7 (some .int) :: ((wsX10_homeTurning_r1 ++ wsX10_homeTurning_r2) ++ wsX100 ++ wsX80 ++ wsX50)
def wsX10_turn_r1 : List Cond := [Cond.fieldLink RX10 10 "EggSpoons" "now" "LEggSpoons$Race;", Cond.fieldLink RX10 126 "EggSpoons$Race" "row" "[LEggSpoons$Runner;", Cond.methodLink RX10 123 yX10_there, Cond.instanceMethod yX10_there, Cond.selects RX10 yX10_there yX10_there, Cond.initialized RX10, Cond.code yX10_there cX10_there 2 (some .boolean), Cond.fieldLink RX10 87 "EggSpoons$Race" "runners" "I", Cond.methodLink RX10 79 yX10_within, Cond.static yX10_within, Cond.code yX10_within cX10_within 3 (some .boolean), Cond.methodLink RX10 83 yX10_refuse, Cond.instanceMethod yX10_refuse, Cond.selects RX10 yX10_refuse yX10_refuse, Cond.code yX10_refuse cX10_refuse 3 (some .int), Cond.fieldLink RX10 34 "EggSpoons" "refused" "[I", Cond.methodLink RX10 133 yX8_isHome, Cond.instanceMethod yX8_isHome, Cond.selects RX8 yX8_isHome yX8_isHome, Cond.initialized RX8, Cond.code yX8_isHome cX8_isHome 1 (some .boolean), Cond.fieldLink RX8 33 "EggSpoons$Runner" "homeAt" "I", Cond.methodLink RX10 168 yX10_homeTurning, Cond.instanceMethod yX10_homeTurning]
def wsX10_turn_r2 : List Cond := [Cond.selects RX10 yX10_homeTurning yX10_homeTurning, Cond.code yX10_homeTurning cX10_homeTurning 7 (some .int), Cond.methodLink RX10 300 Lib.Math.min.name, Cond.static Lib.Math.min.name, Cond.initialized "java/lang/Math", Cond.code Lib.Math.min.name Lib.Math.min.code 2 (some .int), Cond.fieldLink RX10 48 "EggSpoons" "ghost" "LEggSpoons$Runner;", Cond.fieldLink RX10 130 "EggSpoons$Runner" "speed" "I", Cond.fieldLink RX10 110 "EggSpoons$Race" "tick" "I", Cond.fieldLink RX10 140 "EggSpoons$Race" "length" "I", Cond.methodLink RX10 156 yX10_homeBehind, Cond.instanceMethod yX10_homeBehind, Cond.selects RX10 yX10_homeBehind yX10_homeBehind, Cond.code yX10_homeBehind cX10_homeBehind 3 (some .int), Cond.methodLink RX10 148 yX8_copyFrom, Cond.instanceMethod yX8_copyFrom, Cond.selects RX8 yX8_copyFrom yX8_copyFrom, Cond.code yX8_copyFrom cX8_copyFrom 2 none, Cond.fieldLink RX8 9 "EggSpoons$Runner" "kind" "I", Cond.fieldLink RX8 15 "EggSpoons$Runner" "legs" "I", Cond.fieldLink RX8 18 "EggSpoons$Runner" "egg" "I", Cond.fieldLink RX8 21 "EggSpoons$Runner" "speed" "I", Cond.fieldLink RX8 24 "EggSpoons$Runner" "place" "I", Cond.fieldLink RX8 27 "EggSpoons$Runner" "drops" "I"]
def wsX10_turn_r3 : List Cond := [Cond.fieldLink RX8 30 "EggSpoons$Runner" "waits" "I", Cond.methodLink RX10 165 yX8_ticksToHome, Cond.instanceMethod yX8_ticksToHome, Cond.selects RX8 yX8_ticksToHome yX8_ticksToHome, Cond.code yX8_ticksToHome cX8_ticksToHome 5 (some .int), Cond.methodLink RX8 48 yX8_isHome, Cond.methodLink RX8 52 yX8_step, Cond.instanceMethod yX8_step, Cond.selects RX8 yX8_step yX8_step, Cond.code yX8_step cX8_step 4 none, Cond.methodLink RX8 36 yX2_reach, Cond.static yX2_reach, Cond.initialized RX2, Cond.code yX2_reach cX2_reach 7 (some .int), Cond.methodLink RX8 42 yX1_limit, Cond.static yX1_limit, Cond.initialized RX1, Cond.code yX1_limit cX1_limit 5 (some .int)]
def wsX10_turn : List Cond := .code yX10_turn cX10_turn 9 (some .int) :: ((wsX10_turn_r1 ++ (wsX10_turn_r2 ++ wsX10_turn_r3)) ++ wsX100 ++ wsX50 ++ wsX80)
def wsX10_areTwo : List Cond := .code yX10_areTwo cX10_areTwo 3 (some .boolean) :: ([.methodLink RX10 123 yX10_there, .instanceMethod yX10_there, .selects RX10 yX10_there yX10_there, .initialized RX10, .code yX10_there cX10_there 2 (some .boolean), .fieldLink RX10 10 "EggSpoons" "now" "LEggSpoons$Race;", .fieldLink RX10 87 "EggSpoons$Race" "runners" "I"] ++ wsX100 ++ wsX50)
def wsX10_beats_r1 : List Cond := [Cond.fieldLink RX10 10 "EggSpoons" "now" "LEggSpoons$Race;", Cond.fieldLink RX10 126 "EggSpoons$Race" "row" "[LEggSpoons$Runner;", Cond.fieldLink RX10 137 "EggSpoons$Runner" "place" "I", Cond.fieldLink RX10 140 "EggSpoons$Race" "length" "I", Cond.fieldLink RX10 48 "EggSpoons" "ghost" "LEggSpoons$Runner;", Cond.fieldLink RX10 110 "EggSpoons$Race" "tick" "I", Cond.methodLink RX10 172 yX10_areTwo, Cond.instanceMethod yX10_areTwo, Cond.selects RX10 yX10_areTwo yX10_areTwo, Cond.initialized RX10, Cond.code yX10_areTwo cX10_areTwo 3 (some .boolean), Cond.methodLink RX10 123 yX10_there, Cond.instanceMethod yX10_there, Cond.selects RX10 yX10_there yX10_there, Cond.code yX10_there cX10_there 2 (some .boolean), Cond.fieldLink RX10 87 "EggSpoons$Race" "runners" "I", Cond.methodLink RX10 83 yX10_refuse, Cond.instanceMethod yX10_refuse, Cond.selects RX10 yX10_refuse yX10_refuse, Cond.code yX10_refuse cX10_refuse 3 (some .int), Cond.fieldLink RX10 34 "EggSpoons" "refused" "[I", Cond.methodLink RX10 133 yX8_isHome, Cond.instanceMethod yX8_isHome, Cond.selects RX8 yX8_isHome yX8_isHome]
def wsX10_beats_r2 : List Cond := [Cond.initialized RX8, Cond.code yX8_isHome cX8_isHome 1 (some .boolean), Cond.fieldLink RX8 33 "EggSpoons$Runner" "homeAt" "I", Cond.methodLink RX10 156 yX10_homeBehind, Cond.instanceMethod yX10_homeBehind, Cond.selects RX10 yX10_homeBehind yX10_homeBehind, Cond.code yX10_homeBehind cX10_homeBehind 3 (some .int), Cond.methodLink RX10 148 yX8_copyFrom, Cond.instanceMethod yX8_copyFrom, Cond.selects RX8 yX8_copyFrom yX8_copyFrom, Cond.code yX8_copyFrom cX8_copyFrom 2 none, Cond.fieldLink RX8 9 "EggSpoons$Runner" "kind" "I", Cond.fieldLink RX8 15 "EggSpoons$Runner" "legs" "I", Cond.fieldLink RX8 18 "EggSpoons$Runner" "egg" "I", Cond.fieldLink RX8 21 "EggSpoons$Runner" "speed" "I", Cond.fieldLink RX8 24 "EggSpoons$Runner" "place" "I", Cond.fieldLink RX8 27 "EggSpoons$Runner" "drops" "I", Cond.fieldLink RX8 30 "EggSpoons$Runner" "waits" "I", Cond.methodLink RX10 165 yX8_ticksToHome, Cond.instanceMethod yX8_ticksToHome, Cond.selects RX8 yX8_ticksToHome yX8_ticksToHome, Cond.code yX8_ticksToHome cX8_ticksToHome 5 (some .int), Cond.methodLink RX8 48 yX8_isHome, Cond.methodLink RX8 52 yX8_step]
def wsX10_beats_r3 : List Cond := [Cond.instanceMethod yX8_step, Cond.selects RX8 yX8_step yX8_step, Cond.code yX8_step cX8_step 4 none, Cond.methodLink RX8 36 yX2_reach, Cond.static yX2_reach, Cond.initialized RX2, Cond.code yX2_reach cX2_reach 7 (some .int), Cond.methodLink RX8 42 yX1_limit, Cond.static yX1_limit, Cond.initialized RX1, Cond.code yX1_limit cX1_limit 5 (some .int)]
def wsX10_beats : List Cond := .code yX10_beats cX10_beats 7 (some .int) :: ((wsX10_beats_r1 ++ (wsX10_beats_r2 ++ wsX10_beats_r3)) ++ wsX100 ++ wsX50 ++ wsX80)
def wsX10_close_r1 : List Cond := [Cond.fieldLink RX10 48 "EggSpoons" "ghost" "LEggSpoons$Runner;", Cond.fieldLink RX10 10 "EggSpoons" "now" "LEggSpoons$Race;", Cond.fieldLink RX10 126 "EggSpoons$Race" "row" "[LEggSpoons$Runner;", Cond.fieldLink RX10 52 "EggSpoons" "rival" "LEggSpoons$Runner;", Cond.fieldLink RX10 137 "EggSpoons$Runner" "place" "I", Cond.methodLink RX10 176 Lib.Math.abs.name, Cond.static Lib.Math.abs.name, Cond.initialized "java/lang/Math", Cond.code Lib.Math.abs.name Lib.Math.abs.code 1 (some .int), Cond.fieldLink RX10 110 "EggSpoons$Race" "tick" "I", Cond.fieldLink RX10 140 "EggSpoons$Race" "length" "I", Cond.methodLink RX10 172 yX10_areTwo, Cond.instanceMethod yX10_areTwo, Cond.selects RX10 yX10_areTwo yX10_areTwo, Cond.initialized RX10, Cond.code yX10_areTwo cX10_areTwo 3 (some .boolean), Cond.methodLink RX10 123 yX10_there, Cond.instanceMethod yX10_there, Cond.selects RX10 yX10_there yX10_there, Cond.code yX10_there cX10_there 2 (some .boolean), Cond.fieldLink RX10 87 "EggSpoons$Race" "runners" "I", Cond.methodLink RX10 79 yX10_within, Cond.static yX10_within, Cond.code yX10_within cX10_within 3 (some .boolean)]
def wsX10_close_r2 : List Cond := [Cond.methodLink RX10 83 yX10_refuse, Cond.instanceMethod yX10_refuse, Cond.selects RX10 yX10_refuse yX10_refuse, Cond.code yX10_refuse cX10_refuse 3 (some .int), Cond.fieldLink RX10 34 "EggSpoons" "refused" "[I", Cond.methodLink RX10 148 yX8_copyFrom, Cond.instanceMethod yX8_copyFrom, Cond.selects RX8 yX8_copyFrom yX8_copyFrom, Cond.initialized RX8, Cond.code yX8_copyFrom cX8_copyFrom 2 none, Cond.fieldLink RX8 9 "EggSpoons$Runner" "kind" "I", Cond.fieldLink RX8 15 "EggSpoons$Runner" "legs" "I", Cond.fieldLink RX8 18 "EggSpoons$Runner" "egg" "I", Cond.fieldLink RX8 21 "EggSpoons$Runner" "speed" "I", Cond.fieldLink RX8 24 "EggSpoons$Runner" "place" "I", Cond.fieldLink RX8 27 "EggSpoons$Runner" "drops" "I", Cond.fieldLink RX8 30 "EggSpoons$Runner" "waits" "I", Cond.fieldLink RX8 33 "EggSpoons$Runner" "homeAt" "I", Cond.methodLink RX10 181 yX8_step, Cond.instanceMethod yX8_step, Cond.selects RX8 yX8_step yX8_step, Cond.code yX8_step cX8_step 4 none, Cond.methodLink RX8 48 yX8_isHome, Cond.instanceMethod yX8_isHome]
def wsX10_close_r3 : List Cond := [Cond.selects RX8 yX8_isHome yX8_isHome, Cond.code yX8_isHome cX8_isHome 1 (some .boolean), Cond.methodLink RX8 36 yX2_reach, Cond.static yX2_reach, Cond.initialized RX2, Cond.code yX2_reach cX2_reach 7 (some .int), Cond.methodLink RX8 42 yX1_limit, Cond.static yX1_limit, Cond.initialized RX1, Cond.code yX1_limit cX1_limit 5 (some .int)]
def wsX10_close : List Cond := .code yX10_close cX10_close 8 (some .int) :: ((wsX10_close_r1 ++ (wsX10_close_r2 ++ wsX10_close_r3)) ++ wsX100 ++ wsX50 ++ wsX80)
def wsX10_seen_r1 : List Cond := [Cond.fieldLink RX10 10 "EggSpoons" "now" "LEggSpoons$Race;", Cond.fieldLink RX10 185 "EggSpoons$Race" "seenRows" "LEggSpoons$Rows;", Cond.fieldLink RX10 194 "EggSpoons$Rows" "size" "I", Cond.methodLink RX10 123 yX10_there, Cond.instanceMethod yX10_there, Cond.selects RX10 yX10_there yX10_there, Cond.initialized RX10, Cond.code yX10_there cX10_there 2 (some .boolean), Cond.fieldLink RX10 87 "EggSpoons$Race" "runners" "I", Cond.methodLink RX10 79 yX10_within, Cond.static yX10_within, Cond.code yX10_within cX10_within 3 (some .boolean), Cond.methodLink RX10 83 yX10_refuse, Cond.instanceMethod yX10_refuse, Cond.selects RX10 yX10_refuse yX10_refuse, Cond.code yX10_refuse cX10_refuse 3 (some .int), Cond.fieldLink RX10 34 "EggSpoons" "refused" "[I", Cond.methodLink RX10 189 yX7_append, Cond.instanceMethod yX7_append, Cond.selects RX7 yX7_append yX7_append, Cond.initialized RX7, Cond.code yX7_append cX7_append 7 (some .boolean), Cond.fieldLink RX7 7 "EggSpoons$Rows" "size" "I", Cond.fieldLink RX7 13 "EggSpoons$Rows" "most" "I"]
def wsX10_seen_r2 : List Cond := [Cond.fieldLink RX7 23 "EggSpoons$Rows" "cells" "[I"]
def wsX10_seen : List Cond := .code yX10_seen cX10_seen 5 (some .int) :: ((wsX10_seen_r1 ++ wsX10_seen_r2) ++ wsX100 ++ wsX50 ++ wsX70)
def wsJ6_bitCount_0f7a4 : List Cond := .code yJ6_bitCount_0f7a4 cJ6_bitCount_0f7a4 1 (some .int) :: ([.constant RJ6 265 (1431655765), .constant RJ6 266 (858993459), .constant RJ6 267 (252645135)])
def wsX10_hasBit : List Cond := .code yX10_hasBit cX10_hasBit 2 (some .boolean) :: ([])
def wsX10_strong_r1 : List Cond := [Cond.fieldLink RX10 10 "EggSpoons" "now" "LEggSpoons$Race;", Cond.methodLink RX10 123 yX10_there, Cond.instanceMethod yX10_there, Cond.selects RX10 yX10_there yX10_there, Cond.initialized RX10, Cond.code yX10_there cX10_there 2 (some .boolean), Cond.fieldLink RX10 87 "EggSpoons$Race" "runners" "I", Cond.methodLink RX10 79 yX10_within, Cond.static yX10_within, Cond.code yX10_within cX10_within 3 (some .boolean), Cond.methodLink RX10 83 yX10_refuse, Cond.instanceMethod yX10_refuse, Cond.selects RX10 yX10_refuse yX10_refuse, Cond.code yX10_refuse cX10_refuse 3 (some .int), Cond.fieldLink RX10 34 "EggSpoons" "refused" "[I", Cond.methodLink RX10 197 yX5_legsThatFit, Cond.instanceMethod yX5_legsThatFit, Cond.selects RX5 yX5_legsThatFit yX5_legsThatFit, Cond.initialized RX5, Cond.code yX5_legsThatFit cX5_legsThatFit 4 (some .int), Cond.fieldLink RX5 39 "EggSpoons$Race" "seenRows" "LEggSpoons$Rows;", Cond.fieldLink RX5 23 "EggSpoons$Race" "row" "[LEggSpoons$Runner;", Cond.fieldLink RX5 94 "EggSpoons$Runner" "kind" "I", Cond.methodLink RX5 97 yX7_fitRunner]
def wsX10_strong_r2 : List Cond := [Cond.instanceMethod yX7_fitRunner, Cond.selects RX7 yX7_fitRunner yX7_fitRunner, Cond.initialized RX7, Cond.code yX7_fitRunner cX7_fitRunner 7 (some .boolean), Cond.fieldLink RX7 7 "EggSpoons$Rows" "size" "I", Cond.fieldLink RX7 16 "EggSpoons$Rows" "withLegs" "Z", Cond.fieldLink RX7 23 "EggSpoons$Rows" "cells" "[I", Cond.methodLink RX7 39 yX2_reach, Cond.static yX2_reach, Cond.initialized RX2, Cond.code yX2_reach cX2_reach 7 (some .int), Cond.methodLink RX10 200 yJ6_bitCount_0f7a4, Cond.static yJ6_bitCount_0f7a4, Cond.initialized RJ6, Cond.code yJ6_bitCount_0f7a4 cJ6_bitCount_0f7a4 1 (some .int), Cond.constant RJ6 265 (1431655765), Cond.constant RJ6 266 (858993459), Cond.constant RJ6 267 (252645135), Cond.methodLink RX10 205 yX10_hasBit, Cond.static yX10_hasBit, Cond.code yX10_hasBit cX10_hasBit 2 (some .boolean)]
def wsX10_strong : List Cond := .code yX10_strong cX10_strong 6 (some .int) :: ((wsX10_strong_r1 ++ wsX10_strong_r2) ++ wsX100 ++ wsX50 ++ wsX80 ++ wsX70)
def wsX10_farBy : List Cond := .code yX10_farBy cX10_farBy 4 (some .int) :: ([.fieldLink RX10 320 "EggSpoons$Runner" "kind" "I", .fieldLink RX10 328 "EggSpoons$Runner" "legs" "I", .methodLink RX10 323 yX2_reach, .static yX2_reach, .initialized RX2, .code yX2_reach cX2_reach 7 (some .int), .methodLink RX10 331 yX1_limit, .static yX1_limit, .initialized RX1, .code yX1_limit cX1_limit 5 (some .int)] ++ wsX80)
def wsX10_mostAlike_r1 : List Cond := [Cond.fieldLink RX10 58 "EggSpoons" "tally" "LEggSpoons$Tally;", Cond.fieldLink RX10 317 "EggSpoons$Tally" "most" "I", Cond.methodLink RX10 309 yX9_restart, Cond.instanceMethod yX9_restart, Cond.selects RX9 yX9_restart yX9_restart, Cond.initialized RX9, Cond.code yX9_restart cX9_restart 2 none, Cond.fieldLink RX9 9 "EggSpoons$Tally" "counts" "[I", Cond.fieldLink RX9 15 "EggSpoons$Tally" "most" "I", Cond.methodLink RX10 205 yX10_hasBit, Cond.static yX10_hasBit, Cond.initialized RX10, Cond.code yX10_hasBit cX10_hasBit 2 (some .boolean), Cond.methodLink RX10 311 yX10_farBy, Cond.static yX10_farBy, Cond.code yX10_farBy cX10_farBy 4 (some .int), Cond.fieldLink RX10 320 "EggSpoons$Runner" "kind" "I", Cond.fieldLink RX10 328 "EggSpoons$Runner" "legs" "I", Cond.methodLink RX10 323 yX2_reach, Cond.static yX2_reach, Cond.initialized RX2, Cond.code yX2_reach cX2_reach 7 (some .int), Cond.methodLink RX10 331 yX1_limit, Cond.static yX1_limit]
def wsX10_mostAlike_r2 : List Cond := [Cond.initialized RX1, Cond.code yX1_limit cX1_limit 5 (some .int), Cond.methodLink RX10 314 yX9_see, Cond.instanceMethod yX9_see, Cond.selects RX9 yX9_see yX9_see, Cond.code yX9_see cX9_see 2 none, Cond.methodLink RX9 19 Lib.Math.max.name, Cond.static Lib.Math.max.name, Cond.initialized "java/lang/Math", Cond.code Lib.Math.max.name Lib.Math.max.code 2 (some .int)]
def wsX10_mostAlike : List Cond := .code yX10_mostAlike cX10_mostAlike 6 (some .int) :: ((wsX10_mostAlike_r1 ++ wsX10_mostAlike_r2) ++ wsX100 ++ wsX90 ++ wsX80)
def wsX10_nextLook_r1 : List Cond := [Cond.methodLink RX10 200 yJ6_bitCount_0f7a4, Cond.static yJ6_bitCount_0f7a4, Cond.initialized RJ6, Cond.code yJ6_bitCount_0f7a4 cJ6_bitCount_0f7a4 1 (some .int), Cond.constant RJ6 265 (1431655765), Cond.constant RJ6 266 (858993459), Cond.constant RJ6 267 (252645135), Cond.methodLink RX10 306 yX10_mostAlike, Cond.instanceMethod yX10_mostAlike, Cond.selects RX10 yX10_mostAlike yX10_mostAlike, Cond.initialized RX10, Cond.code yX10_mostAlike cX10_mostAlike 6 (some .int), Cond.fieldLink RX10 58 "EggSpoons" "tally" "LEggSpoons$Tally;", Cond.fieldLink RX10 317 "EggSpoons$Tally" "most" "I", Cond.methodLink RX10 309 yX9_restart, Cond.instanceMethod yX9_restart, Cond.selects RX9 yX9_restart yX9_restart, Cond.initialized RX9, Cond.code yX9_restart cX9_restart 2 none, Cond.fieldLink RX9 9 "EggSpoons$Tally" "counts" "[I", Cond.fieldLink RX9 15 "EggSpoons$Tally" "most" "I", Cond.methodLink RX10 205 yX10_hasBit, Cond.static yX10_hasBit, Cond.code yX10_hasBit cX10_hasBit 2 (some .boolean)]
def wsX10_nextLook_r2 : List Cond := [Cond.methodLink RX10 311 yX10_farBy, Cond.static yX10_farBy, Cond.code yX10_farBy cX10_farBy 4 (some .int), Cond.fieldLink RX10 320 "EggSpoons$Runner" "kind" "I", Cond.fieldLink RX10 328 "EggSpoons$Runner" "legs" "I", Cond.methodLink RX10 323 yX2_reach, Cond.static yX2_reach, Cond.initialized RX2, Cond.code yX2_reach cX2_reach 7 (some .int), Cond.methodLink RX10 331 yX1_limit, Cond.static yX1_limit, Cond.initialized RX1, Cond.code yX1_limit cX1_limit 5 (some .int), Cond.methodLink RX10 314 yX9_see, Cond.instanceMethod yX9_see, Cond.selects RX9 yX9_see yX9_see, Cond.code yX9_see cX9_see 2 none, Cond.methodLink RX9 19 Lib.Math.max.name, Cond.static Lib.Math.max.name, Cond.initialized "java/lang/Math", Cond.code Lib.Math.max.name Lib.Math.max.code 2 (some .int)]
def wsX10_nextLook : List Cond := .code yX10_nextLook cX10_nextLook 9 (some .int) :: ((wsX10_nextLook_r1 ++ wsX10_nextLook_r2) ++ wsX100 ++ wsX90 ++ wsX80)
def wsX10_tell_r1 : List Cond := [Cond.fieldLink RX10 10 "EggSpoons" "now" "LEggSpoons$Race;", Cond.fieldLink RX10 126 "EggSpoons$Race" "row" "[LEggSpoons$Runner;", Cond.methodLink RX10 123 yX10_there, Cond.instanceMethod yX10_there, Cond.selects RX10 yX10_there yX10_there, Cond.initialized RX10, Cond.code yX10_there cX10_there 2 (some .boolean), Cond.fieldLink RX10 87 "EggSpoons$Race" "runners" "I", Cond.methodLink RX10 83 yX10_refuse, Cond.instanceMethod yX10_refuse, Cond.selects RX10 yX10_refuse yX10_refuse, Cond.code yX10_refuse cX10_refuse 3 (some .int), Cond.fieldLink RX10 34 "EggSpoons" "refused" "[I", Cond.methodLink RX10 197 yX5_legsThatFit, Cond.instanceMethod yX5_legsThatFit, Cond.selects RX5 yX5_legsThatFit yX5_legsThatFit, Cond.initialized RX5, Cond.code yX5_legsThatFit cX5_legsThatFit 4 (some .int), Cond.fieldLink RX5 39 "EggSpoons$Race" "seenRows" "LEggSpoons$Rows;", Cond.fieldLink RX5 23 "EggSpoons$Race" "row" "[LEggSpoons$Runner;", Cond.fieldLink RX5 94 "EggSpoons$Runner" "kind" "I", Cond.methodLink RX5 97 yX7_fitRunner, Cond.instanceMethod yX7_fitRunner, Cond.selects RX7 yX7_fitRunner yX7_fitRunner]
def wsX10_tell_r2 : List Cond := [Cond.initialized RX7, Cond.code yX7_fitRunner cX7_fitRunner 7 (some .boolean), Cond.fieldLink RX7 7 "EggSpoons$Rows" "size" "I", Cond.fieldLink RX7 16 "EggSpoons$Rows" "withLegs" "Z", Cond.fieldLink RX7 23 "EggSpoons$Rows" "cells" "[I", Cond.methodLink RX7 39 yX2_reach, Cond.static yX2_reach, Cond.initialized RX2, Cond.code yX2_reach cX2_reach 7 (some .int), Cond.methodLink RX10 208 yX10_nextLook, Cond.instanceMethod yX10_nextLook, Cond.selects RX10 yX10_nextLook yX10_nextLook, Cond.code yX10_nextLook cX10_nextLook 9 (some .int), Cond.methodLink RX10 200 yJ6_bitCount_0f7a4, Cond.static yJ6_bitCount_0f7a4, Cond.initialized RJ6, Cond.code yJ6_bitCount_0f7a4 cJ6_bitCount_0f7a4 1 (some .int), Cond.constant RJ6 265 (1431655765), Cond.constant RJ6 266 (858993459), Cond.constant RJ6 267 (252645135), Cond.methodLink RX10 306 yX10_mostAlike, Cond.instanceMethod yX10_mostAlike, Cond.selects RX10 yX10_mostAlike yX10_mostAlike, Cond.code yX10_mostAlike cX10_mostAlike 6 (some .int)]
def wsX10_tell_r3 : List Cond := [Cond.fieldLink RX10 58 "EggSpoons" "tally" "LEggSpoons$Tally;", Cond.fieldLink RX10 317 "EggSpoons$Tally" "most" "I", Cond.methodLink RX10 309 yX9_restart, Cond.instanceMethod yX9_restart, Cond.selects RX9 yX9_restart yX9_restart, Cond.initialized RX9, Cond.code yX9_restart cX9_restart 2 none, Cond.fieldLink RX9 9 "EggSpoons$Tally" "counts" "[I", Cond.fieldLink RX9 15 "EggSpoons$Tally" "most" "I", Cond.methodLink RX10 205 yX10_hasBit, Cond.static yX10_hasBit, Cond.code yX10_hasBit cX10_hasBit 2 (some .boolean), Cond.methodLink RX10 311 yX10_farBy, Cond.static yX10_farBy, Cond.code yX10_farBy cX10_farBy 4 (some .int), Cond.fieldLink RX10 320 "EggSpoons$Runner" "kind" "I", Cond.fieldLink RX10 328 "EggSpoons$Runner" "legs" "I", Cond.methodLink RX10 323 yX2_reach, Cond.methodLink RX10 331 yX1_limit, Cond.static yX1_limit, Cond.initialized RX1, Cond.code yX1_limit cX1_limit 5 (some .int), Cond.methodLink RX10 314 yX9_see, Cond.instanceMethod yX9_see]
def wsX10_tell_r4 : List Cond := [Cond.selects RX9 yX9_see yX9_see, Cond.code yX9_see cX9_see 2 none, Cond.methodLink RX9 19 Lib.Math.max.name, Cond.static Lib.Math.max.name, Cond.initialized "java/lang/Math", Cond.code Lib.Math.max.name Lib.Math.max.code 2 (some .int)]
def wsX10_tell : List Cond := .code yX10_tell cX10_tell 2 (some .int) :: ((wsX10_tell_r1 ++ (wsX10_tell_r2 ++ (wsX10_tell_r3 ++ wsX10_tell_r4))) ++ wsX100 ++ wsX50 ++ wsX80 ++ wsX70 ++ wsX90)
def wsX10_note_r1 : List Cond := [Cond.fieldLink RX10 10 "EggSpoons" "now" "LEggSpoons$Race;", Cond.fieldLink RX10 212 "EggSpoons$Race" "noteRows" "LEggSpoons$Rows;", Cond.fieldLink RX10 194 "EggSpoons$Rows" "size" "I", Cond.methodLink RX10 123 yX10_there, Cond.instanceMethod yX10_there, Cond.selects RX10 yX10_there yX10_there, Cond.initialized RX10, Cond.code yX10_there cX10_there 2 (some .boolean), Cond.fieldLink RX10 87 "EggSpoons$Race" "runners" "I", Cond.methodLink RX10 79 yX10_within, Cond.static yX10_within, Cond.code yX10_within cX10_within 3 (some .boolean), Cond.methodLink RX10 83 yX10_refuse, Cond.instanceMethod yX10_refuse, Cond.selects RX10 yX10_refuse yX10_refuse, Cond.code yX10_refuse cX10_refuse 3 (some .int), Cond.fieldLink RX10 34 "EggSpoons" "refused" "[I", Cond.methodLink RX10 189 yX7_append, Cond.instanceMethod yX7_append, Cond.selects RX7 yX7_append yX7_append, Cond.initialized RX7, Cond.code yX7_append cX7_append 7 (some .boolean), Cond.fieldLink RX7 7 "EggSpoons$Rows" "size" "I", Cond.fieldLink RX7 13 "EggSpoons$Rows" "most" "I"]
def wsX10_note_r2 : List Cond := [Cond.fieldLink RX7 23 "EggSpoons$Rows" "cells" "[I"]
def wsX10_note : List Cond := .code yX10_note cX10_note 6 (some .int) :: ((wsX10_note_r1 ++ wsX10_note_r2) ++ wsX100 ++ wsX50 ++ wsX70)
def wsX10_mark_r1 : List Cond := [Cond.fieldLink RX10 10 "EggSpoons" "now" "LEggSpoons$Race;", Cond.fieldLink RX10 215 "EggSpoons$Race" "markRows" "LEggSpoons$Rows;", Cond.fieldLink RX10 194 "EggSpoons$Rows" "size" "I", Cond.methodLink RX10 123 yX10_there, Cond.instanceMethod yX10_there, Cond.selects RX10 yX10_there yX10_there, Cond.initialized RX10, Cond.code yX10_there cX10_there 2 (some .boolean), Cond.fieldLink RX10 87 "EggSpoons$Race" "runners" "I", Cond.methodLink RX10 79 yX10_within, Cond.static yX10_within, Cond.code yX10_within cX10_within 3 (some .boolean), Cond.methodLink RX10 83 yX10_refuse, Cond.instanceMethod yX10_refuse, Cond.selects RX10 yX10_refuse yX10_refuse, Cond.code yX10_refuse cX10_refuse 3 (some .int), Cond.fieldLink RX10 34 "EggSpoons" "refused" "[I", Cond.methodLink RX10 189 yX7_append, Cond.instanceMethod yX7_append, Cond.selects RX7 yX7_append yX7_append, Cond.initialized RX7, Cond.code yX7_append cX7_append 7 (some .boolean), Cond.fieldLink RX7 7 "EggSpoons$Rows" "size" "I", Cond.fieldLink RX7 13 "EggSpoons$Rows" "most" "I"]
def wsX10_mark_r2 : List Cond := [Cond.fieldLink RX7 23 "EggSpoons$Rows" "cells" "[I"]
def wsX10_mark : List Cond := .code yX10_mark cX10_mark 4 (some .int) :: ((wsX10_mark_r1 ++ wsX10_mark_r2) ++ wsX100 ++ wsX50 ++ wsX70)
def wsX10_forget : List Cond := .code yX10_forget cX10_forget 4 (some .int) :: ([.fieldLink RX10 10 "EggSpoons" "now" "LEggSpoons$Race;", .fieldLink RX10 185 "EggSpoons$Race" "seenRows" "LEggSpoons$Rows;", .fieldLink RX10 212 "EggSpoons$Race" "noteRows" "LEggSpoons$Rows;", .fieldLink RX10 215 "EggSpoons$Race" "markRows" "LEggSpoons$Rows;", .fieldLink RX10 194 "EggSpoons$Rows" "size" "I", .methodLink RX10 79 yX10_within, .static yX10_within, .initialized RX10, .code yX10_within cX10_within 3 (some .boolean), .methodLink RX10 83 yX10_refuse, .instanceMethod yX10_refuse, .selects RX10 yX10_refuse yX10_refuse, .code yX10_refuse cX10_refuse 3 (some .int), .fieldLink RX10 34 "EggSpoons" "refused" "[I"] ++ wsX100 ++ wsX50 ++ wsX70)
def wsX10_is_r1 : List Cond := [Cond.fieldLink RX10 10 "EggSpoons" "now" "LEggSpoons$Race;", Cond.methodLink RX10 123 yX10_there, Cond.instanceMethod yX10_there, Cond.selects RX10 yX10_there yX10_there, Cond.initialized RX10, Cond.code yX10_there cX10_there 2 (some .boolean), Cond.fieldLink RX10 87 "EggSpoons$Race" "runners" "I", Cond.methodLink RX10 218 yX5_kindsThatFit, Cond.instanceMethod yX5_kindsThatFit, Cond.selects RX5 yX5_kindsThatFit yX5_kindsThatFit, Cond.initialized RX5, Cond.code yX5_kindsThatFit cX5_kindsThatFit 4 (some .int), Cond.fieldLink RX5 43 "EggSpoons$Race" "noteRows" "LEggSpoons$Rows;", Cond.methodLink RX5 97 yX7_fitRunner, Cond.instanceMethod yX7_fitRunner, Cond.selects RX7 yX7_fitRunner yX7_fitRunner, Cond.initialized RX7, Cond.code yX7_fitRunner cX7_fitRunner 7 (some .boolean), Cond.fieldLink RX7 7 "EggSpoons$Rows" "size" "I", Cond.fieldLink RX7 16 "EggSpoons$Rows" "withLegs" "Z", Cond.fieldLink RX7 23 "EggSpoons$Rows" "cells" "[I", Cond.methodLink RX7 39 yX2_reach, Cond.static yX2_reach, Cond.initialized RX2]
def wsX10_is_r2 : List Cond := [Cond.code yX2_reach cX2_reach 7 (some .int), Cond.methodLink RX10 83 yX10_refuse, Cond.instanceMethod yX10_refuse, Cond.selects RX10 yX10_refuse yX10_refuse, Cond.code yX10_refuse cX10_refuse 3 (some .int), Cond.fieldLink RX10 34 "EggSpoons" "refused" "[I"]
def wsX10_is : List Cond := .code yX10_is cX10_is 2 (some .int) :: ((wsX10_is_r1 ++ wsX10_is_r2) ++ wsX100 ++ wsX50 ++ wsX70)
def wsX10_look_r1 : List Cond := [Cond.fieldLink RX10 10 "EggSpoons" "now" "LEggSpoons$Race;", Cond.fieldLink RX10 126 "EggSpoons$Race" "row" "[LEggSpoons$Runner;", Cond.methodLink RX10 123 yX10_there, Cond.instanceMethod yX10_there, Cond.selects RX10 yX10_there yX10_there, Cond.initialized RX10, Cond.code yX10_there cX10_there 2 (some .boolean), Cond.fieldLink RX10 87 "EggSpoons$Race" "runners" "I", Cond.methodLink RX10 83 yX10_refuse, Cond.instanceMethod yX10_refuse, Cond.selects RX10 yX10_refuse yX10_refuse, Cond.code yX10_refuse cX10_refuse 3 (some .int), Cond.fieldLink RX10 34 "EggSpoons" "refused" "[I", Cond.methodLink RX10 218 yX5_kindsThatFit, Cond.instanceMethod yX5_kindsThatFit, Cond.selects RX5 yX5_kindsThatFit yX5_kindsThatFit, Cond.initialized RX5, Cond.code yX5_kindsThatFit cX5_kindsThatFit 4 (some .int), Cond.fieldLink RX5 43 "EggSpoons$Race" "noteRows" "LEggSpoons$Rows;", Cond.methodLink RX5 97 yX7_fitRunner, Cond.instanceMethod yX7_fitRunner, Cond.selects RX7 yX7_fitRunner yX7_fitRunner, Cond.initialized RX7, Cond.code yX7_fitRunner cX7_fitRunner 7 (some .boolean)]
def wsX10_look_r2 : List Cond := [Cond.fieldLink RX7 7 "EggSpoons$Rows" "size" "I", Cond.fieldLink RX7 16 "EggSpoons$Rows" "withLegs" "Z", Cond.fieldLink RX7 23 "EggSpoons$Rows" "cells" "[I", Cond.methodLink RX7 39 yX2_reach, Cond.static yX2_reach, Cond.initialized RX2, Cond.code yX2_reach cX2_reach 7 (some .int), Cond.methodLink RX10 208 yX10_nextLook, Cond.instanceMethod yX10_nextLook, Cond.selects RX10 yX10_nextLook yX10_nextLook, Cond.code yX10_nextLook cX10_nextLook 9 (some .int), Cond.methodLink RX10 200 yJ6_bitCount_0f7a4, Cond.static yJ6_bitCount_0f7a4, Cond.initialized RJ6, Cond.code yJ6_bitCount_0f7a4 cJ6_bitCount_0f7a4 1 (some .int), Cond.constant RJ6 265 (1431655765), Cond.constant RJ6 266 (858993459), Cond.constant RJ6 267 (252645135), Cond.methodLink RX10 306 yX10_mostAlike, Cond.instanceMethod yX10_mostAlike, Cond.selects RX10 yX10_mostAlike yX10_mostAlike, Cond.code yX10_mostAlike cX10_mostAlike 6 (some .int), Cond.fieldLink RX10 58 "EggSpoons" "tally" "LEggSpoons$Tally;", Cond.fieldLink RX10 317 "EggSpoons$Tally" "most" "I"]
def wsX10_look_r3 : List Cond := [Cond.methodLink RX10 309 yX9_restart, Cond.instanceMethod yX9_restart, Cond.selects RX9 yX9_restart yX9_restart, Cond.initialized RX9, Cond.code yX9_restart cX9_restart 2 none, Cond.fieldLink RX9 9 "EggSpoons$Tally" "counts" "[I", Cond.fieldLink RX9 15 "EggSpoons$Tally" "most" "I", Cond.methodLink RX10 205 yX10_hasBit, Cond.static yX10_hasBit, Cond.code yX10_hasBit cX10_hasBit 2 (some .boolean), Cond.methodLink RX10 311 yX10_farBy, Cond.static yX10_farBy, Cond.code yX10_farBy cX10_farBy 4 (some .int), Cond.fieldLink RX10 320 "EggSpoons$Runner" "kind" "I", Cond.fieldLink RX10 328 "EggSpoons$Runner" "legs" "I", Cond.methodLink RX10 323 yX2_reach, Cond.methodLink RX10 331 yX1_limit, Cond.static yX1_limit, Cond.initialized RX1, Cond.code yX1_limit cX1_limit 5 (some .int), Cond.methodLink RX10 314 yX9_see, Cond.instanceMethod yX9_see, Cond.selects RX9 yX9_see yX9_see, Cond.code yX9_see cX9_see 2 none]
def wsX10_look_r4 : List Cond := [Cond.methodLink RX9 19 Lib.Math.max.name, Cond.static Lib.Math.max.name, Cond.initialized "java/lang/Math", Cond.code Lib.Math.max.name Lib.Math.max.code 2 (some .int)]
def wsX10_look : List Cond := .code yX10_look cX10_look 2 (some .int) :: ((wsX10_look_r1 ++ (wsX10_look_r2 ++ (wsX10_look_r3 ++ wsX10_look_r4))) ++ wsX100 ++ wsX50 ++ wsX70 ++ wsX90 ++ wsX80)
def wsX10_kinds_r1 : List Cond := [Cond.fieldLink RX10 10 "EggSpoons" "now" "LEggSpoons$Race;", Cond.methodLink RX10 123 yX10_there, Cond.instanceMethod yX10_there, Cond.selects RX10 yX10_there yX10_there, Cond.initialized RX10, Cond.code yX10_there cX10_there 2 (some .boolean), Cond.fieldLink RX10 87 "EggSpoons$Race" "runners" "I", Cond.methodLink RX10 221 yX5_eggsThatFit, Cond.instanceMethod yX5_eggsThatFit, Cond.selects RX5 yX5_eggsThatFit yX5_eggsThatFit, Cond.initialized RX5, Cond.code yX5_eggsThatFit cX5_eggsThatFit 4 (some .int), Cond.fieldLink RX5 46 "EggSpoons$Race" "markRows" "LEggSpoons$Rows;", Cond.methodLink RX5 101 yX7_fitEgg, Cond.instanceMethod yX7_fitEgg, Cond.selects RX7 yX7_fitEgg yX7_fitEgg, Cond.initialized RX7, Cond.code yX7_fitEgg cX7_fitEgg 5 (some .boolean), Cond.fieldLink RX7 7 "EggSpoons$Rows" "size" "I", Cond.fieldLink RX7 23 "EggSpoons$Rows" "cells" "[I", Cond.methodLink RX7 45 yX1_limit, Cond.static yX1_limit, Cond.initialized RX1, Cond.code yX1_limit cX1_limit 5 (some .int)]
def wsX10_kinds_r2 : List Cond := [Cond.methodLink RX10 83 yX10_refuse, Cond.instanceMethod yX10_refuse, Cond.selects RX10 yX10_refuse yX10_refuse, Cond.code yX10_refuse cX10_refuse 3 (some .int), Cond.fieldLink RX10 34 "EggSpoons" "refused" "[I"]
def wsX10_kinds : List Cond := .code yX10_kinds cX10_kinds 2 (some .int) :: ((wsX10_kinds_r1 ++ wsX10_kinds_r2) ++ wsX100 ++ wsX50 ++ wsX70)
def wsX10_ask_r1 : List Cond := [Cond.fieldLink RX10 10 "EggSpoons" "now" "LEggSpoons$Race;", Cond.fieldLink RX10 126 "EggSpoons$Race" "row" "[LEggSpoons$Runner;", Cond.methodLink RX10 123 yX10_there, Cond.instanceMethod yX10_there, Cond.selects RX10 yX10_there yX10_there, Cond.initialized RX10, Cond.code yX10_there cX10_there 2 (some .boolean), Cond.fieldLink RX10 87 "EggSpoons$Race" "runners" "I", Cond.methodLink RX10 83 yX10_refuse, Cond.instanceMethod yX10_refuse, Cond.selects RX10 yX10_refuse yX10_refuse, Cond.code yX10_refuse cX10_refuse 3 (some .int), Cond.fieldLink RX10 34 "EggSpoons" "refused" "[I", Cond.methodLink RX10 221 yX5_eggsThatFit, Cond.instanceMethod yX5_eggsThatFit, Cond.selects RX5 yX5_eggsThatFit yX5_eggsThatFit, Cond.initialized RX5, Cond.code yX5_eggsThatFit cX5_eggsThatFit 4 (some .int), Cond.fieldLink RX5 46 "EggSpoons$Race" "markRows" "LEggSpoons$Rows;", Cond.methodLink RX5 101 yX7_fitEgg, Cond.instanceMethod yX7_fitEgg, Cond.selects RX7 yX7_fitEgg yX7_fitEgg, Cond.initialized RX7, Cond.code yX7_fitEgg cX7_fitEgg 5 (some .boolean)]
def wsX10_ask_r2 : List Cond := [Cond.fieldLink RX7 7 "EggSpoons$Rows" "size" "I", Cond.fieldLink RX7 23 "EggSpoons$Rows" "cells" "[I", Cond.methodLink RX7 45 yX1_limit, Cond.static yX1_limit, Cond.initialized RX1, Cond.code yX1_limit cX1_limit 5 (some .int), Cond.methodLink RX10 208 yX10_nextLook, Cond.instanceMethod yX10_nextLook, Cond.selects RX10 yX10_nextLook yX10_nextLook, Cond.code yX10_nextLook cX10_nextLook 9 (some .int), Cond.methodLink RX10 200 yJ6_bitCount_0f7a4, Cond.static yJ6_bitCount_0f7a4, Cond.initialized RJ6, Cond.code yJ6_bitCount_0f7a4 cJ6_bitCount_0f7a4 1 (some .int), Cond.constant RJ6 265 (1431655765), Cond.constant RJ6 266 (858993459), Cond.constant RJ6 267 (252645135), Cond.methodLink RX10 306 yX10_mostAlike, Cond.instanceMethod yX10_mostAlike, Cond.selects RX10 yX10_mostAlike yX10_mostAlike, Cond.code yX10_mostAlike cX10_mostAlike 6 (some .int), Cond.fieldLink RX10 58 "EggSpoons" "tally" "LEggSpoons$Tally;", Cond.fieldLink RX10 317 "EggSpoons$Tally" "most" "I", Cond.methodLink RX10 309 yX9_restart]
def wsX10_ask_r3 : List Cond := [Cond.instanceMethod yX9_restart, Cond.selects RX9 yX9_restart yX9_restart, Cond.initialized RX9, Cond.code yX9_restart cX9_restart 2 none, Cond.fieldLink RX9 9 "EggSpoons$Tally" "counts" "[I", Cond.fieldLink RX9 15 "EggSpoons$Tally" "most" "I", Cond.methodLink RX10 205 yX10_hasBit, Cond.static yX10_hasBit, Cond.code yX10_hasBit cX10_hasBit 2 (some .boolean), Cond.methodLink RX10 311 yX10_farBy, Cond.static yX10_farBy, Cond.code yX10_farBy cX10_farBy 4 (some .int), Cond.fieldLink RX10 320 "EggSpoons$Runner" "kind" "I", Cond.fieldLink RX10 328 "EggSpoons$Runner" "legs" "I", Cond.methodLink RX10 323 yX2_reach, Cond.static yX2_reach, Cond.initialized RX2, Cond.code yX2_reach cX2_reach 7 (some .int), Cond.methodLink RX10 331 yX1_limit, Cond.methodLink RX10 314 yX9_see, Cond.instanceMethod yX9_see, Cond.selects RX9 yX9_see yX9_see, Cond.code yX9_see cX9_see 2 none, Cond.methodLink RX9 19 Lib.Math.max.name]
def wsX10_ask_r4 : List Cond := [Cond.static Lib.Math.max.name, Cond.initialized "java/lang/Math", Cond.code Lib.Math.max.name Lib.Math.max.code 2 (some .int)]
def wsX10_ask : List Cond := .code yX10_ask cX10_ask 2 (some .int) :: ((wsX10_ask_r1 ++ (wsX10_ask_r2 ++ (wsX10_ask_r3 ++ wsX10_ask_r4))) ++ wsX100 ++ wsX50 ++ wsX70 ++ wsX90 ++ wsX80)
def wsX10_placeBehindFive_r1 : List Cond := [Cond.fieldLink RX10 48 "EggSpoons" "ghost" "LEggSpoons$Runner;", Cond.fieldLink RX10 10 "EggSpoons" "now" "LEggSpoons$Race;", Cond.fieldLink RX10 126 "EggSpoons$Race" "row" "[LEggSpoons$Runner;", Cond.fieldLink RX10 130 "EggSpoons$Runner" "speed" "I", Cond.fieldLink RX10 110 "EggSpoons$Race" "tick" "I", Cond.fieldLink RX10 140 "EggSpoons$Race" "length" "I", Cond.methodLink RX10 148 yX8_copyFrom, Cond.instanceMethod yX8_copyFrom, Cond.selects RX8 yX8_copyFrom yX8_copyFrom, Cond.initialized RX8, Cond.code yX8_copyFrom cX8_copyFrom 2 none, Cond.fieldLink RX8 9 "EggSpoons$Runner" "kind" "I", Cond.fieldLink RX8 15 "EggSpoons$Runner" "legs" "I", Cond.fieldLink RX8 18 "EggSpoons$Runner" "egg" "I", Cond.fieldLink RX8 21 "EggSpoons$Runner" "speed" "I", Cond.fieldLink RX8 24 "EggSpoons$Runner" "place" "I", Cond.fieldLink RX8 27 "EggSpoons$Runner" "drops" "I", Cond.fieldLink RX8 30 "EggSpoons$Runner" "waits" "I", Cond.fieldLink RX8 33 "EggSpoons$Runner" "homeAt" "I", Cond.methodLink RX10 152 yX8_placeBehind, Cond.instanceMethod yX8_placeBehind, Cond.selects RX8 yX8_placeBehind yX8_placeBehind, Cond.code yX8_placeBehind cX8_placeBehind 5 (some .int), Cond.methodLink RX8 52 yX8_step]
def wsX10_placeBehindFive_r2 : List Cond := [Cond.instanceMethod yX8_step, Cond.selects RX8 yX8_step yX8_step, Cond.code yX8_step cX8_step 4 none, Cond.methodLink RX8 48 yX8_isHome, Cond.instanceMethod yX8_isHome, Cond.selects RX8 yX8_isHome yX8_isHome, Cond.code yX8_isHome cX8_isHome 1 (some .boolean), Cond.methodLink RX8 36 yX2_reach, Cond.static yX2_reach, Cond.initialized RX2, Cond.code yX2_reach cX2_reach 7 (some .int), Cond.methodLink RX8 42 yX1_limit, Cond.static yX1_limit, Cond.initialized RX1, Cond.code yX1_limit cX1_limit 5 (some .int)]
def wsX10_placeBehindFive : List Cond := .code yX10_placeBehindFive cX10_placeBehindFive 3 (some .int) :: ((wsX10_placeBehindFive_r1 ++ wsX10_placeBehindFive_r2) ++ wsX100 ++ wsX50 ++ wsX80)
def wsX10_pair_r1 : List Cond := [Cond.fieldLink RX10 72 "EggSpoons" "duel" "LEggSpoons$Duel;", Cond.fieldLink RX10 10 "EggSpoons" "now" "LEggSpoons$Race;", Cond.fieldLink RX10 126 "EggSpoons$Race" "row" "[LEggSpoons$Runner;", Cond.fieldLink RX10 137 "EggSpoons$Runner" "place" "I", Cond.methodLink RX10 172 yX10_areTwo, Cond.instanceMethod yX10_areTwo, Cond.selects RX10 yX10_areTwo yX10_areTwo, Cond.initialized RX10, Cond.code yX10_areTwo cX10_areTwo 3 (some .boolean), Cond.methodLink RX10 123 yX10_there, Cond.instanceMethod yX10_there, Cond.selects RX10 yX10_there yX10_there, Cond.code yX10_there cX10_there 2 (some .boolean), Cond.fieldLink RX10 87 "EggSpoons$Race" "runners" "I", Cond.methodLink RX10 83 yX10_refuse, Cond.instanceMethod yX10_refuse, Cond.selects RX10 yX10_refuse yX10_refuse, Cond.code yX10_refuse cX10_refuse 3 (some .int), Cond.fieldLink RX10 34 "EggSpoons" "refused" "[I", Cond.methodLink RX10 224 yX10_placeBehindFive, Cond.instanceMethod yX10_placeBehindFive, Cond.selects RX10 yX10_placeBehindFive yX10_placeBehindFive, Cond.code yX10_placeBehindFive cX10_placeBehindFive 3 (some .int), Cond.fieldLink RX10 48 "EggSpoons" "ghost" "LEggSpoons$Runner;"]
def wsX10_pair_r2 : List Cond := [Cond.fieldLink RX10 130 "EggSpoons$Runner" "speed" "I", Cond.fieldLink RX10 110 "EggSpoons$Race" "tick" "I", Cond.fieldLink RX10 140 "EggSpoons$Race" "length" "I", Cond.methodLink RX10 148 yX8_copyFrom, Cond.instanceMethod yX8_copyFrom, Cond.selects RX8 yX8_copyFrom yX8_copyFrom, Cond.initialized RX8, Cond.code yX8_copyFrom cX8_copyFrom 2 none, Cond.fieldLink RX8 9 "EggSpoons$Runner" "kind" "I", Cond.fieldLink RX8 15 "EggSpoons$Runner" "legs" "I", Cond.fieldLink RX8 18 "EggSpoons$Runner" "egg" "I", Cond.fieldLink RX8 21 "EggSpoons$Runner" "speed" "I", Cond.fieldLink RX8 24 "EggSpoons$Runner" "place" "I", Cond.fieldLink RX8 27 "EggSpoons$Runner" "drops" "I", Cond.fieldLink RX8 30 "EggSpoons$Runner" "waits" "I", Cond.fieldLink RX8 33 "EggSpoons$Runner" "homeAt" "I", Cond.methodLink RX10 152 yX8_placeBehind, Cond.instanceMethod yX8_placeBehind, Cond.selects RX8 yX8_placeBehind yX8_placeBehind, Cond.code yX8_placeBehind cX8_placeBehind 5 (some .int), Cond.methodLink RX8 52 yX8_step, Cond.instanceMethod yX8_step, Cond.selects RX8 yX8_step yX8_step, Cond.code yX8_step cX8_step 4 none]
def wsX10_pair_r3 : List Cond := [Cond.methodLink RX8 48 yX8_isHome, Cond.instanceMethod yX8_isHome, Cond.selects RX8 yX8_isHome yX8_isHome, Cond.code yX8_isHome cX8_isHome 1 (some .boolean), Cond.methodLink RX8 36 yX2_reach, Cond.static yX2_reach, Cond.initialized RX2, Cond.code yX2_reach cX2_reach 7 (some .int), Cond.methodLink RX8 42 yX1_limit, Cond.static yX1_limit, Cond.initialized RX1, Cond.code yX1_limit cX1_limit 5 (some .int), Cond.methodLink RX10 227 yX0_put, Cond.instanceMethod yX0_put, Cond.selects RX0 yX0_put yX0_put, Cond.initialized RX0, Cond.code yX0_put cX0_put 4 none, Cond.fieldLink RX0 11 "EggSpoons$Duel" "endsA" "[I", Cond.fieldLink RX0 15 "EggSpoons$Duel" "endsB" "[I", Cond.methodLink RX10 230 yX0_weigh, Cond.instanceMethod yX0_weigh, Cond.selects RX0 yX0_weigh yX0_weigh, Cond.code yX0_weigh cX0_weigh 7 (some .int), Cond.fieldLink RX0 18 "EggSpoons$Duel" "mostA" "[I"]
def wsX10_pair_r4 : List Cond := [Cond.fieldLink RX0 21 "EggSpoons$Duel" "mostB" "[I", Cond.fieldLink RX0 24 "EggSpoons$Duel" "resting" "[I", Cond.methodLink RX0 27 yX0_greatestGain, Cond.static yX0_greatestGain, Cond.code yX0_greatestGain cX0_greatestGain 5 (some .int), Cond.methodLink RX0 35 Lib.Math.max.name, Cond.static Lib.Math.max.name, Cond.initialized "java/lang/Math", Cond.code Lib.Math.max.name Lib.Math.max.code 2 (some .int), Cond.methodLink RX0 31 yX0_gain, Cond.static yX0_gain, Cond.code yX0_gain cX0_gain 3 (some .int), Cond.methodLink RX10 233 yX0_restingPair, Cond.instanceMethod yX0_restingPair, Cond.selects RX0 yX0_restingPair yX0_restingPair, Cond.code yX0_restingPair cX0_restingPair 2 (some .int)]
def wsX10_pair : List Cond := .code yX10_pair cX10_pair 5 (some .int) :: ((wsX10_pair_r1 ++ (wsX10_pair_r2 ++ (wsX10_pair_r3 ++ wsX10_pair_r4))) ++ wsX100 ++ wsX50 ++ wsX80 ++ wsX00)
def wsX10_stumble_r1 : List Cond := [Cond.fieldLink RX10 10 "EggSpoons" "now" "LEggSpoons$Race;", Cond.fieldLink RX10 126 "EggSpoons$Race" "row" "[LEggSpoons$Runner;", Cond.fieldLink RX10 65 "EggSpoons" "odds" "LEggSpoons$Odds;", Cond.fieldLink RX10 140 "EggSpoons$Race" "length" "I", Cond.fieldLink RX10 110 "EggSpoons$Race" "tick" "I", Cond.fieldLink RX10 137 "EggSpoons$Runner" "place" "I", Cond.fieldLink RX10 240 "EggSpoons$Runner" "waits" "I", Cond.fieldLink RX10 38 "EggSpoons" "above" "J", Cond.fieldLink RX10 42 "EggSpoons" "below" "J", Cond.methodLink RX10 123 yX10_there, Cond.instanceMethod yX10_there, Cond.selects RX10 yX10_there yX10_there, Cond.initialized RX10, Cond.code yX10_there cX10_there 2 (some .boolean), Cond.fieldLink RX10 87 "EggSpoons$Race" "runners" "I", Cond.methodLink RX10 79 yX10_within, Cond.static yX10_within, Cond.code yX10_within cX10_within 3 (some .boolean), Cond.methodLink RX10 83 yX10_refuse, Cond.instanceMethod yX10_refuse, Cond.selects RX10 yX10_refuse yX10_refuse, Cond.code yX10_refuse cX10_refuse 3 (some .int), Cond.fieldLink RX10 34 "EggSpoons" "refused" "[I", Cond.methodLink RX10 236 yX3_pose]
def wsX10_stumble_r2 : List Cond := [Cond.instanceMethod yX3_pose, Cond.selects RX3 yX3_pose yX3_pose, Cond.initialized RX3, Cond.code yX3_pose cX3_pose 6 none, Cond.fieldLink RX3 7 "EggSpoons$Runner" "kind" "I", Cond.fieldLink RX3 13 "EggSpoons$Odds" "kind" "I", Cond.fieldLink RX3 16 "EggSpoons$Runner" "legs" "I", Cond.fieldLink RX3 19 "EggSpoons$Odds" "legs" "I", Cond.fieldLink RX3 20 "EggSpoons$Runner" "egg" "I", Cond.fieldLink RX3 23 "EggSpoons$Odds" "egg" "I", Cond.fieldLink RX3 24 "EggSpoons$Runner" "speed" "I", Cond.fieldLink RX3 27 "EggSpoons$Odds" "speed" "I", Cond.fieldLink RX3 28 "EggSpoons$Odds" "length" "I", Cond.fieldLink RX3 31 "EggSpoons$Odds" "lastTick" "I", Cond.fieldLink RX3 34 "EggSpoons$Odds" "goal" "I", Cond.fieldLink RX3 37 "EggSpoons$Odds" "tenths" "I", Cond.static yX3_ways, Cond.code yX3_ways cX3_ways 8 (some .long), Cond.constantLong RX3 44 (10), Cond.methodLink RX3 40 yX3_tenTo, Cond.static yX3_tenTo, Cond.code yX3_tenTo cX3_tenTo 4 (some .long), Cond.methodLink RX3 46 yX3_ways, Cond.methodLink RX3 50 yX2_reach]
def wsX10_stumble_r3 : List Cond := [Cond.static yX2_reach, Cond.initialized RX2, Cond.code yX2_reach cX2_reach 7 (some .int), Cond.methodLink RX3 56 yX1_limit, Cond.static yX1_limit, Cond.initialized RX1, Cond.code yX1_limit cX1_limit 5 (some .int), Cond.methodLink RX10 247 yX3_tenTo, Cond.methodLink RX10 251 yX3_commonPart, Cond.static yX3_commonPart, Cond.code yX3_commonPart cX3_commonPart 11 (some .long)]
def wsX10_stumble : List Cond := .code yX10_stumble cX10_stumble 12 (some .int) :: ((wsX10_stumble_r1 ++ (wsX10_stumble_r2 ++ wsX10_stumble_r3)) ++ wsX100 ++ wsX50 ++ wsX80 ++ wsX30)
def wsX10_races_r1 : List Cond := [Cond.constant RX10 255 (999999), Cond.fieldLink RX10 16 "EggSpoons" "spare" "LEggSpoons$Race;", Cond.fieldLink RX10 10 "EggSpoons" "now" "LEggSpoons$Race;", Cond.constantLong RX10 260 (1103515245), Cond.constantLong RX10 262 (12345), Cond.constantLong RX10 264 (2147483648), Cond.constantLong RX10 266 (65536), Cond.constantLong RX10 268 (6), Cond.fieldLink RX10 87 "EggSpoons$Race" "runners" "I", Cond.fieldLink RX10 126 "EggSpoons$Race" "row" "[LEggSpoons$Runner;", Cond.constantLong RX10 270 (1048576), Cond.constantLong RX10 272 (10), Cond.fieldLink RX10 130 "EggSpoons$Runner" "speed" "I", Cond.methodLink RX10 79 yX10_within, Cond.static yX10_within, Cond.initialized RX10, Cond.code yX10_within cX10_within 3 (some .boolean), Cond.methodLink RX10 83 yX10_refuse, Cond.instanceMethod yX10_refuse, Cond.selects RX10 yX10_refuse yX10_refuse, Cond.code yX10_refuse cX10_refuse 3 (some .int), Cond.fieldLink RX10 34 "EggSpoons" "refused" "[I", Cond.methodLink RX10 256 yX5_copyLine, Cond.instanceMethod yX5_copyLine]
def wsX10_races_r2 : List Cond := [Cond.selects RX5 yX5_copyLine yX5_copyLine, Cond.initialized RX5, Cond.code yX5_copyLine cX5_copyLine 3 none, Cond.fieldLink RX5 9 "EggSpoons$Race" "length" "I", Cond.fieldLink RX5 15 "EggSpoons$Race" "tick" "I", Cond.fieldLink RX5 18 "EggSpoons$Race" "runners" "I", Cond.fieldLink RX5 23 "EggSpoons$Race" "row" "[LEggSpoons$Runner;", Cond.methodLink RX5 58 yX8_copyFrom, Cond.instanceMethod yX8_copyFrom, Cond.selects RX8 yX8_copyFrom yX8_copyFrom, Cond.initialized RX8, Cond.code yX8_copyFrom cX8_copyFrom 2 none, Cond.fieldLink RX8 9 "EggSpoons$Runner" "kind" "I", Cond.fieldLink RX8 15 "EggSpoons$Runner" "legs" "I", Cond.fieldLink RX8 18 "EggSpoons$Runner" "egg" "I", Cond.fieldLink RX8 21 "EggSpoons$Runner" "speed" "I", Cond.fieldLink RX8 24 "EggSpoons$Runner" "place" "I", Cond.fieldLink RX8 27 "EggSpoons$Runner" "drops" "I", Cond.fieldLink RX8 30 "EggSpoons$Runner" "waits" "I", Cond.fieldLink RX8 33 "EggSpoons$Runner" "homeAt" "I", Cond.methodLink RX10 116 yX5_goOn, Cond.instanceMethod yX5_goOn, Cond.selects RX5 yX5_goOn yX5_goOn, Cond.code yX5_goOn cX5_goOn 2 none]
def wsX10_races_r3 : List Cond := [Cond.methodLink RX5 72 yX8_step, Cond.instanceMethod yX8_step, Cond.selects RX8 yX8_step yX8_step, Cond.code yX8_step cX8_step 4 none, Cond.methodLink RX8 48 yX8_isHome, Cond.instanceMethod yX8_isHome, Cond.selects RX8 yX8_isHome yX8_isHome, Cond.code yX8_isHome cX8_isHome 1 (some .boolean), Cond.methodLink RX8 36 yX2_reach, Cond.static yX2_reach, Cond.initialized RX2, Cond.code yX2_reach cX2_reach 7 (some .int), Cond.methodLink RX8 42 yX1_limit, Cond.static yX1_limit, Cond.initialized RX1, Cond.code yX1_limit cX1_limit 5 (some .int), Cond.methodLink RX10 119 yX5_homes, Cond.instanceMethod yX5_homes, Cond.selects RX5 yX5_homes yX5_homes, Cond.code yX5_homes cX5_homes 3 (some .int), Cond.methodLink RX5 84 yX8_isHome]
def wsX10_races : List Cond := .code yX10_races cX10_races 7 (some .int) :: ((wsX10_races_r1 ++ (wsX10_races_r2 ++ wsX10_races_r3)) ++ wsX100 ++ wsX50 ++ wsX80)
def wsX10_part : List Cond := .code yX10_part cX10_part 2 (some .long) :: ([.fieldLink RX10 38 "EggSpoons" "above" "J", .fieldLink RX10 42 "EggSpoons" "below" "J", .methodLink RX10 79 yX10_within, .static yX10_within, .initialized RX10, .code yX10_within cX10_within 3 (some .boolean), .methodLink RX10 83 yX10_refuse, .instanceMethod yX10_refuse, .selects RX10 yX10_refuse yX10_refuse, .code yX10_refuse cX10_refuse 3 (some .int), .fieldLink RX10 34 "EggSpoons" "refused" "[I"] ++ wsX100)
def wsX10_image_r1 : List Cond := [Cond.fieldLink RX10 19 "EggSpoons" "images" "[LEggSpoons$Race;", Cond.fieldLink RX10 10 "EggSpoons" "now" "LEggSpoons$Race;", Cond.fieldLink RX10 23 "EggSpoons" "imageKept" "[Z", Cond.methodLink RX10 79 yX10_within, Cond.static yX10_within, Cond.initialized RX10, Cond.code yX10_within cX10_within 3 (some .boolean), Cond.methodLink RX10 83 yX10_refuse, Cond.instanceMethod yX10_refuse, Cond.selects RX10 yX10_refuse yX10_refuse, Cond.code yX10_refuse cX10_refuse 3 (some .int), Cond.fieldLink RX10 34 "EggSpoons" "refused" "[I", Cond.methodLink RX10 274 yX5_copyFrom, Cond.instanceMethod yX5_copyFrom, Cond.selects RX5 yX5_copyFrom yX5_copyFrom, Cond.initialized RX5, Cond.code yX5_copyFrom cX5_copyFrom 2 none, Cond.fieldLink RX5 30 "EggSpoons$Race" "past" "LEggSpoons$Past;", Cond.fieldLink RX5 39 "EggSpoons$Race" "seenRows" "LEggSpoons$Rows;", Cond.fieldLink RX5 43 "EggSpoons$Race" "noteRows" "LEggSpoons$Rows;", Cond.fieldLink RX5 46 "EggSpoons$Race" "markRows" "LEggSpoons$Rows;", Cond.methodLink RX5 62 yX5_copyLine, Cond.instanceMethod yX5_copyLine, Cond.selects RX5 yX5_copyLine yX5_copyLine]
def wsX10_image_r2 : List Cond := [Cond.code yX5_copyLine cX5_copyLine 3 none, Cond.fieldLink RX5 9 "EggSpoons$Race" "length" "I", Cond.fieldLink RX5 15 "EggSpoons$Race" "tick" "I", Cond.fieldLink RX5 18 "EggSpoons$Race" "runners" "I", Cond.fieldLink RX5 23 "EggSpoons$Race" "row" "[LEggSpoons$Runner;", Cond.methodLink RX5 58 yX8_copyFrom, Cond.instanceMethod yX8_copyFrom, Cond.selects RX8 yX8_copyFrom yX8_copyFrom, Cond.initialized RX8, Cond.code yX8_copyFrom cX8_copyFrom 2 none, Cond.fieldLink RX8 9 "EggSpoons$Runner" "kind" "I", Cond.fieldLink RX8 15 "EggSpoons$Runner" "legs" "I", Cond.fieldLink RX8 18 "EggSpoons$Runner" "egg" "I", Cond.fieldLink RX8 21 "EggSpoons$Runner" "speed" "I", Cond.fieldLink RX8 24 "EggSpoons$Runner" "place" "I", Cond.fieldLink RX8 27 "EggSpoons$Runner" "drops" "I", Cond.fieldLink RX8 30 "EggSpoons$Runner" "waits" "I", Cond.fieldLink RX8 33 "EggSpoons$Runner" "homeAt" "I", Cond.methodLink RX5 66 yX4_copyFrom, Cond.instanceMethod yX4_copyFrom, Cond.selects RX4 yX4_copyFrom yX4_copyFrom, Cond.initialized RX4, Cond.code yX4_copyFrom cX4_copyFrom 2 none, Cond.fieldLink RX4 15 "EggSpoons$Past" "size" "I"]
def wsX10_image_r3 : List Cond := [Cond.fieldLink RX4 11 "EggSpoons$Past" "cells" "[I", Cond.methodLink RX4 19 arraycopyName, Cond.native arraycopyName, Cond.static arraycopyName, Cond.initialized "java/lang/System", Cond.methodLink RX5 69 yX7_copyFrom, Cond.instanceMethod yX7_copyFrom, Cond.selects RX7 yX7_copyFrom yX7_copyFrom, Cond.initialized RX7, Cond.code yX7_copyFrom cX7_copyFrom 2 none, Cond.fieldLink RX7 7 "EggSpoons$Rows" "size" "I", Cond.fieldLink RX7 23 "EggSpoons$Rows" "cells" "[I", Cond.methodLink RX7 27 Lib.Math.min.name, Cond.static Lib.Math.min.name, Cond.initialized "java/lang/Math", Cond.code Lib.Math.min.name Lib.Math.min.code 2 (some .int), Cond.methodLink RX7 33 arraycopyName]
def wsX10_image : List Cond := .code yX10_image cX10_image 2 (some .int) :: ((wsX10_image_r1 ++ (wsX10_image_r2 ++ wsX10_image_r3)) ++ wsX100 ++ wsX50 ++ wsX80 ++ wsX40 ++ wsX70)
def wsX10_from_r1 : List Cond := [Cond.fieldLink RX10 23 "EggSpoons" "imageKept" "[Z", Cond.fieldLink RX10 10 "EggSpoons" "now" "LEggSpoons$Race;", Cond.fieldLink RX10 19 "EggSpoons" "images" "[LEggSpoons$Race;", Cond.methodLink RX10 79 yX10_within, Cond.static yX10_within, Cond.initialized RX10, Cond.code yX10_within cX10_within 3 (some .boolean), Cond.methodLink RX10 83 yX10_refuse, Cond.instanceMethod yX10_refuse, Cond.selects RX10 yX10_refuse yX10_refuse, Cond.code yX10_refuse cX10_refuse 3 (some .int), Cond.fieldLink RX10 34 "EggSpoons" "refused" "[I", Cond.methodLink RX10 274 yX5_copyFrom, Cond.instanceMethod yX5_copyFrom, Cond.selects RX5 yX5_copyFrom yX5_copyFrom, Cond.initialized RX5, Cond.code yX5_copyFrom cX5_copyFrom 2 none, Cond.fieldLink RX5 30 "EggSpoons$Race" "past" "LEggSpoons$Past;", Cond.fieldLink RX5 39 "EggSpoons$Race" "seenRows" "LEggSpoons$Rows;", Cond.fieldLink RX5 43 "EggSpoons$Race" "noteRows" "LEggSpoons$Rows;", Cond.fieldLink RX5 46 "EggSpoons$Race" "markRows" "LEggSpoons$Rows;", Cond.methodLink RX5 62 yX5_copyLine, Cond.instanceMethod yX5_copyLine, Cond.selects RX5 yX5_copyLine yX5_copyLine]
def wsX10_from_r2 : List Cond := [Cond.code yX5_copyLine cX5_copyLine 3 none, Cond.fieldLink RX5 9 "EggSpoons$Race" "length" "I", Cond.fieldLink RX5 15 "EggSpoons$Race" "tick" "I", Cond.fieldLink RX5 18 "EggSpoons$Race" "runners" "I", Cond.fieldLink RX5 23 "EggSpoons$Race" "row" "[LEggSpoons$Runner;", Cond.methodLink RX5 58 yX8_copyFrom, Cond.instanceMethod yX8_copyFrom, Cond.selects RX8 yX8_copyFrom yX8_copyFrom, Cond.initialized RX8, Cond.code yX8_copyFrom cX8_copyFrom 2 none, Cond.fieldLink RX8 9 "EggSpoons$Runner" "kind" "I", Cond.fieldLink RX8 15 "EggSpoons$Runner" "legs" "I", Cond.fieldLink RX8 18 "EggSpoons$Runner" "egg" "I", Cond.fieldLink RX8 21 "EggSpoons$Runner" "speed" "I", Cond.fieldLink RX8 24 "EggSpoons$Runner" "place" "I", Cond.fieldLink RX8 27 "EggSpoons$Runner" "drops" "I", Cond.fieldLink RX8 30 "EggSpoons$Runner" "waits" "I", Cond.fieldLink RX8 33 "EggSpoons$Runner" "homeAt" "I", Cond.methodLink RX5 66 yX4_copyFrom, Cond.instanceMethod yX4_copyFrom, Cond.selects RX4 yX4_copyFrom yX4_copyFrom, Cond.initialized RX4, Cond.code yX4_copyFrom cX4_copyFrom 2 none, Cond.fieldLink RX4 15 "EggSpoons$Past" "size" "I"]
def wsX10_from_r3 : List Cond := [Cond.fieldLink RX4 11 "EggSpoons$Past" "cells" "[I", Cond.methodLink RX4 19 arraycopyName, Cond.native arraycopyName, Cond.static arraycopyName, Cond.initialized "java/lang/System", Cond.methodLink RX5 69 yX7_copyFrom, Cond.instanceMethod yX7_copyFrom, Cond.selects RX7 yX7_copyFrom yX7_copyFrom, Cond.initialized RX7, Cond.code yX7_copyFrom cX7_copyFrom 2 none, Cond.fieldLink RX7 7 "EggSpoons$Rows" "size" "I", Cond.fieldLink RX7 23 "EggSpoons$Rows" "cells" "[I", Cond.methodLink RX7 27 Lib.Math.min.name, Cond.static Lib.Math.min.name, Cond.initialized "java/lang/Math", Cond.code Lib.Math.min.name Lib.Math.min.code 2 (some .int), Cond.methodLink RX7 33 arraycopyName]
def wsX10_from : List Cond := .code yX10_from cX10_from 2 (some .int) :: ((wsX10_from_r1 ++ (wsX10_from_r2 ++ wsX10_from_r3)) ++ wsX100 ++ wsX50 ++ wsX80 ++ wsX40 ++ wsX70)
def wsX10_status : List Cond := .code yX10_status cX10_status 2 (some .int) :: ([.fieldLink RX10 34 "EggSpoons" "refused" "[I", .methodLink RX10 79 yX10_within, .static yX10_within, .initialized RX10, .code yX10_within cX10_within 3 (some .boolean), .methodLink RX10 83 yX10_refuse, .instanceMethod yX10_refuse, .selects RX10 yX10_refuse yX10_refuse, .code yX10_refuse cX10_refuse 3 (some .int)] ++ wsX100)
def wsX10_count_r1 : List Cond := [Cond.fieldLink RX10 10 "EggSpoons" "now" "LEggSpoons$Race;", Cond.fieldLink RX10 87 "EggSpoons$Race" "runners" "I", Cond.fieldLink RX10 140 "EggSpoons$Race" "length" "I", Cond.fieldLink RX10 110 "EggSpoons$Race" "tick" "I", Cond.fieldLink RX10 185 "EggSpoons$Race" "seenRows" "LEggSpoons$Rows;", Cond.fieldLink RX10 194 "EggSpoons$Rows" "size" "I", Cond.fieldLink RX10 212 "EggSpoons$Race" "noteRows" "LEggSpoons$Rows;", Cond.fieldLink RX10 215 "EggSpoons$Race" "markRows" "LEggSpoons$Rows;", Cond.fieldLink RX10 282 "EggSpoons$Race" "past" "LEggSpoons$Past;", Cond.fieldLink RX10 286 "EggSpoons$Past" "size" "I", Cond.fieldLink RX10 30 "EggSpoons" "reader" "LEggSpoons$Reader;", Cond.methodLink RX10 119 yX5_homes, Cond.instanceMethod yX5_homes, Cond.selects RX5 yX5_homes yX5_homes, Cond.initialized RX5, Cond.code yX5_homes cX5_homes 3 (some .int), Cond.fieldLink RX5 18 "EggSpoons$Race" "runners" "I", Cond.fieldLink RX5 23 "EggSpoons$Race" "row" "[LEggSpoons$Runner;", Cond.methodLink RX5 84 yX8_isHome, Cond.instanceMethod yX8_isHome, Cond.selects RX8 yX8_isHome yX8_isHome, Cond.initialized RX8, Cond.code yX8_isHome cX8_isHome 1 (some .boolean), Cond.fieldLink RX8 33 "EggSpoons$Runner" "homeAt" "I"]
def wsX10_count_r2 : List Cond := [Cond.methodLink RX10 276 yX5_placesTogether, Cond.instanceMethod yX5_placesTogether, Cond.selects RX5 yX5_placesTogether yX5_placesTogether, Cond.code yX5_placesTogether cX5_placesTogether 3 (some .int), Cond.fieldLink RX5 88 "EggSpoons$Runner" "place" "I", Cond.methodLink RX10 279 yX5_dropsTogether, Cond.instanceMethod yX5_dropsTogether, Cond.selects RX5 yX5_dropsTogether yX5_dropsTogether, Cond.code yX5_dropsTogether cX5_dropsTogether 3 (some .int), Cond.fieldLink RX5 91 "EggSpoons$Runner" "drops" "I", Cond.methodLink RX10 83 yX10_refuse, Cond.instanceMethod yX10_refuse, Cond.selects RX10 yX10_refuse yX10_refuse, Cond.initialized RX10, Cond.code yX10_refuse cX10_refuse 3 (some .int), Cond.fieldLink RX10 34 "EggSpoons" "refused" "[I"]
def wsX10_count : List Cond := .code yX10_count cX10_count 2 (some .int) :: ((wsX10_count_r1 ++ wsX10_count_r2) ++ wsX100 ++ wsX50 ++ wsX70 ++ wsX40 ++ wsX60 ++ wsX80)
def wsX10_digest_r1 : List Cond := [Cond.constantLong RX10 289 (1789), Cond.constantLong RX10 291 (31), Cond.fieldLink RX10 10 "EggSpoons" "now" "LEggSpoons$Race;", Cond.fieldLink RX10 87 "EggSpoons$Race" "runners" "I", Cond.fieldLink RX10 126 "EggSpoons$Race" "row" "[LEggSpoons$Runner;", Cond.fieldLink RX10 110 "EggSpoons$Race" "tick" "I", Cond.fieldLink RX10 185 "EggSpoons$Race" "seenRows" "LEggSpoons$Rows;", Cond.fieldLink RX10 212 "EggSpoons$Race" "noteRows" "LEggSpoons$Rows;", Cond.fieldLink RX10 215 "EggSpoons$Race" "markRows" "LEggSpoons$Rows;", Cond.fieldLink RX10 38 "EggSpoons" "above" "J", Cond.fieldLink RX10 42 "EggSpoons" "below" "J", Cond.methodLink RX10 293 yX10_count, Cond.instanceMethod yX10_count, Cond.selects RX10 yX10_count yX10_count, Cond.initialized RX10, Cond.code yX10_count cX10_count 2 (some .int), Cond.fieldLink RX10 140 "EggSpoons$Race" "length" "I", Cond.fieldLink RX10 194 "EggSpoons$Rows" "size" "I", Cond.fieldLink RX10 282 "EggSpoons$Race" "past" "LEggSpoons$Past;", Cond.fieldLink RX10 286 "EggSpoons$Past" "size" "I", Cond.fieldLink RX10 30 "EggSpoons" "reader" "LEggSpoons$Reader;", Cond.methodLink RX10 119 yX5_homes, Cond.instanceMethod yX5_homes, Cond.selects RX5 yX5_homes yX5_homes]
def wsX10_digest_r2 : List Cond := [Cond.initialized RX5, Cond.code yX5_homes cX5_homes 3 (some .int), Cond.fieldLink RX5 18 "EggSpoons$Race" "runners" "I", Cond.fieldLink RX5 23 "EggSpoons$Race" "row" "[LEggSpoons$Runner;", Cond.methodLink RX5 84 yX8_isHome, Cond.instanceMethod yX8_isHome, Cond.selects RX8 yX8_isHome yX8_isHome, Cond.initialized RX8, Cond.code yX8_isHome cX8_isHome 1 (some .boolean), Cond.fieldLink RX8 33 "EggSpoons$Runner" "homeAt" "I", Cond.methodLink RX10 276 yX5_placesTogether, Cond.instanceMethod yX5_placesTogether, Cond.selects RX5 yX5_placesTogether yX5_placesTogether, Cond.code yX5_placesTogether cX5_placesTogether 3 (some .int), Cond.fieldLink RX5 88 "EggSpoons$Runner" "place" "I", Cond.methodLink RX10 279 yX5_dropsTogether, Cond.instanceMethod yX5_dropsTogether, Cond.selects RX5 yX5_dropsTogether yX5_dropsTogether, Cond.code yX5_dropsTogether cX5_dropsTogether 3 (some .int), Cond.fieldLink RX5 91 "EggSpoons$Runner" "drops" "I", Cond.methodLink RX10 83 yX10_refuse, Cond.instanceMethod yX10_refuse, Cond.selects RX10 yX10_refuse yX10_refuse, Cond.code yX10_refuse cX10_refuse 3 (some .int)]
def wsX10_digest_r3 : List Cond := [Cond.fieldLink RX10 34 "EggSpoons" "refused" "[I", Cond.methodLink RX10 144 yX8_fact, Cond.instanceMethod yX8_fact, Cond.selects RX8 yX8_fact yX8_fact, Cond.code yX8_fact cX8_fact 3 (some .int), Cond.fieldLink RX8 9 "EggSpoons$Runner" "kind" "I", Cond.fieldLink RX8 15 "EggSpoons$Runner" "legs" "I", Cond.fieldLink RX8 18 "EggSpoons$Runner" "egg" "I", Cond.fieldLink RX8 21 "EggSpoons$Runner" "speed" "I", Cond.fieldLink RX8 24 "EggSpoons$Runner" "place" "I", Cond.fieldLink RX8 27 "EggSpoons$Runner" "drops" "I", Cond.fieldLink RX8 30 "EggSpoons$Runner" "waits" "I", Cond.methodLink RX8 36 yX2_reach, Cond.static yX2_reach, Cond.initialized RX2, Cond.code yX2_reach cX2_reach 7 (some .int), Cond.methodLink RX8 42 yX1_limit, Cond.static yX1_limit, Cond.initialized RX1, Cond.code yX1_limit cX1_limit 5 (some .int), Cond.methodLink RX10 296 yX7_mixInto, Cond.instanceMethod yX7_mixInto, Cond.selects RX7 yX7_mixInto yX7_mixInto, Cond.initialized RX7]
def wsX10_digest_r4 : List Cond := [Cond.code yX7_mixInto cX7_mixInto 7 (some .long), Cond.fieldLink RX7 7 "EggSpoons$Rows" "size" "I", Cond.constantLong RX7 50 (31), Cond.fieldLink RX7 23 "EggSpoons$Rows" "cells" "[I", Cond.fieldLink RX7 16 "EggSpoons$Rows" "withLegs" "Z", Cond.fieldLink RX7 20 "EggSpoons$Rows" "withSpeed" "Z"]
def wsX10_digest : List Cond := .code yX10_digest cX10_digest 5 (some .long) :: ((wsX10_digest_r1 ++ (wsX10_digest_r2 ++ (wsX10_digest_r3 ++ wsX10_digest_r4))) ++ wsX100 ++ wsX50 ++ wsX70 ++ wsX40 ++ wsX60 ++ wsX80)
def wsX11_begin : List Cond := .code yX11_begin cX11_begin 3 none :: ([])
def wsX11_init : List Cond := .code yX11_init cX11_init 1 none :: ([.methodLink RX11 1 objectInit, .instanceMethod objectInit, .code objectInit ⟨#[0xb1]⟩ 1 none, .arrayClass .int, .fieldLink RX11 7 "EggSpoonsModel" "all" "[I", .fieldLink RX11 13 "EggSpoonsModel" "kept" "[I", .arrayClass .boolean, .fieldLink RX11 16 "EggSpoonsModel" "isKept" "[Z", .fieldLink RX11 20 "EggSpoonsModel" "refused" "[I", .fieldLink RX11 23 "EggSpoonsModel" "below" "J", .fieldLink RX11 27 "EggSpoonsModel" "hand" "[I", .fieldLink RX11 30 "EggSpoonsModel" "goesBy" "[I", .fieldLink RX11 33 "EggSpoonsModel" "tells" "[I", .fieldLink RX11 36 "EggSpoonsModel" "behindBy" "[I", .fieldLink RX11 39 "EggSpoonsModel" "bytes" "[I", .fieldLink RX11 42 "EggSpoonsModel" "anew" "[I", .fieldLink RX11 45 "EggSpoonsModel" "values" "[I", .methodLink RX11 48 yX11_begin, .static yX11_begin, .initialized RX11, .code yX11_begin cX11_begin 3 none] ++ wsX110)
def wsX11_in : List Cond := .code yX11_in cX11_in 6 (some .boolean) :: ([])
def wsX11_bad : List Cond := .code yX11_bad cX11_bad 2 (some .int) :: ([.fieldLink RX11 20 "EggSpoonsModel" "refused" "[I"] ++ wsX110)
def wsX11_no : List Cond := .code yX11_no cX11_no 1 (some .int) :: ([.fieldLink RX11 20 "EggSpoonsModel" "refused" "[I"] ++ wsX110)
def wsX11_full : List Cond := .code yX11_full cX11_full 1 (some .int) :: ([.fieldLink RX11 20 "EggSpoonsModel" "refused" "[I"] ++ wsX110)
def wsX11_has : List Cond := .code yX11_has cX11_has 2 (some .boolean) :: ([])
def wsX11_many : List Cond := .code yX11_many cX11_many 1 (some .int) :: ([.fieldLink RX11 7 "EggSpoonsModel" "all" "[I"] ++ wsX110)
def wsX11_isOne : List Cond := .code yX11_isOne cX11_isOne 2 (some .boolean) :: ([.methodLink RX11 52 yX11_many, .instanceMethod yX11_many, .selects RX11 yX11_many yX11_many, .initialized RX11, .code yX11_many cX11_many 1 (some .int), .fieldLink RX11 7 "EggSpoonsModel" "all" "[I", .methodLink RX11 56 yX11_in, .static yX11_in, .code yX11_in cX11_in 6 (some .boolean)] ++ wsX110)
def wsX11_isKind : List Cond := .code yX11_isKind cX11_isKind 1 (some .boolean) :: ([.constantLong RX11 60 (5), .methodLink RX11 56 yX11_in, .static yX11_in, .initialized RX11, .code yX11_in cX11_in 6 (some .boolean)])
def wsX11_isLegs : List Cond := .code yX11_isLegs cX11_isLegs 1 (some .boolean) :: ([.constantLong RX11 62 (9), .methodLink RX11 56 yX11_in, .static yX11_in, .initialized RX11, .code yX11_in cX11_in 6 (some .boolean)])
def wsX11_isSpeed : List Cond := .code yX11_isSpeed cX11_isSpeed 1 (some .boolean) :: ([.constantLong RX11 62 (9), .methodLink RX11 56 yX11_in, .static yX11_in, .initialized RX11, .code yX11_in cX11_in 6 (some .boolean)])
def wsX11_race : List Cond := .code yX11_race cX11_race 3 (some .int) :: ([.constantLong RX11 64 (10), .constantLong RX11 66 (60), .fieldLink RX11 7 "EggSpoonsModel" "all" "[I", .methodLink RX11 56 yX11_in, .static yX11_in, .initialized RX11, .code yX11_in cX11_in 6 (some .boolean), .methodLink RX11 68 yX11_bad, .instanceMethod yX11_bad, .selects RX11 yX11_bad yX11_bad, .code yX11_bad cX11_bad 2 (some .int), .fieldLink RX11 20 "EggSpoonsModel" "refused" "[I", .methodLink RX11 52 yX11_many, .instanceMethod yX11_many, .selects RX11 yX11_many yX11_many, .code yX11_many cX11_many 1 (some .int), .methodLink RX11 48 yX11_begin, .static yX11_begin, .code yX11_begin cX11_begin 3 none] ++ wsX110)
def wsX11_layOne : List Cond := .code yX11_layOne cX11_layOne 5 none :: ([])
def wsX11_one_r1 : List Cond := [Cond.fieldLink RX11 7 "EggSpoonsModel" "all" "[I", Cond.methodLink RX11 72 yX11_isKind, Cond.static yX11_isKind, Cond.initialized RX11, Cond.code yX11_isKind cX11_isKind 1 (some .boolean), Cond.constantLong RX11 60 (5), Cond.methodLink RX11 56 yX11_in, Cond.static yX11_in, Cond.code yX11_in cX11_in 6 (some .boolean), Cond.methodLink RX11 76 yX11_isLegs, Cond.static yX11_isLegs, Cond.code yX11_isLegs cX11_isLegs 1 (some .boolean), Cond.constantLong RX11 62 (9), Cond.methodLink RX11 68 yX11_bad, Cond.instanceMethod yX11_bad, Cond.selects RX11 yX11_bad yX11_bad, Cond.code yX11_bad cX11_bad 2 (some .int), Cond.fieldLink RX11 20 "EggSpoonsModel" "refused" "[I", Cond.methodLink RX11 52 yX11_many, Cond.instanceMethod yX11_many, Cond.selects RX11 yX11_many yX11_many, Cond.code yX11_many cX11_many 1 (some .int), Cond.methodLink RX11 79 yX11_full, Cond.instanceMethod yX11_full]
def wsX11_one_r2 : List Cond := [Cond.selects RX11 yX11_full yX11_full, Cond.code yX11_full cX11_full 1 (some .int), Cond.methodLink RX11 82 yX11_layOne, Cond.static yX11_layOne, Cond.code yX11_layOne cX11_layOne 5 none]
def wsX11_one : List Cond := .code yX11_one cX11_one 4 (some .int) :: ((wsX11_one_r1 ++ wsX11_one_r2) ++ wsX110)
def wsX11_runsAs : List Cond := .code yX11_runsAs cX11_runsAs 7 (some .int) :: ([])
def wsX11_mayAs : List Cond := .code yX11_mayAs cX11_mayAs 3 (some .int) :: ([])
def wsX11_runsOf : List Cond := .code yX11_runsOf cX11_runsOf 3 (some .int) :: ([.methodLink RX11 86 yX11_runsAs, .static yX11_runsAs, .initialized RX11, .code yX11_runsAs cX11_runsAs 7 (some .int)])
def wsX11_isHome : List Cond := .code yX11_isHome cX11_isHome 2 (some .boolean) :: ([])
def wsX11_drop : List Cond := .code yX11_drop cX11_drop 2 none :: ([])
def wsX11_goOne : List Cond := .code yX11_goOne cX11_goOne 5 none :: ([.methodLink RX11 90 yX11_runsOf, .static yX11_runsOf, .initialized RX11, .code yX11_runsOf cX11_runsOf 3 (some .int), .methodLink RX11 86 yX11_runsAs, .static yX11_runsAs, .code yX11_runsAs cX11_runsAs 7 (some .int), .methodLink RX11 94 yX11_mayAs, .static yX11_mayAs, .code yX11_mayAs cX11_mayAs 3 (some .int), .methodLink RX11 98 yX11_drop, .static yX11_drop, .code yX11_drop cX11_drop 2 none])
def wsX11_goTick : List Cond := .code yX11_goTick cX11_goTick 2 none :: ([.methodLink RX11 101 yX11_isHome, .static yX11_isHome, .initialized RX11, .code yX11_isHome cX11_isHome 2 (some .boolean), .methodLink RX11 105 yX11_goOne, .static yX11_goOne, .code yX11_goOne cX11_goOne 5 none, .methodLink RX11 90 yX11_runsOf, .static yX11_runsOf, .code yX11_runsOf cX11_runsOf 3 (some .int), .methodLink RX11 86 yX11_runsAs, .static yX11_runsAs, .code yX11_runsAs cX11_runsAs 7 (some .int), .methodLink RX11 94 yX11_mayAs, .static yX11_mayAs, .code yX11_mayAs cX11_mayAs 3 (some .int), .methodLink RX11 98 yX11_drop, .static yX11_drop, .code yX11_drop cX11_drop 2 none])
def wsX11_goTicks : List Cond := .code yX11_goTicks cX11_goTicks 3 none :: ([.methodLink RX11 109 yX11_goTick, .static yX11_goTick, .initialized RX11, .code yX11_goTick cX11_goTick 2 none, .methodLink RX11 101 yX11_isHome, .static yX11_isHome, .code yX11_isHome cX11_isHome 2 (some .boolean), .methodLink RX11 105 yX11_goOne, .static yX11_goOne, .code yX11_goOne cX11_goOne 5 none, .methodLink RX11 90 yX11_runsOf, .static yX11_runsOf, .code yX11_runsOf cX11_runsOf 3 (some .int), .methodLink RX11 86 yX11_runsAs, .static yX11_runsAs, .code yX11_runsAs cX11_runsAs 7 (some .int), .methodLink RX11 94 yX11_mayAs, .static yX11_mayAs, .code yX11_mayAs cX11_mayAs 3 (some .int), .methodLink RX11 98 yX11_drop, .static yX11_drop, .code yX11_drop cX11_drop 2 none])
def wsX11_manyHome : List Cond := .code yX11_manyHome cX11_manyHome 3 (some .int) :: ([.methodLink RX11 101 yX11_isHome, .static yX11_isHome, .initialized RX11, .code yX11_isHome cX11_isHome 2 (some .boolean)])
def wsX11_save : List Cond := .code yX11_save cX11_save 2 none :: ([.fieldLink RX11 7 "EggSpoonsModel" "all" "[I"] ++ wsX110)
def wsX11_ticks_r1 : List Cond := [Cond.constantLong RX11 66 (60), Cond.fieldLink RX11 7 "EggSpoonsModel" "all" "[I", Cond.methodLink RX11 56 yX11_in, Cond.static yX11_in, Cond.initialized RX11, Cond.code yX11_in cX11_in 6 (some .boolean), Cond.methodLink RX11 68 yX11_bad, Cond.instanceMethod yX11_bad, Cond.selects RX11 yX11_bad yX11_bad, Cond.code yX11_bad cX11_bad 2 (some .int), Cond.fieldLink RX11 20 "EggSpoonsModel" "refused" "[I", Cond.methodLink RX11 113 yX11_save, Cond.instanceMethod yX11_save, Cond.selects RX11 yX11_save yX11_save, Cond.code yX11_save cX11_save 2 none, Cond.methodLink RX11 116 yX11_goTicks, Cond.static yX11_goTicks, Cond.code yX11_goTicks cX11_goTicks 3 none, Cond.methodLink RX11 109 yX11_goTick, Cond.static yX11_goTick, Cond.code yX11_goTick cX11_goTick 2 none, Cond.methodLink RX11 101 yX11_isHome, Cond.static yX11_isHome, Cond.code yX11_isHome cX11_isHome 2 (some .boolean)]
def wsX11_ticks_r2 : List Cond := [Cond.methodLink RX11 105 yX11_goOne, Cond.static yX11_goOne, Cond.code yX11_goOne cX11_goOne 5 none, Cond.methodLink RX11 90 yX11_runsOf, Cond.static yX11_runsOf, Cond.code yX11_runsOf cX11_runsOf 3 (some .int), Cond.methodLink RX11 86 yX11_runsAs, Cond.static yX11_runsAs, Cond.code yX11_runsAs cX11_runsAs 7 (some .int), Cond.methodLink RX11 94 yX11_mayAs, Cond.static yX11_mayAs, Cond.code yX11_mayAs cX11_mayAs 3 (some .int), Cond.methodLink RX11 98 yX11_drop, Cond.static yX11_drop, Cond.code yX11_drop cX11_drop 2 none, Cond.methodLink RX11 119 yX11_manyHome, Cond.static yX11_manyHome, Cond.code yX11_manyHome cX11_manyHome 3 (some .int)]
def wsX11_ticks : List Cond := .code yX11_ticks cX11_ticks 2 (some .int) :: ((wsX11_ticks_r1 ++ wsX11_ticks_r2) ++ wsX110)
def wsX11_speed_r1 : List Cond := [Cond.fieldLink RX11 7 "EggSpoonsModel" "all" "[I", Cond.methodLink RX11 123 yX11_isOne, Cond.instanceMethod yX11_isOne, Cond.selects RX11 yX11_isOne yX11_isOne, Cond.initialized RX11, Cond.code yX11_isOne cX11_isOne 2 (some .boolean), Cond.methodLink RX11 52 yX11_many, Cond.instanceMethod yX11_many, Cond.selects RX11 yX11_many yX11_many, Cond.code yX11_many cX11_many 1 (some .int), Cond.methodLink RX11 56 yX11_in, Cond.static yX11_in, Cond.code yX11_in cX11_in 6 (some .boolean), Cond.methodLink RX11 126 yX11_isSpeed, Cond.static yX11_isSpeed, Cond.code yX11_isSpeed cX11_isSpeed 1 (some .boolean), Cond.constantLong RX11 62 (9), Cond.methodLink RX11 68 yX11_bad, Cond.instanceMethod yX11_bad, Cond.selects RX11 yX11_bad yX11_bad, Cond.code yX11_bad cX11_bad 2 (some .int), Cond.fieldLink RX11 20 "EggSpoonsModel" "refused" "[I", Cond.methodLink RX11 101 yX11_isHome, Cond.static yX11_isHome]
def wsX11_speed_r2 : List Cond := [Cond.code yX11_isHome cX11_isHome 2 (some .boolean), Cond.methodLink RX11 129 yX11_no, Cond.instanceMethod yX11_no, Cond.selects RX11 yX11_no yX11_no, Cond.code yX11_no cX11_no 1 (some .int), Cond.methodLink RX11 113 yX11_save, Cond.instanceMethod yX11_save, Cond.selects RX11 yX11_save yX11_save, Cond.code yX11_save cX11_save 2 none]
def wsX11_speed : List Cond := .code yX11_speed cX11_speed 4 (some .int) :: ((wsX11_speed_r1 ++ wsX11_speed_r2) ++ wsX110)
def wsX11_start_r1 : List Cond := [Cond.constantLong RX11 132 (30), Cond.fieldLink RX11 7 "EggSpoonsModel" "all" "[I", Cond.methodLink RX11 123 yX11_isOne, Cond.instanceMethod yX11_isOne, Cond.selects RX11 yX11_isOne yX11_isOne, Cond.initialized RX11, Cond.code yX11_isOne cX11_isOne 2 (some .boolean), Cond.methodLink RX11 52 yX11_many, Cond.instanceMethod yX11_many, Cond.selects RX11 yX11_many yX11_many, Cond.code yX11_many cX11_many 1 (some .int), Cond.methodLink RX11 56 yX11_in, Cond.static yX11_in, Cond.code yX11_in cX11_in 6 (some .boolean), Cond.methodLink RX11 68 yX11_bad, Cond.instanceMethod yX11_bad, Cond.selects RX11 yX11_bad yX11_bad, Cond.code yX11_bad cX11_bad 2 (some .int), Cond.fieldLink RX11 20 "EggSpoonsModel" "refused" "[I", Cond.methodLink RX11 101 yX11_isHome, Cond.static yX11_isHome, Cond.code yX11_isHome cX11_isHome 2 (some .boolean), Cond.methodLink RX11 129 yX11_no, Cond.instanceMethod yX11_no]
def wsX11_start_r2 : List Cond := [Cond.selects RX11 yX11_no yX11_no, Cond.code yX11_no cX11_no 1 (some .int), Cond.methodLink RX11 113 yX11_save, Cond.instanceMethod yX11_save, Cond.selects RX11 yX11_save yX11_save, Cond.code yX11_save cX11_save 2 none]
def wsX11_start : List Cond := .code yX11_start cX11_start 3 (some .int) :: ((wsX11_start_r1 ++ wsX11_start_r2) ++ wsX110)
def wsX11_undo : List Cond := .code yX11_undo cX11_undo 2 (some .int) :: ([.fieldLink RX11 7 "EggSpoonsModel" "all" "[I", .methodLink RX11 129 yX11_no, .instanceMethod yX11_no, .selects RX11 yX11_no yX11_no, .initialized RX11, .code yX11_no cX11_no 1 (some .int), .fieldLink RX11 20 "EggSpoonsModel" "refused" "[I"] ++ wsX110)
def wsX11_toldOf : List Cond := .code yX11_toldOf cX11_toldOf 3 (some .int) :: ([.fieldLink RX11 7 "EggSpoonsModel" "all" "[I", .methodLink RX11 101 yX11_isHome, .static yX11_isHome, .initialized RX11, .code yX11_isHome cX11_isHome 2 (some .boolean), .methodLink RX11 90 yX11_runsOf, .static yX11_runsOf, .code yX11_runsOf cX11_runsOf 3 (some .int), .methodLink RX11 86 yX11_runsAs, .static yX11_runsAs, .code yX11_runsAs cX11_runsAs 7 (some .int), .methodLink RX11 94 yX11_mayAs, .static yX11_mayAs, .code yX11_mayAs cX11_mayAs 3 (some .int)] ++ wsX110)
def wsX11_of_r1 : List Cond := [Cond.constantLong RX11 62 (9), Cond.methodLink RX11 123 yX11_isOne, Cond.instanceMethod yX11_isOne, Cond.selects RX11 yX11_isOne yX11_isOne, Cond.initialized RX11, Cond.code yX11_isOne cX11_isOne 2 (some .boolean), Cond.methodLink RX11 52 yX11_many, Cond.instanceMethod yX11_many, Cond.selects RX11 yX11_many yX11_many, Cond.code yX11_many cX11_many 1 (some .int), Cond.fieldLink RX11 7 "EggSpoonsModel" "all" "[I", Cond.methodLink RX11 56 yX11_in, Cond.static yX11_in, Cond.code yX11_in cX11_in 6 (some .boolean), Cond.methodLink RX11 134 yX11_toldOf, Cond.instanceMethod yX11_toldOf, Cond.selects RX11 yX11_toldOf yX11_toldOf, Cond.code yX11_toldOf cX11_toldOf 3 (some .int), Cond.methodLink RX11 101 yX11_isHome, Cond.static yX11_isHome, Cond.code yX11_isHome cX11_isHome 2 (some .boolean), Cond.methodLink RX11 90 yX11_runsOf, Cond.static yX11_runsOf, Cond.code yX11_runsOf cX11_runsOf 3 (some .int)]
def wsX11_of_r2 : List Cond := [Cond.methodLink RX11 86 yX11_runsAs, Cond.static yX11_runsAs, Cond.code yX11_runsAs cX11_runsAs 7 (some .int), Cond.methodLink RX11 94 yX11_mayAs, Cond.static yX11_mayAs, Cond.code yX11_mayAs cX11_mayAs 3 (some .int), Cond.methodLink RX11 68 yX11_bad, Cond.instanceMethod yX11_bad, Cond.selects RX11 yX11_bad yX11_bad, Cond.code yX11_bad cX11_bad 2 (some .int), Cond.fieldLink RX11 20 "EggSpoonsModel" "refused" "[I"]
def wsX11_of : List Cond := .code yX11_of cX11_of 3 (some .int) :: ((wsX11_of_r1 ++ wsX11_of_r2) ++ wsX110)
def wsX11_layHand : List Cond := .code yX11_layHand cX11_layHand 2 none :: ([.fieldLink RX11 27 "EggSpoonsModel" "hand" "[I", .fieldLink RX11 7 "EggSpoonsModel" "all" "[I"] ++ wsX110)
def wsX11_goAhead : List Cond := .code yX11_goAhead cX11_goAhead 3 none :: ([.fieldLink RX11 27 "EggSpoonsModel" "hand" "[I", .methodLink RX11 109 yX11_goTick, .static yX11_goTick, .initialized RX11, .code yX11_goTick cX11_goTick 2 none, .methodLink RX11 101 yX11_isHome, .static yX11_isHome, .code yX11_isHome cX11_isHome 2 (some .boolean), .methodLink RX11 105 yX11_goOne, .static yX11_goOne, .code yX11_goOne cX11_goOne 5 none, .methodLink RX11 90 yX11_runsOf, .static yX11_runsOf, .code yX11_runsOf cX11_runsOf 3 (some .int), .methodLink RX11 86 yX11_runsAs, .static yX11_runsAs, .code yX11_runsAs cX11_runsAs 7 (some .int), .methodLink RX11 94 yX11_mayAs, .static yX11_mayAs, .code yX11_mayAs cX11_mayAs 3 (some .int), .methodLink RX11 98 yX11_drop, .static yX11_drop, .code yX11_drop cX11_drop 2 none] ++ wsX110)
def wsX11_where_r1 : List Cond := [Cond.constantLong RX11 66 (60), Cond.fieldLink RX11 27 "EggSpoonsModel" "hand" "[I", Cond.methodLink RX11 123 yX11_isOne, Cond.instanceMethod yX11_isOne, Cond.selects RX11 yX11_isOne yX11_isOne, Cond.initialized RX11, Cond.code yX11_isOne cX11_isOne 2 (some .boolean), Cond.methodLink RX11 52 yX11_many, Cond.instanceMethod yX11_many, Cond.selects RX11 yX11_many yX11_many, Cond.code yX11_many cX11_many 1 (some .int), Cond.fieldLink RX11 7 "EggSpoonsModel" "all" "[I", Cond.methodLink RX11 56 yX11_in, Cond.static yX11_in, Cond.code yX11_in cX11_in 6 (some .boolean), Cond.methodLink RX11 68 yX11_bad, Cond.instanceMethod yX11_bad, Cond.selects RX11 yX11_bad yX11_bad, Cond.code yX11_bad cX11_bad 2 (some .int), Cond.fieldLink RX11 20 "EggSpoonsModel" "refused" "[I", Cond.methodLink RX11 137 yX11_layHand, Cond.instanceMethod yX11_layHand, Cond.selects RX11 yX11_layHand yX11_layHand, Cond.code yX11_layHand cX11_layHand 2 none]
def wsX11_where_r2 : List Cond := [Cond.methodLink RX11 140 yX11_goAhead, Cond.instanceMethod yX11_goAhead, Cond.selects RX11 yX11_goAhead yX11_goAhead, Cond.code yX11_goAhead cX11_goAhead 3 none, Cond.methodLink RX11 109 yX11_goTick, Cond.static yX11_goTick, Cond.code yX11_goTick cX11_goTick 2 none, Cond.methodLink RX11 101 yX11_isHome, Cond.static yX11_isHome, Cond.code yX11_isHome cX11_isHome 2 (some .boolean), Cond.methodLink RX11 105 yX11_goOne, Cond.static yX11_goOne, Cond.code yX11_goOne cX11_goOne 5 none, Cond.methodLink RX11 90 yX11_runsOf, Cond.static yX11_runsOf, Cond.code yX11_runsOf cX11_runsOf 3 (some .int), Cond.methodLink RX11 86 yX11_runsAs, Cond.static yX11_runsAs, Cond.code yX11_runsAs cX11_runsAs 7 (some .int), Cond.methodLink RX11 94 yX11_mayAs, Cond.static yX11_mayAs, Cond.code yX11_mayAs cX11_mayAs 3 (some .int), Cond.methodLink RX11 98 yX11_drop, Cond.static yX11_drop]
def wsX11_where_r3 : List Cond := [Cond.code yX11_drop cX11_drop 2 none]
def wsX11_where : List Cond := .code yX11_where cX11_where 3 (some .int) :: ((wsX11_where_r1 ++ (wsX11_where_r2 ++ wsX11_where_r3)) ++ wsX110)
def wsX11_homeAtHand : List Cond := .code yX11_homeAtHand cX11_homeAtHand 4 (some .int) :: ([.fieldLink RX11 27 "EggSpoonsModel" "hand" "[I", .methodLink RX11 101 yX11_isHome, .static yX11_isHome, .initialized RX11, .code yX11_isHome cX11_isHome 2 (some .boolean), .methodLink RX11 109 yX11_goTick, .static yX11_goTick, .code yX11_goTick cX11_goTick 2 none, .methodLink RX11 105 yX11_goOne, .static yX11_goOne, .code yX11_goOne cX11_goOne 5 none, .methodLink RX11 90 yX11_runsOf, .static yX11_runsOf, .code yX11_runsOf cX11_runsOf 3 (some .int), .methodLink RX11 86 yX11_runsAs, .static yX11_runsAs, .code yX11_runsAs cX11_runsAs 7 (some .int), .methodLink RX11 94 yX11_mayAs, .static yX11_mayAs, .code yX11_mayAs cX11_mayAs 3 (some .int), .methodLink RX11 98 yX11_drop, .static yX11_drop, .code yX11_drop cX11_drop 2 none] ++ wsX110)
def wsX11_homeOf_r1 : List Cond := [Cond.methodLink RX11 137 yX11_layHand, Cond.instanceMethod yX11_layHand, Cond.selects RX11 yX11_layHand yX11_layHand, Cond.initialized RX11, Cond.code yX11_layHand cX11_layHand 2 none, Cond.fieldLink RX11 27 "EggSpoonsModel" "hand" "[I", Cond.fieldLink RX11 7 "EggSpoonsModel" "all" "[I", Cond.methodLink RX11 144 yX11_homeAtHand, Cond.instanceMethod yX11_homeAtHand, Cond.selects RX11 yX11_homeAtHand yX11_homeAtHand, Cond.code yX11_homeAtHand cX11_homeAtHand 4 (some .int), Cond.methodLink RX11 101 yX11_isHome, Cond.static yX11_isHome, Cond.code yX11_isHome cX11_isHome 2 (some .boolean), Cond.methodLink RX11 109 yX11_goTick, Cond.static yX11_goTick, Cond.code yX11_goTick cX11_goTick 2 none, Cond.methodLink RX11 105 yX11_goOne, Cond.static yX11_goOne, Cond.code yX11_goOne cX11_goOne 5 none, Cond.methodLink RX11 90 yX11_runsOf, Cond.static yX11_runsOf, Cond.code yX11_runsOf cX11_runsOf 3 (some .int), Cond.methodLink RX11 86 yX11_runsAs]
def wsX11_homeOf_r2 : List Cond := [Cond.static yX11_runsAs, Cond.code yX11_runsAs cX11_runsAs 7 (some .int), Cond.methodLink RX11 94 yX11_mayAs, Cond.static yX11_mayAs, Cond.code yX11_mayAs cX11_mayAs 3 (some .int), Cond.methodLink RX11 98 yX11_drop, Cond.static yX11_drop, Cond.code yX11_drop cX11_drop 2 none]
def wsX11_homeOf : List Cond := .code yX11_homeOf cX11_homeOf 2 (some .int) :: ((wsX11_homeOf_r1 ++ wsX11_homeOf_r2) ++ wsX110)
def wsX11_home_r1 : List Cond := [Cond.methodLink RX11 123 yX11_isOne, Cond.instanceMethod yX11_isOne, Cond.selects RX11 yX11_isOne yX11_isOne, Cond.initialized RX11, Cond.code yX11_isOne cX11_isOne 2 (some .boolean), Cond.methodLink RX11 52 yX11_many, Cond.instanceMethod yX11_many, Cond.selects RX11 yX11_many yX11_many, Cond.code yX11_many cX11_many 1 (some .int), Cond.fieldLink RX11 7 "EggSpoonsModel" "all" "[I", Cond.methodLink RX11 56 yX11_in, Cond.static yX11_in, Cond.code yX11_in cX11_in 6 (some .boolean), Cond.methodLink RX11 147 yX11_homeOf, Cond.instanceMethod yX11_homeOf, Cond.selects RX11 yX11_homeOf yX11_homeOf, Cond.code yX11_homeOf cX11_homeOf 2 (some .int), Cond.methodLink RX11 137 yX11_layHand, Cond.instanceMethod yX11_layHand, Cond.selects RX11 yX11_layHand yX11_layHand, Cond.code yX11_layHand cX11_layHand 2 none, Cond.fieldLink RX11 27 "EggSpoonsModel" "hand" "[I", Cond.methodLink RX11 144 yX11_homeAtHand, Cond.instanceMethod yX11_homeAtHand]
def wsX11_home_r2 : List Cond := [Cond.selects RX11 yX11_homeAtHand yX11_homeAtHand, Cond.code yX11_homeAtHand cX11_homeAtHand 4 (some .int), Cond.methodLink RX11 101 yX11_isHome, Cond.static yX11_isHome, Cond.code yX11_isHome cX11_isHome 2 (some .boolean), Cond.methodLink RX11 109 yX11_goTick, Cond.static yX11_goTick, Cond.code yX11_goTick cX11_goTick 2 none, Cond.methodLink RX11 105 yX11_goOne, Cond.static yX11_goOne, Cond.code yX11_goOne cX11_goOne 5 none, Cond.methodLink RX11 90 yX11_runsOf, Cond.static yX11_runsOf, Cond.code yX11_runsOf cX11_runsOf 3 (some .int), Cond.methodLink RX11 86 yX11_runsAs, Cond.static yX11_runsAs, Cond.code yX11_runsAs cX11_runsAs 7 (some .int), Cond.methodLink RX11 94 yX11_mayAs, Cond.static yX11_mayAs, Cond.code yX11_mayAs cX11_mayAs 3 (some .int), Cond.methodLink RX11 98 yX11_drop, Cond.static yX11_drop, Cond.code yX11_drop cX11_drop 2 none, Cond.methodLink RX11 68 yX11_bad]
def wsX11_home_r3 : List Cond := [Cond.instanceMethod yX11_bad, Cond.selects RX11 yX11_bad yX11_bad, Cond.code yX11_bad cX11_bad 2 (some .int), Cond.fieldLink RX11 20 "EggSpoonsModel" "refused" "[I"]
def wsX11_home : List Cond := .code yX11_home cX11_home 2 (some .int) :: ((wsX11_home_r1 ++ (wsX11_home_r2 ++ wsX11_home_r3)) ++ wsX110)
def wsX11_first_r1 : List Cond := [Cond.constant RX11 150 (1000000), Cond.fieldLink RX11 7 "EggSpoonsModel" "all" "[I", Cond.methodLink RX11 52 yX11_many, Cond.instanceMethod yX11_many, Cond.selects RX11 yX11_many yX11_many, Cond.initialized RX11, Cond.code yX11_many cX11_many 1 (some .int), Cond.methodLink RX11 101 yX11_isHome, Cond.static yX11_isHome, Cond.code yX11_isHome cX11_isHome 2 (some .boolean), Cond.methodLink RX11 147 yX11_homeOf, Cond.instanceMethod yX11_homeOf, Cond.selects RX11 yX11_homeOf yX11_homeOf, Cond.code yX11_homeOf cX11_homeOf 2 (some .int), Cond.methodLink RX11 137 yX11_layHand, Cond.instanceMethod yX11_layHand, Cond.selects RX11 yX11_layHand yX11_layHand, Cond.code yX11_layHand cX11_layHand 2 none, Cond.fieldLink RX11 27 "EggSpoonsModel" "hand" "[I", Cond.methodLink RX11 144 yX11_homeAtHand, Cond.instanceMethod yX11_homeAtHand, Cond.selects RX11 yX11_homeAtHand yX11_homeAtHand, Cond.code yX11_homeAtHand cX11_homeAtHand 4 (some .int), Cond.methodLink RX11 109 yX11_goTick]
def wsX11_first_r2 : List Cond := [Cond.static yX11_goTick, Cond.code yX11_goTick cX11_goTick 2 none, Cond.methodLink RX11 105 yX11_goOne, Cond.static yX11_goOne, Cond.code yX11_goOne cX11_goOne 5 none, Cond.methodLink RX11 90 yX11_runsOf, Cond.static yX11_runsOf, Cond.code yX11_runsOf cX11_runsOf 3 (some .int), Cond.methodLink RX11 86 yX11_runsAs, Cond.static yX11_runsAs, Cond.code yX11_runsAs cX11_runsAs 7 (some .int), Cond.methodLink RX11 94 yX11_mayAs, Cond.static yX11_mayAs, Cond.code yX11_mayAs cX11_mayAs 3 (some .int), Cond.methodLink RX11 98 yX11_drop, Cond.static yX11_drop, Cond.code yX11_drop cX11_drop 2 none]
def wsX11_first : List Cond := .code yX11_first cX11_first 5 (some .int) :: ((wsX11_first_r1 ++ wsX11_first_r2) ++ wsX110)
def wsX11_order_r1 : List Cond := [Cond.fieldLink RX11 30 "EggSpoonsModel" "goesBy" "[I", Cond.fieldLink RX11 7 "EggSpoonsModel" "all" "[I", Cond.constant RX11 151 (2000000), Cond.constant RX11 150 (1000000), Cond.methodLink RX11 68 yX11_bad, Cond.instanceMethod yX11_bad, Cond.selects RX11 yX11_bad yX11_bad, Cond.initialized RX11, Cond.code yX11_bad cX11_bad 2 (some .int), Cond.fieldLink RX11 20 "EggSpoonsModel" "refused" "[I", Cond.methodLink RX11 52 yX11_many, Cond.instanceMethod yX11_many, Cond.selects RX11 yX11_many yX11_many, Cond.code yX11_many cX11_many 1 (some .int), Cond.methodLink RX11 129 yX11_no, Cond.instanceMethod yX11_no, Cond.selects RX11 yX11_no yX11_no, Cond.code yX11_no cX11_no 1 (some .int), Cond.methodLink RX11 147 yX11_homeOf, Cond.instanceMethod yX11_homeOf, Cond.selects RX11 yX11_homeOf yX11_homeOf, Cond.code yX11_homeOf cX11_homeOf 2 (some .int), Cond.methodLink RX11 137 yX11_layHand, Cond.instanceMethod yX11_layHand]
def wsX11_order_r2 : List Cond := [Cond.selects RX11 yX11_layHand yX11_layHand, Cond.code yX11_layHand cX11_layHand 2 none, Cond.fieldLink RX11 27 "EggSpoonsModel" "hand" "[I", Cond.methodLink RX11 144 yX11_homeAtHand, Cond.instanceMethod yX11_homeAtHand, Cond.selects RX11 yX11_homeAtHand yX11_homeAtHand, Cond.code yX11_homeAtHand cX11_homeAtHand 4 (some .int), Cond.methodLink RX11 101 yX11_isHome, Cond.static yX11_isHome, Cond.code yX11_isHome cX11_isHome 2 (some .boolean), Cond.methodLink RX11 109 yX11_goTick, Cond.static yX11_goTick, Cond.code yX11_goTick cX11_goTick 2 none, Cond.methodLink RX11 105 yX11_goOne, Cond.static yX11_goOne, Cond.code yX11_goOne cX11_goOne 5 none, Cond.methodLink RX11 90 yX11_runsOf, Cond.static yX11_runsOf, Cond.code yX11_runsOf cX11_runsOf 3 (some .int), Cond.methodLink RX11 86 yX11_runsAs, Cond.static yX11_runsAs, Cond.code yX11_runsAs cX11_runsAs 7 (some .int), Cond.methodLink RX11 94 yX11_mayAs, Cond.static yX11_mayAs]
def wsX11_order_r3 : List Cond := [Cond.code yX11_mayAs cX11_mayAs 3 (some .int), Cond.methodLink RX11 98 yX11_drop, Cond.static yX11_drop, Cond.code yX11_drop cX11_drop 2 none]
def wsX11_order : List Cond := .code yX11_order cX11_order 5 (some .int) :: ((wsX11_order_r1 ++ (wsX11_order_r2 ++ wsX11_order_r3)) ++ wsX110)
def wsX11_best_r1 : List Cond := [Cond.constant RX11 150 (1000000), Cond.fieldLink RX11 7 "EggSpoonsModel" "all" "[I", Cond.fieldLink RX11 27 "EggSpoonsModel" "hand" "[I", Cond.methodLink RX11 123 yX11_isOne, Cond.instanceMethod yX11_isOne, Cond.selects RX11 yX11_isOne yX11_isOne, Cond.initialized RX11, Cond.code yX11_isOne cX11_isOne 2 (some .boolean), Cond.methodLink RX11 52 yX11_many, Cond.instanceMethod yX11_many, Cond.selects RX11 yX11_many yX11_many, Cond.code yX11_many cX11_many 1 (some .int), Cond.methodLink RX11 56 yX11_in, Cond.static yX11_in, Cond.code yX11_in cX11_in 6 (some .boolean), Cond.methodLink RX11 68 yX11_bad, Cond.instanceMethod yX11_bad, Cond.selects RX11 yX11_bad yX11_bad, Cond.code yX11_bad cX11_bad 2 (some .int), Cond.fieldLink RX11 20 "EggSpoonsModel" "refused" "[I", Cond.methodLink RX11 101 yX11_isHome, Cond.static yX11_isHome, Cond.code yX11_isHome cX11_isHome 2 (some .boolean), Cond.methodLink RX11 137 yX11_layHand]
def wsX11_best_r2 : List Cond := [Cond.instanceMethod yX11_layHand, Cond.selects RX11 yX11_layHand yX11_layHand, Cond.code yX11_layHand cX11_layHand 2 none, Cond.methodLink RX11 144 yX11_homeAtHand, Cond.instanceMethod yX11_homeAtHand, Cond.selects RX11 yX11_homeAtHand yX11_homeAtHand, Cond.code yX11_homeAtHand cX11_homeAtHand 4 (some .int), Cond.methodLink RX11 109 yX11_goTick, Cond.static yX11_goTick, Cond.code yX11_goTick cX11_goTick 2 none, Cond.methodLink RX11 105 yX11_goOne, Cond.static yX11_goOne, Cond.code yX11_goOne cX11_goOne 5 none, Cond.methodLink RX11 90 yX11_runsOf, Cond.static yX11_runsOf, Cond.code yX11_runsOf cX11_runsOf 3 (some .int), Cond.methodLink RX11 86 yX11_runsAs, Cond.static yX11_runsAs, Cond.code yX11_runsAs cX11_runsAs 7 (some .int), Cond.methodLink RX11 94 yX11_mayAs, Cond.static yX11_mayAs, Cond.code yX11_mayAs cX11_mayAs 3 (some .int), Cond.methodLink RX11 98 yX11_drop, Cond.static yX11_drop]
def wsX11_best_r3 : List Cond := [Cond.code yX11_drop cX11_drop 2 none]
def wsX11_best : List Cond := .code yX11_best cX11_best 7 (some .int) :: ((wsX11_best_r1 ++ (wsX11_best_r2 ++ wsX11_best_r3)) ++ wsX110)
def wsX11_turn_r1 : List Cond := [Cond.constant RX11 150 (1000000), Cond.fieldLink RX11 7 "EggSpoonsModel" "all" "[I", Cond.fieldLink RX11 27 "EggSpoonsModel" "hand" "[I", Cond.methodLink RX11 123 yX11_isOne, Cond.instanceMethod yX11_isOne, Cond.selects RX11 yX11_isOne yX11_isOne, Cond.initialized RX11, Cond.code yX11_isOne cX11_isOne 2 (some .boolean), Cond.methodLink RX11 52 yX11_many, Cond.instanceMethod yX11_many, Cond.selects RX11 yX11_many yX11_many, Cond.code yX11_many cX11_many 1 (some .int), Cond.methodLink RX11 56 yX11_in, Cond.static yX11_in, Cond.code yX11_in cX11_in 6 (some .boolean), Cond.methodLink RX11 126 yX11_isSpeed, Cond.static yX11_isSpeed, Cond.code yX11_isSpeed cX11_isSpeed 1 (some .boolean), Cond.constantLong RX11 62 (9), Cond.methodLink RX11 68 yX11_bad, Cond.instanceMethod yX11_bad, Cond.selects RX11 yX11_bad yX11_bad, Cond.code yX11_bad cX11_bad 2 (some .int), Cond.fieldLink RX11 20 "EggSpoonsModel" "refused" "[I"]
def wsX11_turn_r2 : List Cond := [Cond.methodLink RX11 101 yX11_isHome, Cond.static yX11_isHome, Cond.code yX11_isHome cX11_isHome 2 (some .boolean), Cond.methodLink RX11 137 yX11_layHand, Cond.instanceMethod yX11_layHand, Cond.selects RX11 yX11_layHand yX11_layHand, Cond.code yX11_layHand cX11_layHand 2 none, Cond.methodLink RX11 144 yX11_homeAtHand, Cond.instanceMethod yX11_homeAtHand, Cond.selects RX11 yX11_homeAtHand yX11_homeAtHand, Cond.code yX11_homeAtHand cX11_homeAtHand 4 (some .int), Cond.methodLink RX11 109 yX11_goTick, Cond.static yX11_goTick, Cond.code yX11_goTick cX11_goTick 2 none, Cond.methodLink RX11 105 yX11_goOne, Cond.static yX11_goOne, Cond.code yX11_goOne cX11_goOne 5 none, Cond.methodLink RX11 90 yX11_runsOf, Cond.static yX11_runsOf, Cond.code yX11_runsOf cX11_runsOf 3 (some .int), Cond.methodLink RX11 86 yX11_runsAs, Cond.static yX11_runsAs, Cond.code yX11_runsAs cX11_runsAs 7 (some .int), Cond.methodLink RX11 94 yX11_mayAs]
def wsX11_turn_r3 : List Cond := [Cond.static yX11_mayAs, Cond.code yX11_mayAs cX11_mayAs 3 (some .int), Cond.methodLink RX11 98 yX11_drop, Cond.static yX11_drop, Cond.code yX11_drop cX11_drop 2 none, Cond.methodLink RX11 140 yX11_goAhead, Cond.instanceMethod yX11_goAhead, Cond.selects RX11 yX11_goAhead yX11_goAhead, Cond.code yX11_goAhead cX11_goAhead 3 none]
def wsX11_turn : List Cond := .code yX11_turn cX11_turn 8 (some .int) :: ((wsX11_turn_r1 ++ (wsX11_turn_r2 ++ wsX11_turn_r3)) ++ wsX110)
def wsX11_beats_r1 : List Cond := [Cond.fieldLink RX11 7 "EggSpoonsModel" "all" "[I", Cond.fieldLink RX11 27 "EggSpoonsModel" "hand" "[I", Cond.methodLink RX11 123 yX11_isOne, Cond.instanceMethod yX11_isOne, Cond.selects RX11 yX11_isOne yX11_isOne, Cond.initialized RX11, Cond.code yX11_isOne cX11_isOne 2 (some .boolean), Cond.methodLink RX11 52 yX11_many, Cond.instanceMethod yX11_many, Cond.selects RX11 yX11_many yX11_many, Cond.code yX11_many cX11_many 1 (some .int), Cond.methodLink RX11 56 yX11_in, Cond.static yX11_in, Cond.code yX11_in cX11_in 6 (some .boolean), Cond.methodLink RX11 68 yX11_bad, Cond.instanceMethod yX11_bad, Cond.selects RX11 yX11_bad yX11_bad, Cond.code yX11_bad cX11_bad 2 (some .int), Cond.fieldLink RX11 20 "EggSpoonsModel" "refused" "[I", Cond.methodLink RX11 147 yX11_homeOf, Cond.instanceMethod yX11_homeOf, Cond.selects RX11 yX11_homeOf yX11_homeOf, Cond.code yX11_homeOf cX11_homeOf 2 (some .int), Cond.methodLink RX11 137 yX11_layHand]
def wsX11_beats_r2 : List Cond := [Cond.instanceMethod yX11_layHand, Cond.selects RX11 yX11_layHand yX11_layHand, Cond.code yX11_layHand cX11_layHand 2 none, Cond.methodLink RX11 144 yX11_homeAtHand, Cond.instanceMethod yX11_homeAtHand, Cond.selects RX11 yX11_homeAtHand yX11_homeAtHand, Cond.code yX11_homeAtHand cX11_homeAtHand 4 (some .int), Cond.methodLink RX11 101 yX11_isHome, Cond.static yX11_isHome, Cond.code yX11_isHome cX11_isHome 2 (some .boolean), Cond.methodLink RX11 109 yX11_goTick, Cond.static yX11_goTick, Cond.code yX11_goTick cX11_goTick 2 none, Cond.methodLink RX11 105 yX11_goOne, Cond.static yX11_goOne, Cond.code yX11_goOne cX11_goOne 5 none, Cond.methodLink RX11 90 yX11_runsOf, Cond.static yX11_runsOf, Cond.code yX11_runsOf cX11_runsOf 3 (some .int), Cond.methodLink RX11 86 yX11_runsAs, Cond.static yX11_runsAs, Cond.code yX11_runsAs cX11_runsAs 7 (some .int), Cond.methodLink RX11 94 yX11_mayAs, Cond.static yX11_mayAs]
def wsX11_beats_r3 : List Cond := [Cond.code yX11_mayAs cX11_mayAs 3 (some .int), Cond.methodLink RX11 98 yX11_drop, Cond.static yX11_drop, Cond.code yX11_drop cX11_drop 2 none]
def wsX11_beats : List Cond := .code yX11_beats cX11_beats 6 (some .int) :: ((wsX11_beats_r1 ++ (wsX11_beats_r2 ++ wsX11_beats_r3)) ++ wsX110)
def wsX11_close_r1 : List Cond := [Cond.constant RX11 150 (1000000), Cond.fieldLink RX11 27 "EggSpoonsModel" "hand" "[I", Cond.methodLink RX11 123 yX11_isOne, Cond.instanceMethod yX11_isOne, Cond.selects RX11 yX11_isOne yX11_isOne, Cond.initialized RX11, Cond.code yX11_isOne cX11_isOne 2 (some .boolean), Cond.methodLink RX11 52 yX11_many, Cond.instanceMethod yX11_many, Cond.selects RX11 yX11_many yX11_many, Cond.code yX11_many cX11_many 1 (some .int), Cond.fieldLink RX11 7 "EggSpoonsModel" "all" "[I", Cond.methodLink RX11 56 yX11_in, Cond.static yX11_in, Cond.code yX11_in cX11_in 6 (some .boolean), Cond.methodLink RX11 68 yX11_bad, Cond.instanceMethod yX11_bad, Cond.selects RX11 yX11_bad yX11_bad, Cond.code yX11_bad cX11_bad 2 (some .int), Cond.fieldLink RX11 20 "EggSpoonsModel" "refused" "[I", Cond.methodLink RX11 137 yX11_layHand, Cond.instanceMethod yX11_layHand, Cond.selects RX11 yX11_layHand yX11_layHand, Cond.code yX11_layHand cX11_layHand 2 none]
def wsX11_close_r2 : List Cond := [Cond.methodLink RX11 109 yX11_goTick, Cond.static yX11_goTick, Cond.code yX11_goTick cX11_goTick 2 none, Cond.methodLink RX11 101 yX11_isHome, Cond.static yX11_isHome, Cond.code yX11_isHome cX11_isHome 2 (some .boolean), Cond.methodLink RX11 105 yX11_goOne, Cond.static yX11_goOne, Cond.code yX11_goOne cX11_goOne 5 none, Cond.methodLink RX11 90 yX11_runsOf, Cond.static yX11_runsOf, Cond.code yX11_runsOf cX11_runsOf 3 (some .int), Cond.methodLink RX11 86 yX11_runsAs, Cond.static yX11_runsAs, Cond.code yX11_runsAs cX11_runsAs 7 (some .int), Cond.methodLink RX11 94 yX11_mayAs, Cond.static yX11_mayAs, Cond.code yX11_mayAs cX11_mayAs 3 (some .int), Cond.methodLink RX11 98 yX11_drop, Cond.static yX11_drop, Cond.code yX11_drop cX11_drop 2 none]
def wsX11_close : List Cond := .code yX11_close cX11_close 8 (some .int) :: ((wsX11_close_r1 ++ wsX11_close_r2) ++ wsX110)
def wsX11_seen_r1 : List Cond := [Cond.constantLong RX11 152 (99), Cond.constantLong RX11 154 (15), Cond.fieldLink RX11 7 "EggSpoonsModel" "all" "[I", Cond.methodLink RX11 123 yX11_isOne, Cond.instanceMethod yX11_isOne, Cond.selects RX11 yX11_isOne yX11_isOne, Cond.initialized RX11, Cond.code yX11_isOne cX11_isOne 2 (some .boolean), Cond.methodLink RX11 52 yX11_many, Cond.instanceMethod yX11_many, Cond.selects RX11 yX11_many yX11_many, Cond.code yX11_many cX11_many 1 (some .int), Cond.methodLink RX11 56 yX11_in, Cond.static yX11_in, Cond.code yX11_in cX11_in 6 (some .boolean), Cond.methodLink RX11 126 yX11_isSpeed, Cond.static yX11_isSpeed, Cond.code yX11_isSpeed cX11_isSpeed 1 (some .boolean), Cond.constantLong RX11 62 (9), Cond.methodLink RX11 68 yX11_bad, Cond.instanceMethod yX11_bad, Cond.selects RX11 yX11_bad yX11_bad, Cond.code yX11_bad cX11_bad 2 (some .int), Cond.fieldLink RX11 20 "EggSpoonsModel" "refused" "[I"]
def wsX11_seen_r2 : List Cond := [Cond.methodLink RX11 79 yX11_full, Cond.instanceMethod yX11_full, Cond.selects RX11 yX11_full yX11_full, Cond.code yX11_full cX11_full 1 (some .int)]
def wsX11_seen : List Cond := .code yX11_seen cX11_seen 6 (some .int) :: ((wsX11_seen_r1 ++ wsX11_seen_r2) ++ wsX110)
def wsX11_legsOf : List Cond := .code yX11_legsOf cX11_legsOf 7 (some .int) :: ([.fieldLink RX11 7 "EggSpoonsModel" "all" "[I", .methodLink RX11 86 yX11_runsAs, .static yX11_runsAs, .initialized RX11, .code yX11_runsAs cX11_runsAs 7 (some .int)] ++ wsX110)
def wsX11_strong_r1 : List Cond := [Cond.constantLong RX11 156 (2), Cond.methodLink RX11 123 yX11_isOne, Cond.instanceMethod yX11_isOne, Cond.selects RX11 yX11_isOne yX11_isOne, Cond.initialized RX11, Cond.code yX11_isOne cX11_isOne 2 (some .boolean), Cond.methodLink RX11 52 yX11_many, Cond.instanceMethod yX11_many, Cond.selects RX11 yX11_many yX11_many, Cond.code yX11_many cX11_many 1 (some .int), Cond.fieldLink RX11 7 "EggSpoonsModel" "all" "[I", Cond.methodLink RX11 56 yX11_in, Cond.static yX11_in, Cond.code yX11_in cX11_in 6 (some .boolean), Cond.methodLink RX11 68 yX11_bad, Cond.instanceMethod yX11_bad, Cond.selects RX11 yX11_bad yX11_bad, Cond.code yX11_bad cX11_bad 2 (some .int), Cond.fieldLink RX11 20 "EggSpoonsModel" "refused" "[I", Cond.methodLink RX11 158 yX11_legsOf, Cond.instanceMethod yX11_legsOf, Cond.selects RX11 yX11_legsOf yX11_legsOf, Cond.code yX11_legsOf cX11_legsOf 7 (some .int), Cond.methodLink RX11 86 yX11_runsAs]
def wsX11_strong_r2 : List Cond := [Cond.static yX11_runsAs, Cond.code yX11_runsAs cX11_runsAs 7 (some .int), Cond.methodLink RX11 161 yX11_has, Cond.static yX11_has, Cond.code yX11_has cX11_has 2 (some .boolean)]
def wsX11_strong : List Cond := .code yX11_strong cX11_strong 8 (some .int) :: ((wsX11_strong_r1 ++ wsX11_strong_r2) ++ wsX110)
def wsX11_mostAlike : List Cond := .code yX11_mostAlike cX11_mostAlike 6 (some .int) :: ([.fieldLink RX11 33 "EggSpoonsModel" "tells" "[I", .methodLink RX11 161 yX11_has, .static yX11_has, .initialized RX11, .code yX11_has cX11_has 2 (some .boolean)] ++ wsX110)
def wsX11_tell_r1 : List Cond := [Cond.constant RX11 150 (1000000), Cond.fieldLink RX11 33 "EggSpoonsModel" "tells" "[I", Cond.fieldLink RX11 7 "EggSpoonsModel" "all" "[I", Cond.methodLink RX11 123 yX11_isOne, Cond.instanceMethod yX11_isOne, Cond.selects RX11 yX11_isOne yX11_isOne, Cond.initialized RX11, Cond.code yX11_isOne cX11_isOne 2 (some .boolean), Cond.methodLink RX11 52 yX11_many, Cond.instanceMethod yX11_many, Cond.selects RX11 yX11_many yX11_many, Cond.code yX11_many cX11_many 1 (some .int), Cond.methodLink RX11 56 yX11_in, Cond.static yX11_in, Cond.code yX11_in cX11_in 6 (some .boolean), Cond.methodLink RX11 68 yX11_bad, Cond.instanceMethod yX11_bad, Cond.selects RX11 yX11_bad yX11_bad, Cond.code yX11_bad cX11_bad 2 (some .int), Cond.fieldLink RX11 20 "EggSpoonsModel" "refused" "[I", Cond.methodLink RX11 158 yX11_legsOf, Cond.instanceMethod yX11_legsOf, Cond.selects RX11 yX11_legsOf yX11_legsOf, Cond.code yX11_legsOf cX11_legsOf 7 (some .int)]
def wsX11_tell_r2 : List Cond := [Cond.methodLink RX11 86 yX11_runsAs, Cond.static yX11_runsAs, Cond.code yX11_runsAs cX11_runsAs 7 (some .int), Cond.methodLink RX11 165 yX11_mostAlike, Cond.instanceMethod yX11_mostAlike, Cond.selects RX11 yX11_mostAlike yX11_mostAlike, Cond.code yX11_mostAlike cX11_mostAlike 6 (some .int), Cond.methodLink RX11 161 yX11_has, Cond.static yX11_has, Cond.code yX11_has cX11_has 2 (some .boolean)]
def wsX11_tell : List Cond := .code yX11_tell cX11_tell 7 (some .int) :: ((wsX11_tell_r1 ++ wsX11_tell_r2) ++ wsX110)
def wsX11_note_r1 : List Cond := [Cond.constantLong RX11 152 (99), Cond.constantLong RX11 154 (15), Cond.fieldLink RX11 7 "EggSpoonsModel" "all" "[I", Cond.methodLink RX11 123 yX11_isOne, Cond.instanceMethod yX11_isOne, Cond.selects RX11 yX11_isOne yX11_isOne, Cond.initialized RX11, Cond.code yX11_isOne cX11_isOne 2 (some .boolean), Cond.methodLink RX11 52 yX11_many, Cond.instanceMethod yX11_many, Cond.selects RX11 yX11_many yX11_many, Cond.code yX11_many cX11_many 1 (some .int), Cond.methodLink RX11 56 yX11_in, Cond.static yX11_in, Cond.code yX11_in cX11_in 6 (some .boolean), Cond.methodLink RX11 76 yX11_isLegs, Cond.static yX11_isLegs, Cond.code yX11_isLegs cX11_isLegs 1 (some .boolean), Cond.constantLong RX11 62 (9), Cond.methodLink RX11 126 yX11_isSpeed, Cond.static yX11_isSpeed, Cond.code yX11_isSpeed cX11_isSpeed 1 (some .boolean), Cond.methodLink RX11 68 yX11_bad, Cond.instanceMethod yX11_bad]
def wsX11_note_r2 : List Cond := [Cond.selects RX11 yX11_bad yX11_bad, Cond.code yX11_bad cX11_bad 2 (some .int), Cond.fieldLink RX11 20 "EggSpoonsModel" "refused" "[I", Cond.methodLink RX11 79 yX11_full, Cond.instanceMethod yX11_full, Cond.selects RX11 yX11_full yX11_full, Cond.code yX11_full cX11_full 1 (some .int)]
def wsX11_note : List Cond := .code yX11_note cX11_note 7 (some .int) :: ((wsX11_note_r1 ++ wsX11_note_r2) ++ wsX110)
def wsX11_mark : List Cond := .code yX11_mark cX11_mark 5 (some .int) :: ([.constantLong RX11 152 (99), .constantLong RX11 154 (15), .fieldLink RX11 7 "EggSpoonsModel" "all" "[I", .methodLink RX11 123 yX11_isOne, .instanceMethod yX11_isOne, .selects RX11 yX11_isOne yX11_isOne, .initialized RX11, .code yX11_isOne cX11_isOne 2 (some .boolean), .methodLink RX11 52 yX11_many, .instanceMethod yX11_many, .selects RX11 yX11_many yX11_many, .code yX11_many cX11_many 1 (some .int), .methodLink RX11 56 yX11_in, .static yX11_in, .code yX11_in cX11_in 6 (some .boolean), .methodLink RX11 68 yX11_bad, .instanceMethod yX11_bad, .selects RX11 yX11_bad yX11_bad, .code yX11_bad cX11_bad 2 (some .int), .fieldLink RX11 20 "EggSpoonsModel" "refused" "[I", .methodLink RX11 79 yX11_full, .instanceMethod yX11_full, .selects RX11 yX11_full yX11_full, .code yX11_full cX11_full 1 (some .int)] ++ wsX110)
def wsX11_forget : List Cond := .code yX11_forget cX11_forget 3 (some .int) :: ([.constantLong RX11 156 (2), .fieldLink RX11 7 "EggSpoonsModel" "all" "[I", .methodLink RX11 56 yX11_in, .static yX11_in, .initialized RX11, .code yX11_in cX11_in 6 (some .boolean), .methodLink RX11 68 yX11_bad, .instanceMethod yX11_bad, .selects RX11 yX11_bad yX11_bad, .code yX11_bad cX11_bad 2 (some .int), .fieldLink RX11 20 "EggSpoonsModel" "refused" "[I"] ++ wsX110)
def wsX11_kindsOfOne : List Cond := .code yX11_kindsOfOne cX11_kindsOfOne 7 (some .int) :: ([.fieldLink RX11 7 "EggSpoonsModel" "all" "[I", .methodLink RX11 86 yX11_runsAs, .static yX11_runsAs, .initialized RX11, .code yX11_runsAs cX11_runsAs 7 (some .int)] ++ wsX110)
def wsX11_kindsOfEgg : List Cond := .code yX11_kindsOfEgg cX11_kindsOfEgg 7 (some .int) :: ([.fieldLink RX11 7 "EggSpoonsModel" "all" "[I", .methodLink RX11 94 yX11_mayAs, .static yX11_mayAs, .initialized RX11, .code yX11_mayAs cX11_mayAs 3 (some .int)] ++ wsX110)
def wsX11_is_r1 : List Cond := [Cond.methodLink RX11 123 yX11_isOne, Cond.instanceMethod yX11_isOne, Cond.selects RX11 yX11_isOne yX11_isOne, Cond.initialized RX11, Cond.code yX11_isOne cX11_isOne 2 (some .boolean), Cond.methodLink RX11 52 yX11_many, Cond.instanceMethod yX11_many, Cond.selects RX11 yX11_many yX11_many, Cond.code yX11_many cX11_many 1 (some .int), Cond.fieldLink RX11 7 "EggSpoonsModel" "all" "[I", Cond.methodLink RX11 56 yX11_in, Cond.static yX11_in, Cond.code yX11_in cX11_in 6 (some .boolean), Cond.methodLink RX11 168 yX11_kindsOfOne, Cond.instanceMethod yX11_kindsOfOne, Cond.selects RX11 yX11_kindsOfOne yX11_kindsOfOne, Cond.code yX11_kindsOfOne cX11_kindsOfOne 7 (some .int), Cond.methodLink RX11 86 yX11_runsAs, Cond.static yX11_runsAs, Cond.code yX11_runsAs cX11_runsAs 7 (some .int), Cond.methodLink RX11 68 yX11_bad, Cond.instanceMethod yX11_bad, Cond.selects RX11 yX11_bad yX11_bad, Cond.code yX11_bad cX11_bad 2 (some .int)]
def wsX11_is_r2 : List Cond := [Cond.fieldLink RX11 20 "EggSpoonsModel" "refused" "[I"]
def wsX11_is : List Cond := .code yX11_is cX11_is 2 (some .int) :: ((wsX11_is_r1 ++ wsX11_is_r2) ++ wsX110)
def wsX11_look_r1 : List Cond := [Cond.constant RX11 150 (1000000), Cond.fieldLink RX11 33 "EggSpoonsModel" "tells" "[I", Cond.fieldLink RX11 7 "EggSpoonsModel" "all" "[I", Cond.methodLink RX11 123 yX11_isOne, Cond.instanceMethod yX11_isOne, Cond.selects RX11 yX11_isOne yX11_isOne, Cond.initialized RX11, Cond.code yX11_isOne cX11_isOne 2 (some .boolean), Cond.methodLink RX11 52 yX11_many, Cond.instanceMethod yX11_many, Cond.selects RX11 yX11_many yX11_many, Cond.code yX11_many cX11_many 1 (some .int), Cond.methodLink RX11 56 yX11_in, Cond.static yX11_in, Cond.code yX11_in cX11_in 6 (some .boolean), Cond.methodLink RX11 68 yX11_bad, Cond.instanceMethod yX11_bad, Cond.selects RX11 yX11_bad yX11_bad, Cond.code yX11_bad cX11_bad 2 (some .int), Cond.fieldLink RX11 20 "EggSpoonsModel" "refused" "[I", Cond.methodLink RX11 168 yX11_kindsOfOne, Cond.instanceMethod yX11_kindsOfOne, Cond.selects RX11 yX11_kindsOfOne yX11_kindsOfOne, Cond.code yX11_kindsOfOne cX11_kindsOfOne 7 (some .int)]
def wsX11_look_r2 : List Cond := [Cond.methodLink RX11 86 yX11_runsAs, Cond.static yX11_runsAs, Cond.code yX11_runsAs cX11_runsAs 7 (some .int), Cond.methodLink RX11 165 yX11_mostAlike, Cond.instanceMethod yX11_mostAlike, Cond.selects RX11 yX11_mostAlike yX11_mostAlike, Cond.code yX11_mostAlike cX11_mostAlike 6 (some .int), Cond.methodLink RX11 161 yX11_has, Cond.static yX11_has, Cond.code yX11_has cX11_has 2 (some .boolean)]
def wsX11_look : List Cond := .code yX11_look cX11_look 7 (some .int) :: ((wsX11_look_r1 ++ wsX11_look_r2) ++ wsX110)
def wsX11_kinds_r1 : List Cond := [Cond.methodLink RX11 123 yX11_isOne, Cond.instanceMethod yX11_isOne, Cond.selects RX11 yX11_isOne yX11_isOne, Cond.initialized RX11, Cond.code yX11_isOne cX11_isOne 2 (some .boolean), Cond.methodLink RX11 52 yX11_many, Cond.instanceMethod yX11_many, Cond.selects RX11 yX11_many yX11_many, Cond.code yX11_many cX11_many 1 (some .int), Cond.fieldLink RX11 7 "EggSpoonsModel" "all" "[I", Cond.methodLink RX11 56 yX11_in, Cond.static yX11_in, Cond.code yX11_in cX11_in 6 (some .boolean), Cond.methodLink RX11 171 yX11_kindsOfEgg, Cond.instanceMethod yX11_kindsOfEgg, Cond.selects RX11 yX11_kindsOfEgg yX11_kindsOfEgg, Cond.code yX11_kindsOfEgg cX11_kindsOfEgg 7 (some .int), Cond.methodLink RX11 94 yX11_mayAs, Cond.static yX11_mayAs, Cond.code yX11_mayAs cX11_mayAs 3 (some .int), Cond.methodLink RX11 68 yX11_bad, Cond.instanceMethod yX11_bad, Cond.selects RX11 yX11_bad yX11_bad, Cond.code yX11_bad cX11_bad 2 (some .int)]
def wsX11_kinds_r2 : List Cond := [Cond.fieldLink RX11 20 "EggSpoonsModel" "refused" "[I"]
def wsX11_kinds : List Cond := .code yX11_kinds cX11_kinds 2 (some .int) :: ((wsX11_kinds_r1 ++ wsX11_kinds_r2) ++ wsX110)
def wsX11_ask_r1 : List Cond := [Cond.constant RX11 150 (1000000), Cond.fieldLink RX11 33 "EggSpoonsModel" "tells" "[I", Cond.methodLink RX11 123 yX11_isOne, Cond.instanceMethod yX11_isOne, Cond.selects RX11 yX11_isOne yX11_isOne, Cond.initialized RX11, Cond.code yX11_isOne cX11_isOne 2 (some .boolean), Cond.methodLink RX11 52 yX11_many, Cond.instanceMethod yX11_many, Cond.selects RX11 yX11_many yX11_many, Cond.code yX11_many cX11_many 1 (some .int), Cond.fieldLink RX11 7 "EggSpoonsModel" "all" "[I", Cond.methodLink RX11 56 yX11_in, Cond.static yX11_in, Cond.code yX11_in cX11_in 6 (some .boolean), Cond.methodLink RX11 68 yX11_bad, Cond.instanceMethod yX11_bad, Cond.selects RX11 yX11_bad yX11_bad, Cond.code yX11_bad cX11_bad 2 (some .int), Cond.fieldLink RX11 20 "EggSpoonsModel" "refused" "[I", Cond.methodLink RX11 171 yX11_kindsOfEgg, Cond.instanceMethod yX11_kindsOfEgg, Cond.selects RX11 yX11_kindsOfEgg yX11_kindsOfEgg, Cond.code yX11_kindsOfEgg cX11_kindsOfEgg 7 (some .int)]
def wsX11_ask_r2 : List Cond := [Cond.methodLink RX11 94 yX11_mayAs, Cond.static yX11_mayAs, Cond.code yX11_mayAs cX11_mayAs 3 (some .int), Cond.methodLink RX11 165 yX11_mostAlike, Cond.instanceMethod yX11_mostAlike, Cond.selects RX11 yX11_mostAlike yX11_mostAlike, Cond.code yX11_mostAlike cX11_mostAlike 6 (some .int), Cond.methodLink RX11 161 yX11_has, Cond.static yX11_has, Cond.code yX11_has cX11_has 2 (some .boolean)]
def wsX11_ask : List Cond := .code yX11_ask cX11_ask 7 (some .int) :: ((wsX11_ask_r1 ++ wsX11_ask_r2) ++ wsX110)
def wsX11_getsBy : List Cond := .code yX11_getsBy cX11_getsBy 4 (some .int) :: ([])
def wsX11_rests : List Cond := .code yX11_rests cX11_rests 9 (some .boolean) :: ([.fieldLink RX11 36 "EggSpoonsModel" "behindBy" "[I", .fieldLink RX11 7 "EggSpoonsModel" "all" "[I", .methodLink RX11 174 yX11_getsBy, .instanceMethod yX11_getsBy, .selects RX11 yX11_getsBy yX11_getsBy, .initialized RX11, .code yX11_getsBy cX11_getsBy 4 (some .int)] ++ wsX110)
def wsX11_pair_r1 : List Cond := [Cond.fieldLink RX11 27 "EggSpoonsModel" "hand" "[I", Cond.fieldLink RX11 36 "EggSpoonsModel" "behindBy" "[I", Cond.methodLink RX11 123 yX11_isOne, Cond.instanceMethod yX11_isOne, Cond.selects RX11 yX11_isOne yX11_isOne, Cond.initialized RX11, Cond.code yX11_isOne cX11_isOne 2 (some .boolean), Cond.methodLink RX11 52 yX11_many, Cond.instanceMethod yX11_many, Cond.selects RX11 yX11_many yX11_many, Cond.code yX11_many cX11_many 1 (some .int), Cond.fieldLink RX11 7 "EggSpoonsModel" "all" "[I", Cond.methodLink RX11 56 yX11_in, Cond.static yX11_in, Cond.code yX11_in cX11_in 6 (some .boolean), Cond.methodLink RX11 68 yX11_bad, Cond.instanceMethod yX11_bad, Cond.selects RX11 yX11_bad yX11_bad, Cond.code yX11_bad cX11_bad 2 (some .int), Cond.fieldLink RX11 20 "EggSpoonsModel" "refused" "[I", Cond.methodLink RX11 137 yX11_layHand, Cond.instanceMethod yX11_layHand, Cond.selects RX11 yX11_layHand yX11_layHand, Cond.code yX11_layHand cX11_layHand 2 none]
def wsX11_pair_r2 : List Cond := [Cond.methodLink RX11 140 yX11_goAhead, Cond.instanceMethod yX11_goAhead, Cond.selects RX11 yX11_goAhead yX11_goAhead, Cond.code yX11_goAhead cX11_goAhead 3 none, Cond.methodLink RX11 109 yX11_goTick, Cond.static yX11_goTick, Cond.code yX11_goTick cX11_goTick 2 none, Cond.methodLink RX11 101 yX11_isHome, Cond.static yX11_isHome, Cond.code yX11_isHome cX11_isHome 2 (some .boolean), Cond.methodLink RX11 105 yX11_goOne, Cond.static yX11_goOne, Cond.code yX11_goOne cX11_goOne 5 none, Cond.methodLink RX11 90 yX11_runsOf, Cond.static yX11_runsOf, Cond.code yX11_runsOf cX11_runsOf 3 (some .int), Cond.methodLink RX11 86 yX11_runsAs, Cond.static yX11_runsAs, Cond.code yX11_runsAs cX11_runsAs 7 (some .int), Cond.methodLink RX11 94 yX11_mayAs, Cond.static yX11_mayAs, Cond.code yX11_mayAs cX11_mayAs 3 (some .int), Cond.methodLink RX11 98 yX11_drop, Cond.static yX11_drop]
def wsX11_pair_r3 : List Cond := [Cond.code yX11_drop cX11_drop 2 none, Cond.methodLink RX11 178 yX11_rests, Cond.instanceMethod yX11_rests, Cond.selects RX11 yX11_rests yX11_rests, Cond.code yX11_rests cX11_rests 9 (some .boolean), Cond.methodLink RX11 174 yX11_getsBy, Cond.instanceMethod yX11_getsBy, Cond.selects RX11 yX11_getsBy yX11_getsBy, Cond.code yX11_getsBy cX11_getsBy 4 (some .int)]
def wsX11_pair : List Cond := .code yX11_pair cX11_pair 6 (some .int) :: ((wsX11_pair_r1 ++ (wsX11_pair_r2 ++ wsX11_pair_r3)) ++ wsX110)
def wsX11_fraction : List Cond := .code yX11_fraction cX11_fraction 11 none :: ([.fieldLink RX11 182 "EggSpoonsModel" "above" "J", .fieldLink RX11 23 "EggSpoonsModel" "below" "J"] ++ wsX110)
def wsX11_stumble_r1 : List Cond := [Cond.constantLong RX11 66 (60), Cond.constantLong RX11 185 (6), Cond.constantLong RX11 64 (10), Cond.fieldLink RX11 27 "EggSpoonsModel" "hand" "[I", Cond.methodLink RX11 123 yX11_isOne, Cond.instanceMethod yX11_isOne, Cond.selects RX11 yX11_isOne yX11_isOne, Cond.initialized RX11, Cond.code yX11_isOne cX11_isOne 2 (some .boolean), Cond.methodLink RX11 52 yX11_many, Cond.instanceMethod yX11_many, Cond.selects RX11 yX11_many yX11_many, Cond.code yX11_many cX11_many 1 (some .int), Cond.fieldLink RX11 7 "EggSpoonsModel" "all" "[I", Cond.methodLink RX11 56 yX11_in, Cond.static yX11_in, Cond.code yX11_in cX11_in 6 (some .boolean), Cond.methodLink RX11 68 yX11_bad, Cond.instanceMethod yX11_bad, Cond.selects RX11 yX11_bad yX11_bad, Cond.code yX11_bad cX11_bad 2 (some .int), Cond.fieldLink RX11 20 "EggSpoonsModel" "refused" "[I", Cond.methodLink RX11 137 yX11_layHand, Cond.instanceMethod yX11_layHand]
def wsX11_stumble_r2 : List Cond := [Cond.selects RX11 yX11_layHand yX11_layHand, Cond.code yX11_layHand cX11_layHand 2 none, Cond.methodLink RX11 161 yX11_has, Cond.static yX11_has, Cond.code yX11_has cX11_has 2 (some .boolean), Cond.methodLink RX11 101 yX11_isHome, Cond.static yX11_isHome, Cond.code yX11_isHome cX11_isHome 2 (some .boolean), Cond.methodLink RX11 105 yX11_goOne, Cond.static yX11_goOne, Cond.code yX11_goOne cX11_goOne 5 none, Cond.methodLink RX11 90 yX11_runsOf, Cond.static yX11_runsOf, Cond.code yX11_runsOf cX11_runsOf 3 (some .int), Cond.methodLink RX11 86 yX11_runsAs, Cond.static yX11_runsAs, Cond.code yX11_runsAs cX11_runsAs 7 (some .int), Cond.methodLink RX11 94 yX11_mayAs, Cond.static yX11_mayAs, Cond.code yX11_mayAs cX11_mayAs 3 (some .int), Cond.methodLink RX11 98 yX11_drop, Cond.static yX11_drop, Cond.code yX11_drop cX11_drop 2 none, Cond.methodLink RX11 187 yX11_fraction]
def wsX11_stumble_r3 : List Cond := [Cond.instanceMethod yX11_fraction, Cond.selects RX11 yX11_fraction yX11_fraction, Cond.code yX11_fraction cX11_fraction 11 none, Cond.fieldLink RX11 182 "EggSpoonsModel" "above" "J", Cond.fieldLink RX11 23 "EggSpoonsModel" "below" "J"]
def wsX11_stumble : List Cond := .code yX11_stumble cX11_stumble 13 (some .int) :: ((wsX11_stumble_r1 ++ (wsX11_stumble_r2 ++ wsX11_stumble_r3)) ++ wsX110)
def wsX11_races_r1 : List Cond := [Cond.constantLong RX11 191 (999999), Cond.constantLong RX11 66 (60), Cond.constantLong RX11 193 (1103515245), Cond.constantLong RX11 195 (12345), Cond.constantLong RX11 197 (2147483648), Cond.constantLong RX11 199 (65536), Cond.constantLong RX11 185 (6), Cond.fieldLink RX11 27 "EggSpoonsModel" "hand" "[I", Cond.constantLong RX11 201 (1048576), Cond.constantLong RX11 64 (10), Cond.methodLink RX11 56 yX11_in, Cond.static yX11_in, Cond.initialized RX11, Cond.code yX11_in cX11_in 6 (some .boolean), Cond.methodLink RX11 68 yX11_bad, Cond.instanceMethod yX11_bad, Cond.selects RX11 yX11_bad yX11_bad, Cond.code yX11_bad cX11_bad 2 (some .int), Cond.fieldLink RX11 20 "EggSpoonsModel" "refused" "[I", Cond.methodLink RX11 137 yX11_layHand, Cond.instanceMethod yX11_layHand, Cond.selects RX11 yX11_layHand yX11_layHand, Cond.code yX11_layHand cX11_layHand 2 none, Cond.fieldLink RX11 7 "EggSpoonsModel" "all" "[I"]
def wsX11_races_r2 : List Cond := [Cond.methodLink RX11 123 yX11_isOne, Cond.instanceMethod yX11_isOne, Cond.selects RX11 yX11_isOne yX11_isOne, Cond.code yX11_isOne cX11_isOne 2 (some .boolean), Cond.methodLink RX11 52 yX11_many, Cond.instanceMethod yX11_many, Cond.selects RX11 yX11_many yX11_many, Cond.code yX11_many cX11_many 1 (some .int), Cond.methodLink RX11 109 yX11_goTick, Cond.static yX11_goTick, Cond.code yX11_goTick cX11_goTick 2 none, Cond.methodLink RX11 101 yX11_isHome, Cond.static yX11_isHome, Cond.code yX11_isHome cX11_isHome 2 (some .boolean), Cond.methodLink RX11 105 yX11_goOne, Cond.static yX11_goOne, Cond.code yX11_goOne cX11_goOne 5 none, Cond.methodLink RX11 90 yX11_runsOf, Cond.static yX11_runsOf, Cond.code yX11_runsOf cX11_runsOf 3 (some .int), Cond.methodLink RX11 86 yX11_runsAs, Cond.static yX11_runsAs, Cond.code yX11_runsAs cX11_runsAs 7 (some .int), Cond.methodLink RX11 94 yX11_mayAs]
def wsX11_races_r3 : List Cond := [Cond.static yX11_mayAs, Cond.code yX11_mayAs cX11_mayAs 3 (some .int), Cond.methodLink RX11 98 yX11_drop, Cond.static yX11_drop, Cond.code yX11_drop cX11_drop 2 none, Cond.methodLink RX11 119 yX11_manyHome, Cond.static yX11_manyHome, Cond.code yX11_manyHome cX11_manyHome 3 (some .int)]
def wsX11_races : List Cond := .code yX11_races cX11_races 7 (some .int) :: ((wsX11_races_r1 ++ (wsX11_races_r2 ++ wsX11_races_r3)) ++ wsX110)
def wsX11_type : List Cond := .code yX11_type cX11_type 2 (some .int) :: ([.constantLong RX11 203 (127), .fieldLink RX11 205 "EggSpoonsModel" "bytesLong" "I", .fieldLink RX11 39 "EggSpoonsModel" "bytes" "[I", .methodLink RX11 56 yX11_in, .static yX11_in, .initialized RX11, .code yX11_in cX11_in 6 (some .boolean), .methodLink RX11 68 yX11_bad, .instanceMethod yX11_bad, .selects RX11 yX11_bad yX11_bad, .code yX11_bad cX11_bad 2 (some .int), .fieldLink RX11 20 "EggSpoonsModel" "refused" "[I", .methodLink RX11 79 yX11_full, .instanceMethod yX11_full, .selects RX11 yX11_full yX11_full, .code yX11_full cX11_full 1 (some .int)] ++ wsX110)
def wsX11_clear : List Cond := .code yX11_clear cX11_clear 2 (some .int) :: ([.fieldLink RX11 205 "EggSpoonsModel" "bytesLong" "I"] ++ wsX110)
def wsX11_isSmall : List Cond := .code yX11_isSmall cX11_isSmall 1 (some .boolean) :: ([.constantLong RX11 209 (97), .constantLong RX11 211 (122), .methodLink RX11 56 yX11_in, .static yX11_in, .initialized RX11, .code yX11_in cX11_in 6 (some .boolean)])
def wsX11_isFigure : List Cond := .code yX11_isFigure cX11_isFigure 1 (some .boolean) :: ([.constantLong RX11 213 (48), .constantLong RX11 215 (57), .methodLink RX11 56 yX11_in, .static yX11_in, .initialized RX11, .code yX11_in cX11_in 6 (some .boolean)])
def wsX11_lookAt : List Cond := .code yX11_lookAt cX11_lookAt 5 none :: ([.fieldLink RX11 217 "EggSpoonsModel" "tokenAt" "I", .fieldLink RX11 205 "EggSpoonsModel" "bytesLong" "I", .fieldLink RX11 39 "EggSpoonsModel" "bytes" "[I", .fieldLink RX11 220 "EggSpoonsModel" "tokenLong" "I", .fieldLink RX11 223 "EggSpoonsModel" "token" "I", .fieldLink RX11 226 "EggSpoonsModel" "value" "I", .methodLink RX11 229 yX11_isSmall, .static yX11_isSmall, .initialized RX11, .code yX11_isSmall cX11_isSmall 1 (some .boolean), .constantLong RX11 209 (97), .constantLong RX11 211 (122), .methodLink RX11 56 yX11_in, .static yX11_in, .code yX11_in cX11_in 6 (some .boolean), .methodLink RX11 232 yX11_isFigure, .static yX11_isFigure, .code yX11_isFigure cX11_isFigure 1 (some .boolean), .constantLong RX11 213 (48), .constantLong RX11 215 (57)] ++ wsX110)
def wsX11_goBehind : List Cond := .code yX11_goBehind cX11_goBehind 1 none :: ([.fieldLink RX11 217 "EggSpoonsModel" "tokenAt" "I", .fieldLink RX11 220 "EggSpoonsModel" "tokenLong" "I", .methodLink RX11 235 yX11_lookAt, .instanceMethod yX11_lookAt, .selects RX11 yX11_lookAt yX11_lookAt, .initialized RX11, .code yX11_lookAt cX11_lookAt 5 none, .fieldLink RX11 205 "EggSpoonsModel" "bytesLong" "I", .fieldLink RX11 39 "EggSpoonsModel" "bytes" "[I", .fieldLink RX11 223 "EggSpoonsModel" "token" "I", .fieldLink RX11 226 "EggSpoonsModel" "value" "I", .methodLink RX11 229 yX11_isSmall, .static yX11_isSmall, .code yX11_isSmall cX11_isSmall 1 (some .boolean), .constantLong RX11 209 (97), .constantLong RX11 211 (122), .methodLink RX11 56 yX11_in, .static yX11_in, .code yX11_in cX11_in 6 (some .boolean), .methodLink RX11 232 yX11_isFigure, .static yX11_isFigure, .code yX11_isFigure cX11_isFigure 1 (some .boolean), .constantLong RX11 213 (48), .constantLong RX11 215 (57)] ++ wsX110)
def wsX11_spells : List Cond := .code yX11_spells cX11_spells 10 (some .boolean) :: ([.fieldLink RX11 223 "EggSpoonsModel" "token" "I", .fieldLink RX11 220 "EggSpoonsModel" "tokenLong" "I", .fieldLink RX11 39 "EggSpoonsModel" "bytes" "[I", .fieldLink RX11 217 "EggSpoonsModel" "tokenAt" "I"] ++ wsX110)
def wsX11_takes_r1 : List Cond := [Cond.fieldLink RX11 223 "EggSpoonsModel" "token" "I", Cond.fieldLink RX11 226 "EggSpoonsModel" "value" "I", Cond.fieldLink RX11 45 "EggSpoonsModel" "values" "[I", Cond.methodLink RX11 56 yX11_in, Cond.static yX11_in, Cond.initialized RX11, Cond.code yX11_in cX11_in 6 (some .boolean), Cond.methodLink RX11 238 yX11_goBehind, Cond.instanceMethod yX11_goBehind, Cond.selects RX11 yX11_goBehind yX11_goBehind, Cond.code yX11_goBehind cX11_goBehind 1 none, Cond.fieldLink RX11 217 "EggSpoonsModel" "tokenAt" "I", Cond.fieldLink RX11 220 "EggSpoonsModel" "tokenLong" "I", Cond.methodLink RX11 235 yX11_lookAt, Cond.instanceMethod yX11_lookAt, Cond.selects RX11 yX11_lookAt yX11_lookAt, Cond.code yX11_lookAt cX11_lookAt 5 none, Cond.fieldLink RX11 205 "EggSpoonsModel" "bytesLong" "I", Cond.fieldLink RX11 39 "EggSpoonsModel" "bytes" "[I", Cond.methodLink RX11 229 yX11_isSmall, Cond.static yX11_isSmall, Cond.code yX11_isSmall cX11_isSmall 1 (some .boolean), Cond.constantLong RX11 209 (97), Cond.constantLong RX11 211 (122)]
def wsX11_takes_r2 : List Cond := [Cond.methodLink RX11 232 yX11_isFigure, Cond.static yX11_isFigure, Cond.code yX11_isFigure cX11_isFigure 1 (some .boolean), Cond.constantLong RX11 213 (48), Cond.constantLong RX11 215 (57)]
def wsX11_takes : List Cond := .code yX11_takes cX11_takes 4 (some .boolean) :: ((wsX11_takes_r1 ++ wsX11_takes_r2) ++ wsX110)
def wsX11_takesOne_r1 : List Cond := [Cond.fieldLink RX11 42 "EggSpoonsModel" "anew" "[I", Cond.fieldLink RX11 45 "EggSpoonsModel" "values" "[I", Cond.methodLink RX11 238 yX11_goBehind, Cond.instanceMethod yX11_goBehind, Cond.selects RX11 yX11_goBehind yX11_goBehind, Cond.initialized RX11, Cond.code yX11_goBehind cX11_goBehind 1 none, Cond.fieldLink RX11 217 "EggSpoonsModel" "tokenAt" "I", Cond.fieldLink RX11 220 "EggSpoonsModel" "tokenLong" "I", Cond.methodLink RX11 235 yX11_lookAt, Cond.instanceMethod yX11_lookAt, Cond.selects RX11 yX11_lookAt yX11_lookAt, Cond.code yX11_lookAt cX11_lookAt 5 none, Cond.fieldLink RX11 205 "EggSpoonsModel" "bytesLong" "I", Cond.fieldLink RX11 39 "EggSpoonsModel" "bytes" "[I", Cond.fieldLink RX11 223 "EggSpoonsModel" "token" "I", Cond.fieldLink RX11 226 "EggSpoonsModel" "value" "I", Cond.methodLink RX11 229 yX11_isSmall, Cond.static yX11_isSmall, Cond.code yX11_isSmall cX11_isSmall 1 (some .boolean), Cond.constantLong RX11 209 (97), Cond.constantLong RX11 211 (122), Cond.methodLink RX11 56 yX11_in, Cond.static yX11_in]
def wsX11_takesOne_r2 : List Cond := [Cond.code yX11_in cX11_in 6 (some .boolean), Cond.methodLink RX11 232 yX11_isFigure, Cond.static yX11_isFigure, Cond.code yX11_isFigure cX11_isFigure 1 (some .boolean), Cond.constantLong RX11 213 (48), Cond.constantLong RX11 215 (57), Cond.methodLink RX11 241 yX11_takes, Cond.instanceMethod yX11_takes, Cond.selects RX11 yX11_takes yX11_takes, Cond.code yX11_takes cX11_takes 4 (some .boolean), Cond.methodLink RX11 82 yX11_layOne, Cond.static yX11_layOne, Cond.code yX11_layOne cX11_layOne 5 none]
def wsX11_takesOne : List Cond := .code yX11_takesOne cX11_takesOne 1 (some .boolean) :: ((wsX11_takesOne_r1 ++ wsX11_takesOne_r2) ++ wsX110)
def wsX11_takesSpeed_r1 : List Cond := [Cond.fieldLink RX11 42 "EggSpoonsModel" "anew" "[I", Cond.fieldLink RX11 45 "EggSpoonsModel" "values" "[I", Cond.methodLink RX11 238 yX11_goBehind, Cond.instanceMethod yX11_goBehind, Cond.selects RX11 yX11_goBehind yX11_goBehind, Cond.initialized RX11, Cond.code yX11_goBehind cX11_goBehind 1 none, Cond.fieldLink RX11 217 "EggSpoonsModel" "tokenAt" "I", Cond.fieldLink RX11 220 "EggSpoonsModel" "tokenLong" "I", Cond.methodLink RX11 235 yX11_lookAt, Cond.instanceMethod yX11_lookAt, Cond.selects RX11 yX11_lookAt yX11_lookAt, Cond.code yX11_lookAt cX11_lookAt 5 none, Cond.fieldLink RX11 205 "EggSpoonsModel" "bytesLong" "I", Cond.fieldLink RX11 39 "EggSpoonsModel" "bytes" "[I", Cond.fieldLink RX11 223 "EggSpoonsModel" "token" "I", Cond.fieldLink RX11 226 "EggSpoonsModel" "value" "I", Cond.methodLink RX11 229 yX11_isSmall, Cond.static yX11_isSmall, Cond.code yX11_isSmall cX11_isSmall 1 (some .boolean), Cond.constantLong RX11 209 (97), Cond.constantLong RX11 211 (122), Cond.methodLink RX11 56 yX11_in, Cond.static yX11_in]
def wsX11_takesSpeed_r2 : List Cond := [Cond.code yX11_in cX11_in 6 (some .boolean), Cond.methodLink RX11 232 yX11_isFigure, Cond.static yX11_isFigure, Cond.code yX11_isFigure cX11_isFigure 1 (some .boolean), Cond.constantLong RX11 213 (48), Cond.constantLong RX11 215 (57), Cond.methodLink RX11 241 yX11_takes, Cond.instanceMethod yX11_takes, Cond.selects RX11 yX11_takes yX11_takes, Cond.code yX11_takes cX11_takes 4 (some .boolean)]
def wsX11_takesSpeed : List Cond := .code yX11_takesSpeed cX11_takesSpeed 1 (some .boolean) :: ((wsX11_takesSpeed_r1 ++ wsX11_takesSpeed_r2) ++ wsX110)
def wsX11_takesStart_r1 : List Cond := [Cond.fieldLink RX11 223 "EggSpoonsModel" "token" "I", Cond.fieldLink RX11 226 "EggSpoonsModel" "value" "I", Cond.fieldLink RX11 42 "EggSpoonsModel" "anew" "[I", Cond.fieldLink RX11 45 "EggSpoonsModel" "values" "[I", Cond.methodLink RX11 238 yX11_goBehind, Cond.instanceMethod yX11_goBehind, Cond.selects RX11 yX11_goBehind yX11_goBehind, Cond.initialized RX11, Cond.code yX11_goBehind cX11_goBehind 1 none, Cond.fieldLink RX11 217 "EggSpoonsModel" "tokenAt" "I", Cond.fieldLink RX11 220 "EggSpoonsModel" "tokenLong" "I", Cond.methodLink RX11 235 yX11_lookAt, Cond.instanceMethod yX11_lookAt, Cond.selects RX11 yX11_lookAt yX11_lookAt, Cond.code yX11_lookAt cX11_lookAt 5 none, Cond.fieldLink RX11 205 "EggSpoonsModel" "bytesLong" "I", Cond.fieldLink RX11 39 "EggSpoonsModel" "bytes" "[I", Cond.methodLink RX11 229 yX11_isSmall, Cond.static yX11_isSmall, Cond.code yX11_isSmall cX11_isSmall 1 (some .boolean), Cond.constantLong RX11 209 (97), Cond.constantLong RX11 211 (122), Cond.methodLink RX11 56 yX11_in, Cond.static yX11_in]
def wsX11_takesStart_r2 : List Cond := [Cond.code yX11_in cX11_in 6 (some .boolean), Cond.methodLink RX11 232 yX11_isFigure, Cond.static yX11_isFigure, Cond.code yX11_isFigure cX11_isFigure 1 (some .boolean), Cond.constantLong RX11 213 (48), Cond.constantLong RX11 215 (57), Cond.methodLink RX11 101 yX11_isHome, Cond.static yX11_isHome, Cond.code yX11_isHome cX11_isHome 2 (some .boolean), Cond.methodLink RX11 241 yX11_takes, Cond.instanceMethod yX11_takes, Cond.selects RX11 yX11_takes yX11_takes, Cond.code yX11_takes cX11_takes 4 (some .boolean)]
def wsX11_takesStart : List Cond := .code yX11_takesStart cX11_takesStart 2 (some .boolean) :: ((wsX11_takesStart_r1 ++ wsX11_takesStart_r2) ++ wsX110)
def wsX11_takesGo_r1 : List Cond := [Cond.fieldLink RX11 42 "EggSpoonsModel" "anew" "[I", Cond.fieldLink RX11 45 "EggSpoonsModel" "values" "[I", Cond.methodLink RX11 238 yX11_goBehind, Cond.instanceMethod yX11_goBehind, Cond.selects RX11 yX11_goBehind yX11_goBehind, Cond.initialized RX11, Cond.code yX11_goBehind cX11_goBehind 1 none, Cond.fieldLink RX11 217 "EggSpoonsModel" "tokenAt" "I", Cond.fieldLink RX11 220 "EggSpoonsModel" "tokenLong" "I", Cond.methodLink RX11 235 yX11_lookAt, Cond.instanceMethod yX11_lookAt, Cond.selects RX11 yX11_lookAt yX11_lookAt, Cond.code yX11_lookAt cX11_lookAt 5 none, Cond.fieldLink RX11 205 "EggSpoonsModel" "bytesLong" "I", Cond.fieldLink RX11 39 "EggSpoonsModel" "bytes" "[I", Cond.fieldLink RX11 223 "EggSpoonsModel" "token" "I", Cond.fieldLink RX11 226 "EggSpoonsModel" "value" "I", Cond.methodLink RX11 229 yX11_isSmall, Cond.static yX11_isSmall, Cond.code yX11_isSmall cX11_isSmall 1 (some .boolean), Cond.constantLong RX11 209 (97), Cond.constantLong RX11 211 (122), Cond.methodLink RX11 56 yX11_in, Cond.static yX11_in]
def wsX11_takesGo_r2 : List Cond := [Cond.code yX11_in cX11_in 6 (some .boolean), Cond.methodLink RX11 232 yX11_isFigure, Cond.static yX11_isFigure, Cond.code yX11_isFigure cX11_isFigure 1 (some .boolean), Cond.constantLong RX11 213 (48), Cond.constantLong RX11 215 (57), Cond.methodLink RX11 241 yX11_takes, Cond.instanceMethod yX11_takes, Cond.selects RX11 yX11_takes yX11_takes, Cond.code yX11_takes cX11_takes 4 (some .boolean), Cond.methodLink RX11 116 yX11_goTicks, Cond.static yX11_goTicks, Cond.code yX11_goTicks cX11_goTicks 3 none, Cond.methodLink RX11 109 yX11_goTick, Cond.static yX11_goTick, Cond.code yX11_goTick cX11_goTick 2 none, Cond.methodLink RX11 101 yX11_isHome, Cond.static yX11_isHome, Cond.code yX11_isHome cX11_isHome 2 (some .boolean), Cond.methodLink RX11 105 yX11_goOne, Cond.static yX11_goOne, Cond.code yX11_goOne cX11_goOne 5 none, Cond.methodLink RX11 90 yX11_runsOf, Cond.static yX11_runsOf]
def wsX11_takesGo_r3 : List Cond := [Cond.code yX11_runsOf cX11_runsOf 3 (some .int), Cond.methodLink RX11 86 yX11_runsAs, Cond.static yX11_runsAs, Cond.code yX11_runsAs cX11_runsAs 7 (some .int), Cond.methodLink RX11 94 yX11_mayAs, Cond.static yX11_mayAs, Cond.code yX11_mayAs cX11_mayAs 3 (some .int), Cond.methodLink RX11 98 yX11_drop, Cond.static yX11_drop, Cond.code yX11_drop cX11_drop 2 none]
def wsX11_takesGo : List Cond := .code yX11_takesGo cX11_takesGo 1 (some .boolean) :: ((wsX11_takesGo_r1 ++ (wsX11_takesGo_r2 ++ wsX11_takesGo_r3)) ++ wsX110)
def wsX11_takesItem_r1 : List Cond := [Cond.methodLink RX11 245 yX11_spells, Cond.instanceMethod yX11_spells, Cond.selects RX11 yX11_spells yX11_spells, Cond.initialized RX11, Cond.code yX11_spells cX11_spells 10 (some .boolean), Cond.fieldLink RX11 223 "EggSpoonsModel" "token" "I", Cond.fieldLink RX11 220 "EggSpoonsModel" "tokenLong" "I", Cond.fieldLink RX11 39 "EggSpoonsModel" "bytes" "[I", Cond.fieldLink RX11 217 "EggSpoonsModel" "tokenAt" "I", Cond.methodLink RX11 249 yX11_takesOne, Cond.instanceMethod yX11_takesOne, Cond.selects RX11 yX11_takesOne yX11_takesOne, Cond.code yX11_takesOne cX11_takesOne 1 (some .boolean), Cond.fieldLink RX11 42 "EggSpoonsModel" "anew" "[I", Cond.fieldLink RX11 45 "EggSpoonsModel" "values" "[I", Cond.methodLink RX11 238 yX11_goBehind, Cond.instanceMethod yX11_goBehind, Cond.selects RX11 yX11_goBehind yX11_goBehind, Cond.code yX11_goBehind cX11_goBehind 1 none, Cond.methodLink RX11 235 yX11_lookAt, Cond.instanceMethod yX11_lookAt, Cond.selects RX11 yX11_lookAt yX11_lookAt, Cond.code yX11_lookAt cX11_lookAt 5 none, Cond.fieldLink RX11 205 "EggSpoonsModel" "bytesLong" "I"]
def wsX11_takesItem_r2 : List Cond := [Cond.fieldLink RX11 226 "EggSpoonsModel" "value" "I", Cond.methodLink RX11 229 yX11_isSmall, Cond.static yX11_isSmall, Cond.code yX11_isSmall cX11_isSmall 1 (some .boolean), Cond.constantLong RX11 209 (97), Cond.constantLong RX11 211 (122), Cond.methodLink RX11 56 yX11_in, Cond.static yX11_in, Cond.code yX11_in cX11_in 6 (some .boolean), Cond.methodLink RX11 232 yX11_isFigure, Cond.static yX11_isFigure, Cond.code yX11_isFigure cX11_isFigure 1 (some .boolean), Cond.constantLong RX11 213 (48), Cond.constantLong RX11 215 (57), Cond.methodLink RX11 241 yX11_takes, Cond.instanceMethod yX11_takes, Cond.selects RX11 yX11_takes yX11_takes, Cond.code yX11_takes cX11_takes 4 (some .boolean), Cond.methodLink RX11 82 yX11_layOne, Cond.static yX11_layOne, Cond.code yX11_layOne cX11_layOne 5 none, Cond.methodLink RX11 253 yX11_takesSpeed, Cond.instanceMethod yX11_takesSpeed, Cond.selects RX11 yX11_takesSpeed yX11_takesSpeed]
def wsX11_takesItem_r3 : List Cond := [Cond.code yX11_takesSpeed cX11_takesSpeed 1 (some .boolean), Cond.methodLink RX11 256 yX11_takesStart, Cond.instanceMethod yX11_takesStart, Cond.selects RX11 yX11_takesStart yX11_takesStart, Cond.code yX11_takesStart cX11_takesStart 2 (some .boolean), Cond.methodLink RX11 101 yX11_isHome, Cond.static yX11_isHome, Cond.code yX11_isHome cX11_isHome 2 (some .boolean), Cond.methodLink RX11 259 yX11_takesGo, Cond.instanceMethod yX11_takesGo, Cond.selects RX11 yX11_takesGo yX11_takesGo, Cond.code yX11_takesGo cX11_takesGo 1 (some .boolean), Cond.methodLink RX11 116 yX11_goTicks, Cond.static yX11_goTicks, Cond.code yX11_goTicks cX11_goTicks 3 none, Cond.methodLink RX11 109 yX11_goTick, Cond.static yX11_goTick, Cond.code yX11_goTick cX11_goTick 2 none, Cond.methodLink RX11 105 yX11_goOne, Cond.static yX11_goOne, Cond.code yX11_goOne cX11_goOne 5 none, Cond.methodLink RX11 90 yX11_runsOf, Cond.static yX11_runsOf, Cond.code yX11_runsOf cX11_runsOf 3 (some .int)]
def wsX11_takesItem_r4 : List Cond := [Cond.methodLink RX11 86 yX11_runsAs, Cond.static yX11_runsAs, Cond.code yX11_runsAs cX11_runsAs 7 (some .int), Cond.methodLink RX11 94 yX11_mayAs, Cond.static yX11_mayAs, Cond.code yX11_mayAs cX11_mayAs 3 (some .int), Cond.methodLink RX11 98 yX11_drop, Cond.static yX11_drop, Cond.code yX11_drop cX11_drop 2 none]
def wsX11_takesItem : List Cond := .code yX11_takesItem cX11_takesItem 1 (some .boolean) :: ((wsX11_takesItem_r1 ++ (wsX11_takesItem_r2 ++ (wsX11_takesItem_r3 ++ wsX11_takesItem_r4))) ++ wsX110)
def wsX11_read_r1 : List Cond := [Cond.fieldLink RX11 217 "EggSpoonsModel" "tokenAt" "I", Cond.fieldLink RX11 223 "EggSpoonsModel" "token" "I", Cond.fieldLink RX11 42 "EggSpoonsModel" "anew" "[I", Cond.fieldLink RX11 45 "EggSpoonsModel" "values" "[I", Cond.fieldLink RX11 7 "EggSpoonsModel" "all" "[I", Cond.methodLink RX11 235 yX11_lookAt, Cond.instanceMethod yX11_lookAt, Cond.selects RX11 yX11_lookAt yX11_lookAt, Cond.initialized RX11, Cond.code yX11_lookAt cX11_lookAt 5 none, Cond.fieldLink RX11 205 "EggSpoonsModel" "bytesLong" "I", Cond.fieldLink RX11 39 "EggSpoonsModel" "bytes" "[I", Cond.fieldLink RX11 220 "EggSpoonsModel" "tokenLong" "I", Cond.fieldLink RX11 226 "EggSpoonsModel" "value" "I", Cond.methodLink RX11 229 yX11_isSmall, Cond.static yX11_isSmall, Cond.code yX11_isSmall cX11_isSmall 1 (some .boolean), Cond.constantLong RX11 209 (97), Cond.constantLong RX11 211 (122), Cond.methodLink RX11 56 yX11_in, Cond.static yX11_in, Cond.code yX11_in cX11_in 6 (some .boolean), Cond.methodLink RX11 232 yX11_isFigure, Cond.static yX11_isFigure]
def wsX11_read_r2 : List Cond := [Cond.code yX11_isFigure cX11_isFigure 1 (some .boolean), Cond.constantLong RX11 213 (48), Cond.constantLong RX11 215 (57), Cond.methodLink RX11 245 yX11_spells, Cond.instanceMethod yX11_spells, Cond.selects RX11 yX11_spells yX11_spells, Cond.code yX11_spells cX11_spells 10 (some .boolean), Cond.methodLink RX11 238 yX11_goBehind, Cond.instanceMethod yX11_goBehind, Cond.selects RX11 yX11_goBehind yX11_goBehind, Cond.code yX11_goBehind cX11_goBehind 1 none, Cond.methodLink RX11 241 yX11_takes, Cond.instanceMethod yX11_takes, Cond.selects RX11 yX11_takes yX11_takes, Cond.code yX11_takes cX11_takes 4 (some .boolean), Cond.methodLink RX11 48 yX11_begin, Cond.static yX11_begin, Cond.code yX11_begin cX11_begin 3 none, Cond.methodLink RX11 262 yX11_takesItem, Cond.instanceMethod yX11_takesItem, Cond.selects RX11 yX11_takesItem yX11_takesItem, Cond.code yX11_takesItem cX11_takesItem 1 (some .boolean), Cond.methodLink RX11 249 yX11_takesOne, Cond.instanceMethod yX11_takesOne]
def wsX11_read_r3 : List Cond := [Cond.selects RX11 yX11_takesOne yX11_takesOne, Cond.code yX11_takesOne cX11_takesOne 1 (some .boolean), Cond.methodLink RX11 82 yX11_layOne, Cond.static yX11_layOne, Cond.code yX11_layOne cX11_layOne 5 none, Cond.methodLink RX11 253 yX11_takesSpeed, Cond.instanceMethod yX11_takesSpeed, Cond.selects RX11 yX11_takesSpeed yX11_takesSpeed, Cond.code yX11_takesSpeed cX11_takesSpeed 1 (some .boolean), Cond.methodLink RX11 256 yX11_takesStart, Cond.instanceMethod yX11_takesStart, Cond.selects RX11 yX11_takesStart yX11_takesStart, Cond.code yX11_takesStart cX11_takesStart 2 (some .boolean), Cond.methodLink RX11 101 yX11_isHome, Cond.static yX11_isHome, Cond.code yX11_isHome cX11_isHome 2 (some .boolean), Cond.methodLink RX11 259 yX11_takesGo, Cond.instanceMethod yX11_takesGo, Cond.selects RX11 yX11_takesGo yX11_takesGo, Cond.code yX11_takesGo cX11_takesGo 1 (some .boolean), Cond.methodLink RX11 116 yX11_goTicks, Cond.static yX11_goTicks, Cond.code yX11_goTicks cX11_goTicks 3 none, Cond.methodLink RX11 109 yX11_goTick]
def wsX11_read_r4 : List Cond := [Cond.static yX11_goTick, Cond.code yX11_goTick cX11_goTick 2 none, Cond.methodLink RX11 105 yX11_goOne, Cond.static yX11_goOne, Cond.code yX11_goOne cX11_goOne 5 none, Cond.methodLink RX11 90 yX11_runsOf, Cond.static yX11_runsOf, Cond.code yX11_runsOf cX11_runsOf 3 (some .int), Cond.methodLink RX11 86 yX11_runsAs, Cond.static yX11_runsAs, Cond.code yX11_runsAs cX11_runsAs 7 (some .int), Cond.methodLink RX11 94 yX11_mayAs, Cond.static yX11_mayAs, Cond.code yX11_mayAs cX11_mayAs 3 (some .int), Cond.methodLink RX11 98 yX11_drop, Cond.static yX11_drop, Cond.code yX11_drop cX11_drop 2 none]
def wsX11_read : List Cond := .code yX11_read cX11_read 3 (some .int) :: ((wsX11_read_r1 ++ (wsX11_read_r2 ++ (wsX11_read_r3 ++ wsX11_read_r4))) ++ wsX110)
def wsX11_part : List Cond := .code yX11_part cX11_part 2 (some .long) :: ([.fieldLink RX11 182 "EggSpoonsModel" "above" "J", .fieldLink RX11 23 "EggSpoonsModel" "below" "J", .methodLink RX11 68 yX11_bad, .instanceMethod yX11_bad, .selects RX11 yX11_bad yX11_bad, .initialized RX11, .code yX11_bad cX11_bad 2 (some .int), .fieldLink RX11 20 "EggSpoonsModel" "refused" "[I"] ++ wsX110)
def wsX11_image : List Cond := .code yX11_image cX11_image 3 (some .int) :: ([.fieldLink RX11 13 "EggSpoonsModel" "kept" "[I", .fieldLink RX11 7 "EggSpoonsModel" "all" "[I", .fieldLink RX11 16 "EggSpoonsModel" "isKept" "[Z", .methodLink RX11 56 yX11_in, .static yX11_in, .initialized RX11, .code yX11_in cX11_in 6 (some .boolean), .methodLink RX11 68 yX11_bad, .instanceMethod yX11_bad, .selects RX11 yX11_bad yX11_bad, .code yX11_bad cX11_bad 2 (some .int), .fieldLink RX11 20 "EggSpoonsModel" "refused" "[I"] ++ wsX110)
def wsX11_from : List Cond := .code yX11_from cX11_from 3 (some .int) :: ([.fieldLink RX11 16 "EggSpoonsModel" "isKept" "[Z", .fieldLink RX11 7 "EggSpoonsModel" "all" "[I", .fieldLink RX11 13 "EggSpoonsModel" "kept" "[I", .methodLink RX11 56 yX11_in, .static yX11_in, .initialized RX11, .code yX11_in cX11_in 6 (some .boolean), .methodLink RX11 68 yX11_bad, .instanceMethod yX11_bad, .selects RX11 yX11_bad yX11_bad, .code yX11_bad cX11_bad 2 (some .int), .fieldLink RX11 20 "EggSpoonsModel" "refused" "[I", .methodLink RX11 129 yX11_no, .instanceMethod yX11_no, .selects RX11 yX11_no yX11_no, .code yX11_no cX11_no 1 (some .int)] ++ wsX110)
def wsX11_status : List Cond := .code yX11_status cX11_status 2 (some .int) :: ([.constantLong RX11 156 (2), .fieldLink RX11 20 "EggSpoonsModel" "refused" "[I", .methodLink RX11 56 yX11_in, .static yX11_in, .initialized RX11, .code yX11_in cX11_in 6 (some .boolean), .methodLink RX11 68 yX11_bad, .instanceMethod yX11_bad, .selects RX11 yX11_bad yX11_bad, .code yX11_bad cX11_bad 2 (some .int)] ++ wsX110)
def wsX11_sumOf : List Cond := .code yX11_sumOf cX11_sumOf 4 (some .int) :: ([.fieldLink RX11 7 "EggSpoonsModel" "all" "[I", .methodLink RX11 52 yX11_many, .instanceMethod yX11_many, .selects RX11 yX11_many yX11_many, .initialized RX11, .code yX11_many cX11_many 1 (some .int)] ++ wsX110)
def wsX11_counted : List Cond := .code yX11_counted cX11_counted 2 (some .int) :: ([.fieldLink RX11 7 "EggSpoonsModel" "all" "[I", .fieldLink RX11 205 "EggSpoonsModel" "bytesLong" "I", .methodLink RX11 52 yX11_many, .instanceMethod yX11_many, .selects RX11 yX11_many yX11_many, .initialized RX11, .code yX11_many cX11_many 1 (some .int), .methodLink RX11 119 yX11_manyHome, .static yX11_manyHome, .code yX11_manyHome cX11_manyHome 3 (some .int), .methodLink RX11 101 yX11_isHome, .static yX11_isHome, .code yX11_isHome cX11_isHome 2 (some .boolean), .methodLink RX11 265 yX11_sumOf, .instanceMethod yX11_sumOf, .selects RX11 yX11_sumOf yX11_sumOf, .code yX11_sumOf cX11_sumOf 4 (some .int)] ++ wsX110)
def wsX11_count_r1 : List Cond := [Cond.constantLong RX11 64 (10), Cond.methodLink RX11 56 yX11_in, Cond.static yX11_in, Cond.initialized RX11, Cond.code yX11_in cX11_in 6 (some .boolean), Cond.methodLink RX11 268 yX11_counted, Cond.instanceMethod yX11_counted, Cond.selects RX11 yX11_counted yX11_counted, Cond.code yX11_counted cX11_counted 2 (some .int), Cond.fieldLink RX11 7 "EggSpoonsModel" "all" "[I", Cond.fieldLink RX11 205 "EggSpoonsModel" "bytesLong" "I", Cond.methodLink RX11 52 yX11_many, Cond.instanceMethod yX11_many, Cond.selects RX11 yX11_many yX11_many, Cond.code yX11_many cX11_many 1 (some .int), Cond.methodLink RX11 119 yX11_manyHome, Cond.static yX11_manyHome, Cond.code yX11_manyHome cX11_manyHome 3 (some .int), Cond.methodLink RX11 101 yX11_isHome, Cond.static yX11_isHome, Cond.code yX11_isHome cX11_isHome 2 (some .boolean), Cond.methodLink RX11 265 yX11_sumOf, Cond.instanceMethod yX11_sumOf, Cond.selects RX11 yX11_sumOf yX11_sumOf]
def wsX11_count_r2 : List Cond := [Cond.code yX11_sumOf cX11_sumOf 4 (some .int), Cond.methodLink RX11 68 yX11_bad, Cond.instanceMethod yX11_bad, Cond.selects RX11 yX11_bad yX11_bad, Cond.code yX11_bad cX11_bad 2 (some .int), Cond.fieldLink RX11 20 "EggSpoonsModel" "refused" "[I"]
def wsX11_count : List Cond := .code yX11_count cX11_count 2 (some .int) :: ((wsX11_count_r1 ++ wsX11_count_r2) ++ wsX110)
def wsX11_sums : List Cond := .code yX11_sums cX11_sums 8 (some .long) :: ([.constantLong RX11 271 (31), .fieldLink RX11 7 "EggSpoonsModel" "all" "[I"] ++ wsX110)
def wsX11_digest_r1 : List Cond := [Cond.constantLong RX11 273 (1789), Cond.constantLong RX11 271 (31), Cond.fieldLink RX11 7 "EggSpoonsModel" "all" "[I", Cond.fieldLink RX11 182 "EggSpoonsModel" "above" "J", Cond.fieldLink RX11 23 "EggSpoonsModel" "below" "J", Cond.methodLink RX11 268 yX11_counted, Cond.instanceMethod yX11_counted, Cond.selects RX11 yX11_counted yX11_counted, Cond.initialized RX11, Cond.code yX11_counted cX11_counted 2 (some .int), Cond.fieldLink RX11 205 "EggSpoonsModel" "bytesLong" "I", Cond.methodLink RX11 52 yX11_many, Cond.instanceMethod yX11_many, Cond.selects RX11 yX11_many yX11_many, Cond.code yX11_many cX11_many 1 (some .int), Cond.methodLink RX11 119 yX11_manyHome, Cond.static yX11_manyHome, Cond.code yX11_manyHome cX11_manyHome 3 (some .int), Cond.methodLink RX11 101 yX11_isHome, Cond.static yX11_isHome, Cond.code yX11_isHome cX11_isHome 2 (some .boolean), Cond.methodLink RX11 265 yX11_sumOf, Cond.instanceMethod yX11_sumOf, Cond.selects RX11 yX11_sumOf yX11_sumOf]
def wsX11_digest_r2 : List Cond := [Cond.code yX11_sumOf cX11_sumOf 4 (some .int), Cond.methodLink RX11 134 yX11_toldOf, Cond.instanceMethod yX11_toldOf, Cond.selects RX11 yX11_toldOf yX11_toldOf, Cond.code yX11_toldOf cX11_toldOf 3 (some .int), Cond.methodLink RX11 90 yX11_runsOf, Cond.static yX11_runsOf, Cond.code yX11_runsOf cX11_runsOf 3 (some .int), Cond.methodLink RX11 86 yX11_runsAs, Cond.static yX11_runsAs, Cond.code yX11_runsAs cX11_runsAs 7 (some .int), Cond.methodLink RX11 94 yX11_mayAs, Cond.static yX11_mayAs, Cond.code yX11_mayAs cX11_mayAs 3 (some .int), Cond.methodLink RX11 275 yX11_sums, Cond.instanceMethod yX11_sums, Cond.selects RX11 yX11_sums yX11_sums, Cond.code yX11_sums cX11_sums 8 (some .long)]
def wsX11_digest : List Cond := .code yX11_digest cX11_digest 5 (some .long) :: ((wsX11_digest_r1 ++ wsX11_digest_r2) ++ wsX110)
def wsJ9_abs_0f7a4 : List Cond := .code yJ9_abs_0f7a4 cJ9_abs_0f7a4 1 (some .int) :: ([])
def wsJ9_max_7cf53 : List Cond := .code yJ9_max_7cf53 cJ9_max_7cf53 2 (some .int) :: ([])
def wsJ9_min_7cf53 : List Cond := .code yJ9_min_7cf53 cJ9_min_7cf53 2 (some .int) :: ([])
def wsL_law_r1 : List Cond := [Cond.classLink RL 7 RX10, Cond.instantiable RX10 14, Cond.initialized RX10, Cond.classLink RL 10 RX11, Cond.instantiable RX11 18, Cond.initialized RX11, Cond.methodLink RL 9 yX10_init, Cond.instanceMethod yX10_init, Cond.code yX10_init cX10_init 1 none, Cond.methodLink RX10 1 objectInit, Cond.instanceMethod objectInit, Cond.code objectInit ⟨#[0xb1]⟩ 1 none, Cond.classLink RX10 7 RX5, Cond.instantiable RX5 8, Cond.initialized RX5, Cond.fieldLink RX10 10 "EggSpoons" "now" "LEggSpoons$Race;", Cond.fieldLink RX10 16 "EggSpoons" "spare" "LEggSpoons$Race;", Cond.fieldLink RX10 19 "EggSpoons" "images" "[LEggSpoons$Race;", Cond.arrayClass .boolean, Cond.fieldLink RX10 23 "EggSpoons" "imageKept" "[Z", Cond.classLink RX10 27 RX6, Cond.instantiable RX6 7, Cond.initialized RX6, Cond.fieldLink RX10 30 "EggSpoons" "reader" "LEggSpoons$Reader;"]
def wsL_law_r2 : List Cond := [Cond.arrayClass .int, Cond.fieldLink RX10 34 "EggSpoons" "refused" "[I", Cond.fieldLink RX10 38 "EggSpoons" "above" "J", Cond.fieldLink RX10 42 "EggSpoons" "below" "J", Cond.classLink RX10 45 RX8, Cond.instantiable RX8 8, Cond.initialized RX8, Cond.fieldLink RX10 48 "EggSpoons" "ghost" "LEggSpoons$Runner;", Cond.fieldLink RX10 52 "EggSpoons" "rival" "LEggSpoons$Runner;", Cond.classLink RX10 55 RX9, Cond.instantiable RX9 2, Cond.initialized RX9, Cond.fieldLink RX10 58 "EggSpoons" "tally" "LEggSpoons$Tally;", Cond.classLink RX10 62 RX3, Cond.instantiable RX3 8, Cond.initialized RX3, Cond.fieldLink RX10 65 "EggSpoons" "odds" "LEggSpoons$Odds;", Cond.classLink RX10 69 RX0, Cond.instantiable RX0 5, Cond.initialized RX0, Cond.fieldLink RX10 72 "EggSpoons" "duel" "LEggSpoons$Duel;", Cond.fieldLink RX10 76 "EggSpoons" "ranks" "[I", Cond.methodLink RX10 9 yX5_init, Cond.instanceMethod yX5_init]
def wsL_law_r3 : List Cond := [Cond.code yX5_init cX5_init 2 none, Cond.methodLink RX5 3 objectInit, Cond.fieldLink RX5 9 "EggSpoons$Race" "length" "I", Cond.fieldLink RX5 15 "EggSpoons$Race" "tick" "I", Cond.fieldLink RX5 18 "EggSpoons$Race" "runners" "I", Cond.classLink RX5 21 RX8, Cond.fieldLink RX5 23 "EggSpoons$Race" "row" "[LEggSpoons$Runner;", Cond.classLink RX5 27 RX4, Cond.instantiable RX4 2, Cond.initialized RX4, Cond.fieldLink RX5 30 "EggSpoons$Race" "past" "LEggSpoons$Past;", Cond.classLink RX5 34 RX7, Cond.instantiable RX7 5, Cond.initialized RX7, Cond.fieldLink RX5 39 "EggSpoons$Race" "seenRows" "LEggSpoons$Rows;", Cond.fieldLink RX5 43 "EggSpoons$Race" "noteRows" "LEggSpoons$Rows;", Cond.fieldLink RX5 46 "EggSpoons$Race" "markRows" "LEggSpoons$Rows;", Cond.instanceMethod yX4_init, Cond.code yX4_init cX4_init 1 none, Cond.methodLink RX4 5 objectInit, Cond.fieldLink RX4 11 "EggSpoons$Past" "cells" "[I", Cond.fieldLink RX4 15 "EggSpoons$Past" "size" "I", Cond.methodLink RX5 36 yX7_init, Cond.instanceMethod yX7_init]
def wsL_law_r4 : List Cond := [Cond.code yX7_init cX7_init 4 none, Cond.methodLink RX7 1 objectInit, Cond.fieldLink RX7 7 "EggSpoons$Rows" "size" "I", Cond.fieldLink RX7 13 "EggSpoons$Rows" "most" "I", Cond.fieldLink RX7 16 "EggSpoons$Rows" "withLegs" "Z", Cond.fieldLink RX7 20 "EggSpoons$Rows" "withSpeed" "Z", Cond.fieldLink RX7 23 "EggSpoons$Rows" "cells" "[I", Cond.instanceMethod yX8_init, Cond.code yX8_init cX8_init 1 none, Cond.methodLink RX8 3 objectInit, Cond.instanceMethod yX6_init, Cond.code yX6_init cX6_init 1 none, Cond.methodLink RX6 3 objectInit, Cond.fieldLink RX6 11 "EggSpoons$Reader" "bytes" "[I", Cond.fieldLink RX6 15 "EggSpoons$Reader" "length" "I", Cond.fieldLink RX6 19 "EggSpoons$Reader" "at" "I", Cond.fieldLink RX6 22 "EggSpoons$Reader" "tokenAt" "I", Cond.fieldLink RX6 25 "EggSpoons$Reader" "sort" "I", Cond.fieldLink RX6 28 "EggSpoons$Reader" "value" "I", Cond.fieldLink RX6 31 "EggSpoons$Reader" "fault" "I", Cond.instanceMethod yX9_init, Cond.code yX9_init cX9_init 1 none, Cond.methodLink RX9 3 objectInit, Cond.fieldLink RX9 9 "EggSpoons$Tally" "counts" "[I"]
def wsL_law_r5 : List Cond := [Cond.fieldLink RX9 15 "EggSpoons$Tally" "most" "I", Cond.instanceMethod yX3_init, Cond.code yX3_init cX3_init 1 none, Cond.methodLink RX3 1 objectInit, Cond.instanceMethod yX0_init, Cond.code yX0_init cX0_init 1 none, Cond.methodLink RX0 3 objectInit, Cond.fieldLink RX0 11 "EggSpoons$Duel" "endsA" "[I", Cond.fieldLink RX0 15 "EggSpoons$Duel" "endsB" "[I", Cond.fieldLink RX0 18 "EggSpoons$Duel" "mostA" "[I", Cond.fieldLink RX0 21 "EggSpoons$Duel" "mostB" "[I", Cond.fieldLink RX0 24 "EggSpoons$Duel" "resting" "[I", Cond.methodLink RL 12 yX11_init, Cond.instanceMethod yX11_init, Cond.code yX11_init cX11_init 1 none, Cond.methodLink RX11 1 objectInit, Cond.fieldLink RX11 7 "EggSpoonsModel" "all" "[I", Cond.fieldLink RX11 13 "EggSpoonsModel" "kept" "[I", Cond.fieldLink RX11 16 "EggSpoonsModel" "isKept" "[Z", Cond.fieldLink RX11 20 "EggSpoonsModel" "refused" "[I", Cond.fieldLink RX11 23 "EggSpoonsModel" "below" "J", Cond.fieldLink RX11 27 "EggSpoonsModel" "hand" "[I", Cond.fieldLink RX11 30 "EggSpoonsModel" "goesBy" "[I", Cond.fieldLink RX11 33 "EggSpoonsModel" "tells" "[I"]
def wsL_law_r6 : List Cond := [Cond.fieldLink RX11 36 "EggSpoonsModel" "behindBy" "[I", Cond.fieldLink RX11 39 "EggSpoonsModel" "bytes" "[I", Cond.fieldLink RX11 42 "EggSpoonsModel" "anew" "[I", Cond.fieldLink RX11 45 "EggSpoonsModel" "values" "[I", Cond.methodLink RX11 48 yX11_begin, Cond.static yX11_begin, Cond.code yX11_begin cX11_begin 3 none, Cond.methodLink RL 13 yX10_race, Cond.instanceMethod yX10_race, Cond.selects RX10 yX10_race yX10_race, Cond.code yX10_race cX10_race 3 (some .int), Cond.fieldLink RX10 87 "EggSpoons$Race" "runners" "I", Cond.methodLink RX10 79 yX10_within, Cond.static yX10_within, Cond.code yX10_within cX10_within 3 (some .boolean), Cond.methodLink RX10 83 yX10_refuse, Cond.instanceMethod yX10_refuse, Cond.selects RX10 yX10_refuse yX10_refuse, Cond.code yX10_refuse cX10_refuse 3 (some .int), Cond.methodLink RX10 91 yX5_restart, Cond.instanceMethod yX5_restart, Cond.selects RX5 yX5_restart yX5_restart, Cond.code yX5_restart cX5_restart 2 none, Cond.fieldLink RX5 50 "EggSpoons$Past" "size" "I"]
def wsL_law_r7 : List Cond := [Cond.fieldLink RX5 53 "EggSpoons$Rows" "size" "I", Cond.methodLink RL 17 yX11_race, Cond.instanceMethod yX11_race, Cond.selects RX11 yX11_race yX11_race, Cond.code yX11_race cX11_race 3 (some .int), Cond.constantLong RX11 64 (10), Cond.constantLong RX11 66 (60), Cond.methodLink RX11 56 yX11_in, Cond.static yX11_in, Cond.code yX11_in cX11_in 6 (some .boolean), Cond.methodLink RX11 68 yX11_bad, Cond.instanceMethod yX11_bad, Cond.selects RX11 yX11_bad yX11_bad, Cond.code yX11_bad cX11_bad 2 (some .int), Cond.methodLink RX11 52 yX11_many, Cond.instanceMethod yX11_many, Cond.selects RX11 yX11_many yX11_many, Cond.code yX11_many cX11_many 1 (some .int), Cond.methodLink RL 18 yX10_one, Cond.instanceMethod yX10_one, Cond.selects RX10 yX10_one yX10_one, Cond.code yX10_one cX10_one 4 (some .int), Cond.methodLink RX10 95 yX5_welcome, Cond.instanceMethod yX5_welcome]
def wsL_law_r8 : List Cond := [Cond.selects RX5 yX5_welcome yX5_welcome, Cond.code yX5_welcome cX5_welcome 4 none, Cond.methodLink RX5 54 yX8_begin, Cond.instanceMethod yX8_begin, Cond.selects RX8 yX8_begin yX8_begin, Cond.code yX8_begin cX8_begin 4 none, Cond.fieldLink RX8 9 "EggSpoons$Runner" "kind" "I", Cond.fieldLink RX8 15 "EggSpoons$Runner" "legs" "I", Cond.fieldLink RX8 18 "EggSpoons$Runner" "egg" "I", Cond.fieldLink RX8 21 "EggSpoons$Runner" "speed" "I", Cond.fieldLink RX8 24 "EggSpoons$Runner" "place" "I", Cond.fieldLink RX8 27 "EggSpoons$Runner" "drops" "I", Cond.fieldLink RX8 30 "EggSpoons$Runner" "waits" "I", Cond.fieldLink RX8 33 "EggSpoons$Runner" "homeAt" "I", Cond.methodLink RL 22 yX11_one, Cond.instanceMethod yX11_one, Cond.selects RX11 yX11_one yX11_one, Cond.code yX11_one cX11_one 4 (some .int), Cond.methodLink RX11 72 yX11_isKind, Cond.static yX11_isKind, Cond.code yX11_isKind cX11_isKind 1 (some .boolean), Cond.constantLong RX11 60 (5), Cond.methodLink RX11 76 yX11_isLegs, Cond.static yX11_isLegs]
def wsL_law_r9 : List Cond := [Cond.code yX11_isLegs cX11_isLegs 1 (some .boolean), Cond.constantLong RX11 62 (9), Cond.methodLink RX11 79 yX11_full, Cond.instanceMethod yX11_full, Cond.selects RX11 yX11_full yX11_full, Cond.code yX11_full cX11_full 1 (some .int), Cond.methodLink RX11 82 yX11_layOne, Cond.static yX11_layOne, Cond.code yX11_layOne cX11_layOne 5 none, Cond.methodLink RL 23 yX10_type, Cond.instanceMethod yX10_type, Cond.selects RX10 yX10_type yX10_type, Cond.code yX10_type cX10_type 2 (some .int), Cond.methodLink RX10 99 yX6_append, Cond.instanceMethod yX6_append, Cond.selects RX6 yX6_append yX6_append, Cond.code yX6_append cX6_append 2 (some .boolean), Cond.methodLink RL 26 yX11_type, Cond.instanceMethod yX11_type, Cond.selects RX11 yX11_type yX11_type, Cond.code yX11_type cX11_type 2 (some .int), Cond.constantLong RX11 203 (127), Cond.fieldLink RX11 205 "EggSpoonsModel" "bytesLong" "I", Cond.methodLink RL 27 yX10_clear]
def wsL_law_r10 : List Cond := [Cond.instanceMethod yX10_clear, Cond.selects RX10 yX10_clear yX10_clear, Cond.code yX10_clear cX10_clear 2 (some .int), Cond.methodLink RL 31 yX11_clear, Cond.instanceMethod yX11_clear, Cond.selects RX11 yX11_clear yX11_clear, Cond.code yX11_clear cX11_clear 2 (some .int), Cond.methodLink RL 32 yX10_read, Cond.instanceMethod yX10_read, Cond.selects RX10 yX10_read yX10_read, Cond.code yX10_read cX10_read 3 (some .int), Cond.methodLink RX10 106 yX6_takeRace, Cond.instanceMethod yX6_takeRace, Cond.selects RX6 yX6_takeRace yX6_takeRace, Cond.code yX6_takeRace cX6_takeRace 3 (some .int), Cond.methodLink RX6 34 yX6_takeItem, Cond.instanceMethod yX6_takeItem, Cond.selects RX6 yX6_takeItem yX6_takeItem, Cond.code yX6_takeItem cX6_takeItem 3 none, Cond.fieldLink RX6 56 "EggSpoons$Race" "runners" "I", Cond.methodLink RX6 41 yX6_nextToken, Cond.instanceMethod yX6_nextToken, Cond.selects RX6 yX6_nextToken yX6_nextToken, Cond.code yX6_nextToken cX6_nextToken 1 none]
def wsL_law_r11 : List Cond := [Cond.methodLink RX6 38 yX6_skipBlanks, Cond.instanceMethod yX6_skipBlanks, Cond.selects RX6 yX6_skipBlanks yX6_skipBlanks, Cond.code yX6_skipBlanks cX6_skipBlanks 1 none, Cond.methodLink RX6 118 yX6_isLetter, Cond.static yX6_isLetter, Cond.code yX6_isLetter cX6_isLetter 1 (some .boolean), Cond.methodLink RX6 122 yX6_takeLetters, Cond.instanceMethod yX6_takeLetters, Cond.selects RX6 yX6_takeLetters yX6_takeLetters, Cond.code yX6_takeLetters cX6_takeLetters 1 none, Cond.methodLink RX6 125 yX6_isFigure, Cond.static yX6_isFigure, Cond.code yX6_isFigure cX6_isFigure 1 (some .boolean), Cond.methodLink RX6 128 yX6_takeFigures, Cond.instanceMethod yX6_takeFigures, Cond.selects RX6 yX6_takeFigures yX6_takeFigures, Cond.code yX6_takeFigures cX6_takeFigures 1 none, Cond.methodLink RX6 46 yX6_spells, Cond.instanceMethod yX6_spells, Cond.selects RX6 yX6_spells yX6_spells, Cond.code yX6_spells cX6_spells 3 (some .boolean), Cond.methodLink RX6 131 yJ0_length_8abf5, Cond.instanceMethod yJ0_length_8abf5]
def wsL_law_r12 : List Cond := [Cond.selects RJ0 yJ0_length_8abf5 yJ0_length_8abf5, Cond.initialized RJ0, Cond.code yJ0_length_8abf5 cJ0_length_8abf5 1 (some .int), Cond.fieldLink RJ0 9 "java/lang/String" "value" "[B", Cond.methodLink RJ0 335 yJ0_coder_7d493, Cond.instanceMethod yJ0_coder_7d493, Cond.selects RJ0 yJ0_coder_7d493 yJ0_coder_7d493, Cond.code yJ0_coder_7d493 cJ0_coder_7d493 1 (some .byte), Cond.fieldLink RJ0 38 "java/lang/String" "COMPACT_STRINGS" "Z", Cond.fieldLink RJ0 15 "java/lang/String" "coder" "B", Cond.methodLink RX6 136 yJ0_charAt_5068e, Cond.instanceMethod yJ0_charAt_5068e, Cond.selects RJ0 yJ0_charAt_5068e yJ0_charAt_5068e, Cond.code yJ0_charAt_5068e cJ0_charAt_5068e 2 (some .char), Cond.methodLink RJ0 492 yJ0_isLatin1_aae02, Cond.instanceMethod yJ0_isLatin1_aae02, Cond.selects RJ0 yJ0_isLatin1_aae02 yJ0_isLatin1_aae02, Cond.code yJ0_isLatin1_aae02 cJ0_isLatin1_aae02 1 (some .boolean), Cond.methodLink RJ0 495 yJ1_charAt_3b067, Cond.static yJ1_charAt_3b067, Cond.initialized RJ1, Cond.code yJ1_charAt_3b067 cJ1_charAt_3b067 2 (some .char), Cond.methodLink RJ1 9 yJ0_checkIndex_df160, Cond.static yJ0_checkIndex_df160]
def wsL_law_r13 : List Cond := [Cond.code yJ0_checkIndex_df160 cJ0_checkIndex_df160 2 none, Cond.fieldLink RJ0 1053 "jdk/internal/util/Preconditions" "SIOOBE_FORMATTER" "Ljava/util/function/BiFunction;", Cond.methodLink RJ0 1059 yJ3_checkIndex_8e157, Cond.static yJ3_checkIndex_8e157, Cond.initialized RJ3, Cond.code yJ3_checkIndex_8e157 cJ3_checkIndex_8e157 3 (some .int), Cond.methodLink RJ0 498 yJ2_charAt_3b067, Cond.static yJ2_charAt_3b067, Cond.initialized RJ2, Cond.code yJ2_charAt_3b067 cJ2_charAt_3b067 2 (some .char), Cond.methodLink RJ2 67 yJ2_checkIndex_2214a, Cond.static yJ2_checkIndex_2214a, Cond.code yJ2_checkIndex_2214a cJ2_checkIndex_2214a 2 none, Cond.methodLink RJ2 48 yJ2_length_9d52b, Cond.static yJ2_length_9d52b, Cond.code yJ2_length_9d52b cJ2_length_9d52b 1 (some .int), Cond.methodLink RJ2 414 yJ0_checkIndex_df160, Cond.methodLink RJ2 71 yJ2_getChar_3b067, Cond.static yJ2_getChar_3b067, Cond.code yJ2_getChar_3b067 cJ2_getChar_3b067 2 (some .char), Cond.fieldLink RJ2 44 "java/lang/StringUTF16" "$assertionsDisabled" "Z", Cond.fieldLink RJ2 59 "java/lang/StringUTF16" "HI_BYTE_SHIFT" "I", Cond.fieldLink RJ2 63 "java/lang/StringUTF16" "LO_BYTE_SHIFT" "I", Cond.methodLink RX6 50 yX6_takeLength]
def wsL_law_r14 : List Cond := [Cond.instanceMethod yX6_takeLength, Cond.selects RX6 yX6_takeLength yX6_takeLength, Cond.code yX6_takeLength cX6_takeLength 3 none, Cond.methodLink RX6 79 yX6_number, Cond.instanceMethod yX6_number, Cond.selects RX6 yX6_number yX6_number, Cond.code yX6_number cX6_number 3 (some .int), Cond.methodLink RX6 83 yX6_ended, Cond.instanceMethod yX6_ended, Cond.selects RX6 yX6_ended yX6_ended, Cond.code yX6_ended cX6_ended 1 (some .boolean), Cond.methodLink RX6 87 yX5_restart, Cond.methodLink RX6 61 yX6_takeRunner, Cond.instanceMethod yX6_takeRunner, Cond.selects RX6 yX6_takeRunner yX6_takeRunner, Cond.code yX6_takeRunner cX6_takeRunner 5 none, Cond.methodLink RX6 91 yX5_welcome, Cond.methodLink RX6 66 yX6_takeSpeed, Cond.instanceMethod yX6_takeSpeed, Cond.selects RX6 yX6_takeSpeed yX6_takeSpeed, Cond.code yX6_takeSpeed cX6_takeSpeed 4 none, Cond.fieldLink RX6 95 "EggSpoons$Race" "row" "[LEggSpoons$Runner;", Cond.fieldLink RX6 99 "EggSpoons$Runner" "speed" "I", Cond.methodLink RX6 71 yX6_takeStart]
def wsL_law_r15 : List Cond := [Cond.instanceMethod yX6_takeStart, Cond.selects RX6 yX6_takeStart yX6_takeStart, Cond.code yX6_takeStart cX6_takeStart 5 none, Cond.fieldLink RX6 106 "EggSpoons$Race" "length" "I", Cond.methodLink RX6 107 Lib.Math.min.name, Cond.static Lib.Math.min.name, Cond.initialized "java/lang/Math", Cond.code Lib.Math.min.name Lib.Math.min.code 2 (some .int), Cond.fieldLink RX6 112 "EggSpoons$Runner" "place" "I", Cond.methodLink RX6 103 yX8_isHome, Cond.instanceMethod yX8_isHome, Cond.selects RX8 yX8_isHome yX8_isHome, Cond.code yX8_isHome cX8_isHome 1 (some .boolean), Cond.methodLink RX6 76 yX6_takeTicks, Cond.instanceMethod yX6_takeTicks, Cond.selects RX6 yX6_takeTicks yX6_takeTicks, Cond.code yX6_takeTicks cX6_takeTicks 4 none, Cond.methodLink RX6 115 yX5_goOn, Cond.instanceMethod yX5_goOn, Cond.selects RX5 yX5_goOn yX5_goOn, Cond.code yX5_goOn cX5_goOn 2 none, Cond.methodLink RX5 72 yX8_step, Cond.instanceMethod yX8_step, Cond.selects RX8 yX8_step yX8_step]
def wsL_law_r16 : List Cond := [Cond.code yX8_step cX8_step 4 none, Cond.methodLink RX8 48 yX8_isHome, Cond.methodLink RX8 36 yX2_reach, Cond.static yX2_reach, Cond.initialized RX2, Cond.code yX2_reach cX2_reach 7 (some .int), Cond.methodLink RX8 42 yX1_limit, Cond.static yX1_limit, Cond.initialized RX1, Cond.code yX1_limit cX1_limit 5 (some .int), Cond.methodLink RL 35 yX11_read, Cond.instanceMethod yX11_read, Cond.selects RX11 yX11_read yX11_read, Cond.code yX11_read cX11_read 3 (some .int), Cond.fieldLink RX11 217 "EggSpoonsModel" "tokenAt" "I", Cond.fieldLink RX11 223 "EggSpoonsModel" "token" "I", Cond.methodLink RX11 235 yX11_lookAt, Cond.instanceMethod yX11_lookAt, Cond.selects RX11 yX11_lookAt yX11_lookAt, Cond.code yX11_lookAt cX11_lookAt 5 none, Cond.fieldLink RX11 220 "EggSpoonsModel" "tokenLong" "I", Cond.fieldLink RX11 226 "EggSpoonsModel" "value" "I", Cond.methodLink RX11 229 yX11_isSmall, Cond.static yX11_isSmall]
def wsL_law_r17 : List Cond := [Cond.code yX11_isSmall cX11_isSmall 1 (some .boolean), Cond.constantLong RX11 209 (97), Cond.constantLong RX11 211 (122), Cond.methodLink RX11 232 yX11_isFigure, Cond.static yX11_isFigure, Cond.code yX11_isFigure cX11_isFigure 1 (some .boolean), Cond.constantLong RX11 213 (48), Cond.constantLong RX11 215 (57), Cond.methodLink RX11 245 yX11_spells, Cond.instanceMethod yX11_spells, Cond.selects RX11 yX11_spells yX11_spells, Cond.code yX11_spells cX11_spells 10 (some .boolean), Cond.methodLink RX11 238 yX11_goBehind, Cond.instanceMethod yX11_goBehind, Cond.selects RX11 yX11_goBehind yX11_goBehind, Cond.code yX11_goBehind cX11_goBehind 1 none, Cond.methodLink RX11 241 yX11_takes, Cond.instanceMethod yX11_takes, Cond.selects RX11 yX11_takes yX11_takes, Cond.code yX11_takes cX11_takes 4 (some .boolean), Cond.methodLink RX11 262 yX11_takesItem, Cond.instanceMethod yX11_takesItem, Cond.selects RX11 yX11_takesItem yX11_takesItem, Cond.code yX11_takesItem cX11_takesItem 1 (some .boolean)]
def wsL_law_r18 : List Cond := [Cond.methodLink RX11 249 yX11_takesOne, Cond.instanceMethod yX11_takesOne, Cond.selects RX11 yX11_takesOne yX11_takesOne, Cond.code yX11_takesOne cX11_takesOne 1 (some .boolean), Cond.methodLink RX11 253 yX11_takesSpeed, Cond.instanceMethod yX11_takesSpeed, Cond.selects RX11 yX11_takesSpeed yX11_takesSpeed, Cond.code yX11_takesSpeed cX11_takesSpeed 1 (some .boolean), Cond.methodLink RX11 256 yX11_takesStart, Cond.instanceMethod yX11_takesStart, Cond.selects RX11 yX11_takesStart yX11_takesStart, Cond.code yX11_takesStart cX11_takesStart 2 (some .boolean), Cond.methodLink RX11 101 yX11_isHome, Cond.static yX11_isHome, Cond.code yX11_isHome cX11_isHome 2 (some .boolean), Cond.methodLink RX11 259 yX11_takesGo, Cond.instanceMethod yX11_takesGo, Cond.selects RX11 yX11_takesGo yX11_takesGo, Cond.code yX11_takesGo cX11_takesGo 1 (some .boolean), Cond.methodLink RX11 116 yX11_goTicks, Cond.static yX11_goTicks, Cond.code yX11_goTicks cX11_goTicks 3 none, Cond.methodLink RX11 109 yX11_goTick, Cond.static yX11_goTick]
def wsL_law_r19 : List Cond := [Cond.code yX11_goTick cX11_goTick 2 none, Cond.methodLink RX11 105 yX11_goOne, Cond.static yX11_goOne, Cond.code yX11_goOne cX11_goOne 5 none, Cond.methodLink RX11 90 yX11_runsOf, Cond.static yX11_runsOf, Cond.code yX11_runsOf cX11_runsOf 3 (some .int), Cond.methodLink RX11 86 yX11_runsAs, Cond.static yX11_runsAs, Cond.code yX11_runsAs cX11_runsAs 7 (some .int), Cond.methodLink RX11 94 yX11_mayAs, Cond.static yX11_mayAs, Cond.code yX11_mayAs cX11_mayAs 3 (some .int), Cond.methodLink RX11 98 yX11_drop, Cond.static yX11_drop, Cond.code yX11_drop cX11_drop 2 none, Cond.methodLink RL 36 yX10_ticks, Cond.instanceMethod yX10_ticks, Cond.selects RX10 yX10_ticks yX10_ticks, Cond.code yX10_ticks cX10_ticks 3 (some .int), Cond.fieldLink RX10 110 "EggSpoons$Race" "tick" "I", Cond.methodLink RX10 113 yX5_keep, Cond.instanceMethod yX5_keep, Cond.selects RX5 yX5_keep yX5_keep]
def wsL_law_r20 : List Cond := [Cond.code yX5_keep cX5_keep 1 none, Cond.methodLink RX5 76 yX4_push, Cond.instanceMethod yX4_push, Cond.selects RX4 yX4_push yX4_push, Cond.code yX4_push cX4_push 6 none, Cond.methodLink RX4 19 arraycopyName, Cond.native arraycopyName, Cond.static arraycopyName, Cond.initialized "java/lang/System", Cond.fieldLink RX4 25 "EggSpoons$Runner" "speed" "I", Cond.fieldLink RX4 30 "EggSpoons$Runner" "place" "I", Cond.fieldLink RX4 33 "EggSpoons$Runner" "drops" "I", Cond.fieldLink RX4 36 "EggSpoons$Runner" "waits" "I", Cond.fieldLink RX4 39 "EggSpoons$Runner" "homeAt" "I", Cond.methodLink RX10 116 yX5_goOn, Cond.methodLink RX10 119 yX5_homes, Cond.instanceMethod yX5_homes, Cond.selects RX5 yX5_homes yX5_homes, Cond.code yX5_homes cX5_homes 3 (some .int), Cond.methodLink RX5 84 yX8_isHome, Cond.methodLink RL 39 yX11_ticks, Cond.instanceMethod yX11_ticks, Cond.selects RX11 yX11_ticks yX11_ticks, Cond.code yX11_ticks cX11_ticks 2 (some .int)]
def wsL_law_r21 : List Cond := [Cond.methodLink RX11 113 yX11_save, Cond.instanceMethod yX11_save, Cond.selects RX11 yX11_save yX11_save, Cond.code yX11_save cX11_save 2 none, Cond.methodLink RX11 119 yX11_manyHome, Cond.static yX11_manyHome, Cond.code yX11_manyHome cX11_manyHome 3 (some .int), Cond.methodLink RL 40 yX10_speed, Cond.instanceMethod yX10_speed, Cond.selects RX10 yX10_speed yX10_speed, Cond.code yX10_speed cX10_speed 5 (some .int), Cond.fieldLink RX10 126 "EggSpoons$Race" "row" "[LEggSpoons$Runner;", Cond.fieldLink RX10 130 "EggSpoons$Runner" "speed" "I", Cond.methodLink RX10 123 yX10_there, Cond.instanceMethod yX10_there, Cond.selects RX10 yX10_there yX10_there, Cond.code yX10_there cX10_there 2 (some .boolean), Cond.methodLink RX10 133 yX8_isHome, Cond.methodLink RL 44 yX11_speed, Cond.instanceMethod yX11_speed, Cond.selects RX11 yX11_speed yX11_speed, Cond.code yX11_speed cX11_speed 4 (some .int), Cond.methodLink RX11 123 yX11_isOne, Cond.instanceMethod yX11_isOne]
def wsL_law_r22 : List Cond := [Cond.selects RX11 yX11_isOne yX11_isOne, Cond.code yX11_isOne cX11_isOne 2 (some .boolean), Cond.methodLink RX11 126 yX11_isSpeed, Cond.static yX11_isSpeed, Cond.code yX11_isSpeed cX11_isSpeed 1 (some .boolean), Cond.methodLink RX11 129 yX11_no, Cond.instanceMethod yX11_no, Cond.selects RX11 yX11_no yX11_no, Cond.code yX11_no cX11_no 1 (some .int), Cond.methodLink RL 45 yX10_start, Cond.instanceMethod yX10_start, Cond.selects RX10 yX10_start yX10_start, Cond.code yX10_start cX10_start 4 (some .int), Cond.fieldLink RX10 137 "EggSpoons$Runner" "place" "I", Cond.fieldLink RX10 140 "EggSpoons$Race" "length" "I", Cond.methodLink RL 48 yX11_start, Cond.instanceMethod yX11_start, Cond.selects RX11 yX11_start yX11_start, Cond.code yX11_start cX11_start 3 (some .int), Cond.constantLong RX11 132 (30), Cond.methodLink RL 49 yX10_undo, Cond.instanceMethod yX10_undo, Cond.selects RX10 yX10_undo yX10_undo, Cond.code yX10_undo cX10_undo 1 (some .int)]
def wsL_law_r23 : List Cond := [Cond.methodLink RX10 141 yX5_takeBack, Cond.instanceMethod yX5_takeBack, Cond.selects RX5 yX5_takeBack yX5_takeBack, Cond.code yX5_takeBack cX5_takeBack 2 (some .boolean), Cond.methodLink RX5 80 yX4_pop, Cond.instanceMethod yX4_pop, Cond.selects RX4 yX4_pop yX4_pop, Cond.code yX4_pop cX4_pop 5 (some .int), Cond.methodLink RL 52 yX11_undo, Cond.instanceMethod yX11_undo, Cond.selects RX11 yX11_undo yX11_undo, Cond.code yX11_undo cX11_undo 2 (some .int), Cond.methodLink RL 53 yX10_of, Cond.instanceMethod yX10_of, Cond.selects RX10 yX10_of yX10_of, Cond.code yX10_of cX10_of 3 (some .int), Cond.methodLink RX10 144 yX8_fact, Cond.instanceMethod yX8_fact, Cond.selects RX8 yX8_fact yX8_fact, Cond.code yX8_fact cX8_fact 3 (some .int), Cond.methodLink RL 56 yX11_of, Cond.instanceMethod yX11_of, Cond.selects RX11 yX11_of yX11_of, Cond.code yX11_of cX11_of 3 (some .int)]
def wsL_law_r24 : List Cond := [Cond.methodLink RX11 134 yX11_toldOf, Cond.instanceMethod yX11_toldOf, Cond.selects RX11 yX11_toldOf yX11_toldOf, Cond.code yX11_toldOf cX11_toldOf 3 (some .int), Cond.methodLink RL 57 yX10_where, Cond.instanceMethod yX10_where, Cond.selects RX10 yX10_where yX10_where, Cond.code yX10_where cX10_where 3 (some .int), Cond.methodLink RX10 148 yX8_copyFrom, Cond.instanceMethod yX8_copyFrom, Cond.selects RX8 yX8_copyFrom yX8_copyFrom, Cond.code yX8_copyFrom cX8_copyFrom 2 none, Cond.methodLink RX10 152 yX8_placeBehind, Cond.instanceMethod yX8_placeBehind, Cond.selects RX8 yX8_placeBehind yX8_placeBehind, Cond.code yX8_placeBehind cX8_placeBehind 5 (some .int), Cond.methodLink RX8 52 yX8_step, Cond.methodLink RL 60 yX11_where, Cond.instanceMethod yX11_where, Cond.selects RX11 yX11_where yX11_where, Cond.code yX11_where cX11_where 3 (some .int), Cond.methodLink RX11 137 yX11_layHand, Cond.instanceMethod yX11_layHand, Cond.selects RX11 yX11_layHand yX11_layHand]
def wsL_law_r25 : List Cond := [Cond.code yX11_layHand cX11_layHand 2 none, Cond.methodLink RX11 140 yX11_goAhead, Cond.instanceMethod yX11_goAhead, Cond.selects RX11 yX11_goAhead yX11_goAhead, Cond.code yX11_goAhead cX11_goAhead 3 none, Cond.methodLink RL 61 yX10_home, Cond.instanceMethod yX10_home, Cond.selects RX10 yX10_home yX10_home, Cond.code yX10_home cX10_home 2 (some .int), Cond.methodLink RX10 156 yX10_homeBehind, Cond.instanceMethod yX10_homeBehind, Cond.selects RX10 yX10_homeBehind yX10_homeBehind, Cond.code yX10_homeBehind cX10_homeBehind 3 (some .int), Cond.methodLink RX10 165 yX8_ticksToHome, Cond.instanceMethod yX8_ticksToHome, Cond.selects RX8 yX8_ticksToHome yX8_ticksToHome, Cond.code yX8_ticksToHome cX8_ticksToHome 5 (some .int), Cond.methodLink RL 64 yX11_home, Cond.instanceMethod yX11_home, Cond.selects RX11 yX11_home yX11_home, Cond.code yX11_home cX11_home 2 (some .int), Cond.methodLink RX11 147 yX11_homeOf, Cond.instanceMethod yX11_homeOf, Cond.selects RX11 yX11_homeOf yX11_homeOf]
def wsL_law_r26 : List Cond := [Cond.code yX11_homeOf cX11_homeOf 2 (some .int), Cond.methodLink RX11 144 yX11_homeAtHand, Cond.instanceMethod yX11_homeAtHand, Cond.selects RX11 yX11_homeAtHand yX11_homeAtHand, Cond.code yX11_homeAtHand cX11_homeAtHand 4 (some .int), Cond.methodLink RL 65 yX10_first, Cond.instanceMethod yX10_first, Cond.selects RX10 yX10_first yX10_first, Cond.code yX10_first cX10_first 5 (some .int), Cond.methodLink RL 68 yX11_first, Cond.instanceMethod yX11_first, Cond.selects RX11 yX11_first yX11_first, Cond.code yX11_first cX11_first 5 (some .int), Cond.constant RX11 150 (1000000), Cond.methodLink RL 69 yX10_order, Cond.instanceMethod yX10_order, Cond.selects RX10 yX10_order yX10_order, Cond.code yX10_order cX10_order 3 (some .int), Cond.methodLink RX10 159 yX10_rankAll, Cond.instanceMethod yX10_rankAll, Cond.selects RX10 yX10_rankAll yX10_rankAll, Cond.code yX10_rankAll cX10_rankAll 5 none, Cond.fieldLink RX10 303 "EggSpoons$Runner" "homeAt" "I", Cond.methodLink RX10 162 yX10_aheadOf]
def wsL_law_r27 : List Cond := [Cond.instanceMethod yX10_aheadOf, Cond.selects RX10 yX10_aheadOf yX10_aheadOf, Cond.code yX10_aheadOf cX10_aheadOf 4 (some .int), Cond.methodLink RL 72 yX11_order, Cond.instanceMethod yX11_order, Cond.selects RX11 yX11_order yX11_order, Cond.code yX11_order cX11_order 5 (some .int), Cond.constant RX11 151 (2000000), Cond.methodLink RL 73 yX10_best, Cond.instanceMethod yX10_best, Cond.selects RX10 yX10_best yX10_best, Cond.code yX10_best cX10_best 8 (some .int), Cond.methodLink RL 76 yX11_best, Cond.instanceMethod yX11_best, Cond.selects RX11 yX11_best yX11_best, Cond.code yX11_best cX11_best 7 (some .int), Cond.methodLink RL 77 yX10_turn, Cond.instanceMethod yX10_turn, Cond.selects RX10 yX10_turn yX10_turn, Cond.code yX10_turn cX10_turn 9 (some .int), Cond.methodLink RX10 168 yX10_homeTurning, Cond.instanceMethod yX10_homeTurning, Cond.selects RX10 yX10_homeTurning yX10_homeTurning, Cond.code yX10_homeTurning cX10_homeTurning 7 (some .int)]
def wsL_law_r28 : List Cond := [Cond.methodLink RX10 300 Lib.Math.min.name, Cond.methodLink RL 80 yX11_turn, Cond.instanceMethod yX11_turn, Cond.selects RX11 yX11_turn yX11_turn, Cond.code yX11_turn cX11_turn 8 (some .int), Cond.methodLink RL 81 yX10_beats, Cond.instanceMethod yX10_beats, Cond.selects RX10 yX10_beats yX10_beats, Cond.code yX10_beats cX10_beats 7 (some .int), Cond.methodLink RX10 172 yX10_areTwo, Cond.instanceMethod yX10_areTwo, Cond.selects RX10 yX10_areTwo yX10_areTwo, Cond.code yX10_areTwo cX10_areTwo 3 (some .boolean), Cond.methodLink RL 84 yX11_beats, Cond.instanceMethod yX11_beats, Cond.selects RX11 yX11_beats yX11_beats, Cond.code yX11_beats cX11_beats 6 (some .int), Cond.methodLink RL 85 yX10_close, Cond.instanceMethod yX10_close, Cond.selects RX10 yX10_close yX10_close, Cond.code yX10_close cX10_close 8 (some .int), Cond.methodLink RX10 176 Lib.Math.abs.name, Cond.static Lib.Math.abs.name, Cond.code Lib.Math.abs.name Lib.Math.abs.code 1 (some .int)]
def wsL_law_r29 : List Cond := [Cond.methodLink RX10 181 yX8_step, Cond.methodLink RL 88 yX11_close, Cond.instanceMethod yX11_close, Cond.selects RX11 yX11_close yX11_close, Cond.code yX11_close cX11_close 8 (some .int), Cond.methodLink RL 89 yX10_seen, Cond.instanceMethod yX10_seen, Cond.selects RX10 yX10_seen yX10_seen, Cond.code yX10_seen cX10_seen 5 (some .int), Cond.fieldLink RX10 185 "EggSpoons$Race" "seenRows" "LEggSpoons$Rows;", Cond.fieldLink RX10 194 "EggSpoons$Rows" "size" "I", Cond.methodLink RX10 189 yX7_append, Cond.instanceMethod yX7_append, Cond.selects RX7 yX7_append yX7_append, Cond.code yX7_append cX7_append 7 (some .boolean), Cond.methodLink RL 93 yX11_seen, Cond.instanceMethod yX11_seen, Cond.selects RX11 yX11_seen yX11_seen, Cond.code yX11_seen cX11_seen 6 (some .int), Cond.constantLong RX11 152 (99), Cond.constantLong RX11 154 (15), Cond.methodLink RL 94 yX10_strong, Cond.instanceMethod yX10_strong, Cond.selects RX10 yX10_strong yX10_strong]
def wsL_law_r30 : List Cond := [Cond.code yX10_strong cX10_strong 6 (some .int), Cond.methodLink RX10 197 yX5_legsThatFit, Cond.instanceMethod yX5_legsThatFit, Cond.selects RX5 yX5_legsThatFit yX5_legsThatFit, Cond.code yX5_legsThatFit cX5_legsThatFit 4 (some .int), Cond.fieldLink RX5 94 "EggSpoons$Runner" "kind" "I", Cond.methodLink RX5 97 yX7_fitRunner, Cond.instanceMethod yX7_fitRunner, Cond.selects RX7 yX7_fitRunner yX7_fitRunner, Cond.code yX7_fitRunner cX7_fitRunner 7 (some .boolean), Cond.methodLink RX7 39 yX2_reach, Cond.methodLink RX10 200 yJ6_bitCount_0f7a4, Cond.static yJ6_bitCount_0f7a4, Cond.initialized RJ6, Cond.code yJ6_bitCount_0f7a4 cJ6_bitCount_0f7a4 1 (some .int), Cond.constant RJ6 265 (1431655765), Cond.constant RJ6 266 (858993459), Cond.constant RJ6 267 (252645135), Cond.methodLink RX10 205 yX10_hasBit, Cond.static yX10_hasBit, Cond.code yX10_hasBit cX10_hasBit 2 (some .boolean), Cond.methodLink RL 97 yX11_strong, Cond.instanceMethod yX11_strong, Cond.selects RX11 yX11_strong yX11_strong]
def wsL_law_r31 : List Cond := [Cond.code yX11_strong cX11_strong 8 (some .int), Cond.constantLong RX11 156 (2), Cond.methodLink RX11 158 yX11_legsOf, Cond.instanceMethod yX11_legsOf, Cond.selects RX11 yX11_legsOf yX11_legsOf, Cond.code yX11_legsOf cX11_legsOf 7 (some .int), Cond.methodLink RX11 161 yX11_has, Cond.static yX11_has, Cond.code yX11_has cX11_has 2 (some .boolean), Cond.methodLink RL 98 yX10_tell, Cond.instanceMethod yX10_tell, Cond.selects RX10 yX10_tell yX10_tell, Cond.code yX10_tell cX10_tell 2 (some .int), Cond.methodLink RX10 208 yX10_nextLook, Cond.instanceMethod yX10_nextLook, Cond.selects RX10 yX10_nextLook yX10_nextLook, Cond.code yX10_nextLook cX10_nextLook 9 (some .int), Cond.methodLink RX10 306 yX10_mostAlike, Cond.instanceMethod yX10_mostAlike, Cond.selects RX10 yX10_mostAlike yX10_mostAlike, Cond.code yX10_mostAlike cX10_mostAlike 6 (some .int), Cond.fieldLink RX10 317 "EggSpoons$Tally" "most" "I", Cond.methodLink RX10 309 yX9_restart, Cond.instanceMethod yX9_restart]
def wsL_law_r32 : List Cond := [Cond.selects RX9 yX9_restart yX9_restart, Cond.code yX9_restart cX9_restart 2 none, Cond.methodLink RX10 311 yX10_farBy, Cond.static yX10_farBy, Cond.code yX10_farBy cX10_farBy 4 (some .int), Cond.fieldLink RX10 320 "EggSpoons$Runner" "kind" "I", Cond.fieldLink RX10 328 "EggSpoons$Runner" "legs" "I", Cond.methodLink RX10 323 yX2_reach, Cond.methodLink RX10 331 yX1_limit, Cond.methodLink RX10 314 yX9_see, Cond.instanceMethod yX9_see, Cond.selects RX9 yX9_see yX9_see, Cond.code yX9_see cX9_see 2 none, Cond.methodLink RX9 19 Lib.Math.max.name, Cond.static Lib.Math.max.name, Cond.code Lib.Math.max.name Lib.Math.max.code 2 (some .int), Cond.methodLink RL 101 yX11_tell, Cond.instanceMethod yX11_tell, Cond.selects RX11 yX11_tell yX11_tell, Cond.code yX11_tell cX11_tell 7 (some .int), Cond.methodLink RX11 165 yX11_mostAlike, Cond.instanceMethod yX11_mostAlike, Cond.selects RX11 yX11_mostAlike yX11_mostAlike, Cond.code yX11_mostAlike cX11_mostAlike 6 (some .int)]
def wsL_law_r33 : List Cond := [Cond.methodLink RL 102 yX10_note, Cond.instanceMethod yX10_note, Cond.selects RX10 yX10_note yX10_note, Cond.code yX10_note cX10_note 6 (some .int), Cond.fieldLink RX10 212 "EggSpoons$Race" "noteRows" "LEggSpoons$Rows;", Cond.methodLink RL 106 yX11_note, Cond.instanceMethod yX11_note, Cond.selects RX11 yX11_note yX11_note, Cond.code yX11_note cX11_note 7 (some .int), Cond.methodLink RL 107 yX10_mark, Cond.instanceMethod yX10_mark, Cond.selects RX10 yX10_mark yX10_mark, Cond.code yX10_mark cX10_mark 4 (some .int), Cond.fieldLink RX10 215 "EggSpoons$Race" "markRows" "LEggSpoons$Rows;", Cond.methodLink RL 110 yX11_mark, Cond.instanceMethod yX11_mark, Cond.selects RX11 yX11_mark yX11_mark, Cond.code yX11_mark cX11_mark 5 (some .int), Cond.methodLink RL 111 yX10_forget, Cond.instanceMethod yX10_forget, Cond.selects RX10 yX10_forget yX10_forget, Cond.code yX10_forget cX10_forget 4 (some .int), Cond.methodLink RL 114 yX11_forget, Cond.instanceMethod yX11_forget]
def wsL_law_r34 : List Cond := [Cond.selects RX11 yX11_forget yX11_forget, Cond.code yX11_forget cX11_forget 3 (some .int), Cond.methodLink RL 115 yX10_is, Cond.instanceMethod yX10_is, Cond.selects RX10 yX10_is yX10_is, Cond.code yX10_is cX10_is 2 (some .int), Cond.methodLink RX10 218 yX5_kindsThatFit, Cond.instanceMethod yX5_kindsThatFit, Cond.selects RX5 yX5_kindsThatFit yX5_kindsThatFit, Cond.code yX5_kindsThatFit cX5_kindsThatFit 4 (some .int), Cond.methodLink RL 118 yX11_is, Cond.instanceMethod yX11_is, Cond.selects RX11 yX11_is yX11_is, Cond.code yX11_is cX11_is 2 (some .int), Cond.methodLink RX11 168 yX11_kindsOfOne, Cond.instanceMethod yX11_kindsOfOne, Cond.selects RX11 yX11_kindsOfOne yX11_kindsOfOne, Cond.code yX11_kindsOfOne cX11_kindsOfOne 7 (some .int), Cond.methodLink RL 119 yX10_look, Cond.instanceMethod yX10_look, Cond.selects RX10 yX10_look yX10_look, Cond.code yX10_look cX10_look 2 (some .int), Cond.methodLink RL 122 yX11_look, Cond.instanceMethod yX11_look]
def wsL_law_r35 : List Cond := [Cond.selects RX11 yX11_look yX11_look, Cond.code yX11_look cX11_look 7 (some .int), Cond.methodLink RL 123 yX10_kinds, Cond.instanceMethod yX10_kinds, Cond.selects RX10 yX10_kinds yX10_kinds, Cond.code yX10_kinds cX10_kinds 2 (some .int), Cond.methodLink RX10 221 yX5_eggsThatFit, Cond.instanceMethod yX5_eggsThatFit, Cond.selects RX5 yX5_eggsThatFit yX5_eggsThatFit, Cond.code yX5_eggsThatFit cX5_eggsThatFit 4 (some .int), Cond.methodLink RX5 101 yX7_fitEgg, Cond.instanceMethod yX7_fitEgg, Cond.selects RX7 yX7_fitEgg yX7_fitEgg, Cond.code yX7_fitEgg cX7_fitEgg 5 (some .boolean), Cond.methodLink RX7 45 yX1_limit, Cond.methodLink RL 126 yX11_kinds, Cond.instanceMethod yX11_kinds, Cond.selects RX11 yX11_kinds yX11_kinds, Cond.code yX11_kinds cX11_kinds 2 (some .int), Cond.methodLink RX11 171 yX11_kindsOfEgg, Cond.instanceMethod yX11_kindsOfEgg, Cond.selects RX11 yX11_kindsOfEgg yX11_kindsOfEgg, Cond.code yX11_kindsOfEgg cX11_kindsOfEgg 7 (some .int), Cond.methodLink RL 127 yX10_ask]
def wsL_law_r36 : List Cond := [Cond.instanceMethod yX10_ask, Cond.selects RX10 yX10_ask yX10_ask, Cond.code yX10_ask cX10_ask 2 (some .int), Cond.methodLink RL 130 yX11_ask, Cond.instanceMethod yX11_ask, Cond.selects RX11 yX11_ask yX11_ask, Cond.code yX11_ask cX11_ask 7 (some .int), Cond.methodLink RL 131 yX10_pair, Cond.instanceMethod yX10_pair, Cond.selects RX10 yX10_pair yX10_pair, Cond.code yX10_pair cX10_pair 5 (some .int), Cond.methodLink RX10 224 yX10_placeBehindFive, Cond.instanceMethod yX10_placeBehindFive, Cond.selects RX10 yX10_placeBehindFive yX10_placeBehindFive, Cond.code yX10_placeBehindFive cX10_placeBehindFive 3 (some .int), Cond.methodLink RX10 227 yX0_put, Cond.instanceMethod yX0_put, Cond.selects RX0 yX0_put yX0_put, Cond.code yX0_put cX0_put 4 none, Cond.methodLink RX10 230 yX0_weigh, Cond.instanceMethod yX0_weigh, Cond.selects RX0 yX0_weigh yX0_weigh, Cond.code yX0_weigh cX0_weigh 7 (some .int), Cond.methodLink RX0 27 yX0_greatestGain]
def wsL_law_r37 : List Cond := [Cond.static yX0_greatestGain, Cond.code yX0_greatestGain cX0_greatestGain 5 (some .int), Cond.methodLink RX0 35 Lib.Math.max.name, Cond.methodLink RX0 31 yX0_gain, Cond.static yX0_gain, Cond.code yX0_gain cX0_gain 3 (some .int), Cond.methodLink RX10 233 yX0_restingPair, Cond.instanceMethod yX0_restingPair, Cond.selects RX0 yX0_restingPair yX0_restingPair, Cond.code yX0_restingPair cX0_restingPair 2 (some .int), Cond.methodLink RL 134 yX11_pair, Cond.instanceMethod yX11_pair, Cond.selects RX11 yX11_pair yX11_pair, Cond.code yX11_pair cX11_pair 6 (some .int), Cond.methodLink RX11 178 yX11_rests, Cond.instanceMethod yX11_rests, Cond.selects RX11 yX11_rests yX11_rests, Cond.code yX11_rests cX11_rests 9 (some .boolean), Cond.methodLink RX11 174 yX11_getsBy, Cond.instanceMethod yX11_getsBy, Cond.selects RX11 yX11_getsBy yX11_getsBy, Cond.code yX11_getsBy cX11_getsBy 4 (some .int), Cond.methodLink RL 135 yX10_stumble, Cond.instanceMethod yX10_stumble]
def wsL_law_r38 : List Cond := [Cond.selects RX10 yX10_stumble yX10_stumble, Cond.code yX10_stumble cX10_stumble 12 (some .int), Cond.fieldLink RX10 240 "EggSpoons$Runner" "waits" "I", Cond.methodLink RX10 236 yX3_pose, Cond.instanceMethod yX3_pose, Cond.selects RX3 yX3_pose yX3_pose, Cond.code yX3_pose cX3_pose 6 none, Cond.fieldLink RX3 7 "EggSpoons$Runner" "kind" "I", Cond.fieldLink RX3 13 "EggSpoons$Odds" "kind" "I", Cond.fieldLink RX3 16 "EggSpoons$Runner" "legs" "I", Cond.fieldLink RX3 19 "EggSpoons$Odds" "legs" "I", Cond.fieldLink RX3 20 "EggSpoons$Runner" "egg" "I", Cond.fieldLink RX3 23 "EggSpoons$Odds" "egg" "I", Cond.fieldLink RX3 24 "EggSpoons$Runner" "speed" "I", Cond.fieldLink RX3 27 "EggSpoons$Odds" "speed" "I", Cond.fieldLink RX3 28 "EggSpoons$Odds" "length" "I", Cond.fieldLink RX3 31 "EggSpoons$Odds" "lastTick" "I", Cond.fieldLink RX3 34 "EggSpoons$Odds" "goal" "I", Cond.fieldLink RX3 37 "EggSpoons$Odds" "tenths" "I", Cond.static yX3_ways, Cond.code yX3_ways cX3_ways 8 (some .long), Cond.constantLong RX3 44 (10), Cond.methodLink RX3 40 yX3_tenTo, Cond.static yX3_tenTo]
def wsL_law_r39 : List Cond := [Cond.code yX3_tenTo cX3_tenTo 4 (some .long), Cond.methodLink RX3 46 yX3_ways, Cond.methodLink RX3 50 yX2_reach, Cond.methodLink RX3 56 yX1_limit, Cond.methodLink RX10 247 yX3_tenTo, Cond.methodLink RX10 251 yX3_commonPart, Cond.static yX3_commonPart, Cond.code yX3_commonPart cX3_commonPart 11 (some .long), Cond.methodLink RL 138 yX11_stumble, Cond.instanceMethod yX11_stumble, Cond.selects RX11 yX11_stumble yX11_stumble, Cond.code yX11_stumble cX11_stumble 13 (some .int), Cond.constantLong RX11 185 (6), Cond.methodLink RX11 187 yX11_fraction, Cond.instanceMethod yX11_fraction, Cond.selects RX11 yX11_fraction yX11_fraction, Cond.code yX11_fraction cX11_fraction 11 none, Cond.fieldLink RX11 182 "EggSpoonsModel" "above" "J", Cond.methodLink RL 139 yX10_races, Cond.instanceMethod yX10_races, Cond.selects RX10 yX10_races yX10_races, Cond.code yX10_races cX10_races 7 (some .int), Cond.constant RX10 255 (999999), Cond.constantLong RX10 260 (1103515245)]
def wsL_law_r40 : List Cond := [Cond.constantLong RX10 262 (12345), Cond.constantLong RX10 264 (2147483648), Cond.constantLong RX10 266 (65536), Cond.constantLong RX10 268 (6), Cond.constantLong RX10 270 (1048576), Cond.constantLong RX10 272 (10), Cond.methodLink RX10 256 yX5_copyLine, Cond.instanceMethod yX5_copyLine, Cond.selects RX5 yX5_copyLine yX5_copyLine, Cond.code yX5_copyLine cX5_copyLine 3 none, Cond.methodLink RX5 58 yX8_copyFrom, Cond.methodLink RL 142 yX11_races, Cond.instanceMethod yX11_races, Cond.selects RX11 yX11_races yX11_races, Cond.code yX11_races cX11_races 7 (some .int), Cond.constantLong RX11 191 (999999), Cond.constantLong RX11 193 (1103515245), Cond.constantLong RX11 195 (12345), Cond.constantLong RX11 197 (2147483648), Cond.constantLong RX11 199 (65536), Cond.constantLong RX11 201 (1048576), Cond.methodLink RL 143 yX10_part, Cond.instanceMethod yX10_part, Cond.selects RX10 yX10_part yX10_part]
def wsL_law_r41 : List Cond := [Cond.code yX10_part cX10_part 2 (some .long), Cond.methodLink RL 147 yX11_part, Cond.instanceMethod yX11_part, Cond.selects RX11 yX11_part yX11_part, Cond.code yX11_part cX11_part 2 (some .long), Cond.methodLink RL 148 yX10_image, Cond.instanceMethod yX10_image, Cond.selects RX10 yX10_image yX10_image, Cond.code yX10_image cX10_image 2 (some .int), Cond.methodLink RX10 274 yX5_copyFrom, Cond.instanceMethod yX5_copyFrom, Cond.selects RX5 yX5_copyFrom yX5_copyFrom, Cond.code yX5_copyFrom cX5_copyFrom 2 none, Cond.methodLink RX5 62 yX5_copyLine, Cond.methodLink RX5 66 yX4_copyFrom, Cond.instanceMethod yX4_copyFrom, Cond.selects RX4 yX4_copyFrom yX4_copyFrom, Cond.code yX4_copyFrom cX4_copyFrom 2 none, Cond.methodLink RX5 69 yX7_copyFrom, Cond.instanceMethod yX7_copyFrom, Cond.selects RX7 yX7_copyFrom yX7_copyFrom, Cond.code yX7_copyFrom cX7_copyFrom 2 none, Cond.methodLink RX7 27 Lib.Math.min.name, Cond.methodLink RX7 33 arraycopyName]
def wsL_law_r42 : List Cond := [Cond.methodLink RL 151 yX11_image, Cond.instanceMethod yX11_image, Cond.selects RX11 yX11_image yX11_image, Cond.code yX11_image cX11_image 3 (some .int), Cond.methodLink RL 152 yX10_from, Cond.instanceMethod yX10_from, Cond.selects RX10 yX10_from yX10_from, Cond.code yX10_from cX10_from 2 (some .int), Cond.methodLink RL 155 yX11_from, Cond.instanceMethod yX11_from, Cond.selects RX11 yX11_from yX11_from, Cond.code yX11_from cX11_from 3 (some .int), Cond.methodLink RL 156 yX10_status, Cond.instanceMethod yX10_status, Cond.selects RX10 yX10_status yX10_status, Cond.code yX10_status cX10_status 2 (some .int), Cond.methodLink RL 159 yX11_status, Cond.instanceMethod yX11_status, Cond.selects RX11 yX11_status yX11_status, Cond.code yX11_status cX11_status 2 (some .int), Cond.methodLink RL 160 yX10_count, Cond.instanceMethod yX10_count, Cond.selects RX10 yX10_count yX10_count, Cond.code yX10_count cX10_count 2 (some .int)]
def wsL_law_r43 : List Cond := [Cond.fieldLink RX10 282 "EggSpoons$Race" "past" "LEggSpoons$Past;", Cond.fieldLink RX10 286 "EggSpoons$Past" "size" "I", Cond.methodLink RX10 276 yX5_placesTogether, Cond.instanceMethod yX5_placesTogether, Cond.selects RX5 yX5_placesTogether yX5_placesTogether, Cond.code yX5_placesTogether cX5_placesTogether 3 (some .int), Cond.fieldLink RX5 88 "EggSpoons$Runner" "place" "I", Cond.methodLink RX10 279 yX5_dropsTogether, Cond.instanceMethod yX5_dropsTogether, Cond.selects RX5 yX5_dropsTogether yX5_dropsTogether, Cond.code yX5_dropsTogether cX5_dropsTogether 3 (some .int), Cond.fieldLink RX5 91 "EggSpoons$Runner" "drops" "I", Cond.methodLink RL 163 yX11_count, Cond.instanceMethod yX11_count, Cond.selects RX11 yX11_count yX11_count, Cond.code yX11_count cX11_count 2 (some .int), Cond.methodLink RX11 268 yX11_counted, Cond.instanceMethod yX11_counted, Cond.selects RX11 yX11_counted yX11_counted, Cond.code yX11_counted cX11_counted 2 (some .int), Cond.methodLink RX11 265 yX11_sumOf, Cond.instanceMethod yX11_sumOf, Cond.selects RX11 yX11_sumOf yX11_sumOf, Cond.code yX11_sumOf cX11_sumOf 4 (some .int)]
def wsL_law_r44 : List Cond := [Cond.methodLink RL 164 yX10_digest, Cond.instanceMethod yX10_digest, Cond.selects RX10 yX10_digest yX10_digest, Cond.code yX10_digest cX10_digest 5 (some .long), Cond.constantLong RX10 289 (1789), Cond.constantLong RX10 291 (31), Cond.methodLink RX10 293 yX10_count, Cond.methodLink RX10 296 yX7_mixInto, Cond.instanceMethod yX7_mixInto, Cond.selects RX7 yX7_mixInto yX7_mixInto, Cond.code yX7_mixInto cX7_mixInto 7 (some .long), Cond.constantLong RX7 50 (31), Cond.methodLink RL 168 yX11_digest, Cond.instanceMethod yX11_digest, Cond.selects RX11 yX11_digest yX11_digest, Cond.code yX11_digest cX11_digest 5 (some .long), Cond.constantLong RX11 273 (1789), Cond.constantLong RX11 271 (31), Cond.methodLink RX11 275 yX11_sums, Cond.instanceMethod yX11_sums, Cond.selects RX11 yX11_sums yX11_sums, Cond.code yX11_sums cX11_sums 8 (some .long)]
def wsL_law : List Cond := (wsL_law_r1 ++ (wsL_law_r2 ++ (wsL_law_r3 ++ (wsL_law_r4 ++ (wsL_law_r5 ++ (wsL_law_r6 ++ (wsL_law_r7 ++ (wsL_law_r8 ++ (wsL_law_r9 ++ (wsL_law_r10 ++ (wsL_law_r11 ++ (wsL_law_r12 ++ (wsL_law_r13 ++ (wsL_law_r14 ++ (wsL_law_r15 ++ (wsL_law_r16 ++ (wsL_law_r17 ++ (wsL_law_r18 ++ (wsL_law_r19 ++ (wsL_law_r20 ++ (wsL_law_r21 ++ (wsL_law_r22 ++ (wsL_law_r23 ++ (wsL_law_r24 ++ (wsL_law_r25 ++ (wsL_law_r26 ++ (wsL_law_r27 ++ (wsL_law_r28 ++ (wsL_law_r29 ++ (wsL_law_r30 ++ (wsL_law_r31 ++ (wsL_law_r32 ++ (wsL_law_r33 ++ (wsL_law_r34 ++ (wsL_law_r35 ++ (wsL_law_r36 ++ (wsL_law_r37 ++ (wsL_law_r38 ++ (wsL_law_r39 ++ (wsL_law_r40 ++ (wsL_law_r41 ++ (wsL_law_r42 ++ (wsL_law_r43 ++ wsL_law_r44))))))))))))))))))))))))))))))))))))))))))) ++ wsX100 ++ wsX110 ++ wsX50 ++ wsX60 ++ wsX80 ++ wsX90 ++ wsX30 ++ wsX00 ++ wsX40 ++ wsX70 ++ ([] : List Cond)
theorem mem_r {big : List Cond} (ws : List Cond) (ps : List Nat) (hp : ws = ps.filterMap (fun i => big[i]?)) : ∀ w ∈ ws, w ∈ big := by
  intro w hw
  rw [hp] at hw
  obtain ⟨i, -, hi⟩ := List.mem_filterMap.mp hw
  first | exact List.mem_of_getElem? hi | exact List.getElem?_mem hi
theorem wsL_law_r1_in : ∀ w ∈ wsL_law_r1, w ∈ lw_tbl := mem_r _ [73, 74, 54, 885, 886, 63, 75, 76, 77, 78, 79, 80, 81, 82, 55, 315, 316, 317, 245, 318, 216, 217, 59, 319] (by decide +kernel)
theorem wsL_law_r2_in : ∀ w ∈ wsL_law_r2, w ∈ lw_tbl := mem_r _ [104, 320, 321, 322, 246, 129, 58, 323, 324, 248, 249, 60, 325, 262, 263, 61, 326, 293, 294, 62, 327, 328, 83, 84] (by decide +kernel)
theorem wsL_law_r3_in : ∀ w ∈ wsL_law_r3, w ∈ lw_tbl := mem_r _ [85, 86, 179, 182, 184, 87, 187, 89, 90, 56, 190, 105, 106, 57, 192, 194, 196, 92, 93, 94, 95, 96, 107, 108] (by decide +kernel)
theorem wsL_law_r4_in : ∀ w ∈ wsL_law_r4, w ∈ lw_tbl := mem_r _ [109, 110, 115, 111, 112, 113, 114, 131, 132, 133, 219, 220, 221, 222, 223, 225, 226, 227, 228, 229, 251, 252, 253, 254] (by decide +kernel)
theorem wsL_law_r5_in : ∀ w ∈ wsL_law_r5, w ∈ lw_tbl := mem_r _ [255, 265, 266, 267, 296, 297, 298, 299, 300, 301, 302, 303, 887, 888, 889, 890, 894, 895, 896, 897, 899, 900, 901, 902] (by decide +kernel)
theorem wsL_law_r6_in : ∀ w ∈ wsL_law_r6, w ∈ lw_tbl := mem_r _ [903, 904, 910, 911, 891, 892, 893, 358, 359, 360, 361, 185, 362, 363, 364, 365, 367, 0, 368, 369, 370, 371, 372, 97] (by decide +kernel)
theorem wsL_law_r7_in : ∀ w ∈ wsL_law_r7, w ∈ lw_tbl := mem_r _ [116, 949, 950, 951, 952, 953, 954, 955, 956, 957, 958, 960, 23, 961, 962, 964, 24, 965, 373, 374, 375, 376, 377, 378] (by decide +kernel)
theorem wsL_law_r8_in : ∀ w ∈ wsL_law_r8, w ∈ lw_tbl := mem_r _ [379, 380, 381, 382, 383, 384, 134, 138, 141, 143, 148, 153, 156, 159, 966, 967, 968, 969, 970, 971, 972, 973, 974, 975] (by decide +kernel)
theorem wsL_law_r9_in : ∀ w ∈ wsL_law_r9, w ∈ lw_tbl := mem_r _ [976, 977, 978, 980, 25, 981, 982, 983, 984, 385, 386, 387, 388, 389, 390, 391, 392, 1195, 1196, 1197, 1198, 1199, 905, 393] (by decide +kernel)
theorem wsL_law_r10_in : ∀ w ∈ wsL_law_r10, w ∈ lw_tbl := mem_r _ [394, 395, 396, 1200, 1201, 1202, 1203, 397, 398, 399, 400, 401, 402, 403, 404, 405, 407, 1, 408, 186, 409, 411, 2, 412] (by decide +kernel)
theorem wsL_law_r11_in : ∀ w ∈ wsL_law_r11, w ∈ lw_tbl := mem_r _ [413, 415, 3, 416, 417, 418, 419, 420, 422, 4, 423, 424, 425, 426, 427, 429, 5, 430, 432, 434, 6, 435, 436, 437] (by decide +kernel)
theorem wsL_law_r12_in : ∀ w ∈ wsL_law_r12, w ∈ lw_tbl := mem_r _ [438, 64, 439, 1292, 440, 441, 442, 443, 444, 1293, 446, 447, 448, 449, 450, 451, 452, 453, 454, 455, 65, 456, 457, 458] (by decide +kernel)
theorem wsL_law_r13_in : ∀ w ∈ wsL_law_r13, w ∈ lw_tbl := mem_r _ [459, 460, 462, 463, 66, 464, 465, 466, 67, 467, 468, 469, 470, 471, 472, 473, 474, 475, 476, 477, 478, 480, 482, 484] (by decide +kernel)
theorem wsL_law_r14_in : ∀ w ∈ wsL_law_r14, w ∈ lw_tbl := mem_r _ [486, 7, 487, 488, 490, 8, 491, 492, 494, 9, 495, 496, 498, 500, 10, 501, 502, 504, 506, 11, 507, 188, 146, 509] (by decide +kernel)
theorem wsL_law_r15_in : ∀ w ∈ wsL_law_r15, w ∈ lw_tbl := mem_r _ [511, 12, 512, 180, 517, 518, 68, 519, 150, 513, 514, 515, 516, 521, 523, 13, 524, 525, 526, 527, 528, 529, 530, 531] (by decide +kernel)
theorem wsL_law_r16_in : ∀ w ∈ wsL_law_r16, w ∈ lw_tbl := mem_r _ [532, 533, 534, 535, 69, 536, 537, 538, 70, 539, 1204, 1205, 1206, 1207, 906, 908, 1208, 1210, 41, 1211, 907, 909, 1212, 1213] (by decide +kernel)
theorem wsL_law_r17_in : ∀ w ∈ wsL_law_r17, w ∈ lw_tbl := mem_r _ [1214, 1215, 1216, 1217, 1218, 1219, 1220, 1221, 1222, 1224, 42, 1225, 1226, 1228, 43, 1229, 1230, 1232, 44, 1233, 1234, 1236, 45, 1237] (by decide +kernel)
theorem wsL_law_r18_in : ∀ w ∈ wsL_law_r18, w ∈ lw_tbl := mem_r _ [1238, 1240, 46, 1241, 1242, 1244, 47, 1245, 1246, 1248, 48, 1249, 999, 1000, 1001, 1250, 1252, 49, 1253, 993, 994, 995, 996, 997] (by decide +kernel)
theorem wsL_law_r19_in : ∀ w ∈ wsL_law_r19, w ∈ lw_tbl := mem_r _ [998, 1002, 1003, 1004, 1005, 1006, 1007, 1008, 1009, 1010, 1011, 1012, 1013, 1014, 1015, 1016, 541, 542, 543, 544, 183, 545, 546, 547] (by decide +kernel)
theorem wsL_law_r20_in : ∀ w ∈ wsL_law_r20, w ∈ lw_tbl := mem_r _ [548, 549, 550, 551, 552, 553, 555, 554, 71, 145, 149, 154, 157, 160, 556, 557, 558, 559, 560, 561, 985, 986, 987, 988] (by decide +kernel)
theorem wsL_law_r21_in : ∀ w ∈ wsL_law_r21, w ∈ lw_tbl := mem_r _ [989, 991, 26, 992, 1017, 1018, 1019, 562, 563, 564, 565, 189, 147, 566, 568, 14, 569, 570, 1020, 1021, 1022, 1023, 1024, 1026] (by decide +kernel)
theorem wsL_law_r22_in : ∀ w ∈ wsL_law_r22, w ∈ lw_tbl := mem_r _ [27, 1027, 1028, 1029, 1030, 1031, 1033, 28, 1034, 571, 572, 573, 574, 151, 181, 1035, 1036, 1037, 1038, 1039, 575, 576, 577, 578] (by decide +kernel)
theorem wsL_law_r23_in : ∀ w ∈ wsL_law_r23, w ∈ lw_tbl := mem_r _ [579, 580, 581, 582, 583, 584, 585, 586, 1040, 1041, 1042, 1043, 587, 588, 589, 590, 591, 592, 593, 594, 1044, 1045, 1046, 1047] (by decide +kernel)
theorem wsL_law_r24_in : ∀ w ∈ wsL_law_r24, w ∈ lw_tbl := mem_r _ [1048, 1050, 29, 1051, 595, 596, 597, 598, 599, 600, 601, 602, 603, 604, 605, 606, 607, 1052, 1053, 1054, 1055, 1056, 1058, 30] (by decide +kernel)
theorem wsL_law_r25_in : ∀ w ∈ wsL_law_r25, w ∈ lw_tbl := mem_r _ [1059, 1060, 1062, 31, 1063, 608, 609, 610, 611, 612, 614, 15, 615, 616, 617, 618, 619, 1064, 1065, 1066, 1067, 1068, 1070, 32] (by decide +kernel)
theorem wsL_law_r26_in : ∀ w ∈ wsL_law_r26, w ∈ lw_tbl := mem_r _ [1071, 1072, 1074, 33, 1075, 620, 621, 622, 623, 1076, 1077, 1078, 1079, 1080, 624, 625, 626, 627, 628, 630, 16, 631, 161, 632] (by decide +kernel)
theorem wsL_law_r27_in : ∀ w ∈ wsL_law_r27, w ∈ lw_tbl := mem_r _ [634, 17, 635, 1081, 1082, 1083, 1084, 1085, 636, 637, 638, 639, 1086, 1087, 1088, 1089, 640, 641, 642, 643, 644, 646, 18, 647] (by decide +kernel)
theorem wsL_law_r28_in : ∀ w ∈ wsL_law_r28, w ∈ lw_tbl := mem_r _ [648, 1090, 1091, 1092, 1093, 649, 650, 651, 652, 653, 655, 19, 656, 1094, 1095, 1096, 1097, 657, 658, 659, 660, 661, 662, 663] (by decide +kernel)
theorem wsL_law_r29_in : ∀ w ∈ wsL_law_r29, w ∈ lw_tbl := mem_r _ [664, 1098, 1099, 1100, 1101, 665, 666, 667, 668, 193, 117, 669, 670, 671, 672, 1102, 1103, 1104, 1105, 1106, 1107, 673, 674, 675] (by decide +kernel)
theorem wsL_law_r30_in : ∀ w ∈ wsL_law_r30, w ∈ lw_tbl := mem_r _ [676, 677, 678, 679, 680, 136, 681, 682, 683, 684, 685, 686, 687, 72, 688, 689, 690, 691, 692, 693, 694, 1108, 1109, 1110] (by decide +kernel)
theorem wsL_law_r31_in : ∀ w ∈ wsL_law_r31, w ∈ lw_tbl := mem_r _ [1111, 1112, 1113, 1115, 34, 1116, 1117, 1118, 1119, 695, 696, 697, 698, 699, 701, 20, 702, 703, 705, 21, 706, 256, 707, 708] (by decide +kernel)
theorem wsL_law_r32_in : ∀ w ∈ wsL_law_r32, w ∈ lw_tbl := mem_r _ [709, 710, 711, 712, 713, 137, 140, 714, 715, 716, 717, 718, 719, 720, 721, 722, 1120, 1121, 1122, 1123, 1124, 1126, 35, 1127] (by decide +kernel)
theorem wsL_law_r33_in : ∀ w ∈ wsL_law_r33, w ∈ lw_tbl := mem_r _ [723, 724, 725, 726, 195, 1128, 1129, 1130, 1131, 727, 728, 729, 730, 197, 1132, 1133, 1134, 1135, 731, 732, 733, 734, 1136, 1137] (by decide +kernel)
theorem wsL_law_r34_in : ∀ w ∈ wsL_law_r34, w ∈ lw_tbl := mem_r _ [1138, 1139, 735, 736, 737, 738, 739, 740, 741, 742, 1140, 1141, 1142, 1143, 1144, 1146, 36, 1147, 743, 744, 745, 746, 1148, 1149] (by decide +kernel)
theorem wsL_law_r35_in : ∀ w ∈ wsL_law_r35, w ∈ lw_tbl := mem_r _ [1150, 1151, 747, 748, 749, 750, 751, 752, 753, 754, 755, 756, 757, 758, 759, 1152, 1153, 1154, 1155, 1156, 1158, 37, 1159, 760] (by decide +kernel)
theorem wsL_law_r36_in : ∀ w ∈ wsL_law_r36, w ∈ lw_tbl := mem_r _ [761, 762, 763, 1160, 1161, 1162, 1163, 764, 765, 766, 767, 768, 770, 22, 771, 772, 773, 774, 775, 776, 777, 778, 779, 780] (by decide +kernel)
theorem wsL_law_r37_in : ∀ w ∈ wsL_law_r37, w ∈ lw_tbl := mem_r _ [781, 782, 786, 783, 784, 785, 787, 788, 789, 790, 1164, 1165, 1166, 1167, 1168, 1170, 38, 1171, 1172, 1174, 39, 1175, 791, 792] (by decide +kernel)
theorem wsL_law_r38_in : ∀ w ∈ wsL_law_r38, w ∈ lw_tbl := mem_r _ [793, 794, 158, 795, 796, 797, 798, 135, 268, 139, 269, 142, 270, 144, 271, 272, 273, 274, 275, 800, 801, 805, 802, 803] (by decide +kernel)
theorem wsL_law_r39_in : ∀ w ∈ wsL_law_r39, w ∈ lw_tbl := mem_r _ [804, 806, 807, 808, 809, 810, 811, 812, 1176, 1177, 1178, 1179, 1180, 1181, 1183, 40, 1184, 898, 813, 814, 815, 816, 817, 823] (by decide +kernel)
theorem wsL_law_r40_in : ∀ w ∈ wsL_law_r40, w ∈ lw_tbl := mem_r _ [824, 825, 826, 827, 828, 829, 818, 819, 820, 821, 822, 1185, 1186, 1187, 1188, 1189, 1190, 1191, 1192, 1193, 1194, 830, 831, 832] (by decide +kernel)
theorem wsL_law_r41_in : ∀ w ∈ wsL_law_r41, w ∈ lw_tbl := mem_r _ [833, 1254, 1255, 1256, 1257, 834, 835, 836, 837, 838, 839, 840, 841, 842, 843, 844, 845, 846, 847, 848, 849, 850, 851, 852] (by decide +kernel)
theorem wsL_law_r42_in : ∀ w ∈ wsL_law_r42, w ∈ lw_tbl := mem_r _ [1258, 1259, 1260, 1261, 853, 854, 855, 856, 1262, 1263, 1264, 1265, 857, 858, 859, 860, 1266, 1267, 1268, 1269, 861, 862, 863, 864] (by decide +kernel)
theorem wsL_law_r43_in : ∀ w ∈ wsL_law_r43, w ∈ lw_tbl := mem_r _ [191, 98, 865, 866, 867, 868, 152, 869, 870, 871, 872, 155, 1270, 1271, 1272, 1273, 1274, 1276, 50, 1277, 1278, 1280, 51, 1281] (by decide +kernel)
theorem wsL_law_r44_in : ∀ w ∈ wsL_law_r44, w ∈ lw_tbl := mem_r _ [873, 874, 875, 876, 877, 878, 879, 880, 881, 882, 883, 884, 1282, 1283, 1284, 1285, 1286, 1287, 1288, 1290, 52, 1291] (by decide +kernel)
theorem wsX100_in : ∀ w ∈ wsX100, w ∈ lw_tbl := mem_r _ [329, 331, 333, 335, 337, 339, 341, 343, 345, 347, 349, 351, 353, 355] (by decide +kernel)
theorem wsX110_in : ∀ w ∈ wsX110, w ∈ lw_tbl := mem_r _ [912, 914, 916, 918, 920, 922, 924, 926, 928, 930, 932, 934, 936, 938, 940, 942, 944, 946] (by decide +kernel)
theorem wsX50_in : ∀ w ∈ wsX50, w ∈ lw_tbl := mem_r _ [198, 200, 202, 204, 206, 208, 210, 212] (by decide +kernel)
theorem wsX60_in : ∀ w ∈ wsX60, w ∈ lw_tbl := mem_r _ [230, 232, 234, 236, 238, 240, 242] (by decide +kernel)
theorem wsX80_in : ∀ w ∈ wsX80, w ∈ lw_tbl := mem_r _ [162, 164, 166, 168, 170, 172, 174, 176] (by decide +kernel)
theorem wsX90_in : ∀ w ∈ wsX90, w ∈ lw_tbl := mem_r _ [257, 259] (by decide +kernel)
theorem wsX30_in : ∀ w ∈ wsX30, w ∈ lw_tbl := mem_r _ [276, 278, 280, 282, 284, 286, 288, 290] (by decide +kernel)
theorem wsX00_in : ∀ w ∈ wsX00, w ∈ lw_tbl := mem_r _ [304, 306, 308, 310, 312] (by decide +kernel)
theorem wsX40_in : ∀ w ∈ wsX40, w ∈ lw_tbl := mem_r _ [99, 101] (by decide +kernel)
theorem wsX70_in : ∀ w ∈ wsX70, w ∈ lw_tbl := mem_r _ [118, 120, 122, 124, 126] (by decide +kernel)
theorem app_in {a b : List Cond} (ha : ∀ w ∈ a, w ∈ lw_tbl) (hb : ∀ w ∈ b, w ∈ lw_tbl) : ∀ w ∈ a ++ b, w ∈ lw_tbl := fun w h => (List.mem_append.mp h).elim (ha w) (hb w)
theorem wsL_law_in : ∀ w ∈ wsL_law, w ∈ lw_tbl := (app_in (app_in (app_in (app_in (app_in (app_in (app_in (app_in (app_in (app_in (app_in (app_in wsL_law_r1_in (app_in wsL_law_r2_in (app_in wsL_law_r3_in (app_in wsL_law_r4_in (app_in wsL_law_r5_in (app_in wsL_law_r6_in (app_in wsL_law_r7_in (app_in wsL_law_r8_in (app_in wsL_law_r9_in (app_in wsL_law_r10_in (app_in wsL_law_r11_in (app_in wsL_law_r12_in (app_in wsL_law_r13_in (app_in wsL_law_r14_in (app_in wsL_law_r15_in (app_in wsL_law_r16_in (app_in wsL_law_r17_in (app_in wsL_law_r18_in (app_in wsL_law_r19_in (app_in wsL_law_r20_in (app_in wsL_law_r21_in (app_in wsL_law_r22_in (app_in wsL_law_r23_in (app_in wsL_law_r24_in (app_in wsL_law_r25_in (app_in wsL_law_r26_in (app_in wsL_law_r27_in (app_in wsL_law_r28_in (app_in wsL_law_r29_in (app_in wsL_law_r30_in (app_in wsL_law_r31_in (app_in wsL_law_r32_in (app_in wsL_law_r33_in (app_in wsL_law_r34_in (app_in wsL_law_r35_in (app_in wsL_law_r36_in (app_in wsL_law_r37_in (app_in wsL_law_r38_in (app_in wsL_law_r39_in (app_in wsL_law_r40_in (app_in wsL_law_r41_in (app_in wsL_law_r42_in (app_in wsL_law_r43_in wsL_law_r44_in))))))))))))))))))))))))))))))))))))))))))) wsX100_in) wsX110_in) wsX50_in) wsX60_in) wsX80_in) wsX90_in) wsX30_in) wsX00_in) wsX40_in) wsX70_in) (fun _ h => absurd h List.not_mem_nil))
theorem inlX0 : ∀ w ∈ wsX00, w ∈ wsL_law := fun _ h => List.mem_append_left _ (List.mem_append_left _ (List.mem_append_left _ (List.mem_append_right _ h)))
theorem inX0 : ∀ w ∈ wsX00, w ∈ lw_tbl := fun w h => wsL_law_in w (inlX0 w h)
theorem inX1 : ∀ w ∈ wsX10, w ∈ lw_tbl := by decide +kernel
theorem inX2 : ∀ w ∈ wsX20, w ∈ lw_tbl := by decide +kernel
theorem inlX3 : ∀ w ∈ wsX30, w ∈ wsL_law := fun _ h => List.mem_append_left _ (List.mem_append_left _ (List.mem_append_left _ (List.mem_append_left _ (List.mem_append_right _ h))))
theorem inX3 : ∀ w ∈ wsX30, w ∈ lw_tbl := fun w h => wsL_law_in w (inlX3 w h)
theorem inlX4 : ∀ w ∈ wsX40, w ∈ wsL_law := fun _ h => List.mem_append_left _ (List.mem_append_left _ (List.mem_append_right _ h))
theorem inX4 : ∀ w ∈ wsX40, w ∈ lw_tbl := fun w h => wsL_law_in w (inlX4 w h)
theorem inlX5 : ∀ w ∈ wsX50, w ∈ wsL_law := fun _ h => List.mem_append_left _ (List.mem_append_left _ (List.mem_append_left _ (List.mem_append_left _ (List.mem_append_left _ (List.mem_append_left _ (List.mem_append_left _ (List.mem_append_left _ (List.mem_append_right _ h))))))))
theorem inX5 : ∀ w ∈ wsX50, w ∈ lw_tbl := fun w h => wsL_law_in w (inlX5 w h)
theorem inlX6 : ∀ w ∈ wsX60, w ∈ wsL_law := fun _ h => List.mem_append_left _ (List.mem_append_left _ (List.mem_append_left _ (List.mem_append_left _ (List.mem_append_left _ (List.mem_append_left _ (List.mem_append_left _ (List.mem_append_right _ h)))))))
theorem inX6 : ∀ w ∈ wsX60, w ∈ lw_tbl := fun w h => wsL_law_in w (inlX6 w h)
theorem inlX7 : ∀ w ∈ wsX70, w ∈ wsL_law := fun _ h => List.mem_append_left _ (List.mem_append_right _ h)
theorem inX7 : ∀ w ∈ wsX70, w ∈ lw_tbl := fun w h => wsL_law_in w (inlX7 w h)
theorem inlX8 : ∀ w ∈ wsX80, w ∈ wsL_law := fun _ h => List.mem_append_left _ (List.mem_append_left _ (List.mem_append_left _ (List.mem_append_left _ (List.mem_append_left _ (List.mem_append_left _ (List.mem_append_right _ h))))))
theorem inX8 : ∀ w ∈ wsX80, w ∈ lw_tbl := fun w h => wsL_law_in w (inlX8 w h)
theorem inlX9 : ∀ w ∈ wsX90, w ∈ wsL_law := fun _ h => List.mem_append_left _ (List.mem_append_left _ (List.mem_append_left _ (List.mem_append_left _ (List.mem_append_left _ (List.mem_append_right _ h)))))
theorem inX9 : ∀ w ∈ wsX90, w ∈ lw_tbl := fun w h => wsL_law_in w (inlX9 w h)
theorem inlX10 : ∀ w ∈ wsX100, w ∈ wsL_law := fun _ h => List.mem_append_left _ (List.mem_append_left _ (List.mem_append_left _ (List.mem_append_left _ (List.mem_append_left _ (List.mem_append_left _ (List.mem_append_left _ (List.mem_append_left _ (List.mem_append_left _ (List.mem_append_left _ (List.mem_append_right _ h))))))))))
theorem inX10 : ∀ w ∈ wsX100, w ∈ lw_tbl := fun w h => wsL_law_in w (inlX10 w h)
theorem inlX11 : ∀ w ∈ wsX110, w ∈ wsL_law := fun _ h => List.mem_append_left _ (List.mem_append_left _ (List.mem_append_left _ (List.mem_append_left _ (List.mem_append_left _ (List.mem_append_left _ (List.mem_append_left _ (List.mem_append_left _ (List.mem_append_left _ (List.mem_append_right _ h)))))))))
theorem inX11 : ∀ w ∈ wsX110, w ∈ lw_tbl := fun w h => wsL_law_in w (inlX11 w h)
theorem inJ6 : ∀ w ∈ wsJ60, w ∈ lw_tbl := by decide +kernel
theorem inJ9 : ∀ w ∈ wsJ90, w ∈ lw_tbl := by decide +kernel
theorem inJ0 : ∀ w ∈ wsJ00, w ∈ lw_tbl := by decide +kernel
theorem inJ1 : ∀ w ∈ wsJ10, w ∈ lw_tbl := by decide +kernel
theorem inJ2 : ∀ w ∈ wsJ20, w ∈ lw_tbl := by decide +kernel
theorem inJ10 : ∀ w ∈ wsJ100, w ∈ lw_tbl := by decide +kernel
theorem inJ3 : ∀ w ∈ wsJ30, w ∈ lw_tbl := by decide +kernel
abbrev vwCl : List vw_C := [(RX0, TX0, 5), (RX3, TX3, 8), (RX4, TX4, 2), (RX5, TX5, 8), (RX6, TX6, 7), (RX7, TX7, 5), (RX8, TX8, 8), (RX9, TX9, 2), (RX10, TX10, 14), (RX11, TX11, 18)]
end
section
set_option maxRecDepth 20000 in
theorem ggX5_init_X4_init : GoodIn wsX5_init wsX4_init := goodIn_r _ [22, 23, 2, 3, 24, 25, 26, 47, 48] (by decide +kernel) (by decide +kernel)
set_option maxRecDepth 20000 in
theorem gX5_init_X4_init_n29 : GoodIn wsX5_init (wsX4_init) := ggX5_init_X4_init
set_option maxRecDepth 20000 in
theorem ggX5_init_X7_init : GoodIn wsX5_init wsX7_init := goodIn_r _ [29, 30, 2, 3, 31, 32, 33, 34, 24, 35, 49, 50, 51, 52, 53] (by decide +kernel) (by decide +kernel)
set_option maxRecDepth 20000 in
theorem gX5_init_X7_init : GoodIn wsX5_init (wsX7_init) := ggX5_init_X7_init
set_option maxRecDepth 20000 in
theorem ggX5_init_X8_init : GoodIn wsX5_init wsX8_init := goodIn_r _ [37, 38, 2, 3] (by decide +kernel) (by decide +kernel)
set_option maxRecDepth 20000 in
theorem gX5_init_X8_init_n49 : GoodIn wsX5_init (wsX8_init) := ggX5_init_X8_init
set_option maxRecDepth 20000 in
theorem ggX5_welcome_X8_begin : GoodIn wsX5_welcome wsX8_begin := goodIn_r _ [9, 10, 11, 12, 13, 14, 15, 16, 17, 28, 29, 30, 31, 32, 33, 34, 35] (by decide +kernel) (by decide +kernel)
set_option maxRecDepth 20000 in
theorem gX5_welcome_X8_begin : GoodIn wsX5_welcome (wsV RX5 54 RX8 yX8_begin wsX8_begin) := goodIn_app (goodIn_of _ (by decide +kernel)) ggX5_welcome_X8_begin
set_option maxRecDepth 20000 in
theorem ggX5_copyLine_X8_copyFrom : GoodIn wsX5_copyLine wsX8_copyFrom := goodIn_r _ [9, 10, 11, 12, 13, 14, 15, 16, 17, 26, 27, 28, 29, 30, 31, 32, 33] (by decide +kernel) (by decide +kernel)
set_option maxRecDepth 20000 in
theorem gX5_copyLine_X8_copyFrom : GoodIn wsX5_copyLine (wsV RX5 58 RX8 yX8_copyFrom wsX8_copyFrom) := goodIn_app (goodIn_of _ (by decide +kernel)) ggX5_copyLine_X8_copyFrom
set_option maxRecDepth 20000 in
theorem ggX5_copyFrom_X5_copyLine : GoodIn wsX5_copyFrom wsX5_copyLine := goodIn_r _ [9, 10, 11, 12, 13, 14, 15, 16, 17, 18, 19, 20, 21, 22, 23, 24, 25, 26, 50, 51, 52, 53, 54, 55, 56, 57, 58, 59, 60, 61, 62, 63, 64, 65] (by decide +kernel) (by decide +kernel)
set_option maxRecDepth 20000 in
theorem gX5_copyFrom_X5_copyLine : GoodIn wsX5_copyFrom (wsV RX5 62 RX5 yX5_copyLine wsX5_copyLine) := goodIn_app (goodIn_of _ (by decide +kernel)) ggX5_copyFrom_X5_copyLine
set_option maxRecDepth 20000 in
theorem ggX5_copyFrom_X4_copyFrom : GoodIn wsX5_copyFrom wsX4_copyFrom := goodIn_r _ [31, 32, 33, 34, 35, 36, 37, 66, 67] (by decide +kernel) (by decide +kernel)
set_option maxRecDepth 20000 in
theorem gX5_copyFrom_X4_copyFrom : GoodIn wsX5_copyFrom (wsV RX5 66 RX4 yX4_copyFrom wsX4_copyFrom) := goodIn_app (goodIn_of _ (by decide +kernel)) ggX5_copyFrom_X4_copyFrom
set_option maxRecDepth 20000 in
theorem ggX5_copyFrom_X7_copyFrom : GoodIn wsX5_copyFrom wsX7_copyFrom := goodIn_r _ [42, 43, 44, 45, 46, 47, 48, 49, 35, 36, 37, 68, 69, 70, 71, 72] (by decide +kernel) (by decide +kernel)
set_option maxRecDepth 20000 in
theorem gX5_copyFrom_X7_copyFrom : GoodIn wsX5_copyFrom (wsV RX5 69 RX7 yX7_copyFrom wsX7_copyFrom) := goodIn_app (goodIn_of _ (by decide +kernel)) ggX5_copyFrom_X7_copyFrom
set_option maxRecDepth 20000 in
theorem ggX5_keep_X4_push : GoodIn wsX5_keep wsX4_push := goodIn_r _ [8, 9, 10, 11, 12, 13, 14, 15, 16, 17, 18, 19, 28, 29, 30, 31, 32, 33, 34, 35, 36, 37] (by decide +kernel) (by decide +kernel)
set_option maxRecDepth 20000 in
theorem gX5_keep_X4_push : GoodIn wsX5_keep (wsV RX5 76 RX4 yX4_push wsX4_push) := goodIn_app (goodIn_of _ (by decide +kernel)) ggX5_keep_X4_push
set_option maxRecDepth 20000 in
theorem ggX5_takeBack_X4_pop : GoodIn wsX5_takeBack wsX4_pop := goodIn_r _ [8, 9, 10, 11, 12, 13, 14, 15, 24, 25, 26, 27, 28, 29, 30, 31, 32, 33] (by decide +kernel) (by decide +kernel)
set_option maxRecDepth 20000 in
theorem gX5_takeBack_X4_pop : GoodIn wsX5_takeBack (wsV RX5 80 RX4 yX4_pop wsX4_pop) := goodIn_app (goodIn_of _ (by decide +kernel)) ggX5_takeBack_X4_pop
set_option maxRecDepth 20000 in
theorem ggX6_takeRace_X6_takeItem : GoodIn wsX6_takeRace wsX6_takeItem := goodIn_r _ [8, 9, 10, 2, 11, 12, 13, 14, 7, 15, 1, 3, 16, 17, 18, 19, 20, 21, 22, 23, 24, 25, 26, 27, 28, 29, 30, 31, 32, 33, 34, 35, 36, 37, 38, 39, 40, 41, 42, 43, 44, 45, 46, 47, 48, 49, 50, 51, 52, 53, 54, 55, 56, 57, 58, 59, 60, 61, 62, 63, 64, 65, 66, 67, 68, 69, 70, 71, 72, 73, 74, 75, 76, 77, 78, 79, 80, 81, 82, 83, 84, 85, 86, 87, 88, 89, 90, 91, 92, 93, 94, 95, 96, 97, 98, 99, 100, 101, 102, 103, 104, 105, 106, 107, 108, 109, 110, 111, 112, 113, 114, 115, 116, 117, 118, 119, 120, 121, 122, 123, 124, 125, 126, 127, 128, 129, 130, 131, 132, 133, 134, 135, 136, 137, 138, 139, 140, 141, 142, 143, 144, 145, 146, 147, 148, 149, 150, 151, 152, 153, 154, 155, 156, 157, 158, 159, 160, 161, 162, 163, 164, 165, 166, 167, 168, 169, 170, 171, 172, 173, 174, 175, 176, 177, 178, 179, 180, 181, 182, 183, 184, 185, 186, 187, 188, 189, 190, 191, 192, 193, 194, 195, 196, 197, 198, 199, 200, 201, 202, 203, 204, 205, 206, 207] (by decide +kernel) (by decide +kernel)
set_option maxRecDepth 20000 in
theorem gX6_takeRace_X6_takeItem : GoodIn wsX6_takeRace (wsV RX6 34 RX6 yX6_takeItem wsX6_takeItem) := goodIn_app (goodIn_of _ (by decide +kernel)) ggX6_takeRace_X6_takeItem
set_option maxRecDepth 20000 in
theorem ggX6_takeRace_X6_skipBlanks : GoodIn wsX6_takeRace wsX6_skipBlanks := goodIn_r _ [20, 1, 3, 16, 178, 179, 180, 181, 182, 183, 184] (by decide +kernel) (by decide +kernel)
set_option maxRecDepth 20000 in
theorem gX6_takeRace_X6_skipBlanks : GoodIn wsX6_takeRace (wsV RX6 38 RX6 yX6_skipBlanks wsX6_skipBlanks) := goodIn_app (goodIn_of _ (by decide +kernel)) ggX6_takeRace_X6_skipBlanks
set_option maxRecDepth 20000 in
theorem ggX6_takeItem_X6_nextToken : GoodIn wsX6_takeItem wsX6_nextToken := goodIn_r _ [9, 10, 2, 11, 1, 12, 13, 14, 15, 8, 16, 17, 18, 19, 20, 21, 22, 23, 24, 25, 26, 27, 28, 29, 30, 31, 174, 175, 176, 177, 178, 179, 180] (by decide +kernel) (by decide +kernel)
set_option maxRecDepth 20000 in
theorem gX6_takeItem_X6_nextToken : GoodIn wsX6_takeItem (wsV RX6 41 RX6 yX6_nextToken wsX6_nextToken) := goodIn_app (goodIn_of _ (by decide +kernel)) ggX6_takeItem_X6_nextToken
set_option maxRecDepth 20000 in
theorem ggX6_nextToken_X6_skipBlanks : GoodIn wsX6_nextToken wsX6_skipBlanks := goodIn_r _ [10, 1, 3, 5, 26, 27, 28, 29, 30, 31, 32] (by decide +kernel) (by decide +kernel)
set_option maxRecDepth 20000 in
theorem gX6_nextToken_X6_skipBlanks : GoodIn wsX6_nextToken (wsV RX6 38 RX6 yX6_skipBlanks wsX6_skipBlanks) := goodIn_app (goodIn_of _ (by decide +kernel)) ggX6_nextToken_X6_skipBlanks
set_option maxRecDepth 20000 in
theorem ggX10_init_X5_init : GoodIn wsX10_init wsX5_init := goodIn_r _ [40, 41, 2, 3, 42, 43, 44, 45, 46, 47, 48, 49, 50, 51, 52, 53, 54, 55, 56, 21, 22, 57, 58, 59, 16, 60, 61, 62, 63, 64, 65, 66, 67, 68, 69, 70, 71, 72, 73, 100, 101, 102, 103, 104, 105, 106, 107, 152, 153, 154, 155, 156, 157, 158, 129, 130, 131, 132, 133, 134, 135, 136] (by decide +kernel) (by decide +kernel)
set_option maxRecDepth 20000 in
theorem gX10_init_X5_init : GoodIn wsX10_init (wsX5_init) := ggX10_init_X5_init
set_option maxRecDepth 20000 in
theorem ggX10_init_X6_init : GoodIn wsX10_init wsX6_init := goodIn_r _ [75, 76, 2, 3, 16, 77, 78, 79, 80, 81, 82, 83, 122, 123, 124, 125, 126, 127, 128] (by decide +kernel) (by decide +kernel)
set_option maxRecDepth 20000 in
theorem gX10_init_X6_init_n29 : GoodIn wsX10_init (wsX6_init) := ggX10_init_X6_init
set_option maxRecDepth 20000 in
theorem ggX10_init_X8_init : GoodIn wsX10_init wsX8_init := goodIn_r _ [72, 73, 2, 3] (by decide +kernel) (by decide +kernel)
set_option maxRecDepth 20000 in
theorem gX10_init_X8_init_n47 : GoodIn wsX10_init (wsX8_init) := ggX10_init_X8_init
set_option maxRecDepth 20000 in
theorem ggX10_init_X9_init : GoodIn wsX10_init wsX9_init := goodIn_r _ [85, 86, 2, 3, 16, 87, 88, 137, 138] (by decide +kernel) (by decide +kernel)
set_option maxRecDepth 20000 in
theorem gX10_init_X9_init_n57 : GoodIn wsX10_init (wsX9_init) := ggX10_init_X9_init
set_option maxRecDepth 20000 in
theorem ggX10_init_X3_init : GoodIn wsX10_init wsX3_init := goodIn_r _ [90, 91, 2, 3] (by decide +kernel) (by decide +kernel)
set_option maxRecDepth 20000 in
theorem gX10_init_X3_init_n64 : GoodIn wsX10_init (wsX3_init) := ggX10_init_X3_init
set_option maxRecDepth 20000 in
theorem ggX10_init_X0_init : GoodIn wsX10_init wsX0_init := goodIn_r _ [93, 94, 2, 3, 16, 95, 96, 97, 98, 99, 147, 148, 149, 150, 151] (by decide +kernel) (by decide +kernel)
set_option maxRecDepth 20000 in
theorem gX10_init_X0_init_n71 : GoodIn wsX10_init (wsX0_init) := ggX10_init_X0_init
set_option maxRecDepth 20000 in
theorem ggX10_race_X10_within : GoodIn wsX10_race wsX10_within := goodIn_r _ [6] (by decide +kernel) (by decide +kernel)
set_option maxRecDepth 20000 in
theorem gX10_race_X10_within : GoodIn wsX10_race (va_wsS RX10 79 yX10_within wsX10_within) := goodIn_app (goodIn_of _ (by decide +kernel)) ggX10_race_X10_within
set_option maxRecDepth 20000 in
theorem ggX10_race_X10_refuse : GoodIn wsX10_race wsX10_refuse := goodIn_r _ [10, 11, 26, 27, 28, 29, 30, 31, 32, 33, 34, 35, 36, 37, 38, 39] (by decide +kernel) (by decide +kernel)
set_option maxRecDepth 20000 in
theorem gX10_race_X10_refuse : GoodIn wsX10_race (wsV RX10 83 RX10 yX10_refuse wsX10_refuse) := goodIn_app (goodIn_of _ (by decide +kernel)) ggX10_race_X10_refuse
set_option maxRecDepth 20000 in
theorem ggX10_race_X5_restart : GoodIn wsX10_race wsX5_restart := goodIn_r _ [16, 17, 18, 19, 20, 21, 22, 23, 24, 25, 40, 41, 42, 43, 44, 45, 46, 47, 48, 49, 50, 51, 52, 53, 54] (by decide +kernel) (by decide +kernel)
set_option maxRecDepth 20000 in
theorem gX10_race_X5_restart : GoodIn wsX10_race (wsV RX10 91 RX5 yX5_restart wsX5_restart) := goodIn_app (goodIn_of _ (by decide +kernel)) ggX10_race_X5_restart
set_option maxRecDepth 20000 in
theorem ggX10_one_X10_within : GoodIn wsX10_one wsX10_within := goodIn_r _ [6] (by decide +kernel) (by decide +kernel)
set_option maxRecDepth 20000 in
theorem gX10_one_X10_within : GoodIn wsX10_one (va_wsS RX10 79 yX10_within wsX10_within) := goodIn_app (goodIn_of _ (by decide +kernel)) ggX10_one_X10_within
set_option maxRecDepth 20000 in
theorem ggX10_one_X10_refuse : GoodIn wsX10_one wsX10_refuse := goodIn_r _ [10, 11, 34, 35, 36, 37, 38, 39, 40, 41, 42, 43, 44, 45, 46, 47] (by decide +kernel) (by decide +kernel)
set_option maxRecDepth 20000 in
theorem gX10_one_X10_refuse : GoodIn wsX10_one (wsV RX10 83 RX10 yX10_refuse wsX10_refuse) := goodIn_app (goodIn_of _ (by decide +kernel)) ggX10_one_X10_refuse
set_option maxRecDepth 20000 in
theorem ggX10_one_X5_welcome : GoodIn wsX10_one wsX5_welcome := goodIn_r _ [16, 17, 18, 19, 20, 21, 22, 23, 24, 25, 26, 27, 28, 29, 30, 31, 32, 33, 48, 49, 50, 51, 52, 53, 54, 55, 56, 57, 58, 59, 60, 61, 62, 63, 64, 65] (by decide +kernel) (by decide +kernel)
set_option maxRecDepth 20000 in
theorem gX10_one_X5_welcome : GoodIn wsX10_one (wsV RX10 95 RX5 yX5_welcome wsX5_welcome) := goodIn_app (goodIn_of _ (by decide +kernel)) ggX10_one_X5_welcome
set_option maxRecDepth 20000 in
theorem ggX10_type_X10_within : GoodIn wsX10_type wsX10_within := goodIn_r _ [5] (by decide +kernel) (by decide +kernel)
set_option maxRecDepth 20000 in
theorem gX10_type_X10_within : GoodIn wsX10_type (va_wsS RX10 79 yX10_within wsX10_within) := goodIn_app (goodIn_of _ (by decide +kernel)) ggX10_type_X10_within
set_option maxRecDepth 20000 in
theorem ggX10_type_X10_refuse : GoodIn wsX10_type wsX10_refuse := goodIn_r _ [9, 10, 18, 19, 20, 21, 22, 23, 24, 25, 26, 27, 28, 29, 30, 31] (by decide +kernel) (by decide +kernel)
set_option maxRecDepth 20000 in
theorem gX10_type_X10_refuse : GoodIn wsX10_type (wsV RX10 83 RX10 yX10_refuse wsX10_refuse) := goodIn_app (goodIn_of _ (by decide +kernel)) ggX10_type_X10_refuse
set_option maxRecDepth 20000 in
theorem ggX10_type_X6_append : GoodIn wsX10_type wsX6_append := goodIn_r _ [15, 16, 17, 32, 33, 34, 35, 36, 37, 38] (by decide +kernel) (by decide +kernel)
set_option maxRecDepth 20000 in
theorem gX10_type_X6_append : GoodIn wsX10_type (wsV RX10 99 RX6 yX6_append wsX6_append) := goodIn_app (goodIn_of _ (by decide +kernel)) ggX10_type_X6_append
set_option maxRecDepth 20000 in
theorem ggX10_read_X6_takeRace : GoodIn wsX10_read wsX6_takeRace := goodIn_r _ [8, 9, 10, 11, 12, 13, 14, 7, 15, 16, 17, 18, 19, 20, 21, 22, 23, 24, 25, 26, 27, 28, 29, 30, 31, 32, 33, 34, 35, 36, 37, 38, 39, 40, 41, 42, 43, 44, 45, 46, 47, 48, 49, 50, 51, 52, 53, 54, 55, 56, 57, 58, 59, 60, 61, 62, 63, 64, 65, 66, 67, 68, 69, 70, 71, 72, 73, 74, 75, 76, 77, 78, 79, 80, 81, 82, 83, 84, 85, 86, 87, 88, 89, 90, 91, 92, 93, 94, 95, 96, 97, 98, 99, 100, 101, 102, 103, 104, 105, 106, 107, 108, 109, 110, 111, 112, 113, 114, 115, 116, 117, 118, 119, 120, 121, 122, 123, 124, 125, 126, 127, 128, 129, 130, 131, 132, 133, 134, 135, 136, 137, 138, 139, 140, 141, 142, 143, 144, 145, 146, 147, 148, 149, 150, 151, 152, 153, 154, 155, 156, 157, 158, 159, 160, 161, 162, 163, 164, 165, 166, 167, 168, 169, 170, 171, 172, 173, 174, 175, 176, 177, 178, 179, 180, 181, 182, 183, 184, 199, 200, 201, 202, 203, 204, 205, 206, 207, 208, 209, 210, 211, 212, 213, 214, 215, 216, 217, 218, 219, 220, 221, 222, 223, 224, 225, 226, 227, 228] (by decide +kernel) (by decide +kernel)
set_option maxRecDepth 20000 in
theorem gX10_read_X6_takeRace : GoodIn wsX10_read (wsV RX10 106 RX6 yX6_takeRace wsX6_takeRace) := goodIn_app (goodIn_of _ (by decide +kernel)) ggX10_read_X6_takeRace
set_option maxRecDepth 20000 in
theorem ggX10_ticks_X10_within : GoodIn wsX10_ticks wsX10_within := goodIn_r _ [6] (by decide +kernel) (by decide +kernel)
set_option maxRecDepth 20000 in
theorem gX10_ticks_X10_within : GoodIn wsX10_ticks (va_wsS RX10 79 yX10_within wsX10_within) := goodIn_app (goodIn_of _ (by decide +kernel)) ggX10_ticks_X10_within
set_option maxRecDepth 20000 in
theorem ggX10_ticks_X10_refuse : GoodIn wsX10_ticks wsX10_refuse := goodIn_r _ [10, 11, 72, 73, 74, 75, 76, 77, 78, 79, 80, 81, 82, 83, 84, 85] (by decide +kernel) (by decide +kernel)
set_option maxRecDepth 20000 in
theorem gX10_ticks_X10_refuse : GoodIn wsX10_ticks (wsV RX10 83 RX10 yX10_refuse wsX10_refuse) := goodIn_app (goodIn_of _ (by decide +kernel)) ggX10_ticks_X10_refuse
set_option maxRecDepth 20000 in
theorem ggX10_ticks_X5_keep : GoodIn wsX10_ticks wsX5_keep := goodIn_r _ [16, 17, 18, 19, 20, 21, 22, 23, 24, 25, 26, 27, 28, 29, 30, 31, 32, 33, 34, 35, 86, 87, 88, 89, 90, 91, 92, 93, 94, 95, 96, 97, 98, 99, 100, 101, 102, 103] (by decide +kernel) (by decide +kernel)
set_option maxRecDepth 20000 in
theorem gX10_ticks_X5_keep : GoodIn wsX10_ticks (wsV RX10 113 RX5 yX5_keep wsX5_keep) := goodIn_app (goodIn_of _ (by decide +kernel)) ggX10_ticks_X5_keep
set_option maxRecDepth 20000 in
theorem ggX10_ticks_X5_goOn : GoodIn wsX10_ticks wsX5_goOn := goodIn_r _ [39, 18, 40, 19, 41, 42, 43, 44, 45, 46, 47, 48, 49, 50, 51, 52, 53, 54, 55, 56, 57, 58, 59, 60, 61, 62, 63, 64, 65, 66, 86, 87, 88, 89, 90, 91, 92, 93, 96, 97, 98, 99, 100, 101, 102, 103] (by decide +kernel) (by decide +kernel)
set_option maxRecDepth 20000 in
theorem gX10_ticks_X5_goOn : GoodIn wsX10_ticks (wsV RX10 116 RX5 yX5_goOn wsX5_goOn) := goodIn_app (goodIn_of _ (by decide +kernel)) ggX10_ticks_X5_goOn
set_option maxRecDepth 20000 in
theorem ggX10_ticks_X5_homes : GoodIn wsX10_ticks wsX5_homes := goodIn_r _ [70, 40, 19, 71, 56, 57, 45, 58, 54, 86, 87, 88, 89, 90, 91, 92, 93, 96, 97, 98, 99, 100, 101, 102, 103] (by decide +kernel) (by decide +kernel)
set_option maxRecDepth 20000 in
theorem gX10_ticks_X5_homes : GoodIn wsX10_ticks (wsV RX10 119 RX5 yX5_homes wsX5_homes) := goodIn_app (goodIn_of _ (by decide +kernel)) ggX10_ticks_X5_homes
set_option maxRecDepth 20000 in
theorem ggX10_speed_X10_there : GoodIn wsX10_speed wsX10_there := goodIn_r _ [8, 1, 9, 48, 49, 50, 51, 52, 53, 54, 55, 56, 57, 58, 59, 60, 61, 62, 63, 64, 65, 66, 67, 68, 69] (by decide +kernel) (by decide +kernel)
set_option maxRecDepth 20000 in
theorem gX10_speed_X10_there : GoodIn wsX10_speed (wsV RX10 123 RX10 yX10_there wsX10_there) := goodIn_app (goodIn_of _ (by decide +kernel)) ggX10_speed_X10_there
set_option maxRecDepth 20000 in
theorem ggX10_speed_X10_within : GoodIn wsX10_speed wsX10_within := goodIn_r _ [12] (by decide +kernel) (by decide +kernel)
set_option maxRecDepth 20000 in
theorem gX10_speed_X10_within : GoodIn wsX10_speed (va_wsS RX10 79 yX10_within wsX10_within) := goodIn_app (goodIn_of _ (by decide +kernel)) ggX10_speed_X10_within
set_option maxRecDepth 20000 in
theorem ggX10_speed_X10_refuse : GoodIn wsX10_speed wsX10_refuse := goodIn_r _ [16, 17, 48, 49, 50, 51, 52, 53, 54, 55, 56, 57, 58, 59, 60, 61] (by decide +kernel) (by decide +kernel)
set_option maxRecDepth 20000 in
theorem gX10_speed_X10_refuse : GoodIn wsX10_speed (wsV RX10 83 RX10 yX10_refuse wsX10_refuse) := goodIn_app (goodIn_of _ (by decide +kernel)) ggX10_speed_X10_refuse
set_option maxRecDepth 20000 in
theorem ggX10_speed_X5_keep : GoodIn wsX10_speed wsX5_keep := goodIn_r _ [28, 29, 30, 31, 32, 33, 34, 35, 36, 37, 38, 39, 40, 41, 42, 43, 44, 45, 46, 47, 62, 63, 64, 65, 66, 67, 68, 69, 78, 79, 70, 71, 72, 73, 74, 75, 76, 77] (by decide +kernel) (by decide +kernel)
set_option maxRecDepth 20000 in
theorem gX10_speed_X5_keep : GoodIn wsX10_speed (wsV RX10 113 RX5 yX5_keep wsX5_keep) := goodIn_app (goodIn_of _ (by decide +kernel)) ggX10_speed_X5_keep
set_option maxRecDepth 20000 in
theorem ggX10_start_X10_there : GoodIn wsX10_start wsX10_there := goodIn_r _ [9, 1, 10, 49, 50, 51, 52, 53, 54, 55, 56, 57, 58, 59, 60, 61, 62, 63, 64, 65, 66, 67, 68, 69, 70] (by decide +kernel) (by decide +kernel)
set_option maxRecDepth 20000 in
theorem gX10_start_X10_there : GoodIn wsX10_start (wsV RX10 123 RX10 yX10_there wsX10_there) := goodIn_app (goodIn_of _ (by decide +kernel)) ggX10_start_X10_there
set_option maxRecDepth 20000 in
theorem ggX10_start_X10_within : GoodIn wsX10_start wsX10_within := goodIn_r _ [13] (by decide +kernel) (by decide +kernel)
set_option maxRecDepth 20000 in
theorem gX10_start_X10_within : GoodIn wsX10_start (va_wsS RX10 79 yX10_within wsX10_within) := goodIn_app (goodIn_of _ (by decide +kernel)) ggX10_start_X10_within
set_option maxRecDepth 20000 in
theorem ggX10_start_X10_refuse : GoodIn wsX10_start wsX10_refuse := goodIn_r _ [17, 18, 49, 50, 51, 52, 53, 54, 55, 56, 57, 58, 59, 60, 61, 62] (by decide +kernel) (by decide +kernel)
set_option maxRecDepth 20000 in
theorem gX10_start_X10_refuse : GoodIn wsX10_start (wsV RX10 83 RX10 yX10_refuse wsX10_refuse) := goodIn_app (goodIn_of _ (by decide +kernel)) ggX10_start_X10_refuse
set_option maxRecDepth 20000 in
theorem ggX10_start_X5_keep : GoodIn wsX10_start wsX5_keep := goodIn_r _ [29, 30, 31, 32, 33, 34, 35, 36, 37, 38, 39, 40, 41, 42, 43, 44, 45, 46, 47, 48, 63, 64, 65, 66, 67, 68, 69, 70, 79, 80, 71, 72, 73, 74, 75, 76, 77, 78] (by decide +kernel) (by decide +kernel)
set_option maxRecDepth 20000 in
theorem gX10_start_X5_keep : GoodIn wsX10_start (wsV RX10 113 RX5 yX5_keep wsX5_keep) := goodIn_app (goodIn_of _ (by decide +kernel)) ggX10_start_X5_keep
set_option maxRecDepth 20000 in
theorem ggX10_undo_X5_takeBack : GoodIn wsX10_undo wsX5_takeBack := goodIn_r _ [7, 8, 9, 10, 11, 12, 13, 14, 15, 16, 17, 18, 19, 20, 21, 22, 43, 44, 45, 46, 47, 48, 49, 50, 51, 52, 53, 54, 55, 56, 57, 58, 59, 60] (by decide +kernel) (by decide +kernel)
set_option maxRecDepth 20000 in
theorem gX10_undo_X5_takeBack : GoodIn wsX10_undo (wsV RX10 141 RX5 yX5_takeBack wsX5_takeBack) := goodIn_app (goodIn_of _ (by decide +kernel)) ggX10_undo_X5_takeBack
set_option maxRecDepth 20000 in
theorem ggX10_undo_X10_refuse : GoodIn wsX10_undo wsX10_refuse := goodIn_r _ [27, 28, 29, 30, 31, 32, 33, 34, 35, 36, 37, 38, 39, 40, 41, 42] (by decide +kernel) (by decide +kernel)
set_option maxRecDepth 20000 in
theorem gX10_undo_X10_refuse : GoodIn wsX10_undo (wsV RX10 83 RX10 yX10_refuse wsX10_refuse) := goodIn_app (goodIn_of _ (by decide +kernel)) ggX10_undo_X10_refuse
set_option maxRecDepth 20000 in
theorem ggX10_of_X10_there : GoodIn wsX10_of wsX10_there := goodIn_r _ [8, 1, 9, 39, 40, 41, 42, 43, 44, 45, 46, 47, 48, 49, 50, 51, 52, 53, 54, 55, 56, 57, 58, 59, 60] (by decide +kernel) (by decide +kernel)
set_option maxRecDepth 20000 in
theorem gX10_of_X10_there : GoodIn wsX10_of (wsV RX10 123 RX10 yX10_there wsX10_there) := goodIn_app (goodIn_of _ (by decide +kernel)) ggX10_of_X10_there
set_option maxRecDepth 20000 in
theorem ggX10_of_X10_within : GoodIn wsX10_of wsX10_within := goodIn_r _ [12] (by decide +kernel) (by decide +kernel)
set_option maxRecDepth 20000 in
theorem gX10_of_X10_within : GoodIn wsX10_of (va_wsS RX10 79 yX10_within wsX10_within) := goodIn_app (goodIn_of _ (by decide +kernel)) ggX10_of_X10_within
set_option maxRecDepth 20000 in
theorem ggX10_of_X10_refuse : GoodIn wsX10_of wsX10_refuse := goodIn_r _ [16, 17, 39, 40, 41, 42, 43, 44, 45, 46, 47, 48, 49, 50, 51, 52] (by decide +kernel) (by decide +kernel)
set_option maxRecDepth 20000 in
theorem gX10_of_X10_refuse : GoodIn wsX10_of (wsV RX10 83 RX10 yX10_refuse wsX10_refuse) := goodIn_app (goodIn_of _ (by decide +kernel)) ggX10_of_X10_refuse
set_option maxRecDepth 20000 in
theorem ggX10_where_X10_there : GoodIn wsX10_where wsX10_there := goodIn_r _ [10, 2, 11, 53, 54, 55, 56, 57, 58, 59, 60, 61, 62, 63, 64, 65, 66, 67, 68, 69, 70, 71, 72, 73, 74] (by decide +kernel) (by decide +kernel)
set_option maxRecDepth 20000 in
theorem gX10_where_X10_there : GoodIn wsX10_where (wsV RX10 123 RX10 yX10_there wsX10_there) := goodIn_app (goodIn_of _ (by decide +kernel)) ggX10_where_X10_there
set_option maxRecDepth 20000 in
theorem ggX10_where_X10_within : GoodIn wsX10_where wsX10_within := goodIn_r _ [14] (by decide +kernel) (by decide +kernel)
set_option maxRecDepth 20000 in
theorem gX10_where_X10_within : GoodIn wsX10_where (va_wsS RX10 79 yX10_within wsX10_within) := goodIn_app (goodIn_of _ (by decide +kernel)) ggX10_where_X10_within
set_option maxRecDepth 20000 in
theorem ggX10_where_X10_refuse : GoodIn wsX10_where wsX10_refuse := goodIn_r _ [18, 19, 53, 54, 55, 56, 57, 58, 59, 60, 61, 62, 63, 64, 65, 66] (by decide +kernel) (by decide +kernel)
set_option maxRecDepth 20000 in
theorem gX10_where_X10_refuse : GoodIn wsX10_where (wsV RX10 83 RX10 yX10_refuse wsX10_refuse) := goodIn_app (goodIn_of _ (by decide +kernel)) ggX10_where_X10_refuse
set_option maxRecDepth 20000 in
theorem ggX10_where_X8_copyFrom : GoodIn wsX10_where wsX8_copyFrom := goodIn_r _ [24, 25, 26, 27, 28, 29, 30, 31, 32, 75, 76, 77, 78, 79, 80, 81, 82] (by decide +kernel) (by decide +kernel)
set_option maxRecDepth 20000 in
theorem gX10_where_X8_copyFrom : GoodIn wsX10_where (wsV RX10 148 RX8 yX8_copyFrom wsX8_copyFrom) := goodIn_app (goodIn_of _ (by decide +kernel)) ggX10_where_X8_copyFrom
set_option maxRecDepth 20000 in
theorem ggX10_home_X10_there : GoodIn wsX10_home wsX10_there := goodIn_r _ [5, 6, 7, 54, 55, 56, 57, 58, 59, 60, 61, 62, 63, 64, 65, 66, 67, 68, 69, 70, 71, 72, 73, 74, 75] (by decide +kernel) (by decide +kernel)
set_option maxRecDepth 20000 in
theorem gX10_home_X10_there : GoodIn wsX10_home (wsV RX10 123 RX10 yX10_there wsX10_there) := goodIn_app (goodIn_of _ (by decide +kernel)) ggX10_home_X10_there
set_option maxRecDepth 20000 in
theorem ggX10_home_X10_refuse : GoodIn wsX10_home wsX10_refuse := goodIn_r _ [52, 53, 54, 55, 56, 57, 58, 59, 60, 61, 62, 63, 64, 65, 66, 67] (by decide +kernel) (by decide +kernel)
set_option maxRecDepth 20000 in
theorem gX10_home_X10_refuse : GoodIn wsX10_home (wsV RX10 83 RX10 yX10_refuse wsX10_refuse) := goodIn_app (goodIn_of _ (by decide +kernel)) ggX10_home_X10_refuse
set_option maxRecDepth 20000 in
theorem ggX10_order_X10_refuse : GoodIn wsX10_order wsX10_refuse := goodIn_r _ [7, 8, 61, 62, 63, 64, 65, 66, 67, 68, 69, 70, 71, 72, 73, 74] (by decide +kernel) (by decide +kernel)
set_option maxRecDepth 20000 in
theorem gX10_order_X10_refuse : GoodIn wsX10_order (wsV RX10 83 RX10 yX10_refuse wsX10_refuse) := goodIn_app (goodIn_of _ (by decide +kernel)) ggX10_order_X10_refuse
set_option maxRecDepth 20000 in
theorem ggX10_best_X10_there : GoodIn wsX10_best wsX10_there := goodIn_r _ [11, 1, 12, 55, 56, 57, 58, 59, 60, 61, 62, 63, 64, 65, 66, 67, 68, 69, 70, 71, 72, 73, 74, 75, 76] (by decide +kernel) (by decide +kernel)
set_option maxRecDepth 20000 in
theorem gX10_best_X10_there : GoodIn wsX10_best (wsV RX10 123 RX10 yX10_there wsX10_there) := goodIn_app (goodIn_of _ (by decide +kernel)) ggX10_best_X10_there
set_option maxRecDepth 20000 in
theorem ggX10_best_X10_within : GoodIn wsX10_best wsX10_within := goodIn_r _ [15] (by decide +kernel) (by decide +kernel)
set_option maxRecDepth 20000 in
theorem gX10_best_X10_within : GoodIn wsX10_best (va_wsS RX10 79 yX10_within wsX10_within) := goodIn_app (goodIn_of _ (by decide +kernel)) ggX10_best_X10_within
set_option maxRecDepth 20000 in
theorem ggX10_best_X10_refuse : GoodIn wsX10_best wsX10_refuse := goodIn_r _ [19, 20, 55, 56, 57, 58, 59, 60, 61, 62, 63, 64, 65, 66, 67, 68] (by decide +kernel) (by decide +kernel)
set_option maxRecDepth 20000 in
theorem gX10_best_X10_refuse : GoodIn wsX10_best (wsV RX10 83 RX10 yX10_refuse wsX10_refuse) := goodIn_app (goodIn_of _ (by decide +kernel)) ggX10_best_X10_refuse
set_option maxRecDepth 20000 in
theorem ggX10_best_X8_copyFrom : GoodIn wsX10_best wsX8_copyFrom := goodIn_r _ [30, 31, 32, 33, 34, 35, 36, 37, 26, 77, 78, 79, 80, 81, 82, 83, 84] (by decide +kernel) (by decide +kernel)
set_option maxRecDepth 20000 in
theorem gX10_best_X8_copyFrom : GoodIn wsX10_best (wsV RX10 148 RX8 yX8_copyFrom wsX8_copyFrom) := goodIn_app (goodIn_of _ (by decide +kernel)) ggX10_best_X8_copyFrom
set_option maxRecDepth 20000 in
theorem ggX10_turn_X10_there : GoodIn wsX10_turn wsX10_there := goodIn_r _ [7, 1, 8, 67, 68, 69, 70, 71, 72, 73, 74, 75, 76, 77, 78, 79, 80, 81, 82, 83, 84, 85, 86, 87, 88] (by decide +kernel) (by decide +kernel)
set_option maxRecDepth 20000 in
theorem gX10_turn_X10_there : GoodIn wsX10_turn (wsV RX10 123 RX10 yX10_there wsX10_there) := goodIn_app (goodIn_of _ (by decide +kernel)) ggX10_turn_X10_there
set_option maxRecDepth 20000 in
theorem ggX10_turn_X10_within : GoodIn wsX10_turn wsX10_within := goodIn_r _ [11] (by decide +kernel) (by decide +kernel)
set_option maxRecDepth 20000 in
theorem gX10_turn_X10_within : GoodIn wsX10_turn (va_wsS RX10 79 yX10_within wsX10_within) := goodIn_app (goodIn_of _ (by decide +kernel)) ggX10_turn_X10_within
set_option maxRecDepth 20000 in
theorem ggX10_turn_X10_refuse : GoodIn wsX10_turn wsX10_refuse := goodIn_r _ [15, 16, 67, 68, 69, 70, 71, 72, 73, 74, 75, 76, 77, 78, 79, 80] (by decide +kernel) (by decide +kernel)
set_option maxRecDepth 20000 in
theorem gX10_turn_X10_refuse : GoodIn wsX10_turn (wsV RX10 83 RX10 yX10_refuse wsX10_refuse) := goodIn_app (goodIn_of _ (by decide +kernel)) ggX10_turn_X10_refuse
set_option maxRecDepth 20000 in
theorem ggX10_beats_X10_areTwo : GoodIn wsX10_beats wsX10_areTwo := goodIn_r _ [11, 12, 13, 14, 10, 15, 1, 16, 60, 61, 62, 63, 64, 65, 66, 67, 68, 69, 70, 71, 72, 73, 74, 75, 76, 77, 78, 79, 80, 81] (by decide +kernel) (by decide +kernel)
set_option maxRecDepth 20000 in
theorem gX10_beats_X10_areTwo : GoodIn wsX10_beats (wsV RX10 172 RX10 yX10_areTwo wsX10_areTwo) := goodIn_app (goodIn_of _ (by decide +kernel)) ggX10_beats_X10_areTwo
set_option maxRecDepth 20000 in
theorem ggX10_beats_X10_refuse : GoodIn wsX10_beats wsX10_refuse := goodIn_r _ [20, 21, 60, 61, 62, 63, 64, 65, 66, 67, 68, 69, 70, 71, 72, 73] (by decide +kernel) (by decide +kernel)
set_option maxRecDepth 20000 in
theorem gX10_beats_X10_refuse : GoodIn wsX10_beats (wsV RX10 83 RX10 yX10_refuse wsX10_refuse) := goodIn_app (goodIn_of _ (by decide +kernel)) ggX10_beats_X10_refuse
set_option maxRecDepth 20000 in
theorem ggX10_beats_X8_copyFrom : GoodIn wsX10_beats wsX8_copyFrom := goodIn_r _ [35, 36, 37, 38, 39, 40, 41, 42, 27, 82, 83, 84, 85, 86, 87, 88, 89] (by decide +kernel) (by decide +kernel)
set_option maxRecDepth 20000 in
theorem gX10_beats_X8_copyFrom : GoodIn wsX10_beats (wsV RX10 148 RX8 yX8_copyFrom wsX8_copyFrom) := goodIn_app (goodIn_of _ (by decide +kernel)) ggX10_beats_X8_copyFrom
set_option maxRecDepth 20000 in
theorem ggX10_close_X10_areTwo : GoodIn wsX10_close wsX10_areTwo := goodIn_r _ [16, 17, 18, 19, 15, 20, 2, 21, 59, 60, 61, 62, 63, 64, 65, 66, 67, 68, 69, 70, 71, 72, 73, 74, 75, 76, 77, 78, 79, 80] (by decide +kernel) (by decide +kernel)
set_option maxRecDepth 20000 in
theorem gX10_close_X10_areTwo : GoodIn wsX10_close (wsV RX10 172 RX10 yX10_areTwo wsX10_areTwo) := goodIn_app (goodIn_of _ (by decide +kernel)) ggX10_close_X10_areTwo
set_option maxRecDepth 20000 in
theorem ggX10_close_X10_within : GoodIn wsX10_close wsX10_within := goodIn_r _ [24] (by decide +kernel) (by decide +kernel)
set_option maxRecDepth 20000 in
theorem gX10_close_X10_within : GoodIn wsX10_close (va_wsS RX10 79 yX10_within wsX10_within) := goodIn_app (goodIn_of _ (by decide +kernel)) ggX10_close_X10_within
set_option maxRecDepth 20000 in
theorem ggX10_close_X10_refuse : GoodIn wsX10_close wsX10_refuse := goodIn_r _ [28, 29, 59, 60, 61, 62, 63, 64, 65, 66, 67, 68, 69, 70, 71, 72] (by decide +kernel) (by decide +kernel)
set_option maxRecDepth 20000 in
theorem gX10_close_X10_refuse : GoodIn wsX10_close (wsV RX10 83 RX10 yX10_refuse wsX10_refuse) := goodIn_app (goodIn_of _ (by decide +kernel)) ggX10_close_X10_refuse
set_option maxRecDepth 20000 in
theorem ggX10_close_X8_copyFrom : GoodIn wsX10_close wsX8_copyFrom := goodIn_r _ [34, 35, 36, 37, 38, 39, 40, 41, 42, 81, 82, 83, 84, 85, 86, 87, 88] (by decide +kernel) (by decide +kernel)
set_option maxRecDepth 20000 in
theorem gX10_close_X8_copyFrom : GoodIn wsX10_close (wsV RX10 148 RX8 yX8_copyFrom wsX8_copyFrom) := goodIn_app (goodIn_of _ (by decide +kernel)) ggX10_close_X8_copyFrom
set_option maxRecDepth 20000 in
theorem ggX10_seen_X10_there : GoodIn wsX10_seen wsX10_there := goodIn_r _ [8, 1, 9, 26, 27, 28, 29, 30, 31, 32, 33, 34, 35, 36, 37, 38, 39, 40, 41, 42, 43, 44, 45, 46, 47] (by decide +kernel) (by decide +kernel)
set_option maxRecDepth 20000 in
theorem gX10_seen_X10_there : GoodIn wsX10_seen (wsV RX10 123 RX10 yX10_there wsX10_there) := goodIn_app (goodIn_of _ (by decide +kernel)) ggX10_seen_X10_there
set_option maxRecDepth 20000 in
theorem ggX10_seen_X10_within : GoodIn wsX10_seen wsX10_within := goodIn_r _ [12] (by decide +kernel) (by decide +kernel)
set_option maxRecDepth 20000 in
theorem gX10_seen_X10_within : GoodIn wsX10_seen (va_wsS RX10 79 yX10_within wsX10_within) := goodIn_app (goodIn_of _ (by decide +kernel)) ggX10_seen_X10_within
set_option maxRecDepth 20000 in
theorem ggX10_seen_X10_refuse : GoodIn wsX10_seen wsX10_refuse := goodIn_r _ [16, 17, 26, 27, 28, 29, 30, 31, 32, 33, 34, 35, 36, 37, 38, 39] (by decide +kernel) (by decide +kernel)
set_option maxRecDepth 20000 in
theorem gX10_seen_X10_refuse : GoodIn wsX10_seen (wsV RX10 83 RX10 yX10_refuse wsX10_refuse) := goodIn_app (goodIn_of _ (by decide +kernel)) ggX10_seen_X10_refuse
set_option maxRecDepth 20000 in
theorem ggX10_strong_X10_there : GoodIn wsX10_strong wsX10_there := goodIn_r _ [6, 1, 7, 46, 47, 48, 49, 50, 51, 52, 53, 54, 55, 56, 57, 58, 59, 60, 61, 62, 63, 64, 65, 66, 67] (by decide +kernel) (by decide +kernel)
set_option maxRecDepth 20000 in
theorem gX10_strong_X10_there : GoodIn wsX10_strong (wsV RX10 123 RX10 yX10_there wsX10_there) := goodIn_app (goodIn_of _ (by decide +kernel)) ggX10_strong_X10_there
set_option maxRecDepth 20000 in
theorem ggX10_strong_X10_within : GoodIn wsX10_strong wsX10_within := goodIn_r _ [10] (by decide +kernel) (by decide +kernel)
set_option maxRecDepth 20000 in
theorem gX10_strong_X10_within : GoodIn wsX10_strong (va_wsS RX10 79 yX10_within wsX10_within) := goodIn_app (goodIn_of _ (by decide +kernel)) ggX10_strong_X10_within
set_option maxRecDepth 20000 in
theorem ggX10_strong_X10_refuse : GoodIn wsX10_strong wsX10_refuse := goodIn_r _ [14, 15, 46, 47, 48, 49, 50, 51, 52, 53, 54, 55, 56, 57, 58, 59] (by decide +kernel) (by decide +kernel)
set_option maxRecDepth 20000 in
theorem gX10_strong_X10_refuse : GoodIn wsX10_strong (wsV RX10 83 RX10 yX10_refuse wsX10_refuse) := goodIn_app (goodIn_of _ (by decide +kernel)) ggX10_strong_X10_refuse
set_option maxRecDepth 20000 in
theorem ggX10_tell_X10_there : GoodIn wsX10_tell wsX10_there := goodIn_r _ [7, 1, 8, 79, 80, 81, 82, 83, 84, 85, 86, 87, 88, 89, 90, 91, 92, 93, 94, 95, 96, 97, 98, 99, 100] (by decide +kernel) (by decide +kernel)
set_option maxRecDepth 20000 in
theorem gX10_tell_X10_there : GoodIn wsX10_tell (wsV RX10 123 RX10 yX10_there wsX10_there) := goodIn_app (goodIn_of _ (by decide +kernel)) ggX10_tell_X10_there
set_option maxRecDepth 20000 in
theorem ggX10_tell_X10_refuse : GoodIn wsX10_tell wsX10_refuse := goodIn_r _ [12, 13, 79, 80, 81, 82, 83, 84, 85, 86, 87, 88, 89, 90, 91, 92] (by decide +kernel) (by decide +kernel)
set_option maxRecDepth 20000 in
theorem gX10_tell_X10_refuse : GoodIn wsX10_tell (wsV RX10 83 RX10 yX10_refuse wsX10_refuse) := goodIn_app (goodIn_of _ (by decide +kernel)) ggX10_tell_X10_refuse
set_option maxRecDepth 20000 in
theorem ggX10_note_X10_there : GoodIn wsX10_note wsX10_there := goodIn_r _ [8, 1, 9, 26, 27, 28, 29, 30, 31, 32, 33, 34, 35, 36, 37, 38, 39, 40, 41, 42, 43, 44, 45, 46, 47] (by decide +kernel) (by decide +kernel)
set_option maxRecDepth 20000 in
theorem gX10_note_X10_there : GoodIn wsX10_note (wsV RX10 123 RX10 yX10_there wsX10_there) := goodIn_app (goodIn_of _ (by decide +kernel)) ggX10_note_X10_there
set_option maxRecDepth 20000 in
theorem ggX10_note_X10_within : GoodIn wsX10_note wsX10_within := goodIn_r _ [12] (by decide +kernel) (by decide +kernel)
set_option maxRecDepth 20000 in
theorem gX10_note_X10_within : GoodIn wsX10_note (va_wsS RX10 79 yX10_within wsX10_within) := goodIn_app (goodIn_of _ (by decide +kernel)) ggX10_note_X10_within
set_option maxRecDepth 20000 in
theorem ggX10_note_X10_refuse : GoodIn wsX10_note wsX10_refuse := goodIn_r _ [16, 17, 26, 27, 28, 29, 30, 31, 32, 33, 34, 35, 36, 37, 38, 39] (by decide +kernel) (by decide +kernel)
set_option maxRecDepth 20000 in
theorem gX10_note_X10_refuse : GoodIn wsX10_note (wsV RX10 83 RX10 yX10_refuse wsX10_refuse) := goodIn_app (goodIn_of _ (by decide +kernel)) ggX10_note_X10_refuse
set_option maxRecDepth 20000 in
theorem ggX10_mark_X10_there : GoodIn wsX10_mark wsX10_there := goodIn_r _ [8, 1, 9, 26, 27, 28, 29, 30, 31, 32, 33, 34, 35, 36, 37, 38, 39, 40, 41, 42, 43, 44, 45, 46, 47] (by decide +kernel) (by decide +kernel)
set_option maxRecDepth 20000 in
theorem gX10_mark_X10_there : GoodIn wsX10_mark (wsV RX10 123 RX10 yX10_there wsX10_there) := goodIn_app (goodIn_of _ (by decide +kernel)) ggX10_mark_X10_there
set_option maxRecDepth 20000 in
theorem ggX10_mark_X10_within : GoodIn wsX10_mark wsX10_within := goodIn_r _ [12] (by decide +kernel) (by decide +kernel)
set_option maxRecDepth 20000 in
theorem gX10_mark_X10_within : GoodIn wsX10_mark (va_wsS RX10 79 yX10_within wsX10_within) := goodIn_app (goodIn_of _ (by decide +kernel)) ggX10_mark_X10_within
set_option maxRecDepth 20000 in
theorem ggX10_mark_X10_refuse : GoodIn wsX10_mark wsX10_refuse := goodIn_r _ [16, 17, 26, 27, 28, 29, 30, 31, 32, 33, 34, 35, 36, 37, 38, 39] (by decide +kernel) (by decide +kernel)
set_option maxRecDepth 20000 in
theorem gX10_mark_X10_refuse : GoodIn wsX10_mark (wsV RX10 83 RX10 yX10_refuse wsX10_refuse) := goodIn_app (goodIn_of _ (by decide +kernel)) ggX10_mark_X10_refuse
set_option maxRecDepth 20000 in
theorem ggX10_forget_X10_within : GoodIn wsX10_forget wsX10_within := goodIn_r _ [9] (by decide +kernel) (by decide +kernel)
set_option maxRecDepth 20000 in
theorem gX10_forget_X10_within : GoodIn wsX10_forget (va_wsS RX10 79 yX10_within wsX10_within) := goodIn_app (goodIn_of _ (by decide +kernel)) ggX10_forget_X10_within
set_option maxRecDepth 20000 in
theorem ggX10_forget_X10_refuse : GoodIn wsX10_forget wsX10_refuse := goodIn_r _ [13, 14, 15, 16, 17, 18, 19, 20, 21, 22, 23, 24, 25, 26, 27, 28] (by decide +kernel) (by decide +kernel)
set_option maxRecDepth 20000 in
theorem gX10_forget_X10_refuse : GoodIn wsX10_forget (wsV RX10 83 RX10 yX10_refuse wsX10_refuse) := goodIn_app (goodIn_of _ (by decide +kernel)) ggX10_forget_X10_refuse
set_option maxRecDepth 20000 in
theorem ggX10_is_X10_there : GoodIn wsX10_is wsX10_there := goodIn_r _ [6, 1, 7, 31, 32, 33, 34, 35, 36, 37, 38, 39, 40, 41, 42, 43, 44, 45, 46, 47, 48, 49, 50, 51, 52] (by decide +kernel) (by decide +kernel)
set_option maxRecDepth 20000 in
theorem gX10_is_X10_there : GoodIn wsX10_is (wsV RX10 123 RX10 yX10_there wsX10_there) := goodIn_app (goodIn_of _ (by decide +kernel)) ggX10_is_X10_there
set_option maxRecDepth 20000 in
theorem ggX10_is_X10_refuse : GoodIn wsX10_is wsX10_refuse := goodIn_r _ [29, 30, 31, 32, 33, 34, 35, 36, 37, 38, 39, 40, 41, 42, 43, 44] (by decide +kernel) (by decide +kernel)
set_option maxRecDepth 20000 in
theorem gX10_is_X10_refuse : GoodIn wsX10_is (wsV RX10 83 RX10 yX10_refuse wsX10_refuse) := goodIn_app (goodIn_of _ (by decide +kernel)) ggX10_is_X10_refuse
set_option maxRecDepth 20000 in
theorem ggX10_look_X10_there : GoodIn wsX10_look wsX10_there := goodIn_r _ [7, 1, 8, 77, 78, 79, 80, 81, 82, 83, 84, 85, 86, 87, 88, 89, 90, 91, 92, 93, 94, 95, 96, 97, 98] (by decide +kernel) (by decide +kernel)
set_option maxRecDepth 20000 in
theorem gX10_look_X10_there : GoodIn wsX10_look (wsV RX10 123 RX10 yX10_there wsX10_there) := goodIn_app (goodIn_of _ (by decide +kernel)) ggX10_look_X10_there
set_option maxRecDepth 20000 in
theorem ggX10_look_X10_refuse : GoodIn wsX10_look wsX10_refuse := goodIn_r _ [12, 13, 77, 78, 79, 80, 81, 82, 83, 84, 85, 86, 87, 88, 89, 90] (by decide +kernel) (by decide +kernel)
set_option maxRecDepth 20000 in
theorem gX10_look_X10_refuse : GoodIn wsX10_look (wsV RX10 83 RX10 yX10_refuse wsX10_refuse) := goodIn_app (goodIn_of _ (by decide +kernel)) ggX10_look_X10_refuse
set_option maxRecDepth 20000 in
theorem ggX10_kinds_X10_there : GoodIn wsX10_kinds wsX10_there := goodIn_r _ [6, 1, 7, 30, 31, 32, 33, 34, 35, 36, 37, 38, 39, 40, 41, 42, 43, 44, 45, 46, 47, 48, 49, 50, 51] (by decide +kernel) (by decide +kernel)
set_option maxRecDepth 20000 in
theorem gX10_kinds_X10_there : GoodIn wsX10_kinds (wsV RX10 123 RX10 yX10_there wsX10_there) := goodIn_app (goodIn_of _ (by decide +kernel)) ggX10_kinds_X10_there
set_option maxRecDepth 20000 in
theorem ggX10_kinds_X10_refuse : GoodIn wsX10_kinds wsX10_refuse := goodIn_r _ [28, 29, 30, 31, 32, 33, 34, 35, 36, 37, 38, 39, 40, 41, 42, 43] (by decide +kernel) (by decide +kernel)
set_option maxRecDepth 20000 in
theorem gX10_kinds_X10_refuse : GoodIn wsX10_kinds (wsV RX10 83 RX10 yX10_refuse wsX10_refuse) := goodIn_app (goodIn_of _ (by decide +kernel)) ggX10_kinds_X10_refuse
set_option maxRecDepth 20000 in
theorem ggX10_ask_X10_there : GoodIn wsX10_ask wsX10_there := goodIn_r _ [7, 1, 8, 76, 77, 78, 79, 80, 81, 82, 83, 84, 85, 86, 87, 88, 89, 90, 91, 92, 93, 94, 95, 96, 97] (by decide +kernel) (by decide +kernel)
set_option maxRecDepth 20000 in
theorem gX10_ask_X10_there : GoodIn wsX10_ask (wsV RX10 123 RX10 yX10_there wsX10_there) := goodIn_app (goodIn_of _ (by decide +kernel)) ggX10_ask_X10_there
set_option maxRecDepth 20000 in
theorem ggX10_ask_X10_refuse : GoodIn wsX10_ask wsX10_refuse := goodIn_r _ [12, 13, 76, 77, 78, 79, 80, 81, 82, 83, 84, 85, 86, 87, 88, 89] (by decide +kernel) (by decide +kernel)
set_option maxRecDepth 20000 in
theorem gX10_ask_X10_refuse : GoodIn wsX10_ask (wsV RX10 83 RX10 yX10_refuse wsX10_refuse) := goodIn_app (goodIn_of _ (by decide +kernel)) ggX10_ask_X10_refuse
set_option maxRecDepth 20000 in
theorem ggX10_pair_X10_areTwo : GoodIn wsX10_pair wsX10_areTwo := goodIn_r _ [9, 10, 11, 12, 8, 13, 2, 14, 89, 90, 91, 92, 93, 94, 95, 96, 97, 98, 99, 100, 101, 102, 103, 104, 105, 106, 107, 108, 109, 110] (by decide +kernel) (by decide +kernel)
set_option maxRecDepth 20000 in
theorem gX10_pair_X10_areTwo : GoodIn wsX10_pair (wsV RX10 172 RX10 yX10_areTwo wsX10_areTwo) := goodIn_app (goodIn_of _ (by decide +kernel)) ggX10_pair_X10_areTwo
set_option maxRecDepth 20000 in
theorem ggX10_pair_X10_refuse : GoodIn wsX10_pair wsX10_refuse := goodIn_r _ [18, 19, 89, 90, 91, 92, 93, 94, 95, 96, 97, 98, 99, 100, 101, 102] (by decide +kernel) (by decide +kernel)
set_option maxRecDepth 20000 in
theorem gX10_pair_X10_refuse : GoodIn wsX10_pair (wsV RX10 83 RX10 yX10_refuse wsX10_refuse) := goodIn_app (goodIn_of _ (by decide +kernel)) ggX10_pair_X10_refuse
set_option maxRecDepth 20000 in
theorem ggX10_stumble_X10_there : GoodIn wsX10_stumble wsX10_there := goodIn_r _ [14, 1, 15, 60, 61, 62, 63, 64, 65, 66, 67, 68, 69, 70, 71, 72, 73, 74, 75, 76, 77, 78, 79, 80, 81] (by decide +kernel) (by decide +kernel)
set_option maxRecDepth 20000 in
theorem gX10_stumble_X10_there : GoodIn wsX10_stumble (wsV RX10 123 RX10 yX10_there wsX10_there) := goodIn_app (goodIn_of _ (by decide +kernel)) ggX10_stumble_X10_there
set_option maxRecDepth 20000 in
theorem ggX10_stumble_X10_within : GoodIn wsX10_stumble wsX10_within := goodIn_r _ [18] (by decide +kernel) (by decide +kernel)
set_option maxRecDepth 20000 in
theorem gX10_stumble_X10_within : GoodIn wsX10_stumble (va_wsS RX10 79 yX10_within wsX10_within) := goodIn_app (goodIn_of _ (by decide +kernel)) ggX10_stumble_X10_within
set_option maxRecDepth 20000 in
theorem ggX10_stumble_X10_refuse : GoodIn wsX10_stumble wsX10_refuse := goodIn_r _ [22, 23, 60, 61, 62, 63, 64, 65, 66, 67, 68, 69, 70, 71, 72, 73] (by decide +kernel) (by decide +kernel)
set_option maxRecDepth 20000 in
theorem gX10_stumble_X10_refuse : GoodIn wsX10_stumble (wsV RX10 83 RX10 yX10_refuse wsX10_refuse) := goodIn_app (goodIn_of _ (by decide +kernel)) ggX10_stumble_X10_refuse
set_option maxRecDepth 20000 in
theorem ggX10_races_X10_within : GoodIn wsX10_races wsX10_within := goodIn_r _ [17] (by decide +kernel) (by decide +kernel)
set_option maxRecDepth 20000 in
theorem gX10_races_X10_within : GoodIn wsX10_races (va_wsS RX10 79 yX10_within wsX10_within) := goodIn_app (goodIn_of _ (by decide +kernel)) ggX10_races_X10_within
set_option maxRecDepth 20000 in
theorem ggX10_races_X10_refuse : GoodIn wsX10_races wsX10_refuse := goodIn_r _ [21, 22, 70, 71, 72, 73, 74, 75, 76, 77, 78, 79, 80, 81, 82, 83] (by decide +kernel) (by decide +kernel)
set_option maxRecDepth 20000 in
theorem gX10_races_X10_refuse : GoodIn wsX10_races (wsV RX10 83 RX10 yX10_refuse wsX10_refuse) := goodIn_app (goodIn_of _ (by decide +kernel)) ggX10_races_X10_refuse
set_option maxRecDepth 20000 in
theorem ggX10_races_X5_copyLine : GoodIn wsX10_races wsX5_copyLine := goodIn_r _ [27, 28, 29, 30, 31, 32, 33, 34, 35, 36, 37, 38, 39, 40, 41, 42, 43, 44, 84, 85, 86, 87, 88, 89, 90, 91, 92, 93, 94, 95, 96, 97, 98, 99] (by decide +kernel) (by decide +kernel)
set_option maxRecDepth 20000 in
theorem gX10_races_X5_copyLine : GoodIn wsX10_races (wsV RX10 256 RX5 yX5_copyLine wsX5_copyLine) := goodIn_app (goodIn_of _ (by decide +kernel)) ggX10_races_X5_copyLine
set_option maxRecDepth 20000 in
theorem ggX10_races_X5_goOn : GoodIn wsX10_races wsX5_goOn := goodIn_r _ [48, 29, 30, 31, 28, 49, 50, 51, 35, 52, 43, 37, 38, 40, 39, 42, 41, 44, 53, 54, 55, 56, 57, 58, 59, 60, 61, 62, 63, 64, 84, 85, 86, 87, 88, 89, 90, 91, 92, 93, 94, 95, 96, 97, 98, 99] (by decide +kernel) (by decide +kernel)
set_option maxRecDepth 20000 in
theorem gX10_races_X5_goOn : GoodIn wsX10_races (wsV RX10 116 RX5 yX5_goOn wsX5_goOn) := goodIn_app (goodIn_of _ (by decide +kernel)) ggX10_races_X5_goOn
set_option maxRecDepth 20000 in
theorem ggX10_races_X5_homes : GoodIn wsX10_races wsX5_homes := goodIn_r _ [68, 30, 31, 69, 54, 55, 35, 56, 44, 84, 85, 86, 87, 88, 89, 90, 91, 92, 93, 94, 95, 96, 97, 98, 99] (by decide +kernel) (by decide +kernel)
set_option maxRecDepth 20000 in
theorem gX10_races_X5_homes : GoodIn wsX10_races (wsV RX10 119 RX5 yX5_homes wsX5_homes) := goodIn_app (goodIn_of _ (by decide +kernel)) ggX10_races_X5_homes
set_option maxRecDepth 20000 in
theorem ggX10_part_X10_within : GoodIn wsX10_part wsX10_within := goodIn_r _ [6] (by decide +kernel) (by decide +kernel)
set_option maxRecDepth 20000 in
theorem gX10_part_X10_within : GoodIn wsX10_part (va_wsS RX10 79 yX10_within wsX10_within) := goodIn_app (goodIn_of _ (by decide +kernel)) ggX10_part_X10_within
set_option maxRecDepth 20000 in
theorem ggX10_part_X10_refuse : GoodIn wsX10_part wsX10_refuse := goodIn_r _ [10, 11, 12, 13, 14, 15, 16, 17, 18, 19, 20, 21, 22, 23, 24, 25] (by decide +kernel) (by decide +kernel)
set_option maxRecDepth 20000 in
theorem gX10_part_X10_refuse : GoodIn wsX10_part (wsV RX10 83 RX10 yX10_refuse wsX10_refuse) := goodIn_app (goodIn_of _ (by decide +kernel)) ggX10_part_X10_refuse
set_option maxRecDepth 20000 in
theorem ggX10_image_X10_within : GoodIn wsX10_image wsX10_within := goodIn_r _ [7] (by decide +kernel) (by decide +kernel)
set_option maxRecDepth 20000 in
theorem gX10_image_X10_within : GoodIn wsX10_image (va_wsS RX10 79 yX10_within wsX10_within) := goodIn_app (goodIn_of _ (by decide +kernel)) ggX10_image_X10_within
set_option maxRecDepth 20000 in
theorem ggX10_image_X10_refuse : GoodIn wsX10_image wsX10_refuse := goodIn_r _ [11, 12, 66, 67, 68, 69, 70, 71, 72, 73, 74, 75, 76, 77, 78, 79] (by decide +kernel) (by decide +kernel)
set_option maxRecDepth 20000 in
theorem gX10_image_X10_refuse : GoodIn wsX10_image (wsV RX10 83 RX10 yX10_refuse wsX10_refuse) := goodIn_app (goodIn_of _ (by decide +kernel)) ggX10_image_X10_refuse
set_option maxRecDepth 20000 in
theorem ggX10_image_X5_copyFrom : GoodIn wsX10_image wsX5_copyFrom := goodIn_r _ [17, 18, 19, 20, 21, 22, 23, 24, 16, 25, 26, 27, 28, 29, 30, 31, 32, 33, 34, 35, 36, 37, 38, 39, 40, 41, 42, 43, 44, 45, 46, 47, 48, 49, 50, 51, 52, 53, 54, 55, 56, 57, 58, 59, 60, 61, 62, 63, 64, 65, 80, 81, 82, 83, 84, 85, 86, 87, 88, 89, 90, 91, 92, 93, 94, 95, 96, 97, 98, 99, 100, 101, 102] (by decide +kernel) (by decide +kernel)
set_option maxRecDepth 20000 in
theorem gX10_image_X5_copyFrom : GoodIn wsX10_image (wsV RX10 274 RX5 yX5_copyFrom wsX5_copyFrom) := goodIn_app (goodIn_of _ (by decide +kernel)) ggX10_image_X5_copyFrom
set_option maxRecDepth 20000 in
theorem ggX10_from_X10_within : GoodIn wsX10_from wsX10_within := goodIn_r _ [7] (by decide +kernel) (by decide +kernel)
set_option maxRecDepth 20000 in
theorem gX10_from_X10_within : GoodIn wsX10_from (va_wsS RX10 79 yX10_within wsX10_within) := goodIn_app (goodIn_of _ (by decide +kernel)) ggX10_from_X10_within
set_option maxRecDepth 20000 in
theorem ggX10_from_X10_refuse : GoodIn wsX10_from wsX10_refuse := goodIn_r _ [11, 12, 66, 67, 68, 69, 70, 71, 72, 73, 74, 75, 76, 77, 78, 79] (by decide +kernel) (by decide +kernel)
set_option maxRecDepth 20000 in
theorem gX10_from_X10_refuse : GoodIn wsX10_from (wsV RX10 83 RX10 yX10_refuse wsX10_refuse) := goodIn_app (goodIn_of _ (by decide +kernel)) ggX10_from_X10_refuse
set_option maxRecDepth 20000 in
theorem ggX10_from_X5_copyFrom : GoodIn wsX10_from wsX5_copyFrom := goodIn_r _ [17, 18, 19, 20, 21, 22, 23, 24, 16, 25, 26, 27, 28, 29, 30, 31, 32, 33, 34, 35, 36, 37, 38, 39, 40, 41, 42, 43, 44, 45, 46, 47, 48, 49, 50, 51, 52, 53, 54, 55, 56, 57, 58, 59, 60, 61, 62, 63, 64, 65, 80, 81, 82, 83, 84, 85, 86, 87, 88, 89, 90, 91, 92, 93, 94, 95, 96, 97, 98, 99, 100, 101, 102] (by decide +kernel) (by decide +kernel)
set_option maxRecDepth 20000 in
theorem gX10_from_X5_copyFrom : GoodIn wsX10_from (wsV RX10 274 RX5 yX5_copyFrom wsX5_copyFrom) := goodIn_app (goodIn_of _ (by decide +kernel)) ggX10_from_X5_copyFrom
set_option maxRecDepth 20000 in
theorem ggX10_status_X10_within : GoodIn wsX10_status wsX10_within := goodIn_r _ [5] (by decide +kernel) (by decide +kernel)
set_option maxRecDepth 20000 in
theorem gX10_status_X10_within : GoodIn wsX10_status (va_wsS RX10 79 yX10_within wsX10_within) := goodIn_app (goodIn_of _ (by decide +kernel)) ggX10_status_X10_within
set_option maxRecDepth 20000 in
theorem ggX10_status_X10_refuse : GoodIn wsX10_status wsX10_refuse := goodIn_r _ [9, 1, 10, 11, 12, 13, 14, 15, 16, 17, 18, 19, 20, 21, 22, 23] (by decide +kernel) (by decide +kernel)
set_option maxRecDepth 20000 in
theorem gX10_status_X10_refuse : GoodIn wsX10_status (wsV RX10 83 RX10 yX10_refuse wsX10_refuse) := goodIn_app (goodIn_of _ (by decide +kernel)) ggX10_status_X10_refuse
set_option maxRecDepth 20000 in
theorem ggX10_count_X5_homes : GoodIn wsX10_count wsX5_homes := goodIn_r _ [16, 17, 18, 19, 20, 21, 22, 23, 24, 55, 56, 57, 58, 59, 60, 61, 62, 77, 78, 79, 80, 81, 82, 83, 84] (by decide +kernel) (by decide +kernel)
set_option maxRecDepth 20000 in
theorem gX10_count_X5_homes : GoodIn wsX10_count (wsV RX10 119 RX5 yX5_homes wsX5_homes) := goodIn_app (goodIn_of _ (by decide +kernel)) ggX10_count_X5_homes
set_option maxRecDepth 20000 in
theorem ggX10_count_X5_placesTogether : GoodIn wsX10_count wsX5_placesTogether := goodIn_r _ [28, 17, 18, 29, 55, 56, 57, 58, 59, 60, 61, 62, 77, 78, 79, 80, 81, 82, 83, 84] (by decide +kernel) (by decide +kernel)
set_option maxRecDepth 20000 in
theorem gX10_count_X5_placesTogether : GoodIn wsX10_count (wsV RX10 276 RX5 yX5_placesTogether wsX5_placesTogether) := goodIn_app (goodIn_of _ (by decide +kernel)) ggX10_count_X5_placesTogether
set_option maxRecDepth 20000 in
theorem ggX10_count_X5_dropsTogether : GoodIn wsX10_count wsX5_dropsTogether := goodIn_r _ [33, 17, 18, 34, 55, 56, 57, 58, 59, 60, 61, 62, 77, 78, 79, 80, 81, 82, 83, 84] (by decide +kernel) (by decide +kernel)
set_option maxRecDepth 20000 in
theorem gX10_count_X5_dropsTogether : GoodIn wsX10_count (wsV RX10 279 RX5 yX5_dropsTogether wsX5_dropsTogether) := goodIn_app (goodIn_of _ (by decide +kernel)) ggX10_count_X5_dropsTogether
set_option maxRecDepth 20000 in
theorem ggX10_count_X10_refuse : GoodIn wsX10_count wsX10_refuse := goodIn_r _ [39, 40, 41, 42, 43, 44, 45, 46, 47, 48, 49, 50, 51, 52, 53, 54] (by decide +kernel) (by decide +kernel)
set_option maxRecDepth 20000 in
theorem gX10_count_X10_refuse : GoodIn wsX10_count (wsV RX10 83 RX10 yX10_refuse wsX10_refuse) := goodIn_app (goodIn_of _ (by decide +kernel)) ggX10_count_X10_refuse
set_option maxRecDepth 20000 in
theorem ggX10_digest_X10_count : GoodIn wsX10_digest wsX10_count := goodIn_r _ [16, 3, 4, 17, 6, 7, 18, 8, 9, 19, 20, 21, 22, 23, 24, 25, 26, 27, 28, 29, 30, 31, 32, 33, 34, 35, 36, 37, 38, 39, 40, 41, 42, 43, 44, 45, 46, 47, 15, 48, 49, 79, 80, 81, 82, 83, 84, 85, 86, 87, 88, 89, 90, 91, 92, 93, 94, 95, 96, 97, 98, 99, 100, 101, 102, 103, 104, 105, 106, 107, 108, 109, 110, 111, 112, 113, 114, 115, 116, 117, 118, 119, 120, 121, 122] (by decide +kernel) (by decide +kernel)
set_option maxRecDepth 20000 in
theorem gX10_digest_X10_count : GoodIn wsX10_digest (wsV RX10 293 RX10 yX10_count wsX10_count) := goodIn_app (goodIn_of _ (by decide +kernel)) ggX10_digest_X10_count
set_option maxRecDepth 20000 in
theorem ggX10_digest_X7_mixInto : GoodIn wsX10_digest wsX7_mixInto := goodIn_r _ [73, 74, 75, 76, 77, 78, 101, 102, 103, 104, 105] (by decide +kernel) (by decide +kernel)
set_option maxRecDepth 20000 in
theorem gX10_digest_X7_mixInto : GoodIn wsX10_digest (wsV RX10 296 RX7 yX7_mixInto wsX7_mixInto) := goodIn_app (goodIn_of _ (by decide +kernel)) ggX10_digest_X7_mixInto
set_option maxRecDepth 20000 in
theorem ggX10_areTwo_X10_there : GoodIn wsX10_areTwo wsX10_there := goodIn_r _ [5, 6, 7, 8, 9, 10, 11, 12, 13, 14, 15, 16, 17, 18, 19, 20, 21, 22, 23, 24, 25, 26, 27, 28, 29] (by decide +kernel) (by decide +kernel)
set_option maxRecDepth 20000 in
theorem gX10_areTwo_X10_there : GoodIn wsX10_areTwo (wsV RX10 123 RX10 yX10_there wsX10_there) := goodIn_app (goodIn_of _ (by decide +kernel)) ggX10_areTwo_X10_there
set_option maxRecDepth 20000 in
theorem ggX11_init_X11_begin : GoodIn wsX11_init wsX11_begin := goodIn_r _ [21] (by decide +kernel) (by decide +kernel)
set_option maxRecDepth 20000 in
theorem gX11_init_X11_begin : GoodIn wsX11_init (va_wsS RX11 48 yX11_begin wsX11_begin) := goodIn_app (goodIn_of _ (by decide +kernel)) ggX11_init_X11_begin
set_option maxRecDepth 20000 in
theorem ggX11_isOne_X11_many : GoodIn wsX11_isOne wsX11_many := goodIn_r _ [5, 6, 10, 11, 12, 13, 14, 15, 16, 17, 18, 19, 20, 21, 22, 23, 24, 25, 26, 27] (by decide +kernel) (by decide +kernel)
set_option maxRecDepth 20000 in
theorem gX11_isOne_X11_many : GoodIn wsX11_isOne (wsV RX11 52 RX11 yX11_many wsX11_many) := goodIn_app (goodIn_of _ (by decide +kernel)) ggX11_isOne_X11_many
set_option maxRecDepth 20000 in
theorem ggX11_isOne_X11_in : GoodIn wsX11_isOne wsX11_in := goodIn_r _ [9] (by decide +kernel) (by decide +kernel)
set_option maxRecDepth 20000 in
theorem gX11_isOne_X11_in : GoodIn wsX11_isOne (va_wsS RX11 56 yX11_in wsX11_in) := goodIn_app (goodIn_of _ (by decide +kernel)) ggX11_isOne_X11_in
set_option maxRecDepth 20000 in
theorem ggX11_isKind_X11_in : GoodIn wsX11_isKind wsX11_in := goodIn_r _ [5] (by decide +kernel) (by decide +kernel)
set_option maxRecDepth 20000 in
theorem gX11_isKind_X11_in : GoodIn wsX11_isKind (va_wsS RX11 56 yX11_in wsX11_in) := goodIn_app (goodIn_of _ (by decide +kernel)) ggX11_isKind_X11_in
set_option maxRecDepth 20000 in
theorem ggX11_isLegs_X11_in : GoodIn wsX11_isLegs wsX11_in := goodIn_r _ [5] (by decide +kernel) (by decide +kernel)
set_option maxRecDepth 20000 in
theorem gX11_isLegs_X11_in : GoodIn wsX11_isLegs (va_wsS RX11 56 yX11_in wsX11_in) := goodIn_app (goodIn_of _ (by decide +kernel)) ggX11_isLegs_X11_in
set_option maxRecDepth 20000 in
theorem ggX11_isSpeed_X11_in : GoodIn wsX11_isSpeed wsX11_in := goodIn_r _ [5] (by decide +kernel) (by decide +kernel)
set_option maxRecDepth 20000 in
theorem gX11_isSpeed_X11_in : GoodIn wsX11_isSpeed (va_wsS RX11 56 yX11_in wsX11_in) := goodIn_app (goodIn_of _ (by decide +kernel)) ggX11_isSpeed_X11_in
set_option maxRecDepth 20000 in
theorem ggX11_race_X11_in : GoodIn wsX11_race wsX11_in := goodIn_r _ [7] (by decide +kernel) (by decide +kernel)
set_option maxRecDepth 20000 in
theorem gX11_race_X11_in : GoodIn wsX11_race (va_wsS RX11 56 yX11_in wsX11_in) := goodIn_app (goodIn_of _ (by decide +kernel)) ggX11_race_X11_in
set_option maxRecDepth 20000 in
theorem ggX11_race_X11_bad : GoodIn wsX11_race wsX11_bad := goodIn_r _ [11, 12, 20, 21, 22, 23, 24, 25, 26, 27, 28, 29, 30, 31, 32, 33, 34, 35, 36, 37] (by decide +kernel) (by decide +kernel)
set_option maxRecDepth 20000 in
theorem gX11_race_X11_bad : GoodIn wsX11_race (wsV RX11 68 RX11 yX11_bad wsX11_bad) := goodIn_app (goodIn_of _ (by decide +kernel)) ggX11_race_X11_bad
set_option maxRecDepth 20000 in
theorem ggX11_race_X11_many : GoodIn wsX11_race wsX11_many := goodIn_r _ [16, 3, 20, 21, 22, 23, 24, 25, 26, 27, 28, 29, 30, 31, 32, 33, 34, 35, 36, 37] (by decide +kernel) (by decide +kernel)
set_option maxRecDepth 20000 in
theorem gX11_race_X11_many : GoodIn wsX11_race (wsV RX11 52 RX11 yX11_many wsX11_many) := goodIn_app (goodIn_of _ (by decide +kernel)) ggX11_race_X11_many
set_option maxRecDepth 20000 in
theorem ggX11_race_X11_begin : GoodIn wsX11_race wsX11_begin := goodIn_r _ [19] (by decide +kernel) (by decide +kernel)
set_option maxRecDepth 20000 in
theorem gX11_race_X11_begin : GoodIn wsX11_race (va_wsS RX11 48 yX11_begin wsX11_begin) := goodIn_app (goodIn_of _ (by decide +kernel)) ggX11_race_X11_begin
set_option maxRecDepth 20000 in
theorem ggX11_one_X11_isKind : GoodIn wsX11_one wsX11_isKind := goodIn_r _ [5, 6, 7, 8, 4, 9] (by decide +kernel) (by decide +kernel)
set_option maxRecDepth 20000 in
theorem gX11_one_X11_isKind : GoodIn wsX11_one (va_wsS RX11 72 yX11_isKind wsX11_isKind) := goodIn_app (goodIn_of _ (by decide +kernel)) ggX11_one_X11_isKind
set_option maxRecDepth 20000 in
theorem ggX11_one_X11_isLegs : GoodIn wsX11_one wsX11_isLegs := goodIn_r _ [12, 13, 7, 8, 4, 9] (by decide +kernel) (by decide +kernel)
set_option maxRecDepth 20000 in
theorem gX11_one_X11_isLegs : GoodIn wsX11_one (va_wsS RX11 76 yX11_isLegs wsX11_isLegs) := goodIn_app (goodIn_of _ (by decide +kernel)) ggX11_one_X11_isLegs
set_option maxRecDepth 20000 in
theorem ggX11_one_X11_bad : GoodIn wsX11_one wsX11_bad := goodIn_r _ [17, 18, 30, 31, 32, 33, 34, 35, 36, 37, 38, 39, 40, 41, 42, 43, 44, 45, 46, 47] (by decide +kernel) (by decide +kernel)
set_option maxRecDepth 20000 in
theorem gX11_one_X11_bad : GoodIn wsX11_one (wsV RX11 68 RX11 yX11_bad wsX11_bad) := goodIn_app (goodIn_of _ (by decide +kernel)) ggX11_one_X11_bad
set_option maxRecDepth 20000 in
theorem ggX11_one_X11_many : GoodIn wsX11_one wsX11_many := goodIn_r _ [22, 1, 30, 31, 32, 33, 34, 35, 36, 37, 38, 39, 40, 41, 42, 43, 44, 45, 46, 47] (by decide +kernel) (by decide +kernel)
set_option maxRecDepth 20000 in
theorem gX11_one_X11_many : GoodIn wsX11_one (wsV RX11 52 RX11 yX11_many wsX11_many) := goodIn_app (goodIn_of _ (by decide +kernel)) ggX11_one_X11_many
set_option maxRecDepth 20000 in
theorem ggX11_one_X11_layOne : GoodIn wsX11_one wsX11_layOne := goodIn_r _ [29] (by decide +kernel) (by decide +kernel)
set_option maxRecDepth 20000 in
theorem gX11_one_X11_layOne : GoodIn wsX11_one (va_wsS RX11 82 yX11_layOne wsX11_layOne) := goodIn_app (goodIn_of _ (by decide +kernel)) ggX11_one_X11_layOne
set_option maxRecDepth 20000 in
theorem ggX11_goTicks_X11_goTick : GoodIn wsX11_goTicks wsX11_goTick := goodIn_r _ [4, 5, 6, 3, 7, 8, 9, 10, 11, 12, 13, 14, 15, 16, 17, 18, 19, 20, 21, 22] (by decide +kernel) (by decide +kernel)
set_option maxRecDepth 20000 in
theorem gX11_goTicks_X11_goTick : GoodIn wsX11_goTicks (va_wsS RX11 109 yX11_goTick wsX11_goTick) := goodIn_app (goodIn_of _ (by decide +kernel)) ggX11_goTicks_X11_goTick
set_option maxRecDepth 20000 in
theorem ggX11_ticks_X11_in : GoodIn wsX11_ticks wsX11_in := goodIn_r _ [6] (by decide +kernel) (by decide +kernel)
set_option maxRecDepth 20000 in
theorem gX11_ticks_X11_in : GoodIn wsX11_ticks (va_wsS RX11 56 yX11_in wsX11_in) := goodIn_app (goodIn_of _ (by decide +kernel)) ggX11_ticks_X11_in
set_option maxRecDepth 20000 in
theorem ggX11_ticks_X11_bad : GoodIn wsX11_ticks wsX11_bad := goodIn_r _ [10, 11, 43, 44, 45, 46, 47, 48, 49, 50, 51, 52, 53, 54, 55, 56, 57, 58, 59, 60] (by decide +kernel) (by decide +kernel)
set_option maxRecDepth 20000 in
theorem gX11_ticks_X11_bad : GoodIn wsX11_ticks (wsV RX11 68 RX11 yX11_bad wsX11_bad) := goodIn_app (goodIn_of _ (by decide +kernel)) ggX11_ticks_X11_bad
set_option maxRecDepth 20000 in
theorem ggX11_ticks_X11_save : GoodIn wsX11_ticks wsX11_save := goodIn_r _ [15, 2, 43, 44, 45, 46, 47, 48, 49, 50, 51, 52, 53, 54, 55, 56, 57, 58, 59, 60] (by decide +kernel) (by decide +kernel)
set_option maxRecDepth 20000 in
theorem gX11_ticks_X11_save : GoodIn wsX11_ticks (wsV RX11 113 RX11 yX11_save wsX11_save) := goodIn_app (goodIn_of _ (by decide +kernel)) ggX11_ticks_X11_save
set_option maxRecDepth 20000 in
theorem ggX11_ticks_X11_goTicks : GoodIn wsX11_ticks wsX11_goTicks := goodIn_r _ [18, 19, 20, 5, 21, 22, 23, 24, 25, 26, 27, 28, 29, 30, 31, 32, 33, 34, 35, 36, 37, 38, 39] (by decide +kernel) (by decide +kernel)
set_option maxRecDepth 20000 in
theorem gX11_ticks_X11_goTicks : GoodIn wsX11_ticks (va_wsS RX11 116 yX11_goTicks wsX11_goTicks) := goodIn_app (goodIn_of _ (by decide +kernel)) ggX11_ticks_X11_goTicks
set_option maxRecDepth 20000 in
theorem ggX11_ticks_X11_manyHome : GoodIn wsX11_ticks wsX11_manyHome := goodIn_r _ [42, 22, 23, 5, 24] (by decide +kernel) (by decide +kernel)
set_option maxRecDepth 20000 in
theorem gX11_ticks_X11_manyHome : GoodIn wsX11_ticks (va_wsS RX11 119 yX11_manyHome wsX11_manyHome) := goodIn_app (goodIn_of _ (by decide +kernel)) ggX11_ticks_X11_manyHome
set_option maxRecDepth 20000 in
theorem ggX11_speed_X11_isOne : GoodIn wsX11_speed wsX11_isOne := goodIn_r _ [6, 7, 8, 9, 5, 10, 1, 11, 12, 13, 34, 35, 36, 37, 38, 39, 40, 41, 42, 43, 44, 45, 46, 47, 48, 49, 50, 51] (by decide +kernel) (by decide +kernel)
set_option maxRecDepth 20000 in
theorem gX11_speed_X11_isOne : GoodIn wsX11_speed (wsV RX11 123 RX11 yX11_isOne wsX11_isOne) := goodIn_app (goodIn_of _ (by decide +kernel)) ggX11_speed_X11_isOne
set_option maxRecDepth 20000 in
theorem ggX11_speed_X11_isSpeed : GoodIn wsX11_speed wsX11_isSpeed := goodIn_r _ [16, 17, 11, 12, 5, 13] (by decide +kernel) (by decide +kernel)
set_option maxRecDepth 20000 in
theorem gX11_speed_X11_isSpeed : GoodIn wsX11_speed (va_wsS RX11 126 yX11_isSpeed wsX11_isSpeed) := goodIn_app (goodIn_of _ (by decide +kernel)) ggX11_speed_X11_isSpeed
set_option maxRecDepth 20000 in
theorem ggX11_speed_X11_bad : GoodIn wsX11_speed wsX11_bad := goodIn_r _ [21, 22, 34, 35, 36, 37, 38, 39, 40, 41, 42, 43, 44, 45, 46, 47, 48, 49, 50, 51] (by decide +kernel) (by decide +kernel)
set_option maxRecDepth 20000 in
theorem gX11_speed_X11_bad : GoodIn wsX11_speed (wsV RX11 68 RX11 yX11_bad wsX11_bad) := goodIn_app (goodIn_of _ (by decide +kernel)) ggX11_speed_X11_bad
set_option maxRecDepth 20000 in
theorem ggX11_speed_X11_no : GoodIn wsX11_speed wsX11_no := goodIn_r _ [29, 22, 34, 35, 36, 37, 38, 39, 40, 41, 42, 43, 44, 45, 46, 47, 48, 49, 50, 51] (by decide +kernel) (by decide +kernel)
set_option maxRecDepth 20000 in
theorem gX11_speed_X11_no : GoodIn wsX11_speed (wsV RX11 129 RX11 yX11_no wsX11_no) := goodIn_app (goodIn_of _ (by decide +kernel)) ggX11_speed_X11_no
set_option maxRecDepth 20000 in
theorem ggX11_speed_X11_save : GoodIn wsX11_speed wsX11_save := goodIn_r _ [33, 1, 34, 35, 36, 37, 38, 39, 40, 41, 42, 43, 44, 45, 46, 47, 48, 49, 50, 51] (by decide +kernel) (by decide +kernel)
set_option maxRecDepth 20000 in
theorem gX11_speed_X11_save : GoodIn wsX11_speed (wsV RX11 113 RX11 yX11_save wsX11_save) := goodIn_app (goodIn_of _ (by decide +kernel)) ggX11_speed_X11_save
set_option maxRecDepth 20000 in
theorem ggX11_start_X11_isOne : GoodIn wsX11_start wsX11_isOne := goodIn_r _ [7, 8, 9, 10, 6, 11, 2, 12, 13, 14, 31, 32, 33, 34, 35, 36, 37, 38, 39, 40, 41, 42, 43, 44, 45, 46, 47, 48] (by decide +kernel) (by decide +kernel)
set_option maxRecDepth 20000 in
theorem gX11_start_X11_isOne : GoodIn wsX11_start (wsV RX11 123 RX11 yX11_isOne wsX11_isOne) := goodIn_app (goodIn_of _ (by decide +kernel)) ggX11_start_X11_isOne
set_option maxRecDepth 20000 in
theorem ggX11_start_X11_in : GoodIn wsX11_start wsX11_in := goodIn_r _ [14] (by decide +kernel) (by decide +kernel)
set_option maxRecDepth 20000 in
theorem gX11_start_X11_in : GoodIn wsX11_start (va_wsS RX11 56 yX11_in wsX11_in) := goodIn_app (goodIn_of _ (by decide +kernel)) ggX11_start_X11_in
set_option maxRecDepth 20000 in
theorem ggX11_start_X11_bad : GoodIn wsX11_start wsX11_bad := goodIn_r _ [18, 19, 31, 32, 33, 34, 35, 36, 37, 38, 39, 40, 41, 42, 43, 44, 45, 46, 47, 48] (by decide +kernel) (by decide +kernel)
set_option maxRecDepth 20000 in
theorem gX11_start_X11_bad : GoodIn wsX11_start (wsV RX11 68 RX11 yX11_bad wsX11_bad) := goodIn_app (goodIn_of _ (by decide +kernel)) ggX11_start_X11_bad
set_option maxRecDepth 20000 in
theorem ggX11_start_X11_no : GoodIn wsX11_start wsX11_no := goodIn_r _ [26, 19, 31, 32, 33, 34, 35, 36, 37, 38, 39, 40, 41, 42, 43, 44, 45, 46, 47, 48] (by decide +kernel) (by decide +kernel)
set_option maxRecDepth 20000 in
theorem gX11_start_X11_no : GoodIn wsX11_start (wsV RX11 129 RX11 yX11_no wsX11_no) := goodIn_app (goodIn_of _ (by decide +kernel)) ggX11_start_X11_no
set_option maxRecDepth 20000 in
theorem ggX11_start_X11_save : GoodIn wsX11_start wsX11_save := goodIn_r _ [30, 2, 31, 32, 33, 34, 35, 36, 37, 38, 39, 40, 41, 42, 43, 44, 45, 46, 47, 48] (by decide +kernel) (by decide +kernel)
set_option maxRecDepth 20000 in
theorem gX11_start_X11_save : GoodIn wsX11_start (wsV RX11 113 RX11 yX11_save wsX11_save) := goodIn_app (goodIn_of _ (by decide +kernel)) ggX11_start_X11_save
set_option maxRecDepth 20000 in
theorem ggX11_undo_X11_no : GoodIn wsX11_undo wsX11_no := goodIn_r _ [6, 7, 8, 9, 10, 11, 12, 13, 14, 15, 16, 17, 18, 19, 20, 21, 22, 23, 24, 25] (by decide +kernel) (by decide +kernel)
set_option maxRecDepth 20000 in
theorem gX11_undo_X11_no : GoodIn wsX11_undo (wsV RX11 129 RX11 yX11_no wsX11_no) := goodIn_app (goodIn_of _ (by decide +kernel)) ggX11_undo_X11_no
set_option maxRecDepth 20000 in
theorem ggX11_of_X11_isOne : GoodIn wsX11_of wsX11_isOne := goodIn_r _ [6, 7, 8, 9, 5, 10, 11, 12, 13, 14, 36, 37, 38, 39, 40, 41, 42, 43, 44, 45, 46, 47, 48, 49, 50, 51, 52, 53] (by decide +kernel) (by decide +kernel)
set_option maxRecDepth 20000 in
theorem gX11_of_X11_isOne : GoodIn wsX11_of (wsV RX11 123 RX11 yX11_isOne wsX11_isOne) := goodIn_app (goodIn_of _ (by decide +kernel)) ggX11_of_X11_isOne
set_option maxRecDepth 20000 in
theorem ggX11_of_X11_in : GoodIn wsX11_of wsX11_in := goodIn_r _ [14] (by decide +kernel) (by decide +kernel)
set_option maxRecDepth 20000 in
theorem gX11_of_X11_in : GoodIn wsX11_of (va_wsS RX11 56 yX11_in wsX11_in) := goodIn_app (goodIn_of _ (by decide +kernel)) ggX11_of_X11_in
set_option maxRecDepth 20000 in
theorem ggX11_of_X11_bad : GoodIn wsX11_of wsX11_bad := goodIn_r _ [34, 35, 36, 37, 38, 39, 40, 41, 42, 43, 44, 45, 46, 47, 48, 49, 50, 51, 52, 53] (by decide +kernel) (by decide +kernel)
set_option maxRecDepth 20000 in
theorem gX11_of_X11_bad : GoodIn wsX11_of (wsV RX11 68 RX11 yX11_bad wsX11_bad) := goodIn_app (goodIn_of _ (by decide +kernel)) ggX11_of_X11_bad
set_option maxRecDepth 20000 in
theorem ggX11_where_X11_isOne : GoodIn wsX11_where wsX11_isOne := goodIn_r _ [7, 8, 9, 10, 6, 11, 12, 13, 14, 15, 50, 51, 52, 53, 54, 55, 56, 57, 58, 59, 60, 61, 62, 63, 64, 65, 66, 67] (by decide +kernel) (by decide +kernel)
set_option maxRecDepth 20000 in
theorem gX11_where_X11_isOne : GoodIn wsX11_where (wsV RX11 123 RX11 yX11_isOne wsX11_isOne) := goodIn_app (goodIn_of _ (by decide +kernel)) ggX11_where_X11_isOne
set_option maxRecDepth 20000 in
theorem ggX11_where_X11_in : GoodIn wsX11_where wsX11_in := goodIn_r _ [15] (by decide +kernel) (by decide +kernel)
set_option maxRecDepth 20000 in
theorem gX11_where_X11_in : GoodIn wsX11_where (va_wsS RX11 56 yX11_in wsX11_in) := goodIn_app (goodIn_of _ (by decide +kernel)) ggX11_where_X11_in
set_option maxRecDepth 20000 in
theorem ggX11_where_X11_bad : GoodIn wsX11_where wsX11_bad := goodIn_r _ [19, 20, 50, 51, 52, 53, 54, 55, 56, 57, 58, 59, 60, 61, 62, 63, 64, 65, 66, 67] (by decide +kernel) (by decide +kernel)
set_option maxRecDepth 20000 in
theorem gX11_where_X11_bad : GoodIn wsX11_where (wsV RX11 68 RX11 yX11_bad wsX11_bad) := goodIn_app (goodIn_of _ (by decide +kernel)) ggX11_where_X11_bad
set_option maxRecDepth 20000 in
theorem ggX11_where_X11_layHand : GoodIn wsX11_where wsX11_layHand := goodIn_r _ [24, 2, 12, 50, 51, 52, 53, 54, 55, 56, 57, 58, 59, 60, 61, 62, 63, 64, 65, 66, 67] (by decide +kernel) (by decide +kernel)
set_option maxRecDepth 20000 in
theorem gX11_where_X11_layHand : GoodIn wsX11_where (wsV RX11 137 RX11 yX11_layHand wsX11_layHand) := goodIn_app (goodIn_of _ (by decide +kernel)) ggX11_where_X11_layHand
set_option maxRecDepth 20000 in
theorem ggX11_home_X11_isOne : GoodIn wsX11_home wsX11_isOne := goodIn_r _ [5, 6, 7, 8, 4, 9, 10, 11, 12, 13, 53, 54, 55, 56, 57, 58, 59, 60, 61, 62, 63, 64, 65, 66, 67, 68, 69, 70] (by decide +kernel) (by decide +kernel)
set_option maxRecDepth 20000 in
theorem gX11_home_X11_isOne : GoodIn wsX11_home (wsV RX11 123 RX11 yX11_isOne wsX11_isOne) := goodIn_app (goodIn_of _ (by decide +kernel)) ggX11_home_X11_isOne
set_option maxRecDepth 20000 in
theorem ggX11_home_X11_bad : GoodIn wsX11_home wsX11_bad := goodIn_r _ [51, 52, 53, 54, 55, 56, 57, 58, 59, 60, 61, 62, 63, 64, 65, 66, 67, 68, 69, 70] (by decide +kernel) (by decide +kernel)
set_option maxRecDepth 20000 in
theorem gX11_home_X11_bad : GoodIn wsX11_home (wsV RX11 68 RX11 yX11_bad wsX11_bad) := goodIn_app (goodIn_of _ (by decide +kernel)) ggX11_home_X11_bad
set_option maxRecDepth 20000 in
theorem ggX11_first_X11_many : GoodIn wsX11_first wsX11_many := goodIn_r _ [7, 2, 42, 43, 44, 45, 46, 47, 48, 49, 50, 51, 52, 53, 54, 55, 56, 57, 58, 59] (by decide +kernel) (by decide +kernel)
set_option maxRecDepth 20000 in
theorem gX11_first_X11_many : GoodIn wsX11_first (wsV RX11 52 RX11 yX11_many wsX11_many) := goodIn_app (goodIn_of _ (by decide +kernel)) ggX11_first_X11_many
set_option maxRecDepth 20000 in
theorem ggX11_order_X11_bad : GoodIn wsX11_order wsX11_bad := goodIn_r _ [9, 10, 53, 54, 55, 56, 57, 58, 59, 60, 61, 62, 63, 64, 65, 66, 67, 68, 69, 70] (by decide +kernel) (by decide +kernel)
set_option maxRecDepth 20000 in
theorem gX11_order_X11_bad : GoodIn wsX11_order (wsV RX11 68 RX11 yX11_bad wsX11_bad) := goodIn_app (goodIn_of _ (by decide +kernel)) ggX11_order_X11_bad
set_option maxRecDepth 20000 in
theorem ggX11_order_X11_many : GoodIn wsX11_order wsX11_many := goodIn_r _ [14, 2, 53, 54, 55, 56, 57, 58, 59, 60, 61, 62, 63, 64, 65, 66, 67, 68, 69, 70] (by decide +kernel) (by decide +kernel)
set_option maxRecDepth 20000 in
theorem gX11_order_X11_many : GoodIn wsX11_order (wsV RX11 52 RX11 yX11_many wsX11_many) := goodIn_app (goodIn_of _ (by decide +kernel)) ggX11_order_X11_many
set_option maxRecDepth 20000 in
theorem ggX11_order_X11_no : GoodIn wsX11_order wsX11_no := goodIn_r _ [18, 10, 53, 54, 55, 56, 57, 58, 59, 60, 61, 62, 63, 64, 65, 66, 67, 68, 69, 70] (by decide +kernel) (by decide +kernel)
set_option maxRecDepth 20000 in
theorem gX11_order_X11_no : GoodIn wsX11_order (wsV RX11 129 RX11 yX11_no wsX11_no) := goodIn_app (goodIn_of _ (by decide +kernel)) ggX11_order_X11_no
set_option maxRecDepth 20000 in
theorem ggX11_best_X11_isOne : GoodIn wsX11_best wsX11_isOne := goodIn_r _ [8, 9, 10, 11, 7, 12, 2, 13, 14, 15, 50, 51, 52, 53, 54, 55, 56, 57, 58, 59, 60, 61, 62, 63, 64, 65, 66, 67] (by decide +kernel) (by decide +kernel)
set_option maxRecDepth 20000 in
theorem gX11_best_X11_isOne : GoodIn wsX11_best (wsV RX11 123 RX11 yX11_isOne wsX11_isOne) := goodIn_app (goodIn_of _ (by decide +kernel)) ggX11_best_X11_isOne
set_option maxRecDepth 20000 in
theorem ggX11_best_X11_in : GoodIn wsX11_best wsX11_in := goodIn_r _ [15] (by decide +kernel) (by decide +kernel)
set_option maxRecDepth 20000 in
theorem gX11_best_X11_in : GoodIn wsX11_best (va_wsS RX11 56 yX11_in wsX11_in) := goodIn_app (goodIn_of _ (by decide +kernel)) ggX11_best_X11_in
set_option maxRecDepth 20000 in
theorem ggX11_best_X11_bad : GoodIn wsX11_best wsX11_bad := goodIn_r _ [19, 20, 50, 51, 52, 53, 54, 55, 56, 57, 58, 59, 60, 61, 62, 63, 64, 65, 66, 67] (by decide +kernel) (by decide +kernel)
set_option maxRecDepth 20000 in
theorem gX11_best_X11_bad : GoodIn wsX11_best (wsV RX11 68 RX11 yX11_bad wsX11_bad) := goodIn_app (goodIn_of _ (by decide +kernel)) ggX11_best_X11_bad
set_option maxRecDepth 20000 in
theorem ggX11_best_X11_layHand : GoodIn wsX11_best wsX11_layHand := goodIn_r _ [27, 3, 2, 50, 51, 52, 53, 54, 55, 56, 57, 58, 59, 60, 61, 62, 63, 64, 65, 66, 67] (by decide +kernel) (by decide +kernel)
set_option maxRecDepth 20000 in
theorem gX11_best_X11_layHand : GoodIn wsX11_best (wsV RX11 137 RX11 yX11_layHand wsX11_layHand) := goodIn_app (goodIn_of _ (by decide +kernel)) ggX11_best_X11_layHand
set_option maxRecDepth 20000 in
theorem ggX11_turn_X11_isOne : GoodIn wsX11_turn wsX11_isOne := goodIn_r _ [8, 9, 10, 11, 7, 12, 2, 13, 14, 15, 58, 59, 60, 61, 62, 63, 64, 65, 66, 67, 68, 69, 70, 71, 72, 73, 74, 75] (by decide +kernel) (by decide +kernel)
set_option maxRecDepth 20000 in
theorem gX11_turn_X11_isOne : GoodIn wsX11_turn (wsV RX11 123 RX11 yX11_isOne wsX11_isOne) := goodIn_app (goodIn_of _ (by decide +kernel)) ggX11_turn_X11_isOne
set_option maxRecDepth 20000 in
theorem ggX11_turn_X11_isSpeed : GoodIn wsX11_turn wsX11_isSpeed := goodIn_r _ [18, 19, 13, 14, 7, 15] (by decide +kernel) (by decide +kernel)
set_option maxRecDepth 20000 in
theorem gX11_turn_X11_isSpeed : GoodIn wsX11_turn (va_wsS RX11 126 yX11_isSpeed wsX11_isSpeed) := goodIn_app (goodIn_of _ (by decide +kernel)) ggX11_turn_X11_isSpeed
set_option maxRecDepth 20000 in
theorem ggX11_turn_X11_in : GoodIn wsX11_turn wsX11_in := goodIn_r _ [15] (by decide +kernel) (by decide +kernel)
set_option maxRecDepth 20000 in
theorem gX11_turn_X11_in : GoodIn wsX11_turn (va_wsS RX11 56 yX11_in wsX11_in) := goodIn_app (goodIn_of _ (by decide +kernel)) ggX11_turn_X11_in
set_option maxRecDepth 20000 in
theorem ggX11_turn_X11_bad : GoodIn wsX11_turn wsX11_bad := goodIn_r _ [23, 24, 58, 59, 60, 61, 62, 63, 64, 65, 66, 67, 68, 69, 70, 71, 72, 73, 74, 75] (by decide +kernel) (by decide +kernel)
set_option maxRecDepth 20000 in
theorem gX11_turn_X11_bad : GoodIn wsX11_turn (wsV RX11 68 RX11 yX11_bad wsX11_bad) := goodIn_app (goodIn_of _ (by decide +kernel)) ggX11_turn_X11_bad
set_option maxRecDepth 20000 in
theorem ggX11_turn_X11_layHand : GoodIn wsX11_turn wsX11_layHand := goodIn_r _ [31, 3, 2, 58, 59, 60, 61, 62, 63, 64, 65, 66, 67, 68, 69, 70, 71, 72, 73, 74, 75] (by decide +kernel) (by decide +kernel)
set_option maxRecDepth 20000 in
theorem gX11_turn_X11_layHand : GoodIn wsX11_turn (wsV RX11 137 RX11 yX11_layHand wsX11_layHand) := goodIn_app (goodIn_of _ (by decide +kernel)) ggX11_turn_X11_layHand
set_option maxRecDepth 20000 in
theorem ggX11_beats_X11_isOne : GoodIn wsX11_beats wsX11_isOne := goodIn_r _ [7, 8, 9, 10, 6, 11, 1, 12, 13, 14, 53, 54, 55, 56, 57, 58, 59, 60, 61, 62, 63, 64, 65, 66, 67, 68, 69, 70] (by decide +kernel) (by decide +kernel)
set_option maxRecDepth 20000 in
theorem gX11_beats_X11_isOne : GoodIn wsX11_beats (wsV RX11 123 RX11 yX11_isOne wsX11_isOne) := goodIn_app (goodIn_of _ (by decide +kernel)) ggX11_beats_X11_isOne
set_option maxRecDepth 20000 in
theorem ggX11_beats_X11_bad : GoodIn wsX11_beats wsX11_bad := goodIn_r _ [18, 19, 53, 54, 55, 56, 57, 58, 59, 60, 61, 62, 63, 64, 65, 66, 67, 68, 69, 70] (by decide +kernel) (by decide +kernel)
set_option maxRecDepth 20000 in
theorem gX11_beats_X11_bad : GoodIn wsX11_beats (wsV RX11 68 RX11 yX11_bad wsX11_bad) := goodIn_app (goodIn_of _ (by decide +kernel)) ggX11_beats_X11_bad
set_option maxRecDepth 20000 in
theorem ggX11_beats_X11_layHand : GoodIn wsX11_beats wsX11_layHand := goodIn_r _ [27, 2, 1, 53, 54, 55, 56, 57, 58, 59, 60, 61, 62, 63, 64, 65, 66, 67, 68, 69, 70] (by decide +kernel) (by decide +kernel)
set_option maxRecDepth 20000 in
theorem gX11_beats_X11_layHand : GoodIn wsX11_beats (wsV RX11 137 RX11 yX11_layHand wsX11_layHand) := goodIn_app (goodIn_of _ (by decide +kernel)) ggX11_beats_X11_layHand
set_option maxRecDepth 20000 in
theorem ggX11_close_X11_isOne : GoodIn wsX11_close wsX11_isOne := goodIn_r _ [7, 8, 9, 10, 6, 11, 12, 13, 14, 15, 46, 47, 48, 49, 50, 51, 52, 53, 54, 55, 56, 57, 58, 59, 60, 61, 62, 63] (by decide +kernel) (by decide +kernel)
set_option maxRecDepth 20000 in
theorem gX11_close_X11_isOne : GoodIn wsX11_close (wsV RX11 123 RX11 yX11_isOne wsX11_isOne) := goodIn_app (goodIn_of _ (by decide +kernel)) ggX11_close_X11_isOne
set_option maxRecDepth 20000 in
theorem ggX11_close_X11_in : GoodIn wsX11_close wsX11_in := goodIn_r _ [15] (by decide +kernel) (by decide +kernel)
set_option maxRecDepth 20000 in
theorem gX11_close_X11_in : GoodIn wsX11_close (va_wsS RX11 56 yX11_in wsX11_in) := goodIn_app (goodIn_of _ (by decide +kernel)) ggX11_close_X11_in
set_option maxRecDepth 20000 in
theorem ggX11_close_X11_bad : GoodIn wsX11_close wsX11_bad := goodIn_r _ [19, 20, 46, 47, 48, 49, 50, 51, 52, 53, 54, 55, 56, 57, 58, 59, 60, 61, 62, 63] (by decide +kernel) (by decide +kernel)
set_option maxRecDepth 20000 in
theorem gX11_close_X11_bad : GoodIn wsX11_close (wsV RX11 68 RX11 yX11_bad wsX11_bad) := goodIn_app (goodIn_of _ (by decide +kernel)) ggX11_close_X11_bad
set_option maxRecDepth 20000 in
theorem ggX11_close_X11_layHand : GoodIn wsX11_close wsX11_layHand := goodIn_r _ [24, 2, 12, 46, 47, 48, 49, 50, 51, 52, 53, 54, 55, 56, 57, 58, 59, 60, 61, 62, 63] (by decide +kernel) (by decide +kernel)
set_option maxRecDepth 20000 in
theorem gX11_close_X11_layHand : GoodIn wsX11_close (wsV RX11 137 RX11 yX11_layHand wsX11_layHand) := goodIn_app (goodIn_of _ (by decide +kernel)) ggX11_close_X11_layHand
set_option maxRecDepth 20000 in
theorem ggX11_close_X11_goTick : GoodIn wsX11_close wsX11_goTick := goodIn_r _ [27, 28, 29, 6, 30, 31, 32, 33, 34, 35, 36, 37, 38, 39, 40, 41, 42, 43, 44, 45] (by decide +kernel) (by decide +kernel)
set_option maxRecDepth 20000 in
theorem gX11_close_X11_goTick : GoodIn wsX11_close (va_wsS RX11 109 yX11_goTick wsX11_goTick) := goodIn_app (goodIn_of _ (by decide +kernel)) ggX11_close_X11_goTick
set_option maxRecDepth 20000 in
theorem ggX11_seen_X11_isOne : GoodIn wsX11_seen wsX11_isOne := goodIn_r _ [8, 9, 10, 11, 7, 12, 3, 13, 14, 15, 29, 30, 31, 32, 33, 34, 35, 36, 37, 38, 39, 40, 41, 42, 43, 44, 45, 46] (by decide +kernel) (by decide +kernel)
set_option maxRecDepth 20000 in
theorem gX11_seen_X11_isOne : GoodIn wsX11_seen (wsV RX11 123 RX11 yX11_isOne wsX11_isOne) := goodIn_app (goodIn_of _ (by decide +kernel)) ggX11_seen_X11_isOne
set_option maxRecDepth 20000 in
theorem ggX11_seen_X11_in : GoodIn wsX11_seen wsX11_in := goodIn_r _ [15] (by decide +kernel) (by decide +kernel)
set_option maxRecDepth 20000 in
theorem gX11_seen_X11_in : GoodIn wsX11_seen (va_wsS RX11 56 yX11_in wsX11_in) := goodIn_app (goodIn_of _ (by decide +kernel)) ggX11_seen_X11_in
set_option maxRecDepth 20000 in
theorem ggX11_seen_X11_isSpeed : GoodIn wsX11_seen wsX11_isSpeed := goodIn_r _ [18, 19, 13, 14, 7, 15] (by decide +kernel) (by decide +kernel)
set_option maxRecDepth 20000 in
theorem gX11_seen_X11_isSpeed : GoodIn wsX11_seen (va_wsS RX11 126 yX11_isSpeed wsX11_isSpeed) := goodIn_app (goodIn_of _ (by decide +kernel)) ggX11_seen_X11_isSpeed
set_option maxRecDepth 20000 in
theorem ggX11_seen_X11_bad : GoodIn wsX11_seen wsX11_bad := goodIn_r _ [23, 24, 29, 30, 31, 32, 33, 34, 35, 36, 37, 38, 39, 40, 41, 42, 43, 44, 45, 46] (by decide +kernel) (by decide +kernel)
set_option maxRecDepth 20000 in
theorem gX11_seen_X11_bad : GoodIn wsX11_seen (wsV RX11 68 RX11 yX11_bad wsX11_bad) := goodIn_app (goodIn_of _ (by decide +kernel)) ggX11_seen_X11_bad
set_option maxRecDepth 20000 in
theorem ggX11_strong_X11_isOne : GoodIn wsX11_strong wsX11_isOne := goodIn_r _ [6, 7, 8, 9, 5, 10, 11, 12, 13, 14, 30, 31, 32, 33, 34, 35, 36, 37, 38, 39, 40, 41, 42, 43, 44, 45, 46, 47] (by decide +kernel) (by decide +kernel)
set_option maxRecDepth 20000 in
theorem gX11_strong_X11_isOne : GoodIn wsX11_strong (wsV RX11 123 RX11 yX11_isOne wsX11_isOne) := goodIn_app (goodIn_of _ (by decide +kernel)) ggX11_strong_X11_isOne
set_option maxRecDepth 20000 in
theorem ggX11_strong_X11_in : GoodIn wsX11_strong wsX11_in := goodIn_r _ [14] (by decide +kernel) (by decide +kernel)
set_option maxRecDepth 20000 in
theorem gX11_strong_X11_in : GoodIn wsX11_strong (va_wsS RX11 56 yX11_in wsX11_in) := goodIn_app (goodIn_of _ (by decide +kernel)) ggX11_strong_X11_in
set_option maxRecDepth 20000 in
theorem ggX11_strong_X11_bad : GoodIn wsX11_strong wsX11_bad := goodIn_r _ [18, 19, 30, 31, 32, 33, 34, 35, 36, 37, 38, 39, 40, 41, 42, 43, 44, 45, 46, 47] (by decide +kernel) (by decide +kernel)
set_option maxRecDepth 20000 in
theorem gX11_strong_X11_bad : GoodIn wsX11_strong (wsV RX11 68 RX11 yX11_bad wsX11_bad) := goodIn_app (goodIn_of _ (by decide +kernel)) ggX11_strong_X11_bad
set_option maxRecDepth 20000 in
theorem ggX11_tell_X11_isOne : GoodIn wsX11_tell wsX11_isOne := goodIn_r _ [8, 9, 10, 11, 7, 12, 3, 13, 14, 15, 35, 36, 37, 38, 39, 40, 41, 42, 43, 44, 45, 46, 47, 48, 49, 50, 51, 52] (by decide +kernel) (by decide +kernel)
set_option maxRecDepth 20000 in
theorem gX11_tell_X11_isOne : GoodIn wsX11_tell (wsV RX11 123 RX11 yX11_isOne wsX11_isOne) := goodIn_app (goodIn_of _ (by decide +kernel)) ggX11_tell_X11_isOne
set_option maxRecDepth 20000 in
theorem ggX11_tell_X11_bad : GoodIn wsX11_tell wsX11_bad := goodIn_r _ [19, 20, 35, 36, 37, 38, 39, 40, 41, 42, 43, 44, 45, 46, 47, 48, 49, 50, 51, 52] (by decide +kernel) (by decide +kernel)
set_option maxRecDepth 20000 in
theorem gX11_tell_X11_bad : GoodIn wsX11_tell (wsV RX11 68 RX11 yX11_bad wsX11_bad) := goodIn_app (goodIn_of _ (by decide +kernel)) ggX11_tell_X11_bad
set_option maxRecDepth 20000 in
theorem ggX11_note_X11_isOne : GoodIn wsX11_note wsX11_isOne := goodIn_r _ [8, 9, 10, 11, 7, 12, 3, 13, 14, 15, 32, 33, 34, 35, 36, 37, 38, 39, 40, 41, 42, 43, 44, 45, 46, 47, 48, 49] (by decide +kernel) (by decide +kernel)
set_option maxRecDepth 20000 in
theorem gX11_note_X11_isOne : GoodIn wsX11_note (wsV RX11 123 RX11 yX11_isOne wsX11_isOne) := goodIn_app (goodIn_of _ (by decide +kernel)) ggX11_note_X11_isOne
set_option maxRecDepth 20000 in
theorem ggX11_note_X11_isLegs : GoodIn wsX11_note wsX11_isLegs := goodIn_r _ [18, 19, 13, 14, 7, 15] (by decide +kernel) (by decide +kernel)
set_option maxRecDepth 20000 in
theorem gX11_note_X11_isLegs : GoodIn wsX11_note (va_wsS RX11 76 yX11_isLegs wsX11_isLegs) := goodIn_app (goodIn_of _ (by decide +kernel)) ggX11_note_X11_isLegs
set_option maxRecDepth 20000 in
theorem ggX11_note_X11_in : GoodIn wsX11_note wsX11_in := goodIn_r _ [15] (by decide +kernel) (by decide +kernel)
set_option maxRecDepth 20000 in
theorem gX11_note_X11_in : GoodIn wsX11_note (va_wsS RX11 56 yX11_in wsX11_in) := goodIn_app (goodIn_of _ (by decide +kernel)) ggX11_note_X11_in
set_option maxRecDepth 20000 in
theorem ggX11_note_X11_isSpeed : GoodIn wsX11_note wsX11_isSpeed := goodIn_r _ [22, 19, 13, 14, 7, 15] (by decide +kernel) (by decide +kernel)
set_option maxRecDepth 20000 in
theorem gX11_note_X11_isSpeed : GoodIn wsX11_note (va_wsS RX11 126 yX11_isSpeed wsX11_isSpeed) := goodIn_app (goodIn_of _ (by decide +kernel)) ggX11_note_X11_isSpeed
set_option maxRecDepth 20000 in
theorem ggX11_note_X11_bad : GoodIn wsX11_note wsX11_bad := goodIn_r _ [26, 27, 32, 33, 34, 35, 36, 37, 38, 39, 40, 41, 42, 43, 44, 45, 46, 47, 48, 49] (by decide +kernel) (by decide +kernel)
set_option maxRecDepth 20000 in
theorem gX11_note_X11_bad : GoodIn wsX11_note (wsV RX11 68 RX11 yX11_bad wsX11_bad) := goodIn_app (goodIn_of _ (by decide +kernel)) ggX11_note_X11_bad
set_option maxRecDepth 20000 in
theorem ggX11_mark_X11_isOne : GoodIn wsX11_mark wsX11_isOne := goodIn_r _ [8, 9, 10, 11, 7, 12, 3, 13, 14, 15, 25, 26, 27, 28, 29, 30, 31, 32, 33, 34, 35, 36, 37, 38, 39, 40, 41, 42] (by decide +kernel) (by decide +kernel)
set_option maxRecDepth 20000 in
theorem gX11_mark_X11_isOne : GoodIn wsX11_mark (wsV RX11 123 RX11 yX11_isOne wsX11_isOne) := goodIn_app (goodIn_of _ (by decide +kernel)) ggX11_mark_X11_isOne
set_option maxRecDepth 20000 in
theorem ggX11_mark_X11_in : GoodIn wsX11_mark wsX11_in := goodIn_r _ [15] (by decide +kernel) (by decide +kernel)
set_option maxRecDepth 20000 in
theorem gX11_mark_X11_in : GoodIn wsX11_mark (va_wsS RX11 56 yX11_in wsX11_in) := goodIn_app (goodIn_of _ (by decide +kernel)) ggX11_mark_X11_in
set_option maxRecDepth 20000 in
theorem ggX11_mark_X11_bad : GoodIn wsX11_mark wsX11_bad := goodIn_r _ [19, 20, 25, 26, 27, 28, 29, 30, 31, 32, 33, 34, 35, 36, 37, 38, 39, 40, 41, 42] (by decide +kernel) (by decide +kernel)
set_option maxRecDepth 20000 in
theorem gX11_mark_X11_bad : GoodIn wsX11_mark (wsV RX11 68 RX11 yX11_bad wsX11_bad) := goodIn_app (goodIn_of _ (by decide +kernel)) ggX11_mark_X11_bad
set_option maxRecDepth 20000 in
theorem ggX11_forget_X11_in : GoodIn wsX11_forget wsX11_in := goodIn_r _ [6] (by decide +kernel) (by decide +kernel)
set_option maxRecDepth 20000 in
theorem gX11_forget_X11_in : GoodIn wsX11_forget (va_wsS RX11 56 yX11_in wsX11_in) := goodIn_app (goodIn_of _ (by decide +kernel)) ggX11_forget_X11_in
set_option maxRecDepth 20000 in
theorem ggX11_forget_X11_bad : GoodIn wsX11_forget wsX11_bad := goodIn_r _ [10, 11, 12, 13, 14, 15, 16, 17, 18, 19, 20, 21, 22, 23, 24, 25, 26, 27, 28, 29] (by decide +kernel) (by decide +kernel)
set_option maxRecDepth 20000 in
theorem gX11_forget_X11_bad : GoodIn wsX11_forget (wsV RX11 68 RX11 yX11_bad wsX11_bad) := goodIn_app (goodIn_of _ (by decide +kernel)) ggX11_forget_X11_bad
set_option maxRecDepth 20000 in
theorem ggX11_is_X11_isOne : GoodIn wsX11_is wsX11_isOne := goodIn_r _ [5, 6, 7, 8, 4, 9, 10, 11, 12, 13, 26, 27, 28, 29, 30, 31, 32, 33, 34, 35, 36, 37, 38, 39, 40, 41, 42, 43] (by decide +kernel) (by decide +kernel)
set_option maxRecDepth 20000 in
theorem gX11_is_X11_isOne : GoodIn wsX11_is (wsV RX11 123 RX11 yX11_isOne wsX11_isOne) := goodIn_app (goodIn_of _ (by decide +kernel)) ggX11_is_X11_isOne
set_option maxRecDepth 20000 in
theorem ggX11_is_X11_bad : GoodIn wsX11_is wsX11_bad := goodIn_r _ [24, 25, 26, 27, 28, 29, 30, 31, 32, 33, 34, 35, 36, 37, 38, 39, 40, 41, 42, 43] (by decide +kernel) (by decide +kernel)
set_option maxRecDepth 20000 in
theorem gX11_is_X11_bad : GoodIn wsX11_is (wsV RX11 68 RX11 yX11_bad wsX11_bad) := goodIn_app (goodIn_of _ (by decide +kernel)) ggX11_is_X11_bad
set_option maxRecDepth 20000 in
theorem ggX11_look_X11_isOne : GoodIn wsX11_look wsX11_isOne := goodIn_r _ [8, 9, 10, 11, 7, 12, 3, 13, 14, 15, 35, 36, 37, 38, 39, 40, 41, 42, 43, 44, 45, 46, 47, 48, 49, 50, 51, 52] (by decide +kernel) (by decide +kernel)
set_option maxRecDepth 20000 in
theorem gX11_look_X11_isOne : GoodIn wsX11_look (wsV RX11 123 RX11 yX11_isOne wsX11_isOne) := goodIn_app (goodIn_of _ (by decide +kernel)) ggX11_look_X11_isOne
set_option maxRecDepth 20000 in
theorem ggX11_look_X11_bad : GoodIn wsX11_look wsX11_bad := goodIn_r _ [19, 20, 35, 36, 37, 38, 39, 40, 41, 42, 43, 44, 45, 46, 47, 48, 49, 50, 51, 52] (by decide +kernel) (by decide +kernel)
set_option maxRecDepth 20000 in
theorem gX11_look_X11_bad : GoodIn wsX11_look (wsV RX11 68 RX11 yX11_bad wsX11_bad) := goodIn_app (goodIn_of _ (by decide +kernel)) ggX11_look_X11_bad
set_option maxRecDepth 20000 in
theorem ggX11_kinds_X11_isOne : GoodIn wsX11_kinds wsX11_isOne := goodIn_r _ [5, 6, 7, 8, 4, 9, 10, 11, 12, 13, 26, 27, 28, 29, 30, 31, 32, 33, 34, 35, 36, 37, 38, 39, 40, 41, 42, 43] (by decide +kernel) (by decide +kernel)
set_option maxRecDepth 20000 in
theorem gX11_kinds_X11_isOne : GoodIn wsX11_kinds (wsV RX11 123 RX11 yX11_isOne wsX11_isOne) := goodIn_app (goodIn_of _ (by decide +kernel)) ggX11_kinds_X11_isOne
set_option maxRecDepth 20000 in
theorem ggX11_kinds_X11_bad : GoodIn wsX11_kinds wsX11_bad := goodIn_r _ [24, 25, 26, 27, 28, 29, 30, 31, 32, 33, 34, 35, 36, 37, 38, 39, 40, 41, 42, 43] (by decide +kernel) (by decide +kernel)
set_option maxRecDepth 20000 in
theorem gX11_kinds_X11_bad : GoodIn wsX11_kinds (wsV RX11 68 RX11 yX11_bad wsX11_bad) := goodIn_app (goodIn_of _ (by decide +kernel)) ggX11_kinds_X11_bad
set_option maxRecDepth 20000 in
theorem ggX11_ask_X11_isOne : GoodIn wsX11_ask wsX11_isOne := goodIn_r _ [7, 8, 9, 10, 6, 11, 12, 13, 14, 15, 35, 36, 37, 38, 39, 40, 41, 42, 43, 44, 45, 46, 47, 48, 49, 50, 51, 52] (by decide +kernel) (by decide +kernel)
set_option maxRecDepth 20000 in
theorem gX11_ask_X11_isOne : GoodIn wsX11_ask (wsV RX11 123 RX11 yX11_isOne wsX11_isOne) := goodIn_app (goodIn_of _ (by decide +kernel)) ggX11_ask_X11_isOne
set_option maxRecDepth 20000 in
theorem ggX11_ask_X11_bad : GoodIn wsX11_ask wsX11_bad := goodIn_r _ [19, 20, 35, 36, 37, 38, 39, 40, 41, 42, 43, 44, 45, 46, 47, 48, 49, 50, 51, 52] (by decide +kernel) (by decide +kernel)
set_option maxRecDepth 20000 in
theorem gX11_ask_X11_bad : GoodIn wsX11_ask (wsV RX11 68 RX11 yX11_bad wsX11_bad) := goodIn_app (goodIn_of _ (by decide +kernel)) ggX11_ask_X11_bad
set_option maxRecDepth 20000 in
theorem ggX11_pair_X11_isOne : GoodIn wsX11_pair wsX11_isOne := goodIn_r _ [7, 8, 9, 10, 6, 11, 12, 13, 14, 15, 58, 59, 60, 61, 62, 63, 64, 65, 66, 67, 68, 69, 70, 71, 72, 73, 74, 75] (by decide +kernel) (by decide +kernel)
set_option maxRecDepth 20000 in
theorem gX11_pair_X11_isOne : GoodIn wsX11_pair (wsV RX11 123 RX11 yX11_isOne wsX11_isOne) := goodIn_app (goodIn_of _ (by decide +kernel)) ggX11_pair_X11_isOne
set_option maxRecDepth 20000 in
theorem ggX11_pair_X11_bad : GoodIn wsX11_pair wsX11_bad := goodIn_r _ [19, 20, 58, 59, 60, 61, 62, 63, 64, 65, 66, 67, 68, 69, 70, 71, 72, 73, 74, 75] (by decide +kernel) (by decide +kernel)
set_option maxRecDepth 20000 in
theorem gX11_pair_X11_bad : GoodIn wsX11_pair (wsV RX11 68 RX11 yX11_bad wsX11_bad) := goodIn_app (goodIn_of _ (by decide +kernel)) ggX11_pair_X11_bad
set_option maxRecDepth 20000 in
theorem ggX11_pair_X11_layHand : GoodIn wsX11_pair wsX11_layHand := goodIn_r _ [24, 1, 12, 58, 59, 60, 61, 62, 63, 64, 65, 66, 67, 68, 69, 70, 71, 72, 73, 74, 75] (by decide +kernel) (by decide +kernel)
set_option maxRecDepth 20000 in
theorem gX11_pair_X11_layHand : GoodIn wsX11_pair (wsV RX11 137 RX11 yX11_layHand wsX11_layHand) := goodIn_app (goodIn_of _ (by decide +kernel)) ggX11_pair_X11_layHand
set_option maxRecDepth 20000 in
theorem ggX11_stumble_X11_isOne : GoodIn wsX11_stumble wsX11_isOne := goodIn_r _ [9, 10, 11, 12, 8, 13, 14, 15, 16, 17, 54, 55, 56, 57, 58, 59, 60, 61, 62, 63, 64, 65, 66, 67, 68, 69, 70, 71] (by decide +kernel) (by decide +kernel)
set_option maxRecDepth 20000 in
theorem gX11_stumble_X11_isOne : GoodIn wsX11_stumble (wsV RX11 123 RX11 yX11_isOne wsX11_isOne) := goodIn_app (goodIn_of _ (by decide +kernel)) ggX11_stumble_X11_isOne
set_option maxRecDepth 20000 in
theorem ggX11_stumble_X11_in : GoodIn wsX11_stumble wsX11_in := goodIn_r _ [17] (by decide +kernel) (by decide +kernel)
set_option maxRecDepth 20000 in
theorem gX11_stumble_X11_in : GoodIn wsX11_stumble (va_wsS RX11 56 yX11_in wsX11_in) := goodIn_app (goodIn_of _ (by decide +kernel)) ggX11_stumble_X11_in
set_option maxRecDepth 20000 in
theorem ggX11_stumble_X11_bad : GoodIn wsX11_stumble wsX11_bad := goodIn_r _ [21, 22, 54, 55, 56, 57, 58, 59, 60, 61, 62, 63, 64, 65, 66, 67, 68, 69, 70, 71] (by decide +kernel) (by decide +kernel)
set_option maxRecDepth 20000 in
theorem gX11_stumble_X11_bad : GoodIn wsX11_stumble (wsV RX11 68 RX11 yX11_bad wsX11_bad) := goodIn_app (goodIn_of _ (by decide +kernel)) ggX11_stumble_X11_bad
set_option maxRecDepth 20000 in
theorem ggX11_stumble_X11_layHand : GoodIn wsX11_stumble wsX11_layHand := goodIn_r _ [26, 4, 14, 54, 55, 56, 57, 58, 59, 60, 61, 62, 63, 64, 65, 66, 67, 68, 69, 70, 71] (by decide +kernel) (by decide +kernel)
set_option maxRecDepth 20000 in
theorem gX11_stumble_X11_layHand : GoodIn wsX11_stumble (wsV RX11 137 RX11 yX11_layHand wsX11_layHand) := goodIn_app (goodIn_of _ (by decide +kernel)) ggX11_stumble_X11_layHand
set_option maxRecDepth 20000 in
theorem ggX11_races_X11_in : GoodIn wsX11_races wsX11_in := goodIn_r _ [14] (by decide +kernel) (by decide +kernel)
set_option maxRecDepth 20000 in
theorem gX11_races_X11_in : GoodIn wsX11_races (va_wsS RX11 56 yX11_in wsX11_in) := goodIn_app (goodIn_of _ (by decide +kernel)) ggX11_races_X11_in
set_option maxRecDepth 20000 in
theorem ggX11_races_X11_bad : GoodIn wsX11_races wsX11_bad := goodIn_r _ [18, 19, 57, 58, 59, 60, 61, 62, 63, 64, 65, 66, 67, 68, 69, 70, 71, 72, 73, 74] (by decide +kernel) (by decide +kernel)
set_option maxRecDepth 20000 in
theorem gX11_races_X11_bad : GoodIn wsX11_races (wsV RX11 68 RX11 yX11_bad wsX11_bad) := goodIn_app (goodIn_of _ (by decide +kernel)) ggX11_races_X11_bad
set_option maxRecDepth 20000 in
theorem ggX11_races_X11_layHand : GoodIn wsX11_races wsX11_layHand := goodIn_r _ [23, 8, 24, 57, 58, 59, 60, 61, 62, 63, 64, 65, 66, 67, 68, 69, 70, 71, 72, 73, 74] (by decide +kernel) (by decide +kernel)
set_option maxRecDepth 20000 in
theorem gX11_races_X11_layHand : GoodIn wsX11_races (wsV RX11 137 RX11 yX11_layHand wsX11_layHand) := goodIn_app (goodIn_of _ (by decide +kernel)) ggX11_races_X11_layHand
set_option maxRecDepth 20000 in
theorem ggX11_races_X11_isOne : GoodIn wsX11_races wsX11_isOne := goodIn_r _ [28, 29, 30, 31, 13, 32, 24, 11, 12, 14, 57, 58, 59, 60, 61, 62, 63, 64, 65, 66, 67, 68, 69, 70, 71, 72, 73, 74] (by decide +kernel) (by decide +kernel)
set_option maxRecDepth 20000 in
theorem gX11_races_X11_isOne : GoodIn wsX11_races (wsV RX11 123 RX11 yX11_isOne wsX11_isOne) := goodIn_app (goodIn_of _ (by decide +kernel)) ggX11_races_X11_isOne
set_option maxRecDepth 20000 in
theorem ggX11_races_X11_goTick : GoodIn wsX11_races wsX11_goTick := goodIn_r _ [35, 36, 37, 13, 38, 39, 40, 41, 42, 43, 44, 45, 46, 47, 48, 49, 50, 51, 52, 53] (by decide +kernel) (by decide +kernel)
set_option maxRecDepth 20000 in
theorem gX11_races_X11_goTick : GoodIn wsX11_races (va_wsS RX11 109 yX11_goTick wsX11_goTick) := goodIn_app (goodIn_of _ (by decide +kernel)) ggX11_races_X11_goTick
set_option maxRecDepth 20000 in
theorem ggX11_races_X11_manyHome : GoodIn wsX11_races wsX11_manyHome := goodIn_r _ [56, 36, 37, 13, 38] (by decide +kernel) (by decide +kernel)
set_option maxRecDepth 20000 in
theorem gX11_races_X11_manyHome : GoodIn wsX11_races (va_wsS RX11 119 yX11_manyHome wsX11_manyHome) := goodIn_app (goodIn_of _ (by decide +kernel)) ggX11_races_X11_manyHome
set_option maxRecDepth 20000 in
theorem ggX11_type_X11_in : GoodIn wsX11_type wsX11_in := goodIn_r _ [7] (by decide +kernel) (by decide +kernel)
set_option maxRecDepth 20000 in
theorem gX11_type_X11_in : GoodIn wsX11_type (va_wsS RX11 56 yX11_in wsX11_in) := goodIn_app (goodIn_of _ (by decide +kernel)) ggX11_type_X11_in
set_option maxRecDepth 20000 in
theorem ggX11_type_X11_bad : GoodIn wsX11_type wsX11_bad := goodIn_r _ [11, 12, 17, 18, 19, 20, 21, 22, 23, 24, 25, 26, 27, 28, 29, 30, 31, 32, 33, 34] (by decide +kernel) (by decide +kernel)
set_option maxRecDepth 20000 in
theorem gX11_type_X11_bad : GoodIn wsX11_type (wsV RX11 68 RX11 yX11_bad wsX11_bad) := goodIn_app (goodIn_of _ (by decide +kernel)) ggX11_type_X11_bad
set_option maxRecDepth 20000 in
theorem ggX11_read_X11_lookAt : GoodIn wsX11_read wsX11_lookAt := goodIn_r _ [10, 1, 11, 12, 13, 2, 14, 15, 16, 9, 17, 18, 19, 20, 21, 22, 23, 24, 25, 26, 27, 90, 91, 92, 93, 94, 95, 96, 97, 98, 99, 100, 101, 102, 103, 104, 105, 106, 107] (by decide +kernel) (by decide +kernel)
set_option maxRecDepth 20000 in
theorem gX11_read_X11_lookAt : GoodIn wsX11_read (wsV RX11 235 RX11 yX11_lookAt wsX11_lookAt) := goodIn_app (goodIn_of _ (by decide +kernel)) ggX11_read_X11_lookAt
set_option maxRecDepth 20000 in
theorem ggX11_read_X11_spells : GoodIn wsX11_read wsX11_spells := goodIn_r _ [31, 2, 13, 12, 1, 90, 91, 92, 93, 94, 95, 96, 97, 98, 99, 100, 101, 102, 103, 104, 105, 106, 107] (by decide +kernel) (by decide +kernel)
set_option maxRecDepth 20000 in
theorem gX11_read_X11_spells : GoodIn wsX11_read (wsV RX11 245 RX11 yX11_spells wsX11_spells) := goodIn_app (goodIn_of _ (by decide +kernel)) ggX11_read_X11_spells
set_option maxRecDepth 20000 in
theorem ggX11_read_X11_begin : GoodIn wsX11_read wsX11_begin := goodIn_r _ [42] (by decide +kernel) (by decide +kernel)
set_option maxRecDepth 20000 in
theorem gX11_read_X11_begin : GoodIn wsX11_read (va_wsS RX11 48 yX11_begin wsX11_begin) := goodIn_app (goodIn_of _ (by decide +kernel)) ggX11_read_X11_begin
set_option maxRecDepth 20000 in
theorem ggX11_part_X11_bad : GoodIn wsX11_part wsX11_bad := goodIn_r _ [7, 8, 9, 10, 11, 12, 13, 14, 15, 16, 17, 18, 19, 20, 21, 22, 23, 24, 25, 26] (by decide +kernel) (by decide +kernel)
set_option maxRecDepth 20000 in
theorem gX11_part_X11_bad : GoodIn wsX11_part (wsV RX11 68 RX11 yX11_bad wsX11_bad) := goodIn_app (goodIn_of _ (by decide +kernel)) ggX11_part_X11_bad
set_option maxRecDepth 20000 in
theorem ggX11_image_X11_in : GoodIn wsX11_image wsX11_in := goodIn_r _ [7] (by decide +kernel) (by decide +kernel)
set_option maxRecDepth 20000 in
theorem gX11_image_X11_in : GoodIn wsX11_image (va_wsS RX11 56 yX11_in wsX11_in) := goodIn_app (goodIn_of _ (by decide +kernel)) ggX11_image_X11_in
set_option maxRecDepth 20000 in
theorem ggX11_image_X11_bad : GoodIn wsX11_image wsX11_bad := goodIn_r _ [11, 12, 13, 14, 15, 16, 17, 18, 19, 20, 21, 22, 23, 24, 25, 26, 27, 28, 29, 30] (by decide +kernel) (by decide +kernel)
set_option maxRecDepth 20000 in
theorem gX11_image_X11_bad : GoodIn wsX11_image (wsV RX11 68 RX11 yX11_bad wsX11_bad) := goodIn_app (goodIn_of _ (by decide +kernel)) ggX11_image_X11_bad
set_option maxRecDepth 20000 in
theorem ggX11_from_X11_in : GoodIn wsX11_from wsX11_in := goodIn_r _ [7] (by decide +kernel) (by decide +kernel)
set_option maxRecDepth 20000 in
theorem gX11_from_X11_in : GoodIn wsX11_from (va_wsS RX11 56 yX11_in wsX11_in) := goodIn_app (goodIn_of _ (by decide +kernel)) ggX11_from_X11_in
set_option maxRecDepth 20000 in
theorem ggX11_from_X11_bad : GoodIn wsX11_from wsX11_bad := goodIn_r _ [11, 12, 17, 18, 19, 20, 21, 22, 23, 24, 25, 26, 27, 28, 29, 30, 31, 32, 33, 34] (by decide +kernel) (by decide +kernel)
set_option maxRecDepth 20000 in
theorem gX11_from_X11_bad : GoodIn wsX11_from (wsV RX11 68 RX11 yX11_bad wsX11_bad) := goodIn_app (goodIn_of _ (by decide +kernel)) ggX11_from_X11_bad
set_option maxRecDepth 20000 in
theorem ggX11_from_X11_no : GoodIn wsX11_from wsX11_no := goodIn_r _ [16, 12, 17, 18, 19, 20, 21, 22, 23, 24, 25, 26, 27, 28, 29, 30, 31, 32, 33, 34] (by decide +kernel) (by decide +kernel)
set_option maxRecDepth 20000 in
theorem gX11_from_X11_no : GoodIn wsX11_from (wsV RX11 129 RX11 yX11_no wsX11_no) := goodIn_app (goodIn_of _ (by decide +kernel)) ggX11_from_X11_no
set_option maxRecDepth 20000 in
theorem ggX11_status_X11_in : GoodIn wsX11_status wsX11_in := goodIn_r _ [6] (by decide +kernel) (by decide +kernel)
set_option maxRecDepth 20000 in
theorem gX11_status_X11_in : GoodIn wsX11_status (va_wsS RX11 56 yX11_in wsX11_in) := goodIn_app (goodIn_of _ (by decide +kernel)) ggX11_status_X11_in
set_option maxRecDepth 20000 in
theorem ggX11_status_X11_bad : GoodIn wsX11_status wsX11_bad := goodIn_r _ [10, 2, 11, 12, 13, 14, 15, 16, 17, 18, 19, 20, 21, 22, 23, 24, 25, 26, 27, 28] (by decide +kernel) (by decide +kernel)
set_option maxRecDepth 20000 in
theorem gX11_status_X11_bad : GoodIn wsX11_status (wsV RX11 68 RX11 yX11_bad wsX11_bad) := goodIn_app (goodIn_of _ (by decide +kernel)) ggX11_status_X11_bad
set_option maxRecDepth 20000 in
theorem ggX11_sumOf_X11_many : GoodIn wsX11_sumOf wsX11_many := goodIn_r _ [6, 1, 7, 8, 9, 10, 11, 12, 13, 14, 15, 16, 17, 18, 19, 20, 21, 22, 23, 24] (by decide +kernel) (by decide +kernel)
set_option maxRecDepth 20000 in
theorem gX11_sumOf_X11_many : GoodIn wsX11_sumOf (wsV RX11 52 RX11 yX11_many wsX11_many) := goodIn_app (goodIn_of _ (by decide +kernel)) ggX11_sumOf_X11_many
set_option maxRecDepth 20000 in
theorem ggX11_counted_X11_many : GoodIn wsX11_counted wsX11_many := goodIn_r _ [7, 1, 18, 19, 20, 21, 22, 23, 24, 25, 26, 27, 28, 29, 30, 31, 32, 33, 34, 35] (by decide +kernel) (by decide +kernel)
set_option maxRecDepth 20000 in
theorem gX11_counted_X11_many : GoodIn wsX11_counted (wsV RX11 52 RX11 yX11_many wsX11_many) := goodIn_app (goodIn_of _ (by decide +kernel)) ggX11_counted_X11_many
set_option maxRecDepth 20000 in
theorem ggX11_counted_X11_manyHome : GoodIn wsX11_counted wsX11_manyHome := goodIn_r _ [10, 11, 12, 6, 13] (by decide +kernel) (by decide +kernel)
set_option maxRecDepth 20000 in
theorem gX11_counted_X11_manyHome : GoodIn wsX11_counted (va_wsS RX11 119 yX11_manyHome wsX11_manyHome) := goodIn_app (goodIn_of _ (by decide +kernel)) ggX11_counted_X11_manyHome
set_option maxRecDepth 20000 in
theorem ggX11_counted_X11_sumOf : GoodIn wsX11_counted wsX11_sumOf := goodIn_r _ [17, 1, 3, 4, 5, 6, 7, 18, 19, 20, 21, 22, 23, 24, 25, 26, 27, 28, 29, 30, 31, 32, 33, 34, 35] (by decide +kernel) (by decide +kernel)
set_option maxRecDepth 20000 in
theorem gX11_counted_X11_sumOf : GoodIn wsX11_counted (wsV RX11 265 RX11 yX11_sumOf wsX11_sumOf) := goodIn_app (goodIn_of _ (by decide +kernel)) ggX11_counted_X11_sumOf
set_option maxRecDepth 20000 in
theorem ggX11_count_X11_in : GoodIn wsX11_count wsX11_in := goodIn_r _ [5] (by decide +kernel) (by decide +kernel)
set_option maxRecDepth 20000 in
theorem gX11_count_X11_in : GoodIn wsX11_count (va_wsS RX11 56 yX11_in wsX11_in) := goodIn_app (goodIn_of _ (by decide +kernel)) ggX11_count_X11_in
set_option maxRecDepth 20000 in
theorem ggX11_count_X11_counted : GoodIn wsX11_count wsX11_counted := goodIn_r _ [9, 10, 11, 12, 13, 14, 4, 15, 16, 17, 18, 19, 20, 21, 22, 23, 24, 25, 31, 32, 33, 34, 35, 36, 37, 38, 39, 40, 41, 42, 43, 44, 45, 46, 47, 48] (by decide +kernel) (by decide +kernel)
set_option maxRecDepth 20000 in
theorem gX11_count_X11_counted : GoodIn wsX11_count (wsV RX11 268 RX11 yX11_counted wsX11_counted) := goodIn_app (goodIn_of _ (by decide +kernel)) ggX11_count_X11_counted
set_option maxRecDepth 20000 in
theorem ggX11_count_X11_bad : GoodIn wsX11_count wsX11_bad := goodIn_r _ [29, 30, 31, 32, 33, 34, 35, 36, 37, 38, 39, 40, 41, 42, 43, 44, 45, 46, 47, 48] (by decide +kernel) (by decide +kernel)
set_option maxRecDepth 20000 in
theorem gX11_count_X11_bad : GoodIn wsX11_count (wsV RX11 68 RX11 yX11_bad wsX11_bad) := goodIn_app (goodIn_of _ (by decide +kernel)) ggX11_count_X11_bad
set_option maxRecDepth 20000 in
theorem ggX11_digest_X11_counted : GoodIn wsX11_digest wsX11_counted := goodIn_r _ [10, 3, 11, 12, 13, 14, 9, 15, 16, 17, 18, 19, 20, 21, 22, 23, 24, 25, 43, 44, 45, 46, 47, 48, 49, 50, 51, 52, 53, 54, 55, 56, 57, 58, 59, 60] (by decide +kernel) (by decide +kernel)
set_option maxRecDepth 20000 in
theorem gX11_digest_X11_counted : GoodIn wsX11_digest (wsV RX11 268 RX11 yX11_counted wsX11_counted) := goodIn_app (goodIn_of _ (by decide +kernel)) ggX11_digest_X11_counted
set_option maxRecDepth 20000 in
theorem ggX11_digest_X11_many : GoodIn wsX11_digest wsX11_many := goodIn_r _ [15, 3, 43, 44, 45, 46, 47, 48, 49, 50, 51, 52, 53, 54, 55, 56, 57, 58, 59, 60] (by decide +kernel) (by decide +kernel)
set_option maxRecDepth 20000 in
theorem gX11_digest_X11_many : GoodIn wsX11_digest (wsV RX11 52 RX11 yX11_many wsX11_many) := goodIn_app (goodIn_of _ (by decide +kernel)) ggX11_digest_X11_many
set_option maxRecDepth 20000 in
theorem ggX11_digest_X11_sums : GoodIn wsX11_digest wsX11_sums := goodIn_r _ [42, 2, 3, 43, 44, 45, 46, 47, 48, 49, 50, 51, 52, 53, 54, 55, 56, 57, 58, 59, 60] (by decide +kernel) (by decide +kernel)
set_option maxRecDepth 20000 in
theorem gX11_digest_X11_sums : GoodIn wsX11_digest (wsV RX11 275 RX11 yX11_sums wsX11_sums) := goodIn_app (goodIn_of _ (by decide +kernel)) ggX11_digest_X11_sums
set_option maxRecDepth 20000 in
theorem ggL_law_X10_init : GoodIn wsL_law wsX10_init := goodIn_r _ [8, 9, 10, 11, 12, 13, 14, 15, 16, 17, 18, 19, 20, 21, 22, 23, 24, 25, 26, 27, 28, 29, 30, 31, 32, 33, 34, 35, 36, 37, 38, 39, 40, 41, 42, 43, 44, 45, 46, 47, 48, 49, 50, 51, 52, 53, 54, 55, 56, 57, 58, 59, 60, 61, 62, 63, 64, 65, 66, 67, 68, 69, 70, 71, 72, 73, 74, 75, 76, 77, 78, 79, 80, 81, 82, 83, 84, 85, 86, 87, 88, 89, 90, 91, 92, 93, 94, 95, 96, 97, 98, 99, 100, 101, 102, 103, 104, 105, 106, 107, 1086, 1087, 1088, 1089, 1090, 1091, 1092, 1093, 1054, 1055, 1056, 1057, 1058, 1059, 1060, 1061, 1062, 1063, 1064, 1065, 1066, 1067, 1094, 1095, 1096, 1097, 1098, 1099, 1100, 1101, 1102, 1103, 1104, 1105, 1106, 1107, 1108, 1109, 1110, 1111, 1112, 1113, 1114, 1115, 1116, 1117, 1118, 1119, 1120, 1121, 1122, 1123, 1124, 1125, 1126, 1127, 1128, 1129, 1130] (by decide +kernel) (by decide +kernel)
set_option maxRecDepth 20000 in
theorem gL_law_X10_init : GoodIn wsL_law (wsX10_init) := ggL_law_X10_init
set_option maxRecDepth 20000 in
theorem ggL_law_X11_init : GoodIn wsL_law wsX11_init := goodIn_r _ [110, 111, 10, 11, 24, 112, 113, 18, 114, 115, 116, 117, 118, 119, 120, 121, 122, 123, 124, 125, 5, 126, 1068, 1069, 1070, 1071, 1072, 1073, 1074, 1075, 1076, 1077, 1078, 1079, 1080, 1081, 1082, 1083, 1084, 1085] (by decide +kernel) (by decide +kernel)
set_option maxRecDepth 20000 in
theorem gL_law_X11_init : GoodIn wsL_law (wsX11_init) := ggL_law_X11_init
set_option maxRecDepth 20000 in
theorem ggL_law_X10_race : GoodIn wsL_law wsX10_race := goodIn_r _ [130, 15, 131, 132, 133, 2, 134, 135, 136, 137, 138, 25, 139, 140, 141, 14, 142, 50, 51, 52, 58, 143, 62, 144, 63, 64, 1054, 1055, 1056, 1057, 1058, 1059, 1060, 1061, 1062, 1063, 1064, 1065, 1066, 1067, 1086, 1087, 1088, 1089, 1090, 1091, 1092, 1093, 1124, 1125, 1126, 1127, 1128, 1129, 1130] (by decide +kernel) (by decide +kernel)
set_option maxRecDepth 20000 in
theorem gL_law_X10_race : GoodIn wsL_law (wsV RL 13 RX10 yX10_race wsX10_race) := goodIn_app (goodIn_of _ (by decide +kernel)) ggL_law_X10_race
set_option maxRecDepth 20000 in
theorem ggL_law_X11_race : GoodIn wsL_law wsX11_race := goodIn_r _ [148, 149, 150, 112, 151, 152, 5, 153, 154, 155, 156, 157, 115, 158, 159, 160, 161, 124, 125, 126, 1068, 1069, 1070, 1071, 1072, 1073, 1074, 1075, 1076, 1077, 1078, 1079, 1080, 1081, 1082, 1083, 1084, 1085] (by decide +kernel) (by decide +kernel)
set_option maxRecDepth 20000 in
theorem gL_law_X11_race : GoodIn wsL_law (wsV RL 17 RX11 yX11_race wsX11_race) := goodIn_app (goodIn_of _ (by decide +kernel)) ggL_law_X11_race
set_option maxRecDepth 20000 in
theorem ggL_law_X10_one : GoodIn wsL_law wsX10_one := goodIn_r _ [165, 15, 131, 132, 133, 2, 134, 135, 136, 137, 138, 25, 166, 167, 168, 14, 169, 52, 54, 58, 143, 170, 171, 172, 30, 173, 174, 175, 176, 177, 178, 179, 180, 181, 1054, 1055, 1056, 1057, 1058, 1059, 1060, 1061, 1062, 1063, 1064, 1065, 1066, 1067, 1086, 1087, 1088, 1089, 1090, 1091, 1092, 1093, 1124, 1125, 1101, 1102, 1103, 1104, 1105, 1106, 1107, 1108] (by decide +kernel) (by decide +kernel)
set_option maxRecDepth 20000 in
theorem gL_law_X10_one : GoodIn wsL_law (wsV RL 18 RX10 yX10_one wsX10_one) := goodIn_app (goodIn_of _ (by decide +kernel)) ggL_law_X10_one
set_option maxRecDepth 20000 in
theorem ggL_law_X11_one : GoodIn wsL_law wsX11_one := goodIn_r _ [185, 112, 186, 187, 5, 188, 189, 151, 152, 153, 190, 191, 192, 193, 154, 155, 156, 157, 115, 158, 159, 160, 161, 194, 195, 196, 197, 198, 199, 200, 1068, 1069, 1070, 1071, 1072, 1073, 1074, 1075, 1076, 1077, 1078, 1079, 1080, 1081, 1082, 1083, 1084, 1085] (by decide +kernel) (by decide +kernel)
set_option maxRecDepth 20000 in
theorem gL_law_X11_one : GoodIn wsL_law (wsV RL 22 RX11 yX11_one wsX11_one) := goodIn_app (goodIn_of _ (by decide +kernel)) ggL_law_X11_one
set_option maxRecDepth 20000 in
theorem ggL_law_X10_type : GoodIn wsL_law wsX10_type := goodIn_r _ [204, 23, 132, 133, 2, 134, 135, 136, 137, 138, 25, 205, 206, 207, 22, 208, 86, 85, 1054, 1055, 1056, 1057, 1058, 1059, 1060, 1061, 1062, 1063, 1064, 1065, 1066, 1067, 1094, 1095, 1096, 1097, 1098, 1099, 1100] (by decide +kernel) (by decide +kernel)
set_option maxRecDepth 20000 in
theorem gL_law_X10_type : GoodIn wsL_law (wsV RL 23 RX10 yX10_type wsX10_type) := goodIn_app (goodIn_of _ (by decide +kernel)) ggL_law_X10_type
set_option maxRecDepth 20000 in
theorem ggL_law_X11_type : GoodIn wsL_law wsX11_type := goodIn_r _ [212, 213, 214, 121, 151, 152, 5, 153, 154, 155, 156, 157, 115, 194, 195, 196, 197, 1068, 1069, 1070, 1071, 1072, 1073, 1074, 1075, 1076, 1077, 1078, 1079, 1080, 1081, 1082, 1083, 1084, 1085] (by decide +kernel) (by decide +kernel)
set_option maxRecDepth 20000 in
theorem gL_law_X11_type : GoodIn wsL_law (wsV RL 26 RX11 yX11_type wsX11_type) := goodIn_app (goodIn_of _ (by decide +kernel)) ggL_law_X11_type
set_option maxRecDepth 20000 in
theorem ggL_law_X10_clear : GoodIn wsL_law wsX10_clear := goodIn_r _ [218, 23, 1054, 1055, 1056, 1057, 1058, 1059, 1060, 1061, 1062, 1063, 1064, 1065, 1066, 1067, 1094, 1095, 1096, 1097, 1098, 1099, 1100] (by decide +kernel) (by decide +kernel)
set_option maxRecDepth 20000 in
theorem gL_law_X10_clear : GoodIn wsL_law (wsV RL 27 RX10 yX10_clear wsX10_clear) := goodIn_app (goodIn_of _ (by decide +kernel)) ggL_law_X10_clear
set_option maxRecDepth 20000 in
theorem ggL_law_X11_clear : GoodIn wsL_law wsX11_clear := goodIn_r _ [222, 214, 1068, 1069, 1070, 1071, 1072, 1073, 1074, 1075, 1076, 1077, 1078, 1079, 1080, 1081, 1082, 1083, 1084, 1085] (by decide +kernel) (by decide +kernel)
set_option maxRecDepth 20000 in
theorem gL_law_X11_clear : GoodIn wsL_law (wsV RL 31 RX11 yX11_clear wsX11_clear) := goodIn_app (goodIn_of _ (by decide +kernel)) ggL_law_X11_clear
set_option maxRecDepth 20000 in
theorem ggL_law_X10_read : GoodIn wsL_law wsX10_read := goodIn_r _ [226, 23, 16, 15, 227, 228, 229, 22, 230, 87, 91, 86, 231, 232, 233, 234, 89, 88, 235, 236, 237, 238, 239, 85, 240, 241, 242, 243, 244, 245, 246, 247, 248, 249, 250, 251, 252, 253, 254, 255, 256, 257, 90, 258, 259, 260, 261, 262, 263, 264, 265, 266, 267, 268, 269, 270, 271, 272, 273, 274, 275, 276, 277, 278, 279, 280, 281, 282, 283, 284, 285, 286, 287, 288, 289, 290, 291, 292, 293, 294, 295, 296, 297, 298, 299, 300, 301, 302, 303, 304, 305, 306, 307, 308, 309, 310, 311, 312, 313, 314, 315, 316, 317, 318, 319, 320, 321, 322, 323, 140, 141, 14, 142, 50, 51, 52, 58, 143, 62, 144, 63, 64, 324, 325, 326, 327, 328, 167, 168, 169, 54, 170, 171, 172, 30, 173, 174, 175, 176, 177, 178, 179, 180, 181, 329, 330, 331, 332, 333, 334, 335, 336, 337, 338, 339, 340, 341, 342, 343, 344, 345, 346, 347, 348, 349, 350, 351, 352, 353, 354, 355, 356, 357, 358, 359, 360, 361, 362, 363, 364, 365, 366, 367, 368, 369, 1054, 1055, 1056, 1057, 1058, 1059, 1060, 1061, 1062, 1063, 1064, 1065, 1066, 1067, 1094, 1095, 1096, 1097, 1098, 1099, 1100, 1086, 1087, 1088, 1089, 1090, 1091, 1092, 1093, 1124, 1125, 1126, 1127, 1128, 1129, 1130, 1101, 1102, 1103, 1104, 1105, 1106, 1107, 1108] (by decide +kernel) (by decide +kernel)
set_option maxRecDepth 20000 in
theorem gL_law_X10_read : GoodIn wsL_law (wsV RL 32 RX10 yX10_read wsX10_read) := goodIn_app (goodIn_of _ (by decide +kernel)) ggL_law_X10_read
set_option maxRecDepth 20000 in
theorem ggL_law_X11_read : GoodIn wsL_law wsX11_read := goodIn_r _ [373, 374, 375, 122, 123, 112, 376, 377, 378, 5, 379, 214, 121, 380, 381, 382, 383, 384, 385, 386, 151, 152, 153, 387, 388, 389, 390, 391, 392, 393, 394, 395, 396, 397, 398, 399, 400, 401, 402, 403, 124, 125, 126, 404, 405, 406, 407, 408, 409, 410, 411, 198, 199, 200, 412, 413, 414, 415, 416, 417, 418, 419, 420, 421, 422, 423, 424, 425, 426, 427, 428, 429, 430, 431, 432, 433, 434, 435, 436, 437, 438, 439, 440, 441, 442, 443, 444, 445, 446, 447, 1068, 1069, 1070, 1071, 1072, 1073, 1074, 1075, 1076, 1077, 1078, 1079, 1080, 1081, 1082, 1083, 1084, 1085] (by decide +kernel) (by decide +kernel)
set_option maxRecDepth 20000 in
theorem gL_law_X11_read : GoodIn wsL_law (wsV RL 35 RX11 yX11_read wsX11_read) := goodIn_app (goodIn_of _ (by decide +kernel)) ggL_law_X11_read
set_option maxRecDepth 20000 in
theorem ggL_law_X10_ticks : GoodIn wsL_law wsX10_ticks := goodIn_r _ [451, 15, 452, 132, 133, 2, 134, 135, 136, 137, 138, 25, 453, 454, 455, 14, 456, 58, 51, 54, 457, 458, 459, 57, 460, 69, 68, 461, 462, 463, 464, 465, 466, 467, 468, 469, 470, 354, 355, 356, 52, 50, 357, 358, 359, 30, 360, 180, 174, 175, 177, 176, 179, 178, 181, 361, 346, 347, 348, 362, 363, 364, 365, 366, 367, 368, 369, 471, 472, 473, 474, 475, 1054, 1055, 1056, 1057, 1058, 1059, 1060, 1061, 1062, 1063, 1064, 1065, 1066, 1067, 1086, 1087, 1088, 1089, 1090, 1091, 1092, 1093, 1124, 1125, 1101, 1102, 1103, 1104, 1105, 1106, 1107, 1108] (by decide +kernel) (by decide +kernel)
set_option maxRecDepth 20000 in
theorem gL_law_X10_ticks : GoodIn wsL_law (wsV RL 36 RX10 yX10_ticks wsX10_ticks) := goodIn_app (goodIn_of _ (by decide +kernel)) ggL_law_X10_ticks
set_option maxRecDepth 20000 in
theorem ggL_law_X11_ticks : GoodIn wsL_law wsX11_ticks := goodIn_r _ [479, 150, 112, 151, 152, 5, 153, 154, 155, 156, 157, 115, 480, 481, 482, 483, 427, 428, 429, 430, 431, 432, 420, 421, 422, 433, 434, 435, 436, 437, 438, 439, 440, 441, 442, 443, 444, 445, 446, 447, 484, 485, 486, 1068, 1069, 1070, 1071, 1072, 1073, 1074, 1075, 1076, 1077, 1078, 1079, 1080, 1081, 1082, 1083, 1084, 1085] (by decide +kernel) (by decide +kernel)
set_option maxRecDepth 20000 in
theorem gL_law_X11_ticks : GoodIn wsL_law (wsV RL 39 RX11 yX11_ticks wsX11_ticks) := goodIn_app (goodIn_of _ (by decide +kernel)) ggL_law_X11_ticks
set_option maxRecDepth 20000 in
theorem ggL_law_X10_speed : GoodIn wsL_law wsX10_speed := goodIn_r _ [490, 15, 491, 492, 493, 494, 495, 2, 496, 131, 132, 133, 134, 135, 136, 137, 138, 25, 497, 346, 347, 30, 348, 181, 453, 454, 455, 14, 456, 58, 51, 54, 457, 458, 459, 57, 460, 69, 68, 461, 462, 463, 464, 465, 466, 467, 468, 469, 1054, 1055, 1056, 1057, 1058, 1059, 1060, 1061, 1062, 1063, 1064, 1065, 1066, 1067, 1086, 1087, 1088, 1089, 1090, 1091, 1092, 1093, 1101, 1102, 1103, 1104, 1105, 1106, 1107, 1108, 1124, 1125] (by decide +kernel) (by decide +kernel)
set_option maxRecDepth 20000 in
theorem gL_law_X10_speed : GoodIn wsL_law (wsV RL 40 RX10 yX10_speed wsX10_speed) := goodIn_app (goodIn_of _ (by decide +kernel)) ggL_law_X10_speed
set_option maxRecDepth 20000 in
theorem ggL_law_X11_speed : GoodIn wsL_law wsX11_speed := goodIn_r _ [501, 112, 502, 503, 504, 5, 505, 158, 159, 160, 161, 151, 152, 153, 506, 507, 508, 193, 154, 155, 156, 157, 115, 420, 421, 422, 509, 510, 511, 512, 480, 481, 482, 483, 1068, 1069, 1070, 1071, 1072, 1073, 1074, 1075, 1076, 1077, 1078, 1079, 1080, 1081, 1082, 1083, 1084, 1085] (by decide +kernel) (by decide +kernel)
set_option maxRecDepth 20000 in
theorem gL_law_X11_speed : GoodIn wsL_law (wsV RL 44 RX11 yX11_speed wsX11_speed) := goodIn_app (goodIn_of _ (by decide +kernel)) ggL_law_X11_speed
set_option maxRecDepth 20000 in
theorem ggL_law_X10_start : GoodIn wsL_law wsX10_start := goodIn_r _ [516, 15, 491, 517, 518, 493, 494, 495, 2, 496, 131, 132, 133, 134, 135, 136, 137, 138, 25, 497, 346, 347, 30, 348, 181, 453, 454, 455, 14, 456, 58, 51, 54, 457, 458, 459, 57, 460, 69, 68, 461, 462, 463, 464, 465, 466, 467, 468, 469, 1054, 1055, 1056, 1057, 1058, 1059, 1060, 1061, 1062, 1063, 1064, 1065, 1066, 1067, 1086, 1087, 1088, 1089, 1090, 1091, 1092, 1093, 1101, 1102, 1103, 1104, 1105, 1106, 1107, 1108, 1124, 1125] (by decide +kernel) (by decide +kernel)
set_option maxRecDepth 20000 in
theorem gL_law_X10_start : GoodIn wsL_law (wsV RL 45 RX10 yX10_start wsX10_start) := goodIn_app (goodIn_of _ (by decide +kernel)) ggL_law_X10_start
set_option maxRecDepth 20000 in
theorem ggL_law_X11_start : GoodIn wsL_law wsX11_start := goodIn_r _ [522, 523, 112, 502, 503, 504, 5, 505, 158, 159, 160, 161, 151, 152, 153, 154, 155, 156, 157, 115, 420, 421, 422, 509, 510, 511, 512, 480, 481, 482, 483, 1068, 1069, 1070, 1071, 1072, 1073, 1074, 1075, 1076, 1077, 1078, 1079, 1080, 1081, 1082, 1083, 1084, 1085] (by decide +kernel) (by decide +kernel)
set_option maxRecDepth 20000 in
theorem gL_law_X11_start : GoodIn wsL_law (wsV RL 48 RX11 yX11_start wsX11_start) := goodIn_app (goodIn_of _ (by decide +kernel)) ggL_law_X11_start
set_option maxRecDepth 20000 in
theorem ggL_law_X10_undo : GoodIn wsL_law wsX10_undo := goodIn_r _ [527, 15, 452, 528, 529, 530, 14, 531, 58, 54, 51, 532, 533, 534, 57, 535, 69, 68, 465, 466, 467, 468, 469, 135, 136, 137, 2, 138, 25, 1054, 1055, 1056, 1057, 1058, 1059, 1060, 1061, 1062, 1063, 1064, 1065, 1066, 1067, 1086, 1087, 1088, 1089, 1090, 1091, 1092, 1093, 1124, 1125, 1101, 1102, 1103, 1104, 1105, 1106, 1107, 1108] (by decide +kernel) (by decide +kernel)
set_option maxRecDepth 20000 in
theorem gL_law_X10_undo : GoodIn wsL_law (wsV RL 49 RX10 yX10_undo wsX10_undo) := goodIn_app (goodIn_of _ (by decide +kernel)) ggL_law_X10_undo
set_option maxRecDepth 20000 in
theorem ggL_law_X11_undo : GoodIn wsL_law wsX11_undo := goodIn_r _ [539, 112, 509, 510, 511, 5, 512, 115, 1068, 1069, 1070, 1071, 1072, 1073, 1074, 1075, 1076, 1077, 1078, 1079, 1080, 1081, 1082, 1083, 1084, 1085] (by decide +kernel) (by decide +kernel)
set_option maxRecDepth 20000 in
theorem gL_law_X11_undo : GoodIn wsL_law (wsV RL 52 RX11 yX11_undo wsX11_undo) := goodIn_app (goodIn_of _ (by decide +kernel)) ggL_law_X11_undo
set_option maxRecDepth 20000 in
theorem ggL_law_X10_of : GoodIn wsL_law wsX10_of := goodIn_r _ [543, 15, 491, 452, 493, 494, 495, 2, 496, 131, 132, 133, 134, 135, 136, 137, 138, 25, 544, 545, 546, 30, 547, 174, 175, 176, 177, 178, 179, 180, 181, 362, 363, 364, 365, 366, 367, 368, 369, 1054, 1055, 1056, 1057, 1058, 1059, 1060, 1061, 1062, 1063, 1064, 1065, 1066, 1067, 1086, 1087, 1088, 1089, 1090, 1091, 1092, 1093, 1101, 1102, 1103, 1104, 1105, 1106, 1107, 1108] (by decide +kernel) (by decide +kernel)
set_option maxRecDepth 20000 in
theorem gL_law_X10_of : GoodIn wsL_law (wsV RL 53 RX10 yX10_of wsX10_of) := goodIn_app (goodIn_of _ (by decide +kernel)) ggL_law_X10_of
set_option maxRecDepth 20000 in
theorem ggL_law_X11_of : GoodIn wsL_law wsX11_of := goodIn_r _ [551, 193, 502, 503, 504, 5, 505, 158, 159, 160, 161, 112, 151, 152, 153, 552, 553, 554, 555, 420, 421, 422, 436, 437, 438, 439, 440, 441, 442, 443, 444, 154, 155, 156, 157, 115, 1068, 1069, 1070, 1071, 1072, 1073, 1074, 1075, 1076, 1077, 1078, 1079, 1080, 1081, 1082, 1083, 1084, 1085] (by decide +kernel) (by decide +kernel)
set_option maxRecDepth 20000 in
theorem gL_law_X11_of : GoodIn wsL_law (wsV RL 56 RX11 yX11_of wsX11_of) := goodIn_app (goodIn_of _ (by decide +kernel)) ggL_law_X11_of
set_option maxRecDepth 20000 in
theorem ggL_law_X10_where : GoodIn wsL_law wsX10_where := goodIn_r _ [559, 31, 15, 491, 452, 518, 493, 494, 495, 2, 496, 131, 132, 133, 134, 135, 136, 137, 138, 25, 560, 561, 562, 30, 563, 174, 175, 176, 177, 178, 179, 180, 181, 564, 565, 566, 567, 568, 358, 359, 360, 361, 346, 347, 348, 362, 363, 364, 365, 366, 367, 368, 369, 1054, 1055, 1056, 1057, 1058, 1059, 1060, 1061, 1062, 1063, 1064, 1065, 1066, 1067, 1086, 1087, 1088, 1089, 1090, 1091, 1092, 1093, 1101, 1102, 1103, 1104, 1105, 1106, 1107, 1108] (by decide +kernel) (by decide +kernel)
set_option maxRecDepth 20000 in
theorem gL_law_X10_where : GoodIn wsL_law (wsV RL 57 RX10 yX10_where wsX10_where) := goodIn_app (goodIn_of _ (by decide +kernel)) ggL_law_X10_where
set_option maxRecDepth 20000 in
theorem ggL_law_X11_where : GoodIn wsL_law wsX11_where := goodIn_r _ [572, 150, 117, 502, 503, 504, 5, 505, 158, 159, 160, 161, 112, 151, 152, 153, 154, 155, 156, 157, 115, 573, 574, 575, 576, 577, 578, 579, 580, 430, 431, 432, 420, 421, 422, 433, 434, 435, 436, 437, 438, 439, 440, 441, 442, 443, 444, 445, 446, 447, 1068, 1069, 1070, 1071, 1072, 1073, 1074, 1075, 1076, 1077, 1078, 1079, 1080, 1081, 1082, 1083, 1084, 1085] (by decide +kernel) (by decide +kernel)
set_option maxRecDepth 20000 in
theorem gL_law_X11_where : GoodIn wsL_law (wsV RL 60 RX11 yX11_where wsX11_where) := goodIn_app (goodIn_of _ (by decide +kernel)) ggL_law_X11_where
set_option maxRecDepth 20000 in
theorem ggL_law_X10_home : GoodIn wsL_law wsX10_home := goodIn_r _ [584, 493, 494, 495, 2, 496, 15, 131, 585, 586, 587, 588, 31, 491, 452, 518, 560, 561, 562, 30, 563, 174, 175, 176, 177, 178, 179, 180, 181, 589, 590, 591, 592, 361, 346, 347, 348, 568, 358, 359, 360, 362, 363, 364, 365, 366, 367, 368, 369, 135, 136, 137, 138, 25, 1054, 1055, 1056, 1057, 1058, 1059, 1060, 1061, 1062, 1063, 1064, 1065, 1066, 1067, 1086, 1087, 1088, 1089, 1090, 1091, 1092, 1093, 1101, 1102, 1103, 1104, 1105, 1106, 1107, 1108] (by decide +kernel) (by decide +kernel)
set_option maxRecDepth 20000 in
theorem gL_law_X10_home : GoodIn wsL_law (wsV RL 61 RX10 yX10_home wsX10_home) := goodIn_app (goodIn_of _ (by decide +kernel)) ggL_law_X10_home
set_option maxRecDepth 20000 in
theorem ggL_law_X11_home : GoodIn wsL_law wsX11_home := goodIn_r _ [596, 502, 503, 504, 5, 505, 158, 159, 160, 161, 112, 151, 152, 153, 597, 598, 599, 600, 573, 574, 575, 576, 117, 601, 602, 603, 604, 420, 421, 422, 430, 431, 432, 433, 434, 435, 436, 437, 438, 439, 440, 441, 442, 443, 444, 445, 446, 447, 154, 155, 156, 157, 115, 1068, 1069, 1070, 1071, 1072, 1073, 1074, 1075, 1076, 1077, 1078, 1079, 1080, 1081, 1082, 1083, 1084, 1085] (by decide +kernel) (by decide +kernel)
set_option maxRecDepth 20000 in
theorem gL_law_X11_home : GoodIn wsL_law (wsV RL 64 RX11 yX11_home wsX11_home) := goodIn_app (goodIn_of _ (by decide +kernel)) ggL_law_X11_home
set_option maxRecDepth 20000 in
theorem ggL_law_X10_first : GoodIn wsL_law wsX10_first := goodIn_r _ [608, 15, 131, 491, 497, 346, 347, 30, 348, 181, 585, 586, 587, 2, 588, 31, 452, 518, 560, 561, 562, 563, 174, 175, 176, 177, 178, 179, 180, 589, 590, 591, 592, 361, 568, 358, 359, 360, 362, 363, 364, 365, 366, 367, 368, 369, 1054, 1055, 1056, 1057, 1058, 1059, 1060, 1061, 1062, 1063, 1064, 1065, 1066, 1067, 1086, 1087, 1088, 1089, 1090, 1091, 1092, 1093, 1101, 1102, 1103, 1104, 1105, 1106, 1107, 1108] (by decide +kernel) (by decide +kernel)
set_option maxRecDepth 20000 in
theorem gL_law_X10_first : GoodIn wsL_law (wsV RL 65 RX10 yX10_first wsX10_first) := goodIn_app (goodIn_of _ (by decide +kernel)) ggL_law_X10_first
set_option maxRecDepth 20000 in
theorem ggL_law_X11_first : GoodIn wsL_law wsX11_first := goodIn_r _ [612, 613, 112, 158, 159, 160, 5, 161, 420, 421, 422, 597, 598, 599, 600, 573, 574, 575, 576, 117, 601, 602, 603, 604, 430, 431, 432, 433, 434, 435, 436, 437, 438, 439, 440, 441, 442, 443, 444, 445, 446, 447, 1068, 1069, 1070, 1071, 1072, 1073, 1074, 1075, 1076, 1077, 1078, 1079, 1080, 1081, 1082, 1083, 1084, 1085] (by decide +kernel) (by decide +kernel)
set_option maxRecDepth 20000 in
theorem gL_law_X11_first : GoodIn wsL_law (wsV RL 68 RX11 yX11_first wsX11_first) := goodIn_app (goodIn_of _ (by decide +kernel)) ggL_law_X11_first
set_option maxRecDepth 20000 in
theorem ggL_law_X10_order : GoodIn wsL_law wsX10_order := goodIn_r _ [617, 15, 131, 135, 136, 137, 2, 138, 25, 618, 619, 620, 621, 491, 45, 622, 585, 586, 587, 588, 31, 452, 518, 560, 561, 562, 30, 563, 174, 175, 176, 177, 178, 179, 180, 181, 589, 590, 591, 592, 361, 346, 347, 348, 568, 358, 359, 360, 362, 363, 364, 365, 366, 367, 368, 369, 497, 623, 624, 625, 626, 1054, 1055, 1056, 1057, 1058, 1059, 1060, 1061, 1062, 1063, 1064, 1065, 1066, 1067, 1086, 1087, 1088, 1089, 1090, 1091, 1092, 1093, 1101, 1102, 1103, 1104, 1105, 1106, 1107, 1108] (by decide +kernel) (by decide +kernel)
set_option maxRecDepth 20000 in
theorem gL_law_X10_order : GoodIn wsL_law (wsV RL 69 RX10 yX10_order wsX10_order) := goodIn_app (goodIn_of _ (by decide +kernel)) ggL_law_X10_order
set_option maxRecDepth 20000 in
theorem ggL_law_X11_order : GoodIn wsL_law wsX11_order := goodIn_r _ [630, 118, 112, 631, 613, 154, 155, 156, 5, 157, 115, 158, 159, 160, 161, 509, 510, 511, 512, 597, 598, 599, 600, 573, 574, 575, 576, 117, 601, 602, 603, 604, 420, 421, 422, 430, 431, 432, 433, 434, 435, 436, 437, 438, 439, 440, 441, 442, 443, 444, 445, 446, 447, 1068, 1069, 1070, 1071, 1072, 1073, 1074, 1075, 1076, 1077, 1078, 1079, 1080, 1081, 1082, 1083, 1084, 1085] (by decide +kernel) (by decide +kernel)
set_option maxRecDepth 20000 in
theorem gL_law_X11_order : GoodIn wsL_law (wsV RL 72 RX11 yX11_order wsX11_order) := goodIn_app (goodIn_of _ (by decide +kernel)) ggL_law_X11_order
set_option maxRecDepth 20000 in
theorem ggL_law_X10_best : GoodIn wsL_law wsX10_best := goodIn_r _ [635, 15, 491, 31, 492, 452, 518, 493, 494, 495, 2, 496, 131, 132, 133, 134, 135, 136, 137, 138, 25, 497, 346, 347, 30, 348, 181, 560, 561, 562, 563, 174, 175, 176, 177, 178, 179, 180, 589, 590, 591, 592, 361, 568, 358, 359, 360, 362, 363, 364, 365, 366, 367, 368, 369, 1054, 1055, 1056, 1057, 1058, 1059, 1060, 1061, 1062, 1063, 1064, 1065, 1066, 1067, 1086, 1087, 1088, 1089, 1090, 1091, 1092, 1093, 1101, 1102, 1103, 1104, 1105, 1106, 1107, 1108] (by decide +kernel) (by decide +kernel)
set_option maxRecDepth 20000 in
theorem gL_law_X10_best : GoodIn wsL_law (wsV RL 73 RX10 yX10_best wsX10_best) := goodIn_app (goodIn_of _ (by decide +kernel)) ggL_law_X10_best
set_option maxRecDepth 20000 in
theorem ggL_law_X11_best : GoodIn wsL_law wsX11_best := goodIn_r _ [639, 613, 112, 117, 502, 503, 504, 5, 505, 158, 159, 160, 161, 151, 152, 153, 154, 155, 156, 157, 115, 420, 421, 422, 573, 574, 575, 576, 601, 602, 603, 604, 430, 431, 432, 433, 434, 435, 436, 437, 438, 439, 440, 441, 442, 443, 444, 445, 446, 447, 1068, 1069, 1070, 1071, 1072, 1073, 1074, 1075, 1076, 1077, 1078, 1079, 1080, 1081, 1082, 1083, 1084, 1085] (by decide +kernel) (by decide +kernel)
set_option maxRecDepth 20000 in
theorem gL_law_X11_best : GoodIn wsL_law (wsV RL 76 RX11 yX11_best wsX11_best) := goodIn_app (goodIn_of _ (by decide +kernel)) ggL_law_X11_best
set_option maxRecDepth 20000 in
theorem ggL_law_X10_turn : GoodIn wsL_law wsX10_turn := goodIn_r _ [643, 15, 491, 493, 494, 495, 2, 496, 131, 132, 133, 134, 135, 136, 137, 138, 25, 497, 346, 347, 30, 348, 181, 644, 645, 646, 647, 648, 341, 342, 343, 31, 492, 452, 518, 585, 586, 587, 588, 560, 561, 562, 563, 174, 175, 176, 177, 178, 179, 180, 589, 590, 591, 592, 361, 568, 358, 359, 360, 362, 363, 364, 365, 366, 367, 368, 369, 1054, 1055, 1056, 1057, 1058, 1059, 1060, 1061, 1062, 1063, 1064, 1065, 1066, 1067, 1086, 1087, 1088, 1089, 1090, 1091, 1092, 1093, 1101, 1102, 1103, 1104, 1105, 1106, 1107, 1108] (by decide +kernel) (by decide +kernel)
set_option maxRecDepth 20000 in
theorem gL_law_X10_turn : GoodIn wsL_law (wsV RL 77 RX10 yX10_turn wsX10_turn) := goodIn_app (goodIn_of _ (by decide +kernel)) ggL_law_X10_turn
set_option maxRecDepth 20000 in
theorem ggL_law_X11_turn : GoodIn wsL_law wsX11_turn := goodIn_r _ [652, 613, 112, 117, 502, 503, 504, 5, 505, 158, 159, 160, 161, 151, 152, 153, 506, 507, 508, 193, 154, 155, 156, 157, 115, 420, 421, 422, 573, 574, 575, 576, 601, 602, 603, 604, 430, 431, 432, 433, 434, 435, 436, 437, 438, 439, 440, 441, 442, 443, 444, 445, 446, 447, 577, 578, 579, 580, 1068, 1069, 1070, 1071, 1072, 1073, 1074, 1075, 1076, 1077, 1078, 1079, 1080, 1081, 1082, 1083, 1084, 1085] (by decide +kernel) (by decide +kernel)
set_option maxRecDepth 20000 in
theorem gL_law_X11_turn : GoodIn wsL_law (wsV RL 80 RX11 yX11_turn wsX11_turn) := goodIn_app (goodIn_of _ (by decide +kernel)) ggL_law_X11_turn
set_option maxRecDepth 20000 in
theorem ggL_law_X10_beats : GoodIn wsL_law wsX10_beats := goodIn_r _ [656, 15, 491, 517, 518, 31, 452, 657, 658, 659, 2, 660, 493, 494, 495, 496, 131, 135, 136, 137, 138, 25, 497, 346, 347, 30, 348, 181, 585, 586, 587, 588, 560, 561, 562, 563, 174, 175, 176, 177, 178, 179, 180, 589, 590, 591, 592, 361, 568, 358, 359, 360, 362, 363, 364, 365, 366, 367, 368, 369, 1054, 1055, 1056, 1057, 1058, 1059, 1060, 1061, 1062, 1063, 1064, 1065, 1066, 1067, 1086, 1087, 1088, 1089, 1090, 1091, 1092, 1093, 1101, 1102, 1103, 1104, 1105, 1106, 1107, 1108] (by decide +kernel) (by decide +kernel)
set_option maxRecDepth 20000 in
theorem gL_law_X10_beats : GoodIn wsL_law (wsV RL 81 RX10 yX10_beats wsX10_beats) := goodIn_app (goodIn_of _ (by decide +kernel)) ggL_law_X10_beats
set_option maxRecDepth 20000 in
theorem ggL_law_X11_beats : GoodIn wsL_law wsX11_beats := goodIn_r _ [664, 112, 117, 502, 503, 504, 5, 505, 158, 159, 160, 161, 151, 152, 153, 154, 155, 156, 157, 115, 597, 598, 599, 600, 573, 574, 575, 576, 601, 602, 603, 604, 420, 421, 422, 430, 431, 432, 433, 434, 435, 436, 437, 438, 439, 440, 441, 442, 443, 444, 445, 446, 447, 1068, 1069, 1070, 1071, 1072, 1073, 1074, 1075, 1076, 1077, 1078, 1079, 1080, 1081, 1082, 1083, 1084, 1085] (by decide +kernel) (by decide +kernel)
set_option maxRecDepth 20000 in
theorem gL_law_X11_beats : GoodIn wsL_law (wsV RL 84 RX11 yX11_beats wsX11_beats) := goodIn_app (goodIn_of _ (by decide +kernel)) ggL_law_X11_beats
set_option maxRecDepth 20000 in
theorem ggL_law_X10_close : GoodIn wsL_law wsX10_close := goodIn_r _ [668, 31, 15, 491, 32, 517, 669, 670, 342, 671, 452, 518, 657, 658, 659, 2, 660, 493, 494, 495, 496, 131, 132, 133, 134, 135, 136, 137, 138, 25, 560, 561, 562, 30, 563, 174, 175, 176, 177, 178, 179, 180, 181, 672, 358, 359, 360, 361, 346, 347, 348, 362, 363, 364, 365, 366, 367, 368, 369, 1054, 1055, 1056, 1057, 1058, 1059, 1060, 1061, 1062, 1063, 1064, 1065, 1066, 1067, 1086, 1087, 1088, 1089, 1090, 1091, 1092, 1093, 1101, 1102, 1103, 1104, 1105, 1106, 1107, 1108] (by decide +kernel) (by decide +kernel)
set_option maxRecDepth 20000 in
theorem gL_law_X10_close : GoodIn wsL_law (wsV RL 85 RX10 yX10_close wsX10_close) := goodIn_app (goodIn_of _ (by decide +kernel)) ggL_law_X10_close
set_option maxRecDepth 20000 in
theorem ggL_law_X11_close : GoodIn wsL_law wsX11_close := goodIn_r _ [676, 613, 117, 502, 503, 504, 5, 505, 158, 159, 160, 161, 112, 151, 152, 153, 154, 155, 156, 157, 115, 573, 574, 575, 576, 430, 431, 432, 420, 421, 422, 433, 434, 435, 436, 437, 438, 439, 440, 441, 442, 443, 444, 445, 446, 447, 1068, 1069, 1070, 1071, 1072, 1073, 1074, 1075, 1076, 1077, 1078, 1079, 1080, 1081, 1082, 1083, 1084, 1085] (by decide +kernel) (by decide +kernel)
set_option maxRecDepth 20000 in
theorem gL_law_X11_close : GoodIn wsL_law (wsV RL 88 RX11 yX11_close wsX11_close) := goodIn_app (goodIn_of _ (by decide +kernel)) ggL_law_X11_close
set_option maxRecDepth 20000 in
theorem ggL_law_X10_seen : GoodIn wsL_law wsX10_seen := goodIn_r _ [680, 15, 681, 682, 493, 494, 495, 2, 496, 131, 132, 133, 134, 135, 136, 137, 138, 25, 683, 684, 685, 61, 686, 74, 75, 78, 1054, 1055, 1056, 1057, 1058, 1059, 1060, 1061, 1062, 1063, 1064, 1065, 1066, 1067, 1086, 1087, 1088, 1089, 1090, 1091, 1092, 1093, 1126, 1127, 1128, 1129, 1130] (by decide +kernel) (by decide +kernel)
set_option maxRecDepth 20000 in
theorem gL_law_X10_seen : GoodIn wsL_law (wsV RL 89 RX10 yX10_seen wsX10_seen) := goodIn_app (goodIn_of _ (by decide +kernel)) ggL_law_X10_seen
set_option maxRecDepth 20000 in
theorem ggL_law_X11_seen : GoodIn wsL_law wsX11_seen := goodIn_r _ [690, 691, 692, 112, 502, 503, 504, 5, 505, 158, 159, 160, 161, 151, 152, 153, 506, 507, 508, 193, 154, 155, 156, 157, 115, 194, 195, 196, 197, 1068, 1069, 1070, 1071, 1072, 1073, 1074, 1075, 1076, 1077, 1078, 1079, 1080, 1081, 1082, 1083, 1084, 1085] (by decide +kernel) (by decide +kernel)
set_option maxRecDepth 20000 in
theorem gL_law_X11_seen : GoodIn wsL_law (wsV RL 93 RX11 yX11_seen wsX11_seen) := goodIn_app (goodIn_of _ (by decide +kernel)) ggL_law_X11_seen
set_option maxRecDepth 20000 in
theorem ggL_law_X10_strong : GoodIn wsL_law wsX10_strong := goodIn_r _ [696, 15, 493, 494, 495, 2, 496, 131, 132, 133, 134, 135, 136, 137, 138, 25, 697, 698, 699, 14, 700, 62, 54, 701, 702, 703, 704, 61, 705, 74, 76, 78, 706, 363, 364, 365, 707, 708, 709, 710, 711, 712, 713, 714, 715, 716, 1054, 1055, 1056, 1057, 1058, 1059, 1060, 1061, 1062, 1063, 1064, 1065, 1066, 1067, 1086, 1087, 1088, 1089, 1090, 1091, 1092, 1093, 1101, 1102, 1103, 1104, 1105, 1106, 1107, 1108, 1126, 1127, 1128, 1129, 1130] (by decide +kernel) (by decide +kernel)
set_option maxRecDepth 20000 in
theorem gL_law_X10_strong : GoodIn wsL_law (wsV RL 94 RX10 yX10_strong wsX10_strong) := goodIn_app (goodIn_of _ (by decide +kernel)) ggL_law_X10_strong
set_option maxRecDepth 20000 in
theorem ggL_law_X11_strong : GoodIn wsL_law wsX11_strong := goodIn_r _ [720, 721, 502, 503, 504, 5, 505, 158, 159, 160, 161, 112, 151, 152, 153, 154, 155, 156, 157, 115, 722, 723, 724, 725, 439, 440, 441, 726, 727, 728, 1068, 1069, 1070, 1071, 1072, 1073, 1074, 1075, 1076, 1077, 1078, 1079, 1080, 1081, 1082, 1083, 1084, 1085] (by decide +kernel) (by decide +kernel)
set_option maxRecDepth 20000 in
theorem gL_law_X11_strong : GoodIn wsL_law (wsV RL 97 RX11 yX11_strong wsX11_strong) := goodIn_app (goodIn_of _ (by decide +kernel)) ggL_law_X11_strong
set_option maxRecDepth 20000 in
theorem ggL_law_X10_tell : GoodIn wsL_law wsX10_tell := goodIn_r _ [732, 15, 491, 493, 494, 495, 2, 496, 131, 135, 136, 137, 138, 25, 697, 698, 699, 14, 700, 62, 54, 701, 702, 703, 704, 61, 705, 74, 76, 78, 706, 363, 364, 365, 733, 734, 735, 736, 707, 708, 709, 710, 711, 712, 713, 737, 738, 739, 740, 36, 741, 742, 743, 744, 35, 745, 95, 96, 714, 715, 716, 746, 747, 748, 749, 750, 751, 752, 367, 368, 369, 753, 754, 755, 756, 757, 758, 342, 759, 1054, 1055, 1056, 1057, 1058, 1059, 1060, 1061, 1062, 1063, 1064, 1065, 1066, 1067, 1086, 1087, 1088, 1089, 1090, 1091, 1092, 1093, 1101, 1102, 1103, 1104, 1105, 1106, 1107, 1108, 1126, 1127, 1128, 1129, 1130, 1109, 1110] (by decide +kernel) (by decide +kernel)
set_option maxRecDepth 20000 in
theorem gL_law_X10_tell : GoodIn wsL_law (wsV RL 98 RX10 yX10_tell wsX10_tell) := goodIn_app (goodIn_of _ (by decide +kernel)) ggL_law_X10_tell
set_option maxRecDepth 20000 in
theorem ggL_law_X11_tell : GoodIn wsL_law wsX11_tell := goodIn_r _ [763, 613, 119, 112, 502, 503, 504, 5, 505, 158, 159, 160, 161, 151, 152, 153, 154, 155, 156, 157, 115, 722, 723, 724, 725, 439, 440, 441, 764, 765, 766, 767, 726, 727, 728, 1068, 1069, 1070, 1071, 1072, 1073, 1074, 1075, 1076, 1077, 1078, 1079, 1080, 1081, 1082, 1083, 1084, 1085] (by decide +kernel) (by decide +kernel)
set_option maxRecDepth 20000 in
theorem gL_law_X11_tell : GoodIn wsL_law (wsV RL 101 RX11 yX11_tell wsX11_tell) := goodIn_app (goodIn_of _ (by decide +kernel)) ggL_law_X11_tell
set_option maxRecDepth 20000 in
theorem ggL_law_X10_note : GoodIn wsL_law wsX10_note := goodIn_r _ [771, 15, 772, 682, 493, 494, 495, 2, 496, 131, 132, 133, 134, 135, 136, 137, 138, 25, 683, 684, 685, 61, 686, 74, 75, 78, 1054, 1055, 1056, 1057, 1058, 1059, 1060, 1061, 1062, 1063, 1064, 1065, 1066, 1067, 1086, 1087, 1088, 1089, 1090, 1091, 1092, 1093, 1126, 1127, 1128, 1129, 1130] (by decide +kernel) (by decide +kernel)
set_option maxRecDepth 20000 in
theorem gL_law_X10_note : GoodIn wsL_law (wsV RL 102 RX10 yX10_note wsX10_note) := goodIn_app (goodIn_of _ (by decide +kernel)) ggL_law_X10_note
set_option maxRecDepth 20000 in
theorem ggL_law_X11_note : GoodIn wsL_law wsX11_note := goodIn_r _ [776, 691, 692, 112, 502, 503, 504, 5, 505, 158, 159, 160, 161, 151, 152, 153, 190, 191, 192, 193, 506, 507, 508, 154, 155, 156, 157, 115, 194, 195, 196, 197, 1068, 1069, 1070, 1071, 1072, 1073, 1074, 1075, 1076, 1077, 1078, 1079, 1080, 1081, 1082, 1083, 1084, 1085] (by decide +kernel) (by decide +kernel)
set_option maxRecDepth 20000 in
theorem gL_law_X11_note : GoodIn wsL_law (wsV RL 106 RX11 yX11_note wsX11_note) := goodIn_app (goodIn_of _ (by decide +kernel)) ggL_law_X11_note
set_option maxRecDepth 20000 in
theorem ggL_law_X10_mark : GoodIn wsL_law wsX10_mark := goodIn_r _ [780, 15, 781, 682, 493, 494, 495, 2, 496, 131, 132, 133, 134, 135, 136, 137, 138, 25, 683, 684, 685, 61, 686, 74, 75, 78, 1054, 1055, 1056, 1057, 1058, 1059, 1060, 1061, 1062, 1063, 1064, 1065, 1066, 1067, 1086, 1087, 1088, 1089, 1090, 1091, 1092, 1093, 1126, 1127, 1128, 1129, 1130] (by decide +kernel) (by decide +kernel)
set_option maxRecDepth 20000 in
theorem gL_law_X10_mark : GoodIn wsL_law (wsV RL 107 RX10 yX10_mark wsX10_mark) := goodIn_app (goodIn_of _ (by decide +kernel)) ggL_law_X10_mark
set_option maxRecDepth 20000 in
theorem ggL_law_X11_mark : GoodIn wsL_law wsX11_mark := goodIn_r _ [785, 691, 692, 112, 502, 503, 504, 5, 505, 158, 159, 160, 161, 151, 152, 153, 154, 155, 156, 157, 115, 194, 195, 196, 197, 1068, 1069, 1070, 1071, 1072, 1073, 1074, 1075, 1076, 1077, 1078, 1079, 1080, 1081, 1082, 1083, 1084, 1085] (by decide +kernel) (by decide +kernel)
set_option maxRecDepth 20000 in
theorem gL_law_X11_mark : GoodIn wsL_law (wsV RL 110 RX11 yX11_mark wsX11_mark) := goodIn_app (goodIn_of _ (by decide +kernel)) ggL_law_X11_mark
set_option maxRecDepth 20000 in
theorem ggL_law_X10_forget : GoodIn wsL_law wsX10_forget := goodIn_r _ [789, 15, 681, 772, 781, 682, 132, 133, 2, 134, 135, 136, 137, 138, 25, 1054, 1055, 1056, 1057, 1058, 1059, 1060, 1061, 1062, 1063, 1064, 1065, 1066, 1067, 1086, 1087, 1088, 1089, 1090, 1091, 1092, 1093, 1126, 1127, 1128, 1129, 1130] (by decide +kernel) (by decide +kernel)
set_option maxRecDepth 20000 in
theorem gL_law_X10_forget : GoodIn wsL_law (wsV RL 111 RX10 yX10_forget wsX10_forget) := goodIn_app (goodIn_of _ (by decide +kernel)) ggL_law_X10_forget
set_option maxRecDepth 20000 in
theorem ggL_law_X11_forget : GoodIn wsL_law wsX11_forget := goodIn_r _ [793, 721, 112, 151, 152, 5, 153, 154, 155, 156, 157, 115, 1068, 1069, 1070, 1071, 1072, 1073, 1074, 1075, 1076, 1077, 1078, 1079, 1080, 1081, 1082, 1083, 1084, 1085] (by decide +kernel) (by decide +kernel)
set_option maxRecDepth 20000 in
theorem gL_law_X11_forget : GoodIn wsL_law (wsV RL 114 RX11 yX11_forget wsX11_forget) := goodIn_app (goodIn_of _ (by decide +kernel)) ggL_law_X11_forget
set_option maxRecDepth 20000 in
theorem ggL_law_X10_is : GoodIn wsL_law wsX10_is := goodIn_r _ [797, 15, 493, 494, 495, 2, 496, 131, 798, 799, 800, 14, 801, 63, 702, 703, 704, 61, 705, 74, 76, 78, 706, 363, 364, 365, 135, 136, 137, 138, 25, 1054, 1055, 1056, 1057, 1058, 1059, 1060, 1061, 1062, 1063, 1064, 1065, 1066, 1067, 1086, 1087, 1088, 1089, 1090, 1091, 1092, 1093, 1126, 1127, 1128, 1129, 1130] (by decide +kernel) (by decide +kernel)
set_option maxRecDepth 20000 in
theorem gL_law_X10_is : GoodIn wsL_law (wsV RL 115 RX10 yX10_is wsX10_is) := goodIn_app (goodIn_of _ (by decide +kernel)) ggL_law_X10_is
set_option maxRecDepth 20000 in
theorem ggL_law_X11_is : GoodIn wsL_law wsX11_is := goodIn_r _ [805, 502, 503, 504, 5, 505, 158, 159, 160, 161, 112, 151, 152, 153, 806, 807, 808, 809, 439, 440, 441, 154, 155, 156, 157, 115, 1068, 1069, 1070, 1071, 1072, 1073, 1074, 1075, 1076, 1077, 1078, 1079, 1080, 1081, 1082, 1083, 1084, 1085] (by decide +kernel) (by decide +kernel)
set_option maxRecDepth 20000 in
theorem gL_law_X11_is : GoodIn wsL_law (wsV RL 118 RX11 yX11_is wsX11_is) := goodIn_app (goodIn_of _ (by decide +kernel)) ggL_law_X11_is
set_option maxRecDepth 20000 in
theorem ggL_law_X10_look : GoodIn wsL_law wsX10_look := goodIn_r _ [813, 15, 491, 493, 494, 495, 2, 496, 131, 135, 136, 137, 138, 25, 798, 799, 800, 14, 801, 63, 702, 703, 704, 61, 705, 74, 76, 78, 706, 363, 364, 365, 733, 734, 735, 736, 707, 708, 709, 710, 711, 712, 713, 737, 738, 739, 740, 36, 741, 742, 743, 744, 35, 745, 95, 96, 714, 715, 716, 746, 747, 748, 749, 750, 751, 752, 367, 368, 369, 753, 754, 755, 756, 757, 758, 342, 759, 1054, 1055, 1056, 1057, 1058, 1059, 1060, 1061, 1062, 1063, 1064, 1065, 1066, 1067, 1086, 1087, 1088, 1089, 1090, 1091, 1092, 1093, 1126, 1127, 1128, 1129, 1130, 1109, 1110, 1101, 1102, 1103, 1104, 1105, 1106, 1107, 1108] (by decide +kernel) (by decide +kernel)
set_option maxRecDepth 20000 in
theorem gL_law_X10_look : GoodIn wsL_law (wsV RL 119 RX10 yX10_look wsX10_look) := goodIn_app (goodIn_of _ (by decide +kernel)) ggL_law_X10_look
set_option maxRecDepth 20000 in
theorem ggL_law_X11_look : GoodIn wsL_law wsX11_look := goodIn_r _ [817, 613, 119, 112, 502, 503, 504, 5, 505, 158, 159, 160, 161, 151, 152, 153, 154, 155, 156, 157, 115, 806, 807, 808, 809, 439, 440, 441, 764, 765, 766, 767, 726, 727, 728, 1068, 1069, 1070, 1071, 1072, 1073, 1074, 1075, 1076, 1077, 1078, 1079, 1080, 1081, 1082, 1083, 1084, 1085] (by decide +kernel) (by decide +kernel)
set_option maxRecDepth 20000 in
theorem gL_law_X11_look : GoodIn wsL_law (wsV RL 122 RX11 yX11_look wsX11_look) := goodIn_app (goodIn_of _ (by decide +kernel)) ggL_law_X11_look
set_option maxRecDepth 20000 in
theorem ggL_law_X10_kinds : GoodIn wsL_law wsX10_kinds := goodIn_r _ [821, 15, 493, 494, 495, 2, 496, 131, 822, 823, 824, 14, 825, 64, 826, 827, 828, 61, 829, 74, 78, 830, 367, 368, 369, 135, 136, 137, 138, 25, 1054, 1055, 1056, 1057, 1058, 1059, 1060, 1061, 1062, 1063, 1064, 1065, 1066, 1067, 1086, 1087, 1088, 1089, 1090, 1091, 1092, 1093, 1126, 1127, 1128, 1129, 1130] (by decide +kernel) (by decide +kernel)
set_option maxRecDepth 20000 in
theorem gL_law_X10_kinds : GoodIn wsL_law (wsV RL 123 RX10 yX10_kinds wsX10_kinds) := goodIn_app (goodIn_of _ (by decide +kernel)) ggL_law_X10_kinds
set_option maxRecDepth 20000 in
theorem ggL_law_X11_kinds : GoodIn wsL_law wsX11_kinds := goodIn_r _ [834, 502, 503, 504, 5, 505, 158, 159, 160, 161, 112, 151, 152, 153, 835, 836, 837, 838, 442, 443, 444, 154, 155, 156, 157, 115, 1068, 1069, 1070, 1071, 1072, 1073, 1074, 1075, 1076, 1077, 1078, 1079, 1080, 1081, 1082, 1083, 1084, 1085] (by decide +kernel) (by decide +kernel)
set_option maxRecDepth 20000 in
theorem gL_law_X11_kinds : GoodIn wsL_law (wsV RL 126 RX11 yX11_kinds wsX11_kinds) := goodIn_app (goodIn_of _ (by decide +kernel)) ggL_law_X11_kinds
set_option maxRecDepth 20000 in
theorem ggL_law_X10_ask : GoodIn wsL_law wsX10_ask := goodIn_r _ [842, 15, 491, 493, 494, 495, 2, 496, 131, 135, 136, 137, 138, 25, 822, 823, 824, 14, 825, 64, 826, 827, 828, 61, 829, 74, 78, 830, 367, 368, 369, 733, 734, 735, 736, 707, 708, 709, 710, 711, 712, 713, 737, 738, 739, 740, 36, 741, 742, 743, 744, 35, 745, 95, 96, 714, 715, 716, 746, 747, 748, 749, 750, 751, 363, 364, 365, 752, 753, 754, 755, 756, 757, 758, 342, 759, 1054, 1055, 1056, 1057, 1058, 1059, 1060, 1061, 1062, 1063, 1064, 1065, 1066, 1067, 1086, 1087, 1088, 1089, 1090, 1091, 1092, 1093, 1126, 1127, 1128, 1129, 1130, 1109, 1110, 1101, 1102, 1103, 1104, 1105, 1106, 1107, 1108] (by decide +kernel) (by decide +kernel)
set_option maxRecDepth 20000 in
theorem gL_law_X10_ask : GoodIn wsL_law (wsV RL 127 RX10 yX10_ask wsX10_ask) := goodIn_app (goodIn_of _ (by decide +kernel)) ggL_law_X10_ask
set_option maxRecDepth 20000 in
theorem ggL_law_X11_ask : GoodIn wsL_law wsX11_ask := goodIn_r _ [846, 613, 119, 502, 503, 504, 5, 505, 158, 159, 160, 161, 112, 151, 152, 153, 154, 155, 156, 157, 115, 835, 836, 837, 838, 442, 443, 444, 764, 765, 766, 767, 726, 727, 728, 1068, 1069, 1070, 1071, 1072, 1073, 1074, 1075, 1076, 1077, 1078, 1079, 1080, 1081, 1082, 1083, 1084, 1085] (by decide +kernel) (by decide +kernel)
set_option maxRecDepth 20000 in
theorem gL_law_X11_ask : GoodIn wsL_law (wsV RL 130 RX11 yX11_ask wsX11_ask) := goodIn_app (goodIn_of _ (by decide +kernel)) ggL_law_X11_ask
set_option maxRecDepth 20000 in
theorem ggL_law_X10_pair : GoodIn wsL_law wsX10_pair := goodIn_r _ [850, 44, 15, 491, 517, 657, 658, 659, 2, 660, 493, 494, 495, 496, 131, 135, 136, 137, 138, 25, 851, 852, 853, 854, 31, 492, 452, 518, 560, 561, 562, 30, 563, 174, 175, 176, 177, 178, 179, 180, 181, 564, 565, 566, 567, 568, 358, 359, 360, 361, 346, 347, 348, 362, 363, 364, 365, 366, 367, 368, 369, 855, 856, 857, 43, 858, 103, 104, 859, 860, 861, 862, 105, 106, 107, 863, 864, 865, 866, 758, 342, 759, 867, 868, 869, 870, 871, 872, 873, 1054, 1055, 1056, 1057, 1058, 1059, 1060, 1061, 1062, 1063, 1064, 1065, 1066, 1067, 1086, 1087, 1088, 1089, 1090, 1091, 1092, 1093, 1101, 1102, 1103, 1104, 1105, 1106, 1107, 1108, 1119, 1120, 1121, 1122, 1123] (by decide +kernel) (by decide +kernel)
set_option maxRecDepth 20000 in
theorem gL_law_X10_pair : GoodIn wsL_law (wsV RL 131 RX10 yX10_pair wsX10_pair) := goodIn_app (goodIn_of _ (by decide +kernel)) ggL_law_X10_pair
set_option maxRecDepth 20000 in
theorem ggL_law_X11_pair : GoodIn wsL_law wsX11_pair := goodIn_r _ [877, 117, 120, 502, 503, 504, 5, 505, 158, 159, 160, 161, 112, 151, 152, 153, 154, 155, 156, 157, 115, 573, 574, 575, 576, 577, 578, 579, 580, 430, 431, 432, 420, 421, 422, 433, 434, 435, 436, 437, 438, 439, 440, 441, 442, 443, 444, 445, 446, 447, 878, 879, 880, 881, 882, 883, 884, 885, 1068, 1069, 1070, 1071, 1072, 1073, 1074, 1075, 1076, 1077, 1078, 1079, 1080, 1081, 1082, 1083, 1084, 1085] (by decide +kernel) (by decide +kernel)
set_option maxRecDepth 20000 in
theorem gL_law_X11_pair : GoodIn wsL_law (wsV RL 134 RX11 yX11_pair wsX11_pair) := goodIn_app (goodIn_of _ (by decide +kernel)) ggL_law_X11_pair
set_option maxRecDepth 20000 in
theorem ggL_law_X10_stumble : GoodIn wsL_law wsX10_stumble := goodIn_r _ [889, 15, 491, 40, 518, 452, 517, 890, 26, 27, 493, 494, 495, 2, 496, 131, 132, 133, 134, 135, 136, 137, 138, 25, 891, 892, 893, 39, 894, 895, 896, 897, 898, 899, 900, 901, 902, 903, 904, 905, 906, 907, 908, 909, 910, 911, 912, 913, 914, 363, 364, 365, 915, 367, 368, 369, 916, 917, 918, 919, 1054, 1055, 1056, 1057, 1058, 1059, 1060, 1061, 1062, 1063, 1064, 1065, 1066, 1067, 1086, 1087, 1088, 1089, 1090, 1091, 1092, 1093, 1101, 1102, 1103, 1104, 1105, 1106, 1107, 1108, 1111, 1112, 1113, 1114, 1115, 1116, 1117, 1118] (by decide +kernel) (by decide +kernel)
set_option maxRecDepth 20000 in
theorem gL_law_X10_stumble : GoodIn wsL_law (wsV RL 135 RX10 yX10_stumble wsX10_stumble) := goodIn_app (goodIn_of _ (by decide +kernel)) ggL_law_X10_stumble
set_option maxRecDepth 20000 in
theorem ggL_law_X11_stumble : GoodIn wsL_law wsX11_stumble := goodIn_r _ [923, 150, 924, 149, 117, 502, 503, 504, 5, 505, 158, 159, 160, 161, 112, 151, 152, 153, 154, 155, 156, 157, 115, 573, 574, 575, 576, 726, 727, 728, 420, 421, 422, 433, 434, 435, 436, 437, 438, 439, 440, 441, 442, 443, 444, 445, 446, 447, 925, 926, 927, 928, 929, 116, 1068, 1069, 1070, 1071, 1072, 1073, 1074, 1075, 1076, 1077, 1078, 1079, 1080, 1081, 1082, 1083, 1084, 1085] (by decide +kernel) (by decide +kernel)
set_option maxRecDepth 20000 in
theorem gL_law_X11_stumble : GoodIn wsL_law (wsV RL 138 RX11 yX11_stumble wsX11_stumble) := goodIn_app (goodIn_of _ (by decide +kernel)) ggL_law_X11_stumble
set_option maxRecDepth 20000 in
theorem ggL_law_X10_races : GoodIn wsL_law wsX10_races := goodIn_r _ [933, 934, 16, 15, 935, 936, 937, 938, 939, 131, 491, 940, 941, 492, 132, 133, 2, 134, 135, 136, 137, 138, 25, 942, 943, 944, 14, 945, 50, 51, 52, 54, 946, 561, 562, 30, 563, 174, 175, 176, 177, 178, 179, 180, 181, 470, 354, 355, 356, 357, 358, 359, 360, 361, 346, 347, 348, 362, 363, 364, 365, 366, 367, 368, 369, 471, 472, 473, 474, 475, 1054, 1055, 1056, 1057, 1058, 1059, 1060, 1061, 1062, 1063, 1064, 1065, 1066, 1067, 1086, 1087, 1088, 1089, 1090, 1091, 1092, 1093, 1101, 1102, 1103, 1104, 1105, 1106, 1107, 1108] (by decide +kernel) (by decide +kernel)
set_option maxRecDepth 20000 in
theorem gL_law_X10_races : GoodIn wsL_law (wsV RL 139 RX10 yX10_races wsX10_races) := goodIn_app (goodIn_of _ (by decide +kernel)) ggL_law_X10_races
set_option maxRecDepth 20000 in
theorem ggL_law_X11_races : GoodIn wsL_law wsX11_races := goodIn_r _ [950, 951, 150, 952, 953, 954, 955, 924, 117, 956, 149, 151, 152, 5, 153, 154, 155, 156, 157, 115, 573, 574, 575, 576, 112, 502, 503, 504, 505, 158, 159, 160, 161, 430, 431, 432, 420, 421, 422, 433, 434, 435, 436, 437, 438, 439, 440, 441, 442, 443, 444, 445, 446, 447, 484, 485, 486, 1068, 1069, 1070, 1071, 1072, 1073, 1074, 1075, 1076, 1077, 1078, 1079, 1080, 1081, 1082, 1083, 1084, 1085] (by decide +kernel) (by decide +kernel)
set_option maxRecDepth 20000 in
theorem gL_law_X11_races : GoodIn wsL_law (wsV RL 142 RX11 yX11_races wsX11_races) := goodIn_app (goodIn_of _ (by decide +kernel)) ggL_law_X11_races
set_option maxRecDepth 20000 in
theorem ggL_law_X10_part : GoodIn wsL_law wsX10_part := goodIn_r _ [960, 26, 27, 132, 133, 2, 134, 135, 136, 137, 138, 25, 1054, 1055, 1056, 1057, 1058, 1059, 1060, 1061, 1062, 1063, 1064, 1065, 1066, 1067] (by decide +kernel) (by decide +kernel)
set_option maxRecDepth 20000 in
theorem gL_law_X10_part : GoodIn wsL_law (wsV RL 143 RX10 yX10_part wsX10_part) := goodIn_app (goodIn_of _ (by decide +kernel)) ggL_law_X10_part
set_option maxRecDepth 20000 in
theorem ggL_law_X11_part : GoodIn wsL_law wsX11_part := goodIn_r _ [964, 929, 116, 154, 155, 156, 5, 157, 115, 1068, 1069, 1070, 1071, 1072, 1073, 1074, 1075, 1076, 1077, 1078, 1079, 1080, 1081, 1082, 1083, 1084, 1085] (by decide +kernel) (by decide +kernel)
set_option maxRecDepth 20000 in
theorem gL_law_X11_part : GoodIn wsL_law (wsV RL 147 RX11 yX11_part wsX11_part) := goodIn_app (goodIn_of _ (by decide +kernel)) ggL_law_X11_part
set_option maxRecDepth 20000 in
theorem ggL_law_X10_image : GoodIn wsL_law wsX10_image := goodIn_r _ [968, 17, 15, 19, 132, 133, 2, 134, 135, 136, 137, 138, 25, 969, 970, 971, 14, 972, 58, 62, 63, 64, 973, 943, 944, 945, 50, 51, 52, 54, 946, 561, 562, 30, 563, 174, 175, 176, 177, 178, 179, 180, 181, 974, 975, 976, 57, 977, 69, 68, 461, 462, 463, 464, 978, 979, 980, 61, 981, 74, 78, 982, 341, 342, 343, 983, 1054, 1055, 1056, 1057, 1058, 1059, 1060, 1061, 1062, 1063, 1064, 1065, 1066, 1067, 1086, 1087, 1088, 1089, 1090, 1091, 1092, 1093, 1101, 1102, 1103, 1104, 1105, 1106, 1107, 1108, 1124, 1125, 1126, 1127, 1128, 1129, 1130] (by decide +kernel) (by decide +kernel)
set_option maxRecDepth 20000 in
theorem gL_law_X10_image : GoodIn wsL_law (wsV RL 148 RX10 yX10_image wsX10_image) := goodIn_app (goodIn_of _ (by decide +kernel)) ggL_law_X10_image
set_option maxRecDepth 20000 in
theorem ggL_law_X11_image : GoodIn wsL_law wsX11_image := goodIn_r _ [987, 113, 112, 114, 151, 152, 5, 153, 154, 155, 156, 157, 115, 1068, 1069, 1070, 1071, 1072, 1073, 1074, 1075, 1076, 1077, 1078, 1079, 1080, 1081, 1082, 1083, 1084, 1085] (by decide +kernel) (by decide +kernel)
set_option maxRecDepth 20000 in
theorem gL_law_X11_image : GoodIn wsL_law (wsV RL 151 RX11 yX11_image wsX11_image) := goodIn_app (goodIn_of _ (by decide +kernel)) ggL_law_X11_image
set_option maxRecDepth 20000 in
theorem ggL_law_X10_from : GoodIn wsL_law wsX10_from := goodIn_r _ [991, 19, 15, 17, 132, 133, 2, 134, 135, 136, 137, 138, 25, 969, 970, 971, 14, 972, 58, 62, 63, 64, 973, 943, 944, 945, 50, 51, 52, 54, 946, 561, 562, 30, 563, 174, 175, 176, 177, 178, 179, 180, 181, 974, 975, 976, 57, 977, 69, 68, 461, 462, 463, 464, 978, 979, 980, 61, 981, 74, 78, 982, 341, 342, 343, 983, 1054, 1055, 1056, 1057, 1058, 1059, 1060, 1061, 1062, 1063, 1064, 1065, 1066, 1067, 1086, 1087, 1088, 1089, 1090, 1091, 1092, 1093, 1101, 1102, 1103, 1104, 1105, 1106, 1107, 1108, 1124, 1125, 1126, 1127, 1128, 1129, 1130] (by decide +kernel) (by decide +kernel)
set_option maxRecDepth 20000 in
theorem gL_law_X10_from : GoodIn wsL_law (wsV RL 152 RX10 yX10_from wsX10_from) := goodIn_app (goodIn_of _ (by decide +kernel)) ggL_law_X10_from
set_option maxRecDepth 20000 in
theorem ggL_law_X11_from : GoodIn wsL_law wsX11_from := goodIn_r _ [995, 114, 112, 113, 151, 152, 5, 153, 154, 155, 156, 157, 115, 509, 510, 511, 512, 1068, 1069, 1070, 1071, 1072, 1073, 1074, 1075, 1076, 1077, 1078, 1079, 1080, 1081, 1082, 1083, 1084, 1085] (by decide +kernel) (by decide +kernel)
set_option maxRecDepth 20000 in
theorem gL_law_X11_from : GoodIn wsL_law (wsV RL 155 RX11 yX11_from wsX11_from) := goodIn_app (goodIn_of _ (by decide +kernel)) ggL_law_X11_from
set_option maxRecDepth 20000 in
theorem ggL_law_X10_status : GoodIn wsL_law wsX10_status := goodIn_r _ [999, 25, 132, 133, 2, 134, 135, 136, 137, 138, 1054, 1055, 1056, 1057, 1058, 1059, 1060, 1061, 1062, 1063, 1064, 1065, 1066, 1067] (by decide +kernel) (by decide +kernel)
set_option maxRecDepth 20000 in
theorem gL_law_X10_status : GoodIn wsL_law (wsV RL 156 RX10 yX10_status wsX10_status) := goodIn_app (goodIn_of _ (by decide +kernel)) ggL_law_X10_status
set_option maxRecDepth 20000 in
theorem ggL_law_X11_status : GoodIn wsL_law wsX11_status := goodIn_r _ [1003, 721, 115, 151, 152, 5, 153, 154, 155, 156, 157, 1068, 1069, 1070, 1071, 1072, 1073, 1074, 1075, 1076, 1077, 1078, 1079, 1080, 1081, 1082, 1083, 1084, 1085] (by decide +kernel) (by decide +kernel)
set_option maxRecDepth 20000 in
theorem gL_law_X11_status : GoodIn wsL_law (wsV RL 159 RX11 yX11_status wsX11_status) := goodIn_app (goodIn_of _ (by decide +kernel)) ggL_law_X11_status
set_option maxRecDepth 20000 in
theorem ggL_law_X10_count : GoodIn wsL_law wsX10_count := goodIn_r _ [1007, 15, 131, 518, 452, 681, 682, 772, 781, 1008, 1009, 23, 471, 472, 473, 14, 474, 52, 54, 475, 346, 347, 30, 348, 181, 1010, 1011, 1012, 1013, 1014, 1015, 1016, 1017, 1018, 1019, 135, 136, 137, 2, 138, 25, 1054, 1055, 1056, 1057, 1058, 1059, 1060, 1061, 1062, 1063, 1064, 1065, 1066, 1067, 1086, 1087, 1088, 1089, 1090, 1091, 1092, 1093, 1126, 1127, 1128, 1129, 1130, 1124, 1125, 1094, 1095, 1096, 1097, 1098, 1099, 1100, 1101, 1102, 1103, 1104, 1105, 1106, 1107, 1108] (by decide +kernel) (by decide +kernel)
set_option maxRecDepth 20000 in
theorem gL_law_X10_count : GoodIn wsL_law (wsV RL 160 RX10 yX10_count wsX10_count) := goodIn_app (goodIn_of _ (by decide +kernel)) ggL_law_X10_count
set_option maxRecDepth 20000 in
theorem ggL_law_X11_count : GoodIn wsL_law wsX11_count := goodIn_r _ [1023, 149, 151, 152, 5, 153, 1024, 1025, 1026, 1027, 112, 214, 158, 159, 160, 161, 484, 485, 486, 420, 421, 422, 1028, 1029, 1030, 1031, 154, 155, 156, 157, 115, 1068, 1069, 1070, 1071, 1072, 1073, 1074, 1075, 1076, 1077, 1078, 1079, 1080, 1081, 1082, 1083, 1084, 1085] (by decide +kernel) (by decide +kernel)
set_option maxRecDepth 20000 in
theorem gL_law_X11_count : GoodIn wsL_law (wsV RL 163 RX11 yX11_count wsX11_count) := goodIn_app (goodIn_of _ (by decide +kernel)) ggL_law_X11_count
set_option maxRecDepth 20000 in
theorem ggL_law_X10_digest : GoodIn wsL_law wsX10_digest := goodIn_r _ [1035, 1036, 1037, 15, 131, 491, 452, 681, 772, 781, 26, 27, 1038, 1005, 1006, 2, 1007, 518, 682, 1008, 1009, 23, 471, 472, 473, 14, 474, 52, 54, 475, 346, 347, 30, 348, 181, 1010, 1011, 1012, 1013, 1014, 1015, 1016, 1017, 1018, 1019, 135, 136, 137, 138, 25, 544, 545, 546, 547, 174, 175, 176, 177, 178, 179, 180, 362, 363, 364, 365, 366, 367, 368, 369, 1039, 1040, 1041, 61, 1042, 74, 1043, 78, 76, 77, 1054, 1055, 1056, 1057, 1058, 1059, 1060, 1061, 1062, 1063, 1064, 1065, 1066, 1067, 1086, 1087, 1088, 1089, 1090, 1091, 1092, 1093, 1126, 1127, 1128, 1129, 1130, 1124, 1125, 1094, 1095, 1096, 1097, 1098, 1099, 1100, 1101, 1102, 1103, 1104, 1105, 1106, 1107, 1108] (by decide +kernel) (by decide +kernel)
set_option maxRecDepth 20000 in
theorem gL_law_X10_digest : GoodIn wsL_law (wsV RL 164 RX10 yX10_digest wsX10_digest) := goodIn_app (goodIn_of _ (by decide +kernel)) ggL_law_X10_digest
set_option maxRecDepth 20000 in
theorem ggL_law_X11_digest : GoodIn wsL_law wsX11_digest := goodIn_r _ [1047, 1048, 1049, 112, 929, 116, 1024, 1025, 1026, 5, 1027, 214, 158, 159, 160, 161, 484, 485, 486, 420, 421, 422, 1028, 1029, 1030, 1031, 552, 553, 554, 555, 436, 437, 438, 439, 440, 441, 442, 443, 444, 1050, 1051, 1052, 1053, 1068, 1069, 1070, 1071, 1072, 1073, 1074, 1075, 1076, 1077, 1078, 1079, 1080, 1081, 1082, 1083, 1084, 1085] (by decide +kernel) (by decide +kernel)
set_option maxRecDepth 20000 in
theorem gL_law_X11_digest : GoodIn wsL_law (wsV RL 168 RX11 yX11_digest wsX11_digest) := goodIn_app (goodIn_of _ (by decide +kernel)) ggL_law_X11_digest
end
section
/-! the worlds of this class: one environment, one form of contract, one row an instruction -/
abbrev EX : Type := va_G × (ClassId × (ClassId × (ClassId × ClassId)))
abbrev ex_T (X : EX) : List (ClassId × FieldType) := [(X.2.1, .int), (X.2.2.1, .boolean), (X.2.2.2.1, .object RX5), (X.2.2.2.2, .object RX8)]
/-- what holds of the launch's tables all along: classes, array classes, links between nest mates -/
def ev (X : EX) (U : State) : Prop := va_K X.1 vwCl (ex_T X) U ∧ va_AO RX5 U ∧ va_AO RX8 U ∧ va_Nw (.fieldLinkNest RX10 103 "EggSpoons$Reader" "length" "I" "EggSpoons") U ∧ va_Nw (.methodLinkNest RX10 29 yX6_init "EggSpoons") U ∧ va_Nw (.methodLinkNest RX10 47 yX8_init "EggSpoons") U ∧ va_Nw (.methodLinkNest RX10 57 yX9_init "EggSpoons") U ∧ va_Nw (.methodLinkNest RX10 64 yX3_init "EggSpoons") U ∧ va_Nw (.methodLinkNest RX10 71 yX0_init "EggSpoons") U ∧ va_Nw (.methodLinkNest RX5 29 yX4_init "EggSpoons") U ∧ va_Nw (.methodLinkNest RX5 49 yX8_init "EggSpoons") U
theorem ev_warm {X : EX} {s U : State} (h : ev X s) (hW : s.WarmedH U.vm) : ev X U := by
  obtain ⟨h1, h2, h3, h4, h5, h6, h7, h8, h9, h10, h11⟩ := h
  exact ⟨va_K.moved hW.alike h1, h2.moved hW.alike, h3.moved hW.alike, va_Nw.warmF hW h4, va_Nw.warmM hW h5, va_Nw.warmM hW h6, va_Nw.warmM hW h7, va_Nw.warmM hW h8, va_Nw.warmM hW h9, va_Nw.warmM hW h10, va_Nw.warmM hW h11⟩
theorem ev_call {X : EX} {U : State} {g : JFrame} {mk : MethodId} {a : Array Value} (h : ev X U) : ev X (U.calling g mk a) := by
  obtain ⟨h1, h2, h3, h4, h5, h6, h7, h8, h9, h10, h11⟩ := h
  exact ⟨va_K.moved (u := U) (U := U.calling g mk a) (Vm.Alike.refl U.vm) h1, va_AO.moved (u := U) (U := U.calling g mk a) (Vm.Alike.refl U.vm) h2, va_AO.moved (u := U) (U := U.calling g mk a) (Vm.Alike.refl U.vm) h3, va_Nw.same rfl (rfl : U.vm = (U.calling g mk a).vm) h4, va_Nw.same rfl (rfl : U.vm = (U.calling g mk a).vm) h5, va_Nw.same rfl (rfl : U.vm = (U.calling g mk a).vm) h6, va_Nw.same rfl (rfl : U.vm = (U.calling g mk a).vm) h7, va_Nw.same rfl (rfl : U.vm = (U.calling g mk a).vm) h8, va_Nw.same rfl (rfl : U.vm = (U.calling g mk a).vm) h9, va_Nw.same rfl (rfl : U.vm = (U.calling g mk a).vm) h10, va_Nw.same rfl (rfl : U.vm = (U.calling g mk a).vm) h11⟩
/-- the world at a point of a walk: the cells ws, apart and of kind B; nothing outside A has changed since the entry -/
def wd (X : EX) (B A : Nat → Prop) (s : State) (ws : va_W) (H : Heap) (locs : List Loc) : Prop := ev X s ∧ va_P X.1 vwCl ws H ∧ va_D B ws ∧ va_S A s.heap H locs ∧ ∀ q, s.heap.size ≤ q → A q
/-- a contract's start -/
def pE (X : EX) (av : List Value) (ws : va_W) (sz : Nat) : Array Value → State → Prop := va_Pc av (fun U => U.heap.size = sz ∧ va_P X.1 vwCl ws U.heap ∧ ev X U ∧ va_D (fun _ => True) ws)
/-- a contract's end: the answer, the cells that come back; fc are the cells that may have been written -/
abbrev qI {S : Type} (post : Int32 → S → Prop) (X : EX) (w1 : S → va_W) (fc : va_W) (sz : Nat) : Array Value → State → Outcome → State → Prop := va_Qi post (fun u t => va_P X.1 vwCl (w1 u) t.heap ∧ va_D (va_A fc sz) (w1 u)) (va_A fc sz)
abbrev qL {S : Type} (post : Int64 → S → Prop) (X : EX) (w1 : S → va_W) (fc : va_W) (sz : Nat) : Array Value → State → Outcome → State → Prop := va_Ql post (fun u t => va_P X.1 vwCl (w1 u) t.heap ∧ va_D (va_A fc sz) (w1 u)) (va_A fc sz)
abbrev qV {S : Type} (post : S → Prop) (X : EX) (w1 : S → va_W) (fc : va_W) (sz : Nat) : Array Value → State → Outcome → State → Prop := va_Qv post (fun u t => va_P X.1 vwCl (w1 u) t.heap ∧ va_D (va_A fc sz) (w1 u)) (va_A fc sz)
theorem pE_blind {X : EX} {av : List Value} {ws : va_W} {sz : Nat} : FrameBlind (pE X av ws sz) := fun a U g mk q => by
  obtain ⟨q0, q1, qP, qE, qD⟩ := q
  exact ⟨q0, q1, qP, ev_call qE, qD⟩
theorem mp_fm {ws wc : va_W} {is : List Nat} (hs : is.map (fun i => ws[i]?) = wc.map some) : is.filterMap (fun i => ws[i]?) = wc := by
  have h := congrArg (List.filterMap (fun x => x)) hs
  rw [List.filterMap_map, List.filterMap_map] at h
  have h2 : List.filterMap ((fun x => x) ∘ some) wc = wc := List.filterMap_some
  rw [h2] at h
  exact h
theorem wd_pre {X : EX} {B A : Nat → Prop} {s : State} {ws wc : va_W} {H : Heap} {locs : List Loc} {As : List Value} (G : wd X B A s ws H locs) (is : List Nat) (hs : is.map (fun i => ws[i]?) = wc.map some) (hn : va_nd is = true) : ∀ U : State, U.heap = H → s.WarmedH U.vm → pE X As wc H.size As.toArray U := fun U hU hW =>
  ⟨rfl, by rw [hU], by rw [hU]; exact G.2.1.sub is (mp_fm hs), ev_warm G.1 hW, (G.2.2.1.sub is hn hs).weaken (fun _ _ _ _ => trivial)⟩
section EK
variable {p : Program} {l : Launch} {e : Env} {R : Room} {s : State} {m : MethodId} {args : Array Value} {below : List Frame} {meth : Method} {c : Code} {H : Heap} {locs : List Loc} {cells slots : Nat} {Q : State → Prop}
variable {cc : ByteArray} {pc nL : Nat} {ls : Array Slot} {rest : List Value} {X : EX} {A B : Nat → Prop} {a : Nat} {ws : va_W} {Ts : List Cond} {own : String}
theorem mk_met {y : MethodName} {wy wy' : List Cond} {rm : Room} {av : List Value} {ce : va_W} {sz : Nat} {Qc : Array Value → State → Outcome → State → Prop} {mc ms maxL : Nat} {free : Addr → Prop} {ret : Option FieldType} (hy : plainName y.cls = true) (hw : wy = Cond.code y cc maxL ret :: wy') (hlen : (lg_sl av).length ≤ maxL) (hB : va_D (fun _ => True) ce → va_D B ce) (hA : ∀ q, sz ≤ q → A q)
    (body : ∀ (p : Program) (e : Env) (s : State) (m : MethodId) (below : List Frame) (meth : Method) (c : Code), CallFix p m c cc maxL s av.toArray wy y.cls → meth.sig.returnType = ret → meth.locks = false → meth.name = y.name → s.heap.size = sz → wd X B A s ce s.heap [] → ∀ ls : Array Slot, lv_has ls maxL (lv_args 0 av) → W p l e rm s m av.toArray below meth c s.heap [] 0 0 (MQ below Qc av.toArray s mc ms free) (F0 m 0 ls [])) : Met l y wy rm (pE X av ce sz) Qc mc ms free := by
  refine Met.ofW (cc := cc) (maxL := maxL) (ret := ret) hy hw ?_
  intro p e s m args below meth c s₁ Bd hml hv
  obtain ⟨rfl, hsz, hP, hE, hD0⟩ := hv
  have hown : s.vm.findClass y.cls = some m.cls := findClass_of_methodNamed Bd.named
  have hl := lv_entry av hlen
  rw [lg_entry_eq]
  exact body p e s m below meth c ⟨Bd.exec, Bd.bytes, hml, hown, atoms_spec (ws := wy) Bd.pre⟩ Bd.returns Bd.notSynchronized (name_of_methodNamed Bd.named Bd.method).1 hsz ⟨hE, hP, hB hD0, va_S.rf, fun q h => hA q (by rw [← hsz]; exact h)⟩ _ hl
theorem k_ro {ce : va_W} : va_D (fun _ => True) ce → va_D (fun _ => True) ce := fun h => h
theorem k_w {ce : va_W} {sz : Nat} : va_D (fun _ => True) ce → va_D (va_A ce sz) ce := fun h => h.self
theorem k_a {ce : va_W} {sz : Nat} : ∀ q, sz ≤ q → va_A ce sz q := fun _ h => Or.inr h
-- fields
theorem r_get {C : String} {T : u_T} {N ci index : Nat} (S : CallFix p m c cc nL s args Ts own) (hin : ∀ w ∈ u_ws C T N, w ∈ Ts) (G : wd X B A s ws H locs) (q0 : Nat) {fs : List Value} (he : ws[q0]? = some (a, .inr (ci, fs))) (hc : vwCl[ci]? = some (C, T, N)) (k : Nat) (hk : k < N) (hlink : Cond.fieldLink own index (T k).1 (T k).2.1 (T k).2.2.1 ∈ Ts) {v : Value} (hv : fs[k]? = some v) (hdg : decode cc pc = .ok (.getfield index, 3))
    (kk : W p l e R s m args below meth c H locs cells slots Q (F0 m (pc + 3) ls (v :: rest))) : W p l e R s m args below meth c H locs cells slots Q (F0 m pc ls (.ref a :: rest)) :=
  va_get S.1 S.2.1 S.2.2.2.2 hin S.2.2.2.1 G.1.1 G.2.1 q0 he hc k hk (S.2.2.2.2 _ hlink) (fun _ h => h) hv hdg kk
theorem r_getN {C host : String} {T : u_T} {N ci index : Nat} (S : CallFix p m c cc nL s args Ts own) (hin : ∀ w ∈ u_ws C T N, w ∈ Ts) (G : wd X B A s ws H locs) (q0 : Nat) {fs : List Value} (he : ws[q0]? = some (a, .inr (ci, fs))) (hc : vwCl[ci]? = some (C, T, N)) (k : Nat) (hk : k < N) (hlink : va_Nw (Cond.fieldLinkNest own index (T k).1 (T k).2.1 (T k).2.2.1 host) s) {v : Value} (hv : fs[k]? = some v) (hdg : decode cc pc = .ok (.getfield index, 3))
    (kk : W p l e R s m args below meth c H locs cells slots Q (F0 m (pc + 3) ls (v :: rest))) : W p l e R s m args below meth c H locs cells slots Q (F0 m pc ls (.ref a :: rest)) :=
  va_getN S.1 S.2.1 S.2.2.2.2 hin S.2.2.2.1 G.1.1 G.2.1 q0 he hc k hk (va_Nw.use rfl hlink) (fun _ h => h) hv hdg kk
theorem r_put {C : String} {T : u_T} {N ci index : Nat} (S : CallFix p m c cc nL s args Ts own) (hin : ∀ w ∈ u_ws C T N, w ∈ Ts) {ty0 : Nat → FieldType} (hty : ∀ k, k < N → parseFieldDescriptor (T k).2.2.1 = some (ty0 k)) (hnm : ∀ a, a < N → ∀ b, b < N → a ≠ b → (T a).2.1 ≠ (T b).2.1) (G : wd X A A s ws H locs) (q0 : Nat) {fs : List Value} (he : ws[q0]? = some (a, .inr (ci, fs))) (hc : vwCl[ci]? = some (C, T, N)) (k : Nat) (hk : k < N) (hlink : Cond.fieldLink own index (T k).1 (T k).2.1 (T k).2.2.1 ∈ Ts) (hfin : (T k).2.2.2 = false) {v : Value} (hn : narrow (ty0 k) v = v) (hfit : fits (ty0 k) v = true) (hl : k < fs.length) (hdg : decode cc pc = .ok (.putfield index, 3))
    (kk : ∀ (H1 : Heap) (locs1 : List Loc), wd X A A s (ws.set q0 (a, .inr (ci, fs.set k v))) H1 locs1 → W p l e R s m args below meth c H1 locs1 cells slots Q (F0 m (pc + 3) ls rest)) : W p l e R s m args below meth c H locs cells slots Q (F0 m pc ls (v :: .ref a :: rest)) :=
  va_put S.1 S.2.1 S.2.2.2.2 hin ty0 hty hnm S.2.2.2.1 G.1.1 G.2.1 G.2.2.1 G.2.2.2.1 q0 he hc k hk (S.2.2.2.2 _ hlink) (fun _ h => h) hfin (hty k hk) hn hfit hl hdg (fun H1 locs1 h1 h2 h3 => kk H1 locs1 ⟨G.1, h1, h2, h3, G.2.2.2.2⟩)
theorem r_putN {C host : String} {T : u_T} {N ci index : Nat} (S : CallFix p m c cc nL s args Ts own) (hin : ∀ w ∈ u_ws C T N, w ∈ Ts) {ty0 : Nat → FieldType} (hty : ∀ k, k < N → parseFieldDescriptor (T k).2.2.1 = some (ty0 k)) (hnm : ∀ a, a < N → ∀ b, b < N → a ≠ b → (T a).2.1 ≠ (T b).2.1) (G : wd X A A s ws H locs) (q0 : Nat) {fs : List Value} (he : ws[q0]? = some (a, .inr (ci, fs))) (hc : vwCl[ci]? = some (C, T, N)) (k : Nat) (hk : k < N) (hlink : va_Nw (Cond.fieldLinkNest own index (T k).1 (T k).2.1 (T k).2.2.1 host) s) (hfin : (T k).2.2.2 = false) {v : Value} (hn : narrow (ty0 k) v = v) (hfit : fits (ty0 k) v = true) (hl : k < fs.length) (hdg : decode cc pc = .ok (.putfield index, 3))
    (kk : ∀ (H1 : Heap) (locs1 : List Loc), wd X A A s (ws.set q0 (a, .inr (ci, fs.set k v))) H1 locs1 → W p l e R s m args below meth c H1 locs1 cells slots Q (F0 m (pc + 3) ls rest)) : W p l e R s m args below meth c H locs cells slots Q (F0 m pc ls (v :: .ref a :: rest)) :=
  va_putN S.1 S.2.1 S.2.2.2.2 hin ty0 hty hnm S.2.2.2.1 G.1.1 G.2.1 G.2.2.1 G.2.2.2.1 q0 he hc k hk (va_Nw.use rfl hlink) (fun _ h => h) hfin (hty k hk) hn hfit hl hdg (fun H1 locs1 h1 h2 h3 => kk H1 locs1 ⟨G.1, h1, h2, h3, G.2.2.2.2⟩)
theorem r_putF {C : String} {T : u_T} {N ci index : Nat} (S : CallFix p m c cc nL s args Ts own) (hin : ∀ w ∈ u_ws C T N, w ∈ Ts) {ty0 : Nat → FieldType} (hty : ∀ k, k < N → parseFieldDescriptor (T k).2.2.1 = some (ty0 k)) (hnm : ∀ a, a < N → ∀ b, b < N → a ≠ b → (T a).2.1 ≠ (T b).2.1) (G : wd X A A s ws H locs) (q0 : Nat) {fs : List Value} (he : ws[q0]? = some (a, .inr (ci, fs))) (hc : vwCl[ci]? = some (C, T, N)) (k : Nat) (hk : k < N) (hlink : Cond.fieldLink own index (T k).1 (T k).2.1 (T k).2.2.1 ∈ Ts) (hfin : (T k).2.2.2 = true) (hin2 : meth.name = "<init>") (hdecl : (T k).1 = own) {v : Value} (hn : narrow (ty0 k) v = v) (hfit : fits (ty0 k) v = true) (hl : k < fs.length) (hdg : decode cc pc = .ok (.putfield index, 3))
    (kk : ∀ (H1 : Heap) (locs1 : List Loc), wd X A A s (ws.set q0 (a, .inr (ci, fs.set k v))) H1 locs1 → W p l e R s m args below meth c H1 locs1 cells slots Q (F0 m (pc + 3) ls rest)) : W p l e R s m args below meth c H locs cells slots Q (F0 m pc ls (v :: .ref a :: rest)) :=
  va_putF S.1 S.2.1 S.2.2.2.2 hin ty0 hty hnm S.2.2.2.1 G.1.1 G.2.1 G.2.2.1 G.2.2.2.1 q0 he hc k hk (S.2.2.2.2 _ hlink) (fun _ h => h) hfin hin2 hdecl (hty k hk) hn hfit hl hdg (fun H1 locs1 h1 h2 h3 => kk H1 locs1 ⟨G.1, h1, h2, h3, G.2.2.2.2⟩)
-- arrays
theorem r_iald (S : CallFix p m c cc nL s args Ts own) (G : wd X B A s ws H locs) (q0 : Nat) {n : Nat} {f : Nat → Int32} (ha : ws[q0]? = some (a, .inl (X.2.1, n, .inl f))) {i v : Int32} (hin : vp_in i n) (hv : f i.toNatClampNeg = v) (hdg : decode cc pc = .ok (.iaload, 1))
    (kk : W p l e R s m args below meth c H locs cells slots Q (F0 m (pc + 1) ls (.int v :: rest))) : W p l e R s m args below meth c H locs cells slots Q (F0 m pc ls (.int i :: .ref a :: rest)) :=
  va_iald S.1 S.2.1 G.1.1 G.2.1 q0 0 ha rfl hin hdg (by rw [hv]; exact kk)
theorem r_zald (S : CallFix p m c cc nL s args Ts own) (G : wd X B A s ws H locs) (q0 : Nat) {n : Nat} {f : Nat → Int32} (ha : ws[q0]? = some (a, .inl (X.2.2.1, n, .inl f))) {i v : Int32} (hin : vp_in i n) (hv : f i.toNatClampNeg = v) (hdg : decode cc pc = .ok (.baload, 1))
    (kk : W p l e R s m args below meth c H locs cells slots Q (F0 m (pc + 1) ls (.int v :: rest))) : W p l e R s m args below meth c H locs cells slots Q (F0 m pc ls (.int i :: .ref a :: rest)) :=
  va_zald S.1 S.2.1 G.1.1 G.2.1 q0 1 ha rfl hin hdg (by rw [hv]; exact kk)
theorem r_iast (S : CallFix p m c cc nL s args Ts own) (G : wd X A A s ws H locs) (q0 : Nat) {n : Nat} {f : Nat → Int32} (ha : ws[q0]? = some (a, .inl (X.2.1, n, .inl f))) {i x : Int32} (hin : vp_in i n) (hdg : decode cc pc = .ok (.iastore, 1))
    (kk : ∀ (H1 : Heap) (locs1 : List Loc), wd X A A s (ws.set q0 (a, .inl (X.2.1, n, .inl (upd f i.toNatClampNeg x)))) H1 locs1 → W p l e R s m args below meth c H1 locs1 cells slots Q (F0 m (pc + 1) ls rest)) : W p l e R s m args below meth c H locs cells slots Q (F0 m pc ls (.int x :: .int i :: .ref a :: rest)) :=
  va_iast S.1 S.2.1 G.1.1 G.2.1 G.2.2.1 G.2.2.2.1 q0 0 ha rfl hin hdg (fun H1 locs1 h1 h2 h3 => kk H1 locs1 ⟨G.1, h1, h2, h3, G.2.2.2.2⟩)
theorem r_zast (S : CallFix p m c cc nL s args Ts own) (G : wd X A A s ws H locs) (q0 : Nat) {n : Nat} {f : Nat → Int32} (ha : ws[q0]? = some (a, .inl (X.2.2.1, n, .inl f))) {i x : Int32} (hin : vp_in i n) (hdg : decode cc pc = .ok (.bastore, 1))
    (kk : ∀ (H1 : Heap) (locs1 : List Loc), wd X A A s (ws.set q0 (a, .inl (X.2.2.1, n, .inl (upd f i.toNatClampNeg (vp_nar .boolean x))))) H1 locs1 → W p l e R s m args below meth c H1 locs1 cells slots Q (F0 m (pc + 1) ls rest)) : W p l e R s m args below meth c H locs cells slots Q (F0 m pc ls (.int x :: .int i :: .ref a :: rest)) :=
  va_zast S.1 S.2.1 G.1.1 G.2.1 G.2.2.1 G.2.2.2.1 q0 1 ha rfl hin hdg (fun H1 locs1 h1 h2 h3 => kk H1 locs1 ⟨G.1, h1, h2, h3, G.2.2.2.2⟩)
theorem r_alen (S : CallFix p m c cc nL s args Ts own) (G : wd X B A s ws H locs) (q0 t0 : Nat) {cA : ClassId} {x : vp_A} {ty : FieldType} (ha : ws[q0]? = some (a, .inl (cA, x))) (ht : (ex_T X)[t0]? = some (cA, ty)) {v : Int32} (hv : Int32.ofNat x.1 = v) (hdg : decode cc pc = .ok (.arraylength, 1))
    (kk : W p l e R s m args below meth c H locs cells slots Q (F0 m (pc + 1) ls (.int v :: rest))) : W p l e R s m args below meth c H locs cells slots Q (F0 m pc ls (.ref a :: rest)) :=
  va_alen S.1 S.2.1 G.1.1 G.2.1 q0 t0 ha ht hv hdg kk
theorem r_aald (S : CallFix p m c cc nL s args Ts own) (G : wd X B A s ws H locs) (q0 t0 : Nat) {cA : ClassId} {C : String} {n : Nat} {f : Nat → Option Nat} (ha : ws[q0]? = some (a, .inl (cA, n, .inr (.inr (.inr (.inr f)))))) (ht : (ex_T X)[t0]? = some (cA, .object C)) {i : Int32} {b : Nat} (hin : vp_in i n) (hv : f i.toNatClampNeg = some b) (hdg : decode cc pc = .ok (.aaload, 1))
    (kk : W p l e R s m args below meth c H locs cells slots Q (F0 m (pc + 1) ls (.ref b :: rest))) : W p l e R s m args below meth c H locs cells slots Q (F0 m pc ls (.int i :: .ref a :: rest)) :=
  va_aldq S.1 S.2.1 G.1.1 G.2.1 q0 t0 ha ht hin hdg (by rw [hv]; exact kk)
theorem r_aast (S : CallFix p m c cc nL s args Ts own) (G : wd X A A s ws H locs) (q0 t0 qk ci : Nat) {cA : ClassId} {r : vw_C} {n v : Nat} {vs : List Value} {f : Nat → Option Nat} (ha : ws[q0]? = some (a, .inl (cA, n, .inr (.inr (.inr (.inr f)))))) (ht : (ex_T X)[t0]? = some (cA, .object r.1)) (hv : ws[qk]? = some (v, .inr (ci, vs))) (hc : vwCl[ci]? = some r) {i : Int32} (hin : vp_in i n) (hdg : decode cc pc = .ok (.aastore, 1))
    (kk : ∀ (H1 : Heap) (locs1 : List Loc), wd X A A s (ws.set q0 (a, .inl (cA, n, .inr (.inr (.inr (.inr (va_up f i.toNatClampNeg (some v)))))))) H1 locs1 → W p l e R s m args below meth c H1 locs1 cells slots Q (F0 m (pc + 1) ls rest)) : W p l e R s m args below meth c H locs cells slots Q (F0 m pc ls (.ref v :: .int i :: .ref a :: rest)) :=
  va_astq S.1 S.2.1 G.1.1 G.2.1 G.2.2.1 G.2.2.2.1 q0 t0 qk ci ha ht hv hc hin hdg (fun H1 locs1 h1 h2 h3 => kk H1 locs1 ⟨G.1, h1, h2, h3, G.2.2.2.2⟩)
theorem ra_one {U : State} {c1 c2 : ClassId} {ty : FieldType} (h1 : va_RA U c1 ty) (h2 : va_RA U c2 ty) : c1 = c2 := by
  cases ty with
  | object C =>
    obtain ⟨k1, d1, -, -, -, e1⟩ := h1
    obtain ⟨k2, d2, -, -, -, e2⟩ := h2
    exact Option.some.inj (e1.symm.trans e2)
  | _ => exact Option.some.inj (Eq.trans (Eq.symm h1) h2)
theorem r_newi {cells' slots' : Nat} (S : CallFix p m c cc nL s args Ts own) (G : wd X A A s ws H locs) (hcl : Cond.arrayClass .int ∈ Ts) {n : Int32} (N' : Nat) (hn : ¬ n < 0) (hN : n.toNatClampNeg = N') (hby : N' * 4 ≤ 536870912) (e1 : cells + 1 = cells') (e2 : slots + N' = slots') (hcells : cells' ≤ R.cells) (hslots : slots' ≤ R.slots) (hdg : decode cc pc = .ok (.newarray .int, 2))
    (kk : ∀ (q : Nat) (H1 : Heap), wd X A A s (ws ++ [(q, .inl (X.2.1, N', .inl (fun _ => 0)))]) H1 locs → W p l e R s m args below meth c H1 locs cells' slots' Q (F0 m (pc + 2) ls (.ref q :: rest))) : W p l e R s m args below meth c H locs cells slots Q (F0 m pc ls (.int n :: rest)) := by
  subst e1; subst e2
  refine va_newa (atype := .int) (ty := .int) S.1 S.2.1 (S.2.2.2.2 _ hcl) rfl G.1.1 G.2.1 G.2.2.1 G.2.2.2.1 G.2.2.2.2 (a0 := (N', .inl (fun _ => 0))) (fun cA => by rw [vp_cell_i]; rfl) hn hN hby hcells hslots hdg (fun q cA H1 hK hP hD hS => ?_)
  have hc : cA = X.2.1 := ra_one (hK.2 4 (cA, .int) rfl).2 (hK.2 0 (X.2.1, .int) rfl).2
  subst hc
  exact kk q H1 ⟨G.1, hP, hD, hS, G.2.2.2.2⟩
theorem r_newz {cells' slots' : Nat} (S : CallFix p m c cc nL s args Ts own) (G : wd X A A s ws H locs) (hcl : Cond.arrayClass .boolean ∈ Ts) {n : Int32} (N' : Nat) (hn : ¬ n < 0) (hN : n.toNatClampNeg = N') (hby : N' * 1 ≤ 536870912) (e1 : cells + 1 = cells') (e2 : slots + N' = slots') (hcells : cells' ≤ R.cells) (hslots : slots' ≤ R.slots) (hdg : decode cc pc = .ok (.newarray .boolean, 2))
    (kk : ∀ (q : Nat) (H1 : Heap), wd X A A s (ws ++ [(q, .inl (X.2.2.1, N', .inl (fun _ => 0)))]) H1 locs → W p l e R s m args below meth c H1 locs cells' slots' Q (F0 m (pc + 2) ls (.ref q :: rest))) : W p l e R s m args below meth c H locs cells slots Q (F0 m pc ls (.int n :: rest)) := by
  subst e1; subst e2
  refine va_newa (atype := .boolean) (ty := .boolean) S.1 S.2.1 (S.2.2.2.2 _ hcl) rfl G.1.1 G.2.1 G.2.2.1 G.2.2.2.1 G.2.2.2.2 (a0 := (N', .inl (fun _ => 0))) (fun cA => by rw [vp_cell_i]; rfl) hn hN hby hcells hslots hdg (fun q cA H1 hK hP hD hS => ?_)
  have hc : cA = X.2.2.1 := ra_one (hK.2 4 (cA, .boolean) rfl).2 (hK.2 1 (X.2.2.1, .boolean) rfl).2
  subst hc
  exact kk q H1 ⟨G.1, hP, hD, hS, G.2.2.2.2⟩
theorem r_newq {C : String} {index cells' slots' : Nat} (t0 : Nat) {cA : ClassId} (S : CallFix p m c cc nL s args Ts own) (G : wd X A A s ws H locs) (hlk : Cond.classLink own index C ∈ Ts) (hov : va_AO C s) (ht : (ex_T X)[t0]? = some (cA, .object C)) {n : Int32} (N' : Nat) (hn : ¬ n < 0) (hN : n.toNatClampNeg = N') (hby : N' * 4 ≤ 536870912) (e1 : cells + 1 = cells') (e2 : slots + N' = slots') (hcells : cells' ≤ R.cells) (hslots : slots' ≤ R.slots) (hdg : decode cc pc = .ok (.anewarray index, 3))
    (kk : ∀ (q : Nat) (H1 : Heap), wd X A A s (ws ++ [(q, .inl (cA, N', .inr (.inr (.inr (.inr (fun _ => none))))))]) H1 locs → W p l e R s m args below meth c H1 locs cells' slots' Q (F0 m (pc + 3) ls (.ref q :: rest))) : W p l e R s m args below meth c H locs cells slots Q (F0 m pc ls (.int n :: rest)) := by
  subst e1; subst e2
  refine va_newq S.1 S.2.1 S.2.2.2.1 (S.2.2.2.2 _ hlk) hov G.1.1 G.2.1 G.2.2.1 G.2.2.2.1 G.2.2.2.2 hn hN hby hcells hslots hdg (fun q cB H1 hK hP hD hS => ?_)
  have hc : cB = cA := ra_one (hK.2 4 (cB, .object C) rfl).2 (G.1.1.2 t0 (cA, .object C) ht).2
  subst hc
  exact kk q H1 ⟨G.1, hP, hD, hS, G.2.2.2.2⟩
theorem r_new {C : String} {T : u_T} {N ci index cells' slots' : Nat} (S : CallFix p m c cc nL s args Ts own) (hin : ∀ w ∈ u_ws C T N, w ∈ Ts) {ty0 : Nat → FieldType} (hty : ∀ k, k < N → parseFieldDescriptor (T k).2.2.1 = some (ty0 k)) (G : wd X A A s ws H locs) (hlk : Cond.classLink own index C ∈ Ts) (hinst : Cond.instantiable C N ∈ Ts) (hini : Cond.initialized C ∈ Ts) (hc : vwCl[ci]? = some (C, T, N)) (fs : List Value) (hfs : (List.range N).map (fun j => defaultValue (ty0 j)) = (List.range N).map (fun j => vp_V fs j)) (e1 : cells + 1 = cells') (e2 : slots + N = slots') (hcells : cells' ≤ R.cells) (hslots : slots' ≤ R.slots) (hdg : decode cc pc = .ok (.new index, 3))
    (kk : ∀ (q : Nat) (H1 : Heap), wd X A A s (ws ++ [(q, .inr (ci, fs))]) H1 locs → W p l e R s m args below meth c H1 locs cells' slots' Q (F0 m (pc + 3) ls (.ref q :: rest))) : W p l e R s m args below meth c H locs cells slots Q (F0 m pc ls rest) := by
  subst e1; subst e2
  refine va_new S.1 S.2.1 S.2.2.2.2 hin ty0 hty S.2.2.2.1 (S.2.2.2.2 _ hlk) (S.2.2.2.2 _ hinst) (S.2.2.2.2 _ hini) G.1.1 G.2.1 G.2.2.1 G.2.2.2.1 G.2.2.2.2 hc (fs := fs) (fun j hj => ?_) hcells hslots hdg (fun q H1 hP hD hS => kk q H1 ⟨G.1, hP, hD, hS, G.2.2.2.2⟩)
  have h := congrArg (fun l => l[j]?) hfs
  simp only [List.getElem?_map, List.getElem?_range hj, Option.map_some] at h
  exact Option.some.inj h
theorem r_obj {idx : Nat} (S : CallFix p m c cc nL s args Ts own) (hsz : ls.size = nL) (hlink : Cond.methodLink own idx objectInit ∈ Ts) (hinst : Cond.instanceMethod objectInit ∈ Ts) (hcode : Cond.code objectInit ⟨#[0xb1]⟩ 1 none ∈ Ts) (hd : decode cc pc = .ok (.invokespecial idx, 3)) (hfr : 1 ≤ R.frames) (hlo : (rest.map fun v => v.category).sum + 12 ≤ R.locals)
    (kk : W p l e R s m args below meth c H locs cells slots Q (F0 m (pc + 3) ls rest)) : W p l e R s m args below meth c H locs cells slots Q (F0 m pc ls (.ref a :: rest)) :=
  W.objInit S.1 S.2.1 S.2.2.2.1 (S.2.2.2.2 _ hlink) (S.2.2.2.2 _ hinst) (S.2.2.2.2 _ hcode) rfl (hsz.trans S.2.2.1.symm) rfl hd hfr (by show 2 * 0 + _ + 12 ≤ _; omega) kk
-- arithmetic with a name for the result
theorem r_iadd (S : CallFix p m c cc nL s args Ts own) {x y v : Int32} (hv : x + y = v) (hdg : decode cc pc = .ok (.iadd, 1)) (kk : W p l e R s m args below meth c H locs cells slots Q (F0 m (pc + 1) ls (.int v :: rest))) : W p l e R s m args below meth c H locs cells slots Q (F0 m pc ls (.int y :: .int x :: rest)) := lv_iadd S.1 S.2.1 hdg (by rw [hv]; exact kk)
theorem r_isub (S : CallFix p m c cc nL s args Ts own) {x y v : Int32} (hv : x - y = v) (hdg : decode cc pc = .ok (.isub, 1)) (kk : W p l e R s m args below meth c H locs cells slots Q (F0 m (pc + 1) ls (.int v :: rest))) : W p l e R s m args below meth c H locs cells slots Q (F0 m pc ls (.int y :: .int x :: rest)) := lv_isub S.1 S.2.1 hdg (by rw [hv]; exact kk)
theorem r_imul (S : CallFix p m c cc nL s args Ts own) {x y v : Int32} (hv : x * y = v) (hdg : decode cc pc = .ok (.imul, 1)) (kk : W p l e R s m args below meth c H locs cells slots Q (F0 m (pc + 1) ls (.int v :: rest))) : W p l e R s m args below meth c H locs cells slots Q (F0 m pc ls (.int y :: .int x :: rest)) := lv_imul S.1 S.2.1 hdg (by rw [hv]; exact kk)
theorem r_ladd (S : CallFix p m c cc nL s args Ts own) {x y v : Int64} (hv : x + y = v) (hdg : decode cc pc = .ok (.ladd, 1)) (kk : W p l e R s m args below meth c H locs cells slots Q (F0 m (pc + 1) ls (.long v :: rest))) : W p l e R s m args below meth c H locs cells slots Q (F0 m pc ls (.long y :: .long x :: rest)) := lv_ladd S.1 S.2.1 hdg (by rw [hv]; exact kk)
theorem r_lmul (S : CallFix p m c cc nL s args Ts own) {x y v : Int64} (hv : x * y = v) (hdg : decode cc pc = .ok (.lmul, 1)) (kk : W p l e R s m args below meth c H locs cells slots Q (F0 m (pc + 1) ls (.long v :: rest))) : W p l e R s m args below meth c H locs cells slots Q (F0 m pc ls (.long y :: .long x :: rest)) := lv_lmul S.1 S.2.1 hdg (by rw [hv]; exact kk)
-- ends
theorem e_int {S0 : Type} {post : Int32 → S0 → Prop} {w1 : S0 → va_W} {fc : va_W} {v : Int32} {sz : Nat} {ty : FieldType} (S : CallFix p m c cc nL s args Ts own) (hr : meth.sig.returnType = some ty) (hlk : meth.locks = false) (hn : narrow ty (.int v) = .int v) (G : wd X B (va_A fc sz) s ws H locs) (u : S0) (is : List Nat) (hs : is.map (fun i => ws[i]?) = (w1 u).map some) (hnd : va_nd is = true) (hBA : w1 u = [] ∨ B = va_A fc sz) (hp : post v u) (hdg : decode cc pc = .ok (.ireturn, 1)) : W p l e R s m args below meth c H locs cells slots (MQ below (qI post X w1 fc sz) args s cells slots (va_A fc sz)) (F0 m pc ls [.int v]) := by
  refine W.zret S.1 S.2.1 hr hn (fun t ht hW => ⟨⟨v, u, rfl, hp, ?_, ?_⟩, G.2.2.2.1.F ht⟩) G.2.2.2.1.2.2 hdg hlk
  · rw [ht]; exact G.2.1.sub is (mp_fm hs)
  · rcases hBA with h | h
    · rw [h]; exact ⟨fun i j p q h => by simp at h, fun k q h => by simp at h⟩
    · rw [← h]; exact G.2.2.1.sub is hnd hs
theorem e_long {S0 : Type} {post : Int64 → S0 → Prop} {w1 : S0 → va_W} {fc : va_W} {v : Int64} {sz : Nat} (S : CallFix p m c cc nL s args Ts own) (hr : meth.sig.returnType = some .long) (hlk : meth.locks = false) (G : wd X B (va_A fc sz) s ws H locs) (u : S0) (is : List Nat) (hs : is.map (fun i => ws[i]?) = (w1 u).map some) (hnd : va_nd is = true) (hBA : w1 u = [] ∨ B = va_A fc sz) (hp : post v u) (hdg : decode cc pc = .ok (.lreturn, 1)) : W p l e R s m args below meth c H locs cells slots (MQ below (qL post X w1 fc sz) args s cells slots (va_A fc sz)) (F0 m pc ls [.long v]) := by
  refine W.lret S.1 S.2.1 hr (fun t ht hW => ⟨⟨v, u, rfl, hp, ?_, ?_⟩, G.2.2.2.1.F ht⟩) G.2.2.2.1.2.2 hdg hlk
  · rw [ht]; exact G.2.1.sub is (mp_fm hs)
  · rcases hBA with h | h
    · rw [h]; exact ⟨fun i j p q h => by simp at h, fun k q h => by simp at h⟩
    · rw [← h]; exact G.2.2.1.sub is hnd hs
theorem e_void {S0 : Type} {post : S0 → Prop} {w1 : S0 → va_W} {fc : va_W} {sz : Nat} (S : CallFix p m c cc nL s args Ts own) (hr : meth.sig.returnType = none) (hlk : meth.locks = false) (G : wd X B (va_A fc sz) s ws H locs) (u : S0) (is : List Nat) (hs : is.map (fun i => ws[i]?) = (w1 u).map some) (hnd : va_nd is = true) (hBA : w1 u = [] ∨ B = va_A fc sz) (hp : post u) (hdg : decode cc pc = .ok (.return_, 1)) : W p l e R s m args below meth c H locs cells slots (MQ below (qV post X w1 fc sz) args s cells slots (va_A fc sz)) (F0 m pc ls []) := by
  refine W.vret S.1 S.2.1 hr (fun t ht hW => ⟨⟨u, rfl, hp, ?_, ?_⟩, G.2.2.2.1.F ht⟩) G.2.2.2.1.2.2 hdg hlk
  · rw [ht]; exact G.2.1.sub is (mp_fm hs)
  · rcases hBA with h | h
    · rw [h]; exact ⟨fun i j p q h => by simp at h, fun k q h => by simp at h⟩
    · rw [← h]; exact G.2.2.1.sub is hnd hs
-- calls: the run of the callee
section ER
variable {y : MethodName} {bytes : ByteArray} {maxL mc ms n index : Nat} {ret : Option FieldType} {wy wy' : List Cond} {rm : Room} {Qc : Array Value → State → Outcome → State → Prop} {free : Addr → Prop} {b : Nat} {As : List Value} {wc : va_W}
theorem n_V {C : String} {T : u_T} {N ci : Nat} {fs : List Value} (S : CallFix p m c cc nL s args Ts own) (G : wd X B A s ws H locs) (hM : Met l y wy rm (pE X (.ref b :: As) wc H.size) Qc mc ms free) (hg : GoodIn Ts (wsV own index C y wy)) (hw : wy = Cond.code y bytes maxL ret :: wy') (hrc : rm.cells = mc) (hrs : rm.slots = ms) (hd : y.cls = C ∧ y.cls ≠ "java/lang/invoke/MethodHandle" ∧ y.cls ≠ "java/lang/invoke/VarHandle" ∧ (parseMethodDescriptor y.desc).map (fun d => d.parameters.length) = some n) (hR : rm.frames + 1 ≤ R.frames ∧ 8 + (maxL + 11) + rm.locals ≤ R.locals) (is : List Nat) (hs : is.map (fun i => ws[i]?) = wc.map some) (hnd : va_nd is = true) (q0 : Nat) (he : ws[q0]? = some (b, .inr (ci, fs))) (hc : vwCl[ci]? = some (C, T, N)) (hn : As.length = n) (hsz : ls.size = nL) (hst : (rest.map fun v => v.category).sum ≤ 8) (hdg : decode cc pc = .ok (.invokevirtual index, 3)) (hf : cells + mc ≤ R.cells ∧ slots + ms ≤ R.slots) : va_Run p l e R s m args below meth c H locs cells slots mc ms (F0 m pc ls (As.reverse ++ .ref b :: rest)) rest (Qc (Value.ref b :: As).toArray) free :=
  va_runV S hM (cwV n S.2.2.2.2 hg hw hrc hrs hd hR) ⟨pE_blind, va_recv G.1.1 G.2.1 hc he, wd_pre G is hs hnd⟩ rfl hn hsz rfl (lv_room hst) hdg hf
theorem n_S (S : CallFix p m c cc nL s args Ts own) (G : wd X B A s ws H locs) (hM : Met l y wy rm (pE X As wc H.size) Qc mc ms free) (hg : GoodIn Ts (va_wsS own index y wy)) (hw : wy = Cond.code y bytes maxL ret :: wy') (hrc : rm.cells = mc) (hrs : rm.slots = ms) (hd : y.cls ≠ "java/lang/invoke/MethodHandle" ∧ y.cls ≠ "java/lang/invoke/VarHandle" ∧ (parseMethodDescriptor y.desc).map (fun d => d.parameters.length) = some n) (hR : rm.frames + 1 ≤ R.frames ∧ 8 + (maxL + 11) + rm.locals ≤ R.locals) (is : List Nat) (hs : is.map (fun i => ws[i]?) = wc.map some) (hnd : va_nd is = true) (hn : As.length = n) (hsz : ls.size = nL) (hst : (rest.map fun v => v.category).sum ≤ 8) (hdg : decode cc pc = .ok (.invokestatic index, 3)) (hf : cells + mc ≤ R.cells ∧ slots + ms ≤ R.slots) : va_Run p l e R s m args below meth c H locs cells slots mc ms (F0 m pc ls (As.reverse ++ rest)) rest (Qc As.toArray) free :=
  va_runS S hM (va_cwS n S.2.2.2.2 hg hw hrc hrs hd hR) ⟨pE_blind, wd_pre G is hs hnd⟩ rfl hn hsz rfl (lv_room hst) hdg hf
theorem n_I (S : CallFix p m c cc nL s args Ts own) (G : wd X B A s ws H locs) (hM : Met l y wy rm (pE X (.ref b :: As) wc H.size) Qc mc ms free) (hg : GoodIn Ts wy) (hw : wy = Cond.code y bytes maxL none :: wy') (hrc : rm.cells = mc) (hrs : rm.slots = ms) (hini : Cond.initialized y.cls ∈ Ts) (hlk : Cond.methodLink own index y ∈ Ts) (hin : Cond.instanceMethod y ∈ Ts) (hy1 : y.name = "<init>") (hd : y.cls ≠ "java/lang/invoke/MethodHandle" ∧ y.cls ≠ "java/lang/invoke/VarHandle" ∧ (parseMethodDescriptor y.desc).map (fun d => d.parameters.length) = some n) (hR : rm.frames + 1 ≤ R.frames ∧ 8 + (maxL + 11) + rm.locals ≤ R.locals) (is : List Nat) (hs : is.map (fun i => ws[i]?) = wc.map some) (hnd : va_nd is = true) (hn : As.length = n) (hsz : ls.size = nL) (hst : (rest.map fun v => v.category).sum ≤ 8) (hdg : decode cc pc = .ok (.invokespecial index, 3)) (hf : cells + mc ≤ R.cells ∧ slots + ms ≤ R.slots) : va_Run p l e R s m args below meth c H locs cells slots mc ms (F0 m pc ls (As.reverse ++ .ref b :: rest)) rest (Qc (Value.ref b :: As).toArray) free :=
  va_runI S hM (cwI n S.2.2.2.2 hg hw hrc hrs (S.2.2.2.2 _ hini) (S.2.2.2.2 _ hlk) (S.2.2.2.2 _ hin) hy1 hd hR) ⟨pE_blind, wd_pre G is hs hnd⟩ rfl hn hsz rfl (lv_room hst) hdg hf
theorem n_IN {host : String} (S : CallFix p m c cc nL s args Ts own) (G : wd X B A s ws H locs) (hM : Met l y wy rm (pE X (.ref b :: As) wc H.size) Qc mc ms free) (hg : GoodIn Ts wy) (hw : wy = Cond.code y bytes maxL none :: wy') (hrc : rm.cells = mc) (hrs : rm.slots = ms) (hini : Cond.initialized y.cls ∈ Ts) (hlk : va_Nw (.methodLinkNest own index y host) s) (hin : Cond.instanceMethod y ∈ Ts) (hy1 : y.name = "<init>") (hd : y.cls ≠ "java/lang/invoke/MethodHandle" ∧ y.cls ≠ "java/lang/invoke/VarHandle" ∧ (parseMethodDescriptor y.desc).map (fun d => d.parameters.length) = some n) (hR : rm.frames + 1 ≤ R.frames ∧ 8 + (maxL + 11) + rm.locals ≤ R.locals) (is : List Nat) (hs : is.map (fun i => ws[i]?) = wc.map some) (hnd : va_nd is = true) (hn : As.length = n) (hsz : ls.size = nL) (hst : (rest.map fun v => v.category).sum ≤ 8) (hdg : decode cc pc = .ok (.invokespecial index, 3)) (hf : cells + mc ≤ R.cells ∧ slots + ms ≤ R.slots) : va_Run p l e R s m args below meth c H locs cells slots mc ms (F0 m pc ls (As.reverse ++ .ref b :: rest)) rest (Qc (Value.ref b :: As).toArray) free :=
  va_runIN S hM ⟨va_cnB n S.2.2.2.2 hg hw hrc hrs hlk (S.2.2.2.2 _ hini) hd hR, hy1, S.2.2.2.2 _ hin⟩ ⟨pE_blind, wd_pre G is hs hnd⟩ rfl hn hsz rfl (lv_room hst) hdg hf
end ER
-- calls: what is behind them
section EC
variable {mc ms cells' slots' : Nat} {ag : Array Value} {st0 : List Value} {S0 : Type} {w1 : S0 → va_W} {fc wr : va_W}
theorem ro_F (G : wd X B A s ws H locs) : ∀ q, va_A [] H.size q → A q := fun q h => by
  rcases h with ⟨k, e, hk⟩ | h
  · simp at hk
  · exact G.2.2.2.2 q (Nat.le_trans G.2.2.2.1.1 h)
theorem ro_G {H1 : Heap} {locs1 : List Loc} (G : wd X B A s ws H locs) (hk : ∀ q : Nat, q < H.size → ¬ va_A [] H.size q → H1[q]? = H[q]?) (hS : va_S A s.heap H1 locs1) : wd X B A s ws H1 locs1 :=
  ⟨G.1, G.2.1.kept (fun k q hq => hk q.1 ((G.2.1 k q hq).lt) (fun h => by
    rcases h with ⟨k', e', hk'⟩ | h
    · simp at hk'
    · exact absurd ((G.2.1 k q hq).lt) (Nat.not_lt.mpr h))), G.2.2.1, hS, G.2.2.2.2⟩
theorem o_ri {post : Int32 → S0 → Prop} (G : wd X B A s ws H locs) (e1 : cells + mc = cells') (e2 : slots + ms = slots') (hr : va_Run p l e R s m args below meth c H locs cells slots mc ms (F0 m pc ls st0) rest (qI post X w1 [] H.size ag) (va_A [] H.size))
    (kk : ∀ (r : Int32) (u : S0) (H1 : Heap) (locs1 : List Loc), post r u → wd X B A s ws H1 locs1 → W p l e R s m args below meth c H1 locs1 cells' slots' Q (F0 m (pc + 3) ls (.int r :: rest))) : W p l e R s m args below meth c H locs cells slots Q (F0 m pc ls st0) := by
  subst e1; subst e2
  exact va_calli hr G.2.2.2.1 (fun q _ h => ro_F G q h) (ro_F G) (fun r u t H1 locs1 ht hvm hp hB hz hk hS => kk r u H1 locs1 hp (ro_G G hk hS))
theorem o_rl {post : Int64 → S0 → Prop} (G : wd X B A s ws H locs) (e1 : cells + mc = cells') (e2 : slots + ms = slots') (hr : va_Run p l e R s m args below meth c H locs cells slots mc ms (F0 m pc ls st0) rest (qL post X w1 [] H.size ag) (va_A [] H.size))
    (kk : ∀ (r : Int64) (u : S0) (H1 : Heap) (locs1 : List Loc), post r u → wd X B A s ws H1 locs1 → W p l e R s m args below meth c H1 locs1 cells' slots' Q (F0 m (pc + 3) ls (.long r :: rest))) : W p l e R s m args below meth c H locs cells slots Q (F0 m pc ls st0) := by
  subst e1; subst e2
  exact va_calll hr G.2.2.2.1 (fun q _ h => ro_F G q h) (ro_F G) (fun r u t H1 locs1 ht hvm hp hB hz hk hS => kk r u H1 locs1 hp (ro_G G hk hS))
theorem o_wi {post : Int32 → S0 → Prop} (G : wd X A A s ws H locs) (e1 : cells + mc = cells') (e2 : slots + ms = slots') (isC isR : List Nat) (hC : isC.map (fun i => ws[i]?) = fc.map some) (hR : isR.map (fun i => ws[i]?) = wr.map some) (hn : va_nd isR = true) (hdis : ∀ i ∈ isR, i ∉ isC) (hr : va_Run p l e R s m args below meth c H locs cells slots mc ms (F0 m pc ls st0) rest (qI post X w1 fc H.size ag) (va_A fc H.size))
    (kk : ∀ (r : Int32) (u : S0) (H1 : Heap) (locs1 : List Loc), post r u → wd X A A s (wr ++ w1 u) H1 locs1 → W p l e R s m args below meth c H1 locs1 cells' slots' Q (F0 m (pc + 3) ls (.int r :: rest))) : W p l e R s m args below meth c H locs cells slots Q (F0 m pc ls st0) := by
  subst e1; subst e2
  have hF := va_free G.2.2.1 G.2.2.2.1 G.2.2.2.2 isC hC
  refine va_calli hr G.2.2.2.1 (fun q _ h => hF q h) hF (fun r u t H1 locs1 ht hvm hp hB hz hk hS => ?_)
  obtain ⟨hP1, hD1⟩ := hB
  rw [ht] at hP1
  obtain ⟨hP2, hD2⟩ := va_join G.2.1 G.2.2.1 isC isR hC hR hn hdis hk hF hP1 hD1
  exact kk r u H1 locs1 hp ⟨G.1, hP2, hD2, hS, G.2.2.2.2⟩
theorem o_wl {post : Int64 → S0 → Prop} (G : wd X A A s ws H locs) (e1 : cells + mc = cells') (e2 : slots + ms = slots') (isC isR : List Nat) (hC : isC.map (fun i => ws[i]?) = fc.map some) (hR : isR.map (fun i => ws[i]?) = wr.map some) (hn : va_nd isR = true) (hdis : ∀ i ∈ isR, i ∉ isC) (hr : va_Run p l e R s m args below meth c H locs cells slots mc ms (F0 m pc ls st0) rest (qL post X w1 fc H.size ag) (va_A fc H.size))
    (kk : ∀ (r : Int64) (u : S0) (H1 : Heap) (locs1 : List Loc), post r u → wd X A A s (wr ++ w1 u) H1 locs1 → W p l e R s m args below meth c H1 locs1 cells' slots' Q (F0 m (pc + 3) ls (.long r :: rest))) : W p l e R s m args below meth c H locs cells slots Q (F0 m pc ls st0) := by
  subst e1; subst e2
  have hF := va_free G.2.2.1 G.2.2.2.1 G.2.2.2.2 isC hC
  refine va_calll hr G.2.2.2.1 (fun q _ h => hF q h) hF (fun r u t H1 locs1 ht hvm hp hB hz hk hS => ?_)
  obtain ⟨hP1, hD1⟩ := hB
  rw [ht] at hP1
  obtain ⟨hP2, hD2⟩ := va_join G.2.1 G.2.2.1 isC isR hC hR hn hdis hk hF hP1 hD1
  exact kk r u H1 locs1 hp ⟨G.1, hP2, hD2, hS, G.2.2.2.2⟩
theorem o_wv {post : S0 → Prop} (G : wd X A A s ws H locs) (e1 : cells + mc = cells') (e2 : slots + ms = slots') (isC isR : List Nat) (hC : isC.map (fun i => ws[i]?) = fc.map some) (hR : isR.map (fun i => ws[i]?) = wr.map some) (hn : va_nd isR = true) (hdis : ∀ i ∈ isR, i ∉ isC) (hr : va_Run p l e R s m args below meth c H locs cells slots mc ms (F0 m pc ls st0) rest (qV post X w1 fc H.size ag) (va_A fc H.size))
    (kk : ∀ (u : S0) (H1 : Heap) (locs1 : List Loc), post u → wd X A A s (wr ++ w1 u) H1 locs1 → W p l e R s m args below meth c H1 locs1 cells' slots' Q (F0 m (pc + 3) ls rest)) : W p l e R s m args below meth c H locs cells slots Q (F0 m pc ls st0) := by
  subst e1; subst e2
  have hF := va_free G.2.2.1 G.2.2.2.1 G.2.2.2.2 isC hC
  refine va_callv hr G.2.2.2.1 (fun q _ h => hF q h) hF (fun u t H1 locs1 ht hvm hp hB hz hk hS => ?_)
  obtain ⟨hP1, hD1⟩ := hB
  rw [ht] at hP1
  obtain ⟨hP2, hD2⟩ := va_join G.2.1 G.2.2.1 isC isR hC hR hn hdis hk hF hP1 hD1
  exact kk u H1 locs1 hp ⟨G.1, hP2, hD2, hS, G.2.2.2.2⟩
end EC
end EK
end
