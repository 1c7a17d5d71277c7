-- ===== PART A: goes FIRST, ahead of the names: the tables' words, and 'selects' of the private methods out of them =====
/-- a private method of a class that the tables say can be made, by its rows of tables_1 -/
def lw_okq (q : MethodName × Nat) : Prop := (q.1.cls ≠ "java/lang/invoke/MethodHandle" ∧ q.1.cls ≠ "java/lang/invoke/VarHandle") ∧ Cond.instantiable q.1.cls q.2 ∈ tables_1 ∧ Cond.privateMethod q.1 ∈ tables_1 ∧ Cond.instanceMethod q.1 ∈ tables_1
theorem lw_p0 : lw_okq (⟨"BeaconDelay", "putOnTape", "(I)V"⟩, 15) := ⟨⟨by decide +kernel, by decide +kernel⟩, List.mem_of_getElem? (i := 22) (by decide +kernel), List.mem_of_getElem? (i := 327) (by decide +kernel), List.mem_of_getElem? (i := 328) (by decide +kernel)⟩
theorem lw_p1 : lw_okq (⟨"BeaconDelay$Reader", "step", "()V"⟩, 9) := ⟨⟨by decide +kernel, by decide +kernel⟩, List.mem_of_getElem? (i := 127) (by decide +kernel), List.mem_of_getElem? (i := 349) (by decide +kernel), List.mem_of_getElem? (i := 350) (by decide +kernel)⟩
theorem lw_p2 : lw_okq (⟨"BeaconDelay$Reader", "endOfRun", "(CC)I"⟩, 9) := ⟨⟨by decide +kernel, by decide +kernel⟩, List.mem_of_getElem? (i := 127) (by decide +kernel), List.mem_of_getElem? (i := 353) (by decide +kernel), List.mem_of_getElem? (i := 354) (by decide +kernel)⟩
theorem lw_p3 : lw_okq (⟨"BeaconDelay$Reader", "fail", "(I)V"⟩, 9) := ⟨⟨by decide +kernel, by decide +kernel⟩, List.mem_of_getElem? (i := 127) (by decide +kernel), List.mem_of_getElem? (i := 357) (by decide +kernel), List.mem_of_getElem? (i := 358) (by decide +kernel)⟩
theorem lw_p4 : lw_okq (⟨"BeaconDelay$Reader", "valueOfRun", "()I"⟩, 9) := ⟨⟨by decide +kernel, by decide +kernel⟩, List.mem_of_getElem? (i := 127) (by decide +kernel), List.mem_of_getElem? (i := 361) (by decide +kernel), List.mem_of_getElem? (i := 362) (by decide +kernel)⟩
theorem lw_p5 : lw_okq (⟨"BeaconDelay$Reader", "expect", "(Ljava/lang/String;)V"⟩, 9) := ⟨⟨by decide +kernel, by decide +kernel⟩, List.mem_of_getElem? (i := 127) (by decide +kernel), List.mem_of_getElem? (i := 449) (by decide +kernel), List.mem_of_getElem? (i := 450) (by decide +kernel)⟩
theorem lw_p6 : lw_okq (⟨"BeaconDelay$Reader", "at", "(Ljava/lang/String;)Z"⟩, 9) := ⟨⟨by decide +kernel, by decide +kernel⟩, List.mem_of_getElem? (i := 127) (by decide +kernel), List.mem_of_getElem? (i := 453) (by decide +kernel), List.mem_of_getElem? (i := 454) (by decide +kernel)⟩
theorem lw_p7 : lw_okq (⟨"BeaconDelay$Reader", "numberUpTo", "(I)I"⟩, 9) := ⟨⟨by decide +kernel, by decide +kernel⟩, List.mem_of_getElem? (i := 127) (by decide +kernel), List.mem_of_getElem? (i := 479) (by decide +kernel), List.mem_of_getElem? (i := 480) (by decide +kernel)⟩
theorem lw_p8 : lw_okq (⟨"BeaconDelay$Reader", "line", "()V"⟩, 9) := ⟨⟨by decide +kernel, by decide +kernel⟩, List.mem_of_getElem? (i := 127) (by decide +kernel), List.mem_of_getElem? (i := 484) (by decide +kernel), List.mem_of_getElem? (i := 485) (by decide +kernel)⟩
theorem lw_p9 : lw_okq (⟨"BeaconDelay$Reader", "hillLine", "()V"⟩, 9) := ⟨⟨by decide +kernel, by decide +kernel⟩, List.mem_of_getElem? (i := 127) (by decide +kernel), List.mem_of_getElem? (i := 489) (by decide +kernel), List.mem_of_getElem? (i := 490) (by decide +kernel)⟩
theorem lw_p10 : lw_okq (⟨"BeaconDelay$Reader", "villageLine", "()V"⟩, 9) := ⟨⟨by decide +kernel, by decide +kernel⟩, List.mem_of_getElem? (i := 127) (by decide +kernel), List.mem_of_getElem? (i := 500) (by decide +kernel), List.mem_of_getElem? (i := 501) (by decide +kernel)⟩
theorem lw_p11 : lw_okq (⟨"BeaconDelay$Reader", "roadLine", "()V"⟩, 9) := ⟨⟨by decide +kernel, by decide +kernel⟩, List.mem_of_getElem? (i := 127) (by decide +kernel), List.mem_of_getElem? (i := 506) (by decide +kernel), List.mem_of_getElem? (i := 507) (by decide +kernel)⟩
theorem lw_p12 : lw_okq (⟨"BeaconDelay$Reader", "takesLine", "()V"⟩, 9) := ⟨⟨by decide +kernel, by decide +kernel⟩, List.mem_of_getElem? (i := 127) (by decide +kernel), List.mem_of_getElem? (i := 512) (by decide +kernel), List.mem_of_getElem? (i := 513) (by decide +kernel)⟩
theorem lw_p13 : lw_okq (⟨"BeaconDelay$Reader", "truth", "(I)V"⟩, 9) := ⟨⟨by decide +kernel, by decide +kernel⟩, List.mem_of_getElem? (i := 127) (by decide +kernel), List.mem_of_getElem? (i := 517) (by decide +kernel), List.mem_of_getElem? (i := 518) (by decide +kernel)⟩
theorem lw_p14 : lw_okq (⟨"BeaconDelay$Reader", "both", "(I)V"⟩, 9) := ⟨⟨by decide +kernel, by decide +kernel⟩, List.mem_of_getElem? (i := 127) (by decide +kernel), List.mem_of_getElem? (i := 521) (by decide +kernel), List.mem_of_getElem? (i := 522) (by decide +kernel)⟩
theorem lw_p15 : lw_okq (⟨"BeaconDelay$Reader", "unit", "(I)V"⟩, 9) := ⟨⟨by decide +kernel, by decide +kernel⟩, List.mem_of_getElem? (i := 127) (by decide +kernel), List.mem_of_getElem? (i := 525) (by decide +kernel), List.mem_of_getElem? (i := 526) (by decide +kernel)⟩
def lw_privs_1 : List (MethodName × Nat) := [(⟨"BeaconDelay", "putOnTape", "(I)V"⟩, 15), (⟨"BeaconDelay$Reader", "step", "()V"⟩, 9), (⟨"BeaconDelay$Reader", "endOfRun", "(CC)I"⟩, 9), (⟨"BeaconDelay$Reader", "fail", "(I)V"⟩, 9), (⟨"BeaconDelay$Reader", "valueOfRun", "()I"⟩, 9), (⟨"BeaconDelay$Reader", "expect", "(Ljava/lang/String;)V"⟩, 9), (⟨"BeaconDelay$Reader", "at", "(Ljava/lang/String;)Z"⟩, 9), (⟨"BeaconDelay$Reader", "numberUpTo", "(I)I"⟩, 9), (⟨"BeaconDelay$Reader", "line", "()V"⟩, 9), (⟨"BeaconDelay$Reader", "hillLine", "()V"⟩, 9), (⟨"BeaconDelay$Reader", "villageLine", "()V"⟩, 9), (⟨"BeaconDelay$Reader", "roadLine", "()V"⟩, 9), (⟨"BeaconDelay$Reader", "takesLine", "()V"⟩, 9), (⟨"BeaconDelay$Reader", "truth", "(I)V"⟩, 9), (⟨"BeaconDelay$Reader", "both", "(I)V"⟩, 9), (⟨"BeaconDelay$Reader", "unit", "(I)V"⟩, 9)]
theorem lw_r1 : ∀ q ∈ lw_privs_1, lw_okq q := List.forall_mem_cons.mpr ⟨lw_p0, List.forall_mem_cons.mpr ⟨lw_p1, List.forall_mem_cons.mpr ⟨lw_p2, List.forall_mem_cons.mpr ⟨lw_p3, List.forall_mem_cons.mpr ⟨lw_p4, List.forall_mem_cons.mpr ⟨lw_p5, List.forall_mem_cons.mpr ⟨lw_p6, List.forall_mem_cons.mpr ⟨lw_p7, List.forall_mem_cons.mpr ⟨lw_p8, List.forall_mem_cons.mpr ⟨lw_p9, List.forall_mem_cons.mpr ⟨lw_p10, List.forall_mem_cons.mpr ⟨lw_p11, List.forall_mem_cons.mpr ⟨lw_p12, List.forall_mem_cons.mpr ⟨lw_p13, List.forall_mem_cons.mpr ⟨lw_p14, List.forall_mem_cons.mpr ⟨lw_p15, fun _ h => absurd h List.not_mem_nil⟩⟩⟩⟩⟩⟩⟩⟩⟩⟩⟩⟩⟩⟩⟩⟩
theorem lw_p16 : lw_okq (⟨"BeaconDelay$Reader", "put", "(I)V"⟩, 9) := ⟨⟨by decide +kernel, by decide +kernel⟩, List.mem_of_getElem? (i := 127) (by decide +kernel), List.mem_of_getElem? (i := 531) (by decide +kernel), List.mem_of_getElem? (i := 532) (by decide +kernel)⟩
theorem lw_p17 : lw_okq (⟨"BeaconDelay$Reader", "sum", "(I)V"⟩, 9) := ⟨⟨by decide +kernel, by decide +kernel⟩, List.mem_of_getElem? (i := 127) (by decide +kernel), List.mem_of_getElem? (i := 536) (by decide +kernel), List.mem_of_getElem? (i := 537) (by decide +kernel)⟩
theorem lw_p18 : lw_okq (⟨"BeaconDelay$Reader", "term", "(I)V"⟩, 9) := ⟨⟨by decide +kernel, by decide +kernel⟩, List.mem_of_getElem? (i := 127) (by decide +kernel), List.mem_of_getElem? (i := 540) (by decide +kernel), List.mem_of_getElem? (i := 541) (by decide +kernel)⟩
theorem lw_p19 : lw_okq (⟨"BeaconDelay$Reader", "atom", "(I)V"⟩, 9) := ⟨⟨by decide +kernel, by decide +kernel⟩, List.mem_of_getElem? (i := 127) (by decide +kernel), List.mem_of_getElem? (i := 544) (by decide +kernel), List.mem_of_getElem? (i := 545) (by decide +kernel)⟩
theorem lw_p20 : lw_okq (⟨"BeaconDelay$Reader", "name", "()V"⟩, 9) := ⟨⟨by decide +kernel, by decide +kernel⟩, List.mem_of_getElem? (i := 127) (by decide +kernel), List.mem_of_getElem? (i := 554) (by decide +kernel), List.mem_of_getElem? (i := 555) (by decide +kernel)⟩
theorem lw_p21 : lw_okq (⟨"BeaconDelay$Reader", "addsLine", "()V"⟩, 9) := ⟨⟨by decide +kernel, by decide +kernel⟩, List.mem_of_getElem? (i := 127) (by decide +kernel), List.mem_of_getElem? (i := 569) (by decide +kernel), List.mem_of_getElem? (i := 570) (by decide +kernel)⟩
theorem lw_p22 : lw_okq (⟨"BeaconDelay", "goOnFrom", "(LBeaconDelay$Coast;III)V"⟩, 15) := ⟨⟨by decide +kernel, by decide +kernel⟩, List.mem_of_getElem? (i := 22) (by decide +kernel), List.mem_of_getElem? (i := 573) (by decide +kernel), List.mem_of_getElem? (i := 574) (by decide +kernel)⟩
theorem lw_p23 : lw_okq (⟨"BeaconDelay", "isHill", "(I)Z"⟩, 15) := ⟨⟨by decide +kernel, by decide +kernel⟩, List.mem_of_getElem? (i := 22) (by decide +kernel), List.mem_of_getElem? (i := 603) (by decide +kernel), List.mem_of_getElem? (i := 604) (by decide +kernel)⟩
theorem lw_p24 : lw_okq (⟨"BeaconDelay", "isNight", "(J)Z"⟩, 15) := ⟨⟨by decide +kernel, by decide +kernel⟩, List.mem_of_getElem? (i := 22) (by decide +kernel), List.mem_of_getElem? (i := 622) (by decide +kernel), List.mem_of_getElem? (i := 623) (by decide +kernel)⟩
theorem lw_p25 : lw_okq (⟨"BeaconDelay$Laws", "workOutDigit", "(II)I"⟩, 6) := ⟨⟨by decide +kernel, by decide +kernel⟩, List.mem_of_getElem? (i := 166) (by decide +kernel), List.mem_of_getElem? (i := 635) (by decide +kernel), List.mem_of_getElem? (i := 636) (by decide +kernel)⟩
theorem lw_p26 : lw_okq (⟨"BeaconDelay$Laws", "workOut", "(II)I"⟩, 6) := ⟨⟨by decide +kernel, by decide +kernel⟩, List.mem_of_getElem? (i := 166) (by decide +kernel), List.mem_of_getElem? (i := 639) (by decide +kernel), List.mem_of_getElem? (i := 640) (by decide +kernel)⟩
theorem lw_p27 : lw_okq (⟨"BeaconDelay", "tryDeed", "(J)I"⟩, 15) := ⟨⟨by decide +kernel, by decide +kernel⟩, List.mem_of_getElem? (i := 22) (by decide +kernel), List.mem_of_getElem? (i := 666) (by decide +kernel), List.mem_of_getElem? (i := 667) (by decide +kernel)⟩
theorem lw_p28 : lw_okq (⟨"BeaconDelay", "whyNoStealing", "(I)I"⟩, 15) := ⟨⟨by decide +kernel, by decide +kernel⟩, List.mem_of_getElem? (i := 22) (by decide +kernel), List.mem_of_getElem? (i := 672) (by decide +kernel), List.mem_of_getElem? (i := 673) (by decide +kernel)⟩
theorem lw_p29 : lw_okq (⟨"BeaconDelay", "takeByHand", "(I)V"⟩, 15) := ⟨⟨by decide +kernel, by decide +kernel⟩, List.mem_of_getElem? (i := 22) (by decide +kernel), List.mem_of_getElem? (i := 676) (by decide +kernel), List.mem_of_getElem? (i := 677) (by decide +kernel)⟩
theorem lw_p30 : lw_okq (⟨"BeaconDelay", "bringBack", "(III)V"⟩, 15) := ⟨⟨by decide +kernel, by decide +kernel⟩, List.mem_of_getElem? (i := 22) (by decide +kernel), List.mem_of_getElem? (i := 701) (by decide +kernel), List.mem_of_getElem? (i := 702) (by decide +kernel)⟩
theorem lw_p31 : lw_okq (⟨"BeaconDelay", "tryAll", "(LBeaconDelay$Tray;)I"⟩, 15) := ⟨⟨by decide +kernel, by decide +kernel⟩, List.mem_of_getElem? (i := 22) (by decide +kernel), List.mem_of_getElem? (i := 716) (by decide +kernel), List.mem_of_getElem? (i := 717) (by decide +kernel)⟩
def lw_privs_2 : List (MethodName × Nat) := [(⟨"BeaconDelay$Reader", "put", "(I)V"⟩, 9), (⟨"BeaconDelay$Reader", "sum", "(I)V"⟩, 9), (⟨"BeaconDelay$Reader", "term", "(I)V"⟩, 9), (⟨"BeaconDelay$Reader", "atom", "(I)V"⟩, 9), (⟨"BeaconDelay$Reader", "name", "()V"⟩, 9), (⟨"BeaconDelay$Reader", "addsLine", "()V"⟩, 9), (⟨"BeaconDelay", "goOnFrom", "(LBeaconDelay$Coast;III)V"⟩, 15), (⟨"BeaconDelay", "isHill", "(I)Z"⟩, 15), (⟨"BeaconDelay", "isNight", "(J)Z"⟩, 15), (⟨"BeaconDelay$Laws", "workOutDigit", "(II)I"⟩, 6), (⟨"BeaconDelay$Laws", "workOut", "(II)I"⟩, 6), (⟨"BeaconDelay", "tryDeed", "(J)I"⟩, 15), (⟨"BeaconDelay", "whyNoStealing", "(I)I"⟩, 15), (⟨"BeaconDelay", "takeByHand", "(I)V"⟩, 15), (⟨"BeaconDelay", "bringBack", "(III)V"⟩, 15), (⟨"BeaconDelay", "tryAll", "(LBeaconDelay$Tray;)I"⟩, 15)]
theorem lw_r2 : ∀ q ∈ lw_privs_2, lw_okq q := List.forall_mem_cons.mpr ⟨lw_p16, List.forall_mem_cons.mpr ⟨lw_p17, List.forall_mem_cons.mpr ⟨lw_p18, List.forall_mem_cons.mpr ⟨lw_p19, List.forall_mem_cons.mpr ⟨lw_p20, List.forall_mem_cons.mpr ⟨lw_p21, List.forall_mem_cons.mpr ⟨lw_p22, List.forall_mem_cons.mpr ⟨lw_p23, List.forall_mem_cons.mpr ⟨lw_p24, List.forall_mem_cons.mpr ⟨lw_p25, List.forall_mem_cons.mpr ⟨lw_p26, List.forall_mem_cons.mpr ⟨lw_p27, List.forall_mem_cons.mpr ⟨lw_p28, List.forall_mem_cons.mpr ⟨lw_p29, List.forall_mem_cons.mpr ⟨lw_p30, List.forall_mem_cons.mpr ⟨lw_p31, fun _ h => absurd h List.not_mem_nil⟩⟩⟩⟩⟩⟩⟩⟩⟩⟩⟩⟩⟩⟩⟩⟩
theorem lw_p32 : lw_okq (⟨"BeaconDelay", "waysFromNow", "(I)LBeaconDelay$Ways;"⟩, 15) := ⟨⟨by decide +kernel, by decide +kernel⟩, List.mem_of_getElem? (i := 22) (by decide +kernel), List.mem_of_getElem? (i := 773) (by decide +kernel), List.mem_of_getElem? (i := 774) (by decide +kernel)⟩
theorem lw_p33 : lw_okq (⟨"BeaconDelay$Ways", "meet", "(IIII)I"⟩, 17) := ⟨⟨by decide +kernel, by decide +kernel⟩, List.mem_of_getElem? (i := 777) (by decide +kernel), List.mem_of_getElem? (i := 853) (by decide +kernel), List.mem_of_getElem? (i := 854) (by decide +kernel)⟩
theorem lw_p34 : lw_okq (⟨"BeaconDelay$Ways", "open", "(I)V"⟩, 17) := ⟨⟨by decide +kernel, by decide +kernel⟩, List.mem_of_getElem? (i := 777) (by decide +kernel), List.mem_of_getElem? (i := 861) (by decide +kernel), List.mem_of_getElem? (i := 862) (by decide +kernel)⟩
theorem lw_p35 : lw_okq (⟨"BeaconDelay$Ways", "beginSpread", "()V"⟩, 17) := ⟨⟨by decide +kernel, by decide +kernel⟩, List.mem_of_getElem? (i := 777) (by decide +kernel), List.mem_of_getElem? (i := 889) (by decide +kernel), List.mem_of_getElem? (i := 890) (by decide +kernel)⟩
theorem lw_p36 : lw_okq (⟨"BeaconDelay$Ways", "spreadOneNight", "(II)V"⟩, 17) := ⟨⟨by decide +kernel, by decide +kernel⟩, List.mem_of_getElem? (i := 777) (by decide +kernel), List.mem_of_getElem? (i := 899) (by decide +kernel), List.mem_of_getElem? (i := 900) (by decide +kernel)⟩
theorem lw_p37 : lw_okq (⟨"BeaconDelay$Ways", "countComersAbove", "(I)I"⟩, 17) := ⟨⟨by decide +kernel, by decide +kernel⟩, List.mem_of_getElem? (i := 777) (by decide +kernel), List.mem_of_getElem? (i := 922) (by decide +kernel), List.mem_of_getElem? (i := 923) (by decide +kernel)⟩
theorem lw_p38 : lw_okq (⟨"BeaconDelay$Ways", "isAbove", "(II)Z"⟩, 17) := ⟨⟨by decide +kernel, by decide +kernel⟩, List.mem_of_getElem? (i := 777) (by decide +kernel), List.mem_of_getElem? (i := 926) (by decide +kernel), List.mem_of_getElem? (i := 927) (by decide +kernel)⟩
theorem lw_p39 : lw_okq (⟨"BeaconDelay", "litBy", "(I)I"⟩, 15) := ⟨⟨by decide +kernel, by decide +kernel⟩, List.mem_of_getElem? (i := 22) (by decide +kernel), List.mem_of_getElem? (i := 944) (by decide +kernel), List.mem_of_getElem? (i := 945) (by decide +kernel)⟩
theorem lw_p40 : lw_okq (⟨"BeaconDelay", "isSeen", "(III)Z"⟩, 15) := ⟨⟨by decide +kernel, by decide +kernel⟩, List.mem_of_getElem? (i := 22) (by decide +kernel), List.mem_of_getElem? (i := 948) (by decide +kernel), List.mem_of_getElem? (i := 949) (by decide +kernel)⟩
theorem lw_p41 : lw_okq (⟨"BeaconDelay", "woodWithout", "(I)I"⟩, 15) := ⟨⟨by decide +kernel, by decide +kernel⟩, List.mem_of_getElem? (i := 22) (by decide +kernel), List.mem_of_getElem? (i := 966) (by decide +kernel), List.mem_of_getElem? (i := 967) (by decide +kernel)⟩
theorem lw_p42 : lw_okq (⟨"BeaconDelay", "refusalOfTold", "(III)I"⟩, 15) := ⟨⟨by decide +kernel, by decide +kernel⟩, List.mem_of_getElem? (i := 22) (by decide +kernel), List.mem_of_getElem? (i := 982) (by decide +kernel), List.mem_of_getElem? (i := 983) (by decide +kernel)⟩
theorem lw_p43 : lw_okq (⟨"BeaconDelay$Ways", "isAsTold", "(IIJ)Z"⟩, 17) := ⟨⟨by decide +kernel, by decide +kernel⟩, List.mem_of_getElem? (i := 777) (by decide +kernel), List.mem_of_getElem? (i := 991) (by decide +kernel), List.mem_of_getElem? (i := 992) (by decide +kernel)⟩
theorem lw_p44 : lw_okq (⟨"BeaconDelay$Ways", "hasBit", "(II)Z"⟩, 17) := ⟨⟨by decide +kernel, by decide +kernel⟩, List.mem_of_getElem? (i := 777) (by decide +kernel), List.mem_of_getElem? (i := 1004) (by decide +kernel), List.mem_of_getElem? (i := 1005) (by decide +kernel)⟩
theorem lw_p45 : lw_okq (⟨"BeaconDelay$Ways", "firstDeedOn", "(II)I"⟩, 17) := ⟨⟨by decide +kernel, by decide +kernel⟩, List.mem_of_getElem? (i := 777) (by decide +kernel), List.mem_of_getElem? (i := 1008) (by decide +kernel), List.mem_of_getElem? (i := 1009) (by decide +kernel)⟩
theorem lw_p46 : lw_okq (⟨"BeaconDelay", "fittingWeathers", "(LBeaconDelay$Tray;I)I"⟩, 15) := ⟨⟨by decide +kernel, by decide +kernel⟩, List.mem_of_getElem? (i := 22) (by decide +kernel), List.mem_of_getElem? (i := 1028) (by decide +kernel), List.mem_of_getElem? (i := 1029) (by decide +kernel)⟩
theorem lw_p47 : lw_okq (⟨"BeaconDelay", "mostAlike", "(II)I"⟩, 15) := ⟨⟨by decide +kernel, by decide +kernel⟩, List.mem_of_getElem? (i := 22) (by decide +kernel), List.mem_of_getElem? (i := 1036) (by decide +kernel), List.mem_of_getElem? (i := 1037) (by decide +kernel)⟩
def lw_privs_3 : List (MethodName × Nat) := [(⟨"BeaconDelay", "waysFromNow", "(I)LBeaconDelay$Ways;"⟩, 15), (⟨"BeaconDelay$Ways", "meet", "(IIII)I"⟩, 17), (⟨"BeaconDelay$Ways", "open", "(I)V"⟩, 17), (⟨"BeaconDelay$Ways", "beginSpread", "()V"⟩, 17), (⟨"BeaconDelay$Ways", "spreadOneNight", "(II)V"⟩, 17), (⟨"BeaconDelay$Ways", "countComersAbove", "(I)I"⟩, 17), (⟨"BeaconDelay$Ways", "isAbove", "(II)Z"⟩, 17), (⟨"BeaconDelay", "litBy", "(I)I"⟩, 15), (⟨"BeaconDelay", "isSeen", "(III)Z"⟩, 15), (⟨"BeaconDelay", "woodWithout", "(I)I"⟩, 15), (⟨"BeaconDelay", "refusalOfTold", "(III)I"⟩, 15), (⟨"BeaconDelay$Ways", "isAsTold", "(IIJ)Z"⟩, 17), (⟨"BeaconDelay$Ways", "hasBit", "(II)Z"⟩, 17), (⟨"BeaconDelay$Ways", "firstDeedOn", "(II)I"⟩, 17), (⟨"BeaconDelay", "fittingWeathers", "(LBeaconDelay$Tray;I)I"⟩, 15), (⟨"BeaconDelay", "mostAlike", "(II)I"⟩, 15)]
theorem lw_r3 : ∀ q ∈ lw_privs_3, lw_okq q := List.forall_mem_cons.mpr ⟨lw_p32, List.forall_mem_cons.mpr ⟨lw_p33, List.forall_mem_cons.mpr ⟨lw_p34, List.forall_mem_cons.mpr ⟨lw_p35, List.forall_mem_cons.mpr ⟨lw_p36, List.forall_mem_cons.mpr ⟨lw_p37, List.forall_mem_cons.mpr ⟨lw_p38, List.forall_mem_cons.mpr ⟨lw_p39, List.forall_mem_cons.mpr ⟨lw_p40, List.forall_mem_cons.mpr ⟨lw_p41, List.forall_mem_cons.mpr ⟨lw_p42, List.forall_mem_cons.mpr ⟨lw_p43, List.forall_mem_cons.mpr ⟨lw_p44, List.forall_mem_cons.mpr ⟨lw_p45, List.forall_mem_cons.mpr ⟨lw_p46, List.forall_mem_cons.mpr ⟨lw_p47, fun _ h => absurd h List.not_mem_nil⟩⟩⟩⟩⟩⟩⟩⟩⟩⟩⟩⟩⟩⟩⟩⟩
theorem lw_p48 : lw_okq (⟨"BeaconDelay", "alikeWith", "(III)I"⟩, 15) := ⟨⟨by decide +kernel, by decide +kernel⟩, List.mem_of_getElem? (i := 22) (by decide +kernel), List.mem_of_getElem? (i := 1040) (by decide +kernel), List.mem_of_getElem? (i := 1041) (by decide +kernel)⟩
theorem lw_p49 : lw_okq (⟨"BeaconDelay", "forcingFrom", "(LBeaconDelay$Ways;)LBeaconDelay$Forcing;"⟩, 15) := ⟨⟨by decide +kernel, by decide +kernel⟩, List.mem_of_getElem? (i := 22) (by decide +kernel), List.mem_of_getElem? (i := 1051) (by decide +kernel), List.mem_of_getElem? (i := 1052) (by decide +kernel)⟩
theorem lw_p50 : lw_okq (⟨"BeaconDelay$Forcing", "sortComers", "(LBeaconDelay$Ways;)V"⟩, 7) := ⟨⟨by decide +kernel, by decide +kernel⟩, List.mem_of_getElem? (i := 1055) (by decide +kernel), List.mem_of_getElem? (i := 1088) (by decide +kernel), List.mem_of_getElem? (i := 1089) (by decide +kernel)⟩
theorem lw_p51 : lw_okq (⟨"BeaconDelay$Forcing", "beginAt", "(LBeaconDelay$Ways;II)V"⟩, 7) := ⟨⟨by decide +kernel, by decide +kernel⟩, List.mem_of_getElem? (i := 1055) (by decide +kernel), List.mem_of_getElem? (i := 1094) (by decide +kernel), List.mem_of_getElem? (i := 1095) (by decide +kernel)⟩
theorem lw_p52 : lw_okq (⟨"BeaconDelay$Forcing", "settle", "(II)V"⟩, 7) := ⟨⟨by decide +kernel, by decide +kernel⟩, List.mem_of_getElem? (i := 1055) (by decide +kernel), List.mem_of_getElem? (i := 1099) (by decide +kernel), List.mem_of_getElem? (i := 1100) (by decide +kernel)⟩
theorem lw_p53 : lw_okq (⟨"BeaconDelay$Forcing", "lookBackFrom", "(I)V"⟩, 7) := ⟨⟨by decide +kernel, by decide +kernel⟩, List.mem_of_getElem? (i := 1055) (by decide +kernel), List.mem_of_getElem? (i := 1103) (by decide +kernel), List.mem_of_getElem? (i := 1104) (by decide +kernel)⟩
theorem lw_p54 : lw_okq (⟨"BeaconDelayModel", "next", "()V"⟩, 40) := ⟨⟨by decide +kernel, by decide +kernel⟩, List.mem_of_getElem? (i := 1174) (by decide +kernel), List.mem_of_getElem? (i := 1318) (by decide +kernel), List.mem_of_getElem? (i := 1319) (by decide +kernel)⟩
theorem lw_p55 : lw_okq (⟨"BeaconDelayModel", "see", "(I)I"⟩, 40) := ⟨⟨by decide +kernel, by decide +kernel⟩, List.mem_of_getElem? (i := 1174) (by decide +kernel), List.mem_of_getElem? (i := 1322) (by decide +kernel), List.mem_of_getElem? (i := 1323) (by decide +kernel)⟩
theorem lw_p56 : lw_okq (⟨"BeaconDelayModel", "keyAt", "()I"⟩, 40) := ⟨⟨by decide +kernel, by decide +kernel⟩, List.mem_of_getElem? (i := 1174) (by decide +kernel), List.mem_of_getElem? (i := 1329) (by decide +kernel), List.mem_of_getElem? (i := 1330) (by decide +kernel)⟩
theorem lw_p57 : lw_okq (⟨"BeaconDelayModel", "eats", "(I)Z"⟩, 40) := ⟨⟨by decide +kernel, by decide +kernel⟩, List.mem_of_getElem? (i := 1174) (by decide +kernel), List.mem_of_getElem? (i := 1340) (by decide +kernel), List.mem_of_getElem? (i := 1341) (by decide +kernel)⟩
theorem lw_p58 : lw_okq (⟨"BeaconDelayModel", "is", "(I)Z"⟩, 40) := ⟨⟨by decide +kernel, by decide +kernel⟩, List.mem_of_getElem? (i := 1174) (by decide +kernel), List.mem_of_getElem? (i := 1344) (by decide +kernel), List.mem_of_getElem? (i := 1345) (by decide +kernel)⟩
theorem lw_p59 : lw_okq (⟨"BeaconDelayModel", "fails", "(I)V"⟩, 40) := ⟨⟨by decide +kernel, by decide +kernel⟩, List.mem_of_getElem? (i := 1174) (by decide +kernel), List.mem_of_getElem? (i := 1348) (by decide +kernel), List.mem_of_getElem? (i := 1349) (by decide +kernel)⟩
theorem lw_p60 : lw_okq (⟨"BeaconDelayModel", "named", "(III)I"⟩, 40) := ⟨⟨by decide +kernel, by decide +kernel⟩, List.mem_of_getElem? (i := 1174) (by decide +kernel), List.mem_of_getElem? (i := 1352) (by decide +kernel), List.mem_of_getElem? (i := 1353) (by decide +kernel)⟩
theorem lw_p61 : lw_okq (⟨"BeaconDelayModel", "takesOne", "(II)I"⟩, 40) := ⟨⟨by decide +kernel, by decide +kernel⟩, List.mem_of_getElem? (i := 1174) (by decide +kernel), List.mem_of_getElem? (i := 1356) (by decide +kernel), List.mem_of_getElem? (i := 1357) (by decide +kernel)⟩
theorem lw_p62 : lw_okq (⟨"BeaconDelayModel", "closes", "()V"⟩, 40) := ⟨⟨by decide +kernel, by decide +kernel⟩, List.mem_of_getElem? (i := 1174) (by decide +kernel), List.mem_of_getElem? (i := 1360) (by decide +kernel), List.mem_of_getElem? (i := 1361) (by decide +kernel)⟩
theorem lw_p63 : lw_okq (⟨"BeaconDelayModel", "readLine", "()V"⟩, 40) := ⟨⟨by decide +kernel, by decide +kernel⟩, List.mem_of_getElem? (i := 1174) (by decide +kernel), List.mem_of_getElem? (i := 1364) (by decide +kernel), List.mem_of_getElem? (i := 1365) (by decide +kernel)⟩
def lw_privs_4 : List (MethodName × Nat) := [(⟨"BeaconDelay", "alikeWith", "(III)I"⟩, 15), (⟨"BeaconDelay", "forcingFrom", "(LBeaconDelay$Ways;)LBeaconDelay$Forcing;"⟩, 15), (⟨"BeaconDelay$Forcing", "sortComers", "(LBeaconDelay$Ways;)V"⟩, 7), (⟨"BeaconDelay$Forcing", "beginAt", "(LBeaconDelay$Ways;II)V"⟩, 7), (⟨"BeaconDelay$Forcing", "settle", "(II)V"⟩, 7), (⟨"BeaconDelay$Forcing", "lookBackFrom", "(I)V"⟩, 7), (⟨"BeaconDelayModel", "next", "()V"⟩, 40), (⟨"BeaconDelayModel", "see", "(I)I"⟩, 40), (⟨"BeaconDelayModel", "keyAt", "()I"⟩, 40), (⟨"BeaconDelayModel", "eats", "(I)Z"⟩, 40), (⟨"BeaconDelayModel", "is", "(I)Z"⟩, 40), (⟨"BeaconDelayModel", "fails", "(I)V"⟩, 40), (⟨"BeaconDelayModel", "named", "(III)I"⟩, 40), (⟨"BeaconDelayModel", "takesOne", "(II)I"⟩, 40), (⟨"BeaconDelayModel", "closes", "()V"⟩, 40), (⟨"BeaconDelayModel", "readLine", "()V"⟩, 40)]
theorem lw_r4 : ∀ q ∈ lw_privs_4, lw_okq q := List.forall_mem_cons.mpr ⟨lw_p48, List.forall_mem_cons.mpr ⟨lw_p49, List.forall_mem_cons.mpr ⟨lw_p50, List.forall_mem_cons.mpr ⟨lw_p51, List.forall_mem_cons.mpr ⟨lw_p52, List.forall_mem_cons.mpr ⟨lw_p53, List.forall_mem_cons.mpr ⟨lw_p54, List.forall_mem_cons.mpr ⟨lw_p55, List.forall_mem_cons.mpr ⟨lw_p56, List.forall_mem_cons.mpr ⟨lw_p57, List.forall_mem_cons.mpr ⟨lw_p58, List.forall_mem_cons.mpr ⟨lw_p59, List.forall_mem_cons.mpr ⟨lw_p60, List.forall_mem_cons.mpr ⟨lw_p61, List.forall_mem_cons.mpr ⟨lw_p62, List.forall_mem_cons.mpr ⟨lw_p63, fun _ h => absurd h List.not_mem_nil⟩⟩⟩⟩⟩⟩⟩⟩⟩⟩⟩⟩⟩⟩⟩⟩
theorem lw_p64 : lw_okq (⟨"BeaconDelayModel", "readHill", "()V"⟩, 40) := ⟨⟨by decide +kernel, by decide +kernel⟩, List.mem_of_getElem? (i := 1174) (by decide +kernel), List.mem_of_getElem? (i := 1368) (by decide +kernel), List.mem_of_getElem? (i := 1369) (by decide +kernel)⟩
theorem lw_p65 : lw_okq (⟨"BeaconDelayModel", "readFlag", "(I)Z"⟩, 40) := ⟨⟨by decide +kernel, by decide +kernel⟩, List.mem_of_getElem? (i := 1174) (by decide +kernel), List.mem_of_getElem? (i := 1372) (by decide +kernel), List.mem_of_getElem? (i := 1373) (by decide +kernel)⟩
theorem lw_p66 : lw_okq (⟨"BeaconDelayModel", "readVillage", "()V"⟩, 40) := ⟨⟨by decide +kernel, by decide +kernel⟩, List.mem_of_getElem? (i := 1174) (by decide +kernel), List.mem_of_getElem? (i := 1376) (by decide +kernel), List.mem_of_getElem? (i := 1377) (by decide +kernel)⟩
theorem lw_p67 : lw_okq (⟨"BeaconDelayModel", "readRoad", "()V"⟩, 40) := ⟨⟨by decide +kernel, by decide +kernel⟩, List.mem_of_getElem? (i := 1174) (by decide +kernel), List.mem_of_getElem? (i := 1380) (by decide +kernel), List.mem_of_getElem? (i := 1381) (by decide +kernel)⟩
theorem lw_p68 : lw_okq (⟨"BeaconDelayModel", "readLaw", "(I)V"⟩, 40) := ⟨⟨by decide +kernel, by decide +kernel⟩, List.mem_of_getElem? (i := 1174) (by decide +kernel), List.mem_of_getElem? (i := 1384) (by decide +kernel), List.mem_of_getElem? (i := 1385) (by decide +kernel)⟩
theorem lw_p69 : lw_okq (⟨"BeaconDelayModel", "readSum", "(I)V"⟩, 40) := ⟨⟨by decide +kernel, by decide +kernel⟩, List.mem_of_getElem? (i := 1174) (by decide +kernel), List.mem_of_getElem? (i := 1388) (by decide +kernel), List.mem_of_getElem? (i := 1389) (by decide +kernel)⟩
theorem lw_p70 : lw_okq (⟨"BeaconDelayModel", "readTerm", "(I)V"⟩, 40) := ⟨⟨by decide +kernel, by decide +kernel⟩, List.mem_of_getElem? (i := 1174) (by decide +kernel), List.mem_of_getElem? (i := 1392) (by decide +kernel), List.mem_of_getElem? (i := 1393) (by decide +kernel)⟩
theorem lw_p71 : lw_okq (⟨"BeaconDelayModel", "readAtom", "(I)V"⟩, 40) := ⟨⟨by decide +kernel, by decide +kernel⟩, List.mem_of_getElem? (i := 1174) (by decide +kernel), List.mem_of_getElem? (i := 1396) (by decide +kernel), List.mem_of_getElem? (i := 1397) (by decide +kernel)⟩
theorem lw_p72 : lw_okq (⟨"BeaconDelayModel", "codes", "(I)V"⟩, 40) := ⟨⟨by decide +kernel, by decide +kernel⟩, List.mem_of_getElem? (i := 1174) (by decide +kernel), List.mem_of_getElem? (i := 1400) (by decide +kernel), List.mem_of_getElem? (i := 1401) (by decide +kernel)⟩
theorem lw_p73 : lw_okq (⟨"BeaconDelayModel", "wordOf", "(I)I"⟩, 40) := ⟨⟨by decide +kernel, by decide +kernel⟩, List.mem_of_getElem? (i := 1174) (by decide +kernel), List.mem_of_getElem? (i := 1404) (by decide +kernel), List.mem_of_getElem? (i := 1405) (by decide +kernel)⟩
theorem lw_p74 : lw_okq (⟨"BeaconDelayModel", "goesIn", "(I)Z"⟩, 40) := ⟨⟨by decide +kernel, by decide +kernel⟩, List.mem_of_getElem? (i := 1174) (by decide +kernel), List.mem_of_getElem? (i := 1408) (by decide +kernel), List.mem_of_getElem? (i := 1409) (by decide +kernel)⟩
theorem lw_p75 : lw_okq (⟨"BeaconDelayModel", "readIf", "(I)V"⟩, 40) := ⟨⟨by decide +kernel, by decide +kernel⟩, List.mem_of_getElem? (i := 1174) (by decide +kernel), List.mem_of_getElem? (i := 1412) (by decide +kernel), List.mem_of_getElem? (i := 1413) (by decide +kernel)⟩
theorem lw_p76 : lw_okq (⟨"BeaconDelayModel", "readTruth", "(I)V"⟩, 40) := ⟨⟨by decide +kernel, by decide +kernel⟩, List.mem_of_getElem? (i := 1174) (by decide +kernel), List.mem_of_getElem? (i := 1416) (by decide +kernel), List.mem_of_getElem? (i := 1417) (by decide +kernel)⟩
theorem lw_p77 : lw_okq (⟨"BeaconDelayModel", "readBoth", "(I)V"⟩, 40) := ⟨⟨by decide +kernel, by decide +kernel⟩, List.mem_of_getElem? (i := 1174) (by decide +kernel), List.mem_of_getElem? (i := 1420) (by decide +kernel), List.mem_of_getElem? (i := 1421) (by decide +kernel)⟩
theorem lw_p78 : lw_okq (⟨"BeaconDelayModel", "readUnit", "(I)V"⟩, 40) := ⟨⟨by decide +kernel, by decide +kernel⟩, List.mem_of_getElem? (i := 1174) (by decide +kernel), List.mem_of_getElem? (i := 1424) (by decide +kernel), List.mem_of_getElem? (i := 1425) (by decide +kernel)⟩
theorem lw_p79 : lw_okq (⟨"BeaconDelayModel", "isHill", "(J)Z"⟩, 40) := ⟨⟨by decide +kernel, by decide +kernel⟩, List.mem_of_getElem? (i := 1174) (by decide +kernel), List.mem_of_getElem? (i := 1436) (by decide +kernel), List.mem_of_getElem? (i := 1437) (by decide +kernel)⟩
def lw_privs_5 : List (MethodName × Nat) := [(⟨"BeaconDelayModel", "readHill", "()V"⟩, 40), (⟨"BeaconDelayModel", "readFlag", "(I)Z"⟩, 40), (⟨"BeaconDelayModel", "readVillage", "()V"⟩, 40), (⟨"BeaconDelayModel", "readRoad", "()V"⟩, 40), (⟨"BeaconDelayModel", "readLaw", "(I)V"⟩, 40), (⟨"BeaconDelayModel", "readSum", "(I)V"⟩, 40), (⟨"BeaconDelayModel", "readTerm", "(I)V"⟩, 40), (⟨"BeaconDelayModel", "readAtom", "(I)V"⟩, 40), (⟨"BeaconDelayModel", "codes", "(I)V"⟩, 40), (⟨"BeaconDelayModel", "wordOf", "(I)I"⟩, 40), (⟨"BeaconDelayModel", "goesIn", "(I)Z"⟩, 40), (⟨"BeaconDelayModel", "readIf", "(I)V"⟩, 40), (⟨"BeaconDelayModel", "readTruth", "(I)V"⟩, 40), (⟨"BeaconDelayModel", "readBoth", "(I)V"⟩, 40), (⟨"BeaconDelayModel", "readUnit", "(I)V"⟩, 40), (⟨"BeaconDelayModel", "isHill", "(J)Z"⟩, 40)]
theorem lw_r5 : ∀ q ∈ lw_privs_5, lw_okq q := List.forall_mem_cons.mpr ⟨lw_p64, List.forall_mem_cons.mpr ⟨lw_p65, List.forall_mem_cons.mpr ⟨lw_p66, List.forall_mem_cons.mpr ⟨lw_p67, List.forall_mem_cons.mpr ⟨lw_p68, List.forall_mem_cons.mpr ⟨lw_p69, List.forall_mem_cons.mpr ⟨lw_p70, List.forall_mem_cons.mpr ⟨lw_p71, List.forall_mem_cons.mpr ⟨lw_p72, List.forall_mem_cons.mpr ⟨lw_p73, List.forall_mem_cons.mpr ⟨lw_p74, List.forall_mem_cons.mpr ⟨lw_p75, List.forall_mem_cons.mpr ⟨lw_p76, List.forall_mem_cons.mpr ⟨lw_p77, List.forall_mem_cons.mpr ⟨lw_p78, List.forall_mem_cons.mpr ⟨lw_p79, fun _ h => absurd h List.not_mem_nil⟩⟩⟩⟩⟩⟩⟩⟩⟩⟩⟩⟩⟩⟩⟩⟩
theorem lw_p80 : lw_okq (⟨"BeaconDelayModel", "isNight", "(J)Z"⟩, 40) := ⟨⟨by decide +kernel, by decide +kernel⟩, List.mem_of_getElem? (i := 1174) (by decide +kernel), List.mem_of_getElem? (i := 1448) (by decide +kernel), List.mem_of_getElem? (i := 1449) (by decide +kernel)⟩
theorem lw_p81 : lw_okq (⟨"BeaconDelayModel", "standNow", "()I"⟩, 40) := ⟨⟨by decide +kernel, by decide +kernel⟩, List.mem_of_getElem? (i := 1174) (by decide +kernel), List.mem_of_getElem? (i := 1452) (by decide +kernel), List.mem_of_getElem? (i := 1453) (by decide +kernel)⟩
theorem lw_p82 : lw_okq (⟨"BeaconDelayModel", "nightTo", "(III)I"⟩, 40) := ⟨⟨by decide +kernel, by decide +kernel⟩, List.mem_of_getElem? (i := 1174) (by decide +kernel), List.mem_of_getElem? (i := 1459) (by decide +kernel), List.mem_of_getElem? (i := 1460) (by decide +kernel)⟩
theorem lw_p83 : lw_okq (⟨"BeaconDelayModel", "laysWords", "(IIII)V"⟩, 40) := ⟨⟨by decide +kernel, by decide +kernel⟩, List.mem_of_getElem? (i := 1174) (by decide +kernel), List.mem_of_getElem? (i := 1463) (by decide +kernel), List.mem_of_getElem? (i := 1464) (by decide +kernel)⟩
theorem lw_p84 : lw_okq (⟨"BeaconDelayModel", "takesNow", "()Z"⟩, 40) := ⟨⟨by decide +kernel, by decide +kernel⟩, List.mem_of_getElem? (i := 1174) (by decide +kernel), List.mem_of_getElem? (i := 1476) (by decide +kernel), List.mem_of_getElem? (i := 1477) (by decide +kernel)⟩
theorem lw_p85 : lw_okq (⟨"BeaconDelayModel", "reckons", "(I)I"⟩, 40) := ⟨⟨by decide +kernel, by decide +kernel⟩, List.mem_of_getElem? (i := 1174) (by decide +kernel), List.mem_of_getElem? (i := 1480) (by decide +kernel), List.mem_of_getElem? (i := 1481) (by decide +kernel)⟩
theorem lw_p86 : lw_okq (⟨"BeaconDelayModel", "addedNow", "()I"⟩, 40) := ⟨⟨by decide +kernel, by decide +kernel⟩, List.mem_of_getElem? (i := 1174) (by decide +kernel), List.mem_of_getElem? (i := 1489) (by decide +kernel), List.mem_of_getElem? (i := 1490) (by decide +kernel)⟩
theorem lw_p87 : lw_okq (⟨"BeaconDelayModel", "stores", "()V"⟩, 40) := ⟨⟨by decide +kernel, by decide +kernel⟩, List.mem_of_getElem? (i := 1174) (by decide +kernel), List.mem_of_getElem? (i := 1501) (by decide +kernel), List.mem_of_getElem? (i := 1502) (by decide +kernel)⟩
theorem lw_p88 : lw_okq (⟨"BeaconDelayModel", "goesNight", "(I)V"⟩, 40) := ⟨⟨by decide +kernel, by decide +kernel⟩, List.mem_of_getElem? (i := 1174) (by decide +kernel), List.mem_of_getElem? (i := 1505) (by decide +kernel), List.mem_of_getElem? (i := 1506) (by decide +kernel)⟩
theorem lw_p89 : lw_okq (⟨"BeaconDelayModel", "isStand", "(I)V"⟩, 40) := ⟨⟨by decide +kernel, by decide +kernel⟩, List.mem_of_getElem? (i := 1174) (by decide +kernel), List.mem_of_getElem? (i := 1509) (by decide +kernel), List.mem_of_getElem? (i := 1510) (by decide +kernel)⟩
theorem lw_p90 : lw_okq (⟨"BeaconDelayModel", "notes", "()V"⟩, 40) := ⟨⟨by decide +kernel, by decide +kernel⟩, List.mem_of_getElem? (i := 1174) (by decide +kernel), List.mem_of_getElem? (i := 1513) (by decide +kernel), List.mem_of_getElem? (i := 1514) (by decide +kernel)⟩
theorem lw_p91 : lw_okq (⟨"BeaconDelayModel", "whySteal", "(J)I"⟩, 40) := ⟨⟨by decide +kernel, by decide +kernel⟩, List.mem_of_getElem? (i := 1174) (by decide +kernel), List.mem_of_getElem? (i := 1526) (by decide +kernel), List.mem_of_getElem? (i := 1527) (by decide +kernel)⟩
theorem lw_p92 : lw_okq (⟨"BeaconDelayModel", "steals", "(I)V"⟩, 40) := ⟨⟨by decide +kernel, by decide +kernel⟩, List.mem_of_getElem? (i := 1174) (by decide +kernel), List.mem_of_getElem? (i := 1530) (by decide +kernel), List.mem_of_getElem? (i := 1531) (by decide +kernel)⟩
theorem lw_p93 : lw_okq (⟨"BeaconDelayModel", "noTray", "(I)I"⟩, 40) := ⟨⟨by decide +kernel, by decide +kernel⟩, List.mem_of_getElem? (i := 1174) (by decide +kernel), List.mem_of_getElem? (i := 1549) (by decide +kernel), List.mem_of_getElem? (i := 1550) (by decide +kernel)⟩
theorem lw_p94 : lw_okq (⟨"BeaconDelayModel", "tells", "(I)I"⟩, 40) := ⟨⟨by decide +kernel, by decide +kernel⟩, List.mem_of_getElem? (i := 1174) (by decide +kernel), List.mem_of_getElem? (i := 1553) (by decide +kernel), List.mem_of_getElem? (i := 1554) (by decide +kernel)⟩
theorem lw_p95 : lw_okq (⟨"BeaconDelayModel", "whyNot", "(J)I"⟩, 40) := ⟨⟨by decide +kernel, by decide +kernel⟩, List.mem_of_getElem? (i := 1174) (by decide +kernel), List.mem_of_getElem? (i := 1557) (by decide +kernel), List.mem_of_getElem? (i := 1558) (by decide +kernel)⟩
def lw_privs_6 : List (MethodName × Nat) := [(⟨"BeaconDelayModel", "isNight", "(J)Z"⟩, 40), (⟨"BeaconDelayModel", "standNow", "()I"⟩, 40), (⟨"BeaconDelayModel", "nightTo", "(III)I"⟩, 40), (⟨"BeaconDelayModel", "laysWords", "(IIII)V"⟩, 40), (⟨"BeaconDelayModel", "takesNow", "()Z"⟩, 40), (⟨"BeaconDelayModel", "reckons", "(I)I"⟩, 40), (⟨"BeaconDelayModel", "addedNow", "()I"⟩, 40), (⟨"BeaconDelayModel", "stores", "()V"⟩, 40), (⟨"BeaconDelayModel", "goesNight", "(I)V"⟩, 40), (⟨"BeaconDelayModel", "isStand", "(I)V"⟩, 40), (⟨"BeaconDelayModel", "notes", "()V"⟩, 40), (⟨"BeaconDelayModel", "whySteal", "(J)I"⟩, 40), (⟨"BeaconDelayModel", "steals", "(I)V"⟩, 40), (⟨"BeaconDelayModel", "noTray", "(I)I"⟩, 40), (⟨"BeaconDelayModel", "tells", "(I)I"⟩, 40), (⟨"BeaconDelayModel", "whyNot", "(J)I"⟩, 40)]
theorem lw_r6 : ∀ q ∈ lw_privs_6, lw_okq q := List.forall_mem_cons.mpr ⟨lw_p80, List.forall_mem_cons.mpr ⟨lw_p81, List.forall_mem_cons.mpr ⟨lw_p82, List.forall_mem_cons.mpr ⟨lw_p83, List.forall_mem_cons.mpr ⟨lw_p84, List.forall_mem_cons.mpr ⟨lw_p85, List.forall_mem_cons.mpr ⟨lw_p86, List.forall_mem_cons.mpr ⟨lw_p87, List.forall_mem_cons.mpr ⟨lw_p88, List.forall_mem_cons.mpr ⟨lw_p89, List.forall_mem_cons.mpr ⟨lw_p90, List.forall_mem_cons.mpr ⟨lw_p91, List.forall_mem_cons.mpr ⟨lw_p92, List.forall_mem_cons.mpr ⟨lw_p93, List.forall_mem_cons.mpr ⟨lw_p94, List.forall_mem_cons.mpr ⟨lw_p95, fun _ h => absurd h List.not_mem_nil⟩⟩⟩⟩⟩⟩⟩⟩⟩⟩⟩⟩⟩⟩⟩⟩
theorem lw_p96 : lw_okq (⟨"BeaconDelayModel", "does", "(I)V"⟩, 40) := ⟨⟨by decide +kernel, by decide +kernel⟩, List.mem_of_getElem? (i := 1174) (by decide +kernel), List.mem_of_getElem? (i := 1564) (by decide +kernel), List.mem_of_getElem? (i := 1565) (by decide +kernel)⟩
theorem lw_p97 : lw_okq (⟨"BeaconDelayModel", "isAgain", "()V"⟩, 40) := ⟨⟨by decide +kernel, by decide +kernel⟩, List.mem_of_getElem? (i := 1174) (by decide +kernel), List.mem_of_getElem? (i := 1568) (by decide +kernel), List.mem_of_getElem? (i := 1569) (by decide +kernel)⟩
theorem lw_p98 : lw_okq (⟨"BeaconDelayModel", "sumIn", "(I)I"⟩, 40) := ⟨⟨by decide +kernel, by decide +kernel⟩, List.mem_of_getElem? (i := 1174) (by decide +kernel), List.mem_of_getElem? (i := 1572) (by decide +kernel), List.mem_of_getElem? (i := 1573) (by decide +kernel)⟩
theorem lw_p99 : lw_okq (⟨"BeaconDelayModel", "drawn", "()I"⟩, 40) := ⟨⟨by decide +kernel, by decide +kernel⟩, List.mem_of_getElem? (i := 1174) (by decide +kernel), List.mem_of_getElem? (i := 1585) (by decide +kernel), List.mem_of_getElem? (i := 1586) (by decide +kernel)⟩
theorem lw_p100 : lw_okq (⟨"BeaconDelayModel", "draw", "(I)I"⟩, 40) := ⟨⟨by decide +kernel, by decide +kernel⟩, List.mem_of_getElem? (i := 1174) (by decide +kernel), List.mem_of_getElem? (i := 1589) (by decide +kernel), List.mem_of_getElem? (i := 1590) (by decide +kernel)⟩
theorem lw_p101 : lw_okq (⟨"BeaconDelayModel", "laysLine", "()V"⟩, 40) := ⟨⟨by decide +kernel, by decide +kernel⟩, List.mem_of_getElem? (i := 1174) (by decide +kernel), List.mem_of_getElem? (i := 1599) (by decide +kernel), List.mem_of_getElem? (i := 1600) (by decide +kernel)⟩
theorem lw_p102 : lw_okq (⟨"BeaconDelayModel", "standAt", "(I)I"⟩, 40) := ⟨⟨by decide +kernel, by decide +kernel⟩, List.mem_of_getElem? (i := 1174) (by decide +kernel), List.mem_of_getElem? (i := 1603) (by decide +kernel), List.mem_of_getElem? (i := 1604) (by decide +kernel)⟩
theorem lw_p103 : lw_okq (⟨"BeaconDelayModel", "noHigh", "(II)I"⟩, 40) := ⟨⟨by decide +kernel, by decide +kernel⟩, List.mem_of_getElem? (i := 1174) (by decide +kernel), List.mem_of_getElem? (i := 1623) (by decide +kernel), List.mem_of_getElem? (i := 1624) (by decide +kernel)⟩
theorem lw_p104 : lw_okq (⟨"BeaconDelayModel", "laysFar", "(II)I"⟩, 40) := ⟨⟨by decide +kernel, by decide +kernel⟩, List.mem_of_getElem? (i := 1174) (by decide +kernel), List.mem_of_getElem? (i := 1631) (by decide +kernel), List.mem_of_getElem? (i := 1632) (by decide +kernel)⟩
theorem lw_p105 : lw_okq (⟨"BeaconDelayModel", "laysStands", "()V"⟩, 40) := ⟨⟨by decide +kernel, by decide +kernel⟩, List.mem_of_getElem? (i := 1174) (by decide +kernel), List.mem_of_getElem? (i := 1635) (by decide +kernel), List.mem_of_getElem? (i := 1636) (by decide +kernel)⟩
theorem lw_p106 : lw_okq (⟨"BeaconDelayModel", "adds", "(I)V"⟩, 40) := ⟨⟨by decide +kernel, by decide +kernel⟩, List.mem_of_getElem? (i := 1174) (by decide +kernel), List.mem_of_getElem? (i := 1639) (by decide +kernel), List.mem_of_getElem? (i := 1640) (by decide +kernel)⟩
theorem lw_p107 : lw_okq (⟨"BeaconDelayModel", "farBy", "(II)I"⟩, 40) := ⟨⟨by decide +kernel, by decide +kernel⟩, List.mem_of_getElem? (i := 1174) (by decide +kernel), List.mem_of_getElem? (i := 1644) (by decide +kernel), List.mem_of_getElem? (i := 1645) (by decide +kernel)⟩
theorem lw_p108 : lw_okq (⟨"BeaconDelayModel", "beginsMany", "()V"⟩, 40) := ⟨⟨by decide +kernel, by decide +kernel⟩, List.mem_of_getElem? (i := 1174) (by decide +kernel), List.mem_of_getElem? (i := 1661) (by decide +kernel), List.mem_of_getElem? (i := 1662) (by decide +kernel)⟩
theorem lw_p109 : lw_okq (⟨"BeaconDelayModel", "goesMany", "(JJ)V"⟩, 40) := ⟨⟨by decide +kernel, by decide +kernel⟩, List.mem_of_getElem? (i := 1174) (by decide +kernel), List.mem_of_getElem? (i := 1665) (by decide +kernel), List.mem_of_getElem? (i := 1666) (by decide +kernel)⟩
theorem lw_p110 : lw_okq (⟨"BeaconDelayModel", "isThen", "()V"⟩, 40) := ⟨⟨by decide +kernel, by decide +kernel⟩, List.mem_of_getElem? (i := 1174) (by decide +kernel), List.mem_of_getElem? (i := 1669) (by decide +kernel), List.mem_of_getElem? (i := 1670) (by decide +kernel)⟩
theorem lw_p111 : lw_okq (⟨"BeaconDelayModel", "keptBy", "(III)I"⟩, 40) := ⟨⟨by decide +kernel, by decide +kernel⟩, List.mem_of_getElem? (i := 1174) (by decide +kernel), List.mem_of_getElem? (i := 1677) (by decide +kernel), List.mem_of_getElem? (i := 1678) (by decide +kernel)⟩
def lw_privs_7 : List (MethodName × Nat) := [(⟨"BeaconDelayModel", "does", "(I)V"⟩, 40), (⟨"BeaconDelayModel", "isAgain", "()V"⟩, 40), (⟨"BeaconDelayModel", "sumIn", "(I)I"⟩, 40), (⟨"BeaconDelayModel", "drawn", "()I"⟩, 40), (⟨"BeaconDelayModel", "draw", "(I)I"⟩, 40), (⟨"BeaconDelayModel", "laysLine", "()V"⟩, 40), (⟨"BeaconDelayModel", "standAt", "(I)I"⟩, 40), (⟨"BeaconDelayModel", "noHigh", "(II)I"⟩, 40), (⟨"BeaconDelayModel", "laysFar", "(II)I"⟩, 40), (⟨"BeaconDelayModel", "laysStands", "()V"⟩, 40), (⟨"BeaconDelayModel", "adds", "(I)V"⟩, 40), (⟨"BeaconDelayModel", "farBy", "(II)I"⟩, 40), (⟨"BeaconDelayModel", "beginsMany", "()V"⟩, 40), (⟨"BeaconDelayModel", "goesMany", "(JJ)V"⟩, 40), (⟨"BeaconDelayModel", "isThen", "()V"⟩, 40), (⟨"BeaconDelayModel", "keptBy", "(III)I"⟩, 40)]
theorem lw_r7 : ∀ q ∈ lw_privs_7, lw_okq q := List.forall_mem_cons.mpr ⟨lw_p96, List.forall_mem_cons.mpr ⟨lw_p97, List.forall_mem_cons.mpr ⟨lw_p98, List.forall_mem_cons.mpr ⟨lw_p99, List.forall_mem_cons.mpr ⟨lw_p100, List.forall_mem_cons.mpr ⟨lw_p101, List.forall_mem_cons.mpr ⟨lw_p102, List.forall_mem_cons.mpr ⟨lw_p103, List.forall_mem_cons.mpr ⟨lw_p104, List.forall_mem_cons.mpr ⟨lw_p105, List.forall_mem_cons.mpr ⟨lw_p106, List.forall_mem_cons.mpr ⟨lw_p107, List.forall_mem_cons.mpr ⟨lw_p108, List.forall_mem_cons.mpr ⟨lw_p109, List.forall_mem_cons.mpr ⟨lw_p110, List.forall_mem_cons.mpr ⟨lw_p111, fun _ h => absurd h List.not_mem_nil⟩⟩⟩⟩⟩⟩⟩⟩⟩⟩⟩⟩⟩⟩⟩⟩
theorem lw_p112 : lw_okq (⟨"BeaconDelayModel", "leastIn", "(I)I"⟩, 40) := ⟨⟨by decide +kernel, by decide +kernel⟩, List.mem_of_getElem? (i := 1174) (by decide +kernel), List.mem_of_getElem? (i := 1681) (by decide +kernel), List.mem_of_getElem? (i := 1682) (by decide +kernel)⟩
theorem lw_p113 : lw_okq (⟨"BeaconDelayModel", "litBy", "(I)I"⟩, 40) := ⟨⟨by decide +kernel, by decide +kernel⟩, List.mem_of_getElem? (i := 1174) (by decide +kernel), List.mem_of_getElem? (i := 1697) (by decide +kernel), List.mem_of_getElem? (i := 1698) (by decide +kernel)⟩
theorem lw_p114 : lw_okq (⟨"BeaconDelayModel", "woodBut", "(I)I"⟩, 40) := ⟨⟨by decide +kernel, by decide +kernel⟩, List.mem_of_getElem? (i := 1174) (by decide +kernel), List.mem_of_getElem? (i := 1712) (by decide +kernel), List.mem_of_getElem? (i := 1713) (by decide +kernel)⟩
theorem lw_p115 : lw_okq (⟨"BeaconDelayModel", "laysRoom", "(I)V"⟩, 40) := ⟨⟨by decide +kernel, by decide +kernel⟩, List.mem_of_getElem? (i := 1174) (by decide +kernel), List.mem_of_getElem? (i := 1716) (by decide +kernel), List.mem_of_getElem? (i := 1717) (by decide +kernel)⟩
theorem lw_p116 : lw_okq (⟨"BeaconDelayModel", "isCome", "()Z"⟩, 40) := ⟨⟨by decide +kernel, by decide +kernel⟩, List.mem_of_getElem? (i := 1174) (by decide +kernel), List.mem_of_getElem? (i := 1720) (by decide +kernel), List.mem_of_getElem? (i := 1721) (by decide +kernel)⟩
theorem lw_p117 : lw_okq (⟨"BeaconDelayModel", "noTold", "(III)I"⟩, 40) := ⟨⟨by decide +kernel, by decide +kernel⟩, List.mem_of_getElem? (i := 1174) (by decide +kernel), List.mem_of_getElem? (i := 1732) (by decide +kernel), List.mem_of_getElem? (i := 1733) (by decide +kernel)⟩
theorem lw_p118 : lw_okq (⟨"BeaconDelayModel", "laysHigh", "(II)J"⟩, 40) := ⟨⟨by decide +kernel, by decide +kernel⟩, List.mem_of_getElem? (i := 1174) (by decide +kernel), List.mem_of_getElem? (i := 1737) (by decide +kernel), List.mem_of_getElem? (i := 1738) (by decide +kernel)⟩
theorem lw_p119 : lw_okq (⟨"BeaconDelayModel", "isSo", "(IIII)Z"⟩, 40) := ⟨⟨by decide +kernel, by decide +kernel⟩, List.mem_of_getElem? (i := 1174) (by decide +kernel), List.mem_of_getElem? (i := 1741) (by decide +kernel), List.mem_of_getElem? (i := 1742) (by decide +kernel)⟩
theorem lw_p120 : lw_okq (⟨"BeaconDelayModel", "weathersOf", "(II)I"⟩, 40) := ⟨⟨by decide +kernel, by decide +kernel⟩, List.mem_of_getElem? (i := 1174) (by decide +kernel), List.mem_of_getElem? (i := 1758) (by decide +kernel), List.mem_of_getElem? (i := 1759) (by decide +kernel)⟩
theorem lw_p121 : lw_okq (⟨"BeaconDelayModel", "mostAlike", "(II)I"⟩, 40) := ⟨⟨by decide +kernel, by decide +kernel⟩, List.mem_of_getElem? (i := 1174) (by decide +kernel), List.mem_of_getElem? (i := 1766) (by decide +kernel), List.mem_of_getElem? (i := 1767) (by decide +kernel)⟩
theorem lw_p122 : lw_okq (⟨"BeaconDelayModel", "laysForce", "(II)I"⟩, 40) := ⟨⟨by decide +kernel, by decide +kernel⟩, List.mem_of_getElem? (i := 1174) (by decide +kernel), List.mem_of_getElem? (i := 1774) (by decide +kernel), List.mem_of_getElem? (i := 1775) (by decide +kernel)⟩
theorem lw_p123 : lw_okq (⟨"BeaconDelayModel", "firstBy", "(II)I"⟩, 40) := ⟨⟨by decide +kernel, by decide +kernel⟩, List.mem_of_getElem? (i := 1174) (by decide +kernel), List.mem_of_getElem? (i := 1778) (by decide +kernel), List.mem_of_getElem? (i := 1779) (by decide +kernel)⟩
theorem lw_p124 : lw_okq (⟨"BeaconDelayModel", "otherAt", "(I)I"⟩, 40) := ⟨⟨by decide +kernel, by decide +kernel⟩, List.mem_of_getElem? (i := 1174) (by decide +kernel), List.mem_of_getElem? (i := 1782) (by decide +kernel), List.mem_of_getElem? (i := 1783) (by decide +kernel)⟩
theorem lw_p125 : lw_okq (⟨"BeaconDelayModel", "laysLikely", "(I)V"⟩, 40) := ⟨⟨by decide +kernel, by decide +kernel⟩, List.mem_of_getElem? (i := 1174) (by decide +kernel), List.mem_of_getElem? (i := 1795) (by decide +kernel), List.mem_of_getElem? (i := 1796) (by decide +kernel)⟩
def lw_privs_8 : List (MethodName × Nat) := [(⟨"BeaconDelayModel", "leastIn", "(I)I"⟩, 40), (⟨"BeaconDelayModel", "litBy", "(I)I"⟩, 40), (⟨"BeaconDelayModel", "woodBut", "(I)I"⟩, 40), (⟨"BeaconDelayModel", "laysRoom", "(I)V"⟩, 40), (⟨"BeaconDelayModel", "isCome", "()Z"⟩, 40), (⟨"BeaconDelayModel", "noTold", "(III)I"⟩, 40), (⟨"BeaconDelayModel", "laysHigh", "(II)J"⟩, 40), (⟨"BeaconDelayModel", "isSo", "(IIII)Z"⟩, 40), (⟨"BeaconDelayModel", "weathersOf", "(II)I"⟩, 40), (⟨"BeaconDelayModel", "mostAlike", "(II)I"⟩, 40), (⟨"BeaconDelayModel", "laysForce", "(II)I"⟩, 40), (⟨"BeaconDelayModel", "firstBy", "(II)I"⟩, 40), (⟨"BeaconDelayModel", "otherAt", "(I)I"⟩, 40), (⟨"BeaconDelayModel", "laysLikely", "(I)V"⟩, 40)]
theorem lw_r8 : ∀ q ∈ lw_privs_8, lw_okq q := List.forall_mem_cons.mpr ⟨lw_p112, List.forall_mem_cons.mpr ⟨lw_p113, List.forall_mem_cons.mpr ⟨lw_p114, List.forall_mem_cons.mpr ⟨lw_p115, List.forall_mem_cons.mpr ⟨lw_p116, List.forall_mem_cons.mpr ⟨lw_p117, List.forall_mem_cons.mpr ⟨lw_p118, List.forall_mem_cons.mpr ⟨lw_p119, List.forall_mem_cons.mpr ⟨lw_p120, List.forall_mem_cons.mpr ⟨lw_p121, List.forall_mem_cons.mpr ⟨lw_p122, List.forall_mem_cons.mpr ⟨lw_p123, List.forall_mem_cons.mpr ⟨lw_p124, List.forall_mem_cons.mpr ⟨lw_p125, fun _ h => absurd h List.not_mem_nil⟩⟩⟩⟩⟩⟩⟩⟩⟩⟩⟩⟩⟩⟩
def lw_privs : List (MethodName × Nat) := lw_privs_1 ++ (lw_privs_2 ++ (lw_privs_3 ++ (lw_privs_4 ++ (lw_privs_5 ++ (lw_privs_6 ++ (lw_privs_7 ++ (lw_privs_8)))))))
def lw_tbl : List Cond := k2_sels lw_privs ++ tables_1
theorem lw_privs_ok : ∀ q ∈ lw_privs, lw_okq q := by
  show ∀ q ∈ lw_privs_1 ++ (lw_privs_2 ++ (lw_privs_3 ++ (lw_privs_4 ++ (lw_privs_5 ++ (lw_privs_6 ++ (lw_privs_7 ++ (lw_privs_8))))))), lw_okq q
  exact List.forall_mem_append.mpr ⟨lw_r1, List.forall_mem_append.mpr ⟨lw_r2, List.forall_mem_append.mpr ⟨lw_r3, List.forall_mem_append.mpr ⟨lw_r4, List.forall_mem_append.mpr ⟨lw_r5, List.forall_mem_append.mpr ⟨lw_r6, List.forall_mem_append.mpr ⟨lw_r7, lw_r8⟩⟩⟩⟩⟩⟩⟩
def RX0 : String := "BeaconDelay$Calm"
def TX0 : u_T := fun k => match k with
  | 0 => ("BeaconDelay$Calm", "tail", "I", false)
  | _ => ("BeaconDelay$Calm", "period", "I", false)
def tyX0 : Nat → FieldType := fun k => match k with
  | 0 => .int
  | _ => .int
abbrev wsX00 : List Cond := u_ws RX0 TX0 2
theorem nmX0 : ∀ a, a < 2 → ∀ b, b < 2 → a ≠ b → (TX0 a).2.1 ≠ (TX0 b).2.1 := by decide +kernel
theorem tyX0_ok : ∀ k, k < 2 → parseFieldDescriptor (TX0 k).2.2.1 = some (tyX0 k) := by decide +kernel
abbrev cX0_init : ByteArray := prog_2_method_1_code
def yX0_init : MethodName := ⟨RX0, "<init>", "()V"⟩
abbrev cX0_follow : ByteArray := prog_2_method_2_code
def yX0_follow : MethodName := ⟨RX0, "follow", "(LBeaconDelay$Laws;II)V"⟩
def RX1 : String := "BeaconDelay$Coast"
def TX1 : u_T := fun k => match k with
  | 0 => ("BeaconDelay$Coast", "lines", "I", false)
  | 1 => ("BeaconDelay$Coast", "hills", "I", false)
  | 2 => ("BeaconDelay$Coast", "villages", "I", false)
  | 3 => ("BeaconDelay$Coast", "roads", "I", false)
  | 4 => ("BeaconDelay$Coast", "firstStanding", "I", false)
  | 5 => ("BeaconDelay$Coast", "firstWeather", "I", false)
  | 6 => ("BeaconDelay$Coast", "fear", "[I", true)
  | 7 => ("BeaconDelay$Coast", "gap", "[I", true)
  | 8 => ("BeaconDelay$Coast", "needs", "[I", true)
  | 9 => ("BeaconDelay$Coast", "roadFrom", "[I", true)
  | 10 => ("BeaconDelay$Coast", "roadTo", "[I", true)
  | 11 => ("BeaconDelay$Coast", "carries", "[I", true)
  | 12 => ("BeaconDelay$Coast", "steps", "[I", true)
  | 13 => ("BeaconDelay$Coast", "stepCount", "I", false)
  | 14 => ("BeaconDelay$Coast", "takesBegin", "I", false)
  | 15 => ("BeaconDelay$Coast", "takesEnd", "I", false)
  | 16 => ("BeaconDelay$Coast", "addsBegin", "I", false)
  | _ => ("BeaconDelay$Coast", "addsEnd", "I", false)
def tyX1 : Nat → FieldType := fun k => match k with
  | 0 => .int
  | 1 => .int
  | 2 => .int
  | 3 => .int
  | 4 => .int
  | 5 => .int
  | 6 => .array .int
  | 7 => .array .int
  | 8 => .array .int
  | 9 => .array .int
  | 10 => .array .int
  | 11 => .array .int
  | 12 => .array .int
  | 13 => .int
  | 14 => .int
  | 15 => .int
  | 16 => .int
  | _ => .int
abbrev wsX10 : List Cond := u_ws RX1 TX1 18
theorem nmX1 : ∀ a, a < 18 → ∀ b, b < 18 → a ≠ b → (TX1 a).2.1 ≠ (TX1 b).2.1 := by decide +kernel
theorem tyX1_ok : ∀ k, k < 18 → parseFieldDescriptor (TX1 k).2.2.1 = some (tyX1 k) := by decide +kernel
abbrev cX1_init : ByteArray := prog_3_method_1_code
def yX1_init : MethodName := ⟨RX1, "<init>", "()V"⟩
abbrev cX1_becomeEmpty : ByteArray := prog_3_method_2_code
def yX1_becomeEmpty : MethodName := ⟨RX1, "becomeEmpty", "()V"⟩
abbrev cX1_becomeLike : ByteArray := prog_3_method_3_code
def yX1_becomeLike : MethodName := ⟨RX1, "becomeLike", "(LBeaconDelay$Coast;)V"⟩
abbrev cX1_carriedTo : ByteArray := prog_3_method_4_code
def yX1_carriedTo : MethodName := ⟨RX1, "carriedTo", "(III)I"⟩
def RX2 : String := "BeaconDelay$Forcing"
def TX2 : u_T := fun k => match k with
  | 0 => ("BeaconDelay$Forcing", "size", "I", true)
  | 1 => ("BeaconDelay$Forcing", "within", "[I", true)
  | 2 => ("BeaconDelay$Forcing", "free", "[I", true)
  | 3 => ("BeaconDelay$Forcing", "queue", "[I", true)
  | 4 => ("BeaconDelay$Forcing", "begins", "[I", true)
  | 5 => ("BeaconDelay$Forcing", "comers", "[I", true)
  | _ => ("BeaconDelay$Forcing", "waiting", "I", false)
def tyX2 : Nat → FieldType := fun k => match k with
  | 0 => .int
  | 1 => .array .int
  | 2 => .array .int
  | 3 => .array .int
  | 4 => .array .int
  | 5 => .array .int
  | _ => .int
abbrev wsX20 : List Cond := u_ws RX2 TX2 7
theorem nmX2 : ∀ a, a < 7 → ∀ b, b < 7 → a ≠ b → (TX2 a).2.1 ≠ (TX2 b).2.1 := by decide +kernel
theorem tyX2_ok : ∀ k, k < 7 → parseFieldDescriptor (TX2 k).2.2.1 = some (tyX2 k) := by decide +kernel
abbrev cX2_init : ByteArray := prog_4_method_1_code
def yX2_init : MethodName := ⟨RX2, "<init>", "(I)V"⟩
abbrev cX2_fewest : ByteArray := prog_4_method_2_code
def yX2_fewest : MethodName := ⟨RX2, "fewest", "(LBeaconDelay$Ways;II)I"⟩
abbrev cX2_firstDeed : ByteArray := prog_4_method_3_code
def yX2_firstDeed : MethodName := ⟨RX2, "firstDeed", "(LBeaconDelay$Ways;I)I"⟩
abbrev cX2_sortComers : ByteArray := prog_4_method_4_code
def yX2_sortComers : MethodName := ⟨RX2, "sortComers", "(LBeaconDelay$Ways;)V"⟩
abbrev cX2_beginAt : ByteArray := prog_4_method_5_code
def yX2_beginAt : MethodName := ⟨RX2, "beginAt", "(LBeaconDelay$Ways;II)V"⟩
abbrev cX2_settle : ByteArray := prog_4_method_6_code
def yX2_settle : MethodName := ⟨RX2, "settle", "(II)V"⟩
abbrev cX2_lookBackFrom : ByteArray := prog_4_method_7_code
def yX2_lookBackFrom : MethodName := ⟨RX2, "lookBackFrom", "(I)V"⟩
def RX3 : String := "BeaconDelay$Image"
def TX3 : u_T := fun k => match k with
  | 0 => ("BeaconDelay$Image", "coast", "LBeaconDelay$Coast;", true)
  | 1 => ("BeaconDelay$Image", "standing", "I", false)
  | 2 => ("BeaconDelay$Image", "weather", "I", false)
  | 3 => ("BeaconDelay$Image", "nights", "I", false)
  | _ => ("BeaconDelay$Image", "isMade", "Z", false)
def tyX3 : Nat → FieldType := fun k => match k with
  | 0 => .object "BeaconDelay$Coast"
  | 1 => .int
  | 2 => .int
  | 3 => .int
  | _ => .boolean
abbrev wsX30 : List Cond := u_ws RX3 TX3 5
theorem nmX3 : ∀ a, a < 5 → ∀ b, b < 5 → a ≠ b → (TX3 a).2.1 ≠ (TX3 b).2.1 := by decide +kernel
theorem tyX3_ok : ∀ k, k < 5 → parseFieldDescriptor (TX3 k).2.2.1 = some (tyX3 k) := by decide +kernel
abbrev cX3_init : ByteArray := prog_5_method_1_code
def yX3_init : MethodName := ⟨RX3, "<init>", "()V"⟩
def RX4 : String := "BeaconDelay$Laws"
def TX4 : u_T := fun k => match k with
  | 0 => ("BeaconDelay$Laws", "coast", "LBeaconDelay$Coast;", true)
  | 1 => ("BeaconDelay$Laws", "known", "[I", true)
  | 2 => ("BeaconDelay$Laws", "named", "[I", true)
  | 3 => ("BeaconDelay$Laws", "waiting", "[I", true)
  | 4 => ("BeaconDelay$Laws", "staying", "[I", true)
  | _ => ("BeaconDelay$Laws", "stayingEast", "[I", true)
def tyX4 : Nat → FieldType := fun k => match k with
  | 0 => .object "BeaconDelay$Coast"
  | 1 => .array .int
  | 2 => .array .int
  | 3 => .array .int
  | 4 => .array .int
  | _ => .array .int
abbrev wsX40 : List Cond := u_ws RX4 TX4 6
theorem nmX4 : ∀ a, a < 6 → ∀ b, b < 6 → a ≠ b → (TX4 a).2.1 ≠ (TX4 b).2.1 := by decide +kernel
theorem tyX4_ok : ∀ k, k < 6 → parseFieldDescriptor (TX4 k).2.2.1 = some (tyX4 k) := by decide +kernel
abbrev cX4_init : ByteArray := prog_6_method_1_code
def yX4_init : MethodName := ⟨RX4, "<init>", "(LBeaconDelay$Coast;)V"⟩
abbrev cX4_forget : ByteArray := prog_6_method_2_code
def yX4_forget : MethodName := ⟨RX4, "forget", "()V"⟩
abbrev cX4_behind : ByteArray := prog_6_method_3_code
def yX4_behind : MethodName := ⟨RX4, "behind", "(III)I"⟩
abbrev cX4_digitBehind : ByteArray := prog_6_method_4_code
def yX4_digitBehind : MethodName := ⟨RX4, "digitBehind", "(IIIII)I"⟩
abbrev cX4_workOutDigit : ByteArray := prog_6_method_5_code
def yX4_workOutDigit : MethodName := ⟨RX4, "workOutDigit", "(II)I"⟩
abbrev cX4_workOut : ByteArray := prog_6_method_6_code
def yX4_workOut : MethodName := ⟨RX4, "workOut", "(II)I"⟩
abbrev cX4_joined : ByteArray := prog_6_method_7_code
def yX4_joined : MethodName := ⟨RX4, "joined", "(IJJ)I"⟩
abbrev cX4_howManyStay : ByteArray := prog_6_method_8_code
def yX4_howManyStay : MethodName := ⟨RX4, "howManyStay", "(I)I"⟩
def RX5 : String := "BeaconDelay$Past"
def TX5 : u_T := fun k => match k with
  | 0 => ("BeaconDelay$Past", "standing", "[I", true)
  | 1 => ("BeaconDelay$Past", "weather", "[I", true)
  | 2 => ("BeaconDelay$Past", "nights", "[I", true)
  | _ => ("BeaconDelay$Past", "count", "I", false)
def tyX5 : Nat → FieldType := fun k => match k with
  | 0 => .array .int
  | 1 => .array .int
  | 2 => .array .int
  | _ => .int
abbrev wsX50 : List Cond := u_ws RX5 TX5 4
theorem nmX5 : ∀ a, a < 4 → ∀ b, b < 4 → a ≠ b → (TX5 a).2.1 ≠ (TX5 b).2.1 := by decide +kernel
theorem tyX5_ok : ∀ k, k < 4 → parseFieldDescriptor (TX5 k).2.2.1 = some (tyX5 k) := by decide +kernel
abbrev cX5_init : ByteArray := prog_7_method_1_code
def yX5_init : MethodName := ⟨RX5, "<init>", "()V"⟩
abbrev cX5_keep : ByteArray := prog_7_method_2_code
def yX5_keep : MethodName := ⟨RX5, "keep", "(III)V"⟩
abbrev cX5_forgetEldest : ByteArray := prog_7_method_3_code
def yX5_forgetEldest : MethodName := ⟨RX5, "forgetEldest", "([I)V"⟩
def RX6 : String := "BeaconDelay$Reader"
def TX6 : u_T := fun k => match k with
  | 0 => ("BeaconDelay$Reader", "told", "LBeaconDelay$Coast;", true)
  | 1 => ("BeaconDelay$Reader", "fault", "I", false)
  | 2 => ("BeaconDelay$Reader", "faultPlace", "I", false)
  | 3 => ("BeaconDelay$Reader", "text", "[B", true)
  | 4 => ("BeaconDelay$Reader", "length", "I", false)
  | 5 => ("BeaconDelay$Reader", "kind", "I", false)
  | 6 => ("BeaconDelay$Reader", "place", "I", false)
  | 7 => ("BeaconDelay$Reader", "end", "I", false)
  | _ => ("BeaconDelay$Reader", "value", "I", false)
def tyX6 : Nat → FieldType := fun k => match k with
  | 0 => .object "BeaconDelay$Coast"
  | 1 => .int
  | 2 => .int
  | 3 => .array .byte
  | 4 => .int
  | 5 => .int
  | 6 => .int
  | 7 => .int
  | _ => .int
abbrev wsX60 : List Cond := u_ws RX6 TX6 9
theorem nmX6 : ∀ a, a < 9 → ∀ b, b < 9 → a ≠ b → (TX6 a).2.1 ≠ (TX6 b).2.1 := by decide +kernel
theorem tyX6_ok : ∀ k, k < 9 → parseFieldDescriptor (TX6 k).2.2.1 = some (tyX6 k) := by decide +kernel
abbrev cX6_init : ByteArray := prog_8_method_1_code
def yX6_init : MethodName := ⟨RX6, "<init>", "([B)V"⟩
abbrev cX6_read : ByteArray := prog_8_method_2_code
def yX6_read : MethodName := ⟨RX6, "read", "(I)V"⟩
abbrev cX6_line : ByteArray := prog_8_method_3_code
def yX6_line : MethodName := ⟨RX6, "line", "()V"⟩
abbrev cX6_hillLine : ByteArray := prog_8_method_4_code
def yX6_hillLine : MethodName := ⟨RX6, "hillLine", "()V"⟩
abbrev cX6_villageLine : ByteArray := prog_8_method_5_code
def yX6_villageLine : MethodName := ⟨RX6, "villageLine", "()V"⟩
abbrev cX6_roadLine : ByteArray := prog_8_method_6_code
def yX6_roadLine : MethodName := ⟨RX6, "roadLine", "()V"⟩
abbrev cX6_takesLine : ByteArray := prog_8_method_7_code
def yX6_takesLine : MethodName := ⟨RX6, "takesLine", "()V"⟩
abbrev cX6_addsLine : ByteArray := prog_8_method_8_code
def yX6_addsLine : MethodName := ⟨RX6, "addsLine", "()V"⟩
abbrev cX6_truth : ByteArray := prog_8_method_9_code
def yX6_truth : MethodName := ⟨RX6, "truth", "(I)V"⟩
abbrev cX6_both : ByteArray := prog_8_method_10_code
def yX6_both : MethodName := ⟨RX6, "both", "(I)V"⟩
abbrev cX6_unit : ByteArray := prog_8_method_11_code
def yX6_unit : MethodName := ⟨RX6, "unit", "(I)V"⟩
abbrev cX6_sum : ByteArray := prog_8_method_12_code
def yX6_sum : MethodName := ⟨RX6, "sum", "(I)V"⟩
abbrev cX6_term : ByteArray := prog_8_method_13_code
def yX6_term : MethodName := ⟨RX6, "term", "(I)V"⟩
abbrev cX6_atom : ByteArray := prog_8_method_14_code
def yX6_atom : MethodName := ⟨RX6, "atom", "(I)V"⟩
abbrev cX6_name : ByteArray := prog_8_method_15_code
def yX6_name : MethodName := ⟨RX6, "name", "()V"⟩
abbrev cX6_put : ByteArray := prog_8_method_16_code
def yX6_put : MethodName := ⟨RX6, "put", "(I)V"⟩
abbrev cX6_at : ByteArray := prog_8_method_17_code
def yX6_at : MethodName := ⟨RX6, "at", "(Ljava/lang/String;)Z"⟩
abbrev cX6_expect : ByteArray := prog_8_method_18_code
def yX6_expect : MethodName := ⟨RX6, "expect", "(Ljava/lang/String;)V"⟩
abbrev cX6_numberUpTo : ByteArray := prog_8_method_19_code
def yX6_numberUpTo : MethodName := ⟨RX6, "numberUpTo", "(I)I"⟩
abbrev cX6_fail : ByteArray := prog_8_method_20_code
def yX6_fail : MethodName := ⟨RX6, "fail", "(I)V"⟩
abbrev cX6_step : ByteArray := prog_8_method_21_code
def yX6_step : MethodName := ⟨RX6, "step", "()V"⟩
abbrev cX6_endOfRun : ByteArray := prog_8_method_22_code
def yX6_endOfRun : MethodName := ⟨RX6, "endOfRun", "(CC)I"⟩
abbrev cX6_valueOfRun : ByteArray := prog_8_method_23_code
def yX6_valueOfRun : MethodName := ⟨RX6, "valueOfRun", "()I"⟩
def RX7 : String := "BeaconDelay$Tray"
def TX7 : u_T := fun k => match k with
  | 0 => ("BeaconDelay$Tray", "numbers", "[J", true)
  | 1 => ("BeaconDelay$Tray", "count", "I", false)
  | _ => ("BeaconDelay$Tray", "sort", "I", false)
def tyX7 : Nat → FieldType := fun k => match k with
  | 0 => .array .long
  | 1 => .int
  | _ => .int
abbrev wsX70 : List Cond := u_ws RX7 TX7 3
theorem nmX7 : ∀ a, a < 3 → ∀ b, b < 3 → a ≠ b → (TX7 a).2.1 ≠ (TX7 b).2.1 := by decide +kernel
theorem tyX7_ok : ∀ k, k < 3 → parseFieldDescriptor (TX7 k).2.2.1 = some (tyX7 k) := by decide +kernel
abbrev cX7_init : ByteArray := prog_9_method_1_code
def yX7_init : MethodName := ⟨RX7, "<init>", "()V"⟩
abbrev cX7_isMissing : ByteArray := prog_9_method_2_code
def yX7_isMissing : MethodName := ⟨RX7, "isMissing", "()Z"⟩
abbrev cX7_begin : ByteArray := prog_9_method_3_code
def yX7_begin : MethodName := ⟨RX7, "begin", "(II)V"⟩
abbrev cX7_cut : ByteArray := prog_9_method_4_code
def yX7_cut : MethodName := ⟨RX7, "cut", "(J)J"⟩
def RX8 : String := "BeaconDelay$Ways"
def TX8 : u_T := fun k => match k with
  | 0 => ("BeaconDelay$Ways", "mostHills", "I", true)
  | 1 => ("BeaconDelay$Ways", "size", "I", true)
  | 2 => ("BeaconDelay$Ways", "met", "[I", true)
  | 3 => ("BeaconDelay$Ways", "level", "[I", true)
  | 4 => ("BeaconDelay$Ways", "weight", "[I", false)
  | 5 => ("BeaconDelay$Ways", "count", "I", false)
  | 6 => ("BeaconDelay$Ways", "deeds", "I", false)
  | 7 => ("BeaconDelay$Ways", "laws", "LBeaconDelay$Laws;", true)
  | 8 => ("BeaconDelay$Ways", "numberOf", "[I", true)
  | 9 => ("BeaconDelay$Ways", "from", "[I", true)
  | 10 => ("BeaconDelay$Ways", "next", "[I", true)
  | 11 => ("BeaconDelay$Ways", "queue", "[I", true)
  | 12 => ("BeaconDelay$Ways", "shift", "[I", true)
  | 13 => ("BeaconDelay$Ways", "weightThen", "[I", false)
  | 14 => ("BeaconDelay$Ways", "hills", "I", false)
  | 15 => ("BeaconDelay$Ways", "weather", "I", false)
  | _ => ("BeaconDelay$Ways", "opened", "I", false)
def tyX8 : Nat → FieldType := fun k => match k with
  | 0 => .int
  | 1 => .int
  | 2 => .array .int
  | 3 => .array .int
  | 4 => .array .int
  | 5 => .int
  | 6 => .int
  | 7 => .object "BeaconDelay$Laws"
  | 8 => .array .int
  | 9 => .array .int
  | 10 => .array .int
  | 11 => .array .int
  | 12 => .array .int
  | 13 => .array .int
  | 14 => .int
  | 15 => .int
  | _ => .int
abbrev wsX80 : List Cond := u_ws RX8 TX8 17
theorem nmX8 : ∀ a, a < 17 → ∀ b, b < 17 → a ≠ b → (TX8 a).2.1 ≠ (TX8 b).2.1 := by decide +kernel
theorem tyX8_ok : ∀ k, k < 17 → parseFieldDescriptor (TX8 k).2.2.1 = some (tyX8 k) := by decide +kernel
abbrev cX8_init : ByteArray := prog_10_method_1_code
def yX8_init : MethodName := ⟨RX8, "<init>", "(LBeaconDelay$Laws;I)V"⟩
abbrev cX8_forget : ByteArray := prog_10_method_2_code
def yX8_forget : MethodName := ⟨RX8, "forget", "()V"⟩
abbrev cX8_begin : ByteArray := prog_10_method_3_code
def yX8_begin : MethodName := ⟨RX8, "begin", "(III)V"⟩
abbrev cX8_meet : ByteArray := prog_10_method_4_code
def yX8_meet : MethodName := ⟨RX8, "meet", "(IIII)I"⟩
abbrev cX8_reachTo : ByteArray := prog_10_method_5_code
def yX8_reachTo : MethodName := ⟨RX8, "reachTo", "(I)V"⟩
abbrev cX8_open : ByteArray := prog_10_method_6_code
def yX8_open : MethodName := ⟨RX8, "open", "(I)V"⟩
abbrev cX8_behind : ByteArray := prog_10_method_7_code
def yX8_behind : MethodName := ⟨RX8, "behind", "(II)I"⟩
abbrev cX8_firstWith : ByteArray := prog_10_method_8_code
def yX8_firstWith : MethodName := ⟨RX8, "firstWith", "(II)I"⟩
abbrev cX8_deedTowards : ByteArray := prog_10_method_9_code
def yX8_deedTowards : MethodName := ⟨RX8, "deedTowards", "(II)I"⟩
abbrev cX8_spread : ByteArray := prog_10_method_10_code
def yX8_spread : MethodName := ⟨RX8, "spread", "(II)V"⟩
abbrev cX8_spreadByLots : ByteArray := prog_10_method_11_code
def yX8_spreadByLots : MethodName := ⟨RX8, "spreadByLots", "(I)V"⟩
abbrev cX8_spreadAsTold : ByteArray := prog_10_method_12_code
def yX8_spreadAsTold : MethodName := ⟨RX8, "spreadAsTold", "(LBeaconDelay$Tray;I)V"⟩
abbrev cX8_beginSpread : ByteArray := prog_10_method_13_code
def yX8_beginSpread : MethodName := ⟨RX8, "beginSpread", "()V"⟩
abbrev cX8_spreadOneNight : ByteArray := prog_10_method_14_code
def yX8_spreadOneNight : MethodName := ⟨RX8, "spreadOneNight", "(II)V"⟩
abbrev cX8_weightOf : ByteArray := prog_10_method_15_code
def yX8_weightOf : MethodName := ⟨RX8, "weightOf", "(III)I"⟩
abbrev cX8_isAsTold : ByteArray := prog_10_method_16_code
def yX8_isAsTold : MethodName := ⟨RX8, "isAsTold", "(IIJ)Z"⟩
abbrev cX8_traceTold : ByteArray := prog_10_method_17_code
def yX8_traceTold : MethodName := ⟨RX8, "traceTold", "(LBeaconDelay$Tray;I)V"⟩
abbrev cX8_hasBit : ByteArray := prog_10_method_18_code
def yX8_hasBit : MethodName := ⟨RX8, "hasBit", "(II)Z"⟩
abbrev cX8_firstDeedOn : ByteArray := prog_10_method_19_code
def yX8_firstDeedOn : MethodName := ⟨RX8, "firstDeedOn", "(II)I"⟩
abbrev cX8_firstTraced : ByteArray := prog_10_method_20_code
def yX8_firstTraced : MethodName := ⟨RX8, "firstTraced", "(I)I"⟩
abbrev cX8_allTraced : ByteArray := prog_10_method_21_code
def yX8_allTraced : MethodName := ⟨RX8, "allTraced", "(I)I"⟩
abbrev cX8_isAbove : ByteArray := prog_10_method_22_code
def yX8_isAbove : MethodName := ⟨RX8, "isAbove", "(II)Z"⟩
abbrev cX8_longestAbove : ByteArray := prog_10_method_23_code
def yX8_longestAbove : MethodName := ⟨RX8, "longestAbove", "(I)I"⟩
abbrev cX8_countComersAbove : ByteArray := prog_10_method_24_code
def yX8_countComersAbove : MethodName := ⟨RX8, "countComersAbove", "(I)I"⟩
def RX9 : String := "BeaconDelay"
def TX9 : u_T := fun k => match k with
  | 0 => ("BeaconDelay", "tape", "[B", true)
  | 1 => ("BeaconDelay", "tapeLength", "I", false)
  | 2 => ("BeaconDelay", "coast", "LBeaconDelay$Coast;", true)
  | 3 => ("BeaconDelay", "reader", "LBeaconDelay$Reader;", true)
  | 4 => ("BeaconDelay", "laws", "LBeaconDelay$Laws;", true)
  | 5 => ("BeaconDelay", "calm", "LBeaconDelay$Calm;", true)
  | 6 => ("BeaconDelay", "past", "LBeaconDelay$Past;", true)
  | 7 => ("BeaconDelay", "trays", "[LBeaconDelay$Tray;", true)
  | 8 => ("BeaconDelay", "images", "[LBeaconDelay$Image;", true)
  | 9 => ("BeaconDelay", "standingBy", "[I", true)
  | 10 => ("BeaconDelay", "ways", "LBeaconDelay$Ways;", false)
  | 11 => ("BeaconDelay", "forcing", "LBeaconDelay$Forcing;", false)
  | 12 => ("BeaconDelay", "standing", "I", false)
  | 13 => ("BeaconDelay", "weather", "I", false)
  | _ => ("BeaconDelay", "nights", "I", false)
def tyX9 : Nat → FieldType := fun k => match k with
  | 0 => .array .byte
  | 1 => .int
  | 2 => .object "BeaconDelay$Coast"
  | 3 => .object "BeaconDelay$Reader"
  | 4 => .object "BeaconDelay$Laws"
  | 5 => .object "BeaconDelay$Calm"
  | 6 => .object "BeaconDelay$Past"
  | 7 => .array (.object "BeaconDelay$Tray")
  | 8 => .array (.object "BeaconDelay$Image")
  | 9 => .array .int
  | 10 => .object "BeaconDelay$Ways"
  | 11 => .object "BeaconDelay$Forcing"
  | 12 => .int
  | 13 => .int
  | _ => .int
abbrev wsX90 : List Cond := u_ws RX9 TX9 15
theorem nmX9 : ∀ a, a < 15 → ∀ b, b < 15 → a ≠ b → (TX9 a).2.1 ≠ (TX9 b).2.1 := by decide +kernel
theorem tyX9_ok : ∀ k, k < 15 → parseFieldDescriptor (TX9 k).2.2.1 = some (tyX9 k) := by decide +kernel
abbrev cX9_init : ByteArray := prog_1_method_1_code
def yX9_init : MethodName := ⟨RX9, "<init>", "()V"⟩
abbrev cX9_feed : ByteArray := prog_1_method_2_code
def yX9_feed : MethodName := ⟨RX9, "feed", "(IIIII)I"⟩
abbrev cX9_putOnTape : ByteArray := prog_1_method_3_code
def yX9_putOnTape : MethodName := ⟨RX9, "putOnTape", "(I)V"⟩
abbrev cX9_coast : ByteArray := prog_1_method_4_code
def yX9_coast : MethodName := ⟨RX9, "coast", "(I)I"⟩
abbrev cX9_goOnFrom : ByteArray := prog_1_method_5_code
def yX9_goOnFrom : MethodName := ⟨RX9, "goOnFrom", "(LBeaconDelay$Coast;III)V"⟩
abbrev cX9_fault : ByteArray := prog_1_method_6_code
def yX9_fault : MethodName := ⟨RX9, "fault", "(I)I"⟩
abbrev cX9_hill : ByteArray := prog_1_method_7_code
def yX9_hill : MethodName := ⟨RX9, "hill", "(II)I"⟩
abbrev cX9_village : ByteArray := prog_1_method_8_code
def yX9_village : MethodName := ⟨RX9, "village", "(I)I"⟩
abbrev cX9_takes : ByteArray := prog_1_method_9_code
def yX9_takes : MethodName := ⟨RX9, "takes", "(II)I"⟩
abbrev cX9_by : ByteArray := prog_1_method_10_code
def yX9_by : MethodName := ⟨RX9, "by", "(II)I"⟩
abbrev cX9_isHill : ByteArray := prog_1_method_11_code
def yX9_isHill : MethodName := ⟨RX9, "isHill", "(I)Z"⟩
abbrev cX9_isNight : ByteArray := prog_1_method_12_code
def yX9_isNight : MethodName := ⟨RX9, "isNight", "(J)Z"⟩
abbrev cX9_stackIn : ByteArray := prog_1_method_13_code
def yX9_stackIn : MethodName := ⟨RX9, "stackIn", "(II)I"⟩
abbrev cX9_tookIn : ByteArray := prog_1_method_14_code
def yX9_tookIn : MethodName := ⟨RX9, "tookIn", "(II)I"⟩
abbrev cX9_stacksTogether : ByteArray := prog_1_method_15_code
def yX9_stacksTogether : MethodName := ⟨RX9, "stacksTogether", "(I)I"⟩
abbrev cX9_tookBits : ByteArray := prog_1_method_16_code
def yX9_tookBits : MethodName := ⟨RX9, "tookBits", "(I)I"⟩
abbrev cX9_stacksAlone : ByteArray := prog_1_method_17_code
def yX9_stacksAlone : MethodName := ⟨RX9, "stacksAlone", "(I)I"⟩
abbrev cX9_night : ByteArray := prog_1_method_18_code
def yX9_night : MethodName := ⟨RX9, "night", "(I)I"⟩
abbrev cX9_nights : ByteArray := prog_1_method_19_code
def yX9_nights : MethodName := ⟨RX9, "nights", "(I)I"⟩
abbrev cX9_steal : ByteArray := prog_1_method_20_code
def yX9_steal : MethodName := ⟨RX9, "steal", "(I)I"⟩
abbrev cX9_weather : ByteArray := prog_1_method_21_code
def yX9_weather : MethodName := ⟨RX9, "weather", "(I)I"⟩
abbrev cX9_undo : ByteArray := prog_1_method_22_code
def yX9_undo : MethodName := ⟨RX9, "undo", "(I)I"⟩
abbrev cX9_bringBack : ByteArray := prog_1_method_23_code
def yX9_bringBack : MethodName := ⟨RX9, "bringBack", "(III)V"⟩
abbrev cX9_whyNoStealing : ByteArray := prog_1_method_24_code
def yX9_whyNoStealing : MethodName := ⟨RX9, "whyNoStealing", "(I)I"⟩
abbrev cX9_takeByHand : ByteArray := prog_1_method_25_code
def yX9_takeByHand : MethodName := ⟨RX9, "takeByHand", "(I)V"⟩
abbrev cX9_tryDeed : ByteArray := prog_1_method_26_code
def yX9_tryDeed : MethodName := ⟨RX9, "tryDeed", "(J)I"⟩
abbrev cX9_tryAll : ByteArray := prog_1_method_27_code
def yX9_tryAll : MethodName := ⟨RX9, "tryAll", "(LBeaconDelay$Tray;)I"⟩
abbrev cX9_judge : ByteArray := prog_1_method_28_code
def yX9_judge : MethodName := ⟨RX9, "judge", "(II)I"⟩
abbrev cX9_perform : ByteArray := prog_1_method_29_code
def yX9_perform : MethodName := ⟨RX9, "perform", "(I)I"⟩
abbrev cX9_century : ByteArray := prog_1_method_30_code
def yX9_century : MethodName := ⟨RX9, "century", "(II)I"⟩
abbrev cX9_drawnFrom : ByteArray := prog_1_method_31_code
def yX9_drawnFrom : MethodName := ⟨RX9, "drawnFrom", "(I)I"⟩
abbrev cX9_drawnDeed : ByteArray := prog_1_method_32_code
def yX9_drawnDeed : MethodName := ⟨RX9, "drawnDeed", "(II)I"⟩
abbrev cX9_lies : ByteArray := prog_1_method_33_code
def yX9_lies : MethodName := ⟨RX9, "lies", "(II)I"⟩
abbrev cX9_round : ByteArray := prog_1_method_34_code
def yX9_round : MethodName := ⟨RX9, "round", "(I)I"⟩
abbrev cX9_bare : ByteArray := prog_1_method_35_code
def yX9_bare : MethodName := ⟨RX9, "bare", "()I"⟩
abbrev cX9_rests : ByteArray := prog_1_method_36_code
def yX9_rests : MethodName := ⟨RX9, "rests", "()I"⟩
abbrev cX9_waysFromNow : ByteArray := prog_1_method_37_code
def yX9_waysFromNow : MethodName := ⟨RX9, "waysFromNow", "(I)LBeaconDelay$Ways;"⟩
abbrev cX9_isHeight : ByteArray := prog_1_method_38_code
def yX9_isHeight : MethodName := ⟨RX9, "isHeight", "(I)Z"⟩
abbrev cX9_soonest : ByteArray := prog_1_method_39_code
def yX9_soonest : MethodName := ⟨RX9, "soonest", "(II)I"⟩
abbrev cX9_way : ByteArray := prog_1_method_40_code
def yX9_way : MethodName := ⟨RX9, "way", "(III)I"⟩
abbrev cX9_rows : ByteArray := prog_1_method_41_code
def yX9_rows : MethodName := ⟨RX9, "rows", "(III)J"⟩
abbrev cX9_keeps : ByteArray := prog_1_method_42_code
def yX9_keeps : MethodName := ⟨RX9, "keeps", "(I)I"⟩
abbrev cX9_reaches : ByteArray := prog_1_method_43_code
def yX9_reaches : MethodName := ⟨RX9, "reaches", "(II)I"⟩
abbrev cX9_stands : ByteArray := prog_1_method_44_code
def yX9_stands : MethodName := ⟨RX9, "stands", "()I"⟩
abbrev cX9_lit : ByteArray := prog_1_method_45_code
def yX9_lit : MethodName := ⟨RX9, "lit", "(I)I"⟩
abbrev cX9_litBy : ByteArray := prog_1_method_46_code
def yX9_litBy : MethodName := ⟨RX9, "litBy", "(I)I"⟩
abbrev cX9_isSeen : ByteArray := prog_1_method_47_code
def yX9_isSeen : MethodName := ⟨RX9, "isSeen", "(III)Z"⟩
abbrev cX9_brightest : ByteArray := prog_1_method_48_code
def yX9_brightest : MethodName := ⟨RX9, "brightest", "()I"⟩
abbrev cX9_wood : ByteArray := prog_1_method_49_code
def yX9_wood : MethodName := ⟨RX9, "wood", "()I"⟩
abbrev cX9_needed : ByteArray := prog_1_method_50_code
def yX9_needed : MethodName := ⟨RX9, "needed", "()I"⟩
abbrev cX9_woodWithout : ByteArray := prog_1_method_51_code
def yX9_woodWithout : MethodName := ⟨RX9, "woodWithout", "(I)I"⟩
abbrev cX9_refusalOfTold : ByteArray := prog_1_method_52_code
def yX9_refusalOfTold : MethodName := ⟨RX9, "refusalOfTold", "(III)I"⟩
abbrev cX9_high : ByteArray := prog_1_method_53_code
def yX9_high : MethodName := ⟨RX9, "high", "(II)J"⟩
abbrev cX9_highBy : ByteArray := prog_1_method_54_code
def yX9_highBy : MethodName := ⟨RX9, "highBy", "(III)I"⟩
abbrev cX9_fogs : ByteArray := prog_1_method_55_code
def yX9_fogs : MethodName := ⟨RX9, "fogs", "(III)I"⟩
abbrev cX9_weathers : ByteArray := prog_1_method_56_code
def yX9_weathers : MethodName := ⟨RX9, "weathers", "(II)I"⟩
abbrev cX9_fittingWeathers : ByteArray := prog_1_method_57_code
def yX9_fittingWeathers : MethodName := ⟨RX9, "fittingWeathers", "(LBeaconDelay$Tray;I)I"⟩
abbrev cX9_attempt : ByteArray := prog_1_method_58_code
def yX9_attempt : MethodName := ⟨RX9, "attempt", "(II)I"⟩
abbrev cX9_mostAlike : ByteArray := prog_1_method_59_code
def yX9_mostAlike : MethodName := ⟨RX9, "mostAlike", "(II)I"⟩
abbrev cX9_alikeWith : ByteArray := prog_1_method_60_code
def yX9_alikeWith : MethodName := ⟨RX9, "alikeWith", "(III)I"⟩
abbrev cX9_forcingFrom : ByteArray := prog_1_method_61_code
def yX9_forcingFrom : MethodName := ⟨RX9, "forcingFrom", "(LBeaconDelay$Ways;)LBeaconDelay$Forcing;"⟩
abbrev cX9_forces : ByteArray := prog_1_method_62_code
def yX9_forces : MethodName := ⟨RX9, "forces", "(II)I"⟩
abbrev cX9_best : ByteArray := prog_1_method_63_code
def yX9_best : MethodName := ⟨RX9, "best", "(II)I"⟩
abbrev cX9_chance : ByteArray := prog_1_method_64_code
def yX9_chance : MethodName := ⟨RX9, "chance", "(IIII)I"⟩
abbrev cX9_mean : ByteArray := prog_1_method_65_code
def yX9_mean : MethodName := ⟨RX9, "mean", "(II)I"⟩
abbrev cX9_inLowestTerms : ByteArray := prog_1_method_66_code
def yX9_inLowestTerms : MethodName := ⟨RX9, "inLowestTerms", "(III)I"⟩
abbrev cX9_greatestCommon : ByteArray := prog_1_method_67_code
def yX9_greatestCommon : MethodName := ⟨RX9, "greatestCommon", "(II)I"⟩
abbrev cX9_isTray : ByteArray := prog_1_method_68_code
def yX9_isTray : MethodName := ⟨RX9, "isTray", "(I)Z"⟩
abbrev cX9_numbers : ByteArray := prog_1_method_69_code
def yX9_numbers : MethodName := ⟨RX9, "numbers", "(III)I"⟩
abbrev cX9_write : ByteArray := prog_1_method_70_code
def yX9_write : MethodName := ⟨RX9, "write", "(IIJ)J"⟩
abbrev cX9_lists : ByteArray := prog_1_method_71_code
def yX9_lists : MethodName := ⟨RX9, "lists", "(II)I"⟩
abbrev cX9_isImage : ByteArray := prog_1_method_72_code
def yX9_isImage : MethodName := ⟨RX9, "isImage", "(I)Z"⟩
abbrev cX9_image : ByteArray := prog_1_method_73_code
def yX9_image : MethodName := ⟨RX9, "image", "(I)I"⟩
abbrev cX9_restore : ByteArray := prog_1_method_74_code
def yX9_restore : MethodName := ⟨RX9, "restore", "(I)I"⟩
abbrev cX9_count : ByteArray := prog_1_method_75_code
def yX9_count : MethodName := ⟨RX9, "count", "(I)I"⟩
def RX10 : String := "BeaconDelayModel"
def TX10 : u_T := fun k => match k with
  | 0 => ("BeaconDelayModel", "thrown", "I", false)
  | 1 => ("BeaconDelayModel", "all", "[I", true)
  | 2 => ("BeaconDelayModel", "hasImage", "[Z", true)
  | 3 => ("BeaconDelayModel", "tape", "[I", true)
  | 4 => ("BeaconDelayModel", "fresh", "[I", true)
  | 5 => ("BeaconDelayModel", "taped", "I", false)
  | 6 => ("BeaconDelayModel", "at", "I", false)
  | 7 => ("BeaconDelayModel", "behind", "I", false)
  | 8 => ("BeaconDelayModel", "size", "I", false)
  | 9 => ("BeaconDelayModel", "kind", "I", false)
  | 10 => ("BeaconDelayModel", "number", "I", false)
  | 11 => ("BeaconDelayModel", "wrong", "I", false)
  | 12 => ("BeaconDelayModel", "wrongAt", "I", false)
  | 13 => ("BeaconDelayModel", "faultKind", "I", false)
  | 14 => ("BeaconDelayModel", "faultPlace", "I", false)
  | 15 => ("BeaconDelayModel", "reckoned", "[I", true)
  | 16 => ("BeaconDelayModel", "words", "[I", true)
  | 17 => ("BeaconDelayModel", "was", "[I", true)
  | 18 => ("BeaconDelayModel", "toldWhy", "I", false)
  | 19 => ("BeaconDelayModel", "x", "I", false)
  | 20 => ("BeaconDelayModel", "line", "[I", true)
  | 21 => ("BeaconDelayModel", "placeIn", "[I", true)
  | 22 => ("BeaconDelayModel", "tail", "I", false)
  | 23 => ("BeaconDelayModel", "round1", "I", false)
  | 24 => ("BeaconDelayModel", "stand", "[I", true)
  | 25 => ("BeaconDelayModel", "then", "[I", true)
  | 26 => ("BeaconDelayModel", "far", "[I", true)
  | 27 => ("BeaconDelayModel", "farOther", "[I", true)
  | 28 => ("BeaconDelayModel", "known", "[Z", true)
  | 29 => ("BeaconDelayModel", "standMany", "I", false)
  | 30 => ("BeaconDelayModel", "many", "[J", true)
  | 31 => ("BeaconDelayModel", "manyThen", "[J", true)
  | 32 => ("BeaconDelayModel", "room", "[I", true)
  | 33 => ("BeaconDelayModel", "comeBy", "[I", true)
  | 34 => ("BeaconDelayModel", "queue", "[I", true)
  | 35 => ("BeaconDelayModel", "on", "[J", true)
  | 36 => ("BeaconDelayModel", "highBy1", "[I", true)
  | 37 => ("BeaconDelayModel", "rowSort", "[I", true)
  | 38 => ("BeaconDelayModel", "rowMany", "[I", true)
  | _ => ("BeaconDelayModel", "numbers", "[J", true)
def tyX10 : Nat → FieldType := fun k => match k with
  | 0 => .int
  | 1 => .array .int
  | 2 => .array .boolean
  | 3 => .array .int
  | 4 => .array .int
  | 5 => .int
  | 6 => .int
  | 7 => .int
  | 8 => .int
  | 9 => .int
  | 10 => .int
  | 11 => .int
  | 12 => .int
  | 13 => .int
  | 14 => .int
  | 15 => .array .int
  | 16 => .array .int
  | 17 => .array .int
  | 18 => .int
  | 19 => .int
  | 20 => .array .int
  | 21 => .array .int
  | 22 => .int
  | 23 => .int
  | 24 => .array .int
  | 25 => .array .int
  | 26 => .array .int
  | 27 => .array .int
  | 28 => .array .boolean
  | 29 => .int
  | 30 => .array .long
  | 31 => .array .long
  | 32 => .array .int
  | 33 => .array .int
  | 34 => .array .int
  | 35 => .array .long
  | 36 => .array .int
  | 37 => .array .int
  | 38 => .array .int
  | _ => .array .long
abbrev wsX100 : List Cond := u_ws RX10 TX10 40
theorem nmX10 : ∀ a, a < 40 → ∀ b, b < 40 → a ≠ b → (TX10 a).2.1 ≠ (TX10 b).2.1 := by decide +kernel
theorem tyX10_ok : ∀ k, k < 40 → parseFieldDescriptor (TX10 k).2.2.1 = some (tyX10 k) := by decide +kernel
abbrev cX10_within : ByteArray := prog_12_method_2_code
def yX10_within : MethodName := ⟨RX10, "within", "(JJJ)Z"⟩
abbrev cX10_init : ByteArray := prog_12_method_3_code
def yX10_init : MethodName := ⟨RX10, "<init>", "()V"⟩
abbrev cX10_plain : ByteArray := prog_12_method_4_code
def yX10_plain : MethodName := ⟨RX10, "plain", "([I)V"⟩
abbrev cX10_feed : ByteArray := prog_12_method_5_code
def yX10_feed : MethodName := ⟨RX10, "feed", "(IIIII)I"⟩
abbrev cX10_see : ByteArray := prog_12_method_6_code
def yX10_see : MethodName := ⟨RX10, "see", "(I)I"⟩
abbrev cX10_isSmall : ByteArray := prog_12_method_7_code
def yX10_isSmall : MethodName := ⟨RX10, "isSmall", "(I)Z"⟩
abbrev cX10_isDigit : ByteArray := prog_12_method_8_code
def yX10_isDigit : MethodName := ⟨RX10, "isDigit", "(I)Z"⟩
abbrev cX10_keyAt : ByteArray := prog_12_method_9_code
def yX10_keyAt : MethodName := ⟨RX10, "keyAt", "()I"⟩
abbrev cX10_next : ByteArray := prog_12_method_10_code
def yX10_next : MethodName := ⟨RX10, "next", "()V"⟩
abbrev cX10_fails : ByteArray := prog_12_method_11_code
def yX10_fails : MethodName := ⟨RX10, "fails", "(I)V"⟩
abbrev cX10_is : ByteArray := prog_12_method_12_code
def yX10_is : MethodName := ⟨RX10, "is", "(I)Z"⟩
abbrev cX10_eats : ByteArray := prog_12_method_13_code
def yX10_eats : MethodName := ⟨RX10, "eats", "(I)Z"⟩
abbrev cX10_takesOne : ByteArray := prog_12_method_14_code
def yX10_takesOne : MethodName := ⟨RX10, "takesOne", "(II)I"⟩
abbrev cX10_isIn : ByteArray := prog_12_method_15_code
def yX10_isIn : MethodName := ⟨RX10, "isIn", "(JI)Z"⟩
abbrev cX10_wordOf : ByteArray := prog_12_method_16_code
def yX10_wordOf : MethodName := ⟨RX10, "wordOf", "(I)I"⟩
abbrev cX10_codes : ByteArray := prog_12_method_17_code
def yX10_codes : MethodName := ⟨RX10, "codes", "(I)V"⟩
abbrev cX10_goesIn : ByteArray := prog_12_method_18_code
def yX10_goesIn : MethodName := ⟨RX10, "goesIn", "(I)Z"⟩
abbrev cX10_readAtom : ByteArray := prog_12_method_19_code
def yX10_readAtom : MethodName := ⟨RX10, "readAtom", "(I)V"⟩
abbrev cX10_readIf : ByteArray := prog_12_method_20_code
def yX10_readIf : MethodName := ⟨RX10, "readIf", "(I)V"⟩
abbrev cX10_readTerm : ByteArray := prog_12_method_21_code
def yX10_readTerm : MethodName := ⟨RX10, "readTerm", "(I)V"⟩
abbrev cX10_readSum : ByteArray := prog_12_method_22_code
def yX10_readSum : MethodName := ⟨RX10, "readSum", "(I)V"⟩
abbrev cX10_readUnit : ByteArray := prog_12_method_23_code
def yX10_readUnit : MethodName := ⟨RX10, "readUnit", "(I)V"⟩
abbrev cX10_readBoth : ByteArray := prog_12_method_24_code
def yX10_readBoth : MethodName := ⟨RX10, "readBoth", "(I)V"⟩
abbrev cX10_readTruth : ByteArray := prog_12_method_25_code
def yX10_readTruth : MethodName := ⟨RX10, "readTruth", "(I)V"⟩
abbrev cX10_readFlag : ByteArray := prog_12_method_26_code
def yX10_readFlag : MethodName := ⟨RX10, "readFlag", "(I)Z"⟩
abbrev cX10_named : ByteArray := prog_12_method_27_code
def yX10_named : MethodName := ⟨RX10, "named", "(III)I"⟩
abbrev cX10_readHill : ByteArray := prog_12_method_28_code
def yX10_readHill : MethodName := ⟨RX10, "readHill", "()V"⟩
abbrev cX10_readVillage : ByteArray := prog_12_method_29_code
def yX10_readVillage : MethodName := ⟨RX10, "readVillage", "()V"⟩
abbrev cX10_readRoad : ByteArray := prog_12_method_30_code
def yX10_readRoad : MethodName := ⟨RX10, "readRoad", "()V"⟩
abbrev cX10_readLaw : ByteArray := prog_12_method_31_code
def yX10_readLaw : MethodName := ⟨RX10, "readLaw", "(I)V"⟩
abbrev cX10_readLine : ByteArray := prog_12_method_32_code
def yX10_readLine : MethodName := ⟨RX10, "readLine", "()V"⟩
abbrev cX10_closes : ByteArray := prog_12_method_33_code
def yX10_closes : MethodName := ⟨RX10, "closes", "()V"⟩
abbrev cX10_coast : ByteArray := prog_12_method_34_code
def yX10_coast : MethodName := ⟨RX10, "coast", "(I)I"⟩
abbrev cX10_fault : ByteArray := prog_12_method_35_code
def yX10_fault : MethodName := ⟨RX10, "fault", "(I)I"⟩
abbrev cX10_isHill : ByteArray := prog_12_method_36_code
def yX10_isHill : MethodName := ⟨RX10, "isHill", "(J)Z"⟩
abbrev cX10_digitOf : ByteArray := prog_12_method_37_code
def yX10_digitOf : MethodName := ⟨RX10, "digitOf", "(I)I"⟩
abbrev cX10_stackIn : ByteArray := prog_12_method_38_code
def yX10_stackIn : MethodName := ⟨RX10, "stackIn", "(II)I"⟩
abbrev cX10_tookIn : ByteArray := prog_12_method_39_code
def yX10_tookIn : MethodName := ⟨RX10, "tookIn", "(I)I"⟩
abbrev cX10_standNow : ByteArray := prog_12_method_40_code
def yX10_standNow : MethodName := ⟨RX10, "standNow", "()I"⟩
abbrev cX10_isStand : ByteArray := prog_12_method_41_code
def yX10_isStand : MethodName := ⟨RX10, "isStand", "(I)V"⟩
abbrev cX10_leastIn : ByteArray := prog_12_method_42_code
def yX10_leastIn : MethodName := ⟨RX10, "leastIn", "(I)I"⟩
abbrev cX10_sumIn : ByteArray := prog_12_method_43_code
def yX10_sumIn : MethodName := ⟨RX10, "sumIn", "(I)I"⟩
abbrev cX10_bitsOf : ByteArray := prog_12_method_44_code
def yX10_bitsOf : MethodName := ⟨RX10, "bitsOf", "(I)I"⟩
abbrev cX10_between : ByteArray := prog_12_method_45_code
def yX10_between : MethodName := ⟨RX10, "between", "(III)I"⟩
abbrev cX10_reckons : ByteArray := prog_12_method_46_code
def yX10_reckons : MethodName := ⟨RX10, "reckons", "(I)I"⟩
abbrev cX10_laysWords : ByteArray := prog_12_method_47_code
def yX10_laysWords : MethodName := ⟨RX10, "laysWords", "(IIII)V"⟩
abbrev cX10_takesNow : ByteArray := prog_12_method_48_code
def yX10_takesNow : MethodName := ⟨RX10, "takesNow", "()Z"⟩
abbrev cX10_addedNow : ByteArray := prog_12_method_49_code
def yX10_addedNow : MethodName := ⟨RX10, "addedNow", "()I"⟩
abbrev cX10_nightTo : ByteArray := prog_12_method_50_code
def yX10_nightTo : MethodName := ⟨RX10, "nightTo", "(III)I"⟩
abbrev cX10_isNight : ByteArray := prog_12_method_51_code
def yX10_isNight : MethodName := ⟨RX10, "isNight", "(J)Z"⟩
abbrev cX10_hill : ByteArray := prog_12_method_52_code
def yX10_hill : MethodName := ⟨RX10, "hill", "(II)I"⟩
abbrev cX10_village : ByteArray := prog_12_method_53_code
def yX10_village : MethodName := ⟨RX10, "village", "(I)I"⟩
abbrev cX10_takes : ByteArray := prog_12_method_54_code
def yX10_takes : MethodName := ⟨RX10, "takes", "(II)I"⟩
abbrev cX10_by : ByteArray := prog_12_method_55_code
def yX10_by : MethodName := ⟨RX10, "by", "(II)I"⟩
abbrev cX10_stores : ByteArray := prog_12_method_56_code
def yX10_stores : MethodName := ⟨RX10, "stores", "()V"⟩
abbrev cX10_isAgain : ByteArray := prog_12_method_57_code
def yX10_isAgain : MethodName := ⟨RX10, "isAgain", "()V"⟩
abbrev cX10_notes : ByteArray := prog_12_method_58_code
def yX10_notes : MethodName := ⟨RX10, "notes", "()V"⟩
abbrev cX10_goesNight : ByteArray := prog_12_method_59_code
def yX10_goesNight : MethodName := ⟨RX10, "goesNight", "(I)V"⟩
abbrev cX10_night : ByteArray := prog_12_method_60_code
def yX10_night : MethodName := ⟨RX10, "night", "(I)I"⟩
abbrev cX10_nights : ByteArray := prog_12_method_61_code
def yX10_nights : MethodName := ⟨RX10, "nights", "(I)I"⟩
abbrev cX10_whySteal : ByteArray := prog_12_method_62_code
def yX10_whySteal : MethodName := ⟨RX10, "whySteal", "(J)I"⟩
abbrev cX10_steals : ByteArray := prog_12_method_63_code
def yX10_steals : MethodName := ⟨RX10, "steals", "(I)V"⟩
abbrev cX10_steal : ByteArray := prog_12_method_64_code
def yX10_steal : MethodName := ⟨RX10, "steal", "(I)I"⟩
abbrev cX10_weather : ByteArray := prog_12_method_65_code
def yX10_weather : MethodName := ⟨RX10, "weather", "(I)I"⟩
abbrev cX10_undo : ByteArray := prog_12_method_66_code
def yX10_undo : MethodName := ⟨RX10, "undo", "(I)I"⟩
abbrev cX10_whyNot : ByteArray := prog_12_method_67_code
def yX10_whyNot : MethodName := ⟨RX10, "whyNot", "(J)I"⟩
abbrev cX10_does : ByteArray := prog_12_method_68_code
def yX10_does : MethodName := ⟨RX10, "does", "(I)V"⟩
abbrev cX10_tells : ByteArray := prog_12_method_69_code
def yX10_tells : MethodName := ⟨RX10, "tells", "(I)I"⟩
abbrev cX10_noTray : ByteArray := prog_12_method_70_code
def yX10_noTray : MethodName := ⟨RX10, "noTray", "(I)I"⟩
abbrev cX10_judge : ByteArray := prog_12_method_71_code
def yX10_judge : MethodName := ⟨RX10, "judge", "(II)I"⟩
abbrev cX10_perform : ByteArray := prog_12_method_72_code
def yX10_perform : MethodName := ⟨RX10, "perform", "(I)I"⟩
abbrev cX10_draw : ByteArray := prog_12_method_73_code
def yX10_draw : MethodName := ⟨RX10, "draw", "(I)I"⟩
abbrev cX10_drawn : ByteArray := prog_12_method_74_code
def yX10_drawn : MethodName := ⟨RX10, "drawn", "()I"⟩
abbrev cX10_century : ByteArray := prog_12_method_75_code
def yX10_century : MethodName := ⟨RX10, "century", "(II)I"⟩
abbrev cX10_laysLine : ByteArray := prog_12_method_76_code
def yX10_laysLine : MethodName := ⟨RX10, "laysLine", "()V"⟩
abbrev cX10_standAt : ByteArray := prog_12_method_77_code
def yX10_standAt : MethodName := ⟨RX10, "standAt", "(I)I"⟩
abbrev cX10_lies : ByteArray := prog_12_method_78_code
def yX10_lies : MethodName := ⟨RX10, "lies", "(II)I"⟩
abbrev cX10_round : ByteArray := prog_12_method_79_code
def yX10_round : MethodName := ⟨RX10, "round", "(I)I"⟩
abbrev cX10_bare : ByteArray := prog_12_method_80_code
def yX10_bare : MethodName := ⟨RX10, "bare", "()I"⟩
abbrev cX10_rests : ByteArray := prog_12_method_81_code
def yX10_rests : MethodName := ⟨RX10, "rests", "()I"⟩
abbrev cX10_adds : ByteArray := prog_12_method_82_code
def yX10_adds : MethodName := ⟨RX10, "adds", "(I)V"⟩
abbrev cX10_laysStands : ByteArray := prog_12_method_83_code
def yX10_laysStands : MethodName := ⟨RX10, "laysStands", "()V"⟩
abbrev cX10_farBy : ByteArray := prog_12_method_84_code
def yX10_farBy : MethodName := ⟨RX10, "farBy", "(II)I"⟩
abbrev cX10_laysFar : ByteArray := prog_12_method_85_code
def yX10_laysFar : MethodName := ⟨RX10, "laysFar", "(II)I"⟩
abbrev cX10_toldFar : ByteArray := prog_12_method_86_code
def yX10_toldFar : MethodName := ⟨RX10, "toldFar", "(I)I"⟩
abbrev cX10_isHigh : ByteArray := prog_12_method_87_code
def yX10_isHigh : MethodName := ⟨RX10, "isHigh", "(I)Z"⟩
abbrev cX10_noHigh : ByteArray := prog_12_method_88_code
def yX10_noHigh : MethodName := ⟨RX10, "noHigh", "(II)I"⟩
abbrev cX10_soonest : ByteArray := prog_12_method_89_code
def yX10_soonest : MethodName := ⟨RX10, "soonest", "(II)I"⟩
abbrev cX10_way : ByteArray := prog_12_method_90_code
def yX10_way : MethodName := ⟨RX10, "way", "(III)I"⟩
abbrev cX10_beginsMany : ByteArray := prog_12_method_91_code
def yX10_beginsMany : MethodName := ⟨RX10, "beginsMany", "()V"⟩
abbrev cX10_isThen : ByteArray := prog_12_method_92_code
def yX10_isThen : MethodName := ⟨RX10, "isThen", "()V"⟩
abbrev cX10_goesMany : ByteArray := prog_12_method_93_code
def yX10_goesMany : MethodName := ⟨RX10, "goesMany", "(JJ)V"⟩
abbrev cX10_rows : ByteArray := prog_12_method_94_code
def yX10_rows : MethodName := ⟨RX10, "rows", "(III)J"⟩
abbrev cX10_keptBy : ByteArray := prog_12_method_95_code
def yX10_keptBy : MethodName := ⟨RX10, "keptBy", "(III)I"⟩
abbrev cX10_keeps : ByteArray := prog_12_method_96_code
def yX10_keeps : MethodName := ⟨RX10, "keeps", "(I)I"⟩
abbrev cX10_reaches : ByteArray := prog_12_method_97_code
def yX10_reaches : MethodName := ⟨RX10, "reaches", "(II)I"⟩
abbrev cX10_stands : ByteArray := prog_12_method_98_code
def yX10_stands : MethodName := ⟨RX10, "stands", "()I"⟩
abbrev cX10_litBy : ByteArray := prog_12_method_99_code
def yX10_litBy : MethodName := ⟨RX10, "litBy", "(I)I"⟩
abbrev cX10_lit : ByteArray := prog_12_method_100_code
def yX10_lit : MethodName := ⟨RX10, "lit", "(I)I"⟩
abbrev cX10_brightest : ByteArray := prog_12_method_101_code
def yX10_brightest : MethodName := ⟨RX10, "brightest", "()I"⟩
abbrev cX10_laysRoom : ByteArray := prog_12_method_102_code
def yX10_laysRoom : MethodName := ⟨RX10, "laysRoom", "(I)V"⟩
abbrev cX10_isCome : ByteArray := prog_12_method_103_code
def yX10_isCome : MethodName := ⟨RX10, "isCome", "()Z"⟩
abbrev cX10_woodBut : ByteArray := prog_12_method_104_code
def yX10_woodBut : MethodName := ⟨RX10, "woodBut", "(I)I"⟩
abbrev cX10_wood : ByteArray := prog_12_method_105_code
def yX10_wood : MethodName := ⟨RX10, "wood", "()I"⟩
abbrev cX10_needed : ByteArray := prog_12_method_106_code
def yX10_needed : MethodName := ⟨RX10, "needed", "()I"⟩
abbrev cX10_noTold : ByteArray := prog_12_method_107_code
def yX10_noTold : MethodName := ⟨RX10, "noTold", "(III)I"⟩
abbrev cX10_isSo : ByteArray := prog_12_method_108_code
def yX10_isSo : MethodName := ⟨RX10, "isSo", "(IIII)Z"⟩
abbrev cX10_laysHigh : ByteArray := prog_12_method_109_code
def yX10_laysHigh : MethodName := ⟨RX10, "laysHigh", "(II)J"⟩
abbrev cX10_high : ByteArray := prog_12_method_110_code
def yX10_high : MethodName := ⟨RX10, "high", "(II)J"⟩
abbrev cX10_highBy : ByteArray := prog_12_method_111_code
def yX10_highBy : MethodName := ⟨RX10, "highBy", "(III)I"⟩
abbrev cX10_fogs : ByteArray := prog_12_method_112_code
def yX10_fogs : MethodName := ⟨RX10, "fogs", "(III)I"⟩
abbrev cX10_weathersOf : ByteArray := prog_12_method_113_code
def yX10_weathersOf : MethodName := ⟨RX10, "weathersOf", "(II)I"⟩
abbrev cX10_weathers : ByteArray := prog_12_method_114_code
def yX10_weathers : MethodName := ⟨RX10, "weathers", "(II)I"⟩
abbrev cX10_mostAlike : ByteArray := prog_12_method_115_code
def yX10_mostAlike : MethodName := ⟨RX10, "mostAlike", "(II)I"⟩
abbrev cX10_attempt : ByteArray := prog_12_method_116_code
def yX10_attempt : MethodName := ⟨RX10, "attempt", "(II)I"⟩
abbrev cX10_firstBy : ByteArray := prog_12_method_117_code
def yX10_firstBy : MethodName := ⟨RX10, "firstBy", "(II)I"⟩
abbrev cX10_otherAt : ByteArray := prog_12_method_118_code
def yX10_otherAt : MethodName := ⟨RX10, "otherAt", "(I)I"⟩
abbrev cX10_laysForce : ByteArray := prog_12_method_119_code
def yX10_laysForce : MethodName := ⟨RX10, "laysForce", "(II)I"⟩
abbrev cX10_forces : ByteArray := prog_12_method_120_code
def yX10_forces : MethodName := ⟨RX10, "forces", "(II)I"⟩
abbrev cX10_best : ByteArray := prog_12_method_121_code
def yX10_best : MethodName := ⟨RX10, "best", "(II)I"⟩
abbrev cX10_laysLikely : ByteArray := prog_12_method_122_code
def yX10_laysLikely : MethodName := ⟨RX10, "laysLikely", "(I)V"⟩
abbrev cX10_wholeOf : ByteArray := prog_12_method_123_code
def yX10_wholeOf : MethodName := ⟨RX10, "wholeOf", "(I)J"⟩
abbrev cX10_common : ByteArray := prog_12_method_124_code
def yX10_common : MethodName := ⟨RX10, "common", "(JJ)J"⟩
abbrev cX10_part : ByteArray := prog_12_method_125_code
def yX10_part : MethodName := ⟨RX10, "part", "(JJI)I"⟩
abbrev cX10_chance : ByteArray := prog_12_method_126_code
def yX10_chance : MethodName := ⟨RX10, "chance", "(IIII)I"⟩
abbrev cX10_mean : ByteArray := prog_12_method_127_code
def yX10_mean : MethodName := ⟨RX10, "mean", "(II)I"⟩
abbrev cX10_cut : ByteArray := prog_12_method_128_code
def yX10_cut : MethodName := ⟨RX10, "cut", "(JI)J"⟩
abbrev cX10_numbers : ByteArray := prog_12_method_129_code
def yX10_numbers : MethodName := ⟨RX10, "numbers", "(III)I"⟩
abbrev cX10_write : ByteArray := prog_12_method_130_code
def yX10_write : MethodName := ⟨RX10, "write", "(IIJ)J"⟩
abbrev cX10_lists : ByteArray := prog_12_method_131_code
def yX10_lists : MethodName := ⟨RX10, "lists", "(II)I"⟩
abbrev cX10_image : ByteArray := prog_12_method_132_code
def yX10_image : MethodName := ⟨RX10, "image", "(I)I"⟩
abbrev cX10_restore : ByteArray := prog_12_method_133_code
def yX10_restore : MethodName := ⟨RX10, "restore", "(I)I"⟩
abbrev cX10_count : ByteArray := prog_12_method_134_code
def yX10_count : MethodName := ⟨RX10, "count", "(I)I"⟩
def RJx145de : String := "java/io/Serializable"
def RJx9f9b0 : String := "java/lang/CharSequence"
def RJ11 : String := "java/lang/Character"
abbrev cJ11_isValidCodePoint_9a6ad : ByteArray := prog_13_method_11_code
def yJ11_isValidCodePoint_9a6ad : MethodName := ⟨RJ11, "isValidCodePoint", "(I)Z"⟩
abbrev cJ11_highSurrogate_5068e : ByteArray := prog_13_method_28_code
def yJ11_highSurrogate_5068e : MethodName := ⟨RJ11, "highSurrogate", "(I)C"⟩
abbrev cJ11_lowSurrogate_5068e : ByteArray := prog_13_method_29_code
def yJ11_lowSurrogate_5068e : MethodName := ⟨RJ11, "lowSurrogate", "(I)C"⟩
def RJxb160c : String := "java/lang/Comparable"
def RJ6 : String := "java/lang/Integer"
abbrev cJ6_bitCount_0f7a4 : ByteArray := prog_14_method_49_code
def yJ6_bitCount_0f7a4 : MethodName := ⟨RJ6, "bitCount", "(I)I"⟩
def RJ9 : String := "java/lang/Math"
abbrev cJ9_max_7cf53 : ByteArray := prog_15_method_65_code
def yJ9_max_7cf53 : MethodName := ⟨RJ9, "max", "(II)I"⟩
abbrev cJ9_min_7cf53 : ByteArray := prog_15_method_69_code
def yJ9_min_7cf53 : MethodName := ⟨RJ9, "min", "(II)I"⟩
def RJ0 : String := "java/lang/String"
abbrev cJ0_length_8abf5 : ByteArray := prog_16_method_54_code
def yJ0_length_8abf5 : MethodName := ⟨RJ0, "length", "()I"⟩
abbrev cJ0_charAt_5068e : ByteArray := prog_16_method_56_code
def yJ0_charAt_5068e : MethodName := ⟨RJ0, "charAt", "(I)C"⟩
abbrev cJ0_indexOf_0f7a4 : ByteArray := prog_16_method_79_code
def yJ0_indexOf_0f7a4 : MethodName := ⟨RJ0, "indexOf", "(I)I"⟩
abbrev cJ0_indexOf_7cf53 : ByteArray := prog_16_method_80_code
def yJ0_indexOf_7cf53 : MethodName := ⟨RJ0, "indexOf", "(II)I"⟩
abbrev cJ0_coder_7d493 : ByteArray := prog_16_method_152_code
def yJ0_coder_7d493 : MethodName := ⟨RJ0, "coder", "()B"⟩
abbrev cJ0_isLatin1_aae02 : ByteArray := prog_16_method_154_code
def yJ0_isLatin1_aae02 : MethodName := ⟨RJ0, "isLatin1", "()Z"⟩
abbrev cJ0_checkIndex_df160 : ByteArray := prog_16_method_155_code
def yJ0_checkIndex_df160 : MethodName := ⟨RJ0, "checkIndex", "(II)V"⟩
abbrev cJ0_checkBoundsBeginEnd_23922 : ByteArray := prog_16_method_158_code
def yJ0_checkBoundsBeginEnd_23922 : MethodName := ⟨RJ0, "checkBoundsBeginEnd", "(III)V"⟩
def RJ1 : String := "java/lang/StringLatin1"
abbrev cJ1_charAt_3b067 : ByteArray := prog_17_method_2_code
def yJ1_charAt_3b067 : MethodName := ⟨RJ1, "charAt", "([BI)C"⟩
abbrev cJ1_canEncode_9a6ad : ByteArray := prog_17_method_4_code
def yJ1_canEncode_9a6ad : MethodName := ⟨RJ1, "canEncode", "(I)Z"⟩
abbrev cJ1_indexOf_4cfef : ByteArray := prog_17_method_22_code
def yJ1_indexOf_4cfef : MethodName := ⟨RJ1, "indexOf", "([BIII)I"⟩
abbrev cJ1_indexOfChar_4cfef : ByteArray := prog_17_method_23_code
def yJ1_indexOfChar_4cfef : MethodName := ⟨RJ1, "indexOfChar", "([BIII)I"⟩
def RJ2 : String := "java/lang/StringUTF16"
abbrev cJ2_getChar_3b067 : ByteArray := prog_18_method_5_code
def yJ2_getChar_3b067 : MethodName := ⟨RJ2, "getChar", "([BI)C"⟩
abbrev cJ2_length_9d52b : ByteArray := prog_18_method_6_code
def yJ2_length_9d52b : MethodName := ⟨RJ2, "length", "([B)I"⟩
abbrev cJ2_indexOf_4cfef : ByteArray := prog_18_method_40_code
def yJ2_indexOf_4cfef : MethodName := ⟨RJ2, "indexOf", "([BIII)I"⟩
abbrev cJ2_indexOfChar_4cfef : ByteArray := prog_18_method_47_code
def yJ2_indexOfChar_4cfef : MethodName := ⟨RJ2, "indexOfChar", "([BIII)I"⟩
abbrev cJ2_indexOfCharUnsafe_4cfef : ByteArray := prog_18_method_48_code
def yJ2_indexOfCharUnsafe_4cfef : MethodName := ⟨RJ2, "indexOfCharUnsafe", "([BIII)I"⟩
abbrev cJ2_indexOfSupplementary_4cfef : ByteArray := prog_18_method_49_code
def yJ2_indexOfSupplementary_4cfef : MethodName := ⟨RJ2, "indexOfSupplementary", "([BIII)I"⟩
abbrev cJ2_charAt_3b067 : ByteArray := prog_18_method_83_code
def yJ2_charAt_3b067 : MethodName := ⟨RJ2, "charAt", "([BI)C"⟩
abbrev cJ2_checkIndex_2214a : ByteArray := prog_18_method_91_code
def yJ2_checkIndex_2214a : MethodName := ⟨RJ2, "checkIndex", "(I[B)V"⟩
abbrev cJ2_checkBoundsBeginEnd_d044e : ByteArray := prog_18_method_93_code
def yJ2_checkBoundsBeginEnd_d044e : MethodName := ⟨RJ2, "checkBoundsBeginEnd", "(II[B)V"⟩
def RJ10 : String := "java/lang/System"
def RJxfd54e : String := "java/lang/constant/Constable"
def RJx3cf43 : String := "java/lang/constant/ConstantDesc"
def RJ7 : String := "java/util/Arrays"
abbrev cJ7_rangeCheck_23922 : ByteArray := prog_20_method_30_code
def yJ7_rangeCheck_23922 : MethodName := ⟨RJ7, "rangeCheck", "(III)V"⟩
abbrev cJ7_fill_d0a16 : ByteArray := prog_20_method_101_code
def yJ7_fill_d0a16 : MethodName := ⟨RJ7, "fill", "([JJ)V"⟩
abbrev cJ7_fill_53178 : ByteArray := prog_20_method_103_code
def yJ7_fill_53178 : MethodName := ⟨RJ7, "fill", "([II)V"⟩
abbrev cJ7_fill_fda19 : ByteArray := prog_20_method_104_code
def yJ7_fill_fda19 : MethodName := ⟨RJ7, "fill", "([IIII)V"⟩
def RJ3 : String := "jdk/internal/util/Preconditions"
abbrev cJ3_checkIndex_8e157 : ByteArray := prog_21_method_11_code
def yJ3_checkIndex_8e157 : MethodName := ⟨RJ3, "checkIndex", "(IILjava/util/function/BiFunction;)I"⟩
abbrev cJ3_checkFromToIndex_8c36e : ByteArray := prog_21_method_12_code
def yJ3_checkFromToIndex_8c36e : MethodName := ⟨RJ3, "checkFromToIndex", "(IIILjava/util/function/BiFunction;)I"⟩
def RL : String := "BeaconDelayLaw"
abbrev cL_law : ByteArray := code
def yL_law : MethodName := ⟨RL, "law", "([I)Z"⟩
abbrev vwCl : List vw_C := [(RX0, TX0, 2), (RX1, TX1, 18), (RX2, TX2, 7), (RX3, TX3, 5), (RX4, TX4, 6), (RX5, TX5, 4), (RX6, TX6, 9), (RX7, TX7, 3), (RX8, TX8, 17), (RX9, TX9, 15), (RX10, TX10, 40)]

def gw : List Cond := lw_tbl.filter goodWord
theorem gw_m {w : Cond} (h : w ∈ lw_tbl) (hg : goodWord w = true) : w ∈ gw := List.mem_filter.mpr ⟨h, hg⟩
theorem gw_lw : ∀ w ∈ gw, w ∈ lw_tbl := fun _ h => (List.mem_filter.mp h).1
theorem gw_s {i : Nat} {w : Cond} (h : (k2_sels lw_privs)[i]? = some w) (hg : goodWord w = true) : w ∈ gw := gw_m (List.mem_append_left _ (List.mem_of_getElem? h)) hg
theorem gw_1 {i : Nat} {w : Cond} (h : tables_1_1[i]? = some w) (hg : goodWord w = true) : w ∈ gw := gw_m (List.mem_append_right _ (List.mem_append_left _ (List.mem_of_getElem? h))) hg
theorem gw_2 {i : Nat} {w : Cond} (h : tables_1_2[i]? = some w) (hg : goodWord w = true) : w ∈ gw := gw_m (List.mem_append_right _ (List.mem_append_right _ (List.mem_append_left _ (List.mem_of_getElem? h)))) hg
theorem gw_3 {i : Nat} {w : Cond} (h : tables_1_3[i]? = some w) (hg : goodWord w = true) : w ∈ gw := gw_m (List.mem_append_right _ (List.mem_append_right _ (List.mem_append_right _ (List.mem_append_left _ (List.mem_of_getElem? h))))) hg
theorem gw_4 {i : Nat} {w : Cond} (h : tables_1_4[i]? = some w) (hg : goodWord w = true) : w ∈ gw := gw_m (List.mem_append_right _ (List.mem_append_right _ (List.mem_append_right _ (List.mem_append_right _ (List.mem_append_left _ (List.mem_of_getElem? h)))))) hg
theorem gw_5 {i : Nat} {w : Cond} (h : tables_1_5[i]? = some w) (hg : goodWord w = true) : w ∈ gw := gw_m (List.mem_append_right _ (List.mem_append_right _ (List.mem_append_right _ (List.mem_append_right _ (List.mem_append_right _ (List.mem_append_left _ (List.mem_of_getElem? h))))))) hg
theorem gw_6 {i : Nat} {w : Cond} (h : tables_1_6[i]? = some w) (hg : goodWord w = true) : w ∈ gw := gw_m (List.mem_append_right _ (List.mem_append_right _ (List.mem_append_right _ (List.mem_append_right _ (List.mem_append_right _ (List.mem_append_right _ (List.mem_append_left _ (List.mem_of_getElem? h)))))))) hg
theorem gw_7 {i : Nat} {w : Cond} (h : tables_1_7[i]? = some w) (hg : goodWord w = true) : w ∈ gw := gw_m (List.mem_append_right _ (List.mem_append_right _ (List.mem_append_right _ (List.mem_append_right _ (List.mem_append_right _ (List.mem_append_right _ (List.mem_append_right _ (List.mem_append_left _ (List.mem_of_getElem? h))))))))) hg
theorem gw_8 {i : Nat} {w : Cond} (h : tables_1_8[i]? = some w) (hg : goodWord w = true) : w ∈ gw := gw_m (List.mem_append_right _ (List.mem_append_right _ (List.mem_append_right _ (List.mem_append_right _ (List.mem_append_right _ (List.mem_append_right _ (List.mem_append_right _ (List.mem_append_right _ ((List.mem_of_getElem? h)))))))))) hg
theorem gw_good {cd : Cond} (h : cd ∈ gw) : GoodIn gw (cd :: gw) := fun w hw => by
  have hm : w ∈ gw := by
    rcases List.mem_cons.mp hw with h2 | h2
    · rw [h2]; exact h
    · exact h2
  exact ⟨hm, good_of_word (List.mem_filter.mp hm).2⟩
theorem subP {D : va_G} {cl : List vw_C} {ws ws' : va_W} {H : Heap} (h : va_P D cl ws H) (is : List Nat) (hs : is.map (fun i => ws[i]?) = ws'.map some) : va_P D cl ws' H := by
  intro k q hk
  have h1 : (is.map (fun i => ws[i]?))[k]? = some (some q) := by rw [hs, List.getElem?_map, hk]; rfl
  rw [List.getElem?_map] at h1
  cases hi : is[k]? with
  | none => rw [hi] at h1; cases h1
  | some i => rw [hi] at h1; exact h i q (Option.some.inj h1)
theorem raFc {U : State} {cA : ClassId} {ty : FieldType} (h : va_RA U cA ty) : U.vm.findClass ("[" ++ ty.toString) = some cA := by
  cases ty with
  | object C => obtain ⟨kA, comp, h1, h2, h3, h4⟩ := h; exact h4
  | _ => exact h
abbrev GV : Type := va_G × (Nat → ClassId) × Nat × Nat
def tyV (V : GV) : List (ClassId × FieldType) := [(V.2.1 0, .int), (V.2.1 1, .byte), (V.2.1 2, .long), (V.2.1 3, .boolean), (V.2.1 4, .object "BeaconDelay$Tray"), (V.2.1 5, .object "BeaconDelay$Image")]
abbrev aI (V : GV) (n : Nat) (f : Nat → Int32) : va_E := .inl (V.2.1 0, n, .inl f)
abbrev aB (V : GV) (n : Nat) (f : Nat → Int32) : va_E := .inl (V.2.1 1, n, .inl f)
abbrev aJ (V : GV) (n : Nat) (f : Nat → Int64) : va_E := .inl (V.2.1 2, n, .inr (.inl f))
abbrev aZ (V : GV) (n : Nat) (f : Nat → Int32) : va_E := .inl (V.2.1 3, n, .inl f)
abbrev aT (V : GV) (n : Nat) (f : Nat → Option Nat) : va_E := .inl (V.2.1 4, n, .inr (.inr (.inr (.inr f))))
abbrev aM (V : GV) (n : Nat) (f : Nat → Option Nat) : va_E := .inl (V.2.1 5, n, .inr (.inr (.inr (.inr f))))
def pw (k : Nat) : Int32 := [1, 10, 100, 1000, 10000].getD k 0
def mmt (k : Nat) : Int32 := [1, 6, 46, 406, 3646].getD k 0
def nM : List (String × Nat × MethodName) := [("BeaconDelay", 15, yX1_init), ("BeaconDelay$Reader", 11, yX1_init), ("BeaconDelay", 40, yX0_init), ("BeaconDelay", 47, yX5_init), ("BeaconDelay", 68, yX7_init), ("BeaconDelay", 69, yX3_init), ("BeaconDelay$Image", 9, yX1_init), ("BeaconDelay$Ways", 94, yX9_stackIn), ("BeaconDelay$Forcing", 67, yX9_stackIn)]
def nF : List (String × Nat × String × String) := [("BeaconDelay$Reader", 128, "POWER", "[I"), ("BeaconDelay$Laws", 43, "POWER", "[I"), ("BeaconDelay$Ways", 23, "MOST_MET", "[I"), ("BeaconDelay$Ways", 35, "POWER", "[I")]
def nS : List (Nat × String) := [(53, "coast"), (59, "weather"), (68, ";")]
def sL : List (String × Nat × String × List Int32) := [("BeaconDelay$Reader", 254, ";:+-*()[]=<>", [59, 58, 43, 45, 42, 40, 41, 91, 93, 61, 60, 62]), ("BeaconDelay$Reader", 53, "coast", [99, 111, 97, 115, 116]), ("BeaconDelay$Reader", 59, "weather", [119, 101, 97, 116, 104, 101, 114]), ("BeaconDelay$Reader", 68, ";", [59]), ("BeaconDelay$Reader", 76, "hill", [104, 105, 108, 108]), ("BeaconDelay$Reader", 112, "stack", [115, 116, 97, 99, 107]), ("BeaconDelay$Reader", 114, "fear", [102, 101, 97, 114]), ("BeaconDelay$Reader", 122, "gap", [103, 97, 112]), ("BeaconDelay$Reader", 123, "took", [116, 111, 111, 107]), ("BeaconDelay$Reader", 85, "village", [118, 105, 108, 108, 97, 103, 101]), ("BeaconDelay$Reader", 134, "needs", [110, 101, 101, 100, 115]), ("BeaconDelay$Reader", 90, "road", [114, 111, 97, 100]), ("BeaconDelay$Reader", 147, "carries", [99, 97, 114, 114, 105, 101, 115]), ("BeaconDelay$Reader", 95, "takes", [116, 97, 107, 101, 115]), ("BeaconDelay$Reader", 151, ":", [58]), ("BeaconDelay$Reader", 187, "not", [110, 111, 116]), ("BeaconDelay$Reader", 189, "[", [91]), ("BeaconDelay$Reader", 191, "]", [93]), ("BeaconDelay$Reader", 214, "if", [105, 102]), ("BeaconDelay$Reader", 216, "(", [40]), ("BeaconDelay$Reader", 218, "then", [116, 104, 101, 110]), ("BeaconDelay$Reader", 220, "else", [101, 108, 115, 101]), ("BeaconDelay$Reader", 222, "end", [101, 110, 100]), ("BeaconDelay$Reader", 223, ")", [41]), ("BeaconDelay$Reader", 228, "west", [119, 101, 115, 116]), ("BeaconDelay$Reader", 230, "seen", [115, 101, 101, 110]), ("BeaconDelay$Reader", 209, "*", [42]), ("BeaconDelay$Reader", 202, "+", [43]), ("BeaconDelay$Reader", 204, "-", [45]), ("BeaconDelay$Reader", 193, "=", [61]), ("BeaconDelay$Reader", 195, "<", [60]), ("BeaconDelay$Reader", 197, ">", [62]), ("BeaconDelay$Reader", 185, "and", [97, 110, 100]), ("BeaconDelay$Reader", 177, "or", [111, 114]), ("BeaconDelay$Reader", 100, "adds", [97, 100, 100, 115]), ("BeaconDelayModel", 103, " coast weather hill stack fear gap took village needs road carries takes adds if then else end west seen and or not ", [32, 99, 111, 97, 115, 116, 32, 119, 101, 97, 116, 104, 101, 114, 32, 104, 105, 108, 108, 32, 115, 116, 97, 99, 107, 32, 102, 101, 97, 114, 32, 103, 97, 112, 32, 116, 111, 111, 107, 32, 118, 105, 108, 108, 97, 103, 101, 32, 110, 101, 101, 100, 115, 32, 114, 111, 97, 100, 32, 99, 97, 114, 114, 105, 101, 115, 32, 116, 97, 107, 101, 115, 32, 97, 100, 100, 115, 32, 105, 102, 32, 116, 104, 101, 110, 32, 101, 108, 115, 101, 32, 101, 110, 100, 32, 119, 101, 115, 116, 32, 115, 101, 101, 110, 32, 97, 110, 100, 32, 111, 114, 32, 110, 111, 116, 32]), ("BeaconDelayModel", 141, ";:+-*()[]=<>", [59, 58, 43, 45, 42, 40, 41, 91, 93, 61, 60, 62])]
def Sx (V : GV) (A : Nat → Prop) (U : State) (H : Heap) : Prop := ∀ (i : Nat) (q : String × Nat × String × List Int32), sL[i]? = some q → vk_R q.1 q.2.1 q.2.2.1 (V.2.1 (100 + i)) U ∧ va_O "java/lang/String" (V.2.1 (100 + i)) A U H ∧ va_OF "java/lang/String" "coder" "B" (.int 0) (V.2.1 (100 + i)) A U H ∧ va_OF "java/lang/String" "value" "[B" (.ref (V.2.1 (200 + i))) (V.2.1 (100 + i)) A U H ∧ va_T .byte (V.2.1 (200 + i)) q.2.2.2.length (fun j => .int (q.2.2.2.getD j 0)) A U H
theorem Sx.kept {V : GV} {A : Nat → Prop} {U : State} {H H1 : Heap} (h : Sx V A U H) (hq : ∀ a : Nat, a < H.size → ¬ A a → H1[a]? = H[a]?) : Sx V A U H1 := fun i q hi => ⟨(h i q hi).1, (h i q hi).2.1.kept hq, (h i q hi).2.2.1.kept hq, (h i q hi).2.2.2.1.kept hq, (h i q hi).2.2.2.2.kept hq⟩
theorem Sx.narrow {V : GV} {A B : Nat → Prop} {U : State} {H : Heap} (h : Sx V A U H) (hAB : ∀ q, B q → A q) : Sx V B U H := fun i q hi => ⟨(h i q hi).1, (h i q hi).2.1.narrow hAB, (h i q hi).2.2.1.narrow hAB, (h i q hi).2.2.2.1.narrow hAB, (h i q hi).2.2.2.2.narrow hAB⟩
theorem Sx.warm {V : GV} {A : Nat → Prop} {s U : State} {H : Heap} (hW : s.WarmedH U.vm) (h : Sx V A s H) : Sx V A U H := fun i q hi => ⟨(h i q hi).1.warm hW, (h i q hi).2.1.moved hW.alike, (h i q hi).2.2.1.moved hW.alike, (h i q hi).2.2.2.1.moved hW.alike, (h i q hi).2.2.2.2.moved hW.alike⟩
theorem Sx.same {V : GV} {A : Nat → Prop} {u U : State} {H : Heap} (hv : U.vm = u.vm) (h : Sx V A u H) : Sx V A U H := by
  have ha : u.vm.Alike U.vm := by rw [hv]; exact Vm.Alike.refl _
  exact fun i q hi => ⟨vk_R.same hv (h i q hi).1, (h i q hi).2.1.moved ha, (h i q hi).2.2.1.moved ha, (h i q hi).2.2.2.1.moved ha, (h i q hi).2.2.2.2.moved ha⟩
def En (V : GV) (A : Nat → Prop) (U : State) (H : Heap) : Prop :=
  (va_Z "BeaconDelay" "POWER" "[I" (.ref V.2.2.1) A U H ∧ va_T .int V.2.2.1 5 (fun j => .int (pw j)) A U H) ∧ (va_Z "BeaconDelay" "MOST_MET" "[I" (.ref V.2.2.2) A U H ∧ va_T .int V.2.2.2 5 (fun j => .int (mmt j)) A U H) ∧
  (va_AO "BeaconDelay$Tray" U ∧ va_AO "BeaconDelay$Image" U) ∧ (∀ q ∈ nM, va_Nw (.methodLinkNest q.1 q.2.1 q.2.2 "BeaconDelay") U) ∧ (∀ q ∈ nF, va_Nw (.fieldLinkNest q.1 q.2.1 "BeaconDelay" q.2.2.1 q.2.2.2 "BeaconDelay") U) ∧ ((va_Z "java/lang/String" "COMPACT_STRINGS" "Z" (.int 1) A U H ∧ va_Zq "jdk/internal/util/Preconditions" "SIOOBE_FORMATTER" "Ljava/util/function/BiFunction;" A U H) ∧ Sx V A U H)
theorem En.kept {V : GV} {A : Nat → Prop} {U : State} {H H1 : Heap} (h : En V A U H) (hq : ∀ a : Nat, a < H.size → ¬ A a → H1[a]? = H[a]?) : En V A U H1 :=
  ⟨⟨h.1.1.kept hq, h.1.2.kept hq⟩, ⟨h.2.1.1.kept hq, h.2.1.2.kept hq⟩, h.2.2.1, h.2.2.2.1, h.2.2.2.2.1, ⟨h.2.2.2.2.2.1.1.kept hq, h.2.2.2.2.2.1.2.kept hq⟩, h.2.2.2.2.2.2.kept hq⟩
theorem En.narrow {V : GV} {A B : Nat → Prop} {U : State} {H : Heap} (h : En V A U H) (hAB : ∀ q, B q → A q) : En V B U H :=
  ⟨⟨h.1.1.narrow hAB, h.1.2.narrow hAB⟩, ⟨h.2.1.1.narrow hAB, h.2.1.2.narrow hAB⟩, h.2.2.1, h.2.2.2.1, h.2.2.2.2.1, ⟨h.2.2.2.2.2.1.1.narrow hAB, h.2.2.2.2.2.1.2.narrow hAB⟩, h.2.2.2.2.2.2.narrow hAB⟩
theorem En.warm {V : GV} {A : Nat → Prop} {s U : State} {H : Heap} (hW : s.WarmedH U.vm) (h : En V A s H) : En V A U H :=
  ⟨⟨h.1.1.moved hW.alike, h.1.2.moved hW.alike⟩, ⟨h.2.1.1.moved hW.alike, h.2.1.2.moved hW.alike⟩, ⟨h.2.2.1.1.moved hW.alike, h.2.2.1.2.moved hW.alike⟩, fun q hq => (h.2.2.2.1 q hq).warmM hW, fun q hq => (h.2.2.2.2.1 q hq).warmF hW, ⟨h.2.2.2.2.2.1.1.moved hW.alike, h.2.2.2.2.2.1.2.moved hW.alike⟩, h.2.2.2.2.2.2.warm hW⟩
theorem En.same {V : GV} {A : Nat → Prop} {u U : State} {H : Heap} (hv : U.vm = u.vm) (h : En V A u H) : En V A U H := by
  have ha : u.vm.Alike U.vm := by rw [hv]; exact Vm.Alike.refl _
  exact ⟨⟨h.1.1.moved ha, h.1.2.moved ha⟩, ⟨h.2.1.1.moved ha, h.2.1.2.moved ha⟩, ⟨h.2.2.1.1.moved ha, h.2.2.1.2.moved ha⟩, fun q hq => va_Nw.same rfl hv.symm (h.2.2.2.1 q hq), fun q hq => va_Nw.same rfl hv.symm (h.2.2.2.2.1 q hq), ⟨h.2.2.2.2.2.1.1.moved ha, h.2.2.2.2.2.1.2.moved ha⟩, h.2.2.2.2.2.2.same hv⟩
theorem En.call {V : GV} {A B : Nat → Prop} {s U : State} {H : Heap} {locs : List Loc} (h : En V A s s.heap) (hS : va_S A s.heap H locs) (hAB : ∀ q, B q → A q) (hU : U.heap = H) (hW : s.WarmedH U.vm) : En V B U U.heap := by
  rw [hU]; exact ((h.kept hS.2.1).narrow hAB).warm hW
def PcV (V : GV) (wc : va_W) (sz : Nat) (U : State) : Prop := U.heap.size = sz ∧ va_P V.1 vwCl wc U.heap ∧ va_K V.1 vwCl (tyV V) U ∧ va_D (fun _ => True) wc ∧ En V (va_A wc sz) U U.heap
def Bw (V : GV) (A : Nat → Prop) (w : va_W) (t : State) : Prop := va_P V.1 vwCl w t.heap ∧ va_K V.1 vwCl (tyV V) t ∧ va_D A w
def rmk (k mc ms : Nat) : Room := { frames := k, cells := mc, slots := ms, locals := 40 * k }
def Ct (l : Launch) (V : GV) (y : MethodName) (cd : Cond) (k : Nat) (As : List Value) (wc : va_W) (mc ms : Nat) (Qc : (Nat → Prop) → Array Value → State → Outcome → State → Prop) : Prop := ∀ sz : Nat, Met l y (cd :: gw) (rmk k mc ms) (va_Pc As (PcV V wc sz)) (Qc (va_A wc sz)) mc ms (va_A wc sz)
def QI (V : GV) (post : Int32 → va_W → Prop) (A : Nat → Prop) : Array Value → State → Outcome → State → Prop := va_Qi post (Bw V A) A
def QL (V : GV) (post : Int64 → va_W → Prop) (A : Nat → Prop) : Array Value → State → Outcome → State → Prop := va_Ql post (Bw V A) A
def QV (V : GV) (post : va_W → Prop) (A : Nat → Prop) : Array Value → State → Outcome → State → Prop := va_Qv post (Bw V A) A
def QR (V : GV) (post : Nat → va_W → Prop) (A : Nat → Prop) : Array Value → State → Outcome → State → Prop := va_Qr (S := va_W × Nat) (fun u => post u.2 u.1) (fun u a t => u.2 = a ∧ Bw V A u.1 t) A
theorem PcV.blind {V : GV} {As : List Value} {wc : va_W} {sz : Nat} : FrameBlind (va_Pc As (PcV V wc sz)) := fun a U g mk q => by
  obtain ⟨q0, q1, qP, qK, qD, qE⟩ := q
  exact ⟨q0, q1, qP, va_K.moved (u := U) (U := U.calling g mk a) (Vm.Alike.refl U.vm) qK, qD, En.same (u := U) (U := U.calling g mk a) rfl qE⟩
/-- a contract out of a walk -/
theorem Ct.of {l : Launch} {V : GV} {y : MethodName} {cc : ByteArray} {nL : Nat} {ret : Option FieldType} {k mc ms : Nat} {As : List Value} {wc : va_W} {Qc : (Nat → Prop) → Array Value → State → Outcome → State → Prop} (hy : plainName y.cls = true) (hlen : (lg_sl As).length ≤ nL)
    (h : ∀ (p : Program) (e : Env) (s : State) (m : MethodId) (below : List Frame) (meth : Method) (c : Code) (A : Nat → Prop) (ls : Array Slot), p.tables.exec = Jvm.exec → c.code = cc → meth.sig.returnType = ret → c.maxLocals = nL → s.vm.findClass y.cls = some m.cls → meth.locks = false → meth.name = y.name → (∀ w ∈ gw, w.before As.toArray s = true) → va_P V.1 vwCl wc s.heap → va_K V.1 vwCl (tyV V) s → va_D A wc → En V A s s.heap → (∀ q : Nat, s.heap.size ≤ q → A q) → va_S A s.heap s.heap [] → lv_has ls nL (lv_args 0 As) →
      W p l e (rmk k mc ms) s m As.toArray below meth c s.heap [] 0 0 (MQ below (Qc A) As.toArray s mc ms A) (F0 m 0 ls [])) : Ct l V y (.code y cc nL ret) k As wc mc ms Qc := by
  intro sz
  refine Met.ofW (cc := cc) (maxL := nL) (ret := ret) hy rfl ?_
  intro p e s m args below meth c s₁ B hml hv
  obtain ⟨rfl, hsz, hP, hK, hD0, hE⟩ := hv
  subst hsz
  have hts := atoms_spec (ws := Cond.code y cc nL ret :: gw) B.pre
  have hl := lv_entry As (n := nL) hlen
  rw [lg_entry_eq]
  exact h p e s m below meth c _ _ B.exec B.bytes B.returns hml (findClass_of_methodNamed B.named) B.notSynchronized ((name_of_methodNamed B.named B.method).1) (fun w hw => hts w (List.mem_cons_of_mem _ hw)) hP hK hD0.self hE (fun q h => Or.inr h) va_S.rf hl
section FIN
variable {p : Program} {l : Launch} {e : Env} {R : Room} {s : State} {m : MethodId} {args : Array Value} {below : List Frame} {meth : Method} {c : Code} {H : Heap} {locs : List Loc} {cells slots mc ms : Nat} {V : GV} {A : Nat → Prop} {w : va_W} {cc : ByteArray} {pc : Nat} {ls : Array Slot} {st : List Value} {Q : State → Prop}
theorem fiI {v : Int32} {post : Int32 → va_W → Prop} (hx : p.tables.exec = Jvm.exec) (hb : c.code = cc) (hr : meth.sig.returnType = some .int) (hlk : meth.locks = false) (hK : va_K V.1 vwCl (tyV V) s) (hP : va_P V.1 vwCl w H) (hD : va_D A w) (hS : va_S A s.heap H locs) (hdg : decode cc pc = .ok (.ireturn, 1)) (hc : cells ≤ mc) (hs : slots ≤ ms) (hp : post v w) :
    W p l e R s m args below meth c H locs cells slots (MQ below (QI V post A) args s mc ms A) (F0 m pc ls [.int v]) :=
  W.widen hc hs (W.iret hx hb hr (fun t ht hW => ⟨⟨v, w, rfl, hp, by rw [ht]; exact hP, va_K.moved hW.alike hK, hD⟩, hS.F ht⟩) hS.2.2 hdg hlk)
theorem fiZ {v : Int32} {post : Int32 → va_W → Prop} (hn : narrow .boolean (.int v) = .int v) (hx : p.tables.exec = Jvm.exec) (hb : c.code = cc) (hr : meth.sig.returnType = some .boolean) (hlk : meth.locks = false) (hK : va_K V.1 vwCl (tyV V) s) (hP : va_P V.1 vwCl w H) (hD : va_D A w) (hS : va_S A s.heap H locs) (hdg : decode cc pc = .ok (.ireturn, 1)) (hc : cells ≤ mc) (hs : slots ≤ ms) (hp : post v w) :
    W p l e R s m args below meth c H locs cells slots (MQ below (QI V post A) args s mc ms A) (F0 m pc ls [.int v]) :=
  W.widen hc hs (W.zret hx hb hr hn (fun t ht hW => ⟨⟨v, w, rfl, hp, by rw [ht]; exact hP, va_K.moved hW.alike hK, hD⟩, hS.F ht⟩) hS.2.2 hdg hlk)
theorem fiL {v : Int64} {post : Int64 → va_W → Prop} (hx : p.tables.exec = Jvm.exec) (hb : c.code = cc) (hr : meth.sig.returnType = some .long) (hlk : meth.locks = false) (hK : va_K V.1 vwCl (tyV V) s) (hP : va_P V.1 vwCl w H) (hD : va_D A w) (hS : va_S A s.heap H locs) (hdg : decode cc pc = .ok (.lreturn, 1)) (hc : cells ≤ mc) (hs : slots ≤ ms) (hp : post v w) :
    W p l e R s m args below meth c H locs cells slots (MQ below (QL V post A) args s mc ms A) (F0 m pc ls [.long v]) :=
  W.widen hc hs (W.lret hx hb hr (fun t ht hW => ⟨⟨v, w, rfl, hp, by rw [ht]; exact hP, va_K.moved hW.alike hK, hD⟩, hS.F ht⟩) hS.2.2 hdg hlk)
theorem fiV {post : va_W → Prop} (hx : p.tables.exec = Jvm.exec) (hb : c.code = cc) (hr : meth.sig.returnType = none) (hlk : meth.locks = false) (hK : va_K V.1 vwCl (tyV V) s) (hP : va_P V.1 vwCl w H) (hD : va_D A w) (hS : va_S A s.heap H locs) (hdg : decode cc pc = .ok (.return_, 1)) (hc : cells ≤ mc) (hs : slots ≤ ms) (hp : post w) :
    W p l e R s m args below meth c H locs cells slots (MQ below (QV V post A) args s mc ms A) (F0 m pc ls []) :=
  W.widen hc hs (W.vret hx hb hr (fun t ht hW => ⟨⟨w, rfl, hp, by rw [ht]; exact hP, va_K.moved hW.alike hK, hD⟩, hS.F ht⟩) hS.2.2 hdg hlk)
theorem fiR {v : Nat} {post : Nat → va_W → Prop} {rt : FieldType} (hrt : (∃ n, rt = .object n) ∨ ∃ t, rt = .array t) (hx : p.tables.exec = Jvm.exec) (hb : c.code = cc) (hr : meth.sig.returnType = some rt) (hlk : meth.locks = false) (hK : va_K V.1 vwCl (tyV V) s) (hP : va_P V.1 vwCl w H) (hD : va_D A w) (hS : va_S A s.heap H locs) (hdg : decode cc pc = .ok (.areturn, 1)) (hc : cells ≤ mc) (hs : slots ≤ ms) (hp : post v w) :
    W p l e R s m args below meth c H locs cells slots (MQ below (QR V post A) args s mc ms A) (F0 m pc ls [.ref v]) :=
  W.widen hc hs (W.aret (v := .ref v) hx hb hr hrt (Or.inr ⟨v, rfl⟩) (fun t ht hW => ⟨⟨(w, v), v, rfl, hp, rfl, by rw [ht]; exact hP, va_K.moved hW.alike hK, hD⟩, hS.F ht⟩) hS.2.2 hdg hlk)
theorem tpi {x y : Int32} (h : x = y) (k : W p l e R s m args below meth c H locs cells slots Q (F0 m pc ls (.int y :: st))) : W p l e R s m args below meth c H locs cells slots Q (F0 m pc ls (.int x :: st)) := h ▸ k
theorem tpl {x y : Int64} (h : x = y) (k : W p l e R s m args below meth c H locs cells slots Q (F0 m pc ls (.long y :: st))) : W p l e R s m args below meth c H locs cells slots Q (F0 m pc ls (.long x :: st)) := h ▸ k
theorem vin {i : Int32} {n : Nat} (h : decide (¬ (i < 0 ∨ n ≤ i.toNatClampNeg)) = true) : vp_in i n := by unfold vp_in; exact of_decide_eq_true h
end FIN
def MtB (y : MethodName) (bytes : ByteArray) (nL : Nat) (ret : Option FieldType) (n : Nat) : Prop := Cond.code y bytes nL ret ∈ gw ∧ Cond.initialized y.cls ∈ gw ∧ (y.cls ≠ "java/lang/invoke/MethodHandle" ∧ y.cls ≠ "java/lang/invoke/VarHandle" ∧ (parseMethodDescriptor y.desc).map (fun d => d.parameters.length) = some n)
def MtV (y : MethodName) (bytes : ByteArray) (nL : Nat) (ret : Option FieldType) (n : Nat) : Prop := MtB y bytes nL ret n ∧ Cond.instanceMethod y ∈ gw ∧ Cond.selects y.cls y y ∈ gw
def MtS (y : MethodName) (bytes : ByteArray) (nL : Nat) (ret : Option FieldType) (n : Nat) : Prop := MtB y bytes nL ret n ∧ Cond.static y ∈ gw
def MtI (y : MethodName) (bytes : ByteArray) (nL : Nat) (ret : Option FieldType) (n : Nat) : Prop := MtB y bytes nL ret n ∧ y.name = "<init>" ∧ Cond.instanceMethod y ∈ gw
section CALL
variable {p : Program} {l : Launch} {e : Env} {R : Room} {s : State} {m : MethodId} {args : Array Value} {below : List Frame} {meth : Method} {c : Code} {H : Heap} {locs : List Loc} {cells slots mc ms : Nat} {V : GV} {A : Nat → Prop} {ws wc wr : va_W} {cc bytes : ByteArray} {pc nL mL n k index : Nat} {ls : Array Slot} {st rest As : List Value} {own : String} {y : MethodName} {b : Nat} {ret : Option FieldType} {Qc : (Nat → Prop) → Array Value → State → Outcome → State → Prop} {Q : State → Prop}
theorem preV (hK : va_K V.1 vwCl (tyV V) s) (hP : va_P V.1 vwCl ws H) (hD : va_D A ws) (hS : va_S A s.heap H locs) (hA : ∀ q : Nat, s.heap.size ≤ q → A q) (hE : En V A s s.heap) (isC : List Nat) (hn : va_nd isC = true) (hC : isC.map (fun i => ws[i]?) = wc.map some) : ∀ U : State, U.heap = H → s.WarmedH U.vm → va_Pc As (PcV V wc H.size) As.toArray U :=
  fun U hU hW => ⟨rfl, by rw [hU], by rw [hU]; exact subP hP isC hC, va_K.moved hW.alike hK, (hD.sub isC hn hC).weaken (fun _ _ _ _ => trivial), hE.call hS (va_free hD hS hA isC hC) hU hW⟩
theorem rnV (hF : CallFix p m c cc nL s args gw own) (hM : Ct l V y (.code y bytes mL ret) k (.ref b :: As) wc mc ms Qc) (hm : MtV y bytes mL ret n) (hl : Cond.methodLink own index y ∈ gw) (hk : k + 1 ≤ R.frames ∧ 8 + (mL + 11) + 40 * k ≤ R.locals) (hK : va_K V.1 vwCl (tyV V) s) (hP : va_P V.1 vwCl ws H) (hD : va_D A ws) (hS : va_S A s.heap H locs) (hA : ∀ q : Nat, s.heap.size ≤ q → A q) (hE : En V A s s.heap) (isC : List Nat) (hn : va_nd isC = true) (hC : isC.map (fun i => ws[i]?) = wc.map some)
    (q0 : Nat) {ci : Nat} {fs : List Value} {qc : vw_C} (he : ws[q0]? = some (b, .inr (ci, fs))) (hci : vwCl[ci]? = some qc) (hqc : qc.1 = y.cls) (hal : As.length = n) (hlz : ls.size = nL) (hst : st = As.reverse ++ .ref b :: rest) (hro : (rest.map fun v => v.category).sum ≤ 8) (hdg : decode cc pc = .ok (.invokevirtual index, 3)) (hf : cells + mc ≤ R.cells ∧ slots + ms ≤ R.slots) :
    va_Run p l e R s m args below meth c H locs cells slots mc ms (F0 m pc ls st) rest (Qc (va_A wc H.size) (Value.ref b :: As).toArray) (va_A wc H.size) := by
  have hg := hF.2.2.2.2
  have hr := va_recv hK hP hci he
  rw [hqc] at hr
  exact va_runV hF (hM H.size) ⟨callB_of n hg (gw_good hm.1.1) rfl rfl rfl (hg _ hm.1.2.1) (hg _ hl) hm.1.2.2 hk, hg _ hm.2.1, hg _ hm.2.2⟩ ⟨PcV.blind, hr, preV hK hP hD hS hA hE isC hn hC⟩ rfl hal hlz hst (lv_room hro) hdg hf
theorem rnS (hF : CallFix p m c cc nL s args gw own) (hM : Ct l V y (.code y bytes mL ret) k As wc mc ms Qc) (hm : MtS y bytes mL ret n) (hl : Cond.methodLink own index y ∈ gw) (hk : k + 1 ≤ R.frames ∧ 8 + (mL + 11) + 40 * k ≤ R.locals) (hK : va_K V.1 vwCl (tyV V) s) (hP : va_P V.1 vwCl ws H) (hD : va_D A ws) (hS : va_S A s.heap H locs) (hA : ∀ q : Nat, s.heap.size ≤ q → A q) (hE : En V A s s.heap) (isC : List Nat) (hn : va_nd isC = true) (hC : isC.map (fun i => ws[i]?) = wc.map some)
    (hal : As.length = n) (hlz : ls.size = nL) (hst : st = As.reverse ++ rest) (hro : (rest.map fun v => v.category).sum ≤ 8) (hdg : decode cc pc = .ok (.invokestatic index, 3)) (hf : cells + mc ≤ R.cells ∧ slots + ms ≤ R.slots) :
    va_Run p l e R s m args below meth c H locs cells slots mc ms (F0 m pc ls st) rest (Qc (va_A wc H.size) As.toArray) (va_A wc H.size) := by
  have hg := hF.2.2.2.2
  exact va_runS hF (hM H.size) ⟨callB_of n hg (gw_good hm.1.1) rfl rfl rfl (hg _ hm.1.2.1) (hg _ hl) hm.1.2.2 hk, hg _ hm.2⟩ ⟨PcV.blind, preV hK hP hD hS hA hE isC hn hC⟩ rfl hal hlz hst (lv_room hro) hdg hf
theorem rnI (hF : CallFix p m c cc nL s args gw own) (hM : Ct l V y (.code y bytes mL none) k (.ref b :: As) wc mc ms Qc) (hm : MtI y bytes mL none n) (hl : Cond.methodLink own index y ∈ gw) (hk : k + 1 ≤ R.frames ∧ 8 + (mL + 11) + 40 * k ≤ R.locals) (hK : va_K V.1 vwCl (tyV V) s) (hP : va_P V.1 vwCl ws H) (hD : va_D A ws) (hS : va_S A s.heap H locs) (hA : ∀ q : Nat, s.heap.size ≤ q → A q) (hE : En V A s s.heap) (isC : List Nat) (hn : va_nd isC = true) (hC : isC.map (fun i => ws[i]?) = wc.map some)
    (hal : As.length = n) (hlz : ls.size = nL) (hst : st = As.reverse ++ .ref b :: rest) (hro : (rest.map fun v => v.category).sum ≤ 8) (hdg : decode cc pc = .ok (.invokespecial index, 3)) (hf : cells + mc ≤ R.cells ∧ slots + ms ≤ R.slots) :
    va_Run p l e R s m args below meth c H locs cells slots mc ms (F0 m pc ls st) rest (Qc (va_A wc H.size) (Value.ref b :: As).toArray) (va_A wc H.size) := by
  have hg := hF.2.2.2.2
  exact va_runI hF (hM H.size) ⟨callB_of n hg (gw_good hm.1.1) rfl rfl rfl (hg _ hm.1.2.1) (hg _ hl) hm.1.2.2 hk, hm.2.1, hg _ hm.2.2⟩ ⟨PcV.blind, preV hK hP hD hS hA hE isC hn hC⟩ rfl hal hlz hst (lv_room hro) hdg hf
theorem rnSN (hF : CallFix p m c cc nL s args gw own) (hM : Ct l V y (.code y bytes mL ret) k As wc mc ms Qc) (hm : MtS y bytes mL ret n) (hl : (own, index, y) ∈ nM) (hk : k + 1 ≤ R.frames ∧ 8 + (mL + 11) + 40 * k ≤ R.locals) (hK : va_K V.1 vwCl (tyV V) s) (hP : va_P V.1 vwCl ws H) (hD : va_D A ws) (hS : va_S A s.heap H locs) (hA : ∀ q : Nat, s.heap.size ≤ q → A q) (hE : En V A s s.heap) (isC : List Nat) (hn : va_nd isC = true) (hC : isC.map (fun i => ws[i]?) = wc.map some)
    (hal : As.length = n) (hlz : ls.size = nL) (hst : st = As.reverse ++ rest) (hro : (rest.map fun v => v.category).sum ≤ 8) (hdg : decode cc pc = .ok (.invokestatic index, 3)) (hf : cells + mc ≤ R.cells ∧ slots + ms ≤ R.slots) :
    va_Run p l e R s m args below meth c H locs cells slots mc ms (F0 m pc ls st) rest (Qc (va_A wc H.size) As.toArray) (va_A wc H.size) := by
  have hg := hF.2.2.2.2
  exact va_runSN hF (hM H.size) ⟨va_cnB n hg (gw_good hm.1.1) rfl rfl rfl (hE.2.2.2.1 _ hl) (hg _ hm.1.2.1) hm.1.2.2 hk, hg _ hm.2, trivial⟩ ⟨PcV.blind, preV hK hP hD hS hA hE isC hn hC⟩ rfl hal hlz hst (lv_room hro) hdg hf
theorem rnIN (hF : CallFix p m c cc nL s args gw own) (hM : Ct l V y (.code y bytes mL none) k (.ref b :: As) wc mc ms Qc) (hm : MtI y bytes mL none n) (hl : (own, index, y) ∈ nM) (hk : k + 1 ≤ R.frames ∧ 8 + (mL + 11) + 40 * k ≤ R.locals) (hK : va_K V.1 vwCl (tyV V) s) (hP : va_P V.1 vwCl ws H) (hD : va_D A ws) (hS : va_S A s.heap H locs) (hA : ∀ q : Nat, s.heap.size ≤ q → A q) (hE : En V A s s.heap) (isC : List Nat) (hn : va_nd isC = true) (hC : isC.map (fun i => ws[i]?) = wc.map some)
    (hal : As.length = n) (hlz : ls.size = nL) (hst : st = As.reverse ++ .ref b :: rest) (hro : (rest.map fun v => v.category).sum ≤ 8) (hdg : decode cc pc = .ok (.invokespecial index, 3)) (hf : cells + mc ≤ R.cells ∧ slots + ms ≤ R.slots) :
    va_Run p l e R s m args below meth c H locs cells slots mc ms (F0 m pc ls st) rest (Qc (va_A wc H.size) (Value.ref b :: As).toArray) (va_A wc H.size) := by
  have hg := hF.2.2.2.2
  exact va_runIN hF (hM H.size) ⟨va_cnB n hg (gw_good hm.1.1) rfl rfl rfl (hE.2.2.2.1 _ hl) (hg _ hm.1.2.1) hm.1.2.2 hk, hm.2.1, hg _ hm.2.2⟩ ⟨PcV.blind, preV hK hP hD hS hA hE isC hn hC⟩ rfl hal hlz hst (lv_room hro) hdg hf
theorem jnI {post : Int32 → va_W → Prop} {a : Array Value} (hr : va_Run p l e R s m args below meth c H locs cells slots mc ms (F0 m pc ls st) rest (QI V post (va_A wc H.size) a) (va_A wc H.size)) (hP : va_P V.1 vwCl ws H) (hD : va_D A ws) (hS : va_S A s.heap H locs) (hA : ∀ q : Nat, s.heap.size ≤ q → A q) (isC isR : List Nat) (hC : isC.map (fun i => ws[i]?) = wc.map some) (hR : isR.map (fun i => ws[i]?) = wr.map some) (hn : va_nd isR = true) (hdis : ∀ i ∈ isR, i ∉ isC)
    (kk : ∀ (r : Int32) (w : va_W) (H1 : Heap) (locs1 : List Loc), post r w → va_P V.1 vwCl (wr ++ w) H1 → va_D A (wr ++ w) → va_S A s.heap H1 locs1 → W p l e R s m args below meth c H1 locs1 (cells + mc) (slots + ms) Q (F0 m (pc + 3) ls (.int r :: rest))) : W p l e R s m args below meth c H locs cells slots Q (F0 m pc ls st) :=
  va_calli hr hS (fun q _ h => va_free hD hS hA isC hC q h) (va_free hD hS hA isC hC) (fun r w t H1 locs1 ht hvm hw hB hz1 hk1 hS1 => by
    obtain ⟨hP1, hK1, hD1⟩ := hB
    rw [ht] at hP1
    obtain ⟨hP2, hD2⟩ := va_join hP hD isC isR hC hR hn hdis hk1 (va_free hD hS hA isC hC) hP1 hD1
    exact kk r w H1 locs1 hw hP2 hD2 hS1)
theorem jnL {post : Int64 → va_W → Prop} {a : Array Value} (hr : va_Run p l e R s m args below meth c H locs cells slots mc ms (F0 m pc ls st) rest (QL V post (va_A wc H.size) a) (va_A wc H.size)) (hP : va_P V.1 vwCl ws H) (hD : va_D A ws) (hS : va_S A s.heap H locs) (hA : ∀ q : Nat, s.heap.size ≤ q → A q) (isC isR : List Nat) (hC : isC.map (fun i => ws[i]?) = wc.map some) (hR : isR.map (fun i => ws[i]?) = wr.map some) (hn : va_nd isR = true) (hdis : ∀ i ∈ isR, i ∉ isC)
    (kk : ∀ (r : Int64) (w : va_W) (H1 : Heap) (locs1 : List Loc), post r w → va_P V.1 vwCl (wr ++ w) H1 → va_D A (wr ++ w) → va_S A s.heap H1 locs1 → W p l e R s m args below meth c H1 locs1 (cells + mc) (slots + ms) Q (F0 m (pc + 3) ls (.long r :: rest))) : W p l e R s m args below meth c H locs cells slots Q (F0 m pc ls st) :=
  va_calll hr hS (fun q _ h => va_free hD hS hA isC hC q h) (va_free hD hS hA isC hC) (fun r w t H1 locs1 ht hvm hw hB hz1 hk1 hS1 => by
    obtain ⟨hP1, hK1, hD1⟩ := hB
    rw [ht] at hP1
    obtain ⟨hP2, hD2⟩ := va_join hP hD isC isR hC hR hn hdis hk1 (va_free hD hS hA isC hC) hP1 hD1
    exact kk r w H1 locs1 hw hP2 hD2 hS1)
theorem jnV {post : va_W → Prop} {a : Array Value} (hr : va_Run p l e R s m args below meth c H locs cells slots mc ms (F0 m pc ls st) rest (QV V post (va_A wc H.size) a) (va_A wc H.size)) (hP : va_P V.1 vwCl ws H) (hD : va_D A ws) (hS : va_S A s.heap H locs) (hA : ∀ q : Nat, s.heap.size ≤ q → A q) (isC isR : List Nat) (hC : isC.map (fun i => ws[i]?) = wc.map some) (hR : isR.map (fun i => ws[i]?) = wr.map some) (hn : va_nd isR = true) (hdis : ∀ i ∈ isR, i ∉ isC)
    (kk : ∀ (w : va_W) (H1 : Heap) (locs1 : List Loc), post w → va_P V.1 vwCl (wr ++ w) H1 → va_D A (wr ++ w) → va_S A s.heap H1 locs1 → W p l e R s m args below meth c H1 locs1 (cells + mc) (slots + ms) Q (F0 m (pc + 3) ls rest)) : W p l e R s m args below meth c H locs cells slots Q (F0 m pc ls st) :=
  va_callv hr hS (fun q _ h => va_free hD hS hA isC hC q h) (va_free hD hS hA isC hC) (fun w t H1 locs1 ht hvm hw hB hz1 hk1 hS1 => by
    obtain ⟨hP1, hK1, hD1⟩ := hB
    rw [ht] at hP1
    obtain ⟨hP2, hD2⟩ := va_join hP hD isC isR hC hR hn hdis hk1 (va_free hD hS hA isC hC) hP1 hD1
    exact kk w H1 locs1 hw hP2 hD2 hS1)
theorem jnR {post : Nat → va_W → Prop} {a : Array Value} (hr : va_Run p l e R s m args below meth c H locs cells slots mc ms (F0 m pc ls st) rest (QR V post (va_A wc H.size) a) (va_A wc H.size)) (hP : va_P V.1 vwCl ws H) (hD : va_D A ws) (hS : va_S A s.heap H locs) (hA : ∀ q : Nat, s.heap.size ≤ q → A q) (isC isR : List Nat) (hC : isC.map (fun i => ws[i]?) = wc.map some) (hR : isR.map (fun i => ws[i]?) = wr.map some) (hn : va_nd isR = true) (hdis : ∀ i ∈ isR, i ∉ isC)
    (kk : ∀ (r : Nat) (w : va_W) (H1 : Heap) (locs1 : List Loc), post r w → va_P V.1 vwCl (wr ++ w) H1 → va_D A (wr ++ w) → va_S A s.heap H1 locs1 → W p l e R s m args below meth c H1 locs1 (cells + mc) (slots + ms) Q (F0 m (pc + 3) ls (.ref r :: rest))) : W p l e R s m args below meth c H locs cells slots Q (F0 m pc ls st) :=
  va_callr hr hS (fun q _ h => va_free hD hS hA isC hC q h) (va_free hD hS hA isC hC) (fun u ra t H1 locs1 ht hvm hw hB hz1 hk1 hS1 => by
    obtain ⟨w, r⟩ := u
    obtain ⟨hra, hP1, hK1, hD1⟩ := hB
    dsimp only at hra hw hP1 hD1
    subst hra
    rw [ht] at hP1
    obtain ⟨hP2, hD2⟩ := va_join hP hD isC isR hC hR hn hdis hk1 (va_free hD hS hA isC hC) hP1 hD1
    exact kk r w H1 locs1 hw hP2 hD2 hS1)
theorem nwA (hx : p.tables.exec = Jvm.exec) (hb : c.code = cc) (hg : ∀ w ∈ gw, w.before args s = true) {atype : ArrayType} {ty : FieldType} (harr : Cond.arrayClass (newarray.typeOf atype) ∈ gw) (hty : newarray.typeOf atype = ty) (hK : va_K V.1 vwCl (tyV V) s) (hP : va_P V.1 vwCl ws H) (hD : va_D A ws) (hS : va_S A s.heap H locs) (hA : ∀ q, s.heap.size ≤ q → A q)
    (t0 : Nat) {c0 : ClassId} (ht : (tyV V)[t0]? = some (c0, ty)) {nn : Int32} {N' : Nat} {a0 : vp_A} (ha : ∀ cA : ClassId, vp_cell cA a0 = arrV cA N' (fun _ => defaultValue ty)) (hn : ¬ nn < 0) (hN : nn.toNatClampNeg = N') (hbytes : N' * componentBytes ty ≤ 536870912) (hcells : cells + 1 ≤ R.cells) (hslots : slots + N' ≤ R.slots) (hdg : decode cc pc = .ok (.newarray atype, 2))
    (kk : ∀ (q : Nat) (H1 : Heap), va_P V.1 vwCl (ws ++ [(q, .inl (c0, a0))]) H1 → va_D A (ws ++ [(q, .inl (c0, a0))]) → va_S A s.heap H1 locs → W p l e R s m args below meth c H1 locs (cells + 1) (slots + N') Q (F0 m (pc + 2) ls (.ref q :: rest))) : W p l e R s m args below meth c H locs cells slots Q (F0 m pc ls (.int nn :: rest)) :=
  va_newa hx hb (hg _ harr) hty hK hP hD hS hA ha hn hN hbytes hcells hslots hdg (fun q cA H1 hK1 hP1 hD1 hS1 => by
    have h1 := raFc (hK1.2 (tyV V).length (cA, ty) (by simp)).2
    have h2 := raFc (hK.2 t0 _ ht).2
    have e : cA = c0 := Option.some.inj (h1.symm.trans h2)
    subst e
    exact kk q H1 hP1 hD1 hS1)
theorem nwQ (hx : p.tables.exec = Jvm.exec) (hb : c.code = cc) {C : String} (hown : s.vm.findClass own = some m.cls) (hcl : (Cond.classLink own index C).before args s = true) (hov : va_AO C s) (hK : va_K V.1 vwCl (tyV V) s) (hP : va_P V.1 vwCl ws H) (hD : va_D A ws) (hS : va_S A s.heap H locs) (hA : ∀ q, s.heap.size ≤ q → A q)
    (t0 : Nat) {c0 : ClassId} (ht : (tyV V)[t0]? = some (c0, .object C)) {nn : Int32} {N' : Nat} (hn : ¬ nn < 0) (hN : nn.toNatClampNeg = N') (hbytes : N' * 4 ≤ 536870912) (hcells : cells + 1 ≤ R.cells) (hslots : slots + N' ≤ R.slots) (hdg : decode cc pc = .ok (.anewarray index, 3))
    (kk : ∀ (q : Nat) (H1 : Heap), va_P V.1 vwCl (ws ++ [(q, .inl (c0, N', .inr (.inr (.inr (.inr (fun _ => none))))))]) H1 → va_D A (ws ++ [(q, .inl (c0, N', .inr (.inr (.inr (.inr (fun _ => none))))))]) → va_S A s.heap H1 locs → W p l e R s m args below meth c H1 locs (cells + 1) (slots + N') Q (F0 m (pc + 3) ls (.ref q :: rest))) : W p l e R s m args below meth c H locs cells slots Q (F0 m pc ls (.int nn :: rest)) :=
  va_newq hx hb hown hcl hov hK hP hD hS hA hn hN hbytes hcells hslots hdg (fun q cA H1 hK1 hP1 hD1 hS1 => by
    have h1 := raFc (hK1.2 (tyV V).length (cA, .object C) (by simp)).2
    have h2 := raFc (hK.2 t0 _ ht).2
    have e : cA = c0 := Option.some.inj (h1.symm.trans h2)
    subst e
    exact kk q H1 hP1 hD1 hS1)
end CALL

