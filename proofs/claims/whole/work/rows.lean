section
-- ===== PART A: goes FIRST, ahead of the names: the tables' words, and 'selects' of the private methods out of them =====
/-- a private method of a class that the tables say can be made, by its rows of tables_1 -/
def lw_okq (q : MethodName × Nat) : Prop := (q.1.cls ≠ "java/lang/invoke/MethodHandle" ∧ q.1.cls ≠ "java/lang/invoke/VarHandle") ∧ Cond.instantiable q.1.cls q.2 ∈ tables_1 ∧ Cond.privateMethod q.1 ∈ tables_1 ∧ Cond.instanceMethod q.1 ∈ tables_1
theorem lw_p0 : lw_okq (⟨"Fabricsim", "joinLeaf", "(I)V"⟩, 13) := ⟨⟨by decide +kernel, by decide +kernel⟩, List.mem_of_getElem? (i := 17) (by decide +kernel), List.mem_of_getElem? (i := 191) (by decide +kernel), List.mem_of_getElem? (i := 192) (by decide +kernel)⟩
theorem lw_p1 : lw_okq (⟨"Fabricsim", "southOf", "(II)LFabricsim$Link;"⟩, 13) := ⟨⟨by decide +kernel, by decide +kernel⟩, List.mem_of_getElem? (i := 17) (by decide +kernel), List.mem_of_getElem? (i := 195) (by decide +kernel), List.mem_of_getElem? (i := 196) (by decide +kernel)⟩
theorem lw_p2 : lw_okq (⟨"Fabricsim", "northOf", "(II)LFabricsim$Link;"⟩, 13) := ⟨⟨by decide +kernel, by decide +kernel⟩, List.mem_of_getElem? (i := 17) (by decide +kernel), List.mem_of_getElem? (i := 199) (by decide +kernel), List.mem_of_getElem? (i := 200) (by decide +kernel)⟩
theorem lw_p3 : lw_okq (⟨"Fabricsim", "joinSpine", "(I)V"⟩, 13) := ⟨⟨by decide +kernel, by decide +kernel⟩, List.mem_of_getElem? (i := 17) (by decide +kernel), List.mem_of_getElem? (i := 203) (by decide +kernel), List.mem_of_getElem? (i := 204) (by decide +kernel)⟩
theorem lw_p4 : lw_okq (⟨"Fabricsim", "begin", "(III)V"⟩, 13) := ⟨⟨by decide +kernel, by decide +kernel⟩, List.mem_of_getElem? (i := 17) (by decide +kernel), List.mem_of_getElem? (i := 207) (by decide +kernel), List.mem_of_getElem? (i := 208) (by decide +kernel)⟩
theorem lw_p5 : lw_okq (⟨"Fabricsim$Link", "clear", "()V"⟩, 7) := ⟨⟨by decide +kernel, by decide +kernel⟩, List.mem_of_getElem? (i := 95) (by decide +kernel), List.mem_of_getElem? (i := 211) (by decide +kernel), List.mem_of_getElem? (i := 212) (by decide +kernel)⟩
theorem lw_p6 : lw_okq (⟨"Fabricsim$Host", "clear", "()V"⟩, 4) := ⟨⟨by decide +kernel, by decide +kernel⟩, List.mem_of_getElem? (i := 89) (by decide +kernel), List.mem_of_getElem? (i := 215) (by decide +kernel), List.mem_of_getElem? (i := 216) (by decide +kernel)⟩
theorem lw_p7 : lw_okq (⟨"Fabricsim$Link", "onTheWayBack", "()I"⟩, 7) := ⟨⟨by decide +kernel, by decide +kernel⟩, List.mem_of_getElem? (i := 95) (by decide +kernel), List.mem_of_getElem? (i := 271) (by decide +kernel), List.mem_of_getElem? (i := 272) (by decide +kernel)⟩
theorem lw_p8 : lw_okq (⟨"Fabricsim", "unsentBy", "(I)I"⟩, 13) := ⟨⟨by decide +kernel, by decide +kernel⟩, List.mem_of_getElem? (i := 17) (by decide +kernel), List.mem_of_getElem? (i := 283) (by decide +kernel), List.mem_of_getElem? (i := 284) (by decide +kernel)⟩
theorem lw_p9 : lw_okq (⟨"Fabricsim$Flow", "unsent", "()I"⟩, 13) := ⟨⟨by decide +kernel, by decide +kernel⟩, List.mem_of_getElem? (i := 32) (by decide +kernel), List.mem_of_getElem? (i := 287) (by decide +kernel), List.mem_of_getElem? (i := 288) (by decide +kernel)⟩
theorem lw_p10 : lw_okq (⟨"Fabricsim", "unsentFor", "(I)I"⟩, 13) := ⟨⟨by decide +kernel, by decide +kernel⟩, List.mem_of_getElem? (i := 17) (by decide +kernel), List.mem_of_getElem? (i := 291) (by decide +kernel), List.mem_of_getElem? (i := 292) (by decide +kernel)⟩
theorem lw_p11 : lw_okq (⟨"Fabricsim", "unsentOutOf", "(I)I"⟩, 13) := ⟨⟨by decide +kernel, by decide +kernel⟩, List.mem_of_getElem? (i := 17) (by decide +kernel), List.mem_of_getElem? (i := 298) (by decide +kernel), List.mem_of_getElem? (i := 299) (by decide +kernel)⟩
theorem lw_p12 : lw_okq (⟨"Fabricsim$Flow", "crossesLeaves", "()Z"⟩, 13) := ⟨⟨by decide +kernel, by decide +kernel⟩, List.mem_of_getElem? (i := 32) (by decide +kernel), List.mem_of_getElem? (i := 302) (by decide +kernel), List.mem_of_getElem? (i := 303) (by decide +kernel)⟩
theorem lw_p13 : lw_okq (⟨"Fabricsim$Flow", "sourceLeaf", "()I"⟩, 13) := ⟨⟨by decide +kernel, by decide +kernel⟩, List.mem_of_getElem? (i := 32) (by decide +kernel), List.mem_of_getElem? (i := 306) (by decide +kernel), List.mem_of_getElem? (i := 307) (by decide +kernel)⟩
theorem lw_p14 : lw_okq (⟨"Fabricsim$Flow", "targetLeaf", "()I"⟩, 13) := ⟨⟨by decide +kernel, by decide +kernel⟩, List.mem_of_getElem? (i := 32) (by decide +kernel), List.mem_of_getElem? (i := 310) (by decide +kernel), List.mem_of_getElem? (i := 311) (by decide +kernel)⟩
theorem lw_p15 : lw_okq (⟨"Fabricsim", "unsentInto", "(I)I"⟩, 13) := ⟨⟨by decide +kernel, by decide +kernel⟩, List.mem_of_getElem? (i := 17) (by decide +kernel), List.mem_of_getElem? (i := 315) (by decide +kernel), List.mem_of_getElem? (i := 316) (by decide +kernel)⟩
def lw_privs_1 : List (MethodName × Nat) := [(⟨"Fabricsim", "joinLeaf", "(I)V"⟩, 13), (⟨"Fabricsim", "southOf", "(II)LFabricsim$Link;"⟩, 13), (⟨"Fabricsim", "northOf", "(II)LFabricsim$Link;"⟩, 13), (⟨"Fabricsim", "joinSpine", "(I)V"⟩, 13), (⟨"Fabricsim", "begin", "(III)V"⟩, 13), (⟨"Fabricsim$Link", "clear", "()V"⟩, 7), (⟨"Fabricsim$Host", "clear", "()V"⟩, 4), (⟨"Fabricsim$Link", "onTheWayBack", "()I"⟩, 7), (⟨"Fabricsim", "unsentBy", "(I)I"⟩, 13), (⟨"Fabricsim$Flow", "unsent", "()I"⟩, 13), (⟨"Fabricsim", "unsentFor", "(I)I"⟩, 13), (⟨"Fabricsim", "unsentOutOf", "(I)I"⟩, 13), (⟨"Fabricsim$Flow", "crossesLeaves", "()Z"⟩, 13), (⟨"Fabricsim$Flow", "sourceLeaf", "()I"⟩, 13), (⟨"Fabricsim$Flow", "targetLeaf", "()I"⟩, 13), (⟨"Fabricsim", "unsentInto", "(I)I"⟩, 13)]
theorem lw_r1 : ∀ q ∈ lw_privs_1, lw_okq q := List.forall_mem_cons.mpr ⟨lw_p0, List.forall_mem_cons.mpr ⟨lw_p1, List.forall_mem_cons.mpr ⟨lw_p2, List.forall_mem_cons.mpr ⟨lw_p3, List.forall_mem_cons.mpr ⟨lw_p4, List.forall_mem_cons.mpr ⟨lw_p5, List.forall_mem_cons.mpr ⟨lw_p6, List.forall_mem_cons.mpr ⟨lw_p7, List.forall_mem_cons.mpr ⟨lw_p8, List.forall_mem_cons.mpr ⟨lw_p9, List.forall_mem_cons.mpr ⟨lw_p10, List.forall_mem_cons.mpr ⟨lw_p11, List.forall_mem_cons.mpr ⟨lw_p12, List.forall_mem_cons.mpr ⟨lw_p13, List.forall_mem_cons.mpr ⟨lw_p14, List.forall_mem_cons.mpr ⟨lw_p15, fun _ h => absurd h List.not_mem_nil⟩⟩⟩⟩⟩⟩⟩⟩⟩⟩⟩⟩⟩⟩⟩⟩
theorem lw_p16 : lw_okq (⟨"java/lang/Throwable", "fillInStackTrace", "(I)Ljava/lang/Throwable;"⟩, 6) := ⟨⟨by decide +kernel, by decide +kernel⟩, List.mem_of_getElem? (i := 375) (by decide +kernel), List.mem_of_getElem? (i := 373) (by decide +kernel), List.mem_of_getElem? (i := 374) (by decide +kernel)⟩
theorem lw_p17 : lw_okq (⟨"Fabricsim$Flow", "begin", "(IIII)V"⟩, 13) := ⟨⟨by decide +kernel, by decide +kernel⟩, List.mem_of_getElem? (i := 32) (by decide +kernel), List.mem_of_getElem? (i := 435) (by decide +kernel), List.mem_of_getElem? (i := 436) (by decide +kernel)⟩
theorem lw_p18 : lw_okq (⟨"Fabricsim", "isCut", "(II)Z"⟩, 13) := ⟨⟨by decide +kernel, by decide +kernel⟩, List.mem_of_getElem? (i := 17) (by decide +kernel), List.mem_of_getElem? (i := 450) (by decide +kernel), List.mem_of_getElem? (i := 451) (by decide +kernel)⟩
theorem lw_p19 : lw_okq (⟨"Fabricsim", "runTick", "()I"⟩, 13) := ⟨⟨by decide +kernel, by decide +kernel⟩, List.mem_of_getElem? (i := 17) (by decide +kernel), List.mem_of_getElem? (i := 473) (by decide +kernel), List.mem_of_getElem? (i := 474) (by decide +kernel)⟩
theorem lw_p20 : lw_okq (⟨"Fabricsim", "takeCreditsBack", "()V"⟩, 13) := ⟨⟨by decide +kernel, by decide +kernel⟩, List.mem_of_getElem? (i := 17) (by decide +kernel), List.mem_of_getElem? (i := 477) (by decide +kernel), List.mem_of_getElem? (i := 478) (by decide +kernel)⟩
theorem lw_p21 : lw_okq (⟨"Fabricsim$Link", "takeBack", "(I)V"⟩, 7) := ⟨⟨by decide +kernel, by decide +kernel⟩, List.mem_of_getElem? (i := 95) (by decide +kernel), List.mem_of_getElem? (i := 481) (by decide +kernel), List.mem_of_getElem? (i := 482) (by decide +kernel)⟩
theorem lw_p22 : lw_okq (⟨"Fabricsim", "deliverAll", "(I)I"⟩, 13) := ⟨⟨by decide +kernel, by decide +kernel⟩, List.mem_of_getElem? (i := 17) (by decide +kernel), List.mem_of_getElem? (i := 485) (by decide +kernel), List.mem_of_getElem? (i := 486) (by decide +kernel)⟩
theorem lw_p23 : lw_okq (⟨"Fabricsim$Link", "firstPacket", "()LFabricsim$Packet;"⟩, 7) := ⟨⟨by decide +kernel, by decide +kernel⟩, List.mem_of_getElem? (i := 95) (by decide +kernel), List.mem_of_getElem? (i := 489) (by decide +kernel), List.mem_of_getElem? (i := 490) (by decide +kernel)⟩
theorem lw_p24 : lw_okq (⟨"Fabricsim$Flow", "countDelivered", "(II)V"⟩, 13) := ⟨⟨by decide +kernel, by decide +kernel⟩, List.mem_of_getElem? (i := 32) (by decide +kernel), List.mem_of_getElem? (i := 493) (by decide +kernel), List.mem_of_getElem? (i := 494) (by decide +kernel)⟩
theorem lw_p25 : lw_okq (⟨"Fabricsim$Link", "drop", "(I)V"⟩, 7) := ⟨⟨by decide +kernel, by decide +kernel⟩, List.mem_of_getElem? (i := 95) (by decide +kernel), List.mem_of_getElem? (i := 497) (by decide +kernel), List.mem_of_getElem? (i := 498) (by decide +kernel)⟩
theorem lw_p26 : lw_okq (⟨"Fabricsim", "loseAtSpines", "(I)V"⟩, 13) := ⟨⟨by decide +kernel, by decide +kernel⟩, List.mem_of_getElem? (i := 17) (by decide +kernel), List.mem_of_getElem? (i := 501) (by decide +kernel), List.mem_of_getElem? (i := 502) (by decide +kernel)⟩
theorem lw_p27 : lw_okq (⟨"Fabricsim", "aimAtLeaves", "()V"⟩, 13) := ⟨⟨by decide +kernel, by decide +kernel⟩, List.mem_of_getElem? (i := 17) (by decide +kernel), List.mem_of_getElem? (i := 505) (by decide +kernel), List.mem_of_getElem? (i := 506) (by decide +kernel)⟩
theorem lw_p28 : lw_okq (⟨"Fabricsim", "wantedAtLeaf", "(ILFabricsim$Link;)I"⟩, 13) := ⟨⟨by decide +kernel, by decide +kernel⟩, List.mem_of_getElem? (i := 17) (by decide +kernel), List.mem_of_getElem? (i := 509) (by decide +kernel), List.mem_of_getElem? (i := 510) (by decide +kernel)⟩
theorem lw_p29 : lw_okq (⟨"Fabricsim", "isUsable", "(III)Z"⟩, 13) := ⟨⟨by decide +kernel, by decide +kernel⟩, List.mem_of_getElem? (i := 17) (by decide +kernel), List.mem_of_getElem? (i := 513) (by decide +kernel), List.mem_of_getElem? (i := 514) (by decide +kernel)⟩
theorem lw_p30 : lw_okq (⟨"Fabricsim", "usableSpines", "(II)I"⟩, 13) := ⟨⟨by decide +kernel, by decide +kernel⟩, List.mem_of_getElem? (i := 17) (by decide +kernel), List.mem_of_getElem? (i := 517) (by decide +kernel), List.mem_of_getElem? (i := 518) (by decide +kernel)⟩
theorem lw_p31 : lw_okq (⟨"Fabricsim", "chosenSpine", "(II)I"⟩, 13) := ⟨⟨by decide +kernel, by decide +kernel⟩, List.mem_of_getElem? (i := 17) (by decide +kernel), List.mem_of_getElem? (i := 521) (by decide +kernel), List.mem_of_getElem? (i := 522) (by decide +kernel)⟩
def lw_privs_2 : List (MethodName × Nat) := [(⟨"java/lang/Throwable", "fillInStackTrace", "(I)Ljava/lang/Throwable;"⟩, 6), (⟨"Fabricsim$Flow", "begin", "(IIII)V"⟩, 13), (⟨"Fabricsim", "isCut", "(II)Z"⟩, 13), (⟨"Fabricsim", "runTick", "()I"⟩, 13), (⟨"Fabricsim", "takeCreditsBack", "()V"⟩, 13), (⟨"Fabricsim$Link", "takeBack", "(I)V"⟩, 7), (⟨"Fabricsim", "deliverAll", "(I)I"⟩, 13), (⟨"Fabricsim$Link", "firstPacket", "()LFabricsim$Packet;"⟩, 7), (⟨"Fabricsim$Flow", "countDelivered", "(II)V"⟩, 13), (⟨"Fabricsim$Link", "drop", "(I)V"⟩, 7), (⟨"Fabricsim", "loseAtSpines", "(I)V"⟩, 13), (⟨"Fabricsim", "aimAtLeaves", "()V"⟩, 13), (⟨"Fabricsim", "wantedAtLeaf", "(ILFabricsim$Link;)I"⟩, 13), (⟨"Fabricsim", "isUsable", "(III)Z"⟩, 13), (⟨"Fabricsim", "usableSpines", "(II)I"⟩, 13), (⟨"Fabricsim", "chosenSpine", "(II)I"⟩, 13)]
theorem lw_r2 : ∀ q ∈ lw_privs_2, lw_okq q := List.forall_mem_cons.mpr ⟨lw_p16, List.forall_mem_cons.mpr ⟨lw_p17, List.forall_mem_cons.mpr ⟨lw_p18, List.forall_mem_cons.mpr ⟨lw_p19, List.forall_mem_cons.mpr ⟨lw_p20, List.forall_mem_cons.mpr ⟨lw_p21, List.forall_mem_cons.mpr ⟨lw_p22, List.forall_mem_cons.mpr ⟨lw_p23, List.forall_mem_cons.mpr ⟨lw_p24, List.forall_mem_cons.mpr ⟨lw_p25, List.forall_mem_cons.mpr ⟨lw_p26, List.forall_mem_cons.mpr ⟨lw_p27, List.forall_mem_cons.mpr ⟨lw_p28, List.forall_mem_cons.mpr ⟨lw_p29, List.forall_mem_cons.mpr ⟨lw_p30, List.forall_mem_cons.mpr ⟨lw_p31, fun _ h => absurd h List.not_mem_nil⟩⟩⟩⟩⟩⟩⟩⟩⟩⟩⟩⟩⟩⟩⟩⟩
theorem lw_p32 : lw_okq (⟨"Fabricsim", "aimAtSpines", "()V"⟩, 13) := ⟨⟨by decide +kernel, by decide +kernel⟩, List.mem_of_getElem? (i := 17) (by decide +kernel), List.mem_of_getElem? (i := 525) (by decide +kernel), List.mem_of_getElem? (i := 526) (by decide +kernel)⟩
theorem lw_p33 : lw_okq (⟨"Fabricsim", "wantedAtSpine", "(ILFabricsim$Link;)I"⟩, 13) := ⟨⟨by decide +kernel, by decide +kernel⟩, List.mem_of_getElem? (i := 17) (by decide +kernel), List.mem_of_getElem? (i := 529) (by decide +kernel), List.mem_of_getElem? (i := 530) (by decide +kernel)⟩
theorem lw_p34 : lw_okq (⟨"Fabricsim", "pickAll", "()V"⟩, 13) := ⟨⟨by decide +kernel, by decide +kernel⟩, List.mem_of_getElem? (i := 17) (by decide +kernel), List.mem_of_getElem? (i := 533) (by decide +kernel), List.mem_of_getElem? (i := 534) (by decide +kernel)⟩
theorem lw_p35 : lw_okq (⟨"Fabricsim$Node", "pick", "()V"⟩, 3) := ⟨⟨by decide +kernel, by decide +kernel⟩, List.mem_of_getElem? (i := 171) (by decide +kernel), List.mem_of_getElem? (i := 537) (by decide +kernel), List.mem_of_getElem? (i := 538) (by decide +kernel)⟩
theorem lw_p36 : lw_okq (⟨"Fabricsim$Link", "pick", "([II)V"⟩, 7) := ⟨⟨by decide +kernel, by decide +kernel⟩, List.mem_of_getElem? (i := 95) (by decide +kernel), List.mem_of_getElem? (i := 541) (by decide +kernel), List.mem_of_getElem? (i := 542) (by decide +kernel)⟩
theorem lw_p37 : lw_okq (⟨"Fabricsim", "moveAll", "(I)V"⟩, 13) := ⟨⟨by decide +kernel, by decide +kernel⟩, List.mem_of_getElem? (i := 17) (by decide +kernel), List.mem_of_getElem? (i := 545) (by decide +kernel), List.mem_of_getElem? (i := 546) (by decide +kernel)⟩
theorem lw_p38 : lw_okq (⟨"Fabricsim$Node", "move", "(I)V"⟩, 3) := ⟨⟨by decide +kernel, by decide +kernel⟩, List.mem_of_getElem? (i := 171) (by decide +kernel), List.mem_of_getElem? (i := 549) (by decide +kernel), List.mem_of_getElem? (i := 550) (by decide +kernel)⟩
theorem lw_p39 : lw_okq (⟨"Fabricsim$Link", "put", "(IIII)V"⟩, 7) := ⟨⟨by decide +kernel, by decide +kernel⟩, List.mem_of_getElem? (i := 95) (by decide +kernel), List.mem_of_getElem? (i := 554) (by decide +kernel), List.mem_of_getElem? (i := 555) (by decide +kernel)⟩
theorem lw_p40 : lw_okq (⟨"Fabricsim$Packet", "write", "(IIII)V"⟩, 4) := ⟨⟨by decide +kernel, by decide +kernel⟩, List.mem_of_getElem? (i := 102) (by decide +kernel), List.mem_of_getElem? (i := 558) (by decide +kernel), List.mem_of_getElem? (i := 559) (by decide +kernel)⟩
theorem lw_p41 : lw_okq (⟨"Fabricsim", "sendAll", "()V"⟩, 13) := ⟨⟨by decide +kernel, by decide +kernel⟩, List.mem_of_getElem? (i := 17) (by decide +kernel), List.mem_of_getElem? (i := 563) (by decide +kernel), List.mem_of_getElem? (i := 564) (by decide +kernel)⟩
theorem lw_p42 : lw_okq (⟨"Fabricsim", "pickedFlow", "(II)I"⟩, 13) := ⟨⟨by decide +kernel, by decide +kernel⟩, List.mem_of_getElem? (i := 17) (by decide +kernel), List.mem_of_getElem? (i := 567) (by decide +kernel), List.mem_of_getElem? (i := 568) (by decide +kernel)⟩
theorem lw_p43 : lw_okq (⟨"Fabricsim", "canSend", "(LFabricsim$Flow;)Z"⟩, 13) := ⟨⟨by decide +kernel, by decide +kernel⟩, List.mem_of_getElem? (i := 17) (by decide +kernel), List.mem_of_getElem? (i := 571) (by decide +kernel), List.mem_of_getElem? (i := 572) (by decide +kernel)⟩
theorem lw_p44 : lw_okq (⟨"Fabricsim", "send", "(ILFabricsim$Link;)V"⟩, 13) := ⟨⟨by decide +kernel, by decide +kernel⟩, List.mem_of_getElem? (i := 17) (by decide +kernel), List.mem_of_getElem? (i := 575) (by decide +kernel), List.mem_of_getElem? (i := 576) (by decide +kernel)⟩
theorem lw_p45 : lw_okq (⟨"Fabricsim", "needsFlowlet", "(LFabricsim$Flow;)Z"⟩, 13) := ⟨⟨by decide +kernel, by decide +kernel⟩, List.mem_of_getElem? (i := 17) (by decide +kernel), List.mem_of_getElem? (i := 579) (by decide +kernel), List.mem_of_getElem? (i := 580) (by decide +kernel)⟩
theorem lw_p46 : lw_okq (⟨"Fabricsim", "checkFlow", "(I)V"⟩, 13) := ⟨⟨by decide +kernel, by decide +kernel⟩, List.mem_of_getElem? (i := 17) (by decide +kernel), List.mem_of_getElem? (i := 592) (by decide +kernel), List.mem_of_getElem? (i := 593) (by decide +kernel)⟩
theorem lw_p47 : lw_okq (⟨"FabricsimModel", "begins", "()V"⟩, 36) := ⟨⟨by decide +kernel, by decide +kernel⟩, List.mem_of_getElem? (i := 711) (by decide +kernel), List.mem_of_getElem? (i := 717) (by decide +kernel), List.mem_of_getElem? (i := 718) (by decide +kernel)⟩
def lw_privs_3 : List (MethodName × Nat) := [(⟨"Fabricsim", "aimAtSpines", "()V"⟩, 13), (⟨"Fabricsim", "wantedAtSpine", "(ILFabricsim$Link;)I"⟩, 13), (⟨"Fabricsim", "pickAll", "()V"⟩, 13), (⟨"Fabricsim$Node", "pick", "()V"⟩, 3), (⟨"Fabricsim$Link", "pick", "([II)V"⟩, 7), (⟨"Fabricsim", "moveAll", "(I)V"⟩, 13), (⟨"Fabricsim$Node", "move", "(I)V"⟩, 3), (⟨"Fabricsim$Link", "put", "(IIII)V"⟩, 7), (⟨"Fabricsim$Packet", "write", "(IIII)V"⟩, 4), (⟨"Fabricsim", "sendAll", "()V"⟩, 13), (⟨"Fabricsim", "pickedFlow", "(II)I"⟩, 13), (⟨"Fabricsim", "canSend", "(LFabricsim$Flow;)Z"⟩, 13), (⟨"Fabricsim", "send", "(ILFabricsim$Link;)V"⟩, 13), (⟨"Fabricsim", "needsFlowlet", "(LFabricsim$Flow;)Z"⟩, 13), (⟨"Fabricsim", "checkFlow", "(I)V"⟩, 13), (⟨"FabricsimModel", "begins", "()V"⟩, 36)]
theorem lw_r3 : ∀ q ∈ lw_privs_3, lw_okq q := List.forall_mem_cons.mpr ⟨lw_p32, List.forall_mem_cons.mpr ⟨lw_p33, List.forall_mem_cons.mpr ⟨lw_p34, List.forall_mem_cons.mpr ⟨lw_p35, List.forall_mem_cons.mpr ⟨lw_p36, List.forall_mem_cons.mpr ⟨lw_p37, List.forall_mem_cons.mpr ⟨lw_p38, List.forall_mem_cons.mpr ⟨lw_p39, List.forall_mem_cons.mpr ⟨lw_p40, List.forall_mem_cons.mpr ⟨lw_p41, List.forall_mem_cons.mpr ⟨lw_p42, List.forall_mem_cons.mpr ⟨lw_p43, List.forall_mem_cons.mpr ⟨lw_p44, List.forall_mem_cons.mpr ⟨lw_p45, List.forall_mem_cons.mpr ⟨lw_p46, List.forall_mem_cons.mpr ⟨lw_p47, fun _ h => absurd h List.not_mem_nil⟩⟩⟩⟩⟩⟩⟩⟩⟩⟩⟩⟩⟩⟩⟩⟩
theorem lw_p48 : lw_okq (⟨"FabricsimModel", "goes", "(I)Z"⟩, 36) := ⟨⟨by decide +kernel, by decide +kernel⟩, List.mem_of_getElem? (i := 711) (by decide +kernel), List.mem_of_getElem? (i := 842) (by decide +kernel), List.mem_of_getElem? (i := 843) (by decide +kernel)⟩
theorem lw_p49 : lw_okq (⟨"FabricsimModel", "ticks", "()I"⟩, 36) := ⟨⟨by decide +kernel, by decide +kernel⟩, List.mem_of_getElem? (i := 711) (by decide +kernel), List.mem_of_getElem? (i := 875) (by decide +kernel), List.mem_of_getElem? (i := 876) (by decide +kernel)⟩
theorem lw_p50 : lw_okq (⟨"FabricsimModel", "creditsReturn", "()V"⟩, 36) := ⟨⟨by decide +kernel, by decide +kernel⟩, List.mem_of_getElem? (i := 711) (by decide +kernel), List.mem_of_getElem? (i := 879) (by decide +kernel), List.mem_of_getElem? (i := 880) (by decide +kernel)⟩
theorem lw_p51 : lw_okq (⟨"FabricsimModel", "hostsTake", "()I"⟩, 36) := ⟨⟨by decide +kernel, by decide +kernel⟩, List.mem_of_getElem? (i := 711) (by decide +kernel), List.mem_of_getElem? (i := 883) (by decide +kernel), List.mem_of_getElem? (i := 884) (by decide +kernel)⟩
theorem lw_p52 : lw_okq (⟨"FabricsimModel", "leaves", "(I)V"⟩, 36) := ⟨⟨by decide +kernel, by decide +kernel⟩, List.mem_of_getElem? (i := 711) (by decide +kernel), List.mem_of_getElem? (i := 887) (by decide +kernel), List.mem_of_getElem? (i := 888) (by decide +kernel)⟩
theorem lw_p53 : lw_okq (⟨"FabricsimModel", "spinesLose", "()V"⟩, 36) := ⟨⟨by decide +kernel, by decide +kernel⟩, List.mem_of_getElem? (i := 711) (by decide +kernel), List.mem_of_getElem? (i := 891) (by decide +kernel), List.mem_of_getElem? (i := 892) (by decide +kernel)⟩
theorem lw_p54 : lw_okq (⟨"FabricsimModel", "wanted", "(I)I"⟩, 36) := ⟨⟨by decide +kernel, by decide +kernel⟩, List.mem_of_getElem? (i := 711) (by decide +kernel), List.mem_of_getElem? (i := 895) (by decide +kernel), List.mem_of_getElem? (i := 896) (by decide +kernel)⟩
theorem lw_p55 : lw_okq (⟨"FabricsimModel", "targetOf", "(I)I"⟩, 36) := ⟨⟨by decide +kernel, by decide +kernel⟩, List.mem_of_getElem? (i := 711) (by decide +kernel), List.mem_of_getElem? (i := 899) (by decide +kernel), List.mem_of_getElem? (i := 900) (by decide +kernel)⟩
theorem lw_p56 : lw_okq (⟨"FabricsimModel", "isUsable", "(III)Z"⟩, 36) := ⟨⟨by decide +kernel, by decide +kernel⟩, List.mem_of_getElem? (i := 711) (by decide +kernel), List.mem_of_getElem? (i := 903) (by decide +kernel), List.mem_of_getElem? (i := 904) (by decide +kernel)⟩
theorem lw_p57 : lw_okq (⟨"FabricsimModel", "isShut", "(I)Z"⟩, 36) := ⟨⟨by decide +kernel, by decide +kernel⟩, List.mem_of_getElem? (i := 711) (by decide +kernel), List.mem_of_getElem? (i := 907) (by decide +kernel), List.mem_of_getElem? (i := 908) (by decide +kernel)⟩
theorem lw_p58 : lw_okq (⟨"FabricsimModel", "leavesChoose", "()V"⟩, 36) := ⟨⟨by decide +kernel, by decide +kernel⟩, List.mem_of_getElem? (i := 711) (by decide +kernel), List.mem_of_getElem? (i := 911) (by decide +kernel), List.mem_of_getElem? (i := 912) (by decide +kernel)⟩
theorem lw_p59 : lw_okq (⟨"FabricsimModel", "isFar", "(I)Z"⟩, 36) := ⟨⟨by decide +kernel, by decide +kernel⟩, List.mem_of_getElem? (i := 711) (by decide +kernel), List.mem_of_getElem? (i := 915) (by decide +kernel), List.mem_of_getElem? (i := 916) (by decide +kernel)⟩
theorem lw_p60 : lw_okq (⟨"FabricsimModel", "chosen", "(II)I"⟩, 36) := ⟨⟨by decide +kernel, by decide +kernel⟩, List.mem_of_getElem? (i := 711) (by decide +kernel), List.mem_of_getElem? (i := 919) (by decide +kernel), List.mem_of_getElem? (i := 920) (by decide +kernel)⟩
theorem lw_p61 : lw_okq (⟨"FabricsimModel", "linksPick", "()V"⟩, 36) := ⟨⟨by decide +kernel, by decide +kernel⟩, List.mem_of_getElem? (i := 711) (by decide +kernel), List.mem_of_getElem? (i := 923) (by decide +kernel), List.mem_of_getElem? (i := 924) (by decide +kernel)⟩
theorem lw_p62 : lw_okq (⟨"FabricsimModel", "hostsPick", "()V"⟩, 36) := ⟨⟨by decide +kernel, by decide +kernel⟩, List.mem_of_getElem? (i := 711) (by decide +kernel), List.mem_of_getElem? (i := 930) (by decide +kernel), List.mem_of_getElem? (i := 931) (by decide +kernel)⟩
theorem lw_p63 : lw_okq (⟨"FabricsimModel", "maySend", "(II)Z"⟩, 36) := ⟨⟨by decide +kernel, by decide +kernel⟩, List.mem_of_getElem? (i := 711) (by decide +kernel), List.mem_of_getElem? (i := 934) (by decide +kernel), List.mem_of_getElem? (i := 935) (by decide +kernel)⟩
def lw_privs_4 : List (MethodName × Nat) := [(⟨"FabricsimModel", "goes", "(I)Z"⟩, 36), (⟨"FabricsimModel", "ticks", "()I"⟩, 36), (⟨"FabricsimModel", "creditsReturn", "()V"⟩, 36), (⟨"FabricsimModel", "hostsTake", "()I"⟩, 36), (⟨"FabricsimModel", "leaves", "(I)V"⟩, 36), (⟨"FabricsimModel", "spinesLose", "()V"⟩, 36), (⟨"FabricsimModel", "wanted", "(I)I"⟩, 36), (⟨"FabricsimModel", "targetOf", "(I)I"⟩, 36), (⟨"FabricsimModel", "isUsable", "(III)Z"⟩, 36), (⟨"FabricsimModel", "isShut", "(I)Z"⟩, 36), (⟨"FabricsimModel", "leavesChoose", "()V"⟩, 36), (⟨"FabricsimModel", "isFar", "(I)Z"⟩, 36), (⟨"FabricsimModel", "chosen", "(II)I"⟩, 36), (⟨"FabricsimModel", "linksPick", "()V"⟩, 36), (⟨"FabricsimModel", "hostsPick", "()V"⟩, 36), (⟨"FabricsimModel", "maySend", "(II)Z"⟩, 36)]
theorem lw_r4 : ∀ q ∈ lw_privs_4, lw_okq q := List.forall_mem_cons.mpr ⟨lw_p48, List.forall_mem_cons.mpr ⟨lw_p49, List.forall_mem_cons.mpr ⟨lw_p50, List.forall_mem_cons.mpr ⟨lw_p51, List.forall_mem_cons.mpr ⟨lw_p52, List.forall_mem_cons.mpr ⟨lw_p53, List.forall_mem_cons.mpr ⟨lw_p54, List.forall_mem_cons.mpr ⟨lw_p55, List.forall_mem_cons.mpr ⟨lw_p56, List.forall_mem_cons.mpr ⟨lw_p57, List.forall_mem_cons.mpr ⟨lw_p58, List.forall_mem_cons.mpr ⟨lw_p59, List.forall_mem_cons.mpr ⟨lw_p60, List.forall_mem_cons.mpr ⟨lw_p61, List.forall_mem_cons.mpr ⟨lw_p62, List.forall_mem_cons.mpr ⟨lw_p63, fun _ h => absurd h List.not_mem_nil⟩⟩⟩⟩⟩⟩⟩⟩⟩⟩⟩⟩⟩⟩⟩⟩
theorem lw_p64 : lw_okq (⟨"FabricsimModel", "usableSet", "(II)I"⟩, 36) := ⟨⟨by decide +kernel, by decide +kernel⟩, List.mem_of_getElem? (i := 711) (by decide +kernel), List.mem_of_getElem? (i := 938) (by decide +kernel), List.mem_of_getElem? (i := 939) (by decide +kernel)⟩
theorem lw_p65 : lw_okq (⟨"FabricsimModel", "moves", "()V"⟩, 36) := ⟨⟨by decide +kernel, by decide +kernel⟩, List.mem_of_getElem? (i := 711) (by decide +kernel), List.mem_of_getElem? (i := 942) (by decide +kernel), List.mem_of_getElem? (i := 943) (by decide +kernel)⟩
theorem lw_p66 : lw_okq (⟨"FabricsimModel", "takesAlong", "(I)V"⟩, 36) := ⟨⟨by decide +kernel, by decide +kernel⟩, List.mem_of_getElem? (i := 711) (by decide +kernel), List.mem_of_getElem? (i := 946) (by decide +kernel), List.mem_of_getElem? (i := 947) (by decide +kernel)⟩
theorem lw_p67 : lw_okq (⟨"FabricsimModel", "makes", "(I)V"⟩, 36) := ⟨⟨by decide +kernel, by decide +kernel⟩, List.mem_of_getElem? (i := 711) (by decide +kernel), List.mem_of_getElem? (i := 950) (by decide +kernel), List.mem_of_getElem? (i := 951) (by decide +kernel)⟩
theorem lw_p68 : lw_okq (⟨"FabricsimModel", "arrives", "(I)V"⟩, 36) := ⟨⟨by decide +kernel, by decide +kernel⟩, List.mem_of_getElem? (i := 711) (by decide +kernel), List.mem_of_getElem? (i := 954) (by decide +kernel), List.mem_of_getElem? (i := 955) (by decide +kernel)⟩
theorem lw_p69 : lw_okq (⟨"FabricsimModel", "asks", "(I)Z"⟩, 36) := ⟨⟨by decide +kernel, by decide +kernel⟩, List.mem_of_getElem? (i := 711) (by decide +kernel), List.mem_of_getElem? (i := 970) (by decide +kernel), List.mem_of_getElem? (i := 971) (by decide +kernel)⟩
theorem lw_p70 : lw_okq (⟨"FabricsimModel", "isFlow", "(I)Z"⟩, 36) := ⟨⟨by decide +kernel, by decide +kernel⟩, List.mem_of_getElem? (i := 711) (by decide +kernel), List.mem_of_getElem? (i := 974) (by decide +kernel), List.mem_of_getElem? (i := 975) (by decide +kernel)⟩
theorem lw_p71 : lw_okq (⟨"FabricsimModel", "sum", "(II)I"⟩, 36) := ⟨⟨by decide +kernel, by decide +kernel⟩, List.mem_of_getElem? (i := 711) (by decide +kernel), List.mem_of_getElem? (i := 1046) (by decide +kernel), List.mem_of_getElem? (i := 1047) (by decide +kernel)⟩
theorem lw_p72 : lw_okq (⟨"FabricsimModel", "toSend", "(I)I"⟩, 36) := ⟨⟨by decide +kernel, by decide +kernel⟩, List.mem_of_getElem? (i := 711) (by decide +kernel), List.mem_of_getElem? (i := 1050) (by decide +kernel), List.mem_of_getElem? (i := 1051) (by decide +kernel)⟩
theorem lw_p73 : lw_okq (⟨"FabricsimModel", "uncut", "(I)I"⟩, 36) := ⟨⟨by decide +kernel, by decide +kernel⟩, List.mem_of_getElem? (i := 711) (by decide +kernel), List.mem_of_getElem? (i := 1054) (by decide +kernel), List.mem_of_getElem? (i := 1055) (by decide +kernel)⟩
def lw_privs_5 : List (MethodName × Nat) := [(⟨"FabricsimModel", "usableSet", "(II)I"⟩, 36), (⟨"FabricsimModel", "moves", "()V"⟩, 36), (⟨"FabricsimModel", "takesAlong", "(I)V"⟩, 36), (⟨"FabricsimModel", "makes", "(I)V"⟩, 36), (⟨"FabricsimModel", "arrives", "(I)V"⟩, 36), (⟨"FabricsimModel", "asks", "(I)Z"⟩, 36), (⟨"FabricsimModel", "isFlow", "(I)Z"⟩, 36), (⟨"FabricsimModel", "sum", "(II)I"⟩, 36), (⟨"FabricsimModel", "toSend", "(I)I"⟩, 36), (⟨"FabricsimModel", "uncut", "(I)I"⟩, 36)]
theorem lw_r5 : ∀ q ∈ lw_privs_5, lw_okq q := List.forall_mem_cons.mpr ⟨lw_p64, List.forall_mem_cons.mpr ⟨lw_p65, List.forall_mem_cons.mpr ⟨lw_p66, List.forall_mem_cons.mpr ⟨lw_p67, List.forall_mem_cons.mpr ⟨lw_p68, List.forall_mem_cons.mpr ⟨lw_p69, List.forall_mem_cons.mpr ⟨lw_p70, List.forall_mem_cons.mpr ⟨lw_p71, List.forall_mem_cons.mpr ⟨lw_p72, List.forall_mem_cons.mpr ⟨lw_p73, fun _ h => absurd h List.not_mem_nil⟩⟩⟩⟩⟩⟩⟩⟩⟩⟩
def lw_privs : List (MethodName × Nat) := lw_privs_1 ++ (lw_privs_2 ++ (lw_privs_3 ++ (lw_privs_4 ++ (lw_privs_5))))
def lw_tbl : List Cond := k2_sels lw_privs ++ tables_1
theorem lw_privs_ok : ∀ q ∈ lw_privs, lw_okq q := by
  show ∀ q ∈ lw_privs_1 ++ (lw_privs_2 ++ (lw_privs_3 ++ (lw_privs_4 ++ (lw_privs_5)))), lw_okq q
  exact List.forall_mem_append.mpr ⟨lw_r1, List.forall_mem_append.mpr ⟨lw_r2, List.forall_mem_append.mpr ⟨lw_r3, List.forall_mem_append.mpr ⟨lw_r4, lw_r5⟩⟩⟩⟩
-- ===== end of PART A; then your names; then what follows =====
end
section
/-! ===== BEGIN words of one list among another's, by their places ===== -/
theorem goodIn_r {big : List Cond} (ws : List Cond) (ps : List Nat) (hp : ws = ps.filterMap (fun i => big[i]?)) (h : ws.all goodWord = true) : GoodIn big ws := by
  intro w hw
  have h1 := List.all_eq_true.mp h w hw
  rw [hp] at hw
  obtain ⟨i, -, hi⟩ := List.mem_filterMap.mp hw
  have hm : w ∈ big := by first | exact List.mem_of_getElem? hi | exact List.getElem?_mem hi
  exact ⟨hm, good_of_word h1⟩
theorem goodIn_app {big a b : List Cond} (ha : GoodIn big a) (hb : GoodIn big b) : GoodIn big (a ++ b) := fun w h => (List.mem_append.mp h).elim (ha w) (hb w)
theorem goodIn_ca {big a b : List Cond} {c : Cond} (ha : GoodIn big (c :: a)) (hb : GoodIn big b) : GoodIn big (c :: (a ++ b)) := fun w h => (List.mem_cons.mp h).elim (fun e => ha w (List.mem_cons.mpr (Or.inl e))) (fun h => (List.mem_append.mp h).elim (fun h => ha w (List.mem_cons.mpr (Or.inr h))) (hb w))
theorem goodIn_sub {big ws : List Cond} (hm : ∀ w ∈ ws, w ∈ big) (h : ws.all goodWord = true) : GoodIn big ws := fun w hw => ⟨hm w hw, good_of_word (List.all_eq_true.mp h w hw)⟩
/-! ===== END ===== -/

/-! ===== BEGIN exceptions that leave a method, and their catching by the caller (launches without stack traces) ===== -/
section VXA
/-! The laws vx_back, vx_callV, vx_callS, vx_callSW, vx_throw0, vx_throwS follow proofs of the library, with one case more: JvmDerived/Free/Laws.lean (Back.of_free), Shelf42/LK1.lean (callV, callS), Shelf/KitTraced.lean (throwNew0V, throwNewS). -/
/-- where a method has thrown q: the class by its name, the cell, what was written, the world -/
def vx_T (XC : String → State → State → Prop) (st : State) (q : Addr) (t : State) (mc ms : Nat) (free : Addr → Prop) : Prop :=
  ∃ (E : String) (ce : Cell) (L : List Loc), XC E st t ∧ t.heap[q]? = some ce ∧ ce.vm = .none ∧ st.vm.findClass E = some ce.cls ∧ st.WarmedH t.vm ∧ st.sameButNew ({ t with vm := st.vm } : State) L mc ms ∧ ∀ z ∈ L, free z.base
def vx_Q (Qc : Array Value → State → Outcome → State → Prop) (XC : String → State → State → Prop) (mc ms : Nat) (free : Addr → Prop) : Array Value → State → Outcome → State → Prop := fun a st o t =>
  (Qc a st o t ∧ ∃ L, FrameEnd st o t L mc ms ∧ ∀ q ∈ L, free q.base) ∨ ∃ q, o = .threw q ∧ vx_T XC st q t mc ms free
/-- a callee that returns or throws -/
def vx_Met (l : Launch) (y : MethodName) (ws : List Cond) (rm : Room) (Pc : Array Value → State → Prop) (Qc : Array Value → State → Outcome → State → Prop) (XC : String → State → State → Prop) (mc ms : Nat) (free : Addr → Prop) : Prop :=
  MetFree l y (headSpec ws rm) Pc (fun _ _ _ _ _ => True) (vx_Q Qc XC mc ms free)
def vx_Post (XC : String → State → State → Prop) (mc ms : Nat) (free : Addr → Prop) : Pt → Array Value → Addr → Pt → Prop := fun A a q B =>
  ∃ (g : JFrame) (mk : MethodId) (t : State) (L : List Loc) (E : String) (ce : Cell), B.U.heap = t.heap ∧ B.U.vm = t.vm ∧ XC E (A.U.calling g mk a) t ∧ t.heap[q]? = some ce ∧ ce.vm = .none ∧ A.U.vm.findClass E = some ce.cls ∧ B.locs = A.locs ++ L ∧ (∀ z ∈ L, free z.base) ∧ B.cells = A.cells + mc ∧ B.slots = A.slots + ms
def vx_Back (l : Launch) (R : Room) (p : Program) (e : Env) (below : List Frame) (s : State) (sargs : Array Value) (y : MethodName) (len W9 : Nat)
    (Pre : Pt → Array Value → Prop) (Post : Pt → Array Value → Option Value → Pt → Prop) (PostX : Pt → Array Value → Addr → Pt → Prop) : Prop :=
  ∀ (m : MethodId) (meth : Method) (c : Code) (A : Pt) (g : JFrame) (ig : Instr) (mk : MethodId) (a : Array Value),
    Stand p l e R s m sargs below meth c A.U A.locs A.cells A.slots → g.method = m → g.locals.size = c.maxLocals → decode c.code g.pc = .ok (ig, len) →
    2 * g.monitorRoom + (g.stack.map fun v => v.category).sum ≤ W9 → A.U.methodNamed? y = some mk → Pre A a →
    (∃ (v : Option Value) (B : Pt), Stand p l e R s m sargs below meth c B.U B.locs B.cells B.slots ∧ Post A a v B ∧
      Steps p.tables e below (doInvoke e (A.U.setTop g) [] mk a).1 (B.U.setTop { g with pc := g.pc + len, stack := v.toList ++ g.stack })) ∨
    (∃ (q : Addr) (B : Pt), Stand p l e R s m sargs below meth c B.U B.locs B.cells B.slots ∧ PostX A a q B ∧
      Steps p.tables e below (doInvoke e (A.U.setTop g) [] mk a).1 ((B.U.setTop g).pushFrame (.throwing q)))
section Payer
variable {l : Launch} {R : Room} {p : Program} {e : Env} {below : List Frame} {s : State} {sargs : Array Value} {y : MethodName} {len W9 : Nat}
theorem vx_back {ws : List Cond} {rm : Room} {Pc : Array Value → State → Prop} {Qc : Array Value → State → Outcome → State → Prop} {XC : String → State → State → Prop} {mc ms : Nat} {free : Addr → Prop} {bytes : ByteArray} {maxL : Nat} {ret : Option FieldType}
    (hM : vx_Met l y ws rm Pc Qc XC mc ms free) (hblind : FrameBlind Pc) (hrc : rm.cells = mc) (hrs : rm.slots = ms)
    (hframes : rm.frames + 1 ≤ R.frames) (hlocals : W9 + (maxL + 11) + rm.locals ≤ R.locals)
    (hws : ∀ w ∈ ws, ∀ a' U, s.WarmedH U.vm → w.before a' U = true) (hcode : Cond.code y bytes maxL ret ∈ ws) (hinit : ∀ a' U, s.WarmedH U.vm → (Cond.initialized y.cls).before a' U = true) :
    vx_Back l R p e below s sargs y len W9 (PreOf R mc ms Pc) (PostOf Qc mc ms free) (vx_Post XC mc ms free) := by
  intro m meth c A g ig mk a X hg hsize hdg hW hn hp
  have h1 : (headSpec ws rm).pre.before a A.U = true := atoms_intro fun w hw => hws w hw _ _ X.warmed
  have h2 : (Cond.code y bytes maxL ret).before a A.U = true := hws _ hcode _ _ X.warmed
  have h3 : (Cond.initialized y.cls).before a A.U = true := hinit _ _ X.warmed
  have h4 : A.cells + (headSpec ws rm).room.cells ≤ R.cells := by rw [show (headSpec ws rm).room.cells = mc from hrc]; exact hp.1
  have h5 : A.slots + (headSpec ws rm).room.slots ≤ R.slots := by rw [show (headSpec ws rm).room.slots = ms from hrs]; exact hp.2.1
  have hPc : Pc a (A.U.calling g mk a) := hblind _ _ _ _ hp.2.2
  obtain ⟨U, Ls, c0, s0⟩ := A
  dsimp only [Pt.U, Pt.locs, Pt.cells, Pt.slots] at h1 h2 h3 h4 h5 X hn hPc ⊢
  obtain ⟨methY, cY, hmY, hcY, -, hlY, -, -, -, -⟩ := Cond.code_spec hn h2
  obtain ⟨kY, hkY, -⟩ := className_of_methodNamed hn
  have hinitY : kY.init = .initialized := Cond.initialized_spec (findClass_of_methodNamed hn) hkY h3
  have h : At U g.method c below := by rw [hg]; exact X.here
  have hlocals9 : W9 + (maxL + 11) + (headSpec ws rm).room.locals ≤ R.locals := hlocals
  have happ : (headSpec ws rm).appliesLoose y e.platform (U.calling g mk a) = true :=
    Spec.appliesLoose_calling (g := g) h hdg hn hkY hinitY
      (X.room_calling (g := g) (R' := (headSpec ws rm).room) hsize hmY hcY hframes (by rw [hlY]; omega) h4 h5) h1
  obtain ⟨mid, hmid⟩ := h.above
  have hfr : (U.setTop g).frames = (.java g :: mid) ++ below := by rw [State.frames_setTop' g h.top, hmid]; rfl
  obtain ⟨o, s₂, hsteps, -, hend, hq⟩ := Steps.callFree hM p X.admits X.cas X.clock (acts := []) hfr happ hPc trivial
  have hq' : vx_Q Qc XC mc ms free a (U.calling g mk a) o s₂ := hq
  rw [State.frames_setTop' g h.top] at hend
  obtain ⟨g₀, hg0⟩ := Option.isSome_iff_exists.mp h.top
  obtain ⟨r, hr⟩ := State.topJava?_eq_some.mp hg0
  have hr' : (({ U with heap := s₂.heap, slotsUsed := s₂.slotsUsed } : State).setVm s₂.vm).frames = .java g₀ :: r := hr
  rcases hq' with ⟨hqc, L, hfe, hL⟩ | ⟨q, rfl, E, ce, L, hx, hce, hcv, hcl, hW₂, hsm, hL⟩
  · obtain ⟨⟨v, rfl⟩, hW₂, e2, q2, q3, q4, q5, q6⟩ := id hfe
    have e3 : s₂ = ({ (U.calling g mk a).setFrames s₂.frames with heap := s₂.heap, slotsUsed := s₂.slotsUsed } : State).setVm s₂.vm := by
      have : s₂ = ({ s₂ with vm := (U.calling g mk a).vm } : State).setVm s₂.vm := rfl
      rw [e2] at this
      exact this
    obtain ⟨c₂, i₂, len₂, hc₂, hd₂, hf₂⟩ := hend
    have hW' : U.WarmedH s₂.vm := hW₂
    have hcc : c₂ = c := by
      have h1 : s₂.code? g.method = U.code? g.method := by
        rw [State.code?_eq, State.code?_eq, hW'.alike.method?]
      exact Option.some.inj (hc₂.symm.trans (h1.trans h.code))
    subst hcc
    have hlen : len₂ = len := by rw [hdg] at hd₂; cases hd₂; rfl
    subst hlen
    have hs₂ : s₂ = (({ U with heap := s₂.heap, slotsUsed := s₂.slotsUsed } : State).setVm s₂.vm).setTop { g with pc := g.pc + len₂, stack := v.toList ++ g.stack } := by
      refine e3.trans ?_
      rw [hf₂, State.calling_eq h.top, State.setFrames_setFrames, State.setTop_of_frames _ hr', hr]
      rfl
    have hsame : U.sameButNew ({ U with heap := s₂.heap, slotsUsed := s₂.slotsUsed } : State) L mc ms := by
      refine ⟨?_, q2, q3, q4, q5, q6⟩
      obtain ⟨t, ht, -⟩ := State.frames_cons hr
      show ({ U with heap := s₂.heap, slotsUsed := s₂.slotsUsed } : State) = { U.setFrames U.frames with heap := s₂.heap, slotsUsed := s₂.slotsUsed }
      rw [State.setFrames_self ht]
    subst hg
    refine Or.inl ⟨v, ⟨(({ U with heap := s₂.heap, slotsUsed := s₂.slotsUsed } : State).setVm s₂.vm), Ls ++ L, c0 + mc, s0 + ms⟩,
      ⟨X.admits, X.cas, X.clock, X.frames, X.room, X.hears, X.method, X.code, (X.here.setHeapUsed s₂.heap s₂.slotsUsed).setVm hW'.alike, X.tail, State.WarmedH.trans X.warmed hW', X.limits, X.bytes, X.same.trans (hsame.setVm s.vm)⟩,
      ⟨g, mk, s₂, L, rfl, rfl, hqc, rfl, hL, rfl, rfl⟩, ?_⟩
    show Steps p.tables e below _ ((({ U with heap := s₂.heap, slotsUsed := s₂.slotsUsed } : State).setVm s₂.vm).setTop { g with pc := g.pc + len₂, stack := v.toList ++ g.stack })
    rw [← hs₂]
    exact hsteps
  · obtain ⟨e2, q2, q3, q4, q5, q6⟩ := id hsm
    have e3 : s₂ = ({ (U.calling g mk a).setFrames s₂.frames with heap := s₂.heap, slotsUsed := s₂.slotsUsed } : State).setVm s₂.vm := by
      have : s₂ = ({ s₂ with vm := (U.calling g mk a).vm } : State).setVm s₂.vm := rfl
      rw [e2] at this
      exact this
    have hf₂ : s₂.frames = .throwing q :: .java g :: U.frames.tail := hend
    have hW' : U.WarmedH s₂.vm := hW₂
    have hs₂ : s₂ = ((({ U with heap := s₂.heap, slotsUsed := s₂.slotsUsed } : State).setVm s₂.vm).setTop g).pushFrame (.throwing q) := by
      refine e3.trans ?_
      rw [hf₂, State.calling_eq h.top, State.setFrames_setFrames, State.pushFrame, State.frames_setTop _ hr', State.setTop_of_frames _ hr', State.setFrames_setFrames, hr]
      rfl
    have hsame : U.sameButNew ({ U with heap := s₂.heap, slotsUsed := s₂.slotsUsed } : State) L mc ms := by
      refine ⟨?_, q2, q3, q4, q5, q6⟩
      obtain ⟨t, ht, -⟩ := State.frames_cons hr
      show ({ U with heap := s₂.heap, slotsUsed := s₂.slotsUsed } : State) = { U.setFrames U.frames with heap := s₂.heap, slotsUsed := s₂.slotsUsed }
      rw [State.setFrames_self ht]
    subst hg
    refine Or.inr ⟨q, ⟨(({ U with heap := s₂.heap, slotsUsed := s₂.slotsUsed } : State).setVm s₂.vm), Ls ++ L, c0 + mc, s0 + ms⟩,
      ⟨X.admits, X.cas, X.clock, X.frames, X.room, X.hears, X.method, X.code, (X.here.setHeapUsed s₂.heap s₂.slotsUsed).setVm hW'.alike, X.tail, State.WarmedH.trans X.warmed hW', X.limits, X.bytes, X.same.trans (hsame.setVm s.vm)⟩,
      ⟨g, mk, s₂, L, E, ce, rfl, rfl, hx, hce, hcv, hcl, rfl, hL, rfl, rfl⟩, ?_⟩
    show Steps p.tables e below _ (((({ U with heap := s₂.heap, slotsUsed := s₂.slotsUsed } : State).setVm s₂.vm).setTop g).pushFrame (.throwing q))
    rw [← hs₂]
    exact hsteps
end Payer
section Calls
variable {p : Program} {l : Launch} {e : Env} {R : Room} {s : State} {m : MethodId} {args : Array Value} {below : List Frame} {meth : Method} {c : Code} {T : State} {locs : List Loc} {cells slots : Nat}
theorem vx_callV (X : Stand p l e R s m args below meth c T locs cells slots) (hexec : p.tables.exec = Jvm.exec) {own C : String} {index : Nat} {y : MethodName} {bytes : ByteArray} {maxL : Nat} {ret : Option FieldType}
    (hown : s.vm.findClass own = some m.cls) (hlink : (Cond.methodLink own index y).before args s = true) (hinst : (Cond.instanceMethod y).before args s = true) (hsel : (Cond.selects C y y).before args s = true)
    (hcode : (Cond.code y bytes maxL ret).before args s = true) (hy : y.cls ≠ "java/lang/invoke/MethodHandle" ∧ y.cls ≠ "java/lang/invoke/VarHandle")
    {W9 : Nat} {Pre : Pt → Array Value → Prop} {Post : Pt → Array Value → Option Value → Pt → Prop} {PostX : Pt → Array Value → Addr → Pt → Prop} (hK : vx_Back l R p e below s args y 3 W9 Pre Post PostX)
    {b : Addr} {cellB : Cell} (hcell : T.heap[b]? = some cellB) (hobj : cellB.vm.isStatics = false) (hcls : s.vm.findClass C = some cellB.cls)
    {g : JFrame} (hg : g.method = m) (hsize : g.locals.size = c.maxLocals) {argsL rest : List Value} (hlen : ∀ sig, parseMethodDescriptor y.desc = some sig → argsL.length = sig.parameters.length)
    (hstack : g.stack = argsL.reverse ++ .ref b :: rest) (hW : 2 * g.monitorRoom + (rest.map fun v => v.category).sum ≤ W9) (hdg : decode c.code g.pc = .ok (.invokevirtual index, 3))
    (hpre : ∀ vm₁, s.WarmedH vm₁ → Pre ⟨T.setVm vm₁, locs, cells, slots⟩ (Value.ref b :: argsL).toArray) :
    (∃ (v : Option Value) (vm₁ : Vm) (B : Pt), s.WarmedH vm₁ ∧ Stand p l e R s m args below meth c B.U B.locs B.cells B.slots ∧ Post ⟨T.setVm vm₁, locs, cells, slots⟩ (Value.ref b :: argsL).toArray v B ∧
      ∀ target, Steps p.tables e below (B.U.setTop { g with pc := g.pc + 3, stack := v.toList ++ rest }) target → Steps p.tables e below (T.setTop g) target) ∨
    (∃ (q : Addr) (vm₁ : Vm) (B : Pt), s.WarmedH vm₁ ∧ Stand p l e R s m args below meth c B.U B.locs B.cells B.slots ∧ PostX ⟨T.setVm vm₁, locs, cells, slots⟩ (Value.ref b :: argsL).toArray q B ∧
      Steps p.tables e below (T.setTop g) ((B.U.setTop { g with stack := rest }).pushFrame (.throwing q))) := by
  obtain ⟨mk, methM, hnamed, hmethM, hstM, habM⟩ := Cond.instanceMethod_spec hinst
  obtain ⟨methM', cM, hmethM', -, -, -, -, -, -, hsigM⟩ := Cond.code_spec hnamed hcode
  cases hmethM.symm.trans hmethM'
  obtain ⟨c2, r2, m2, q1, q2, q3, q4, kP, hkP, hkPi⟩ := Cond.selects_spec hsel
  cases hcls.symm.trans q1
  cases (State.methodFound?_of_named hnamed hy).symm.trans q2
  cases hnamed.symm.trans q3
  have hselP : selectMethod e.platform s.vm cellB.cls mk = .method mk := by rw [Launch.admits_selectMethod X.admits]; exact q4
  obtain ⟨vm₁, X₁, hstep₁⟩ := X.invokevirtual hexec hown hlink hnamed hmethM hstM hkP hkPi hy (a := b) (cell := cellB) hcell
    (fun z h => by rw [h] at hobj; cases hobj) hselP hmethM habM hkP hkPi (g := g) hg (argsL := argsL) (rest := rest) (hlen _ hsigM) hstack hdg
  rcases hK m meth c ⟨T.setVm vm₁, locs, cells, slots⟩ { g with stack := rest } (.invokevirtual index) mk (Value.ref b :: argsL).toArray X₁ hg hsize hdg hW (X₁.named hnamed) (hpre vm₁ X₁.warmed) with ⟨v, B, X', hpost, hsteps⟩ | ⟨q, B, X', hpost, hsteps⟩
  · exact Or.inl ⟨v, vm₁, B, X₁.warmed, X', hpost, fun target h => hstep₁ _ fun acts => by rw [doInvoke_state]; exact hsteps.trans h⟩
  · exact Or.inr ⟨q, vm₁, B, X₁.warmed, X', hpost, hstep₁ _ fun acts => by rw [doInvoke_state]; exact hsteps⟩
theorem vx_callS (X : Stand p l e R s m args below meth c T locs cells slots) (hexec : p.tables.exec = Jvm.exec) {own : String} {index : Nat} {y : MethodName} {bytes : ByteArray} {maxL : Nat} {ret : Option FieldType}
    (hown : s.vm.findClass own = some m.cls) (hlink : (Cond.methodLink own index y).before args s = true) (hstat : (Cond.static y).before args s = true) (hinit : (Cond.initialized y.cls).before args s = true)
    (hcode : (Cond.code y bytes maxL ret).before args s = true) (hy : y.cls ≠ "java/lang/invoke/MethodHandle" ∧ y.cls ≠ "java/lang/invoke/VarHandle")
    {W9 : Nat} {Pre : Pt → Array Value → Prop} {Post : Pt → Array Value → Option Value → Pt → Prop} {PostX : Pt → Array Value → Addr → Pt → Prop} (hK : vx_Back l R p e below s args y 3 W9 Pre Post PostX)
    {g : JFrame} (hg : g.method = m) (hsize : g.locals.size = c.maxLocals) {argsL rest : List Value} (hlen : ∀ sig, parseMethodDescriptor y.desc = some sig → argsL.length = sig.parameters.length)
    (hstack : g.stack = argsL.reverse ++ rest) (hW : 2 * g.monitorRoom + (rest.map fun v => v.category).sum ≤ W9) (hdg : decode c.code g.pc = .ok (.invokestatic index, 3))
    (hpre : ∀ vm₁, s.WarmedH vm₁ → Pre ⟨T.setVm vm₁, locs, cells, slots⟩ argsL.toArray) :
    (∃ (v : Option Value) (vm₁ : Vm) (B : Pt), s.WarmedH vm₁ ∧ Stand p l e R s m args below meth c B.U B.locs B.cells B.slots ∧ Post ⟨T.setVm vm₁, locs, cells, slots⟩ argsL.toArray v B ∧
      ∀ target, Steps p.tables e below (B.U.setTop { g with pc := g.pc + 3, stack := v.toList ++ rest }) target → Steps p.tables e below (T.setTop g) target) ∨
    (∃ (q : Addr) (vm₁ : Vm) (B : Pt), s.WarmedH vm₁ ∧ Stand p l e R s m args below meth c B.U B.locs B.cells B.slots ∧ PostX ⟨T.setVm vm₁, locs, cells, slots⟩ argsL.toArray q B ∧
      Steps p.tables e below (T.setTop g) ((B.U.setTop { g with stack := rest }).pushFrame (.throwing q))) := by
  obtain ⟨mk, hnamed⟩ := Cond.code_named hcode
  obtain ⟨methM, cM, hmethM, -, -, -, -, -, -, hsigM⟩ := Cond.code_spec hnamed hcode
  have hstatic : methM.isStatic = true := Cond.static_spec hnamed hmethM hstat
  obtain ⟨kP, hkP, -⟩ := className_of_methodNamed hnamed
  have hinitP : kP.init = .initialized := Cond.initialized_spec (findClass_of_methodNamed hnamed) hkP hinit
  obtain ⟨vm₁, X₁, hstep₁⟩ := X.invokestatic hexec hown hlink hnamed hmethM hstatic hkP hinitP hy (g := g) hg (argsL := argsL) (rest := rest) (hlen _ hsigM) hstack hdg
  rcases hK m meth c ⟨T.setVm vm₁, locs, cells, slots⟩ { g with stack := rest } (.invokestatic index) mk argsL.toArray X₁ hg hsize hdg hW (X₁.named hnamed) (hpre vm₁ X₁.warmed) with ⟨v, B, X', hpost, hsteps⟩ | ⟨q, B, X', hpost, hsteps⟩
  · exact Or.inl ⟨v, vm₁, B, X₁.warmed, X', hpost, fun target h => hstep₁ _ fun acts => by rw [doInvoke_state]; exact hsteps.trans h⟩
  · exact Or.inr ⟨q, vm₁, B, X₁.warmed, X', hpost, hstep₁ _ fun acts => by rw [doInvoke_state]; exact hsteps⟩
end Calls
theorem vx_cls {s : State} {T : State} {vm₁ : Vm} {E : String} {k : ClassId} (hW : s.WarmedH vm₁) (h : (T.setVm vm₁).vm.findClass E = some k) : s.vm.findClass E = some k := by
  have h1 : vm₁.findClass E = some k := h
  rw [hW.alike.findClass] at h1
  exact h1
/-- the method's frame g, with q thrown over it -/
def vx_W (p : Program) (l : Launch) (e : Env) (R : Room) (s : State) (m : MethodId) (args : Array Value) (below : List Frame) (meth : Method) (c : Code) (H : Heap) (locs : List Loc) (cells slots : Nat) (Q : State → Prop) (g : JFrame) (q : Addr) : Prop :=
  ∀ T : State, T.heap = H → Stand p l e R s m args below meth c T locs cells slots → ∃ t, Steps p.tables e below ((T.setTop g).pushFrame (.throwing q)) t ∧ Q t
def vx_Run (p : Program) (l : Launch) (e : Env) (R : Room) (s : State) (m : MethodId) (args : Array Value) (below : List Frame) (meth : Method) (c : Code) (H : Heap) (locs : List Loc) (cells slots mc ms : Nat) (g : JFrame) (rest : List Value) (Qa : State → Outcome → State → Prop) (XC : String → State → State → Prop) (free : Addr → Prop) : Prop :=
  ∀ T : State, T.heap = H → Stand p l e R s m args below meth c T locs cells slots →
    (∃ (v : Option Value) (st₀ t T' : State) (L : List Loc), st₀.heap = H ∧ Stand p l e R s m args below meth c T' (locs ++ L) (cells + mc) (slots + ms) ∧ (∀ q ∈ L, free q.base) ∧ T'.heap = t.heap ∧ T'.vm = t.vm ∧ Qa st₀ (.returned v) t ∧
      Goes p e below T g T' { g with pc := g.pc + 3, stack := v.toList ++ rest }) ∨
    (∃ (q : Addr) (st₀ t T' : State) (L : List Loc) (E : String) (ce : Cell), st₀.heap = H ∧ Stand p l e R s m args below meth c T' (locs ++ L) (cells + mc) (slots + ms) ∧ (∀ z ∈ L, free z.base) ∧ T'.heap = t.heap ∧ T'.vm = t.vm ∧ XC E st₀ t ∧ t.heap[q]? = some ce ∧ ce.vm = .none ∧ s.vm.findClass E = some ce.cls ∧
      Steps p.tables e below (T.setTop g) ((T'.setTop { g with stack := rest }).pushFrame (.throwing q)))
def vx_X {S : Type} (px : S → Prop) (B : String → S → State → Prop) (A : Nat → Prop) : String → State → State → Prop := fun E st t => ∃ u : S, px u ∧ B E u t ∧ va_F A st t
section Runs
variable {p : Program} {l : Launch} {e : Env} {R : Room} {s : State} {m : MethodId} {args : Array Value} {below : List Frame} {meth : Method} {c : Code} {H : Heap} {locs : List Loc} {cells slots : Nat}
variable {y : MethodName} {bytes cc : ByteArray} {maxL nL mc ms n index : Nat} {ret : Option FieldType} {ws : List Cond} {rm : Room} {Pc : Array Value → State → Prop} {Qc : Array Value → State → Outcome → State → Prop} {XC : String → State → State → Prop} {free : Addr → Prop} {Ts : List Cond} {own C : String} {b : Addr} {As rest : List Value} {g : JFrame}
theorem vx_callBack (cb : CallB R s args own index y bytes maxL ret ws rm mc ms n) (hM : vx_Met l y ws rm Pc Qc XC mc ms free) (hbl : FrameBlind Pc) : vx_Back l R p e below s args y 3 8 (PreOf R mc ms Pc) (PostOf Qc mc ms free) (vx_Post XC mc ms free) := by
  obtain ⟨hrc, hrs, hfr, hlo, hws, hcw, -, hini, -⟩ := cb
  exact vx_back (bytes := bytes) (maxL := maxL) (ret := ret) hM hbl hrc hrs hfr hlo hws hcw (fun a' U hW => word_at hW (Or.inl (by first | rfl | simp [Cond.onTables, Cond.keeps, Cond.steady])) hini)
theorem vx_runV (S : CallFix p m c cc nL s args Ts own) (hM : vx_Met l y ws rm Pc Qc XC mc ms free) (cw : CallW R s args own C index y bytes maxL ret ws rm mc ms n) (hp : PreV s H C b Pc As)
    (hg : g.method = m) (hn : As.length = n) (hsize : g.locals.size = nL) (hstack : g.stack = As.reverse ++ .ref b :: rest) (hW : 2 * g.monitorRoom + (rest.map fun v => v.category).sum ≤ 8) (hdg : decode cc g.pc = .ok (.invokevirtual index, 3)) (hf : cells + mc ≤ R.cells ∧ slots + ms ≤ R.slots) :
    vx_Run p l e R s m args below meth c H locs cells slots mc ms g rest (Qc (Value.ref b :: As).toArray) XC free := by
  have hK : vx_Back l R p e below s args y 3 8 (PreOf R mc ms Pc) (PostOf Qc mc ms free) (vx_Post XC mc ms free) := vx_callBack cw.1 hM hp.1
  obtain ⟨⟨-, -, -, -, -, -, hcode, -, hy, hlen, hl⟩, hin, hse⟩ := cw
  obtain ⟨hx, hb, hml, ho, -⟩ := S
  obtain ⟨-, ⟨cellB, hcB, hoB, hclB⟩, hPc⟩ := hp
  intro T hT X
  rcases vx_callV X hx (C := C) (bytes := bytes) (maxL := maxL) (ret := ret) ho hl hin hse hcode hy hK (by rw [hT]; exact hcB) hoB hclB hg (hsize.trans hml.symm) (argsL := As) (rest := rest) (fun sig h => hn.trans (hlen sig h)) hstack hW (by rw [hb]; exact hdg)
    (fun vm₁ hW₁ => ⟨hf.1, hf.2, hPc (T.setVm vm₁) hT hW₁⟩) with ⟨v, vm₁, ⟨U', l2, c2, s2⟩, hW₁, X', ⟨g', mk, t, L, e1, e2, hq, h1, hL, h2, h3⟩, st⟩ | ⟨q, vm₁, ⟨U', l2, c2, s2⟩, hW₁, X', ⟨g', mk, t, L, E, ce, e1, e2, hq, hce, hcv, hcl, h1, hL, h2, h3⟩, st⟩
  · dsimp only [Pt.U, Pt.locs, Pt.cells, Pt.slots] at X' e1 e2 h1 h2 h3 st
    subst h1; subst h2; subst h3
    exact Or.inl ⟨v, (T.setVm vm₁).calling g' mk (Value.ref b :: As).toArray, t, U', L, hT, X', hL, e1, e2, hq, st⟩
  · dsimp only [Pt.U, Pt.locs, Pt.cells, Pt.slots] at X' e1 e2 h1 h2 h3 st hcl
    subst h1; subst h2; subst h3
    exact Or.inr ⟨q, (T.setVm vm₁).calling g' mk (Value.ref b :: As).toArray, t, U', L, E, ce, hT, X', hL, e1, e2, hq, hce, hcv, vx_cls hW₁ hcl, st⟩
theorem vx_runS (S : CallFix p m c cc nL s args Ts own) (hM : vx_Met l y ws rm Pc Qc XC mc ms free) (cw : CallB R s args own index y bytes maxL ret ws rm mc ms n ∧ (Cond.static y).before args s = true) (hp : PreS s H Pc As)
    (hg : g.method = m) (hn : As.length = n) (hsize : g.locals.size = nL) (hstack : g.stack = As.reverse ++ rest) (hW : 2 * g.monitorRoom + (rest.map fun v => v.category).sum ≤ 8) (hdg : decode cc g.pc = .ok (.invokestatic index, 3)) (hf : cells + mc ≤ R.cells ∧ slots + ms ≤ R.slots) :
    vx_Run p l e R s m args below meth c H locs cells slots mc ms g rest (Qc As.toArray) XC free := by
  have hK : vx_Back l R p e below s args y 3 8 (PreOf R mc ms Pc) (PostOf Qc mc ms free) (vx_Post XC mc ms free) := vx_callBack cw.1 hM hp.1
  obtain ⟨⟨-, -, -, -, -, -, hcode, hini, hy, hlen, hl⟩, hstt⟩ := cw
  obtain ⟨hx, hb, hml, ho, -⟩ := S
  intro T hT X
  rcases vx_callS X hx (bytes := bytes) (maxL := maxL) (ret := ret) ho hl hstt hini hcode hy hK hg (hsize.trans hml.symm) (argsL := As) (rest := rest) (fun sig h => hn.trans (hlen sig h)) hstack hW (by rw [hb]; exact hdg)
    (fun vm₁ hW₁ => ⟨hf.1, hf.2, hp.2 (T.setVm vm₁) hT hW₁⟩) with ⟨v, vm₁, ⟨U', l2, c2, s2⟩, hW₁, X', ⟨g', mk, t, L, e1, e2, hq, h1, hL, h2, h3⟩, st⟩ | ⟨q, vm₁, ⟨U', l2, c2, s2⟩, hW₁, X', ⟨g', mk, t, L, E, ce, e1, e2, hq, hce, hcv, hcl, h1, hL, h2, h3⟩, st⟩
  · dsimp only [Pt.U, Pt.locs, Pt.cells, Pt.slots] at X' e1 e2 h1 h2 h3 st
    subst h1; subst h2; subst h3
    exact Or.inl ⟨v, (T.setVm vm₁).calling g' mk As.toArray, t, U', L, hT, X', hL, e1, e2, hq, st⟩
  · dsimp only [Pt.U, Pt.locs, Pt.cells, Pt.slots] at X' e1 e2 h1 h2 h3 st hcl
    subst h1; subst h2; subst h3
    exact Or.inr ⟨q, (T.setVm vm₁).calling g' mk As.toArray, t, U', L, E, ce, hT, X', hL, e1, e2, hq, hce, hcv, vx_cls hW₁ hcl, st⟩
end Runs
section Rows
variable {p : Program} {l : Launch} {e : Env} {R : Room} {s : State} {m : MethodId} {args : Array Value} {below : List Frame} {meth : Method} {c : Code} {H : Heap} {locs : List Loc} {cells slots : Nat} {Q : State → Prop}
variable {mc ms : Nat} {free : Addr → Prop} {A0 A1 : Nat → Prop} {H0 : Heap} {a : Array Value} {pc : Nat} {ls : Array Slot} {st0 rest : List Value}
theorem vx_keep {st₀ t T' : State} {L : List Loc} (h0 : st₀.heap = H) (e1 : T'.heap = t.heap) (hS : va_S A0 H0 H locs) (hA : ∀ q, q < H.size → A1 q → A0 q) (hf : ∀ q, free q → A0 q) (hL : ∀ q ∈ L, free q.base) (hF : va_F A1 st₀ t) :
    H.size ≤ T'.heap.size ∧ (∀ q : Nat, q < H.size → ¬ A1 q → T'.heap[q]? = H[q]?) ∧ va_S A0 H0 T'.heap (locs ++ L) := by
  obtain ⟨hz, hk⟩ := hF
  rw [h0] at hz hk
  exact ⟨by rw [e1]; exact hz, fun q h1 h2 => by rw [e1]; exact hk q h1 h2,
    ⟨Nat.le_trans hS.1 (by rw [e1]; exact hz), fun q h1 h2 => by rw [e1, hk q (Nat.lt_of_lt_of_le h1 hS.1) (fun z => h2 (hA q (Nat.lt_of_lt_of_le h1 hS.1) z))]; exact hS.2.1 q h1 h2, fun q hq => by
      rcases List.mem_append.mp hq with h | h
      · exact hS.2.2 q h
      · exact hf _ (hL q h)⟩⟩
theorem vx_calli {S SX : Type} {post : Int32 → S → Prop} {px : SX → Prop} {B : S → State → Prop} {BX : String → SX → State → Prop} {AX : Nat → Prop} (hr : vx_Run p l e R s m args below meth c H locs cells slots mc ms (F0 m pc ls st0) rest (va_Qi post B A1 a) (vx_X px BX AX) free) (hS : va_S A0 H0 H locs) (hA : ∀ q, q < H.size → A1 q → A0 q) (hf : ∀ q, free q → A0 q) (hAX : ∀ q, q < H.size → AX q → A0 q)
    (kx : ∀ (E : String) (ce : Cell) (q9 : Addr) (u : SX) (t : State) (H1 : Heap) (locs1 : List Loc), t.heap = H1 → s.vm.Alike t.vm → px u → BX E u t → H.size ≤ H1.size → (∀ q : Nat, q < H.size → ¬ AX q → H1[q]? = H[q]?) → va_S A0 H0 H1 locs1 → H1[q9]? = some ce → ce.vm = .none → s.vm.findClass E = some ce.cls → vx_W p l e R s m args below meth c H1 locs1 (cells + mc) (slots + ms) Q (F0 m pc ls rest) q9)
    (kk : ∀ (r : Int32) (u : S) (t : State) (H1 : Heap) (locs1 : List Loc), t.heap = H1 → s.vm.Alike t.vm → post r u → B u t → H.size ≤ H1.size → (∀ q : Nat, q < H.size → ¬ A1 q → H1[q]? = H[q]?) → va_S A0 H0 H1 locs1 → W p l e R s m args below meth c H1 locs1 (cells + mc) (slots + ms) Q (F0 m (pc + 3) ls (.int r :: rest))) : W p l e R s m args below meth c H locs cells slots Q (F0 m pc ls st0) := by
  intro T hT X
  rcases hr T hT X with ⟨v, st₀, t, T', L, h0, X', hL, e1, e2, ⟨⟨r, u, hv, hp, hb⟩, hF⟩, st⟩ | ⟨q, st₀, t, T', L, E, ce, h0, X', hL, e1, e2, ⟨u, hp, hb, hF⟩, hce, hcv, hcl, st⟩
  · cases hv
    obtain ⟨k1, k2, k3⟩ := vx_keep h0 e1 hS hA hf hL hF
    obtain ⟨t2, a1, b1⟩ := kk r u t T'.heap (locs ++ L) e1.symm (by rw [← e2]; exact X'.warmed.alike) hp hb k1 k2 k3 T' rfl X'
    exact ⟨t2, st t2 a1, b1⟩
  · obtain ⟨k1, k2, k3⟩ := vx_keep h0 e1 hS hAX hf hL hF
    obtain ⟨t2, a1, b1⟩ := kx E ce q u t T'.heap (locs ++ L) e1.symm (by rw [← e2]; exact X'.warmed.alike) hp hb k1 k2 k3 (by rw [e1]; exact hce) hcv hcl T' rfl X'
    exact ⟨t2, st.trans a1, b1⟩
theorem vx_calll {S SX : Type} {post : Int64 → S → Prop} {px : SX → Prop} {B : S → State → Prop} {BX : String → SX → State → Prop} {AX : Nat → Prop} (hr : vx_Run p l e R s m args below meth c H locs cells slots mc ms (F0 m pc ls st0) rest (va_Ql post B A1 a) (vx_X px BX AX) free) (hS : va_S A0 H0 H locs) (hA : ∀ q, q < H.size → A1 q → A0 q) (hf : ∀ q, free q → A0 q) (hAX : ∀ q, q < H.size → AX q → A0 q)
    (kx : ∀ (E : String) (ce : Cell) (q9 : Addr) (u : SX) (t : State) (H1 : Heap) (locs1 : List Loc), t.heap = H1 → s.vm.Alike t.vm → px u → BX E u t → H.size ≤ H1.size → (∀ q : Nat, q < H.size → ¬ AX q → H1[q]? = H[q]?) → va_S A0 H0 H1 locs1 → H1[q9]? = some ce → ce.vm = .none → s.vm.findClass E = some ce.cls → vx_W p l e R s m args below meth c H1 locs1 (cells + mc) (slots + ms) Q (F0 m pc ls rest) q9)
    (kk : ∀ (r : Int64) (u : S) (t : State) (H1 : Heap) (locs1 : List Loc), t.heap = H1 → s.vm.Alike t.vm → post r u → B u t → H.size ≤ H1.size → (∀ q : Nat, q < H.size → ¬ A1 q → H1[q]? = H[q]?) → va_S A0 H0 H1 locs1 → W p l e R s m args below meth c H1 locs1 (cells + mc) (slots + ms) Q (F0 m (pc + 3) ls (.long r :: rest))) : W p l e R s m args below meth c H locs cells slots Q (F0 m pc ls st0) := by
  intro T hT X
  rcases hr T hT X with ⟨v, st₀, t, T', L, h0, X', hL, e1, e2, ⟨⟨r, u, hv, hp, hb⟩, hF⟩, st⟩ | ⟨q, st₀, t, T', L, E, ce, h0, X', hL, e1, e2, ⟨u, hp, hb, hF⟩, hce, hcv, hcl, st⟩
  · cases hv
    obtain ⟨k1, k2, k3⟩ := vx_keep h0 e1 hS hA hf hL hF
    obtain ⟨t2, a1, b1⟩ := kk r u t T'.heap (locs ++ L) e1.symm (by rw [← e2]; exact X'.warmed.alike) hp hb k1 k2 k3 T' rfl X'
    exact ⟨t2, st t2 a1, b1⟩
  · obtain ⟨k1, k2, k3⟩ := vx_keep h0 e1 hS hAX hf hL hF
    obtain ⟨t2, a1, b1⟩ := kx E ce q u t T'.heap (locs ++ L) e1.symm (by rw [← e2]; exact X'.warmed.alike) hp hb k1 k2 k3 (by rw [e1]; exact hce) hcv hcl T' rfl X'
    exact ⟨t2, st.trans a1, b1⟩
theorem vx_callf {S SX : Type} {post : UInt32 → S → Prop} {px : SX → Prop} {B : S → State → Prop} {BX : String → SX → State → Prop} {AX : Nat → Prop} (hr : vx_Run p l e R s m args below meth c H locs cells slots mc ms (F0 m pc ls st0) rest (va_Qf post B A1 a) (vx_X px BX AX) free) (hS : va_S A0 H0 H locs) (hA : ∀ q, q < H.size → A1 q → A0 q) (hf : ∀ q, free q → A0 q) (hAX : ∀ q, q < H.size → AX q → A0 q)
    (kx : ∀ (E : String) (ce : Cell) (q9 : Addr) (u : SX) (t : State) (H1 : Heap) (locs1 : List Loc), t.heap = H1 → s.vm.Alike t.vm → px u → BX E u t → H.size ≤ H1.size → (∀ q : Nat, q < H.size → ¬ AX q → H1[q]? = H[q]?) → va_S A0 H0 H1 locs1 → H1[q9]? = some ce → ce.vm = .none → s.vm.findClass E = some ce.cls → vx_W p l e R s m args below meth c H1 locs1 (cells + mc) (slots + ms) Q (F0 m pc ls rest) q9)
    (kk : ∀ (r : UInt32) (u : S) (t : State) (H1 : Heap) (locs1 : List Loc), t.heap = H1 → s.vm.Alike t.vm → post r u → B u t → H.size ≤ H1.size → (∀ q : Nat, q < H.size → ¬ A1 q → H1[q]? = H[q]?) → va_S A0 H0 H1 locs1 → W p l e R s m args below meth c H1 locs1 (cells + mc) (slots + ms) Q (F0 m (pc + 3) ls (.float r :: rest))) : W p l e R s m args below meth c H locs cells slots Q (F0 m pc ls st0) := by
  intro T hT X
  rcases hr T hT X with ⟨v, st₀, t, T', L, h0, X', hL, e1, e2, ⟨⟨r, u, hv, hp, hb⟩, hF⟩, st⟩ | ⟨q, st₀, t, T', L, E, ce, h0, X', hL, e1, e2, ⟨u, hp, hb, hF⟩, hce, hcv, hcl, st⟩
  · cases hv
    obtain ⟨k1, k2, k3⟩ := vx_keep h0 e1 hS hA hf hL hF
    obtain ⟨t2, a1, b1⟩ := kk r u t T'.heap (locs ++ L) e1.symm (by rw [← e2]; exact X'.warmed.alike) hp hb k1 k2 k3 T' rfl X'
    exact ⟨t2, st t2 a1, b1⟩
  · obtain ⟨k1, k2, k3⟩ := vx_keep h0 e1 hS hAX hf hL hF
    obtain ⟨t2, a1, b1⟩ := kx E ce q u t T'.heap (locs ++ L) e1.symm (by rw [← e2]; exact X'.warmed.alike) hp hb k1 k2 k3 (by rw [e1]; exact hce) hcv hcl T' rfl X'
    exact ⟨t2, st.trans a1, b1⟩
theorem vx_calld {S SX : Type} {post : UInt64 → S → Prop} {px : SX → Prop} {B : S → State → Prop} {BX : String → SX → State → Prop} {AX : Nat → Prop} (hr : vx_Run p l e R s m args below meth c H locs cells slots mc ms (F0 m pc ls st0) rest (va_Qd post B A1 a) (vx_X px BX AX) free) (hS : va_S A0 H0 H locs) (hA : ∀ q, q < H.size → A1 q → A0 q) (hf : ∀ q, free q → A0 q) (hAX : ∀ q, q < H.size → AX q → A0 q)
    (kx : ∀ (E : String) (ce : Cell) (q9 : Addr) (u : SX) (t : State) (H1 : Heap) (locs1 : List Loc), t.heap = H1 → s.vm.Alike t.vm → px u → BX E u t → H.size ≤ H1.size → (∀ q : Nat, q < H.size → ¬ AX q → H1[q]? = H[q]?) → va_S A0 H0 H1 locs1 → H1[q9]? = some ce → ce.vm = .none → s.vm.findClass E = some ce.cls → vx_W p l e R s m args below meth c H1 locs1 (cells + mc) (slots + ms) Q (F0 m pc ls rest) q9)
    (kk : ∀ (r : UInt64) (u : S) (t : State) (H1 : Heap) (locs1 : List Loc), t.heap = H1 → s.vm.Alike t.vm → post r u → B u t → H.size ≤ H1.size → (∀ q : Nat, q < H.size → ¬ A1 q → H1[q]? = H[q]?) → va_S A0 H0 H1 locs1 → W p l e R s m args below meth c H1 locs1 (cells + mc) (slots + ms) Q (F0 m (pc + 3) ls (.double r :: rest))) : W p l e R s m args below meth c H locs cells slots Q (F0 m pc ls st0) := by
  intro T hT X
  rcases hr T hT X with ⟨v, st₀, t, T', L, h0, X', hL, e1, e2, ⟨⟨r, u, hv, hp, hb⟩, hF⟩, st⟩ | ⟨q, st₀, t, T', L, E, ce, h0, X', hL, e1, e2, ⟨u, hp, hb, hF⟩, hce, hcv, hcl, st⟩
  · cases hv
    obtain ⟨k1, k2, k3⟩ := vx_keep h0 e1 hS hA hf hL hF
    obtain ⟨t2, a1, b1⟩ := kk r u t T'.heap (locs ++ L) e1.symm (by rw [← e2]; exact X'.warmed.alike) hp hb k1 k2 k3 T' rfl X'
    exact ⟨t2, st t2 a1, b1⟩
  · obtain ⟨k1, k2, k3⟩ := vx_keep h0 e1 hS hAX hf hL hF
    obtain ⟨t2, a1, b1⟩ := kx E ce q u t T'.heap (locs ++ L) e1.symm (by rw [← e2]; exact X'.warmed.alike) hp hb k1 k2 k3 (by rw [e1]; exact hce) hcv hcl T' rfl X'
    exact ⟨t2, st.trans a1, b1⟩
theorem vx_callv {S SX : Type} {post : S → Prop} {px : SX → Prop} {B : S → State → Prop} {BX : String → SX → State → Prop} {AX : Nat → Prop} (hr : vx_Run p l e R s m args below meth c H locs cells slots mc ms (F0 m pc ls st0) rest (va_Qv post B A1 a) (vx_X px BX AX) free) (hS : va_S A0 H0 H locs) (hA : ∀ q, q < H.size → A1 q → A0 q) (hf : ∀ q, free q → A0 q) (hAX : ∀ q, q < H.size → AX q → A0 q)
    (kx : ∀ (E : String) (ce : Cell) (q9 : Addr) (u : SX) (t : State) (H1 : Heap) (locs1 : List Loc), t.heap = H1 → s.vm.Alike t.vm → px u → BX E u t → H.size ≤ H1.size → (∀ q : Nat, q < H.size → ¬ AX q → H1[q]? = H[q]?) → va_S A0 H0 H1 locs1 → H1[q9]? = some ce → ce.vm = .none → s.vm.findClass E = some ce.cls → vx_W p l e R s m args below meth c H1 locs1 (cells + mc) (slots + ms) Q (F0 m pc ls rest) q9)
    (kk : ∀ (u : S) (t : State) (H1 : Heap) (locs1 : List Loc), t.heap = H1 → s.vm.Alike t.vm → post u → B u t → H.size ≤ H1.size → (∀ q : Nat, q < H.size → ¬ A1 q → H1[q]? = H[q]?) → va_S A0 H0 H1 locs1 → W p l e R s m args below meth c H1 locs1 (cells + mc) (slots + ms) Q (F0 m (pc + 3) ls (rest))) : W p l e R s m args below meth c H locs cells slots Q (F0 m pc ls st0) := by
  intro T hT X
  rcases hr T hT X with ⟨v, st₀, t, T', L, h0, X', hL, e1, e2, ⟨⟨u, hv, hp, hb⟩, hF⟩, st⟩ | ⟨q, st₀, t, T', L, E, ce, h0, X', hL, e1, e2, ⟨u, hp, hb, hF⟩, hce, hcv, hcl, st⟩
  · cases hv
    obtain ⟨k1, k2, k3⟩ := vx_keep h0 e1 hS hA hf hL hF
    obtain ⟨t2, a1, b1⟩ := kk u t T'.heap (locs ++ L) e1.symm (by rw [← e2]; exact X'.warmed.alike) hp hb k1 k2 k3 T' rfl X'
    exact ⟨t2, st t2 a1, b1⟩
  · obtain ⟨k1, k2, k3⟩ := vx_keep h0 e1 hS hAX hf hL hF
    obtain ⟨t2, a1, b1⟩ := kx E ce q u t T'.heap (locs ++ L) e1.symm (by rw [← e2]; exact X'.warmed.alike) hp hb k1 k2 k3 (by rw [e1]; exact hce) hcv hcl T' rfl X'
    exact ⟨t2, st.trans a1, b1⟩
/-- caught by the row x of this method's table; the rows ahead don't take it -/
theorem vx_catch {own name : String} {E : String} {ce : Cell} {q : Addr} (hown : s.vm.findClass own = some m.cls) (pre : List ExceptionTableEntry) (x : ExceptionTableEntry) (suf : List ExceptionTableEntry) (hsplit : c.exceptionTable.toList = pre ++ x :: suf)
    (hpass : ∀ z ∈ pre, covers z pc = false ∨ (z.catchType ≠ 0 ∧ ∃ nm : String, (Cond.classLink own z.catchType nm).before args s = true ∧ va_Nc E nm s)) (hx : covers x pc = true) (h0 : x.catchType ≠ 0)
    (hlink : (Cond.classLink own x.catchType name).before args s = true) (hcast : (Cond.castable E name).before args s = true) (hcell : H[q]? = some ce) (hv : ce.vm = .none) (hcl : s.vm.findClass E = some ce.cls)
    (kk : W p l e R s m args below meth c H locs cells slots Q (F0 m x.handlerPc ls [.ref q])) : vx_W p l e R s m args below meth c H locs cells slots Q (F0 m pc ls rest) q := by
  intro T hT X
  have hpl : e.platform.magicAccessors = ({} : Platform).magicAccessors := by rw [X.admits.platform]
  obtain ⟨c3, c4, hc3, hc4, hasg⟩ := Cond.castable_spec hcast
  cases Option.some.inj (hc3.symm.trans hcl)
  obtain ⟨c5, hc5, hcl5⟩ := Cond.classLink_spec hown hlink e.platform hpl
  cases Option.some.inj (hc4.symm.trans hc5)
  obtain ⟨vm', X', st⟩ := X.thenCaughtThrough q (g := F0 m pc ls rest) rfl (Steps.refl _) (by rw [hT]; exact hcell) (by rw [hv]; rfl) (by obtain ⟨k9, h9, -⟩ := Vm.findClass_spec hcl; exact ⟨k9, h9⟩) pre x suf hsplit
    (fun z hz => by
      rcases hpass z hz with h | ⟨hz0, nm, hl1, hn1⟩
      · exact Or.inl h
      · obtain ⟨c6, hc6, hcl6⟩ := Cond.classLink_spec hown hl1 e.platform hpl
        obtain ⟨a8, b8, h1, h2, h3⟩ := hn1
        cases Option.some.inj (h1.symm.trans hcl)
        cases Option.some.inj (h2.symm.trans hc6)
        exact Or.inr ⟨hz0, _, hcl6, h3⟩) hx (Or.inr ⟨h0, c4, hcl5, hasg⟩)
  obtain ⟨t, a1, b1⟩ := kk (T.setVm vm') hT X'
  exact ⟨t, st.trans a1, b1⟩
end Rows
section Ends
variable {p : Program} {l : Launch} {e : Env} {R : Room} {s : State} {m : MethodId} {args : Array Value} {below : List Frame} {meth : Method} {c : Code} {H : Heap} {locs : List Loc} {cells slots : Nat} {Q : State → Prop}
variable {mc ms : Nat} {free : Addr → Prop} {A0 A1 : Nat → Prop} {H0 : Heap} {a : Array Value} {ls : Array Slot} {st0 rest : List Value}
variable {Qc : Array Value → State → Outcome → State → Prop} {XC : String → State → State → Prop}
/-- what a body that may throw owes at its end -/
def vx_MQ (below : List Frame) (Qc : Array Value → State → Outcome → State → Prop) (XC : String → State → State → Prop) (a : Array Value) (s : State) (mc ms : Nat) (free : Addr → Prop) : State → Prop := fun t =>
  ∃ o, t.status = .running ∧ Ended t below o ∧ vx_Q Qc XC mc ms free a s o t
theorem vx_ret {g : JFrame} {mc ms : Nat} (k : W p l e R s m args below meth c H locs cells slots (MQ below Qc args s mc ms free) g) : W p l e R s m args below meth c H locs cells slots (vx_MQ below Qc XC args s mc ms free) g := by
  intro T hT X
  obtain ⟨t, a1, o, b1, b2, b3, b4⟩ := k T hT X
  exact ⟨t, a1, o, b1, b2, Or.inl ⟨b3, b4⟩⟩
/-- not caught here: it goes on to the caller -/
theorem vx_widen {g : JFrame} {q : Addr} {k n : Nat} (h1 : cells ≤ k) (h2 : slots ≤ n) (kk : vx_W p l e R s m args below meth c H locs k n Q g q) : vx_W p l e R s m args below meth c H locs cells slots Q g q := fun T hT X => kk T hT (stand_widen X h1 h2)
theorem vx_out {pc : Nat} {E : String} {ce : Cell} {q : Addr} {mc ms : Nat} (hout : ∀ x ∈ c.exceptionTable.toList, covers x pc = false) (hlocks : meth.locks = false) (hcell : H[q]? = some ce) (hv : ce.vm = .none) (hcl : s.vm.findClass E = some ce.cls)
    (hx : ∀ t : State, t.heap = H → s.vm.Alike t.vm → XC E s t) (hf : ∀ z ∈ locs, free z.base) (hc : cells ≤ mc) (hs : slots ≤ ms) :
    vx_W p l e R s m args below meth c H locs cells slots (vx_MQ below Qc XC args s mc ms free) (F0 m pc ls rest) q := by
  intro T hT X
  obtain ⟨st1, hrun, hend, hW, hsm⟩ := X.leaveThrown q (g := F0 m pc ls rest) rfl rfl rfl hout hlocks
  have hcell9 : (T.setFrames (.throwing q :: below)).heap[q]? = some ce := by
    show T.heap[q]? = some ce
    rw [hT]; exact hcell
  exact ⟨_, st1, .threw q, hrun, hend, Or.inr ⟨q, rfl, E, ce, locs, hx _ hT hW.alike, hcell9, hv, hcl, hW, hsm.mono hc hs, hf⟩⟩
theorem vx_frame {U : State} {k n : Nat} (h : s.sameButNew ({ U with vm := s.vm } : State) locs k n) : s.heap.size ≤ U.heap.size ∧ ∀ q : Nat, q < s.heap.size → (∀ z ∈ locs, z.base ≠ q) → U.heap[q]? = s.heap[q]? := by
  obtain ⟨-, h2, -, -, -, h6⟩ := h
  refine ⟨h2, fun q hq hz => ?_⟩
  obtain ⟨c9, e1, e2, e3, e4⟩ := h6 q _ (Array.getElem?_eq_getElem hq)
  have hs : c9.slots = (s.heap[q]).slots := Array.ext_getElem? fun i => e4 i fun hm => hz _ hm rfl
  have h9 : c9 = s.heap[q] := by
    rw [hs] at e2
    exact e2
  have e5 : U.heap[q]? = some c9 := e1
  rw [e5, h9, Array.getElem?_eq_getElem hq]
/-- the words of a throw but the four that speak of the heap -/
def vx_no (w : Cond) : Bool := decide (w ≠ .isRef (.static Bundle.tN "UNASSIGNED_STACK" Bundle.steD)) && decide (w ≠ .isRef (.static Bundle.tN "SUPPRESSED_SENTINEL" Bundle.listD)) && decide (w ≠ .laysStatic Bundle.tN "UNASSIGNED_STACK" Bundle.steD) && decide (w ≠ .laysStatic Bundle.tN "SUPPRESSED_SENTINEL" Bundle.listD)
def vx_at0 (own : String) (ic : Nat) (X : String) (names : List String) : List Cond := (Bundle.ownAtoms0 own ic X names).filter vx_no
def vx_atS (own : String) (ic : Nat) (X : String) (names : List String) : List Cond := (Bundle.ownAtoms own ic X names).filter vx_no
/-- a word that the tables alone decide, or a good one -/
def vx_ot (w : Cond) : Bool := w.onTables || goodWord w
theorem vx_ot_at {args a' : Array Value} {s U : State} {w : Cond} (hW : s.WarmedH U.vm) (hvm : s.vm = U.vm) (hg : vx_ot w = true) (h : w.before args s = true) : w.before a' U = true := by
  simp only [vx_ot, Bool.or_eq_true] at hg
  rcases hg with hg | hg
  · exact va_tabs hg hvm h
  · exact word_at hW (good_of_word hg) h
/-- a list's words: the good ones out of the method's own list, the others by premises of their own -/
theorem vx_hat {args : Array Value} {s : State} {L B : List Cond} (h1 : ∀ w ∈ L.filter goodWord, w.before args s = true) (h2 : ∀ w ∈ L.filter (fun w => !goodWord w), w ∈ B) (h3 : ∀ w ∈ B, w.before args s = true) : ∀ w ∈ L, w.before args s = true := by
  intro w hw
  by_cases g : goodWord w = true
  · exact h1 w (List.mem_filter.mpr ⟨hw, g⟩)
  · refine h3 w (h2 w (List.mem_filter.mpr ⟨hw, ?_⟩))
    show (!goodWord w) = true
    cases hgw : goodWord w
    · rfl
    · exact absurd hgw g
theorem vx_c {args : Array Value} {s : State} {w : Cond} {B : List Cond} (h : w.before args s = true) (t : ∀ w ∈ B, w.before args s = true) : ∀ w' ∈ w :: B, w'.before args s = true := fun w' h' => (List.mem_cons.mp h').elim (fun e => by rw [e]; exact h) (t w')
theorem vx_n {args : Array Value} {s : State} : ∀ w ∈ ([] : List Cond), w.before args s = true := fun _ h => nomatch h
theorem vx_own {args : Array Value} {s : State} {L : List Cond} (h1 : ∀ w ∈ L.filter vx_no, w.before args s = true)
    (hU : (Cond.isRef (.static Bundle.tN "UNASSIGNED_STACK" Bundle.steD)).before args s = true) (hN : (Cond.isRef (.static Bundle.tN "SUPPRESSED_SENTINEL" Bundle.listD)).before args s = true)
    (lU : (Cond.laysStatic Bundle.tN "UNASSIGNED_STACK" Bundle.steD).before args s = true) (lN : (Cond.laysStatic Bundle.tN "SUPPRESSED_SENTINEL" Bundle.listD).before args s = true) : ∀ w ∈ L, w.before args s = true := by
  intro w hw
  by_cases e1 : w = .isRef (.static Bundle.tN "UNASSIGNED_STACK" Bundle.steD)
  · rw [e1]; exact hU
  · by_cases e2 : w = .isRef (.static Bundle.tN "SUPPRESSED_SENTINEL" Bundle.listD)
    · rw [e2]; exact hN
    · by_cases e3 : w = .laysStatic Bundle.tN "UNASSIGNED_STACK" Bundle.steD
      · rw [e3]; exact lU
      · by_cases e4 : w = .laysStatic Bundle.tN "SUPPRESSED_SENTINEL" Bundle.listD
        · rw [e4]; exact lN
        · exact h1 w (List.mem_filter.mpr ⟨hw, by unfold vx_no; rw [decide_eq_true e1, decide_eq_true e2, decide_eq_true e3, decide_eq_true e4]; rfl⟩)
/-- where a static field lies, its class's statics cell in H -/
def vx_L (C n d : String) (A : Nat → Prop) (U : State) (H : Heap) : Prop := ∃ (c : ClassId) (k : Class) (i : Nat) (f : Field) (a : Nat) (cell : Cell), U.vm.findClass C = some c ∧ U.fieldFound? C n d = some (c, k, i, f) ∧ f.isStatic = true ∧ k.statics = some a ∧ H[a]? = some cell ∧ cell.vm.isStatics = true ∧ cell.cls = c ∧ f.slot < cell.slots.size ∧ k.staticTypes[f.slot]? = some f.type ∧ ¬ A a
theorem vx_L.moved {C n d : String} {A : Nat → Prop} {u U : State} {H : Heap} (hvm : u.vm.Alike U.vm) (h : vx_L C n d A u H) : vx_L C n d A U H := by
  obtain ⟨c, k, i, f, a, cell, h1, h2, h3, h4, h5, h6, h7, h8, h9, h10⟩ := h
  obtain ⟨k', hi', he⟩ := State.fieldFound?_setVm hvm h2
  exact ⟨c, k', i, f, a, cell, by rw [hvm.findClass]; exact h1, hi', h3, by rw [he]; exact h4, h5, h6, h7, h8, by rw [he]; exact h9, h10⟩
theorem vx_L.kept {C n d : String} {A : Nat → Prop} {U : State} {H H1 : Heap} (h : vx_L C n d A U H) (hq : ∀ a : Nat, a < H.size → ¬ A a → H1[a]? = H[a]?) : vx_L C n d A U H1 := by
  obtain ⟨c, k, i, f, a, cell, h1, h2, h3, h4, h5, h6, h7, h8, h9, h10⟩ := h
  exact ⟨c, k, i, f, a, cell, h1, h2, h3, h4, by rw [hq a (Array.getElem?_eq_some_iff.mp h5).1 h10]; exact h5, h6, h7, h8, h9, h10⟩
theorem vx_L.narrow {C n d : String} {A B : Nat → Prop} {U : State} {H : Heap} (h : vx_L C n d A U H) (hAB : ∀ q, B q → A q) : vx_L C n d B U H := by
  obtain ⟨c, k, i, f, a, cell, h1, h2, h3, h4, h5, h6, h7, h8, h9, h10⟩ := h
  exact ⟨c, k, i, f, a, cell, h1, h2, h3, h4, h5, h6, h7, h8, h9, fun z => h10 (hAB _ z)⟩
theorem vx_L.word {C n d : String} {A : Nat → Prop} {s : State} {args : Array Value} (h : vx_L C n d A s s.heap) : (Cond.laysStatic C n d).before args s = true := by
  obtain ⟨c, k, i, f, a, cell, h1, h2, h3, h4, h5, h6, h7, h8, h9, -⟩ := h
  show (Cond.laysStatic C n d).holds args s none s [] = true
  exact Cond.laysStatic_of h1 h2 h3 h4 h5 h6 h7 h8 h9
/-- .. and what it holds: null or some reference -/
def vx_Zq (C n d : String) (A : Nat → Prop) (U : State) (H : Heap) : Prop := va_Zq C n d A U H ∧ vx_L C n d A U H
theorem vx_Zq.moved {C n d : String} {A : Nat → Prop} {u U : State} {H : Heap} (hvm : u.vm.Alike U.vm) (h : vx_Zq C n d A u H) : vx_Zq C n d A U H := ⟨va_Zq.moved hvm h.1, vx_L.moved hvm h.2⟩
theorem vx_Zq.kept {C n d : String} {A : Nat → Prop} {U : State} {H H1 : Heap} (h : vx_Zq C n d A U H) (hq : ∀ a : Nat, a < H.size → ¬ A a → H1[a]? = H[a]?) : vx_Zq C n d A U H1 := ⟨va_Zq.kept h.1 hq, vx_L.kept h.2 hq⟩
theorem vx_Zq.narrow {C n d : String} {A B : Nat → Prop} {U : State} {H : Heap} (h : vx_Zq C n d A U H) (hAB : ∀ q, B q → A q) : vx_Zq C n d B U H := ⟨va_Zq.narrow h.1 hAB, vx_L.narrow h.2 hAB⟩
theorem vx_Zqof {args : Array Value} {s : State} {C n d : String} {A : Nat → Prop} (hl : (Cond.laysStatic C n d).before args s = true) (hini : (Cond.initialized C).before args s = true) (h : (Cond.isRef (.static C n d)).before args s = true) (hA : ∀ a : Nat, a < s.heap.size → ¬ A a) : vx_Zq C n d A s s.heap := by
  refine ⟨va_Zqof hl hini h hA, ?_⟩
  obtain ⟨c, k, i, f, a, cell, h1, h2, h3, h4, h5, h6, h7, h8, h9⟩ := Cond.laysStatic_spec hl
  exact ⟨c, k, i, f, a, cell, h1, h2, h3, h4, h5, h6, h7, h8, h9, hA a (Array.getElem?_eq_some_iff.mp h5).1⟩
theorem vx_isRef {C n d : String} {v : Value} {A : Nat → Prop} {s : State} {args : Array Value} (h : va_Z C n d v A s s.heap) (hv : v.isRef = true) : (Cond.isRef (.static C n d)).before args s = true := by
  obtain ⟨cf, kf, fi, f, a, cell, h1, h2, h3, h4, h5, h6, h7, -⟩ := h
  have he : (Term.static C n d).eval args s none [] s = some v := by
    simp [Term.eval, State.fieldNamed?, h1, h2, h4, h5, h6, h7]
  simp only [Cond.before, Cond.holds, Cond.value, he]
  cases v <;> simp_all [Value.isRef]
theorem vx_isRefq {C n d : String} {A : Nat → Prop} {s : State} {args : Array Value} (h : va_Zq C n d A s s.heap) : (Cond.isRef (.static C n d)).before args s = true := by
  rcases h with h | ⟨t, h⟩
  · exact vx_isRef h rfl
  · exact vx_isRef h rfl
/-- the same frame, seen from here: as if the method were called anew in this heap -/
theorem vx_rebase {T : State} (X : Stand p l e R s m args below meth c T locs cells slots) {R' : Room} (hf : R'.frames ≤ R.frames) (hl : R'.locals ≤ R.locals) (hc : cells + R'.cells ≤ R.cells) (hs : slots + R'.slots ≤ R.slots) :
    Stand p l e R' ((T.setVm s.vm).setFrames (.invoking m args :: below)) m args below meth c T [] 0 0 := by
  have htop : (T.setVm s.vm).topJava?.isSome := X.here.top
  have hF : ((T.setVm s.vm).setFrames (.invoking m args :: below)).frames = .invoking m args :: below := State.frames_setFrames _ (State.cur_lt_of_top htop)
  obtain ⟨g₀, hg0⟩ := Option.isSome_iff_exists.mp htop
  obtain ⟨r, hr⟩ := State.topJava?_eq_some.mp hg0
  have hl9 : e.platform.stackLimits (T.setVm s.vm).me = e.platform.stackLimits s.me := X.limits
  have hb9 : (T.setVm s.vm).me.stackBytes = s.me.stackBytes := X.bytes
  refine ⟨X.admits, X.cas, X.clock, hF, ?_, X.hears, X.method, X.code, X.here, X.tail, X.warmed, ?_, ?_, ?_⟩
  · have h := X.room
    have hU : ((T.setVm s.vm).setFrames (.invoking m args :: below)).localsInUse = s.localsInUse := by
      rw [State.localsInUse_invoking hF (meth := meth) (c := c) X.method X.code, State.localsInUse_invoking X.frames X.method X.code]
    simp only [State.hasRoom, Bool.and_eq_true, decide_eq_true_eq] at h ⊢
    obtain ⟨⟨⟨⟨h1, h2, h3, h4, h5, h6⟩, h7⟩, h8⟩, h9⟩ := h
    rw [X.frames, List.length_cons] at h2 h3
    have q1 := X.heapSize
    have q2 := X.used
    simp only [hF, hU, List.length_cons, State.stackLimits_setFrames, State.stackBytes_setFrames, hl9, hb9]
    refine ⟨⟨⟨⟨by omega, by omega, by omega, by omega, by omega, h6⟩, ?_⟩, ?_⟩, X.book⟩
    · show T.heap.size + R'.cells ≤ e.platform.maxCells
      omega
    · show T.slotsUsed + R'.slots ≤ e.platform.maxSlots
      omega
  · rw [State.stackLimits_setFrames]; rfl
  · rw [State.stackBytes_setFrames]; rfl
  · refine ⟨?_, Nat.le_refl _, Nat.le_refl _, ?_, ?_, fun a c9 h9 => ⟨c9, h9, rfl, rfl, fun _ _ => rfl⟩⟩
    · obtain ⟨t, ht, -⟩ := State.frames_cons hr
      show T.setVm s.vm = { ((T.setVm s.vm).setFrames (.invoking m args :: below)).setFrames (T.setVm s.vm).frames with heap := T.heap, slotsUsed := T.slotsUsed }
      rw [State.setFrames_setFrames, State.setFrames_self ht]
      rfl
    · show T.slotsUsed = T.slotsUsed + ((T.heap.toList.drop T.heap.size).map (·.slots.size)).sum
      rw [List.drop_eq_nil_of_le (Nat.le_of_eq Array.length_toList)]
      rfl
    · show ((T.heap.toList.drop T.heap.size).map (·.slots.size)).sum ≤ 0
      rw [List.drop_eq_nil_of_le (Nat.le_of_eq Array.length_toList)]
      exact Nat.le_refl _
/-- 'throw new E()': new; dup; invokespecial; athrow -/
theorem vx_throw0 {cc : ByteArray} {pc : Nat} (hexec : p.tables.exec = Jvm.exec) (hb : c.code = cc) (hl : l.stackTraces = false) {own cls : String} {names : List String} {ik ic mc ms : Nat} {A : Nat → Prop}
    (hown : s.vm.findClass own = some m.cls) (hcls : Bundle.fit cls = true) (hnames : ∀ n ∈ names, Bundle.fit n = true)
    (hk : (Cond.classLink own ik cls).before args s = true) (hini : (Cond.initialized cls).before args s = true) (hat : ∀ w ∈ vx_at0 own ic cls names, w.before args s = true)
    (hgood : ∀ w ∈ Cond.classLink own ik cls :: Cond.initialized cls :: vx_at0 own ic cls names, vx_ot w = true)
    (hU : vx_Zq Bundle.tN "UNASSIGNED_STACK" Bundle.steD A s s.heap) (hN : vx_Zq Bundle.tN "SUPPRESSED_SENTINEL" Bundle.listD A s s.heap) (hS : va_S A s.heap H locs) (hsize : ls.size = c.maxLocals)
    (d0 : decode cc pc = .ok (.new ik, 3)) (d3 : decode cc (pc + 3) = .ok (.dup, 1)) (d4 : decode cc (pc + 4) = .ok (.invokespecial ic, 3)) (d7 : decode cc (pc + 7) = .ok (.athrow, 1))
    (hout : ∀ x ∈ c.exceptionTable.toList, covers x (pc + 7) = false)
    (hRframes : names.length + 3 < R.frames) (hRlocals : (rest.map fun v => v.category).sum + (13 * (names.length + 1) + 42) ≤ R.locals) (hRcells : cells + 1 ≤ R.cells) (hRslots : slots + 6 ≤ R.slots) (hlocks : meth.locks = false)
    (hx : ∀ t : State, s.vm.Alike t.vm → H.size ≤ t.heap.size → (∀ q : Nat, q < H.size → t.heap[q]? = H[q]?) → XC cls s t)
    (hf : ∀ z ∈ locs, free z.base) (hc : cells + 1 ≤ mc) (hs : slots + 6 ≤ ms) :
    W p l e R s m args below meth c H locs cells slots (vx_MQ below Qc XC args s mc ms free) (F0 m pc ls rest) := by
  intro T hT X
  have htr : e.platform.stackTraces = false := (show e.platform.stackTraces = l.stackTraces by rw [X.admits.platform]).trans hl
  have Y := vx_rebase X (R' := { frames := R.frames, locals := R.locals, cells := 1, slots := 6 }) (Nat.le_refl _) (Nat.le_refl _) hRcells hRslots
  obtain ⟨s', hA⟩ : ∃ z, z = (T.setVm s.vm).setFrames (.invoking m args :: below) := ⟨_, rfl⟩
  rw [← hA] at Y
  have hvm : s'.vm = s.vm := by rw [hA]; rfl
  have hhp : s'.heap = H := by rw [hA]; exact hT
  have hW0 : s.WarmedH s'.vm := by rw [hvm]; exact State.WarmedH.refl s
  have hat' : ∀ w ∈ vx_at0 own ic cls names, w.before args s' = true := fun w hw => vx_ot_at hW0 hvm.symm (hgood w (List.mem_cons_of_mem _ (List.mem_cons_of_mem _ hw))) (hat w hw)
  have hk' : (Cond.classLink own ik cls).before args s' = true := vx_ot_at hW0 hvm.symm (hgood _ List.mem_cons_self) hk
  have hini' : (Cond.initialized cls).before args s' = true := vx_ot_at hW0 hvm.symm (hgood _ (List.mem_cons_of_mem _ List.mem_cons_self)) hini
  have hU' : vx_Zq Bundle.tN "UNASSIGNED_STACK" Bundle.steD A s' s'.heap := by rw [hhp]; exact vx_Zq.moved hW0.alike (hU.kept hS.2.1)
  have hN' : vx_Zq Bundle.tN "SUPPRESSED_SENTINEL" Bundle.listD A s' s'.heap := by rw [hhp]; exact vx_Zq.moved hW0.alike (hN.kept hS.2.1)
  have h : ∀ w ∈ Bundle.ownAtoms0 own ic cls names, w.before args s' = true := vx_own hat' (vx_isRefq hU'.1) (vx_isRefq hN'.1) hU'.2.word hN'.2.word
  have hown' : s'.vm.findClass own = some m.cls := by rw [hvm]; exact hown
  have hins : (Cond.instantiable cls 6).before args s' = true := h _ (by simp [Bundle.ownAtoms0])
  obtain ⟨vm₁, cX, kX, hfX, hkX, -, -, X₁, st1⟩ := Y.newCold hexec (own := own) (C := cls) (index := ik) (n := 6) hown' hk' hins hini'
    (g := F0 m pc ls rest) rfl (by rw [hb]; exact d0) (Nat.le_refl _) (Nat.le_refl _)
  generalize hT1 : (T.setVm vm₁).pushCell { cls := cX, slots := kX.instanceTypes.map defaultValue, vm := .none } = T1 at X₁ st1
  have hcat : (Value.ref T.heap.size).category = 1 := rfl
  have hcellA : T1.heap[T.heap.size]? = some (freshCell cX kX) := by rw [← hT1]; exact State.heap_pushCell_size _ _
  have d3' : decode c.code (pc + 3) = .ok (.dup, 1) := by rw [hb]; exact d3
  obtain ⟨U, hsteps, hrun, hend, hW, hsame, ce, hce, hO⟩ := X₁.ctorThrow0 hexec htr (own := own) (cls := cls) (names := names) (ic := ic) hown' hcls hnames h (fun x hx => nomatch hx) hfX hkX hcellA (by rw [hhp, hT]; exact Nat.le_refl _)
    (g := { method := m, pc := pc + 4, locals := ls, stack := .ref T.heap.size :: .ref T.heap.size :: rest, locked := none }) rfl hsize rfl rfl (rest := rest) rfl
    (by rw [hb]; exact d4) (by rw [hb]; exact d7) hout hRframes (by simp only [List.map_cons, List.sum_cons, hcat]; omega) hlocks
  obtain ⟨f1, f2⟩ := vx_frame hsame
  rw [hhp] at f1 f2
  have hWs : s.WarmedH U.vm := State.WarmedH.trans hW0 hW
  have hcl : s.vm.findClass cls = some ce.cls := by
    have h9 := hO.cls
    rw [hvm] at h9
    exact h9
  have hall : s.sameButNew ({ U with vm := s.vm } : State) locs mc ms := by
    subst hA
    obtain ⟨e1, e2⟩ := hsame
    rw [State.setFrames_setFrames] at e1
    have h2 : (T.setVm s.vm).sameButNew ({ U with vm := s.vm } : State) [] (0 + 1) (0 + 6) := ⟨e1, e2⟩
    have h3 := X.same.trans h2
    rw [List.append_nil] at h3
    exact h3.mono hc hs
  refine ⟨U, ?_, .threw T.heap.size, hrun, hend, Or.inr ⟨T.heap.size, rfl, cls, ce, locs, hx U hWs.alike f1 (fun q hq => f2 q hq (fun z hz => nomatch hz)), hce, hO.vm, hcl, hWs, hall, hf⟩⟩
  refine st1 _ ?_
  show Steps p.tables e below (T1.setTop { method := m, pc := pc + 3, locals := ls, stack := .ref T.heap.size :: rest, locked := none }) _
  jvm_step X₁.here [X₁.here.top, hexec, d3', Value.category]
  exact hsteps
/-- 'throw new E("text")': new; dup; ldc; invokespecial; athrow -/
theorem vx_throwS {cc : ByteArray} {pc : Nat} (hexec : p.tables.exec = Jvm.exec) (hb : c.code = cc) (hl : l.stackTraces = false) {own cls text : String} {names : List String} {ik is ic mc ms sa : Nat} {A : Nat → Prop}
    (hown : s.vm.findClass own = some m.cls) (hcls : Bundle.fit cls = true) (hnames : ∀ n ∈ names, Bundle.fit n = true)
    (hk : (Cond.classLink own ik cls).before args s = true) (hini : (Cond.initialized cls).before args s = true) (hstr : vk_R own is text sa s) (hat : ∀ w ∈ vx_atS own ic cls names, w.before args s = true)
    (hgood : ∀ w ∈ Cond.classLink own ik cls :: Cond.initialized cls :: vx_atS own ic cls names, vx_ot w = true)
    (hU : vx_Zq Bundle.tN "UNASSIGNED_STACK" Bundle.steD A s s.heap) (hN : vx_Zq Bundle.tN "SUPPRESSED_SENTINEL" Bundle.listD A s s.heap) (hS : va_S A s.heap H locs) (hsize : ls.size = c.maxLocals)
    (d0 : decode cc pc = .ok (.new ik, 3)) (d3 : decode cc (pc + 3) = .ok (.dup, 1)) (d4 : decode cc (pc + 4) = .ok (.ldc is, 2)) (d6 : decode cc (pc + 6) = .ok (.invokespecial ic, 3)) (d9 : decode cc (pc + 9) = .ok (.athrow, 1))
    (hout : ∀ x ∈ c.exceptionTable.toList, covers x (pc + 9) = false)
    (hRframes : names.length + 3 < R.frames) (hRlocals : (rest.map fun v => v.category).sum + (13 * (names.length + 1) + 43) ≤ R.locals) (hRcells : cells + 1 ≤ R.cells) (hRslots : slots + 6 ≤ R.slots) (hlocks : meth.locks = false)
    (hx : ∀ t : State, s.vm.Alike t.vm → H.size ≤ t.heap.size → (∀ q : Nat, q < H.size → t.heap[q]? = H[q]?) → XC cls s t)
    (hf : ∀ z ∈ locs, free z.base) (hc : cells + 1 ≤ mc) (hs : slots + 6 ≤ ms) :
    W p l e R s m args below meth c H locs cells slots (vx_MQ below Qc XC args s mc ms free) (F0 m pc ls rest) := by
  intro T hT X
  have htr : e.platform.stackTraces = false := (show e.platform.stackTraces = l.stackTraces by rw [X.admits.platform]).trans hl
  have Y := vx_rebase X (R' := { frames := R.frames, locals := R.locals, cells := 1, slots := 6 }) (Nat.le_refl _) (Nat.le_refl _) hRcells hRslots
  obtain ⟨s', hA⟩ : ∃ z, z = (T.setVm s.vm).setFrames (.invoking m args :: below) := ⟨_, rfl⟩
  rw [← hA] at Y
  have hvm : s'.vm = s.vm := by rw [hA]; rfl
  have hhp : s'.heap = H := by rw [hA]; exact hT
  have hW0 : s.WarmedH s'.vm := by rw [hvm]; exact State.WarmedH.refl s
  have hat' : ∀ w ∈ vx_atS own ic cls names, w.before args s' = true := fun w hw => vx_ot_at hW0 hvm.symm (hgood w (List.mem_cons_of_mem _ (List.mem_cons_of_mem _ hw))) (hat w hw)
  have hk' : (Cond.classLink own ik cls).before args s' = true := vx_ot_at hW0 hvm.symm (hgood _ List.mem_cons_self) hk
  have hini' : (Cond.initialized cls).before args s' = true := vx_ot_at hW0 hvm.symm (hgood _ (List.mem_cons_of_mem _ List.mem_cons_self)) hini
  have hU' : vx_Zq Bundle.tN "UNASSIGNED_STACK" Bundle.steD A s' s'.heap := by rw [hhp]; exact vx_Zq.moved hW0.alike (hU.kept hS.2.1)
  have hN' : vx_Zq Bundle.tN "SUPPRESSED_SENTINEL" Bundle.listD A s' s'.heap := by rw [hhp]; exact vx_Zq.moved hW0.alike (hN.kept hS.2.1)
  have h : ∀ w ∈ Bundle.ownAtoms own ic cls names, w.before args s' = true := vx_own hat' (vx_isRefq hU'.1) (vx_isRefq hN'.1) hU'.2.word hN'.2.word
  have hown' : s'.vm.findClass own = some m.cls := by rw [hvm]; exact hown
  have hins : (Cond.instantiable cls 6).before args s' = true := h _ (by simp [Bundle.ownAtoms])
  obtain ⟨vm₁, cX, kX, hfX, hkX, -, -, X₁, st1⟩ := Y.newCold hexec (own := own) (C := cls) (index := ik) (n := 6) hown' hk' hins hini'
    (g := F0 m pc ls rest) rfl (by rw [hb]; exact d0) (Nat.le_refl _) (Nat.le_refl _)
  generalize hT1 : (T.setVm vm₁).pushCell { cls := cX, slots := kX.instanceTypes.map defaultValue, vm := .none } = T1 at X₁ st1
  have hcat : (Value.ref T.heap.size).category = 1 := rfl
  have hcellA : T1.heap[T.heap.size]? = some (freshCell cX kX) := by rw [← hT1]; exact State.heap_pushCell_size _ _
  have d3' : decode c.code (pc + 3) = .ok (.dup, 1) := by rw [hb]; exact d3
  have d4' : decode c.code (pc + 4) = .ok (.ldc is, 2) := by rw [hb]; exact d4
  have hstr' : vk_R own is text sa s' := vk_R.warm hW0 hstr
  obtain ⟨U, hsteps, hrun, hend, hW, hsame, ce, hce, hO⟩ := X₁.ctorThrowS hexec htr (own := own) (cls := cls) (names := names) (ic := ic) hown' hcls hnames h (fun x hx => nomatch hx) hfX hkX hcellA (by rw [hhp, hT]; exact Nat.le_refl _) (msg := .ref sa) rfl
    (g := { method := m, pc := pc + 6, locals := ls, stack := .ref sa :: .ref T.heap.size :: .ref T.heap.size :: rest, locked := none }) rfl hsize rfl rfl (rest := rest) rfl
    (by rw [hb]; exact d6) (by rw [hb]; exact d9) hout hRframes (by simp only [List.map_cons, List.sum_cons, hcat]; omega) hlocks
  obtain ⟨f1, f2⟩ := vx_frame hsame
  rw [hhp] at f1 f2
  have hWs : s.WarmedH U.vm := State.WarmedH.trans hW0 hW
  have hcl : s.vm.findClass cls = some ce.cls := by
    have h9 := hO.cls
    rw [hvm] at h9
    exact h9
  have hall : s.sameButNew ({ U with vm := s.vm } : State) locs mc ms := by
    subst hA
    obtain ⟨e1, e2⟩ := hsame
    rw [State.setFrames_setFrames] at e1
    have h2 : (T.setVm s.vm).sameButNew ({ U with vm := s.vm } : State) [] (0 + 1) (0 + 6) := ⟨e1, e2⟩
    have h3 := X.same.trans h2
    rw [List.append_nil] at h3
    exact h3.mono hc hs
  refine ⟨U, ?_, .threw T.heap.size, hrun, hend, Or.inr ⟨T.heap.size, rfl, cls, ce, locs, hx U hWs.alike f1 (fun q hq => f2 q hq (fun z hz => nomatch hz)), hce, hO.vm, hcl, hWs, hall, hf⟩⟩
  refine st1 _ ?_
  show Steps p.tables e below (T1.setTop { method := m, pc := pc + 3, locals := ls, stack := .ref T.heap.size :: rest, locked := none }) _
  jvm_step X₁.here [X₁.here.top, hexec, d3', Value.category]
  exact X₁.ldcString hexec (own := own) (text := text) (index := is) (a := sa) hown' hstr'.1 hstr'.2
    (g := { method := m, pc := pc + 4, locals := ls, stack := .ref T.heap.size :: .ref T.heap.size :: rest, locked := none }) rfl d4' _ hsteps
/-- 'throw new E("text")', the text by a wide index -/
theorem vx_throwSW {cc : ByteArray} {pc : Nat} (hexec : p.tables.exec = Jvm.exec) (hb : c.code = cc) (hl : l.stackTraces = false) {own cls text : String} {names : List String} {ik is ic mc ms sa : Nat} {A : Nat → Prop}
    (hown : s.vm.findClass own = some m.cls) (hcls : Bundle.fit cls = true) (hnames : ∀ n ∈ names, Bundle.fit n = true)
    (hk : (Cond.classLink own ik cls).before args s = true) (hini : (Cond.initialized cls).before args s = true) (hstr : vk_R own is text sa s) (hat : ∀ w ∈ vx_atS own ic cls names, w.before args s = true)
    (hgood : ∀ w ∈ Cond.classLink own ik cls :: Cond.initialized cls :: vx_atS own ic cls names, vx_ot w = true)
    (hU : vx_Zq Bundle.tN "UNASSIGNED_STACK" Bundle.steD A s s.heap) (hN : vx_Zq Bundle.tN "SUPPRESSED_SENTINEL" Bundle.listD A s s.heap) (hS : va_S A s.heap H locs) (hsize : ls.size = c.maxLocals)
    (d0 : decode cc pc = .ok (.new ik, 3)) (d3 : decode cc (pc + 3) = .ok (.dup, 1)) (d4 : decode cc (pc + 4) = .ok (.ldc_w is, 3)) (d7 : decode cc (pc + 7) = .ok (.invokespecial ic, 3)) (d10 : decode cc (pc + 10) = .ok (.athrow, 1))
    (hout : ∀ x ∈ c.exceptionTable.toList, covers x (pc + 10) = false)
    (hRframes : names.length + 3 < R.frames) (hRlocals : (rest.map fun v => v.category).sum + (13 * (names.length + 1) + 43) ≤ R.locals) (hRcells : cells + 1 ≤ R.cells) (hRslots : slots + 6 ≤ R.slots) (hlocks : meth.locks = false)
    (hx : ∀ t : State, s.vm.Alike t.vm → H.size ≤ t.heap.size → (∀ q : Nat, q < H.size → t.heap[q]? = H[q]?) → XC cls s t)
    (hf : ∀ z ∈ locs, free z.base) (hc : cells + 1 ≤ mc) (hs : slots + 6 ≤ ms) :
    W p l e R s m args below meth c H locs cells slots (vx_MQ below Qc XC args s mc ms free) (F0 m pc ls rest) := by
  intro T hT X
  have htr : e.platform.stackTraces = false := (show e.platform.stackTraces = l.stackTraces by rw [X.admits.platform]).trans hl
  have Y := vx_rebase X (R' := { frames := R.frames, locals := R.locals, cells := 1, slots := 6 }) (Nat.le_refl _) (Nat.le_refl _) hRcells hRslots
  obtain ⟨s', hA⟩ : ∃ z, z = (T.setVm s.vm).setFrames (.invoking m args :: below) := ⟨_, rfl⟩
  rw [← hA] at Y
  have hvm : s'.vm = s.vm := by rw [hA]; rfl
  have hhp : s'.heap = H := by rw [hA]; exact hT
  have hW0 : s.WarmedH s'.vm := by rw [hvm]; exact State.WarmedH.refl s
  have hat' : ∀ w ∈ vx_atS own ic cls names, w.before args s' = true := fun w hw => vx_ot_at hW0 hvm.symm (hgood w (List.mem_cons_of_mem _ (List.mem_cons_of_mem _ hw))) (hat w hw)
  have hk' : (Cond.classLink own ik cls).before args s' = true := vx_ot_at hW0 hvm.symm (hgood _ List.mem_cons_self) hk
  have hini' : (Cond.initialized cls).before args s' = true := vx_ot_at hW0 hvm.symm (hgood _ (List.mem_cons_of_mem _ List.mem_cons_self)) hini
  have hU' : vx_Zq Bundle.tN "UNASSIGNED_STACK" Bundle.steD A s' s'.heap := by rw [hhp]; exact vx_Zq.moved hW0.alike (hU.kept hS.2.1)
  have hN' : vx_Zq Bundle.tN "SUPPRESSED_SENTINEL" Bundle.listD A s' s'.heap := by rw [hhp]; exact vx_Zq.moved hW0.alike (hN.kept hS.2.1)
  have h : ∀ w ∈ Bundle.ownAtoms own ic cls names, w.before args s' = true := vx_own hat' (vx_isRefq hU'.1) (vx_isRefq hN'.1) hU'.2.word hN'.2.word
  have hown' : s'.vm.findClass own = some m.cls := by rw [hvm]; exact hown
  have hins : (Cond.instantiable cls 6).before args s' = true := h _ (by simp [Bundle.ownAtoms])
  obtain ⟨vm₁, cX, kX, hfX, hkX, -, -, X₁, st1⟩ := Y.newCold hexec (own := own) (C := cls) (index := ik) (n := 6) hown' hk' hins hini'
    (g := F0 m pc ls rest) rfl (by rw [hb]; exact d0) (Nat.le_refl _) (Nat.le_refl _)
  generalize hT1 : (T.setVm vm₁).pushCell { cls := cX, slots := kX.instanceTypes.map defaultValue, vm := .none } = T1 at X₁ st1
  have hcat : (Value.ref T.heap.size).category = 1 := rfl
  have hcellA : T1.heap[T.heap.size]? = some (freshCell cX kX) := by rw [← hT1]; exact State.heap_pushCell_size _ _
  have d3' : decode c.code (pc + 3) = .ok (.dup, 1) := by rw [hb]; exact d3
  have d4' : decode c.code (pc + 4) = .ok (.ldc_w is, 3) := by rw [hb]; exact d4
  have hstr' : vk_R own is text sa s' := vk_R.warm hW0 hstr
  obtain ⟨U, hsteps, hrun, hend, hW, hsame, ce, hce, hO⟩ := X₁.ctorThrowS hexec htr (own := own) (cls := cls) (names := names) (ic := ic) hown' hcls hnames h (fun x hx => nomatch hx) hfX hkX hcellA (by rw [hhp, hT]; exact Nat.le_refl _) (msg := .ref sa) rfl
    (g := { method := m, pc := pc + 7, locals := ls, stack := .ref sa :: .ref T.heap.size :: .ref T.heap.size :: rest, locked := none }) rfl hsize rfl rfl (rest := rest) rfl
    (by rw [hb]; exact d7) (by rw [hb]; exact d10) hout hRframes (by simp only [List.map_cons, List.sum_cons, hcat]; omega) hlocks
  obtain ⟨f1, f2⟩ := vx_frame hsame
  rw [hhp] at f1 f2
  have hWs : s.WarmedH U.vm := State.WarmedH.trans hW0 hW
  have hcl : s.vm.findClass cls = some ce.cls := by
    have h9 := hO.cls
    rw [hvm] at h9
    exact h9
  have hall : s.sameButNew ({ U with vm := s.vm } : State) locs mc ms := by
    subst hA
    obtain ⟨e1, e2⟩ := hsame
    rw [State.setFrames_setFrames] at e1
    have h2 : (T.setVm s.vm).sameButNew ({ U with vm := s.vm } : State) [] (0 + 1) (0 + 6) := ⟨e1, e2⟩
    have h3 := X.same.trans h2
    rw [List.append_nil] at h3
    exact h3.mono hc hs
  refine ⟨U, ?_, .threw T.heap.size, hrun, hend, Or.inr ⟨T.heap.size, rfl, cls, ce, locs, hx U hWs.alike f1 (fun q hq => f2 q hq (fun z hz => nomatch hz)), hce, hO.vm, hcl, hWs, hall, hf⟩⟩
  refine st1 _ ?_
  show Steps p.tables e below (T1.setTop { method := m, pc := pc + 3, locals := ls, stack := .ref T.heap.size :: rest, locked := none }) _
  jvm_step X₁.here [X₁.here.top, hexec, d3', Value.category]
  exact X₁.ldcStringW hexec (own := own) (text := text) (index := is) (a := sa) hown' hstr'.1 hstr'.2
    (g := { method := m, pc := pc + 4, locals := ls, stack := .ref T.heap.size :: .ref T.heap.size :: rest, locked := none }) rfl d4' _ hsteps
end Ends
section Bodies
variable {l : Launch}
theorem vx_ofW {y : MethodName} {ws ws' : List Cond} {rm : Room} {Pc : Array Value → State → Prop} {Qc : Array Value → State → Outcome → State → Prop} {XC : String → State → State → Prop} {mc ms : Nat} {free : Addr → Prop} {cc : ByteArray} {maxL : Nat} {ret : Option FieldType}
    (hy : plainName y.cls = true) (hw : ws = Cond.code y cc maxL ret :: ws')
    (body : ∀ p e s m args below meth c s₁, BodyLoose p l y (headSpec ws rm) cc maxL ret e s m args below meth c s₁ → c.maxLocals = maxL → (∀ x ∈ c.exceptionTable.toList, False) → Pc args s →
      W p l e (headSpec ws rm).room s m args below meth c s.heap [] 0 0 (vx_MQ below Qc XC args s mc ms free) (entryFrame m args maxL)) : vx_Met l y ws rm Pc Qc XC mc ms free := by
  refine MetFree.of_bodyS (code := cc) (maxLocals := maxL) (ret := ret) hy ?_ ?_
  · intro args s m h hn
    obtain ⟨meth, c, h1, h2, h3, h4, h5, h6, -, -⟩ := Cond.code_spec hn (atoms_spec (ws := ws) h _ (by rw [hw]; exact List.mem_cons_self))
    exact ⟨meth, c, h1, h2, h3, h4, h5, h6⟩
  · intro p e s m args below meth c s₁ B hml hP _
    have hh0 : s₁.heap = s.heap := by rw [B.state]; rfl
    have ht : ∀ x ∈ c.exceptionTable.toList, False := by
      obtain ⟨meth9, c9, h1, h2, -, -, -, -, h7, -⟩ := Cond.code_spec B.named (atoms_spec (ws := ws) B.pre _ (by rw [hw]; exact List.mem_cons_self))
      cases Option.some.inj (h1.symm.trans B.method)
      cases Option.some.inj (h2.symm.trans (Stand.of_body B).code)
      intro x hx
      rw [Array.isEmpty_iff.mp h7] at hx
      cases hx
    obtain ⟨t, a1, o, b1, b2, b3⟩ := body p e s m args below meth c s₁ B hml ht hP s₁ hh0 (Stand.of_body B)
    exact ⟨t, o, a1, b1, b2, b3⟩
/-- the table of a body with handlers -/
theorem vx_table {p : Program} {x y : MethodName} {S : Spec} {cc bytes : ByteArray} {maxL maxL' : Nat} {ret ret' : Option FieldType} {e : Env} {s s₁ : State} {m : MethodId} {args : Array Value} {below : List Frame} {meth : Method} {c : Code} {hh : List (Nat × Nat × Nat × Nat)}
    (B : BodyLoose p l y S cc maxL ret e s m args below meth c s₁) (h : (Cond.codeWith y bytes maxL' ret' hh).before args s = true) : c.exceptionTable.toList = tableOf hh := by
  obtain ⟨m9, meth9, c9, hn9, h1, h2, -, -, h6, -⟩ := Cond.codeWith_spec h
  cases Option.some.inj (hn9.symm.trans B.named)
  cases Option.some.inj (h1.symm.trans B.method)
  cases Option.some.inj (h2.symm.trans (Stand.of_body B).code)
  rw [← h6, table_eq]
end Bodies
end VXA
/-! ===== END ===== -/
/-! ===== BEGIN a static call of a method with an exception table ===== -/
section VXS
variable {p : Program} {l : Launch} {e : Env} {R : Room} {s : State} {m : MethodId} {args : Array Value} {below : List Frame} {meth : Method} {c : Code} {T : State} {H : Heap} {locs : List Loc} {cells slots : Nat}
abbrev vx_CSW (R : Room) (s : State) (args : Array Value) (own : String) (index : Nat) (y : MethodName) (bytes : ByteArray) (maxL : Nat) (ret : Option FieldType) (hh : List (Nat × Nat × Nat × Nat)) (ws : List Cond) (rm : Room) (mc ms n : Nat) : Prop :=
  (rm.cells = mc ∧ rm.slots = ms ∧ rm.frames + 1 ≤ R.frames ∧ 8 + (maxL + 11) + rm.locals ≤ R.locals ∧ (∀ w ∈ ws, ∀ (a' : Array Value) (U : State), s.WarmedH U.vm → w.before a' U = true) ∧ Cond.codeWith y bytes maxL ret hh ∈ ws) ∧
  (Cond.codeWith y bytes maxL ret hh).before args s = true ∧ (Cond.initialized y.cls).before args s = true ∧ (y.cls ≠ "java/lang/invoke/MethodHandle" ∧ y.cls ≠ "java/lang/invoke/VarHandle") ∧
  (∀ sig, parseMethodDescriptor y.desc = some sig → n = sig.parameters.length) ∧ (Cond.methodLink own index y).before args s = true ∧ (Cond.static y).before args s = true
theorem vx_cwSW {own : String} {index maxL mc ms : Nat} {y : MethodName} {bytes : ByteArray} {ret : Option FieldType} {hh : List (Nat × Nat × Nat × Nat)} {Ts ws ws' : List Cond} {rm : Room} (n : Nat) (ht : ∀ w ∈ Ts, w.before args s = true) (hT : GoodIn Ts (va_wsS own index y ws)) (hw : ws = Cond.codeWith y bytes maxL ret hh :: ws') (hrc : rm.cells = mc) (hrs : rm.slots = ms)
    (hd : y.cls ≠ "java/lang/invoke/MethodHandle" ∧ y.cls ≠ "java/lang/invoke/VarHandle" ∧ (parseMethodDescriptor y.desc).map (fun d => d.parameters.length) = some n) (hR : rm.frames + 1 ≤ R.frames ∧ 8 + (maxL + 11) + rm.locals ≤ R.locals) :
    vx_CSW R s args own index y bytes maxL ret hh ws rm mc ms n := by
  have ok : ∀ w ∈ va_wsS own index y ws, w.before args s = true := fun w h => ht w (hT w h).1
  have hG : GoodIn Ts ws := fun w h => hT w (by unfold va_wsS; exact List.mem_append_right _ h)
  have hc : Cond.codeWith y bytes maxL ret hh ∈ ws := by rw [hw]; exact List.mem_cons_self
  refine ⟨⟨hrc, hrs, hR.1, hR.2, pay_in ht hG, hc⟩, ht _ (hG _ hc).1, ok _ (by simp [va_wsS]), ⟨hd.1, hd.2.1⟩, fun sig h => ?_, ok _ (by simp [va_wsS]), ok _ (by simp [va_wsS])⟩
  have h2 := hd.2.2
  rw [h] at h2
  exact (Option.some.inj h2).symm
theorem vx_callSW (X : Stand p l e R s m args below meth c T locs cells slots) (hexec : p.tables.exec = Jvm.exec) {own : String} {index : Nat} {y : MethodName} {bytes : ByteArray} {maxL : Nat} {ret : Option FieldType} {hh : List (Nat × Nat × Nat × Nat)}
    (hown : s.vm.findClass own = some m.cls) (hlink : (Cond.methodLink own index y).before args s = true) (hstat : (Cond.static y).before args s = true) (hinit : (Cond.initialized y.cls).before args s = true)
    (hcode : (Cond.codeWith y bytes maxL ret hh).before args s = true) (hy : y.cls ≠ "java/lang/invoke/MethodHandle" ∧ y.cls ≠ "java/lang/invoke/VarHandle")
    {W9 : Nat} {Pre : Pt → Array Value → Prop} {Post : Pt → Array Value → Option Value → Pt → Prop} (hK : Back l R p e below s args y 3 W9 Pre Post)
    {g : JFrame} (hg : g.method = m) (hsize : g.locals.size = c.maxLocals) {argsL rest : List Value} (hlen : ∀ sig, parseMethodDescriptor y.desc = some sig → argsL.length = sig.parameters.length)
    (hstack : g.stack = argsL.reverse ++ rest) (hW : 2 * g.monitorRoom + (rest.map fun v => v.category).sum ≤ W9) (hdg : decode c.code g.pc = .ok (.invokestatic index, 3))
    (hpre : ∀ vm₁, s.WarmedH vm₁ → Pre ⟨T.setVm vm₁, locs, cells, slots⟩ argsL.toArray) :
    ∃ (v : Option Value) (vm₁ : Vm) (B : Pt), s.WarmedH vm₁ ∧ Stand p l e R s m args below meth c B.U B.locs B.cells B.slots ∧ Post ⟨T.setVm vm₁, locs, cells, slots⟩ argsL.toArray v B ∧
      ∀ target, Steps p.tables e below (B.U.setTop { g with pc := g.pc + 3, stack := v.toList ++ rest }) target → Steps p.tables e below (T.setTop g) target := by
  obtain ⟨mk, methM, cM, hnamed, hmethM, -, -, -, -, -, -, hsigM⟩ := Cond.codeWith_spec hcode
  have hstatic : methM.isStatic = true := Cond.static_spec hnamed hmethM hstat
  obtain ⟨kP, hkP, -⟩ := className_of_methodNamed hnamed
  have hinitP : kP.init = .initialized := Cond.initialized_spec (findClass_of_methodNamed hnamed) hkP hinit
  obtain ⟨vm₁, X₁, hstep₁⟩ := X.invokestatic hexec hown hlink hnamed hmethM hstatic hkP hinitP hy (g := g) hg (argsL := argsL) (rest := rest) (hlen _ hsigM) hstack hdg
  obtain ⟨v, B, X', hpost, hsteps⟩ := hK m meth c ⟨T.setVm vm₁, locs, cells, slots⟩ { g with stack := rest } (.invokestatic index) mk argsL.toArray X₁ hg hsize hdg hW (X₁.named hnamed) (hpre vm₁ X₁.warmed)
  exact ⟨v, vm₁, B, X₁.warmed, X', hpost, fun target h => hstep₁ _ fun acts => by rw [doInvoke_state]; exact hsteps.trans h⟩
theorem vx_runSW {y : MethodName} {bytes cc : ByteArray} {maxL nL mc ms n index : Nat} {ret : Option FieldType} {hh : List (Nat × Nat × Nat × Nat)} {ws : List Cond} {rm : Room} {Pc : Array Value → State → Prop} {Qc : Array Value → State → Outcome → State → Prop} {free : Addr → Prop} {Ts : List Cond} {own : String} {As rest : List Value} {g : JFrame}
    (S : CallFix p m c cc nL s args Ts own) (hM : Met l y ws rm Pc Qc mc ms free) (cw : vx_CSW R s args own index y bytes maxL ret hh ws rm mc ms n) (hp : PreS s H Pc As)
    (hg : g.method = m) (hn : As.length = n) (hsize : g.locals.size = nL) (hstack : g.stack = As.reverse ++ rest) (hW : 2 * g.monitorRoom + (rest.map fun v => v.category).sum ≤ 8) (hdg : decode cc g.pc = .ok (.invokestatic index, 3)) (hf : cells + mc ≤ R.cells ∧ slots + ms ≤ R.slots) :
    va_Run p l e R s m args below meth c H locs cells slots mc ms g rest (Qc As.toArray) (free) := by
  obtain ⟨⟨hrc, hrs, hfr, hlo, hws, hcw⟩, hcode, hini, hy, hlen, hl, hstt⟩ := cw
  have hK : Back l R p e below s args y 3 8 (PreOf R mc ms Pc) (PostOf Qc mc ms free) := va_backW (hh := hh) (bytes := bytes) (maxL := maxL) (ret := ret) hM hp.1 hrc hrs hfr hlo hws hcw (fun a' U hW => word_at hW (Or.inl (by first | rfl | simp [Cond.onTables, Cond.keeps, Cond.steady])) hini)
  obtain ⟨hx, hb, hml, ho, -⟩ := S
  intro T hT X
  obtain ⟨v, vm₁, ⟨U', l2, c2, s2⟩, hW₁, X', ⟨g', mk, t, L, e1, e2, hq, h1, hL, h2, h3⟩, st⟩ := vx_callSW X hx (hh := hh) (bytes := bytes) (maxL := maxL) (ret := ret) ho hl hstt hini hcode hy hK hg (hsize.trans hml.symm) (argsL := As) (rest := rest) (fun sig h => hn.trans (hlen sig h)) hstack hW (by rw [hb]; exact hdg)
    (fun vm₁ hW₁ => ⟨hf.1, hf.2, hp.2 (T.setVm vm₁) hT hW₁⟩)
  dsimp only [Pt.U, Pt.locs, Pt.cells, Pt.slots] at X' e1 e2 h1 h2 h3 st
  subst h1; subst h2; subst h3
  exact ⟨v, (T.setVm vm₁).calling g' mk As.toArray, t, U', L, hT, X', hL, e1, e2, hq, st⟩
/-- not caught here, past rows that name other classes: it goes on to the caller -/
theorem vx_outP {p : Program} {l : Launch} {e : Env} {R : Room} {s : State} {m : MethodId} {args : Array Value} {below : List Frame} {meth : Method} {c : Code} {H : Heap} {locs : List Loc} {cells slots : Nat} {free : Addr → Prop} {ls : Array Slot} {rest : List Value} {Qc : Array Value → State → Outcome → State → Prop} {XC : String → State → State → Prop}
    {pc : Nat} {own E : String} {ce : Cell} {q : Addr} {mc ms : Nat} (hown : s.vm.findClass own = some m.cls) (hlocks : meth.locks = false)
    (hpass : ∀ z ∈ c.exceptionTable.toList, covers z pc = false ∨ (z.catchType ≠ 0 ∧ ∃ nm : String, (Cond.classLink own z.catchType nm).before args s = true ∧ va_Nc E nm s)) (hcell : H[q]? = some ce) (hv : ce.vm = .none) (hcl : s.vm.findClass E = some ce.cls)
    (hx : ∀ t : State, t.heap = H → s.vm.Alike t.vm → XC E s t) (hf : ∀ z ∈ locs, free z.base) (hc : cells ≤ mc) (hs : slots ≤ ms) :
    vx_W p l e R s m args below meth c H locs cells slots (vx_MQ below Qc XC args s mc ms free) (F0 m pc ls rest) q := by
  intro T hT X
  have hpl : e.platform.magicAccessors = ({} : Platform).magicAccessors := by rw [X.admits.platform]
  obtain ⟨vm', hW', X', st⟩ := X.outThrough hlocks q (g := F0 m pc ls rest) rfl rfl rfl (cell := ce) (by rw [hT]; exact hcell) (by rw [hv]; rfl)
    (by obtain ⟨k9, h9, -⟩ := Vm.findClass_spec hcl; exact ⟨k9, h9⟩) (fun z hz => by
      rcases hpass z hz with h | ⟨hz0, nm, hl1, hn1⟩
      · exact Or.inl h
      · obtain ⟨c6, hc6, hcl6⟩ := Cond.classLink_spec hown hl1 e.platform hpl
        obtain ⟨a8, b8, h1, h2, h3⟩ := hn1
        cases Option.some.inj (h1.symm.trans hcl)
        cases Option.some.inj (h2.symm.trans hc6)
        exact Or.inr ⟨hz0, _, hcl6, h3⟩)
  obtain ⟨g₀, hfr⟩ := X'.frames_eq
  have hcell9 : ((T.setVm vm').setFrames (.throwing q :: below)).heap[q]? = some ce := by
    show T.heap[q]? = some ce
    rw [hT]; exact hcell
  have hend : Ended ((T.setVm vm').setFrames (.throwing q :: below)) below (.threw q) := State.frames_setFrames _ (State.cur_lt_of_frames hfr)
  refine ⟨(T.setVm vm').setFrames (.throwing q :: below), ?_, .threw q, X'.here.running, hend, Or.inr ⟨q, rfl, E, ce, locs, hx _ hT (X'.ends _).1.alike, hcell9, hv, hcl, (X'.ends _).1, (X'.ends _).2.mono hc hs, hf⟩⟩
  rw [X.pushThrowing_eq]
  exact st
/-- a thing of a world lies in the heap -/
theorem vx_lt {D : va_G} {cl : List vw_C} {ws : va_W} {H1 : Heap} (h : va_P D cl ws H1) {k : Nat} {q : Nat × va_E} (hk : ws[k]? = some q) : q.1 < H1.size := (h k q hk).lt
end VXS
/-! ===== END ===== -/
/-! ===== BEGIN methods with a table of their own: called by a name, returning or throwing ===== -/
section VXH
/-! vx_backW, vx_callVX, vx_callSX, vx_callVW, vx_runVW, vx_runVX, vx_runSX, vx_ofWH follow the same proofs as their sisters above (Free/Laws.lean, Shelf42/LK1.lean); vx_outP calls Shelf42/NT130.lean (outThrough). -/
section
variable {l : Launch} {R : Room} {p : Program} {e : Env} {below : List Frame} {s : State} {sargs : Array Value} {y : MethodName} {len W9 : Nat}
theorem vx_backW {ws : List Cond} {rm : Room} {Pc : Array Value → State → Prop} {Qc : Array Value → State → Outcome → State → Prop} {XC : String → State → State → Prop} {mc ms : Nat} {free : Addr → Prop} {bytes : ByteArray} {maxL : Nat} {ret : Option FieldType} {hh : List (Nat × Nat × Nat × Nat)}
    (hM : vx_Met l y ws rm Pc Qc XC mc ms free) (hblind : FrameBlind Pc) (hrc : rm.cells = mc) (hrs : rm.slots = ms)
    (hframes : rm.frames + 1 ≤ R.frames) (hlocals : W9 + (maxL + 11) + rm.locals ≤ R.locals)
    (hws : ∀ w ∈ ws, ∀ a' U, s.WarmedH U.vm → w.before a' U = true) (hcode : Cond.codeWith y bytes maxL ret hh ∈ ws) (hinit : ∀ a' U, s.WarmedH U.vm → (Cond.initialized y.cls).before a' U = true) :
    vx_Back l R p e below s sargs y len W9 (PreOf R mc ms Pc) (PostOf Qc mc ms free) (vx_Post XC mc ms free) := by
  intro m meth c A g ig mk a X hg hsize hdg hW hn hp
  have h1 : (headSpec ws rm).pre.before a A.U = true := atoms_intro fun w hw => hws w hw _ _ X.warmed
  have h2 : (Cond.codeWith y bytes maxL ret hh).before a A.U = true := hws _ hcode _ _ X.warmed
  have h3 : (Cond.initialized y.cls).before a A.U = true := hinit _ _ X.warmed
  have h4 : A.cells + (headSpec ws rm).room.cells ≤ R.cells := by rw [show (headSpec ws rm).room.cells = mc from hrc]; exact hp.1
  have h5 : A.slots + (headSpec ws rm).room.slots ≤ R.slots := by rw [show (headSpec ws rm).room.slots = ms from hrs]; exact hp.2.1
  have hPc : Pc a (A.U.calling g mk a) := hblind _ _ _ _ hp.2.2
  obtain ⟨U, Ls, c0, s0⟩ := A
  dsimp only [Pt.U, Pt.locs, Pt.cells, Pt.slots] at h1 h2 h3 h4 h5 X hn hPc ⊢
  obtain ⟨m9, methY, cY, hn9, hmY, hcY, -, hlY, -⟩ := Cond.codeWith_spec h2
  cases Option.some.inj (hn9.symm.trans hn)
  obtain ⟨kY, hkY, -⟩ := className_of_methodNamed hn
  have hinitY : kY.init = .initialized := Cond.initialized_spec (findClass_of_methodNamed hn) hkY h3
  have h : At U g.method c below := by rw [hg]; exact X.here
  have hlocals9 : W9 + (maxL + 11) + (headSpec ws rm).room.locals ≤ R.locals := hlocals
  have happ : (headSpec ws rm).appliesLoose y e.platform (U.calling g mk a) = true :=
    Spec.appliesLoose_calling (g := g) h hdg hn hkY hinitY
      (X.room_calling (g := g) (R' := (headSpec ws rm).room) hsize hmY hcY hframes (by rw [hlY]; omega) h4 h5) h1
  obtain ⟨mid, hmid⟩ := h.above
  have hfr : (U.setTop g).frames = (.java g :: mid) ++ below := by rw [State.frames_setTop' g h.top, hmid]; rfl
  obtain ⟨o, s₂, hsteps, -, hend, hq⟩ := Steps.callFree hM p X.admits X.cas X.clock (acts := []) hfr happ hPc trivial
  have hq' : vx_Q Qc XC mc ms free a (U.calling g mk a) o s₂ := hq
  rw [State.frames_setTop' g h.top] at hend
  obtain ⟨g₀, hg0⟩ := Option.isSome_iff_exists.mp h.top
  obtain ⟨r, hr⟩ := State.topJava?_eq_some.mp hg0
  have hr' : (({ U with heap := s₂.heap, slotsUsed := s₂.slotsUsed } : State).setVm s₂.vm).frames = .java g₀ :: r := hr
  rcases hq' with ⟨hqc, L, hfe, hL⟩ | ⟨q, rfl, E, ce, L, hx, hce, hcv, hcl, hW₂, hsm, hL⟩
  · obtain ⟨⟨v, rfl⟩, hW₂, e2, q2, q3, q4, q5, q6⟩ := id hfe
    have e3 : s₂ = ({ (U.calling g mk a).setFrames s₂.frames with heap := s₂.heap, slotsUsed := s₂.slotsUsed } : State).setVm s₂.vm := by
      have : s₂ = ({ s₂ with vm := (U.calling g mk a).vm } : State).setVm s₂.vm := rfl
      rw [e2] at this
      exact this
    obtain ⟨c₂, i₂, len₂, hc₂, hd₂, hf₂⟩ := hend
    have hW' : U.WarmedH s₂.vm := hW₂
    have hcc : c₂ = c := by
      have h1 : s₂.code? g.method = U.code? g.method := by
        rw [State.code?_eq, State.code?_eq, hW'.alike.method?]
      exact Option.some.inj (hc₂.symm.trans (h1.trans h.code))
    subst hcc
    have hlen : len₂ = len := by rw [hdg] at hd₂; cases hd₂; rfl
    subst hlen
    have hs₂ : s₂ = (({ U with heap := s₂.heap, slotsUsed := s₂.slotsUsed } : State).setVm s₂.vm).setTop { g with pc := g.pc + len₂, stack := v.toList ++ g.stack } := by
      refine e3.trans ?_
      rw [hf₂, State.calling_eq h.top, State.setFrames_setFrames, State.setTop_of_frames _ hr', hr]
      rfl
    have hsame : U.sameButNew ({ U with heap := s₂.heap, slotsUsed := s₂.slotsUsed } : State) L mc ms := by
      refine ⟨?_, q2, q3, q4, q5, q6⟩
      obtain ⟨t, ht, -⟩ := State.frames_cons hr
      show ({ U with heap := s₂.heap, slotsUsed := s₂.slotsUsed } : State) = { U.setFrames U.frames with heap := s₂.heap, slotsUsed := s₂.slotsUsed }
      rw [State.setFrames_self ht]
    subst hg
    refine Or.inl ⟨v, ⟨(({ U with heap := s₂.heap, slotsUsed := s₂.slotsUsed } : State).setVm s₂.vm), Ls ++ L, c0 + mc, s0 + ms⟩,
      ⟨X.admits, X.cas, X.clock, X.frames, X.room, X.hears, X.method, X.code, (X.here.setHeapUsed s₂.heap s₂.slotsUsed).setVm hW'.alike, X.tail, State.WarmedH.trans X.warmed hW', X.limits, X.bytes, X.same.trans (hsame.setVm s.vm)⟩,
      ⟨g, mk, s₂, L, rfl, rfl, hqc, rfl, hL, rfl, rfl⟩, ?_⟩
    show Steps p.tables e below _ ((({ U with heap := s₂.heap, slotsUsed := s₂.slotsUsed } : State).setVm s₂.vm).setTop { g with pc := g.pc + len₂, stack := v.toList ++ g.stack })
    rw [← hs₂]
    exact hsteps
  · obtain ⟨e2, q2, q3, q4, q5, q6⟩ := id hsm
    have e3 : s₂ = ({ (U.calling g mk a).setFrames s₂.frames with heap := s₂.heap, slotsUsed := s₂.slotsUsed } : State).setVm s₂.vm := by
      have : s₂ = ({ s₂ with vm := (U.calling g mk a).vm } : State).setVm s₂.vm := rfl
      rw [e2] at this
      exact this
    have hf₂ : s₂.frames = .throwing q :: .java g :: U.frames.tail := hend
    have hW' : U.WarmedH s₂.vm := hW₂
    have hs₂ : s₂ = ((({ U with heap := s₂.heap, slotsUsed := s₂.slotsUsed } : State).setVm s₂.vm).setTop g).pushFrame (.throwing q) := by
      refine e3.trans ?_
      rw [hf₂, State.calling_eq h.top, State.setFrames_setFrames, State.pushFrame, State.frames_setTop _ hr', State.setTop_of_frames _ hr', State.setFrames_setFrames, hr]
      rfl
    have hsame : U.sameButNew ({ U with heap := s₂.heap, slotsUsed := s₂.slotsUsed } : State) L mc ms := by
      refine ⟨?_, q2, q3, q4, q5, q6⟩
      obtain ⟨t, ht, -⟩ := State.frames_cons hr
      show ({ U with heap := s₂.heap, slotsUsed := s₂.slotsUsed } : State) = { U.setFrames U.frames with heap := s₂.heap, slotsUsed := s₂.slotsUsed }
      rw [State.setFrames_self ht]
    subst hg
    refine Or.inr ⟨q, ⟨(({ U with heap := s₂.heap, slotsUsed := s₂.slotsUsed } : State).setVm s₂.vm), Ls ++ L, c0 + mc, s0 + ms⟩,
      ⟨X.admits, X.cas, X.clock, X.frames, X.room, X.hears, X.method, X.code, (X.here.setHeapUsed s₂.heap s₂.slotsUsed).setVm hW'.alike, X.tail, State.WarmedH.trans X.warmed hW', X.limits, X.bytes, X.same.trans (hsame.setVm s.vm)⟩,
      ⟨g, mk, s₂, L, E, ce, rfl, rfl, hx, hce, hcv, hcl, rfl, hL, rfl, rfl⟩, ?_⟩
    show Steps p.tables e below _ (((({ U with heap := s₂.heap, slotsUsed := s₂.slotsUsed } : State).setVm s₂.vm).setTop g).pushFrame (.throwing q))
    rw [← hs₂]
    exact hsteps
end
variable {p : Program} {l : Launch} {e : Env} {R : Room} {s : State} {m : MethodId} {args : Array Value} {below : List Frame} {meth : Method} {c : Code} {T : State} {H : Heap} {locs : List Loc} {cells slots : Nat}
theorem vx_callVX (X : Stand p l e R s m args below meth c T locs cells slots) (hexec : p.tables.exec = Jvm.exec) {own C : String} {index : Nat} {y : MethodName} {bytes : ByteArray} {maxL : Nat} {ret : Option FieldType} {hh : List (Nat × Nat × Nat × Nat)}
    (hown : s.vm.findClass own = some m.cls) (hlink : (Cond.methodLink own index y).before args s = true) (hinst : (Cond.instanceMethod y).before args s = true) (hsel : (Cond.selects C y y).before args s = true)
    (hcode : (Cond.codeWith y bytes maxL ret hh).before args s = true) (hy : y.cls ≠ "java/lang/invoke/MethodHandle" ∧ y.cls ≠ "java/lang/invoke/VarHandle")
    {W9 : Nat} {Pre : Pt → Array Value → Prop} {Post : Pt → Array Value → Option Value → Pt → Prop} {PostX : Pt → Array Value → Addr → Pt → Prop} (hK : vx_Back l R p e below s args y 3 W9 Pre Post PostX)
    {b : Addr} {cellB : Cell} (hcell : T.heap[b]? = some cellB) (hobj : cellB.vm.isStatics = false) (hcls : s.vm.findClass C = some cellB.cls)
    {g : JFrame} (hg : g.method = m) (hsize : g.locals.size = c.maxLocals) {argsL rest : List Value} (hlen : ∀ sig, parseMethodDescriptor y.desc = some sig → argsL.length = sig.parameters.length)
    (hstack : g.stack = argsL.reverse ++ .ref b :: rest) (hW : 2 * g.monitorRoom + (rest.map fun v => v.category).sum ≤ W9) (hdg : decode c.code g.pc = .ok (.invokevirtual index, 3))
    (hpre : ∀ vm₁, s.WarmedH vm₁ → Pre ⟨T.setVm vm₁, locs, cells, slots⟩ (Value.ref b :: argsL).toArray) :
    (∃ (v : Option Value) (vm₁ : Vm) (B : Pt), s.WarmedH vm₁ ∧ Stand p l e R s m args below meth c B.U B.locs B.cells B.slots ∧ Post ⟨T.setVm vm₁, locs, cells, slots⟩ (Value.ref b :: argsL).toArray v B ∧
      ∀ target, Steps p.tables e below (B.U.setTop { g with pc := g.pc + 3, stack := v.toList ++ rest }) target → Steps p.tables e below (T.setTop g) target) ∨
    (∃ (q : Addr) (vm₁ : Vm) (B : Pt), s.WarmedH vm₁ ∧ Stand p l e R s m args below meth c B.U B.locs B.cells B.slots ∧ PostX ⟨T.setVm vm₁, locs, cells, slots⟩ (Value.ref b :: argsL).toArray q B ∧
      Steps p.tables e below (T.setTop g) ((B.U.setTop { g with stack := rest }).pushFrame (.throwing q))) := by
  obtain ⟨mk, methM, hnamed, hmethM, hstM, habM⟩ := Cond.instanceMethod_spec hinst
  obtain ⟨m8, methM', cM, hn8, hmethM', -, -, -, -, -, -, hsigM⟩ := Cond.codeWith_spec hcode
  cases Option.some.inj (hn8.symm.trans hnamed)
  cases hmethM.symm.trans hmethM'
  obtain ⟨c2, r2, m2, q1, q2, q3, q4, kP, hkP, hkPi⟩ := Cond.selects_spec hsel
  cases hcls.symm.trans q1
  cases (State.methodFound?_of_named hnamed hy).symm.trans q2
  cases hnamed.symm.trans q3
  have hselP : selectMethod e.platform s.vm cellB.cls mk = .method mk := by rw [Launch.admits_selectMethod X.admits]; exact q4
  obtain ⟨vm₁, X₁, hstep₁⟩ := X.invokevirtual hexec hown hlink hnamed hmethM hstM hkP hkPi hy (a := b) (cell := cellB) hcell
    (fun z h => by rw [h] at hobj; cases hobj) hselP hmethM habM hkP hkPi (g := g) hg (argsL := argsL) (rest := rest) (hlen _ hsigM) hstack hdg
  rcases hK m meth c ⟨T.setVm vm₁, locs, cells, slots⟩ { g with stack := rest } (.invokevirtual index) mk (Value.ref b :: argsL).toArray X₁ hg hsize hdg hW (X₁.named hnamed) (hpre vm₁ X₁.warmed) with ⟨v, B, X', hpost, hsteps⟩ | ⟨q, B, X', hpost, hsteps⟩
  · exact Or.inl ⟨v, vm₁, B, X₁.warmed, X', hpost, fun target h => hstep₁ _ fun acts => by rw [doInvoke_state]; exact hsteps.trans h⟩
  · exact Or.inr ⟨q, vm₁, B, X₁.warmed, X', hpost, hstep₁ _ fun acts => by rw [doInvoke_state]; exact hsteps⟩
theorem vx_callSX (X : Stand p l e R s m args below meth c T locs cells slots) (hexec : p.tables.exec = Jvm.exec) {own : String} {index : Nat} {y : MethodName} {bytes : ByteArray} {maxL : Nat} {ret : Option FieldType} {hh : List (Nat × Nat × Nat × Nat)}
    (hown : s.vm.findClass own = some m.cls) (hlink : (Cond.methodLink own index y).before args s = true) (hstat : (Cond.static y).before args s = true) (hinit : (Cond.initialized y.cls).before args s = true)
    (hcode : (Cond.codeWith y bytes maxL ret hh).before args s = true) (hy : y.cls ≠ "java/lang/invoke/MethodHandle" ∧ y.cls ≠ "java/lang/invoke/VarHandle")
    {W9 : Nat} {Pre : Pt → Array Value → Prop} {Post : Pt → Array Value → Option Value → Pt → Prop} {PostX : Pt → Array Value → Addr → Pt → Prop} (hK : vx_Back l R p e below s args y 3 W9 Pre Post PostX)
    {g : JFrame} (hg : g.method = m) (hsize : g.locals.size = c.maxLocals) {argsL rest : List Value} (hlen : ∀ sig, parseMethodDescriptor y.desc = some sig → argsL.length = sig.parameters.length)
    (hstack : g.stack = argsL.reverse ++ rest) (hW : 2 * g.monitorRoom + (rest.map fun v => v.category).sum ≤ W9) (hdg : decode c.code g.pc = .ok (.invokestatic index, 3))
    (hpre : ∀ vm₁, s.WarmedH vm₁ → Pre ⟨T.setVm vm₁, locs, cells, slots⟩ argsL.toArray) :
    (∃ (v : Option Value) (vm₁ : Vm) (B : Pt), s.WarmedH vm₁ ∧ Stand p l e R s m args below meth c B.U B.locs B.cells B.slots ∧ Post ⟨T.setVm vm₁, locs, cells, slots⟩ argsL.toArray v B ∧
      ∀ target, Steps p.tables e below (B.U.setTop { g with pc := g.pc + 3, stack := v.toList ++ rest }) target → Steps p.tables e below (T.setTop g) target) ∨
    (∃ (q : Addr) (vm₁ : Vm) (B : Pt), s.WarmedH vm₁ ∧ Stand p l e R s m args below meth c B.U B.locs B.cells B.slots ∧ PostX ⟨T.setVm vm₁, locs, cells, slots⟩ argsL.toArray q B ∧
      Steps p.tables e below (T.setTop g) ((B.U.setTop { g with stack := rest }).pushFrame (.throwing q))) := by
  obtain ⟨mk, methM, cM, hnamed, hmethM, -, -, -, -, -, -, hsigM⟩ := Cond.codeWith_spec hcode
  have hstatic : methM.isStatic = true := Cond.static_spec hnamed hmethM hstat
  obtain ⟨kP, hkP, -⟩ := className_of_methodNamed hnamed
  have hinitP : kP.init = .initialized := Cond.initialized_spec (findClass_of_methodNamed hnamed) hkP hinit
  obtain ⟨vm₁, X₁, hstep₁⟩ := X.invokestatic hexec hown hlink hnamed hmethM hstatic hkP hinitP hy (g := g) hg (argsL := argsL) (rest := rest) (hlen _ hsigM) hstack hdg
  rcases hK m meth c ⟨T.setVm vm₁, locs, cells, slots⟩ { g with stack := rest } (.invokestatic index) mk argsL.toArray X₁ hg hsize hdg hW (X₁.named hnamed) (hpre vm₁ X₁.warmed) with ⟨v, B, X', hpost, hsteps⟩ | ⟨q, B, X', hpost, hsteps⟩
  · exact Or.inl ⟨v, vm₁, B, X₁.warmed, X', hpost, fun target h => hstep₁ _ fun acts => by rw [doInvoke_state]; exact hsteps.trans h⟩
  · exact Or.inr ⟨q, vm₁, B, X₁.warmed, X', hpost, hstep₁ _ fun acts => by rw [doInvoke_state]; exact hsteps⟩
theorem vx_callVW (X : Stand p l e R s m args below meth c T locs cells slots) (hexec : p.tables.exec = Jvm.exec) {own C : String} {index : Nat} {y : MethodName} {bytes : ByteArray} {maxL : Nat} {ret : Option FieldType} {hh : List (Nat × Nat × Nat × Nat)}
    (hown : s.vm.findClass own = some m.cls) (hlink : (Cond.methodLink own index y).before args s = true) (hinst : (Cond.instanceMethod y).before args s = true) (hsel : (Cond.selects C y y).before args s = true)
    (hcode : (Cond.codeWith y bytes maxL ret hh).before args s = true) (hy : y.cls ≠ "java/lang/invoke/MethodHandle" ∧ y.cls ≠ "java/lang/invoke/VarHandle")
    {W9 : Nat} {Pre : Pt → Array Value → Prop} {Post : Pt → Array Value → Option Value → Pt → Prop} (hK : Back l R p e below s args y 3 W9 Pre Post)
    {b : Addr} {cellB : Cell} (hcell : T.heap[b]? = some cellB) (hobj : cellB.vm.isStatics = false) (hcls : s.vm.findClass C = some cellB.cls)
    {g : JFrame} (hg : g.method = m) (hsize : g.locals.size = c.maxLocals) {argsL rest : List Value} (hlen : ∀ sig, parseMethodDescriptor y.desc = some sig → argsL.length = sig.parameters.length)
    (hstack : g.stack = argsL.reverse ++ .ref b :: rest) (hW : 2 * g.monitorRoom + (rest.map fun v => v.category).sum ≤ W9) (hdg : decode c.code g.pc = .ok (.invokevirtual index, 3))
    (hpre : ∀ vm₁, s.WarmedH vm₁ → Pre ⟨T.setVm vm₁, locs, cells, slots⟩ (Value.ref b :: argsL).toArray) :
    ∃ (v : Option Value) (vm₁ : Vm) (B : Pt), s.WarmedH vm₁ ∧ Stand p l e R s m args below meth c B.U B.locs B.cells B.slots ∧ Post ⟨T.setVm vm₁, locs, cells, slots⟩ (Value.ref b :: argsL).toArray v B ∧
      ∀ target, Steps p.tables e below (B.U.setTop { g with pc := g.pc + 3, stack := v.toList ++ rest }) target → Steps p.tables e below (T.setTop g) target := by
  obtain ⟨mk, methM, hnamed, hmethM, hstM, habM⟩ := Cond.instanceMethod_spec hinst
  obtain ⟨m8, methM', cM, hn8, hmethM', -, -, -, -, -, -, hsigM⟩ := Cond.codeWith_spec hcode
  cases Option.some.inj (hn8.symm.trans hnamed)
  cases hmethM.symm.trans hmethM'
  obtain ⟨c2, r2, m2, q1, q2, q3, q4, kP, hkP, hkPi⟩ := Cond.selects_spec hsel
  cases hcls.symm.trans q1
  cases (State.methodFound?_of_named hnamed hy).symm.trans q2
  cases hnamed.symm.trans q3
  have hselP : selectMethod e.platform s.vm cellB.cls mk = .method mk := by rw [Launch.admits_selectMethod X.admits]; exact q4
  obtain ⟨vm₁, X₁, hstep₁⟩ := X.invokevirtual hexec hown hlink hnamed hmethM hstM hkP hkPi hy (a := b) (cell := cellB) hcell
    (fun z h => by rw [h] at hobj; cases hobj) hselP hmethM habM hkP hkPi (g := g) hg (argsL := argsL) (rest := rest) (hlen _ hsigM) hstack hdg
  obtain ⟨v, B, X', hpost, hsteps⟩ := hK m meth c ⟨T.setVm vm₁, locs, cells, slots⟩ { g with stack := rest } (.invokevirtual index) mk (Value.ref b :: argsL).toArray X₁ hg hsize hdg hW (X₁.named hnamed) (hpre vm₁ X₁.warmed)
  exact ⟨v, vm₁, B, X₁.warmed, X', hpost, fun target h => hstep₁ _ fun acts => by rw [doInvoke_state]; exact hsteps.trans h⟩
abbrev vx_CVW (R : Room) (s : State) (args : Array Value) (own C : String) (index : Nat) (y : MethodName) (bytes : ByteArray) (maxL : Nat) (ret : Option FieldType) (hh : List (Nat × Nat × Nat × Nat)) (ws : List Cond) (rm : Room) (mc ms n : Nat) : Prop :=
  (rm.cells = mc ∧ rm.slots = ms ∧ rm.frames + 1 ≤ R.frames ∧ 8 + (maxL + 11) + rm.locals ≤ R.locals ∧ (∀ w ∈ ws, ∀ (a' : Array Value) (U : State), s.WarmedH U.vm → w.before a' U = true) ∧ Cond.codeWith y bytes maxL ret hh ∈ ws) ∧
  (Cond.codeWith y bytes maxL ret hh).before args s = true ∧ (Cond.initialized y.cls).before args s = true ∧ (y.cls ≠ "java/lang/invoke/MethodHandle" ∧ y.cls ≠ "java/lang/invoke/VarHandle") ∧
  (∀ sig, parseMethodDescriptor y.desc = some sig → n = sig.parameters.length) ∧ (Cond.methodLink own index y).before args s = true ∧ (Cond.instanceMethod y).before args s = true ∧ (Cond.selects C y y).before args s = true
theorem vx_cwVW {own C : String} {index maxL mc ms : Nat} {y : MethodName} {bytes : ByteArray} {ret : Option FieldType} {hh : List (Nat × Nat × Nat × Nat)} {Ts ws ws' : List Cond} {rm : Room} (n : Nat) (ht : ∀ w ∈ Ts, w.before args s = true) (hT : GoodIn Ts (wsV own index C y ws)) (hw : ws = Cond.codeWith y bytes maxL ret hh :: ws') (hrc : rm.cells = mc) (hrs : rm.slots = ms)
    (hd : y.cls = C ∧ y.cls ≠ "java/lang/invoke/MethodHandle" ∧ y.cls ≠ "java/lang/invoke/VarHandle" ∧ (parseMethodDescriptor y.desc).map (fun d => d.parameters.length) = some n) (hR : rm.frames + 1 ≤ R.frames ∧ 8 + (maxL + 11) + rm.locals ≤ R.locals) :
    vx_CVW R s args own C index y bytes maxL ret hh ws rm mc ms n := by
  obtain ⟨hC, hd⟩ := hd
  subst hC
  have ok : ∀ w ∈ wsV own index y.cls y ws, w.before args s = true := fun w h => ht w (hT w h).1
  have hG : GoodIn Ts ws := fun w h => hT w (by unfold wsV; exact List.mem_append_right _ h)
  have hc : Cond.codeWith y bytes maxL ret hh ∈ ws := by rw [hw]; exact List.mem_cons_self
  refine ⟨⟨hrc, hrs, hR.1, hR.2, pay_in ht hG, hc⟩, ht _ (hG _ hc).1, ok _ (by simp [wsV]), ⟨hd.1, hd.2.1⟩, fun sig h => ?_, ok _ (by simp [wsV]), ok _ (by simp [wsV]), ok _ (by simp [wsV])⟩
  have h2 := hd.2.2
  rw [h] at h2
  exact (Option.some.inj h2).symm
theorem vx_runVW {y : MethodName} {bytes cc : ByteArray} {maxL nL mc ms n index : Nat} {ret : Option FieldType} {hh : List (Nat × Nat × Nat × Nat)} {ws : List Cond} {rm : Room} {Pc : Array Value → State → Prop} {Qc : Array Value → State → Outcome → State → Prop} {free : Addr → Prop} {Ts : List Cond} {own C : String} {b : Addr} {As rest : List Value} {g : JFrame}
    (S : CallFix p m c cc nL s args Ts own) (hM : Met l y ws rm Pc Qc mc ms free) (cw : vx_CVW R s args own C index y bytes maxL ret hh ws rm mc ms n) (hp : PreV s H C b Pc As)
    (hg : g.method = m) (hn : As.length = n) (hsize : g.locals.size = nL) (hstack : g.stack = As.reverse ++ .ref b :: rest) (hW : 2 * g.monitorRoom + (rest.map fun v => v.category).sum ≤ 8) (hdg : decode cc g.pc = .ok (.invokevirtual index, 3)) (hf : cells + mc ≤ R.cells ∧ slots + ms ≤ R.slots) :
    va_Run p l e R s m args below meth c H locs cells slots mc ms g rest (Qc (Value.ref b :: As).toArray) free := by
  obtain ⟨⟨hrc, hrs, hfr, hlo, hws, hcw⟩, hcode, hini, hy, hlen, hl, hin, hse⟩ := cw
  have hK : Back l R p e below s args y 3 8 (PreOf R mc ms Pc) (PostOf Qc mc ms free) := va_backW (hh := hh) (bytes := bytes) (maxL := maxL) (ret := ret) hM hp.1 hrc hrs hfr hlo hws hcw (fun a' U hW => word_at hW (Or.inl (by first | rfl | simp [Cond.onTables, Cond.keeps, Cond.steady])) hini)
  obtain ⟨hx, hb, hml, ho, -⟩ := S
  obtain ⟨-, ⟨cellB, hcB, hoB, hclB⟩, hPc⟩ := hp
  intro T hT X
  obtain ⟨v, vm₁, ⟨U', l2, c2, s2⟩, hW₁, X', ⟨g', mk, t, L, e1, e2, hq, h1, hL, h2, h3⟩, st⟩ := vx_callVW X hx (C := C) (hh := hh) (bytes := bytes) (maxL := maxL) (ret := ret) ho hl hin hse hcode hy hK (by rw [hT]; exact hcB) hoB hclB hg (hsize.trans hml.symm) (argsL := As) (rest := rest) (fun sig h => hn.trans (hlen sig h)) hstack hW (by rw [hb]; exact hdg)
    (fun vm₁ hW₁ => ⟨hf.1, hf.2, hPc (T.setVm vm₁) hT hW₁⟩)
  dsimp only [Pt.U, Pt.locs, Pt.cells, Pt.slots] at X' e1 e2 h1 h2 h3 st
  subst h1; subst h2; subst h3
  exact ⟨v, (T.setVm vm₁).calling g' mk (Value.ref b :: As).toArray, t, U', L, hT, X', hL, e1, e2, hq, st⟩
section
variable {y : MethodName} {bytes cc : ByteArray} {maxL nL mc ms n index : Nat} {ret : Option FieldType} {ws : List Cond} {rm : Room} {Pc : Array Value → State → Prop} {Qc : Array Value → State → Outcome → State → Prop} {XC : String → State → State → Prop} {free : Addr → Prop} {Ts : List Cond} {own C : String} {b : Addr} {As rest : List Value} {g : JFrame}
theorem vx_runVX {hh : List (Nat × Nat × Nat × Nat)} (S : CallFix p m c cc nL s args Ts own) (hM : vx_Met l y ws rm Pc Qc XC mc ms free) (cw : vx_CVW R s args own C index y bytes maxL ret hh ws rm mc ms n) (hp : PreV s H C b Pc As)
    (hg : g.method = m) (hn : As.length = n) (hsize : g.locals.size = nL) (hstack : g.stack = As.reverse ++ .ref b :: rest) (hW : 2 * g.monitorRoom + (rest.map fun v => v.category).sum ≤ 8) (hdg : decode cc g.pc = .ok (.invokevirtual index, 3)) (hf : cells + mc ≤ R.cells ∧ slots + ms ≤ R.slots) :
    vx_Run p l e R s m args below meth c H locs cells slots mc ms g rest (Qc (Value.ref b :: As).toArray) XC free := by
  obtain ⟨⟨hrc, hrs, hfr, hlo, hws, hcw⟩, hcode, hini, hy, hlen, hl, hin, hse⟩ := cw
  have hK : vx_Back l R p e below s args y 3 8 (PreOf R mc ms Pc) (PostOf Qc mc ms free) (vx_Post XC mc ms free) := vx_backW (hh := hh) (bytes := bytes) (maxL := maxL) (ret := ret) hM hp.1 hrc hrs hfr hlo hws hcw (fun a' U hW => word_at hW (Or.inl (by first | rfl | simp [Cond.onTables, Cond.keeps, Cond.steady])) hini)
  obtain ⟨hx, hb, hml, ho, -⟩ := S
  obtain ⟨-, ⟨cellB, hcB, hoB, hclB⟩, hPc⟩ := hp
  intro T hT X
  rcases vx_callVX X hx (C := C) (hh := hh) (bytes := bytes) (maxL := maxL) (ret := ret) ho hl hin hse hcode hy hK (by rw [hT]; exact hcB) hoB hclB hg (hsize.trans hml.symm) (argsL := As) (rest := rest) (fun sig h => hn.trans (hlen sig h)) hstack hW (by rw [hb]; exact hdg)
    (fun vm₁ hW₁ => ⟨hf.1, hf.2, hPc (T.setVm vm₁) hT hW₁⟩) with ⟨v, vm₁, ⟨U', l2, c2, s2⟩, hW₁, X', ⟨g', mk, t, L, e1, e2, hq, h1, hL, h2, h3⟩, st⟩ | ⟨q, vm₁, ⟨U', l2, c2, s2⟩, hW₁, X', ⟨g', mk, t, L, E, ce, e1, e2, hq, hce, hcv, hcl, h1, hL, h2, h3⟩, st⟩
  · dsimp only [Pt.U, Pt.locs, Pt.cells, Pt.slots] at X' e1 e2 h1 h2 h3 st
    subst h1; subst h2; subst h3
    exact Or.inl ⟨v, (T.setVm vm₁).calling g' mk (Value.ref b :: As).toArray, t, U', L, hT, X', hL, e1, e2, hq, st⟩
  · dsimp only [Pt.U, Pt.locs, Pt.cells, Pt.slots] at X' e1 e2 h1 h2 h3 st hcl
    subst h1; subst h2; subst h3
    exact Or.inr ⟨q, (T.setVm vm₁).calling g' mk (Value.ref b :: As).toArray, t, U', L, E, ce, hT, X', hL, e1, e2, hq, hce, hcv, vx_cls hW₁ hcl, st⟩
theorem vx_runSX {hh : List (Nat × Nat × Nat × Nat)} (S : CallFix p m c cc nL s args Ts own) (hM : vx_Met l y ws rm Pc Qc XC mc ms free) (cw : vx_CSW R s args own index y bytes maxL ret hh ws rm mc ms n) (hp : PreS s H Pc As)
    (hg : g.method = m) (hn : As.length = n) (hsize : g.locals.size = nL) (hstack : g.stack = As.reverse ++ rest) (hW : 2 * g.monitorRoom + (rest.map fun v => v.category).sum ≤ 8) (hdg : decode cc g.pc = .ok (.invokestatic index, 3)) (hf : cells + mc ≤ R.cells ∧ slots + ms ≤ R.slots) :
    vx_Run p l e R s m args below meth c H locs cells slots mc ms g rest (Qc As.toArray) XC free := by
  obtain ⟨⟨hrc, hrs, hfr, hlo, hws, hcw⟩, hcode, hini, hy, hlen, hl, hstt⟩ := cw
  have hK : vx_Back l R p e below s args y 3 8 (PreOf R mc ms Pc) (PostOf Qc mc ms free) (vx_Post XC mc ms free) := vx_backW (hh := hh) (bytes := bytes) (maxL := maxL) (ret := ret) hM hp.1 hrc hrs hfr hlo hws hcw (fun a' U hW => word_at hW (Or.inl (by first | rfl | simp [Cond.onTables, Cond.keeps, Cond.steady])) hini)
  obtain ⟨hx, hb, hml, ho, -⟩ := S
  intro T hT X
  rcases vx_callSX X hx (hh := hh) (bytes := bytes) (maxL := maxL) (ret := ret) ho hl hstt hini hcode hy hK hg (hsize.trans hml.symm) (argsL := As) (rest := rest) (fun sig h => hn.trans (hlen sig h)) hstack hW (by rw [hb]; exact hdg)
    (fun vm₁ hW₁ => ⟨hf.1, hf.2, hp.2 (T.setVm vm₁) hT hW₁⟩) with ⟨v, vm₁, ⟨U', l2, c2, s2⟩, hW₁, X', ⟨g', mk, t, L, e1, e2, hq, h1, hL, h2, h3⟩, st⟩ | ⟨q, vm₁, ⟨U', l2, c2, s2⟩, hW₁, X', ⟨g', mk, t, L, E, ce, e1, e2, hq, hce, hcv, hcl, h1, hL, h2, h3⟩, st⟩
  · dsimp only [Pt.U, Pt.locs, Pt.cells, Pt.slots] at X' e1 e2 h1 h2 h3 st
    subst h1; subst h2; subst h3
    exact Or.inl ⟨v, (T.setVm vm₁).calling g' mk As.toArray, t, U', L, hT, X', hL, e1, e2, hq, st⟩
  · dsimp only [Pt.U, Pt.locs, Pt.cells, Pt.slots] at X' e1 e2 h1 h2 h3 st hcl
    subst h1; subst h2; subst h3
    exact Or.inr ⟨q, (T.setVm vm₁).calling g' mk As.toArray, t, U', L, E, ce, hT, X', hL, e1, e2, hq, hce, hcv, vx_cls hW₁ hcl, st⟩
end
end VXH
theorem vx_ofWH {l : Launch} {y : MethodName} {ws ws' : List Cond} {rm : Room} {Pc : Array Value → State → Prop} {Qc : Array Value → State → Outcome → State → Prop} {XC : String → State → State → Prop} {mc ms : Nat} {free : Addr → Prop} {cc : ByteArray} {maxL : Nat} {ret : Option FieldType} {hh : List (Nat × Nat × Nat × Nat)}
    (hy : plainName y.cls = true) (hw : ws = Cond.codeWith y cc maxL ret hh :: ws')
    (body : ∀ p e s m args below meth c s₁, BodyLoose p l y (headSpec ws rm) cc maxL ret e s m args below meth c s₁ → c.maxLocals = maxL → Pc args s →
      W p l e (headSpec ws rm).room s m args below meth c s.heap [] 0 0 (vx_MQ below Qc XC args s mc ms free) (entryFrame m args maxL)) : vx_Met l y ws rm Pc Qc XC mc ms free := by
  refine MetFree.of_bodyS (code := cc) (maxLocals := maxL) (ret := ret) hy ?_ ?_
  · intro args s m h hn
    obtain ⟨m9, meth, c, hn9, h1, h2, h3, h4, -, h5, h6, -⟩ := Cond.codeWith_spec (atoms_spec (ws := ws) h _ (by rw [hw]; exact List.mem_cons_self))
    cases hn.symm.trans hn9
    exact ⟨meth, c, h1, h2, h3, h4, h5, h6⟩
  · intro p e s m args below meth c s₁ B hml hP _
    have hh0 : s₁.heap = s.heap := by rw [B.state]; rfl
    obtain ⟨t, a1, o, b1, b2, b3⟩ := body p e s m args below meth c s₁ B hml hP s₁ hh0 (Stand.of_body B)
    exact ⟨t, o, a1, b1, b2, b3⟩
/-! ===== END ===== -/

/-! ===== BEGIN printed: names, fields, word lists, decode rows ===== -/
end
section
def RX0 : String := "Fabricsim$Flow"
def TX0 : u_T := fun k => match k with
  | 0 => ("Fabricsim$Flow", "source", "I", false)
  | 1 => ("Fabricsim$Flow", "target", "I", false)
  | 2 => ("Fabricsim$Flow", "packets", "I", false)
  | 3 => ("Fabricsim$Flow", "start", "I", false)
  | 4 => ("Fabricsim$Flow", "sentPackets", "I", false)
  | 5 => ("Fabricsim$Flow", "deliveredPackets", "I", false)
  | 6 => ("Fabricsim$Flow", "lostPackets", "I", false)
  | 7 => ("Fabricsim$Flow", "latePackets", "I", false)
  | 8 => ("Fabricsim$Flow", "greatestDelivered", "I", false)
  | 9 => ("Fabricsim$Flow", "doneTick", "I", false)
  | 10 => ("Fabricsim$Flow", "flowletCount", "I", false)
  | 11 => ("Fabricsim$Flow", "spine", "I", false)
  | _ => ("Fabricsim$Flow", "lastSentTick", "I", false)
def tyX0 : Nat → FieldType := fun k => match k with
  | 0 => .int
  | 1 => .int
  | 2 => .int
  | 3 => .int
  | 4 => .int
  | 5 => .int
  | 6 => .int
  | 7 => .int
  | 8 => .int
  | 9 => .int
  | 10 => .int
  | 11 => .int
  | _ => .int
abbrev wsX00 : List Cond := u_ws RX0 TX0 13
theorem nmX0 : ∀ a, a < 13 → ∀ b, b < 13 → a ≠ b → (TX0 a).2.1 ≠ (TX0 b).2.1 := by decide +kernel
theorem tyX0_ok : ∀ k, k < 13 → parseFieldDescriptor (TX0 k).2.2.1 = some (tyX0 k) := by decide +kernel
abbrev cX0_init : ByteArray := prog_2_method_1_code
def yX0_init : MethodName := ⟨RX0, "<init>", "()V"⟩
abbrev cX0_begin : ByteArray := prog_2_method_2_code
def yX0_begin : MethodName := ⟨RX0, "begin", "(IIII)V"⟩
abbrev cX0_unsent : ByteArray := prog_2_method_3_code
def yX0_unsent : MethodName := ⟨RX0, "unsent", "()I"⟩
abbrev cX0_sourceLeaf : ByteArray := prog_2_method_4_code
def yX0_sourceLeaf : MethodName := ⟨RX0, "sourceLeaf", "()I"⟩
abbrev cX0_targetLeaf : ByteArray := prog_2_method_5_code
def yX0_targetLeaf : MethodName := ⟨RX0, "targetLeaf", "()I"⟩
abbrev cX0_crossesLeaves : ByteArray := prog_2_method_6_code
def yX0_crossesLeaves : MethodName := ⟨RX0, "crossesLeaves", "()Z"⟩
abbrev cX0_countDelivered : ByteArray := prog_2_method_7_code
def yX0_countDelivered : MethodName := ⟨RX0, "countDelivered", "(II)V"⟩
def RX1 : String := "Fabricsim$Host"
def TX1 : u_T := fun k => match k with
  | 0 => ("Fabricsim$Host", "up", "LFabricsim$Link;", true)
  | 1 => ("Fabricsim$Host", "down", "LFabricsim$Link;", true)
  | 2 => ("Fabricsim$Host", "openPackets", "I", false)
  | _ => ("Fabricsim$Host", "lastFlow", "I", false)
def tyX1 : Nat → FieldType := fun k => match k with
  | 0 => .object "Fabricsim$Link"
  | 1 => .object "Fabricsim$Link"
  | 2 => .int
  | _ => .int
abbrev wsX10 : List Cond := u_ws RX1 TX1 4
theorem nmX1 : ∀ a, a < 4 → ∀ b, b < 4 → a ≠ b → (TX1 a).2.1 ≠ (TX1 b).2.1 := by decide +kernel
theorem tyX1_ok : ∀ k, k < 4 → parseFieldDescriptor (TX1 k).2.2.1 = some (tyX1 k) := by decide +kernel
abbrev cX1_init : ByteArray := prog_3_method_1_code
def yX1_init : MethodName := ⟨RX1, "<init>", "()V"⟩
abbrev cX1_clear : ByteArray := prog_3_method_2_code
def yX1_clear : MethodName := ⟨RX1, "clear", "()V"⟩
def RX2 : String := "Fabricsim$Link"
def TX2 : u_T := fun k => match k with
  | 0 => ("Fabricsim$Link", "ring", "[LFabricsim$Packet;", true)
  | 1 => ("Fabricsim$Link", "backInSlot", "[I", true)
  | 2 => ("Fabricsim$Link", "first", "I", false)
  | 3 => ("Fabricsim$Link", "waiting", "I", false)
  | 4 => ("Fabricsim$Link", "credits", "I", false)
  | 5 => ("Fabricsim$Link", "lastPlace", "I", false)
  | _ => ("Fabricsim$Link", "pickedPlace", "I", false)
def tyX2 : Nat → FieldType := fun k => match k with
  | 0 => .array (.object "Fabricsim$Packet")
  | 1 => .array .int
  | 2 => .int
  | 3 => .int
  | 4 => .int
  | 5 => .int
  | _ => .int
abbrev wsX20 : List Cond := u_ws RX2 TX2 7
theorem nmX2 : ∀ a, a < 7 → ∀ b, b < 7 → a ≠ b → (TX2 a).2.1 ≠ (TX2 b).2.1 := by decide +kernel
theorem tyX2_ok : ∀ k, k < 7 → parseFieldDescriptor (TX2 k).2.2.1 = some (tyX2 k) := by decide +kernel
abbrev cX2_init : ByteArray := prog_4_method_1_code
def yX2_init : MethodName := ⟨RX2, "<init>", "()V"⟩
abbrev cX2_clear : ByteArray := prog_4_method_2_code
def yX2_clear : MethodName := ⟨RX2, "clear", "()V"⟩
abbrev cX2_firstPacket : ByteArray := prog_4_method_3_code
def yX2_firstPacket : MethodName := ⟨RX2, "firstPacket", "()LFabricsim$Packet;"⟩
abbrev cX2_put : ByteArray := prog_4_method_4_code
def yX2_put : MethodName := ⟨RX2, "put", "(IIII)V"⟩
abbrev cX2_drop : ByteArray := prog_4_method_5_code
def yX2_drop : MethodName := ⟨RX2, "drop", "(I)V"⟩
abbrev cX2_takeBack : ByteArray := prog_4_method_6_code
def yX2_takeBack : MethodName := ⟨RX2, "takeBack", "(I)V"⟩
abbrev cX2_onTheWayBack : ByteArray := prog_4_method_7_code
def yX2_onTheWayBack : MethodName := ⟨RX2, "onTheWayBack", "()I"⟩
abbrev cX2_pick : ByteArray := prog_4_method_8_code
def yX2_pick : MethodName := ⟨RX2, "pick", "([II)V"⟩
def RX3 : String := "Fabricsim$Node"
def TX3 : u_T := fun k => match k with
  | 0 => ("Fabricsim$Node", "in", "[LFabricsim$Link;", true)
  | 1 => ("Fabricsim$Node", "out", "[LFabricsim$Link;", true)
  | _ => ("Fabricsim$Node", "wanted", "[I", true)
def tyX3 : Nat → FieldType := fun k => match k with
  | 0 => .array (.object "Fabricsim$Link")
  | 1 => .array (.object "Fabricsim$Link")
  | _ => .array .int
abbrev wsX30 : List Cond := u_ws RX3 TX3 3
theorem nmX3 : ∀ a, a < 3 → ∀ b, b < 3 → a ≠ b → (TX3 a).2.1 ≠ (TX3 b).2.1 := by decide +kernel
theorem tyX3_ok : ∀ k, k < 3 → parseFieldDescriptor (TX3 k).2.2.1 = some (tyX3 k) := by decide +kernel
abbrev cX3_init : ByteArray := prog_5_method_1_code
def yX3_init : MethodName := ⟨RX3, "<init>", "(II)V"⟩
abbrev cX3_pick : ByteArray := prog_5_method_2_code
def yX3_pick : MethodName := ⟨RX3, "pick", "()V"⟩
abbrev cX3_move : ByteArray := prog_5_method_3_code
def yX3_move : MethodName := ⟨RX3, "move", "(I)V"⟩
def RX4 : String := "Fabricsim$Packet"
def TX4 : u_T := fun k => match k with
  | 0 => ("Fabricsim$Packet", "flow", "I", false)
  | 1 => ("Fabricsim$Packet", "number", "I", false)
  | 2 => ("Fabricsim$Packet", "flowlet", "I", false)
  | _ => ("Fabricsim$Packet", "spine", "I", false)
def tyX4 : Nat → FieldType := fun k => match k with
  | 0 => .int
  | 1 => .int
  | 2 => .int
  | _ => .int
abbrev wsX40 : List Cond := u_ws RX4 TX4 4
theorem nmX4 : ∀ a, a < 4 → ∀ b, b < 4 → a ≠ b → (TX4 a).2.1 ≠ (TX4 b).2.1 := by decide +kernel
theorem tyX4_ok : ∀ k, k < 4 → parseFieldDescriptor (TX4 k).2.2.1 = some (tyX4 k) := by decide +kernel
abbrev cX4_init : ByteArray := prog_6_method_1_code
def yX4_init : MethodName := ⟨RX4, "<init>", "()V"⟩
abbrev cX4_write : ByteArray := prog_6_method_2_code
def yX4_write : MethodName := ⟨RX4, "write", "(IIII)V"⟩
def RX5 : String := "Fabricsim"
def TX5 : u_T := fun k => match k with
  | 0 => ("Fabricsim", "flowRows", "[LFabricsim$Flow;", true)
  | 1 => ("Fabricsim", "hosts", "[LFabricsim$Host;", true)
  | 2 => ("Fabricsim", "links", "[LFabricsim$Link;", true)
  | 3 => ("Fabricsim", "norths", "[LFabricsim$Link;", true)
  | 4 => ("Fabricsim", "souths", "[LFabricsim$Link;", true)
  | 5 => ("Fabricsim", "leaves", "[LFabricsim$Node;", true)
  | 6 => ("Fabricsim", "spines", "[LFabricsim$Node;", true)
  | 7 => ("Fabricsim", "uncut", "[I", true)
  | 8 => ("Fabricsim", "flowCount", "I", false)
  | 9 => ("Fabricsim", "nextTick", "I", false)
  | 10 => ("Fabricsim", "delay", "I", false)
  | 11 => ("Fabricsim", "gap", "I", false)
  | _ => ("Fabricsim", "window", "I", false)
def tyX5 : Nat → FieldType := fun k => match k with
  | 0 => .array (.object "Fabricsim$Flow")
  | 1 => .array (.object "Fabricsim$Host")
  | 2 => .array (.object "Fabricsim$Link")
  | 3 => .array (.object "Fabricsim$Link")
  | 4 => .array (.object "Fabricsim$Link")
  | 5 => .array (.object "Fabricsim$Node")
  | 6 => .array (.object "Fabricsim$Node")
  | 7 => .array .int
  | 8 => .int
  | 9 => .int
  | 10 => .int
  | 11 => .int
  | _ => .int
abbrev wsX50 : List Cond := u_ws RX5 TX5 13
theorem nmX5 : ∀ a, a < 13 → ∀ b, b < 13 → a ≠ b → (TX5 a).2.1 ≠ (TX5 b).2.1 := by decide +kernel
theorem tyX5_ok : ∀ k, k < 13 → parseFieldDescriptor (TX5 k).2.2.1 = some (tyX5 k) := by decide +kernel
abbrev cX5_init : ByteArray := prog_1_method_1_code
def yX5_init : MethodName := ⟨RX5, "<init>", "()V"⟩
abbrev cX5_joinLeaf : ByteArray := prog_1_method_2_code
def yX5_joinLeaf : MethodName := ⟨RX5, "joinLeaf", "(I)V"⟩
abbrev cX5_joinSpine : ByteArray := prog_1_method_3_code
def yX5_joinSpine : MethodName := ⟨RX5, "joinSpine", "(I)V"⟩
abbrev cX5_begin : ByteArray := prog_1_method_4_code
def yX5_begin : MethodName := ⟨RX5, "begin", "(III)V"⟩
abbrev cX5_reset : ByteArray := prog_1_method_5_code
def yX5_reset : MethodName := ⟨RX5, "reset", "(III)V"⟩
abbrev cX5_addFlow : ByteArray := prog_1_method_6_code
def yX5_addFlow : MethodName := ⟨RX5, "addFlow", "(IIII)I"⟩
abbrev cX5_cut : ByteArray := prog_1_method_7_code
def yX5_cut : MethodName := ⟨RX5, "cut", "(II)I"⟩
abbrev cX5_restore : ByteArray := prog_1_method_8_code
def yX5_restore : MethodName := ⟨RX5, "restore", "(II)I"⟩
abbrev cX5_pass : ByteArray := prog_1_method_9_code
def yX5_pass : MethodName := ⟨RX5, "pass", "(I)I"⟩
abbrev cX5_clock : ByteArray := prog_1_method_10_code
def yX5_clock : MethodName := ⟨RX5, "clock", "()I"⟩
abbrev cX5_flows : ByteArray := prog_1_method_11_code
def yX5_flows : MethodName := ⟨RX5, "flows", "()I"⟩
abbrev cX5_sent : ByteArray := prog_1_method_12_code
def yX5_sent : MethodName := ⟨RX5, "sent", "(I)I"⟩
abbrev cX5_delivered : ByteArray := prog_1_method_13_code
def yX5_delivered : MethodName := ⟨RX5, "delivered", "(I)I"⟩
abbrev cX5_lost : ByteArray := prog_1_method_14_code
def yX5_lost : MethodName := ⟨RX5, "lost", "(I)I"⟩
abbrev cX5_outOfOrder : ByteArray := prog_1_method_15_code
def yX5_outOfOrder : MethodName := ⟨RX5, "outOfOrder", "(I)I"⟩
abbrev cX5_doneIn : ByteArray := prog_1_method_16_code
def yX5_doneIn : MethodName := ⟨RX5, "doneIn", "(I)I"⟩
abbrev cX5_flowlets : ByteArray := prog_1_method_17_code
def yX5_flowlets : MethodName := ⟨RX5, "flowlets", "(I)I"⟩
abbrev cX5_spineOf : ByteArray := prog_1_method_18_code
def yX5_spineOf : MethodName := ⟨RX5, "spineOf", "(I)I"⟩
abbrev cX5_upQueue : ByteArray := prog_1_method_19_code
def yX5_upQueue : MethodName := ⟨RX5, "upQueue", "(I)I"⟩
abbrev cX5_downQueue : ByteArray := prog_1_method_20_code
def yX5_downQueue : MethodName := ⟨RX5, "downQueue", "(I)I"⟩
abbrev cX5_northQueue : ByteArray := prog_1_method_21_code
def yX5_northQueue : MethodName := ⟨RX5, "northQueue", "(II)I"⟩
abbrev cX5_southQueue : ByteArray := prog_1_method_22_code
def yX5_southQueue : MethodName := ⟨RX5, "southQueue", "(II)I"⟩
abbrev cX5_upCredits : ByteArray := prog_1_method_23_code
def yX5_upCredits : MethodName := ⟨RX5, "upCredits", "(I)I"⟩
abbrev cX5_northCredits : ByteArray := prog_1_method_24_code
def yX5_northCredits : MethodName := ⟨RX5, "northCredits", "(II)I"⟩
abbrev cX5_returning : ByteArray := prog_1_method_25_code
def yX5_returning : MethodName := ⟨RX5, "returning", "()I"⟩
abbrev cX5_queued : ByteArray := prog_1_method_26_code
def yX5_queued : MethodName := ⟨RX5, "queued", "()I"⟩
abbrev cX5_open : ByteArray := prog_1_method_27_code
def yX5_open : MethodName := ⟨RX5, "open", "(I)I"⟩
abbrev cX5_usable : ByteArray := prog_1_method_28_code
def yX5_usable : MethodName := ⟨RX5, "usable", "(II)I"⟩
abbrev cX5_leastTicks : ByteArray := prog_1_method_29_code
def yX5_leastTicks : MethodName := ⟨RX5, "leastTicks", "()I"⟩
abbrev cX5_unsentBy : ByteArray := prog_1_method_30_code
def yX5_unsentBy : MethodName := ⟨RX5, "unsentBy", "(I)I"⟩
abbrev cX5_unsentFor : ByteArray := prog_1_method_31_code
def yX5_unsentFor : MethodName := ⟨RX5, "unsentFor", "(I)I"⟩
abbrev cX5_unsentOutOf : ByteArray := prog_1_method_32_code
def yX5_unsentOutOf : MethodName := ⟨RX5, "unsentOutOf", "(I)I"⟩
abbrev cX5_unsentInto : ByteArray := prog_1_method_33_code
def yX5_unsentInto : MethodName := ⟨RX5, "unsentInto", "(I)I"⟩
abbrev cX5_runTick : ByteArray := prog_1_method_34_code
def yX5_runTick : MethodName := ⟨RX5, "runTick", "()I"⟩
abbrev cX5_takeCreditsBack : ByteArray := prog_1_method_35_code
def yX5_takeCreditsBack : MethodName := ⟨RX5, "takeCreditsBack", "()V"⟩
abbrev cX5_deliverAll : ByteArray := prog_1_method_36_code
def yX5_deliverAll : MethodName := ⟨RX5, "deliverAll", "(I)I"⟩
abbrev cX5_loseAtSpines : ByteArray := prog_1_method_37_code
def yX5_loseAtSpines : MethodName := ⟨RX5, "loseAtSpines", "(I)V"⟩
abbrev cX5_aimAtLeaves : ByteArray := prog_1_method_38_code
def yX5_aimAtLeaves : MethodName := ⟨RX5, "aimAtLeaves", "()V"⟩
abbrev cX5_wantedAtLeaf : ByteArray := prog_1_method_39_code
def yX5_wantedAtLeaf : MethodName := ⟨RX5, "wantedAtLeaf", "(ILFabricsim$Link;)I"⟩
abbrev cX5_aimAtSpines : ByteArray := prog_1_method_40_code
def yX5_aimAtSpines : MethodName := ⟨RX5, "aimAtSpines", "()V"⟩
abbrev cX5_wantedAtSpine : ByteArray := prog_1_method_41_code
def yX5_wantedAtSpine : MethodName := ⟨RX5, "wantedAtSpine", "(ILFabricsim$Link;)I"⟩
abbrev cX5_pickAll : ByteArray := prog_1_method_42_code
def yX5_pickAll : MethodName := ⟨RX5, "pickAll", "()V"⟩
abbrev cX5_moveAll : ByteArray := prog_1_method_43_code
def yX5_moveAll : MethodName := ⟨RX5, "moveAll", "(I)V"⟩
abbrev cX5_sendAll : ByteArray := prog_1_method_44_code
def yX5_sendAll : MethodName := ⟨RX5, "sendAll", "()V"⟩
abbrev cX5_pickedFlow : ByteArray := prog_1_method_45_code
def yX5_pickedFlow : MethodName := ⟨RX5, "pickedFlow", "(II)I"⟩
abbrev cX5_canSend : ByteArray := prog_1_method_46_code
def yX5_canSend : MethodName := ⟨RX5, "canSend", "(LFabricsim$Flow;)Z"⟩
abbrev cX5_send : ByteArray := prog_1_method_47_code
def yX5_send : MethodName := ⟨RX5, "send", "(ILFabricsim$Link;)V"⟩
abbrev cX5_needsFlowlet : ByteArray := prog_1_method_48_code
def yX5_needsFlowlet : MethodName := ⟨RX5, "needsFlowlet", "(LFabricsim$Flow;)Z"⟩
abbrev cX5_chosenSpine : ByteArray := prog_1_method_49_code
def yX5_chosenSpine : MethodName := ⟨RX5, "chosenSpine", "(II)I"⟩
abbrev cX5_isCut : ByteArray := prog_1_method_50_code
def yX5_isCut : MethodName := ⟨RX5, "isCut", "(II)Z"⟩
abbrev cX5_isUsable : ByteArray := prog_1_method_51_code
def yX5_isUsable : MethodName := ⟨RX5, "isUsable", "(III)Z"⟩
abbrev cX5_usableSpines : ByteArray := prog_1_method_52_code
def yX5_usableSpines : MethodName := ⟨RX5, "usableSpines", "(II)I"⟩
abbrev cX5_northOf : ByteArray := prog_1_method_53_code
def yX5_northOf : MethodName := ⟨RX5, "northOf", "(II)LFabricsim$Link;"⟩
abbrev cX5_southOf : ByteArray := prog_1_method_54_code
def yX5_southOf : MethodName := ⟨RX5, "southOf", "(II)LFabricsim$Link;"⟩
abbrev cX5_isOutside : ByteArray := prog_1_method_55_code
def yX5_isOutside : MethodName := ⟨RX5, "isOutside", "(III)Z"⟩
abbrev cX5_checkHost : ByteArray := prog_1_method_56_code
def yX5_checkHost : MethodName := ⟨RX5, "checkHost", "(I)V"⟩
abbrev cX5_checkConnection : ByteArray := prog_1_method_57_code
def yX5_checkConnection : MethodName := ⟨RX5, "checkConnection", "(II)V"⟩
abbrev cX5_checkFlow : ByteArray := prog_1_method_58_code
def yX5_checkFlow : MethodName := ⟨RX5, "checkFlow", "(I)V"⟩
def RX6 : String := "FabricsimModel"
def TX6 : u_T := fun k => match k with
  | 0 => ("FabricsimModel", "delay", "I", false)
  | 1 => ("FabricsimModel", "gap", "I", false)
  | 2 => ("FabricsimModel", "window", "I", false)
  | 3 => ("FabricsimModel", "clock", "I", false)
  | 4 => ("FabricsimModel", "flows", "I", false)
  | 5 => ("FabricsimModel", "sources", "[I", true)
  | 6 => ("FabricsimModel", "targets", "[I", true)
  | 7 => ("FabricsimModel", "packets", "[I", true)
  | 8 => ("FabricsimModel", "starts", "[I", true)
  | 9 => ("FabricsimModel", "sent", "[I", true)
  | 10 => ("FabricsimModel", "delivered", "[I", true)
  | 11 => ("FabricsimModel", "lost", "[I", true)
  | 12 => ("FabricsimModel", "late", "[I", true)
  | 13 => ("FabricsimModel", "greatest", "[I", true)
  | 14 => ("FabricsimModel", "done", "[I", true)
  | 15 => ("FabricsimModel", "flowlets", "[I", true)
  | 16 => ("FabricsimModel", "spines", "[I", true)
  | 17 => ("FabricsimModel", "latest", "[I", true)
  | 18 => ("FabricsimModel", "credits", "[I", true)
  | 19 => ("FabricsimModel", "sizes", "[I", true)
  | 20 => ("FabricsimModel", "lastQueues", "[I", true)
  | 21 => ("FabricsimModel", "picked", "[I", true)
  | 22 => ("FabricsimModel", "returns", "[I", true)
  | 23 => ("FabricsimModel", "itsFlows", "[I", true)
  | 24 => ("FabricsimModel", "itsNumbers", "[I", true)
  | 25 => ("FabricsimModel", "itsSpines", "[I", true)
  | 26 => ("FabricsimModel", "itsFlowlets", "[I", true)
  | 27 => ("FabricsimModel", "isCut", "[Z", true)
  | 28 => ("FabricsimModel", "lastFlows", "[I", true)
  | 29 => ("FabricsimModel", "sending", "[I", true)
  | 30 => ("FabricsimModel", "open", "[I", true)
  | 31 => ("FabricsimModel", "movingFlows", "[I", true)
  | 32 => ("FabricsimModel", "movingNumbers", "[I", true)
  | 33 => ("FabricsimModel", "movingSpines", "[I", true)
  | 34 => ("FabricsimModel", "movingFlowlets", "[I", true)
  | _ => ("FabricsimModel", "thrown", "I", false)
def tyX6 : Nat → FieldType := fun k => match k with
  | 0 => .int
  | 1 => .int
  | 2 => .int
  | 3 => .int
  | 4 => .int
  | 5 => .array .int
  | 6 => .array .int
  | 7 => .array .int
  | 8 => .array .int
  | 9 => .array .int
  | 10 => .array .int
  | 11 => .array .int
  | 12 => .array .int
  | 13 => .array .int
  | 14 => .array .int
  | 15 => .array .int
  | 16 => .array .int
  | 17 => .array .int
  | 18 => .array .int
  | 19 => .array .int
  | 20 => .array .int
  | 21 => .array .int
  | 22 => .array .int
  | 23 => .array .int
  | 24 => .array .int
  | 25 => .array .int
  | 26 => .array .int
  | 27 => .array .boolean
  | 28 => .array .int
  | 29 => .array .int
  | 30 => .array .int
  | 31 => .array .int
  | 32 => .array .int
  | 33 => .array .int
  | 34 => .array .int
  | _ => .int
abbrev wsX60 : List Cond := u_ws RX6 TX6 36
theorem nmX6 : ∀ a, a < 36 → ∀ b, b < 36 → a ≠ b → (TX6 a).2.1 ≠ (TX6 b).2.1 := by decide +kernel
theorem tyX6_ok : ∀ k, k < 36 → parseFieldDescriptor (TX6 k).2.2.1 = some (tyX6 k) := by decide +kernel
abbrev cX6_init : ByteArray := prog_8_method_1_code
def yX6_init : MethodName := ⟨RX6, "<init>", "()V"⟩
abbrev cX6_thrown : ByteArray := prog_8_method_2_code
def yX6_thrown : MethodName := ⟨RX6, "thrown", "()I"⟩
abbrev cX6_goes : ByteArray := prog_8_method_3_code
def yX6_goes : MethodName := ⟨RX6, "goes", "(I)Z"⟩
abbrev cX6_isIn : ByteArray := prog_8_method_4_code
def yX6_isIn : MethodName := ⟨RX6, "isIn", "(III)Z"⟩
abbrev cX6_isHost : ByteArray := prog_8_method_5_code
def yX6_isHost : MethodName := ⟨RX6, "isHost", "(I)Z"⟩
abbrev cX6_areFour : ByteArray := prog_8_method_6_code
def yX6_areFour : MethodName := ⟨RX6, "areFour", "(II)Z"⟩
abbrev cX6_isFlow : ByteArray := prog_8_method_7_code
def yX6_isFlow : MethodName := ⟨RX6, "isFlow", "(I)Z"⟩
abbrev cX6_begins : ByteArray := prog_8_method_8_code
def yX6_begins : MethodName := ⟨RX6, "begins", "()V"⟩
abbrev cX6_reset : ByteArray := prog_8_method_9_code
def yX6_reset : MethodName := ⟨RX6, "reset", "(III)V"⟩
abbrev cX6_addFlow : ByteArray := prog_8_method_10_code
def yX6_addFlow : MethodName := ⟨RX6, "addFlow", "(IIII)I"⟩
abbrev cX6_north : ByteArray := prog_8_method_11_code
def yX6_north : MethodName := ⟨RX6, "north", "(II)I"⟩
abbrev cX6_south : ByteArray := prog_8_method_12_code
def yX6_south : MethodName := ⟨RX6, "south", "(II)I"⟩
abbrev cX6_cut : ByteArray := prog_8_method_13_code
def yX6_cut : MethodName := ⟨RX6, "cut", "(II)I"⟩
abbrev cX6_restore : ByteArray := prog_8_method_14_code
def yX6_restore : MethodName := ⟨RX6, "restore", "(II)I"⟩
abbrev cX6_isUsable : ByteArray := prog_8_method_15_code
def yX6_isUsable : MethodName := ⟨RX6, "isUsable", "(III)Z"⟩
abbrev cX6_usableSet : ByteArray := prog_8_method_16_code
def yX6_usableSet : MethodName := ⟨RX6, "usableSet", "(II)I"⟩
abbrev cX6_chosen : ByteArray := prog_8_method_17_code
def yX6_chosen : MethodName := ⟨RX6, "chosen", "(II)I"⟩
abbrev cX6_isFar : ByteArray := prog_8_method_18_code
def yX6_isFar : MethodName := ⟨RX6, "isFar", "(I)Z"⟩
abbrev cX6_leaves : ByteArray := prog_8_method_19_code
def yX6_leaves : MethodName := ⟨RX6, "leaves", "(I)V"⟩
abbrev cX6_targetOf : ByteArray := prog_8_method_20_code
def yX6_targetOf : MethodName := ⟨RX6, "targetOf", "(I)I"⟩
abbrev cX6_wanted : ByteArray := prog_8_method_21_code
def yX6_wanted : MethodName := ⟨RX6, "wanted", "(I)I"⟩
abbrev cX6_queueAt : ByteArray := prog_8_method_22_code
def yX6_queueAt : MethodName := ⟨RX6, "queueAt", "(II)I"⟩
abbrev cX6_isShut : ByteArray := prog_8_method_23_code
def yX6_isShut : MethodName := ⟨RX6, "isShut", "(I)Z"⟩
abbrev cX6_creditsReturn : ByteArray := prog_8_method_24_code
def yX6_creditsReturn : MethodName := ⟨RX6, "creditsReturn", "()V"⟩
abbrev cX6_hostsTake : ByteArray := prog_8_method_25_code
def yX6_hostsTake : MethodName := ⟨RX6, "hostsTake", "()I"⟩
abbrev cX6_spinesLose : ByteArray := prog_8_method_26_code
def yX6_spinesLose : MethodName := ⟨RX6, "spinesLose", "()V"⟩
abbrev cX6_leavesChoose : ByteArray := prog_8_method_27_code
def yX6_leavesChoose : MethodName := ⟨RX6, "leavesChoose", "()V"⟩
abbrev cX6_linksPick : ByteArray := prog_8_method_28_code
def yX6_linksPick : MethodName := ⟨RX6, "linksPick", "()V"⟩
abbrev cX6_maySend : ByteArray := prog_8_method_29_code
def yX6_maySend : MethodName := ⟨RX6, "maySend", "(II)Z"⟩
abbrev cX6_hostsPick : ByteArray := prog_8_method_30_code
def yX6_hostsPick : MethodName := ⟨RX6, "hostsPick", "()V"⟩
abbrev cX6_takesAlong : ByteArray := prog_8_method_31_code
def yX6_takesAlong : MethodName := ⟨RX6, "takesAlong", "(I)V"⟩
abbrev cX6_makes : ByteArray := prog_8_method_32_code
def yX6_makes : MethodName := ⟨RX6, "makes", "(I)V"⟩
abbrev cX6_arrives : ByteArray := prog_8_method_33_code
def yX6_arrives : MethodName := ⟨RX6, "arrives", "(I)V"⟩
abbrev cX6_moves : ByteArray := prog_8_method_34_code
def yX6_moves : MethodName := ⟨RX6, "moves", "()V"⟩
abbrev cX6_ticks : ByteArray := prog_8_method_35_code
def yX6_ticks : MethodName := ⟨RX6, "ticks", "()I"⟩
abbrev cX6_pass : ByteArray := prog_8_method_36_code
def yX6_pass : MethodName := ⟨RX6, "pass", "(I)I"⟩
abbrev cX6_clock : ByteArray := prog_8_method_37_code
def yX6_clock : MethodName := ⟨RX6, "clock", "()I"⟩
abbrev cX6_flows : ByteArray := prog_8_method_38_code
def yX6_flows : MethodName := ⟨RX6, "flows", "()I"⟩
abbrev cX6_asks : ByteArray := prog_8_method_39_code
def yX6_asks : MethodName := ⟨RX6, "asks", "(I)Z"⟩
abbrev cX6_sent : ByteArray := prog_8_method_40_code
def yX6_sent : MethodName := ⟨RX6, "sent", "(I)I"⟩
abbrev cX6_delivered : ByteArray := prog_8_method_41_code
def yX6_delivered : MethodName := ⟨RX6, "delivered", "(I)I"⟩
abbrev cX6_lost : ByteArray := prog_8_method_42_code
def yX6_lost : MethodName := ⟨RX6, "lost", "(I)I"⟩
abbrev cX6_outOfOrder : ByteArray := prog_8_method_43_code
def yX6_outOfOrder : MethodName := ⟨RX6, "outOfOrder", "(I)I"⟩
abbrev cX6_doneIn : ByteArray := prog_8_method_44_code
def yX6_doneIn : MethodName := ⟨RX6, "doneIn", "(I)I"⟩
abbrev cX6_flowlets : ByteArray := prog_8_method_45_code
def yX6_flowlets : MethodName := ⟨RX6, "flowlets", "(I)I"⟩
abbrev cX6_spineOf : ByteArray := prog_8_method_46_code
def yX6_spineOf : MethodName := ⟨RX6, "spineOf", "(I)I"⟩
abbrev cX6_upQueue : ByteArray := prog_8_method_47_code
def yX6_upQueue : MethodName := ⟨RX6, "upQueue", "(I)I"⟩
abbrev cX6_downQueue : ByteArray := prog_8_method_48_code
def yX6_downQueue : MethodName := ⟨RX6, "downQueue", "(I)I"⟩
abbrev cX6_northQueue : ByteArray := prog_8_method_49_code
def yX6_northQueue : MethodName := ⟨RX6, "northQueue", "(II)I"⟩
abbrev cX6_southQueue : ByteArray := prog_8_method_50_code
def yX6_southQueue : MethodName := ⟨RX6, "southQueue", "(II)I"⟩
abbrev cX6_upCredits : ByteArray := prog_8_method_51_code
def yX6_upCredits : MethodName := ⟨RX6, "upCredits", "(I)I"⟩
abbrev cX6_northCredits : ByteArray := prog_8_method_52_code
def yX6_northCredits : MethodName := ⟨RX6, "northCredits", "(II)I"⟩
abbrev cX6_returning : ByteArray := prog_8_method_53_code
def yX6_returning : MethodName := ⟨RX6, "returning", "()I"⟩
abbrev cX6_queued : ByteArray := prog_8_method_54_code
def yX6_queued : MethodName := ⟨RX6, "queued", "()I"⟩
abbrev cX6_open : ByteArray := prog_8_method_55_code
def yX6_open : MethodName := ⟨RX6, "open", "(I)I"⟩
abbrev cX6_usable : ByteArray := prog_8_method_56_code
def yX6_usable : MethodName := ⟨RX6, "usable", "(II)I"⟩
abbrev cX6_toSend : ByteArray := prog_8_method_57_code
def yX6_toSend : MethodName := ⟨RX6, "toSend", "(I)I"⟩
abbrev cX6_sum : ByteArray := prog_8_method_58_code
def yX6_sum : MethodName := ⟨RX6, "sum", "(II)I"⟩
abbrev cX6_uncut : ByteArray := prog_8_method_59_code
def yX6_uncut : MethodName := ⟨RX6, "uncut", "(I)I"⟩
abbrev cX6_leastTicks : ByteArray := prog_8_method_60_code
def yX6_leastTicks : MethodName := ⟨RX6, "leastTicks", "()I"⟩
def RJ6 : String := "java/lang/Integer"
def TJ6 : u_T := fun k => match k with
  | _ => ("", "", "", false)
def tyJ6 : Nat → FieldType := fun k => match k with
  | _ => .int
abbrev wsJ60 : List Cond := u_ws RJ6 TJ6 0
theorem nmJ6 : ∀ a, a < 0 → ∀ b, b < 0 → a ≠ b → (TJ6 a).2.1 ≠ (TJ6 b).2.1 := by decide +kernel
theorem tyJ6_ok : ∀ k, k < 0 → parseFieldDescriptor (TJ6 k).2.2.1 = some (tyJ6 k) := by decide +kernel
abbrev cJ6_bitCount_0f7a4 : ByteArray := prog_13_method_49_code
def yJ6_bitCount_0f7a4 : MethodName := ⟨RJ6, "bitCount", "(I)I"⟩
def RJ9 : String := "java/lang/Math"
def TJ9 : u_T := fun k => match k with
  | _ => ("", "", "", false)
def tyJ9 : Nat → FieldType := fun k => match k with
  | _ => .int
abbrev wsJ90 : List Cond := u_ws RJ9 TJ9 0
theorem nmJ9 : ∀ a, a < 0 → ∀ b, b < 0 → a ≠ b → (TJ9 a).2.1 ≠ (TJ9 b).2.1 := by decide +kernel
theorem tyJ9_ok : ∀ k, k < 0 → parseFieldDescriptor (TJ9 k).2.2.1 = some (tyJ9 k) := by decide +kernel
abbrev cJ9_max_7cf53 : ByteArray := prog_14_method_65_code
def yJ9_max_7cf53 : MethodName := ⟨RJ9, "max", "(II)I"⟩
def RJ0 : String := "java/lang/String"
def TJ0 : u_T := fun k => match k with
  | _ => ("", "", "", false)
def tyJ0 : Nat → FieldType := fun k => match k with
  | _ => .int
abbrev wsJ00 : List Cond := u_ws RJ0 TJ0 0
theorem nmJ0 : ∀ a, a < 0 → ∀ b, b < 0 → a ≠ b → (TJ0 a).2.1 ≠ (TJ0 b).2.1 := by decide +kernel
theorem tyJ0_ok : ∀ k, k < 0 → parseFieldDescriptor (TJ0 k).2.2.1 = some (tyJ0 k) := by decide +kernel
def RL : String := "FabricsimLaw"
abbrev cL_reset : ByteArray := method_3_code
def yL_reset : MethodName := ⟨RL, "reset", "(LFabricsim;III)I"⟩
abbrev cL_addFlow : ByteArray := method_4_code
def yL_addFlow : MethodName := ⟨RL, "addFlow", "(LFabricsim;IIII[J)I"⟩
abbrev cL_cut : ByteArray := method_5_code
def yL_cut : MethodName := ⟨RL, "cut", "(LFabricsim;II[J)I"⟩
abbrev cL_restore : ByteArray := method_6_code
def yL_restore : MethodName := ⟨RL, "restore", "(LFabricsim;II[J)I"⟩
abbrev cL_pass : ByteArray := method_7_code
def yL_pass : MethodName := ⟨RL, "pass", "(LFabricsim;I[J)I"⟩
abbrev cL_sent : ByteArray := method_8_code
def yL_sent : MethodName := ⟨RL, "sent", "(LFabricsim;I[J)I"⟩
abbrev cL_delivered : ByteArray := method_9_code
def yL_delivered : MethodName := ⟨RL, "delivered", "(LFabricsim;I[J)I"⟩
abbrev cL_lost : ByteArray := method_10_code
def yL_lost : MethodName := ⟨RL, "lost", "(LFabricsim;I[J)I"⟩
abbrev cL_outOfOrder : ByteArray := method_11_code
def yL_outOfOrder : MethodName := ⟨RL, "outOfOrder", "(LFabricsim;I[J)I"⟩
abbrev cL_doneIn : ByteArray := method_12_code
def yL_doneIn : MethodName := ⟨RL, "doneIn", "(LFabricsim;I[J)I"⟩
abbrev cL_flowlets : ByteArray := method_13_code
def yL_flowlets : MethodName := ⟨RL, "flowlets", "(LFabricsim;I[J)I"⟩
abbrev cL_spineOf : ByteArray := method_14_code
def yL_spineOf : MethodName := ⟨RL, "spineOf", "(LFabricsim;I[J)I"⟩
abbrev cL_upQueue : ByteArray := method_15_code
def yL_upQueue : MethodName := ⟨RL, "upQueue", "(LFabricsim;I[J)I"⟩
abbrev cL_downQueue : ByteArray := method_16_code
def yL_downQueue : MethodName := ⟨RL, "downQueue", "(LFabricsim;I[J)I"⟩
abbrev cL_northQueue : ByteArray := method_17_code
def yL_northQueue : MethodName := ⟨RL, "northQueue", "(LFabricsim;II[J)I"⟩
abbrev cL_southQueue : ByteArray := method_18_code
def yL_southQueue : MethodName := ⟨RL, "southQueue", "(LFabricsim;II[J)I"⟩
abbrev cL_upCredits : ByteArray := method_19_code
def yL_upCredits : MethodName := ⟨RL, "upCredits", "(LFabricsim;I[J)I"⟩
abbrev cL_northCredits : ByteArray := method_20_code
def yL_northCredits : MethodName := ⟨RL, "northCredits", "(LFabricsim;II[J)I"⟩
abbrev cL_open : ByteArray := method_21_code
def yL_open : MethodName := ⟨RL, "open", "(LFabricsim;I[J)I"⟩
abbrev cL_usable : ByteArray := method_22_code
def yL_usable : MethodName := ⟨RL, "usable", "(LFabricsim;II[J)I"⟩
abbrev cL_law : ByteArray := code
def yL_law : MethodName := ⟨RL, "law", "([I)Z"⟩
def wsX0_init : List Cond := .code yX0_init cX0_init 1 none :: ([.methodLink RX0 3 objectInit, .instanceMethod objectInit, .code objectInit ⟨#[0xb1]⟩ 1 none])
def wsX0_begin : List Cond := .code yX0_begin cX0_begin 5 none :: ([.fieldLink RX0 9 "Fabricsim$Flow" "source" "I", .fieldLink RX0 15 "Fabricsim$Flow" "target" "I", .fieldLink RX0 18 "Fabricsim$Flow" "packets" "I", .fieldLink RX0 21 "Fabricsim$Flow" "start" "I", .fieldLink RX0 24 "Fabricsim$Flow" "sentPackets" "I", .fieldLink RX0 27 "Fabricsim$Flow" "deliveredPackets" "I", .fieldLink RX0 30 "Fabricsim$Flow" "lostPackets" "I", .fieldLink RX0 33 "Fabricsim$Flow" "latePackets" "I", .fieldLink RX0 36 "Fabricsim$Flow" "greatestDelivered" "I", .fieldLink RX0 39 "Fabricsim$Flow" "doneTick" "I", .fieldLink RX0 42 "Fabricsim$Flow" "flowletCount" "I", .fieldLink RX0 45 "Fabricsim$Flow" "spine" "I", .fieldLink RX0 48 "Fabricsim$Flow" "lastSentTick" "I"] ++ wsX00)
def wsX0_unsent : List Cond := .code yX0_unsent cX0_unsent 1 (some .int) :: ([.fieldLink RX0 18 "Fabricsim$Flow" "packets" "I", .fieldLink RX0 24 "Fabricsim$Flow" "sentPackets" "I", .fieldLink RX0 30 "Fabricsim$Flow" "lostPackets" "I"] ++ wsX00)
def wsX0_sourceLeaf : List Cond := .code yX0_sourceLeaf cX0_sourceLeaf 1 (some .int) :: ([.fieldLink RX0 9 "Fabricsim$Flow" "source" "I"] ++ wsX00)
def wsX0_targetLeaf : List Cond := .code yX0_targetLeaf cX0_targetLeaf 1 (some .int) :: ([.fieldLink RX0 15 "Fabricsim$Flow" "target" "I"] ++ wsX00)
def wsX0_crossesLeaves : List Cond := .code yX0_crossesLeaves cX0_crossesLeaves 1 (some .boolean) :: ([.methodLink RX0 51 yX0_sourceLeaf, .instanceMethod yX0_sourceLeaf, .selects RX0 yX0_sourceLeaf yX0_sourceLeaf, .initialized RX0, .code yX0_sourceLeaf cX0_sourceLeaf 1 (some .int), .fieldLink RX0 9 "Fabricsim$Flow" "source" "I", .methodLink RX0 55 yX0_targetLeaf, .instanceMethod yX0_targetLeaf, .selects RX0 yX0_targetLeaf yX0_targetLeaf, .code yX0_targetLeaf cX0_targetLeaf 1 (some .int), .fieldLink RX0 15 "Fabricsim$Flow" "target" "I"] ++ wsX00)
def wsX0_countDelivered : List Cond := .code yX0_countDelivered cX0_countDelivered 3 none :: ([.fieldLink RX0 27 "Fabricsim$Flow" "deliveredPackets" "I", .fieldLink RX0 36 "Fabricsim$Flow" "greatestDelivered" "I", .fieldLink RX0 33 "Fabricsim$Flow" "latePackets" "I", .fieldLink RX0 18 "Fabricsim$Flow" "packets" "I", .fieldLink RX0 39 "Fabricsim$Flow" "doneTick" "I"] ++ wsX00)
def wsX4_init : List Cond := .code yX4_init cX4_init 1 none :: ([.methodLink RX4 1 objectInit, .instanceMethod objectInit, .code objectInit ⟨#[0xb1]⟩ 1 none])
def wsX2_init : List Cond := .code yX2_init cX2_init 2 none :: ([.methodLink RX2 3 objectInit, .instanceMethod objectInit, .code objectInit ⟨#[0xb1]⟩ 1 none, .classLink RX2 9 RX4, .fieldLink RX2 11 "Fabricsim$Link" "ring" "[LFabricsim$Packet;", .arrayClass .int, .fieldLink RX2 17 "Fabricsim$Link" "backInSlot" "[I", .instantiable RX4 4, .initialized RX4, .instanceMethod yX4_init, .code yX4_init cX4_init 1 none, .methodLink RX4 1 objectInit] ++ wsX20 ++ wsX40)
def wsX1_init : List Cond := .code yX1_init cX1_init 1 none :: ([.methodLink RX1 3 objectInit, .instanceMethod objectInit, .code objectInit ⟨#[0xb1]⟩ 1 none, .classLink RX1 9 RX2, .instantiable RX2 7, .initialized RX2, .fieldLink RX1 12 "Fabricsim$Host" "up" "LFabricsim$Link;", .fieldLink RX1 18 "Fabricsim$Host" "down" "LFabricsim$Link;", .instanceMethod yX2_init, .code yX2_init cX2_init 2 none, .methodLink RX2 3 objectInit, .classLink RX2 9 RX4, .fieldLink RX2 11 "Fabricsim$Link" "ring" "[LFabricsim$Packet;", .arrayClass .int, .fieldLink RX2 17 "Fabricsim$Link" "backInSlot" "[I", .instantiable RX4 4, .initialized RX4, .instanceMethod yX4_init, .code yX4_init cX4_init 1 none, .methodLink RX4 1 objectInit] ++ wsX20 ++ wsX10 ++ wsX40)
def wsX1_clear : List Cond := .code yX1_clear cX1_clear 1 none :: ([.fieldLink RX1 21 "Fabricsim$Host" "openPackets" "I", .fieldLink RX1 25 "Fabricsim$Host" "lastFlow" "I"] ++ wsX10)
def wsX2_clear : List Cond := .code yX2_clear cX2_clear 2 none :: ([.fieldLink RX2 17 "Fabricsim$Link" "backInSlot" "[I", .fieldLink RX2 22 "Fabricsim$Link" "first" "I", .fieldLink RX2 26 "Fabricsim$Link" "waiting" "I", .fieldLink RX2 29 "Fabricsim$Link" "credits" "I", .fieldLink RX2 32 "Fabricsim$Link" "lastPlace" "I", .fieldLink RX2 35 "Fabricsim$Link" "pickedPlace" "I"] ++ wsX20)
def wsX2_firstPacket : List Cond := .code yX2_firstPacket cX2_firstPacket 1 (some (.object "Fabricsim$Packet")) :: ([.fieldLink RX2 11 "Fabricsim$Link" "ring" "[LFabricsim$Packet;", .fieldLink RX2 22 "Fabricsim$Link" "first" "I"] ++ wsX20)
def wsX4_write : List Cond := .code yX4_write cX4_write 5 none :: ([.fieldLink RX4 7 "Fabricsim$Packet" "flow" "I", .fieldLink RX4 13 "Fabricsim$Packet" "number" "I", .fieldLink RX4 16 "Fabricsim$Packet" "flowlet" "I", .fieldLink RX4 19 "Fabricsim$Packet" "spine" "I"] ++ wsX40)
def wsX2_put : List Cond := .code yX2_put cX2_put 5 none :: ([.fieldLink RX2 29 "Fabricsim$Link" "credits" "I", .fieldLink RX2 11 "Fabricsim$Link" "ring" "[LFabricsim$Packet;", .fieldLink RX2 22 "Fabricsim$Link" "first" "I", .fieldLink RX2 26 "Fabricsim$Link" "waiting" "I", .instanceMethod yX4_write, .initialized RX4, .selects RX4 yX4_write yX4_write, .code yX4_write cX4_write 5 none, .fieldLink RX4 7 "Fabricsim$Packet" "flow" "I", .fieldLink RX4 13 "Fabricsim$Packet" "number" "I", .fieldLink RX4 16 "Fabricsim$Packet" "flowlet" "I", .fieldLink RX4 19 "Fabricsim$Packet" "spine" "I"] ++ wsX20 ++ wsX40)
def wsX2_drop : List Cond := .code yX2_drop cX2_drop 2 none :: ([.fieldLink RX2 22 "Fabricsim$Link" "first" "I", .fieldLink RX2 26 "Fabricsim$Link" "waiting" "I", .fieldLink RX2 17 "Fabricsim$Link" "backInSlot" "[I"] ++ wsX20)
def wsX2_takeBack : List Cond := .code yX2_takeBack cX2_takeBack 2 none :: ([.fieldLink RX2 29 "Fabricsim$Link" "credits" "I", .fieldLink RX2 17 "Fabricsim$Link" "backInSlot" "[I"] ++ wsX20)
def wsX2_onTheWayBack : List Cond := .code yX2_onTheWayBack cX2_onTheWayBack 3 (some .int) :: ([.fieldLink RX2 17 "Fabricsim$Link" "backInSlot" "[I"] ++ wsX20)
def wsX2_pick : List Cond := .code yX2_pick cX2_pick 5 none :: ([.fieldLink RX2 35 "Fabricsim$Link" "pickedPlace" "I", .fieldLink RX2 29 "Fabricsim$Link" "credits" "I", .fieldLink RX2 32 "Fabricsim$Link" "lastPlace" "I"] ++ wsX20)
def wsX3_init : List Cond := .code yX3_init cX3_init 3 none :: ([.methodLink RX3 3 objectInit, .instanceMethod objectInit, .code objectInit ⟨#[0xb1]⟩ 1 none, .classLink RX3 9 RX2, .fieldLink RX3 11 "Fabricsim$Node" "in" "[LFabricsim$Link;", .fieldLink RX3 17 "Fabricsim$Node" "out" "[LFabricsim$Link;", .arrayClass .int, .fieldLink RX3 20 "Fabricsim$Node" "wanted" "[I"] ++ wsX30)
def wsX3_pick : List Cond := .code yX3_pick cX3_pick 2 none :: ([.fieldLink RX3 17 "Fabricsim$Node" "out" "[LFabricsim$Link;", .fieldLink RX3 20 "Fabricsim$Node" "wanted" "[I", .instanceMethod yX2_pick, .initialized RX2, .selects RX2 yX2_pick yX2_pick, .code yX2_pick cX2_pick 5 none, .fieldLink RX2 35 "Fabricsim$Link" "pickedPlace" "I", .fieldLink RX2 29 "Fabricsim$Link" "credits" "I", .fieldLink RX2 32 "Fabricsim$Link" "lastPlace" "I"] ++ wsX30 ++ wsX20)
def wsX3_move_r1 : List Cond := [Cond.fieldLink RX3 17 "Fabricsim$Node" "out" "[LFabricsim$Link;", Cond.fieldLink RX3 11 "Fabricsim$Node" "in" "[LFabricsim$Link;", Cond.instanceMethod yX2_firstPacket, Cond.initialized RX2, Cond.selects RX2 yX2_firstPacket yX2_firstPacket, Cond.code yX2_firstPacket cX2_firstPacket 1 (some (.object "Fabricsim$Packet")), Cond.fieldLink RX2 11 "Fabricsim$Link" "ring" "[LFabricsim$Packet;", Cond.fieldLink RX2 22 "Fabricsim$Link" "first" "I", Cond.instanceMethod yX2_put, Cond.selects RX2 yX2_put yX2_put, Cond.code yX2_put cX2_put 5 none, Cond.fieldLink RX2 29 "Fabricsim$Link" "credits" "I", Cond.fieldLink RX2 26 "Fabricsim$Link" "waiting" "I", Cond.instanceMethod yX4_write, Cond.initialized RX4, Cond.selects RX4 yX4_write yX4_write, Cond.code yX4_write cX4_write 5 none, Cond.fieldLink RX4 7 "Fabricsim$Packet" "flow" "I", Cond.fieldLink RX4 13 "Fabricsim$Packet" "number" "I", Cond.fieldLink RX4 16 "Fabricsim$Packet" "flowlet" "I", Cond.fieldLink RX4 19 "Fabricsim$Packet" "spine" "I", Cond.instanceMethod yX2_drop, Cond.selects RX2 yX2_drop yX2_drop, Cond.code yX2_drop cX2_drop 2 none]
def wsX3_move_r2 : List Cond := [Cond.fieldLink RX2 17 "Fabricsim$Link" "backInSlot" "[I"]
def wsX3_move : List Cond := .code yX3_move cX3_move 5 none :: ((wsX3_move_r1 ++ wsX3_move_r2) ++ wsX30 ++ wsX20 ++ wsX40)
def wsX5_southOf : List Cond := .code yX5_southOf cX5_southOf 3 (some (.object "Fabricsim$Link")) :: ([.fieldLink RX5 30 "Fabricsim" "souths" "[LFabricsim$Link;"] ++ wsX50)
def wsX5_northOf : List Cond := .code yX5_northOf cX5_northOf 3 (some (.object "Fabricsim$Link")) :: ([.fieldLink RX5 27 "Fabricsim" "norths" "[LFabricsim$Link;"] ++ wsX50)
def wsX5_joinLeaf : List Cond := .code yX5_joinLeaf cX5_joinLeaf 5 none :: ([.fieldLink RX5 35 "Fabricsim" "leaves" "[LFabricsim$Node;", .fieldLink RX5 17 "Fabricsim" "hosts" "[LFabricsim$Host;", .methodLink RX5 76 yX5_southOf, .instanceMethod yX5_southOf, .selects RX5 yX5_southOf yX5_southOf, .initialized RX5, .code yX5_southOf cX5_southOf 3 (some (.object "Fabricsim$Link")), .fieldLink RX5 30 "Fabricsim" "souths" "[LFabricsim$Link;", .methodLink RX5 80 yX5_northOf, .instanceMethod yX5_northOf, .selects RX5 yX5_northOf yX5_northOf, .code yX5_northOf cX5_northOf 3 (some (.object "Fabricsim$Link")), .fieldLink RX5 27 "Fabricsim" "norths" "[LFabricsim$Link;"] ++ wsX50 ++ wsX30 ++ wsX10)
def wsX5_joinSpine : List Cond := .code yX5_joinSpine cX5_joinSpine 4 none :: ([.fieldLink RX5 39 "Fabricsim" "spines" "[LFabricsim$Node;", .methodLink RX5 80 yX5_northOf, .instanceMethod yX5_northOf, .selects RX5 yX5_northOf yX5_northOf, .initialized RX5, .code yX5_northOf cX5_northOf 3 (some (.object "Fabricsim$Link")), .fieldLink RX5 27 "Fabricsim" "norths" "[LFabricsim$Link;", .methodLink RX5 76 yX5_southOf, .instanceMethod yX5_southOf, .selects RX5 yX5_southOf yX5_southOf, .code yX5_southOf cX5_southOf 3 (some (.object "Fabricsim$Link")), .fieldLink RX5 30 "Fabricsim" "souths" "[LFabricsim$Link;"] ++ wsX50 ++ wsX30)
def wsX5_begin : List Cond := .code yX5_begin cX5_begin 5 none :: ([.fieldLink RX5 83 "Fabricsim" "delay" "I", .fieldLink RX5 87 "Fabricsim" "gap" "I", .fieldLink RX5 90 "Fabricsim" "window" "I", .fieldLink RX5 93 "Fabricsim" "flowCount" "I", .fieldLink RX5 96 "Fabricsim" "nextTick" "I", .fieldLink RX5 23 "Fabricsim" "links" "[LFabricsim$Link;", .fieldLink RX5 17 "Fabricsim" "hosts" "[LFabricsim$Host;", .fieldLink RX5 42 "Fabricsim" "uncut" "[I", .instanceMethod yX2_clear, .initialized RX2, .selects RX2 yX2_clear yX2_clear, .code yX2_clear cX2_clear 2 none, .fieldLink RX2 17 "Fabricsim$Link" "backInSlot" "[I", .fieldLink RX2 22 "Fabricsim$Link" "first" "I", .fieldLink RX2 26 "Fabricsim$Link" "waiting" "I", .fieldLink RX2 29 "Fabricsim$Link" "credits" "I", .fieldLink RX2 32 "Fabricsim$Link" "lastPlace" "I", .fieldLink RX2 35 "Fabricsim$Link" "pickedPlace" "I", .instanceMethod yX1_clear, .initialized RX1, .selects RX1 yX1_clear yX1_clear, .code yX1_clear cX1_clear 1 none, .fieldLink RX1 21 "Fabricsim$Host" "openPackets" "I", .fieldLink RX1 25 "Fabricsim$Host" "lastFlow" "I"] ++ wsX50 ++ wsX20 ++ wsX10)
def wsX5_init_r1 : List Cond := [Cond.methodLink RX5 3 objectInit, Cond.instanceMethod objectInit, Cond.code objectInit ⟨#[0xb1]⟩ 1 none, Cond.classLink RX5 9 RX0, Cond.fieldLink RX5 11 "Fabricsim" "flowRows" "[LFabricsim$Flow;", Cond.classLink RX5 15 RX1, Cond.fieldLink RX5 17 "Fabricsim" "hosts" "[LFabricsim$Host;", Cond.classLink RX5 21 RX2, Cond.fieldLink RX5 23 "Fabricsim" "links" "[LFabricsim$Link;", Cond.fieldLink RX5 27 "Fabricsim" "norths" "[LFabricsim$Link;", Cond.fieldLink RX5 30 "Fabricsim" "souths" "[LFabricsim$Link;", Cond.classLink RX5 33 RX3, Cond.fieldLink RX5 35 "Fabricsim" "leaves" "[LFabricsim$Node;", Cond.fieldLink RX5 39 "Fabricsim" "spines" "[LFabricsim$Node;", Cond.arrayClass .int, Cond.fieldLink RX5 42 "Fabricsim" "uncut" "[I", Cond.instantiable RX0 13, Cond.initialized RX0, Cond.instantiable RX1 4, Cond.initialized RX1, Cond.instantiable RX2 7, Cond.initialized RX2, Cond.instantiable RX3 3, Cond.initialized RX3]
def wsX5_init_r2 : List Cond := [Cond.instanceMethod yX0_init, Cond.code yX0_init cX0_init 1 none, Cond.methodLink RX0 3 objectInit, Cond.instanceMethod yX1_init, Cond.code yX1_init cX1_init 1 none, Cond.methodLink RX1 3 objectInit, Cond.classLink RX1 9 RX2, Cond.fieldLink RX1 12 "Fabricsim$Host" "up" "LFabricsim$Link;", Cond.fieldLink RX1 18 "Fabricsim$Host" "down" "LFabricsim$Link;", Cond.instanceMethod yX2_init, Cond.code yX2_init cX2_init 2 none, Cond.methodLink RX2 3 objectInit, Cond.classLink RX2 9 RX4, Cond.fieldLink RX2 11 "Fabricsim$Link" "ring" "[LFabricsim$Packet;", Cond.fieldLink RX2 17 "Fabricsim$Link" "backInSlot" "[I", Cond.instantiable RX4 4, Cond.initialized RX4, Cond.instanceMethod yX4_init, Cond.code yX4_init cX4_init 1 none, Cond.methodLink RX4 1 objectInit, Cond.instanceMethod yX3_init, Cond.code yX3_init cX3_init 3 none, Cond.methodLink RX3 3 objectInit, Cond.classLink RX3 9 RX2]
def wsX5_init_r3 : List Cond := [Cond.fieldLink RX3 11 "Fabricsim$Node" "in" "[LFabricsim$Link;", Cond.fieldLink RX3 17 "Fabricsim$Node" "out" "[LFabricsim$Link;", Cond.fieldLink RX3 20 "Fabricsim$Node" "wanted" "[I", Cond.methodLink RX5 59 yX5_joinLeaf, Cond.instanceMethod yX5_joinLeaf, Cond.selects RX5 yX5_joinLeaf yX5_joinLeaf, Cond.initialized RX5, Cond.code yX5_joinLeaf cX5_joinLeaf 5 none, Cond.methodLink RX5 76 yX5_southOf, Cond.instanceMethod yX5_southOf, Cond.selects RX5 yX5_southOf yX5_southOf, Cond.code yX5_southOf cX5_southOf 3 (some (.object "Fabricsim$Link")), Cond.methodLink RX5 80 yX5_northOf, Cond.instanceMethod yX5_northOf, Cond.selects RX5 yX5_northOf yX5_northOf, Cond.code yX5_northOf cX5_northOf 3 (some (.object "Fabricsim$Link")), Cond.methodLink RX5 63 yX5_joinSpine, Cond.instanceMethod yX5_joinSpine, Cond.selects RX5 yX5_joinSpine yX5_joinSpine, Cond.code yX5_joinSpine cX5_joinSpine 4 none, Cond.methodLink RX5 66 yX5_begin, Cond.instanceMethod yX5_begin, Cond.selects RX5 yX5_begin yX5_begin, Cond.code yX5_begin cX5_begin 5 none]
def wsX5_init_r4 : List Cond := [Cond.fieldLink RX5 83 "Fabricsim" "delay" "I", Cond.fieldLink RX5 87 "Fabricsim" "gap" "I", Cond.fieldLink RX5 90 "Fabricsim" "window" "I", Cond.fieldLink RX5 93 "Fabricsim" "flowCount" "I", Cond.fieldLink RX5 96 "Fabricsim" "nextTick" "I", Cond.instanceMethod yX2_clear, Cond.selects RX2 yX2_clear yX2_clear, Cond.code yX2_clear cX2_clear 2 none, Cond.fieldLink RX2 22 "Fabricsim$Link" "first" "I", Cond.fieldLink RX2 26 "Fabricsim$Link" "waiting" "I", Cond.fieldLink RX2 29 "Fabricsim$Link" "credits" "I", Cond.fieldLink RX2 32 "Fabricsim$Link" "lastPlace" "I", Cond.fieldLink RX2 35 "Fabricsim$Link" "pickedPlace" "I", Cond.instanceMethod yX1_clear, Cond.selects RX1 yX1_clear yX1_clear, Cond.code yX1_clear cX1_clear 1 none, Cond.fieldLink RX1 21 "Fabricsim$Host" "openPackets" "I", Cond.fieldLink RX1 25 "Fabricsim$Host" "lastFlow" "I"]
def wsX5_init : List Cond := .code yX5_init cX5_init 2 none :: ((wsX5_init_r1 ++ (wsX5_init_r2 ++ (wsX5_init_r3 ++ wsX5_init_r4))) ++ wsX50 ++ wsX00 ++ wsX10 ++ wsX20 ++ wsX30 ++ wsX40)
def wsX5_isOutside : List Cond := .code yX5_isOutside cX5_isOutside 3 (some .boolean) :: ([])
def wsX5_reset_r1 : List Cond := [Cond.classLink RX5 107 "java/lang/IllegalArgumentException", Cond.initialized "java/lang/IllegalArgumentException", Cond.methodLink RX5 103 yX5_isOutside, Cond.static yX5_isOutside, Cond.initialized RX5, Cond.code yX5_isOutside cX5_isOutside 3 (some .boolean), Cond.methodLink RX5 66 yX5_begin, Cond.instanceMethod yX5_begin, Cond.selects RX5 yX5_begin yX5_begin, Cond.code yX5_begin cX5_begin 5 none, Cond.fieldLink RX5 83 "Fabricsim" "delay" "I", Cond.fieldLink RX5 87 "Fabricsim" "gap" "I", Cond.fieldLink RX5 90 "Fabricsim" "window" "I", Cond.fieldLink RX5 93 "Fabricsim" "flowCount" "I", Cond.fieldLink RX5 96 "Fabricsim" "nextTick" "I", Cond.fieldLink RX5 23 "Fabricsim" "links" "[LFabricsim$Link;", Cond.fieldLink RX5 17 "Fabricsim" "hosts" "[LFabricsim$Host;", Cond.fieldLink RX5 42 "Fabricsim" "uncut" "[I", Cond.instanceMethod yX2_clear, Cond.initialized RX2, Cond.selects RX2 yX2_clear yX2_clear, Cond.code yX2_clear cX2_clear 2 none, Cond.fieldLink RX2 17 "Fabricsim$Link" "backInSlot" "[I", Cond.fieldLink RX2 22 "Fabricsim$Link" "first" "I"]
def wsX5_reset_r2 : List Cond := [Cond.fieldLink RX2 26 "Fabricsim$Link" "waiting" "I", Cond.fieldLink RX2 29 "Fabricsim$Link" "credits" "I", Cond.fieldLink RX2 32 "Fabricsim$Link" "lastPlace" "I", Cond.fieldLink RX2 35 "Fabricsim$Link" "pickedPlace" "I", Cond.instanceMethod yX1_clear, Cond.initialized RX1, Cond.selects RX1 yX1_clear yX1_clear, Cond.code yX1_clear cX1_clear 1 none, Cond.fieldLink RX1 21 "Fabricsim$Host" "openPackets" "I", Cond.fieldLink RX1 25 "Fabricsim$Host" "lastFlow" "I"]
def wsX5_reset : List Cond := .code yX5_reset cX5_reset 4 none :: ((wsX5_reset_r1 ++ wsX5_reset_r2) ++ wsX50 ++ wsX20 ++ wsX10 ++ (vx_atS RX5 111 "java/lang/IllegalArgumentException" ["java/lang/RuntimeException", "java/lang/Exception"]).filter goodWord)
def wsX5_checkHost : List Cond := .code yX5_checkHost cX5_checkHost 1 none :: ([.classLink RX5 107 "java/lang/IllegalArgumentException", .initialized "java/lang/IllegalArgumentException", .methodLink RX5 103 yX5_isOutside, .static yX5_isOutside, .initialized RX5, .code yX5_isOutside cX5_isOutside 3 (some .boolean)] ++ (vx_atS RX5 111 "java/lang/IllegalArgumentException" ["java/lang/RuntimeException", "java/lang/Exception"]).filter goodWord)
def wsX5_addFlow_r1 : List Cond := [Cond.classLink RX5 107 "java/lang/IllegalArgumentException", Cond.initialized "java/lang/IllegalArgumentException", Cond.classLink RX5 121 "java/lang/IllegalStateException", Cond.initialized "java/lang/IllegalStateException", Cond.fieldLink RX5 93 "Fabricsim" "flowCount" "I", Cond.fieldLink RX5 11 "Fabricsim" "flowRows" "[LFabricsim$Flow;", Cond.fieldLink RX5 96 "Fabricsim" "nextTick" "I", Cond.methodLink RX5 114 yX5_checkHost, Cond.static yX5_checkHost, Cond.initialized RX5, Cond.code yX5_checkHost cX5_checkHost 1 none, Cond.methodLink RX5 103 yX5_isOutside, Cond.static yX5_isOutside, Cond.code yX5_isOutside cX5_isOutside 3 (some .boolean), Cond.instanceMethod yX0_begin, Cond.initialized RX0, Cond.selects RX0 yX0_begin yX0_begin, Cond.code yX0_begin cX0_begin 5 none, Cond.fieldLink RX0 9 "Fabricsim$Flow" "source" "I", Cond.fieldLink RX0 15 "Fabricsim$Flow" "target" "I", Cond.fieldLink RX0 18 "Fabricsim$Flow" "packets" "I", Cond.fieldLink RX0 21 "Fabricsim$Flow" "start" "I", Cond.fieldLink RX0 24 "Fabricsim$Flow" "sentPackets" "I", Cond.fieldLink RX0 27 "Fabricsim$Flow" "deliveredPackets" "I"]
def wsX5_addFlow_r2 : List Cond := [Cond.fieldLink RX0 30 "Fabricsim$Flow" "lostPackets" "I", Cond.fieldLink RX0 33 "Fabricsim$Flow" "latePackets" "I", Cond.fieldLink RX0 36 "Fabricsim$Flow" "greatestDelivered" "I", Cond.fieldLink RX0 39 "Fabricsim$Flow" "doneTick" "I", Cond.fieldLink RX0 42 "Fabricsim$Flow" "flowletCount" "I", Cond.fieldLink RX0 45 "Fabricsim$Flow" "spine" "I", Cond.fieldLink RX0 48 "Fabricsim$Flow" "lastSentTick" "I"]
def wsX5_addFlow : List Cond := .code yX5_addFlow cX5_addFlow 5 (some .int) :: ((wsX5_addFlow_r1 ++ wsX5_addFlow_r2) ++ wsX50 ++ wsX00 ++ (vx_atS RX5 111 "java/lang/IllegalArgumentException" ["java/lang/RuntimeException", "java/lang/Exception"]).filter goodWord ++ (vx_atS RX5 125 "java/lang/IllegalStateException" ["java/lang/RuntimeException", "java/lang/Exception"]).filter goodWord)
def wsX5_checkConnection : List Cond := .code yX5_checkConnection cX5_checkConnection 2 none :: ([.classLink RX5 107 "java/lang/IllegalArgumentException", .initialized "java/lang/IllegalArgumentException", .methodLink RX5 103 yX5_isOutside, .static yX5_isOutside, .initialized RX5, .code yX5_isOutside cX5_isOutside 3 (some .boolean)] ++ (vx_atS RX5 111 "java/lang/IllegalArgumentException" ["java/lang/RuntimeException", "java/lang/Exception"]).filter goodWord)
def wsX5_isCut : List Cond := .code yX5_isCut cX5_isCut 3 (some .boolean) :: ([.fieldLink RX5 42 "Fabricsim" "uncut" "[I"] ++ wsX50)
def wsX5_cut_r1 : List Cond := [Cond.classLink RX5 121 "java/lang/IllegalStateException", Cond.initialized "java/lang/IllegalStateException", Cond.fieldLink RX5 42 "Fabricsim" "uncut" "[I", Cond.methodLink RX5 129 yX5_checkConnection, Cond.static yX5_checkConnection, Cond.initialized RX5, Cond.code yX5_checkConnection cX5_checkConnection 2 none, Cond.classLink RX5 107 "java/lang/IllegalArgumentException", Cond.initialized "java/lang/IllegalArgumentException", Cond.methodLink RX5 103 yX5_isOutside, Cond.static yX5_isOutside, Cond.code yX5_isOutside cX5_isOutside 3 (some .boolean), Cond.methodLink RX5 132 yX5_isCut, Cond.instanceMethod yX5_isCut, Cond.selects RX5 yX5_isCut yX5_isCut, Cond.code yX5_isCut cX5_isCut 3 (some .boolean), Cond.methodLink RX5 80 yX5_northOf, Cond.instanceMethod yX5_northOf, Cond.selects RX5 yX5_northOf yX5_northOf, Cond.code yX5_northOf cX5_northOf 3 (some (.object "Fabricsim$Link")), Cond.fieldLink RX5 27 "Fabricsim" "norths" "[LFabricsim$Link;", Cond.methodLink RX5 76 yX5_southOf, Cond.instanceMethod yX5_southOf, Cond.selects RX5 yX5_southOf yX5_southOf]
def wsX5_cut_r2 : List Cond := [Cond.code yX5_southOf cX5_southOf 3 (some (.object "Fabricsim$Link")), Cond.fieldLink RX5 30 "Fabricsim" "souths" "[LFabricsim$Link;"]
def wsX5_cut : List Cond := .code yX5_cut cX5_cut 3 (some .int) :: ((wsX5_cut_r1 ++ wsX5_cut_r2) ++ wsX50 ++ wsX20 ++ (vx_atS RX5 125 "java/lang/IllegalStateException" ["java/lang/RuntimeException", "java/lang/Exception"]).filter goodWord ++ (vx_atS RX5 111 "java/lang/IllegalArgumentException" ["java/lang/RuntimeException", "java/lang/Exception"]).filter goodWord)
def wsJ6_bitCount_0f7a4 : List Cond := .code yJ6_bitCount_0f7a4 cJ6_bitCount_0f7a4 1 (some .int) :: ([.constant RJ6 265 (1431655765), .constant RJ6 266 (858993459), .constant RJ6 267 (252645135)])
def wsX5_restore : List Cond := .code yX5_restore cX5_restore 5 (some .int) :: ([.classLink RX5 121 "java/lang/IllegalStateException", .initialized "java/lang/IllegalStateException", .fieldLink RX5 42 "Fabricsim" "uncut" "[I", .methodLink RX5 129 yX5_checkConnection, .static yX5_checkConnection, .initialized RX5, .code yX5_checkConnection cX5_checkConnection 2 none, .classLink RX5 107 "java/lang/IllegalArgumentException", .initialized "java/lang/IllegalArgumentException", .methodLink RX5 103 yX5_isOutside, .static yX5_isOutside, .code yX5_isOutside cX5_isOutside 3 (some .boolean), .methodLink RX5 132 yX5_isCut, .instanceMethod yX5_isCut, .selects RX5 yX5_isCut yX5_isCut, .code yX5_isCut cX5_isCut 3 (some .boolean), .methodLink RX5 143 yJ6_bitCount_0f7a4, .static yJ6_bitCount_0f7a4, .initialized RJ6, .code yJ6_bitCount_0f7a4 cJ6_bitCount_0f7a4 1 (some .int), .constant RJ6 265 (1431655765), .constant RJ6 266 (858993459), .constant RJ6 267 (252645135)] ++ wsX50 ++ (vx_atS RX5 125 "java/lang/IllegalStateException" ["java/lang/RuntimeException", "java/lang/Exception"]).filter goodWord ++ (vx_atS RX5 111 "java/lang/IllegalArgumentException" ["java/lang/RuntimeException", "java/lang/Exception"]).filter goodWord)
def wsX5_takeCreditsBack : List Cond := .code yX5_takeCreditsBack cX5_takeCreditsBack 3 none :: ([.fieldLink RX5 96 "Fabricsim" "nextTick" "I", .fieldLink RX5 23 "Fabricsim" "links" "[LFabricsim$Link;", .instanceMethod yX2_takeBack, .initialized RX2, .selects RX2 yX2_takeBack yX2_takeBack, .code yX2_takeBack cX2_takeBack 2 none, .fieldLink RX2 29 "Fabricsim$Link" "credits" "I", .fieldLink RX2 17 "Fabricsim$Link" "backInSlot" "[I"] ++ wsX50 ++ wsX20)
def wsX5_deliverAll : List Cond := .code yX5_deliverAll cX5_deliverAll 6 (some .int) :: ([.fieldLink RX5 17 "Fabricsim" "hosts" "[LFabricsim$Host;", .fieldLink RX5 11 "Fabricsim" "flowRows" "[LFabricsim$Flow;", .fieldLink RX5 96 "Fabricsim" "nextTick" "I", .instanceMethod yX2_firstPacket, .initialized RX2, .selects RX2 yX2_firstPacket yX2_firstPacket, .code yX2_firstPacket cX2_firstPacket 1 (some (.object "Fabricsim$Packet")), .fieldLink RX2 11 "Fabricsim$Link" "ring" "[LFabricsim$Packet;", .fieldLink RX2 22 "Fabricsim$Link" "first" "I", .instanceMethod yX0_countDelivered, .initialized RX0, .selects RX0 yX0_countDelivered yX0_countDelivered, .code yX0_countDelivered cX0_countDelivered 3 none, .fieldLink RX0 27 "Fabricsim$Flow" "deliveredPackets" "I", .fieldLink RX0 36 "Fabricsim$Flow" "greatestDelivered" "I", .fieldLink RX0 33 "Fabricsim$Flow" "latePackets" "I", .fieldLink RX0 18 "Fabricsim$Flow" "packets" "I", .fieldLink RX0 39 "Fabricsim$Flow" "doneTick" "I", .instanceMethod yX2_drop, .selects RX2 yX2_drop yX2_drop, .code yX2_drop cX2_drop 2 none, .fieldLink RX2 26 "Fabricsim$Link" "waiting" "I", .fieldLink RX2 17 "Fabricsim$Link" "backInSlot" "[I"] ++ wsX50 ++ wsX10 ++ wsX20 ++ wsX40 ++ wsX00)
def wsX5_loseAtSpines_r1 : List Cond := [Cond.fieldLink RX5 11 "Fabricsim" "flowRows" "[LFabricsim$Flow;", Cond.fieldLink RX5 17 "Fabricsim" "hosts" "[LFabricsim$Host;", Cond.methodLink RX5 80 yX5_northOf, Cond.instanceMethod yX5_northOf, Cond.selects RX5 yX5_northOf yX5_northOf, Cond.initialized RX5, Cond.code yX5_northOf cX5_northOf 3 (some (.object "Fabricsim$Link")), Cond.fieldLink RX5 27 "Fabricsim" "norths" "[LFabricsim$Link;", Cond.instanceMethod yX2_firstPacket, Cond.initialized RX2, Cond.selects RX2 yX2_firstPacket yX2_firstPacket, Cond.code yX2_firstPacket cX2_firstPacket 1 (some (.object "Fabricsim$Packet")), Cond.fieldLink RX2 11 "Fabricsim$Link" "ring" "[LFabricsim$Packet;", Cond.fieldLink RX2 22 "Fabricsim$Link" "first" "I", Cond.instanceMethod yX0_targetLeaf, Cond.initialized RX0, Cond.selects RX0 yX0_targetLeaf yX0_targetLeaf, Cond.code yX0_targetLeaf cX0_targetLeaf 1 (some .int), Cond.fieldLink RX0 15 "Fabricsim$Flow" "target" "I", Cond.methodLink RX5 132 yX5_isCut, Cond.instanceMethod yX5_isCut, Cond.selects RX5 yX5_isCut yX5_isCut, Cond.code yX5_isCut cX5_isCut 3 (some .boolean), Cond.fieldLink RX5 42 "Fabricsim" "uncut" "[I"]
def wsX5_loseAtSpines_r2 : List Cond := [Cond.instanceMethod yX2_drop, Cond.selects RX2 yX2_drop yX2_drop, Cond.code yX2_drop cX2_drop 2 none, Cond.fieldLink RX2 26 "Fabricsim$Link" "waiting" "I", Cond.fieldLink RX2 17 "Fabricsim$Link" "backInSlot" "[I"]
def wsX5_loseAtSpines : List Cond := .code yX5_loseAtSpines cX5_loseAtSpines 6 none :: ((wsX5_loseAtSpines_r1 ++ wsX5_loseAtSpines_r2) ++ wsX20 ++ wsX50 ++ wsX40 ++ wsX00 ++ wsX10)
def wsX5_usableSpines : List Cond := .code yX5_usableSpines cX5_usableSpines 3 (some .int) :: ([.fieldLink RX5 42 "Fabricsim" "uncut" "[I"] ++ wsX50)
def wsX5_isUsable : List Cond := .code yX5_isUsable cX5_isUsable 4 (some .boolean) :: ([.methodLink RX5 193 yX5_usableSpines, .instanceMethod yX5_usableSpines, .selects RX5 yX5_usableSpines yX5_usableSpines, .initialized RX5, .code yX5_usableSpines cX5_usableSpines 3 (some .int), .fieldLink RX5 42 "Fabricsim" "uncut" "[I"] ++ wsX50)
def wsX5_chosenSpine : List Cond := .code yX5_chosenSpine cX5_chosenSpine 8 (some .int) :: ([.fieldLink RX5 11 "Fabricsim" "flowRows" "[LFabricsim$Flow;", .instanceMethod yX0_sourceLeaf, .initialized RX0, .selects RX0 yX0_sourceLeaf yX0_sourceLeaf, .code yX0_sourceLeaf cX0_sourceLeaf 1 (some .int), .fieldLink RX0 9 "Fabricsim$Flow" "source" "I", .instanceMethod yX0_targetLeaf, .selects RX0 yX0_targetLeaf yX0_targetLeaf, .code yX0_targetLeaf cX0_targetLeaf 1 (some .int), .fieldLink RX0 15 "Fabricsim$Flow" "target" "I", .methodLink RX5 193 yX5_usableSpines, .instanceMethod yX5_usableSpines, .selects RX5 yX5_usableSpines yX5_usableSpines, .initialized RX5, .code yX5_usableSpines cX5_usableSpines 3 (some .int), .fieldLink RX5 42 "Fabricsim" "uncut" "[I", .methodLink RX5 143 yJ6_bitCount_0f7a4, .static yJ6_bitCount_0f7a4, .initialized RJ6, .code yJ6_bitCount_0f7a4 cJ6_bitCount_0f7a4 1 (some .int), .constant RJ6 265 (1431655765), .constant RJ6 266 (858993459), .constant RJ6 267 (252645135)] ++ wsX50 ++ wsX00)
def wsX5_wantedAtLeaf_r1 : List Cond := [Cond.fieldLink RX5 11 "Fabricsim" "flowRows" "[LFabricsim$Flow;", Cond.instanceMethod yX2_firstPacket, Cond.initialized RX2, Cond.selects RX2 yX2_firstPacket yX2_firstPacket, Cond.code yX2_firstPacket cX2_firstPacket 1 (some (.object "Fabricsim$Packet")), Cond.fieldLink RX2 11 "Fabricsim$Link" "ring" "[LFabricsim$Packet;", Cond.fieldLink RX2 22 "Fabricsim$Link" "first" "I", Cond.instanceMethod yX0_targetLeaf, Cond.initialized RX0, Cond.selects RX0 yX0_targetLeaf yX0_targetLeaf, Cond.code yX0_targetLeaf cX0_targetLeaf 1 (some .int), Cond.fieldLink RX0 15 "Fabricsim$Flow" "target" "I", Cond.methodLink RX5 286 yX5_isUsable, Cond.instanceMethod yX5_isUsable, Cond.selects RX5 yX5_isUsable yX5_isUsable, Cond.initialized RX5, Cond.code yX5_isUsable cX5_isUsable 4 (some .boolean), Cond.methodLink RX5 193 yX5_usableSpines, Cond.instanceMethod yX5_usableSpines, Cond.selects RX5 yX5_usableSpines yX5_usableSpines, Cond.code yX5_usableSpines cX5_usableSpines 3 (some .int), Cond.fieldLink RX5 42 "Fabricsim" "uncut" "[I", Cond.methodLink RX5 292 yX5_chosenSpine, Cond.instanceMethod yX5_chosenSpine]
def wsX5_wantedAtLeaf_r2 : List Cond := [Cond.selects RX5 yX5_chosenSpine yX5_chosenSpine, Cond.code yX5_chosenSpine cX5_chosenSpine 8 (some .int), Cond.instanceMethod yX0_sourceLeaf, Cond.selects RX0 yX0_sourceLeaf yX0_sourceLeaf, Cond.code yX0_sourceLeaf cX0_sourceLeaf 1 (some .int), Cond.fieldLink RX0 9 "Fabricsim$Flow" "source" "I", Cond.methodLink RX5 143 yJ6_bitCount_0f7a4, Cond.static yJ6_bitCount_0f7a4, Cond.initialized RJ6, Cond.code yJ6_bitCount_0f7a4 cJ6_bitCount_0f7a4 1 (some .int), Cond.constant RJ6 265 (1431655765), Cond.constant RJ6 266 (858993459), Cond.constant RJ6 267 (252645135)]
def wsX5_wantedAtLeaf : List Cond := .code yX5_wantedAtLeaf cX5_wantedAtLeaf 6 (some .int) :: ((wsX5_wantedAtLeaf_r1 ++ wsX5_wantedAtLeaf_r2) ++ wsX20 ++ wsX50 ++ wsX40 ++ wsX00)
def wsX5_aimAtLeaves_r1 : List Cond := [Cond.fieldLink RX5 35 "Fabricsim" "leaves" "[LFabricsim$Node;", Cond.methodLink RX5 281 yX5_wantedAtLeaf, Cond.instanceMethod yX5_wantedAtLeaf, Cond.selects RX5 yX5_wantedAtLeaf yX5_wantedAtLeaf, Cond.initialized RX5, Cond.code yX5_wantedAtLeaf cX5_wantedAtLeaf 6 (some .int), Cond.fieldLink RX5 11 "Fabricsim" "flowRows" "[LFabricsim$Flow;", Cond.instanceMethod yX2_firstPacket, Cond.initialized RX2, Cond.selects RX2 yX2_firstPacket yX2_firstPacket, Cond.code yX2_firstPacket cX2_firstPacket 1 (some (.object "Fabricsim$Packet")), Cond.fieldLink RX2 11 "Fabricsim$Link" "ring" "[LFabricsim$Packet;", Cond.fieldLink RX2 22 "Fabricsim$Link" "first" "I", Cond.instanceMethod yX0_targetLeaf, Cond.initialized RX0, Cond.selects RX0 yX0_targetLeaf yX0_targetLeaf, Cond.code yX0_targetLeaf cX0_targetLeaf 1 (some .int), Cond.fieldLink RX0 15 "Fabricsim$Flow" "target" "I", Cond.methodLink RX5 286 yX5_isUsable, Cond.instanceMethod yX5_isUsable, Cond.selects RX5 yX5_isUsable yX5_isUsable, Cond.code yX5_isUsable cX5_isUsable 4 (some .boolean), Cond.methodLink RX5 193 yX5_usableSpines, Cond.instanceMethod yX5_usableSpines]
def wsX5_aimAtLeaves_r2 : List Cond := [Cond.selects RX5 yX5_usableSpines yX5_usableSpines, Cond.code yX5_usableSpines cX5_usableSpines 3 (some .int), Cond.fieldLink RX5 42 "Fabricsim" "uncut" "[I", Cond.methodLink RX5 292 yX5_chosenSpine, Cond.instanceMethod yX5_chosenSpine, Cond.selects RX5 yX5_chosenSpine yX5_chosenSpine, Cond.code yX5_chosenSpine cX5_chosenSpine 8 (some .int), Cond.instanceMethod yX0_sourceLeaf, Cond.selects RX0 yX0_sourceLeaf yX0_sourceLeaf, Cond.code yX0_sourceLeaf cX0_sourceLeaf 1 (some .int), Cond.fieldLink RX0 9 "Fabricsim$Flow" "source" "I", Cond.methodLink RX5 143 yJ6_bitCount_0f7a4, Cond.static yJ6_bitCount_0f7a4, Cond.initialized RJ6, Cond.code yJ6_bitCount_0f7a4 cJ6_bitCount_0f7a4 1 (some .int), Cond.constant RJ6 265 (1431655765), Cond.constant RJ6 266 (858993459), Cond.constant RJ6 267 (252645135)]
def wsX5_aimAtLeaves : List Cond := .code yX5_aimAtLeaves cX5_aimAtLeaves 4 none :: ((wsX5_aimAtLeaves_r1 ++ wsX5_aimAtLeaves_r2) ++ wsX50 ++ wsX30 ++ wsX20 ++ wsX40 ++ wsX00)
def wsX5_wantedAtSpine : List Cond := .code yX5_wantedAtSpine cX5_wantedAtSpine 4 (some .int) :: ([.fieldLink RX5 11 "Fabricsim" "flowRows" "[LFabricsim$Flow;", .instanceMethod yX2_firstPacket, .initialized RX2, .selects RX2 yX2_firstPacket yX2_firstPacket, .code yX2_firstPacket cX2_firstPacket 1 (some (.object "Fabricsim$Packet")), .fieldLink RX2 11 "Fabricsim$Link" "ring" "[LFabricsim$Packet;", .fieldLink RX2 22 "Fabricsim$Link" "first" "I", .instanceMethod yX0_targetLeaf, .initialized RX0, .selects RX0 yX0_targetLeaf yX0_targetLeaf, .code yX0_targetLeaf cX0_targetLeaf 1 (some .int), .fieldLink RX0 15 "Fabricsim$Flow" "target" "I", .methodLink RX5 132 yX5_isCut, .instanceMethod yX5_isCut, .selects RX5 yX5_isCut yX5_isCut, .initialized RX5, .code yX5_isCut cX5_isCut 3 (some .boolean), .fieldLink RX5 42 "Fabricsim" "uncut" "[I"] ++ wsX20 ++ wsX50 ++ wsX40 ++ wsX00)
def wsX5_aimAtSpines : List Cond := .code yX5_aimAtSpines cX5_aimAtSpines 4 none :: ([.fieldLink RX5 39 "Fabricsim" "spines" "[LFabricsim$Node;", .methodLink RX5 295 yX5_wantedAtSpine, .instanceMethod yX5_wantedAtSpine, .selects RX5 yX5_wantedAtSpine yX5_wantedAtSpine, .initialized RX5, .code yX5_wantedAtSpine cX5_wantedAtSpine 4 (some .int), .fieldLink RX5 11 "Fabricsim" "flowRows" "[LFabricsim$Flow;", .instanceMethod yX2_firstPacket, .initialized RX2, .selects RX2 yX2_firstPacket yX2_firstPacket, .code yX2_firstPacket cX2_firstPacket 1 (some (.object "Fabricsim$Packet")), .fieldLink RX2 11 "Fabricsim$Link" "ring" "[LFabricsim$Packet;", .fieldLink RX2 22 "Fabricsim$Link" "first" "I", .instanceMethod yX0_targetLeaf, .initialized RX0, .selects RX0 yX0_targetLeaf yX0_targetLeaf, .code yX0_targetLeaf cX0_targetLeaf 1 (some .int), .fieldLink RX0 15 "Fabricsim$Flow" "target" "I", .methodLink RX5 132 yX5_isCut, .instanceMethod yX5_isCut, .selects RX5 yX5_isCut yX5_isCut, .code yX5_isCut cX5_isCut 3 (some .boolean), .fieldLink RX5 42 "Fabricsim" "uncut" "[I"] ++ wsX50 ++ wsX30 ++ wsX20 ++ wsX40 ++ wsX00)
def wsX5_pickAll : List Cond := .code yX5_pickAll cX5_pickAll 2 none :: ([.fieldLink RX5 35 "Fabricsim" "leaves" "[LFabricsim$Node;", .fieldLink RX5 39 "Fabricsim" "spines" "[LFabricsim$Node;", .instanceMethod yX3_pick, .initialized RX3, .selects RX3 yX3_pick yX3_pick, .code yX3_pick cX3_pick 2 none, .fieldLink RX3 17 "Fabricsim$Node" "out" "[LFabricsim$Link;", .fieldLink RX3 20 "Fabricsim$Node" "wanted" "[I", .instanceMethod yX2_pick, .initialized RX2, .selects RX2 yX2_pick yX2_pick, .code yX2_pick cX2_pick 5 none, .fieldLink RX2 35 "Fabricsim$Link" "pickedPlace" "I", .fieldLink RX2 29 "Fabricsim$Link" "credits" "I", .fieldLink RX2 32 "Fabricsim$Link" "lastPlace" "I"] ++ wsX50 ++ wsX30 ++ wsX20)
def wsX5_moveAll_r1 : List Cond := [Cond.fieldLink RX5 35 "Fabricsim" "leaves" "[LFabricsim$Node;", Cond.fieldLink RX5 39 "Fabricsim" "spines" "[LFabricsim$Node;", Cond.instanceMethod yX3_move, Cond.initialized RX3, Cond.selects RX3 yX3_move yX3_move, Cond.code yX3_move cX3_move 5 none, Cond.fieldLink RX3 17 "Fabricsim$Node" "out" "[LFabricsim$Link;", Cond.fieldLink RX3 11 "Fabricsim$Node" "in" "[LFabricsim$Link;", Cond.instanceMethod yX2_firstPacket, Cond.initialized RX2, Cond.selects RX2 yX2_firstPacket yX2_firstPacket, Cond.code yX2_firstPacket cX2_firstPacket 1 (some (.object "Fabricsim$Packet")), Cond.fieldLink RX2 11 "Fabricsim$Link" "ring" "[LFabricsim$Packet;", Cond.fieldLink RX2 22 "Fabricsim$Link" "first" "I", Cond.instanceMethod yX2_put, Cond.selects RX2 yX2_put yX2_put, Cond.code yX2_put cX2_put 5 none, Cond.fieldLink RX2 29 "Fabricsim$Link" "credits" "I", Cond.fieldLink RX2 26 "Fabricsim$Link" "waiting" "I", Cond.instanceMethod yX4_write, Cond.initialized RX4, Cond.selects RX4 yX4_write yX4_write, Cond.code yX4_write cX4_write 5 none, Cond.fieldLink RX4 7 "Fabricsim$Packet" "flow" "I"]
def wsX5_moveAll_r2 : List Cond := [Cond.fieldLink RX4 13 "Fabricsim$Packet" "number" "I", Cond.fieldLink RX4 16 "Fabricsim$Packet" "flowlet" "I", Cond.fieldLink RX4 19 "Fabricsim$Packet" "spine" "I", Cond.instanceMethod yX2_drop, Cond.selects RX2 yX2_drop yX2_drop, Cond.code yX2_drop cX2_drop 2 none, Cond.fieldLink RX2 17 "Fabricsim$Link" "backInSlot" "[I"]
def wsX5_moveAll : List Cond := .code yX5_moveAll cX5_moveAll 3 none :: ((wsX5_moveAll_r1 ++ wsX5_moveAll_r2) ++ wsX50 ++ wsX30 ++ wsX20 ++ wsX40)
def wsX5_canSend_r1 : List Cond := [Cond.fieldLink RX5 96 "Fabricsim" "nextTick" "I", Cond.fieldLink RX5 17 "Fabricsim" "hosts" "[LFabricsim$Host;", Cond.fieldLink RX5 90 "Fabricsim" "window" "I", Cond.instanceMethod yX0_unsent, Cond.initialized RX0, Cond.selects RX0 yX0_unsent yX0_unsent, Cond.code yX0_unsent cX0_unsent 1 (some .int), Cond.fieldLink RX0 18 "Fabricsim$Flow" "packets" "I", Cond.fieldLink RX0 24 "Fabricsim$Flow" "sentPackets" "I", Cond.fieldLink RX0 30 "Fabricsim$Flow" "lostPackets" "I", Cond.instanceMethod yX0_crossesLeaves, Cond.selects RX0 yX0_crossesLeaves yX0_crossesLeaves, Cond.code yX0_crossesLeaves cX0_crossesLeaves 1 (some .boolean), Cond.methodLink RX0 51 yX0_sourceLeaf, Cond.instanceMethod yX0_sourceLeaf, Cond.selects RX0 yX0_sourceLeaf yX0_sourceLeaf, Cond.code yX0_sourceLeaf cX0_sourceLeaf 1 (some .int), Cond.fieldLink RX0 9 "Fabricsim$Flow" "source" "I", Cond.methodLink RX0 55 yX0_targetLeaf, Cond.instanceMethod yX0_targetLeaf, Cond.selects RX0 yX0_targetLeaf yX0_targetLeaf, Cond.code yX0_targetLeaf cX0_targetLeaf 1 (some .int), Cond.fieldLink RX0 15 "Fabricsim$Flow" "target" "I", Cond.methodLink RX5 193 yX5_usableSpines]
def wsX5_canSend_r2 : List Cond := [Cond.instanceMethod yX5_usableSpines, Cond.selects RX5 yX5_usableSpines yX5_usableSpines, Cond.initialized RX5, Cond.code yX5_usableSpines cX5_usableSpines 3 (some .int), Cond.fieldLink RX5 42 "Fabricsim" "uncut" "[I"]
def wsX5_canSend : List Cond := .code yX5_canSend cX5_canSend 2 (some .boolean) :: ((wsX5_canSend_r1 ++ wsX5_canSend_r2) ++ wsX00 ++ wsX50 ++ wsX10)
def wsX5_pickedFlow_r1 : List Cond := [Cond.fieldLink RX5 93 "Fabricsim" "flowCount" "I", Cond.fieldLink RX5 11 "Fabricsim" "flowRows" "[LFabricsim$Flow;", Cond.methodLink RX5 314 yX5_canSend, Cond.instanceMethod yX5_canSend, Cond.selects RX5 yX5_canSend yX5_canSend, Cond.initialized RX5, Cond.code yX5_canSend cX5_canSend 2 (some .boolean), Cond.fieldLink RX5 96 "Fabricsim" "nextTick" "I", Cond.fieldLink RX5 17 "Fabricsim" "hosts" "[LFabricsim$Host;", Cond.fieldLink RX5 90 "Fabricsim" "window" "I", Cond.instanceMethod yX0_unsent, Cond.initialized RX0, Cond.selects RX0 yX0_unsent yX0_unsent, Cond.code yX0_unsent cX0_unsent 1 (some .int), Cond.fieldLink RX0 18 "Fabricsim$Flow" "packets" "I", Cond.fieldLink RX0 24 "Fabricsim$Flow" "sentPackets" "I", Cond.fieldLink RX0 30 "Fabricsim$Flow" "lostPackets" "I", Cond.instanceMethod yX0_crossesLeaves, Cond.selects RX0 yX0_crossesLeaves yX0_crossesLeaves, Cond.code yX0_crossesLeaves cX0_crossesLeaves 1 (some .boolean), Cond.methodLink RX0 51 yX0_sourceLeaf, Cond.instanceMethod yX0_sourceLeaf, Cond.selects RX0 yX0_sourceLeaf yX0_sourceLeaf, Cond.code yX0_sourceLeaf cX0_sourceLeaf 1 (some .int)]
def wsX5_pickedFlow_r2 : List Cond := [Cond.fieldLink RX0 9 "Fabricsim$Flow" "source" "I", Cond.methodLink RX0 55 yX0_targetLeaf, Cond.instanceMethod yX0_targetLeaf, Cond.selects RX0 yX0_targetLeaf yX0_targetLeaf, Cond.code yX0_targetLeaf cX0_targetLeaf 1 (some .int), Cond.fieldLink RX0 15 "Fabricsim$Flow" "target" "I", Cond.methodLink RX5 193 yX5_usableSpines, Cond.instanceMethod yX5_usableSpines, Cond.selects RX5 yX5_usableSpines yX5_usableSpines, Cond.code yX5_usableSpines cX5_usableSpines 3 (some .int), Cond.fieldLink RX5 42 "Fabricsim" "uncut" "[I"]
def wsX5_pickedFlow : List Cond := .code yX5_pickedFlow cX5_pickedFlow 5 (some .int) :: ((wsX5_pickedFlow_r1 ++ wsX5_pickedFlow_r2) ++ wsX50 ++ wsX00 ++ wsX10)
def wsX5_needsFlowlet : List Cond := .code yX5_needsFlowlet cX5_needsFlowlet 2 (some .boolean) :: ([.fieldLink RX5 96 "Fabricsim" "nextTick" "I", .fieldLink RX5 87 "Fabricsim" "gap" "I", .instanceMethod yX0_sourceLeaf, .initialized RX0, .selects RX0 yX0_sourceLeaf yX0_sourceLeaf, .code yX0_sourceLeaf cX0_sourceLeaf 1 (some .int), .fieldLink RX0 9 "Fabricsim$Flow" "source" "I", .instanceMethod yX0_targetLeaf, .selects RX0 yX0_targetLeaf yX0_targetLeaf, .code yX0_targetLeaf cX0_targetLeaf 1 (some .int), .fieldLink RX0 15 "Fabricsim$Flow" "target" "I", .methodLink RX5 286 yX5_isUsable, .instanceMethod yX5_isUsable, .selects RX5 yX5_isUsable yX5_isUsable, .initialized RX5, .code yX5_isUsable cX5_isUsable 4 (some .boolean), .methodLink RX5 193 yX5_usableSpines, .instanceMethod yX5_usableSpines, .selects RX5 yX5_usableSpines yX5_usableSpines, .code yX5_usableSpines cX5_usableSpines 3 (some .int), .fieldLink RX5 42 "Fabricsim" "uncut" "[I"] ++ wsX00 ++ wsX50)
def wsX5_send_r1 : List Cond := [Cond.fieldLink RX5 11 "Fabricsim" "flowRows" "[LFabricsim$Flow;", Cond.fieldLink RX5 96 "Fabricsim" "nextTick" "I", Cond.fieldLink RX5 17 "Fabricsim" "hosts" "[LFabricsim$Host;", Cond.instanceMethod yX0_crossesLeaves, Cond.initialized RX0, Cond.selects RX0 yX0_crossesLeaves yX0_crossesLeaves, Cond.code yX0_crossesLeaves cX0_crossesLeaves 1 (some .boolean), Cond.methodLink RX0 51 yX0_sourceLeaf, Cond.instanceMethod yX0_sourceLeaf, Cond.selects RX0 yX0_sourceLeaf yX0_sourceLeaf, Cond.code yX0_sourceLeaf cX0_sourceLeaf 1 (some .int), Cond.fieldLink RX0 9 "Fabricsim$Flow" "source" "I", Cond.methodLink RX0 55 yX0_targetLeaf, Cond.instanceMethod yX0_targetLeaf, Cond.selects RX0 yX0_targetLeaf yX0_targetLeaf, Cond.code yX0_targetLeaf cX0_targetLeaf 1 (some .int), Cond.fieldLink RX0 15 "Fabricsim$Flow" "target" "I", Cond.methodLink RX5 321 yX5_needsFlowlet, Cond.instanceMethod yX5_needsFlowlet, Cond.selects RX5 yX5_needsFlowlet yX5_needsFlowlet, Cond.initialized RX5, Cond.code yX5_needsFlowlet cX5_needsFlowlet 2 (some .boolean), Cond.fieldLink RX5 87 "Fabricsim" "gap" "I", Cond.methodLink RX5 286 yX5_isUsable]
def wsX5_send_r2 : List Cond := [Cond.instanceMethod yX5_isUsable, Cond.selects RX5 yX5_isUsable yX5_isUsable, Cond.code yX5_isUsable cX5_isUsable 4 (some .boolean), Cond.methodLink RX5 193 yX5_usableSpines, Cond.instanceMethod yX5_usableSpines, Cond.selects RX5 yX5_usableSpines yX5_usableSpines, Cond.code yX5_usableSpines cX5_usableSpines 3 (some .int), Cond.fieldLink RX5 42 "Fabricsim" "uncut" "[I", Cond.methodLink RX5 292 yX5_chosenSpine, Cond.instanceMethod yX5_chosenSpine, Cond.selects RX5 yX5_chosenSpine yX5_chosenSpine, Cond.code yX5_chosenSpine cX5_chosenSpine 8 (some .int), Cond.methodLink RX5 143 yJ6_bitCount_0f7a4, Cond.static yJ6_bitCount_0f7a4, Cond.initialized RJ6, Cond.code yJ6_bitCount_0f7a4 cJ6_bitCount_0f7a4 1 (some .int), Cond.constant RJ6 265 (1431655765), Cond.constant RJ6 266 (858993459), Cond.constant RJ6 267 (252645135), Cond.instanceMethod yX2_put, Cond.initialized RX2, Cond.selects RX2 yX2_put yX2_put, Cond.code yX2_put cX2_put 5 none, Cond.fieldLink RX2 29 "Fabricsim$Link" "credits" "I"]
def wsX5_send_r3 : List Cond := [Cond.fieldLink RX2 11 "Fabricsim$Link" "ring" "[LFabricsim$Packet;", Cond.fieldLink RX2 22 "Fabricsim$Link" "first" "I", Cond.fieldLink RX2 26 "Fabricsim$Link" "waiting" "I", Cond.instanceMethod yX4_write, Cond.initialized RX4, Cond.selects RX4 yX4_write yX4_write, Cond.code yX4_write cX4_write 5 none, Cond.fieldLink RX4 7 "Fabricsim$Packet" "flow" "I", Cond.fieldLink RX4 13 "Fabricsim$Packet" "number" "I", Cond.fieldLink RX4 16 "Fabricsim$Packet" "flowlet" "I", Cond.fieldLink RX4 19 "Fabricsim$Packet" "spine" "I"]
def wsX5_send : List Cond := .code yX5_send cX5_send 4 none :: ((wsX5_send_r1 ++ (wsX5_send_r2 ++ wsX5_send_r3)) ++ wsX50 ++ wsX00 ++ wsX10 ++ wsX20 ++ wsX40)
def wsX5_sendAll_r1 : List Cond := [Cond.fieldLink RX5 17 "Fabricsim" "hosts" "[LFabricsim$Host;", Cond.methodLink RX5 307 yX5_pickedFlow, Cond.instanceMethod yX5_pickedFlow, Cond.selects RX5 yX5_pickedFlow yX5_pickedFlow, Cond.initialized RX5, Cond.code yX5_pickedFlow cX5_pickedFlow 5 (some .int), Cond.fieldLink RX5 93 "Fabricsim" "flowCount" "I", Cond.fieldLink RX5 11 "Fabricsim" "flowRows" "[LFabricsim$Flow;", Cond.methodLink RX5 314 yX5_canSend, Cond.instanceMethod yX5_canSend, Cond.selects RX5 yX5_canSend yX5_canSend, Cond.code yX5_canSend cX5_canSend 2 (some .boolean), Cond.fieldLink RX5 96 "Fabricsim" "nextTick" "I", Cond.fieldLink RX5 90 "Fabricsim" "window" "I", Cond.instanceMethod yX0_unsent, Cond.initialized RX0, Cond.selects RX0 yX0_unsent yX0_unsent, Cond.code yX0_unsent cX0_unsent 1 (some .int), Cond.fieldLink RX0 18 "Fabricsim$Flow" "packets" "I", Cond.fieldLink RX0 24 "Fabricsim$Flow" "sentPackets" "I", Cond.fieldLink RX0 30 "Fabricsim$Flow" "lostPackets" "I", Cond.instanceMethod yX0_crossesLeaves, Cond.selects RX0 yX0_crossesLeaves yX0_crossesLeaves, Cond.code yX0_crossesLeaves cX0_crossesLeaves 1 (some .boolean)]
def wsX5_sendAll_r2 : List Cond := [Cond.methodLink RX0 51 yX0_sourceLeaf, Cond.instanceMethod yX0_sourceLeaf, Cond.selects RX0 yX0_sourceLeaf yX0_sourceLeaf, Cond.code yX0_sourceLeaf cX0_sourceLeaf 1 (some .int), Cond.fieldLink RX0 9 "Fabricsim$Flow" "source" "I", Cond.methodLink RX0 55 yX0_targetLeaf, Cond.instanceMethod yX0_targetLeaf, Cond.selects RX0 yX0_targetLeaf yX0_targetLeaf, Cond.code yX0_targetLeaf cX0_targetLeaf 1 (some .int), Cond.fieldLink RX0 15 "Fabricsim$Flow" "target" "I", Cond.methodLink RX5 193 yX5_usableSpines, Cond.instanceMethod yX5_usableSpines, Cond.selects RX5 yX5_usableSpines yX5_usableSpines, Cond.code yX5_usableSpines cX5_usableSpines 3 (some .int), Cond.fieldLink RX5 42 "Fabricsim" "uncut" "[I", Cond.methodLink RX5 310 yX5_send, Cond.instanceMethod yX5_send, Cond.selects RX5 yX5_send yX5_send, Cond.code yX5_send cX5_send 4 none, Cond.methodLink RX5 321 yX5_needsFlowlet, Cond.instanceMethod yX5_needsFlowlet, Cond.selects RX5 yX5_needsFlowlet yX5_needsFlowlet, Cond.code yX5_needsFlowlet cX5_needsFlowlet 2 (some .boolean), Cond.fieldLink RX5 87 "Fabricsim" "gap" "I"]
def wsX5_sendAll_r3 : List Cond := [Cond.methodLink RX5 286 yX5_isUsable, Cond.instanceMethod yX5_isUsable, Cond.selects RX5 yX5_isUsable yX5_isUsable, Cond.code yX5_isUsable cX5_isUsable 4 (some .boolean), Cond.methodLink RX5 292 yX5_chosenSpine, Cond.instanceMethod yX5_chosenSpine, Cond.selects RX5 yX5_chosenSpine yX5_chosenSpine, Cond.code yX5_chosenSpine cX5_chosenSpine 8 (some .int), Cond.methodLink RX5 143 yJ6_bitCount_0f7a4, Cond.static yJ6_bitCount_0f7a4, Cond.initialized RJ6, Cond.code yJ6_bitCount_0f7a4 cJ6_bitCount_0f7a4 1 (some .int), Cond.constant RJ6 265 (1431655765), Cond.constant RJ6 266 (858993459), Cond.constant RJ6 267 (252645135), Cond.instanceMethod yX2_put, Cond.initialized RX2, Cond.selects RX2 yX2_put yX2_put, Cond.code yX2_put cX2_put 5 none, Cond.fieldLink RX2 29 "Fabricsim$Link" "credits" "I", Cond.fieldLink RX2 11 "Fabricsim$Link" "ring" "[LFabricsim$Packet;", Cond.fieldLink RX2 22 "Fabricsim$Link" "first" "I", Cond.fieldLink RX2 26 "Fabricsim$Link" "waiting" "I", Cond.instanceMethod yX4_write]
def wsX5_sendAll_r4 : List Cond := [Cond.initialized RX4, Cond.selects RX4 yX4_write yX4_write, Cond.code yX4_write cX4_write 5 none, Cond.fieldLink RX4 7 "Fabricsim$Packet" "flow" "I", Cond.fieldLink RX4 13 "Fabricsim$Packet" "number" "I", Cond.fieldLink RX4 16 "Fabricsim$Packet" "flowlet" "I", Cond.fieldLink RX4 19 "Fabricsim$Packet" "spine" "I"]
def wsX5_sendAll : List Cond := .code yX5_sendAll cX5_sendAll 4 none :: ((wsX5_sendAll_r1 ++ (wsX5_sendAll_r2 ++ (wsX5_sendAll_r3 ++ wsX5_sendAll_r4))) ++ wsX50 ++ wsX10 ++ wsX20 ++ wsX00 ++ wsX40)
def wsX5_runTick_r1 : List Cond := [Cond.fieldLink RX5 96 "Fabricsim" "nextTick" "I", Cond.fieldLink RX5 83 "Fabricsim" "delay" "I", Cond.methodLink RX5 233 yX5_takeCreditsBack, Cond.instanceMethod yX5_takeCreditsBack, Cond.selects RX5 yX5_takeCreditsBack yX5_takeCreditsBack, Cond.initialized RX5, Cond.code yX5_takeCreditsBack cX5_takeCreditsBack 3 none, Cond.fieldLink RX5 23 "Fabricsim" "links" "[LFabricsim$Link;", Cond.instanceMethod yX2_takeBack, Cond.initialized RX2, Cond.selects RX2 yX2_takeBack yX2_takeBack, Cond.code yX2_takeBack cX2_takeBack 2 none, Cond.fieldLink RX2 29 "Fabricsim$Link" "credits" "I", Cond.fieldLink RX2 17 "Fabricsim$Link" "backInSlot" "[I", Cond.methodLink RX5 236 yX5_deliverAll, Cond.instanceMethod yX5_deliverAll, Cond.selects RX5 yX5_deliverAll yX5_deliverAll, Cond.code yX5_deliverAll cX5_deliverAll 6 (some .int), Cond.fieldLink RX5 17 "Fabricsim" "hosts" "[LFabricsim$Host;", Cond.fieldLink RX5 11 "Fabricsim" "flowRows" "[LFabricsim$Flow;", Cond.instanceMethod yX2_firstPacket, Cond.selects RX2 yX2_firstPacket yX2_firstPacket, Cond.code yX2_firstPacket cX2_firstPacket 1 (some (.object "Fabricsim$Packet")), Cond.fieldLink RX2 11 "Fabricsim$Link" "ring" "[LFabricsim$Packet;"]
def wsX5_runTick_r2 : List Cond := [Cond.fieldLink RX2 22 "Fabricsim$Link" "first" "I", Cond.instanceMethod yX0_countDelivered, Cond.initialized RX0, Cond.selects RX0 yX0_countDelivered yX0_countDelivered, Cond.code yX0_countDelivered cX0_countDelivered 3 none, Cond.fieldLink RX0 27 "Fabricsim$Flow" "deliveredPackets" "I", Cond.fieldLink RX0 36 "Fabricsim$Flow" "greatestDelivered" "I", Cond.fieldLink RX0 33 "Fabricsim$Flow" "latePackets" "I", Cond.fieldLink RX0 18 "Fabricsim$Flow" "packets" "I", Cond.fieldLink RX0 39 "Fabricsim$Flow" "doneTick" "I", Cond.instanceMethod yX2_drop, Cond.selects RX2 yX2_drop yX2_drop, Cond.code yX2_drop cX2_drop 2 none, Cond.fieldLink RX2 26 "Fabricsim$Link" "waiting" "I", Cond.methodLink RX5 239 yX5_loseAtSpines, Cond.instanceMethod yX5_loseAtSpines, Cond.selects RX5 yX5_loseAtSpines yX5_loseAtSpines, Cond.code yX5_loseAtSpines cX5_loseAtSpines 6 none, Cond.methodLink RX5 80 yX5_northOf, Cond.instanceMethod yX5_northOf, Cond.selects RX5 yX5_northOf yX5_northOf, Cond.code yX5_northOf cX5_northOf 3 (some (.object "Fabricsim$Link")), Cond.fieldLink RX5 27 "Fabricsim" "norths" "[LFabricsim$Link;", Cond.instanceMethod yX0_targetLeaf]
def wsX5_runTick_r3 : List Cond := [Cond.selects RX0 yX0_targetLeaf yX0_targetLeaf, Cond.code yX0_targetLeaf cX0_targetLeaf 1 (some .int), Cond.fieldLink RX0 15 "Fabricsim$Flow" "target" "I", Cond.methodLink RX5 132 yX5_isCut, Cond.instanceMethod yX5_isCut, Cond.selects RX5 yX5_isCut yX5_isCut, Cond.code yX5_isCut cX5_isCut 3 (some .boolean), Cond.fieldLink RX5 42 "Fabricsim" "uncut" "[I", Cond.methodLink RX5 242 yX5_aimAtLeaves, Cond.instanceMethod yX5_aimAtLeaves, Cond.selects RX5 yX5_aimAtLeaves yX5_aimAtLeaves, Cond.code yX5_aimAtLeaves cX5_aimAtLeaves 4 none, Cond.fieldLink RX5 35 "Fabricsim" "leaves" "[LFabricsim$Node;", Cond.methodLink RX5 281 yX5_wantedAtLeaf, Cond.instanceMethod yX5_wantedAtLeaf, Cond.selects RX5 yX5_wantedAtLeaf yX5_wantedAtLeaf, Cond.code yX5_wantedAtLeaf cX5_wantedAtLeaf 6 (some .int), Cond.methodLink RX5 286 yX5_isUsable, Cond.instanceMethod yX5_isUsable, Cond.selects RX5 yX5_isUsable yX5_isUsable, Cond.code yX5_isUsable cX5_isUsable 4 (some .boolean), Cond.methodLink RX5 193 yX5_usableSpines, Cond.instanceMethod yX5_usableSpines, Cond.selects RX5 yX5_usableSpines yX5_usableSpines]
def wsX5_runTick_r4 : List Cond := [Cond.code yX5_usableSpines cX5_usableSpines 3 (some .int), Cond.methodLink RX5 292 yX5_chosenSpine, Cond.instanceMethod yX5_chosenSpine, Cond.selects RX5 yX5_chosenSpine yX5_chosenSpine, Cond.code yX5_chosenSpine cX5_chosenSpine 8 (some .int), Cond.instanceMethod yX0_sourceLeaf, Cond.selects RX0 yX0_sourceLeaf yX0_sourceLeaf, Cond.code yX0_sourceLeaf cX0_sourceLeaf 1 (some .int), Cond.fieldLink RX0 9 "Fabricsim$Flow" "source" "I", Cond.methodLink RX5 143 yJ6_bitCount_0f7a4, Cond.static yJ6_bitCount_0f7a4, Cond.initialized RJ6, Cond.code yJ6_bitCount_0f7a4 cJ6_bitCount_0f7a4 1 (some .int), Cond.constant RJ6 265 (1431655765), Cond.constant RJ6 266 (858993459), Cond.constant RJ6 267 (252645135), Cond.methodLink RX5 245 yX5_aimAtSpines, Cond.instanceMethod yX5_aimAtSpines, Cond.selects RX5 yX5_aimAtSpines yX5_aimAtSpines, Cond.code yX5_aimAtSpines cX5_aimAtSpines 4 none, Cond.fieldLink RX5 39 "Fabricsim" "spines" "[LFabricsim$Node;", Cond.methodLink RX5 295 yX5_wantedAtSpine, Cond.instanceMethod yX5_wantedAtSpine, Cond.selects RX5 yX5_wantedAtSpine yX5_wantedAtSpine]
def wsX5_runTick_r5 : List Cond := [Cond.code yX5_wantedAtSpine cX5_wantedAtSpine 4 (some .int), Cond.methodLink RX5 248 yX5_pickAll, Cond.instanceMethod yX5_pickAll, Cond.selects RX5 yX5_pickAll yX5_pickAll, Cond.code yX5_pickAll cX5_pickAll 2 none, Cond.instanceMethod yX3_pick, Cond.initialized RX3, Cond.selects RX3 yX3_pick yX3_pick, Cond.code yX3_pick cX3_pick 2 none, Cond.fieldLink RX3 17 "Fabricsim$Node" "out" "[LFabricsim$Link;", Cond.fieldLink RX3 20 "Fabricsim$Node" "wanted" "[I", Cond.instanceMethod yX2_pick, Cond.selects RX2 yX2_pick yX2_pick, Cond.code yX2_pick cX2_pick 5 none, Cond.fieldLink RX2 35 "Fabricsim$Link" "pickedPlace" "I", Cond.fieldLink RX2 32 "Fabricsim$Link" "lastPlace" "I", Cond.methodLink RX5 251 yX5_moveAll, Cond.instanceMethod yX5_moveAll, Cond.selects RX5 yX5_moveAll yX5_moveAll, Cond.code yX5_moveAll cX5_moveAll 3 none, Cond.instanceMethod yX3_move, Cond.selects RX3 yX3_move yX3_move, Cond.code yX3_move cX3_move 5 none, Cond.fieldLink RX3 11 "Fabricsim$Node" "in" "[LFabricsim$Link;"]
def wsX5_runTick_r6 : List Cond := [Cond.instanceMethod yX2_put, Cond.selects RX2 yX2_put yX2_put, Cond.code yX2_put cX2_put 5 none, Cond.instanceMethod yX4_write, Cond.initialized RX4, Cond.selects RX4 yX4_write yX4_write, Cond.code yX4_write cX4_write 5 none, Cond.fieldLink RX4 7 "Fabricsim$Packet" "flow" "I", Cond.fieldLink RX4 13 "Fabricsim$Packet" "number" "I", Cond.fieldLink RX4 16 "Fabricsim$Packet" "flowlet" "I", Cond.fieldLink RX4 19 "Fabricsim$Packet" "spine" "I", Cond.methodLink RX5 254 yX5_sendAll, Cond.instanceMethod yX5_sendAll, Cond.selects RX5 yX5_sendAll yX5_sendAll, Cond.code yX5_sendAll cX5_sendAll 4 none, Cond.methodLink RX5 307 yX5_pickedFlow, Cond.instanceMethod yX5_pickedFlow, Cond.selects RX5 yX5_pickedFlow yX5_pickedFlow, Cond.code yX5_pickedFlow cX5_pickedFlow 5 (some .int), Cond.fieldLink RX5 93 "Fabricsim" "flowCount" "I", Cond.methodLink RX5 314 yX5_canSend, Cond.instanceMethod yX5_canSend, Cond.selects RX5 yX5_canSend yX5_canSend, Cond.code yX5_canSend cX5_canSend 2 (some .boolean)]
def wsX5_runTick_r7 : List Cond := [Cond.fieldLink RX5 90 "Fabricsim" "window" "I", Cond.instanceMethod yX0_unsent, Cond.selects RX0 yX0_unsent yX0_unsent, Cond.code yX0_unsent cX0_unsent 1 (some .int), Cond.fieldLink RX0 24 "Fabricsim$Flow" "sentPackets" "I", Cond.fieldLink RX0 30 "Fabricsim$Flow" "lostPackets" "I", Cond.instanceMethod yX0_crossesLeaves, Cond.selects RX0 yX0_crossesLeaves yX0_crossesLeaves, Cond.code yX0_crossesLeaves cX0_crossesLeaves 1 (some .boolean), Cond.methodLink RX0 51 yX0_sourceLeaf, Cond.methodLink RX0 55 yX0_targetLeaf, Cond.methodLink RX5 310 yX5_send, Cond.instanceMethod yX5_send, Cond.selects RX5 yX5_send yX5_send, Cond.code yX5_send cX5_send 4 none, Cond.methodLink RX5 321 yX5_needsFlowlet, Cond.instanceMethod yX5_needsFlowlet, Cond.selects RX5 yX5_needsFlowlet yX5_needsFlowlet, Cond.code yX5_needsFlowlet cX5_needsFlowlet 2 (some .boolean), Cond.fieldLink RX5 87 "Fabricsim" "gap" "I"]
def wsX5_runTick : List Cond := .code yX5_runTick cX5_runTick 3 (some .int) :: ((wsX5_runTick_r1 ++ (wsX5_runTick_r2 ++ (wsX5_runTick_r3 ++ (wsX5_runTick_r4 ++ (wsX5_runTick_r5 ++ (wsX5_runTick_r6 ++ wsX5_runTick_r7)))))) ++ wsX50 ++ wsX20 ++ wsX10 ++ wsX40 ++ wsX00 ++ wsX30)
def wsX5_pass_r1 : List Cond := [Cond.classLink RX5 107 "java/lang/IllegalArgumentException", Cond.initialized "java/lang/IllegalArgumentException", Cond.classLink RX5 121 "java/lang/IllegalStateException", Cond.initialized "java/lang/IllegalStateException", Cond.fieldLink RX5 96 "Fabricsim" "nextTick" "I", Cond.constant RX5 151 (100000), Cond.methodLink RX5 103 yX5_isOutside, Cond.static yX5_isOutside, Cond.initialized RX5, Cond.code yX5_isOutside cX5_isOutside 3 (some .boolean), Cond.methodLink RX5 154 yX5_runTick, Cond.instanceMethod yX5_runTick, Cond.selects RX5 yX5_runTick yX5_runTick, Cond.code yX5_runTick cX5_runTick 3 (some .int), Cond.fieldLink RX5 83 "Fabricsim" "delay" "I", Cond.methodLink RX5 233 yX5_takeCreditsBack, Cond.instanceMethod yX5_takeCreditsBack, Cond.selects RX5 yX5_takeCreditsBack yX5_takeCreditsBack, Cond.code yX5_takeCreditsBack cX5_takeCreditsBack 3 none, Cond.fieldLink RX5 23 "Fabricsim" "links" "[LFabricsim$Link;", Cond.instanceMethod yX2_takeBack, Cond.initialized RX2, Cond.selects RX2 yX2_takeBack yX2_takeBack, Cond.code yX2_takeBack cX2_takeBack 2 none]
def wsX5_pass_r2 : List Cond := [Cond.fieldLink RX2 29 "Fabricsim$Link" "credits" "I", Cond.fieldLink RX2 17 "Fabricsim$Link" "backInSlot" "[I", Cond.methodLink RX5 236 yX5_deliverAll, Cond.instanceMethod yX5_deliverAll, Cond.selects RX5 yX5_deliverAll yX5_deliverAll, Cond.code yX5_deliverAll cX5_deliverAll 6 (some .int), Cond.fieldLink RX5 17 "Fabricsim" "hosts" "[LFabricsim$Host;", Cond.fieldLink RX5 11 "Fabricsim" "flowRows" "[LFabricsim$Flow;", Cond.instanceMethod yX2_firstPacket, Cond.selects RX2 yX2_firstPacket yX2_firstPacket, Cond.code yX2_firstPacket cX2_firstPacket 1 (some (.object "Fabricsim$Packet")), Cond.fieldLink RX2 11 "Fabricsim$Link" "ring" "[LFabricsim$Packet;", Cond.fieldLink RX2 22 "Fabricsim$Link" "first" "I", Cond.instanceMethod yX0_countDelivered, Cond.initialized RX0, Cond.selects RX0 yX0_countDelivered yX0_countDelivered, Cond.code yX0_countDelivered cX0_countDelivered 3 none, Cond.fieldLink RX0 27 "Fabricsim$Flow" "deliveredPackets" "I", Cond.fieldLink RX0 36 "Fabricsim$Flow" "greatestDelivered" "I", Cond.fieldLink RX0 33 "Fabricsim$Flow" "latePackets" "I", Cond.fieldLink RX0 18 "Fabricsim$Flow" "packets" "I", Cond.fieldLink RX0 39 "Fabricsim$Flow" "doneTick" "I", Cond.instanceMethod yX2_drop, Cond.selects RX2 yX2_drop yX2_drop]
def wsX5_pass_r3 : List Cond := [Cond.code yX2_drop cX2_drop 2 none, Cond.fieldLink RX2 26 "Fabricsim$Link" "waiting" "I", Cond.methodLink RX5 239 yX5_loseAtSpines, Cond.instanceMethod yX5_loseAtSpines, Cond.selects RX5 yX5_loseAtSpines yX5_loseAtSpines, Cond.code yX5_loseAtSpines cX5_loseAtSpines 6 none, Cond.methodLink RX5 80 yX5_northOf, Cond.instanceMethod yX5_northOf, Cond.selects RX5 yX5_northOf yX5_northOf, Cond.code yX5_northOf cX5_northOf 3 (some (.object "Fabricsim$Link")), Cond.fieldLink RX5 27 "Fabricsim" "norths" "[LFabricsim$Link;", Cond.instanceMethod yX0_targetLeaf, Cond.selects RX0 yX0_targetLeaf yX0_targetLeaf, Cond.code yX0_targetLeaf cX0_targetLeaf 1 (some .int), Cond.fieldLink RX0 15 "Fabricsim$Flow" "target" "I", Cond.methodLink RX5 132 yX5_isCut, Cond.instanceMethod yX5_isCut, Cond.selects RX5 yX5_isCut yX5_isCut, Cond.code yX5_isCut cX5_isCut 3 (some .boolean), Cond.fieldLink RX5 42 "Fabricsim" "uncut" "[I", Cond.methodLink RX5 242 yX5_aimAtLeaves, Cond.instanceMethod yX5_aimAtLeaves, Cond.selects RX5 yX5_aimAtLeaves yX5_aimAtLeaves, Cond.code yX5_aimAtLeaves cX5_aimAtLeaves 4 none]
def wsX5_pass_r4 : List Cond := [Cond.fieldLink RX5 35 "Fabricsim" "leaves" "[LFabricsim$Node;", Cond.methodLink RX5 281 yX5_wantedAtLeaf, Cond.instanceMethod yX5_wantedAtLeaf, Cond.selects RX5 yX5_wantedAtLeaf yX5_wantedAtLeaf, Cond.code yX5_wantedAtLeaf cX5_wantedAtLeaf 6 (some .int), Cond.methodLink RX5 286 yX5_isUsable, Cond.instanceMethod yX5_isUsable, Cond.selects RX5 yX5_isUsable yX5_isUsable, Cond.code yX5_isUsable cX5_isUsable 4 (some .boolean), Cond.methodLink RX5 193 yX5_usableSpines, Cond.instanceMethod yX5_usableSpines, Cond.selects RX5 yX5_usableSpines yX5_usableSpines, Cond.code yX5_usableSpines cX5_usableSpines 3 (some .int), Cond.methodLink RX5 292 yX5_chosenSpine, Cond.instanceMethod yX5_chosenSpine, Cond.selects RX5 yX5_chosenSpine yX5_chosenSpine, Cond.code yX5_chosenSpine cX5_chosenSpine 8 (some .int), Cond.instanceMethod yX0_sourceLeaf, Cond.selects RX0 yX0_sourceLeaf yX0_sourceLeaf, Cond.code yX0_sourceLeaf cX0_sourceLeaf 1 (some .int), Cond.fieldLink RX0 9 "Fabricsim$Flow" "source" "I", Cond.methodLink RX5 143 yJ6_bitCount_0f7a4, Cond.static yJ6_bitCount_0f7a4, Cond.initialized RJ6]
def wsX5_pass_r5 : List Cond := [Cond.code yJ6_bitCount_0f7a4 cJ6_bitCount_0f7a4 1 (some .int), Cond.constant RJ6 265 (1431655765), Cond.constant RJ6 266 (858993459), Cond.constant RJ6 267 (252645135), Cond.methodLink RX5 245 yX5_aimAtSpines, Cond.instanceMethod yX5_aimAtSpines, Cond.selects RX5 yX5_aimAtSpines yX5_aimAtSpines, Cond.code yX5_aimAtSpines cX5_aimAtSpines 4 none, Cond.fieldLink RX5 39 "Fabricsim" "spines" "[LFabricsim$Node;", Cond.methodLink RX5 295 yX5_wantedAtSpine, Cond.instanceMethod yX5_wantedAtSpine, Cond.selects RX5 yX5_wantedAtSpine yX5_wantedAtSpine, Cond.code yX5_wantedAtSpine cX5_wantedAtSpine 4 (some .int), Cond.methodLink RX5 248 yX5_pickAll, Cond.instanceMethod yX5_pickAll, Cond.selects RX5 yX5_pickAll yX5_pickAll, Cond.code yX5_pickAll cX5_pickAll 2 none, Cond.instanceMethod yX3_pick, Cond.initialized RX3, Cond.selects RX3 yX3_pick yX3_pick, Cond.code yX3_pick cX3_pick 2 none, Cond.fieldLink RX3 17 "Fabricsim$Node" "out" "[LFabricsim$Link;", Cond.fieldLink RX3 20 "Fabricsim$Node" "wanted" "[I", Cond.instanceMethod yX2_pick]
def wsX5_pass_r6 : List Cond := [Cond.selects RX2 yX2_pick yX2_pick, Cond.code yX2_pick cX2_pick 5 none, Cond.fieldLink RX2 35 "Fabricsim$Link" "pickedPlace" "I", Cond.fieldLink RX2 32 "Fabricsim$Link" "lastPlace" "I", Cond.methodLink RX5 251 yX5_moveAll, Cond.instanceMethod yX5_moveAll, Cond.selects RX5 yX5_moveAll yX5_moveAll, Cond.code yX5_moveAll cX5_moveAll 3 none, Cond.instanceMethod yX3_move, Cond.selects RX3 yX3_move yX3_move, Cond.code yX3_move cX3_move 5 none, Cond.fieldLink RX3 11 "Fabricsim$Node" "in" "[LFabricsim$Link;", Cond.instanceMethod yX2_put, Cond.selects RX2 yX2_put yX2_put, Cond.code yX2_put cX2_put 5 none, Cond.instanceMethod yX4_write, Cond.initialized RX4, Cond.selects RX4 yX4_write yX4_write, Cond.code yX4_write cX4_write 5 none, Cond.fieldLink RX4 7 "Fabricsim$Packet" "flow" "I", Cond.fieldLink RX4 13 "Fabricsim$Packet" "number" "I", Cond.fieldLink RX4 16 "Fabricsim$Packet" "flowlet" "I", Cond.fieldLink RX4 19 "Fabricsim$Packet" "spine" "I", Cond.methodLink RX5 254 yX5_sendAll]
def wsX5_pass_r7 : List Cond := [Cond.instanceMethod yX5_sendAll, Cond.selects RX5 yX5_sendAll yX5_sendAll, Cond.code yX5_sendAll cX5_sendAll 4 none, Cond.methodLink RX5 307 yX5_pickedFlow, Cond.instanceMethod yX5_pickedFlow, Cond.selects RX5 yX5_pickedFlow yX5_pickedFlow, Cond.code yX5_pickedFlow cX5_pickedFlow 5 (some .int), Cond.fieldLink RX5 93 "Fabricsim" "flowCount" "I", Cond.methodLink RX5 314 yX5_canSend, Cond.instanceMethod yX5_canSend, Cond.selects RX5 yX5_canSend yX5_canSend, Cond.code yX5_canSend cX5_canSend 2 (some .boolean), Cond.fieldLink RX5 90 "Fabricsim" "window" "I", Cond.instanceMethod yX0_unsent, Cond.selects RX0 yX0_unsent yX0_unsent, Cond.code yX0_unsent cX0_unsent 1 (some .int), Cond.fieldLink RX0 24 "Fabricsim$Flow" "sentPackets" "I", Cond.fieldLink RX0 30 "Fabricsim$Flow" "lostPackets" "I", Cond.instanceMethod yX0_crossesLeaves, Cond.selects RX0 yX0_crossesLeaves yX0_crossesLeaves, Cond.code yX0_crossesLeaves cX0_crossesLeaves 1 (some .boolean), Cond.methodLink RX0 51 yX0_sourceLeaf, Cond.methodLink RX0 55 yX0_targetLeaf, Cond.methodLink RX5 310 yX5_send]
def wsX5_pass_r8 : List Cond := [Cond.instanceMethod yX5_send, Cond.selects RX5 yX5_send yX5_send, Cond.code yX5_send cX5_send 4 none, Cond.methodLink RX5 321 yX5_needsFlowlet, Cond.instanceMethod yX5_needsFlowlet, Cond.selects RX5 yX5_needsFlowlet yX5_needsFlowlet, Cond.code yX5_needsFlowlet cX5_needsFlowlet 2 (some .boolean), Cond.fieldLink RX5 87 "Fabricsim" "gap" "I"]
def wsX5_pass : List Cond := .code yX5_pass cX5_pass 4 (some .int) :: ((wsX5_pass_r1 ++ (wsX5_pass_r2 ++ (wsX5_pass_r3 ++ (wsX5_pass_r4 ++ (wsX5_pass_r5 ++ (wsX5_pass_r6 ++ (wsX5_pass_r7 ++ wsX5_pass_r8))))))) ++ wsX50 ++ wsX20 ++ wsX10 ++ wsX40 ++ wsX00 ++ wsX30 ++ (vx_atS RX5 111 "java/lang/IllegalArgumentException" ["java/lang/RuntimeException", "java/lang/Exception"]).filter goodWord ++ (vx_atS RX5 125 "java/lang/IllegalStateException" ["java/lang/RuntimeException", "java/lang/Exception"]).filter goodWord)
def wsX5_clock : List Cond := .code yX5_clock cX5_clock 1 (some .int) :: ([.fieldLink RX5 96 "Fabricsim" "nextTick" "I"] ++ wsX50)
def wsX5_flows : List Cond := .code yX5_flows cX5_flows 1 (some .int) :: ([.fieldLink RX5 93 "Fabricsim" "flowCount" "I"] ++ wsX50)
def wsX5_checkFlow : List Cond := .code yX5_checkFlow cX5_checkFlow 2 none :: ([.classLink RX5 334 "java/lang/IndexOutOfBoundsException", .initialized "java/lang/IndexOutOfBoundsException", .fieldLink RX5 93 "Fabricsim" "flowCount" "I", .methodLink RX5 103 yX5_isOutside, .static yX5_isOutside, .initialized RX5, .code yX5_isOutside cX5_isOutside 3 (some .boolean)] ++ wsX50 ++ (vx_atS RX5 338 "java/lang/IndexOutOfBoundsException" ["java/lang/RuntimeException", "java/lang/Exception"]).filter goodWord)
def wsX5_sent : List Cond := .code yX5_sent cX5_sent 2 (some .int) :: ([.fieldLink RX5 11 "Fabricsim" "flowRows" "[LFabricsim$Flow;", .methodLink RX5 158 yX5_checkFlow, .instanceMethod yX5_checkFlow, .selects RX5 yX5_checkFlow yX5_checkFlow, .initialized RX5, .code yX5_checkFlow cX5_checkFlow 2 none, .classLink RX5 334 "java/lang/IndexOutOfBoundsException", .initialized "java/lang/IndexOutOfBoundsException", .fieldLink RX5 93 "Fabricsim" "flowCount" "I", .methodLink RX5 103 yX5_isOutside, .static yX5_isOutside, .code yX5_isOutside cX5_isOutside 3 (some .boolean)] ++ wsX50 ++ wsX00 ++ (vx_atS RX5 338 "java/lang/IndexOutOfBoundsException" ["java/lang/RuntimeException", "java/lang/Exception"]).filter goodWord)
def wsX5_delivered : List Cond := .code yX5_delivered cX5_delivered 2 (some .int) :: ([.fieldLink RX5 11 "Fabricsim" "flowRows" "[LFabricsim$Flow;", .methodLink RX5 158 yX5_checkFlow, .instanceMethod yX5_checkFlow, .selects RX5 yX5_checkFlow yX5_checkFlow, .initialized RX5, .code yX5_checkFlow cX5_checkFlow 2 none, .classLink RX5 334 "java/lang/IndexOutOfBoundsException", .initialized "java/lang/IndexOutOfBoundsException", .fieldLink RX5 93 "Fabricsim" "flowCount" "I", .methodLink RX5 103 yX5_isOutside, .static yX5_isOutside, .code yX5_isOutside cX5_isOutside 3 (some .boolean)] ++ wsX50 ++ wsX00 ++ (vx_atS RX5 338 "java/lang/IndexOutOfBoundsException" ["java/lang/RuntimeException", "java/lang/Exception"]).filter goodWord)
def wsX5_lost : List Cond := .code yX5_lost cX5_lost 2 (some .int) :: ([.fieldLink RX5 11 "Fabricsim" "flowRows" "[LFabricsim$Flow;", .methodLink RX5 158 yX5_checkFlow, .instanceMethod yX5_checkFlow, .selects RX5 yX5_checkFlow yX5_checkFlow, .initialized RX5, .code yX5_checkFlow cX5_checkFlow 2 none, .classLink RX5 334 "java/lang/IndexOutOfBoundsException", .initialized "java/lang/IndexOutOfBoundsException", .fieldLink RX5 93 "Fabricsim" "flowCount" "I", .methodLink RX5 103 yX5_isOutside, .static yX5_isOutside, .code yX5_isOutside cX5_isOutside 3 (some .boolean)] ++ wsX50 ++ wsX00 ++ (vx_atS RX5 338 "java/lang/IndexOutOfBoundsException" ["java/lang/RuntimeException", "java/lang/Exception"]).filter goodWord)
def wsX5_outOfOrder : List Cond := .code yX5_outOfOrder cX5_outOfOrder 2 (some .int) :: ([.fieldLink RX5 11 "Fabricsim" "flowRows" "[LFabricsim$Flow;", .methodLink RX5 158 yX5_checkFlow, .instanceMethod yX5_checkFlow, .selects RX5 yX5_checkFlow yX5_checkFlow, .initialized RX5, .code yX5_checkFlow cX5_checkFlow 2 none, .classLink RX5 334 "java/lang/IndexOutOfBoundsException", .initialized "java/lang/IndexOutOfBoundsException", .fieldLink RX5 93 "Fabricsim" "flowCount" "I", .methodLink RX5 103 yX5_isOutside, .static yX5_isOutside, .code yX5_isOutside cX5_isOutside 3 (some .boolean)] ++ wsX50 ++ wsX00 ++ (vx_atS RX5 338 "java/lang/IndexOutOfBoundsException" ["java/lang/RuntimeException", "java/lang/Exception"]).filter goodWord)
def wsX5_doneIn : List Cond := .code yX5_doneIn cX5_doneIn 2 (some .int) :: ([.fieldLink RX5 11 "Fabricsim" "flowRows" "[LFabricsim$Flow;", .methodLink RX5 158 yX5_checkFlow, .instanceMethod yX5_checkFlow, .selects RX5 yX5_checkFlow yX5_checkFlow, .initialized RX5, .code yX5_checkFlow cX5_checkFlow 2 none, .classLink RX5 334 "java/lang/IndexOutOfBoundsException", .initialized "java/lang/IndexOutOfBoundsException", .fieldLink RX5 93 "Fabricsim" "flowCount" "I", .methodLink RX5 103 yX5_isOutside, .static yX5_isOutside, .code yX5_isOutside cX5_isOutside 3 (some .boolean)] ++ wsX50 ++ wsX00 ++ (vx_atS RX5 338 "java/lang/IndexOutOfBoundsException" ["java/lang/RuntimeException", "java/lang/Exception"]).filter goodWord)
def wsX5_flowlets : List Cond := .code yX5_flowlets cX5_flowlets 2 (some .int) :: ([.fieldLink RX5 11 "Fabricsim" "flowRows" "[LFabricsim$Flow;", .methodLink RX5 158 yX5_checkFlow, .instanceMethod yX5_checkFlow, .selects RX5 yX5_checkFlow yX5_checkFlow, .initialized RX5, .code yX5_checkFlow cX5_checkFlow 2 none, .classLink RX5 334 "java/lang/IndexOutOfBoundsException", .initialized "java/lang/IndexOutOfBoundsException", .fieldLink RX5 93 "Fabricsim" "flowCount" "I", .methodLink RX5 103 yX5_isOutside, .static yX5_isOutside, .code yX5_isOutside cX5_isOutside 3 (some .boolean)] ++ wsX50 ++ wsX00 ++ (vx_atS RX5 338 "java/lang/IndexOutOfBoundsException" ["java/lang/RuntimeException", "java/lang/Exception"]).filter goodWord)
def wsX5_spineOf : List Cond := .code yX5_spineOf cX5_spineOf 2 (some .int) :: ([.fieldLink RX5 11 "Fabricsim" "flowRows" "[LFabricsim$Flow;", .methodLink RX5 158 yX5_checkFlow, .instanceMethod yX5_checkFlow, .selects RX5 yX5_checkFlow yX5_checkFlow, .initialized RX5, .code yX5_checkFlow cX5_checkFlow 2 none, .classLink RX5 334 "java/lang/IndexOutOfBoundsException", .initialized "java/lang/IndexOutOfBoundsException", .fieldLink RX5 93 "Fabricsim" "flowCount" "I", .methodLink RX5 103 yX5_isOutside, .static yX5_isOutside, .code yX5_isOutside cX5_isOutside 3 (some .boolean)] ++ wsX50 ++ wsX00 ++ (vx_atS RX5 338 "java/lang/IndexOutOfBoundsException" ["java/lang/RuntimeException", "java/lang/Exception"]).filter goodWord)
def wsX5_upQueue : List Cond := .code yX5_upQueue cX5_upQueue 2 (some .int) :: ([.fieldLink RX5 17 "Fabricsim" "hosts" "[LFabricsim$Host;", .methodLink RX5 114 yX5_checkHost, .static yX5_checkHost, .initialized RX5, .code yX5_checkHost cX5_checkHost 1 none, .classLink RX5 107 "java/lang/IllegalArgumentException", .initialized "java/lang/IllegalArgumentException", .methodLink RX5 103 yX5_isOutside, .static yX5_isOutside, .code yX5_isOutside cX5_isOutside 3 (some .boolean)] ++ wsX50 ++ wsX10 ++ wsX20 ++ (vx_atS RX5 111 "java/lang/IllegalArgumentException" ["java/lang/RuntimeException", "java/lang/Exception"]).filter goodWord)
def wsX5_downQueue : List Cond := .code yX5_downQueue cX5_downQueue 2 (some .int) :: ([.fieldLink RX5 17 "Fabricsim" "hosts" "[LFabricsim$Host;", .methodLink RX5 114 yX5_checkHost, .static yX5_checkHost, .initialized RX5, .code yX5_checkHost cX5_checkHost 1 none, .classLink RX5 107 "java/lang/IllegalArgumentException", .initialized "java/lang/IllegalArgumentException", .methodLink RX5 103 yX5_isOutside, .static yX5_isOutside, .code yX5_isOutside cX5_isOutside 3 (some .boolean)] ++ wsX50 ++ wsX10 ++ wsX20 ++ (vx_atS RX5 111 "java/lang/IllegalArgumentException" ["java/lang/RuntimeException", "java/lang/Exception"]).filter goodWord)
def wsX5_northQueue : List Cond := .code yX5_northQueue cX5_northQueue 3 (some .int) :: ([.methodLink RX5 129 yX5_checkConnection, .static yX5_checkConnection, .initialized RX5, .code yX5_checkConnection cX5_checkConnection 2 none, .classLink RX5 107 "java/lang/IllegalArgumentException", .initialized "java/lang/IllegalArgumentException", .methodLink RX5 103 yX5_isOutside, .static yX5_isOutside, .code yX5_isOutside cX5_isOutside 3 (some .boolean), .methodLink RX5 80 yX5_northOf, .instanceMethod yX5_northOf, .selects RX5 yX5_northOf yX5_northOf, .code yX5_northOf cX5_northOf 3 (some (.object "Fabricsim$Link")), .fieldLink RX5 27 "Fabricsim" "norths" "[LFabricsim$Link;"] ++ wsX20 ++ wsX50 ++ (vx_atS RX5 111 "java/lang/IllegalArgumentException" ["java/lang/RuntimeException", "java/lang/Exception"]).filter goodWord)
def wsX5_southQueue : List Cond := .code yX5_southQueue cX5_southQueue 3 (some .int) :: ([.methodLink RX5 129 yX5_checkConnection, .static yX5_checkConnection, .initialized RX5, .code yX5_checkConnection cX5_checkConnection 2 none, .classLink RX5 107 "java/lang/IllegalArgumentException", .initialized "java/lang/IllegalArgumentException", .methodLink RX5 103 yX5_isOutside, .static yX5_isOutside, .code yX5_isOutside cX5_isOutside 3 (some .boolean), .methodLink RX5 76 yX5_southOf, .instanceMethod yX5_southOf, .selects RX5 yX5_southOf yX5_southOf, .code yX5_southOf cX5_southOf 3 (some (.object "Fabricsim$Link")), .fieldLink RX5 30 "Fabricsim" "souths" "[LFabricsim$Link;"] ++ wsX20 ++ wsX50 ++ (vx_atS RX5 111 "java/lang/IllegalArgumentException" ["java/lang/RuntimeException", "java/lang/Exception"]).filter goodWord)
def wsX5_upCredits : List Cond := .code yX5_upCredits cX5_upCredits 2 (some .int) :: ([.fieldLink RX5 17 "Fabricsim" "hosts" "[LFabricsim$Host;", .methodLink RX5 114 yX5_checkHost, .static yX5_checkHost, .initialized RX5, .code yX5_checkHost cX5_checkHost 1 none, .classLink RX5 107 "java/lang/IllegalArgumentException", .initialized "java/lang/IllegalArgumentException", .methodLink RX5 103 yX5_isOutside, .static yX5_isOutside, .code yX5_isOutside cX5_isOutside 3 (some .boolean)] ++ wsX50 ++ wsX10 ++ wsX20 ++ (vx_atS RX5 111 "java/lang/IllegalArgumentException" ["java/lang/RuntimeException", "java/lang/Exception"]).filter goodWord)
def wsX5_northCredits : List Cond := .code yX5_northCredits cX5_northCredits 3 (some .int) :: ([.methodLink RX5 129 yX5_checkConnection, .static yX5_checkConnection, .initialized RX5, .code yX5_checkConnection cX5_checkConnection 2 none, .classLink RX5 107 "java/lang/IllegalArgumentException", .initialized "java/lang/IllegalArgumentException", .methodLink RX5 103 yX5_isOutside, .static yX5_isOutside, .code yX5_isOutside cX5_isOutside 3 (some .boolean), .methodLink RX5 80 yX5_northOf, .instanceMethod yX5_northOf, .selects RX5 yX5_northOf yX5_northOf, .code yX5_northOf cX5_northOf 3 (some (.object "Fabricsim$Link")), .fieldLink RX5 27 "Fabricsim" "norths" "[LFabricsim$Link;"] ++ wsX20 ++ wsX50 ++ (vx_atS RX5 111 "java/lang/IllegalArgumentException" ["java/lang/RuntimeException", "java/lang/Exception"]).filter goodWord)
def wsX5_returning : List Cond := .code yX5_returning cX5_returning 3 (some .int) :: ([.fieldLink RX5 23 "Fabricsim" "links" "[LFabricsim$Link;", .instanceMethod yX2_onTheWayBack, .initialized RX2, .selects RX2 yX2_onTheWayBack yX2_onTheWayBack, .code yX2_onTheWayBack cX2_onTheWayBack 3 (some .int), .fieldLink RX2 17 "Fabricsim$Link" "backInSlot" "[I"] ++ wsX50 ++ wsX20)
def wsX5_queued : List Cond := .code yX5_queued cX5_queued 3 (some .int) :: ([.fieldLink RX5 23 "Fabricsim" "links" "[LFabricsim$Link;"] ++ wsX50 ++ wsX20)
def wsX5_open : List Cond := .code yX5_open cX5_open 2 (some .int) :: ([.fieldLink RX5 17 "Fabricsim" "hosts" "[LFabricsim$Host;", .methodLink RX5 114 yX5_checkHost, .static yX5_checkHost, .initialized RX5, .code yX5_checkHost cX5_checkHost 1 none, .classLink RX5 107 "java/lang/IllegalArgumentException", .initialized "java/lang/IllegalArgumentException", .methodLink RX5 103 yX5_isOutside, .static yX5_isOutside, .code yX5_isOutside cX5_isOutside 3 (some .boolean)] ++ wsX50 ++ wsX10 ++ (vx_atS RX5 111 "java/lang/IllegalArgumentException" ["java/lang/RuntimeException", "java/lang/Exception"]).filter goodWord)
def wsX5_usable : List Cond := .code yX5_usable cX5_usable 3 (some .int) :: ([.classLink RX5 107 "java/lang/IllegalArgumentException", .initialized "java/lang/IllegalArgumentException", .methodLink RX5 103 yX5_isOutside, .static yX5_isOutside, .initialized RX5, .code yX5_isOutside cX5_isOutside 3 (some .boolean), .methodLink RX5 193 yX5_usableSpines, .instanceMethod yX5_usableSpines, .selects RX5 yX5_usableSpines yX5_usableSpines, .code yX5_usableSpines cX5_usableSpines 3 (some .int), .fieldLink RX5 42 "Fabricsim" "uncut" "[I"] ++ wsX50 ++ (vx_atS RX5 111 "java/lang/IllegalArgumentException" ["java/lang/RuntimeException", "java/lang/Exception"]).filter goodWord)
def wsX5_unsentBy : List Cond := .code yX5_unsentBy cX5_unsentBy 4 (some .int) :: ([.fieldLink RX5 93 "Fabricsim" "flowCount" "I", .fieldLink RX5 11 "Fabricsim" "flowRows" "[LFabricsim$Flow;", .instanceMethod yX0_unsent, .initialized RX0, .selects RX0 yX0_unsent yX0_unsent, .code yX0_unsent cX0_unsent 1 (some .int), .fieldLink RX0 18 "Fabricsim$Flow" "packets" "I", .fieldLink RX0 24 "Fabricsim$Flow" "sentPackets" "I", .fieldLink RX0 30 "Fabricsim$Flow" "lostPackets" "I"] ++ wsX50 ++ wsX00)
def wsX5_unsentFor : List Cond := .code yX5_unsentFor cX5_unsentFor 4 (some .int) :: ([.fieldLink RX5 93 "Fabricsim" "flowCount" "I", .fieldLink RX5 11 "Fabricsim" "flowRows" "[LFabricsim$Flow;", .instanceMethod yX0_unsent, .initialized RX0, .selects RX0 yX0_unsent yX0_unsent, .code yX0_unsent cX0_unsent 1 (some .int), .fieldLink RX0 18 "Fabricsim$Flow" "packets" "I", .fieldLink RX0 24 "Fabricsim$Flow" "sentPackets" "I", .fieldLink RX0 30 "Fabricsim$Flow" "lostPackets" "I"] ++ wsX50 ++ wsX00)
def wsX5_unsentOutOf : List Cond := .code yX5_unsentOutOf cX5_unsentOutOf 4 (some .int) :: ([.fieldLink RX5 93 "Fabricsim" "flowCount" "I", .fieldLink RX5 11 "Fabricsim" "flowRows" "[LFabricsim$Flow;", .instanceMethod yX0_crossesLeaves, .initialized RX0, .selects RX0 yX0_crossesLeaves yX0_crossesLeaves, .code yX0_crossesLeaves cX0_crossesLeaves 1 (some .boolean), .methodLink RX0 51 yX0_sourceLeaf, .instanceMethod yX0_sourceLeaf, .selects RX0 yX0_sourceLeaf yX0_sourceLeaf, .code yX0_sourceLeaf cX0_sourceLeaf 1 (some .int), .fieldLink RX0 9 "Fabricsim$Flow" "source" "I", .methodLink RX0 55 yX0_targetLeaf, .instanceMethod yX0_targetLeaf, .selects RX0 yX0_targetLeaf yX0_targetLeaf, .code yX0_targetLeaf cX0_targetLeaf 1 (some .int), .fieldLink RX0 15 "Fabricsim$Flow" "target" "I", .instanceMethod yX0_unsent, .selects RX0 yX0_unsent yX0_unsent, .code yX0_unsent cX0_unsent 1 (some .int), .fieldLink RX0 18 "Fabricsim$Flow" "packets" "I", .fieldLink RX0 24 "Fabricsim$Flow" "sentPackets" "I", .fieldLink RX0 30 "Fabricsim$Flow" "lostPackets" "I"] ++ wsX50 ++ wsX00)
def wsX5_unsentInto : List Cond := .code yX5_unsentInto cX5_unsentInto 4 (some .int) :: ([.fieldLink RX5 93 "Fabricsim" "flowCount" "I", .fieldLink RX5 11 "Fabricsim" "flowRows" "[LFabricsim$Flow;", .instanceMethod yX0_crossesLeaves, .initialized RX0, .selects RX0 yX0_crossesLeaves yX0_crossesLeaves, .code yX0_crossesLeaves cX0_crossesLeaves 1 (some .boolean), .methodLink RX0 51 yX0_sourceLeaf, .instanceMethod yX0_sourceLeaf, .selects RX0 yX0_sourceLeaf yX0_sourceLeaf, .code yX0_sourceLeaf cX0_sourceLeaf 1 (some .int), .fieldLink RX0 9 "Fabricsim$Flow" "source" "I", .methodLink RX0 55 yX0_targetLeaf, .instanceMethod yX0_targetLeaf, .selects RX0 yX0_targetLeaf yX0_targetLeaf, .code yX0_targetLeaf cX0_targetLeaf 1 (some .int), .fieldLink RX0 15 "Fabricsim$Flow" "target" "I", .instanceMethod yX0_unsent, .selects RX0 yX0_unsent yX0_unsent, .code yX0_unsent cX0_unsent 1 (some .int), .fieldLink RX0 18 "Fabricsim$Flow" "packets" "I", .fieldLink RX0 24 "Fabricsim$Flow" "sentPackets" "I", .fieldLink RX0 30 "Fabricsim$Flow" "lostPackets" "I"] ++ wsX50 ++ wsX00)
def wsX5_leastTicks_r1 : List Cond := [Cond.methodLink RX5 203 Lib.Math.max.name, Cond.static Lib.Math.max.name, Cond.initialized "java/lang/Math", Cond.code Lib.Math.max.name Lib.Math.max.code 2 (some .int), Cond.fieldLink RX5 42 "Fabricsim" "uncut" "[I", Cond.methodLink RX5 197 yX5_unsentBy, Cond.instanceMethod yX5_unsentBy, Cond.selects RX5 yX5_unsentBy yX5_unsentBy, Cond.initialized RX5, Cond.code yX5_unsentBy cX5_unsentBy 4 (some .int), Cond.fieldLink RX5 93 "Fabricsim" "flowCount" "I", Cond.fieldLink RX5 11 "Fabricsim" "flowRows" "[LFabricsim$Flow;", Cond.instanceMethod yX0_unsent, Cond.initialized RX0, Cond.selects RX0 yX0_unsent yX0_unsent, Cond.code yX0_unsent cX0_unsent 1 (some .int), Cond.fieldLink RX0 18 "Fabricsim$Flow" "packets" "I", Cond.fieldLink RX0 24 "Fabricsim$Flow" "sentPackets" "I", Cond.fieldLink RX0 30 "Fabricsim$Flow" "lostPackets" "I", Cond.methodLink RX5 200 yX5_unsentFor, Cond.instanceMethod yX5_unsentFor, Cond.selects RX5 yX5_unsentFor yX5_unsentFor, Cond.code yX5_unsentFor cX5_unsentFor 4 (some .int), Cond.methodLink RX5 208 yX5_unsentOutOf]
def wsX5_leastTicks_r2 : List Cond := [Cond.instanceMethod yX5_unsentOutOf, Cond.selects RX5 yX5_unsentOutOf yX5_unsentOutOf, Cond.code yX5_unsentOutOf cX5_unsentOutOf 4 (some .int), Cond.instanceMethod yX0_crossesLeaves, Cond.selects RX0 yX0_crossesLeaves yX0_crossesLeaves, Cond.code yX0_crossesLeaves cX0_crossesLeaves 1 (some .boolean), Cond.methodLink RX0 51 yX0_sourceLeaf, Cond.instanceMethod yX0_sourceLeaf, Cond.selects RX0 yX0_sourceLeaf yX0_sourceLeaf, Cond.code yX0_sourceLeaf cX0_sourceLeaf 1 (some .int), Cond.fieldLink RX0 9 "Fabricsim$Flow" "source" "I", Cond.methodLink RX0 55 yX0_targetLeaf, Cond.instanceMethod yX0_targetLeaf, Cond.selects RX0 yX0_targetLeaf yX0_targetLeaf, Cond.code yX0_targetLeaf cX0_targetLeaf 1 (some .int), Cond.fieldLink RX0 15 "Fabricsim$Flow" "target" "I", Cond.methodLink RX5 211 yX5_unsentInto, Cond.instanceMethod yX5_unsentInto, Cond.selects RX5 yX5_unsentInto yX5_unsentInto, Cond.code yX5_unsentInto cX5_unsentInto 4 (some .int), Cond.methodLink RX5 143 yJ6_bitCount_0f7a4, Cond.static yJ6_bitCount_0f7a4, Cond.initialized RJ6, Cond.code yJ6_bitCount_0f7a4 cJ6_bitCount_0f7a4 1 (some .int)]
def wsX5_leastTicks_r3 : List Cond := [Cond.constant RJ6 265 (1431655765), Cond.constant RJ6 266 (858993459), Cond.constant RJ6 267 (252645135)]
def wsX5_leastTicks : List Cond := .code yX5_leastTicks cX5_leastTicks 5 (some .int) :: ((wsX5_leastTicks_r1 ++ (wsX5_leastTicks_r2 ++ wsX5_leastTicks_r3)) ++ wsX50 ++ wsX00)
def wsX6_begins : List Cond := .code yX6_begins cX6_begins 2 none :: ([.fieldLink RX6 121 "FabricsimModel" "clock" "I", .fieldLink RX6 118 "FabricsimModel" "flows" "I", .fieldLink RX6 56 "FabricsimModel" "credits" "[I", .fieldLink RX6 59 "FabricsimModel" "sizes" "[I", .fieldLink RX6 62 "FabricsimModel" "lastQueues" "[I", .fieldLink RX6 68 "FabricsimModel" "returns" "[I", .fieldLink RX6 83 "FabricsimModel" "isCut" "[Z", .fieldLink RX6 87 "FabricsimModel" "lastFlows" "[I", .fieldLink RX6 93 "FabricsimModel" "open" "[I"] ++ wsX60)
def wsX6_init_r1 : List Cond := [Cond.methodLink RX6 1 objectInit, Cond.instanceMethod objectInit, Cond.code objectInit ⟨#[0xb1]⟩ 1 none, Cond.fieldLink RX6 7 "FabricsimModel" "gap" "I", Cond.fieldLink RX6 13 "FabricsimModel" "window" "I", Cond.arrayClass .int, Cond.fieldLink RX6 16 "FabricsimModel" "sources" "[I", Cond.fieldLink RX6 20 "FabricsimModel" "targets" "[I", Cond.fieldLink RX6 23 "FabricsimModel" "packets" "[I", Cond.fieldLink RX6 26 "FabricsimModel" "starts" "[I", Cond.fieldLink RX6 29 "FabricsimModel" "sent" "[I", Cond.fieldLink RX6 32 "FabricsimModel" "delivered" "[I", Cond.fieldLink RX6 35 "FabricsimModel" "lost" "[I", Cond.fieldLink RX6 38 "FabricsimModel" "late" "[I", Cond.fieldLink RX6 41 "FabricsimModel" "greatest" "[I", Cond.fieldLink RX6 44 "FabricsimModel" "done" "[I", Cond.fieldLink RX6 47 "FabricsimModel" "flowlets" "[I", Cond.fieldLink RX6 50 "FabricsimModel" "spines" "[I", Cond.fieldLink RX6 53 "FabricsimModel" "latest" "[I", Cond.fieldLink RX6 56 "FabricsimModel" "credits" "[I", Cond.fieldLink RX6 59 "FabricsimModel" "sizes" "[I", Cond.fieldLink RX6 62 "FabricsimModel" "lastQueues" "[I", Cond.fieldLink RX6 65 "FabricsimModel" "picked" "[I", Cond.fieldLink RX6 68 "FabricsimModel" "returns" "[I"]
def wsX6_init_r2 : List Cond := [Cond.fieldLink RX6 71 "FabricsimModel" "itsFlows" "[I", Cond.fieldLink RX6 74 "FabricsimModel" "itsNumbers" "[I", Cond.fieldLink RX6 77 "FabricsimModel" "itsSpines" "[I", Cond.fieldLink RX6 80 "FabricsimModel" "itsFlowlets" "[I", Cond.arrayClass .boolean, Cond.fieldLink RX6 83 "FabricsimModel" "isCut" "[Z", Cond.fieldLink RX6 87 "FabricsimModel" "lastFlows" "[I", Cond.fieldLink RX6 90 "FabricsimModel" "sending" "[I", Cond.fieldLink RX6 93 "FabricsimModel" "open" "[I", Cond.fieldLink RX6 96 "FabricsimModel" "movingFlows" "[I", Cond.fieldLink RX6 99 "FabricsimModel" "movingNumbers" "[I", Cond.fieldLink RX6 102 "FabricsimModel" "movingSpines" "[I", Cond.fieldLink RX6 105 "FabricsimModel" "movingFlowlets" "[I", Cond.methodLink RX6 108 yX6_begins, Cond.instanceMethod yX6_begins, Cond.selects RX6 yX6_begins yX6_begins, Cond.initialized RX6, Cond.code yX6_begins cX6_begins 2 none, Cond.fieldLink RX6 121 "FabricsimModel" "clock" "I", Cond.fieldLink RX6 118 "FabricsimModel" "flows" "I"]
def wsX6_init : List Cond := .code yX6_init cX6_init 1 none :: ((wsX6_init_r1 ++ wsX6_init_r2) ++ wsX60)
def wsX6_thrown : List Cond := .code yX6_thrown cX6_thrown 1 (some .int) :: ([.fieldLink RX6 111 "FabricsimModel" "thrown" "I"] ++ wsX60)
def wsX6_goes : List Cond := .code yX6_goes cX6_goes 2 (some .boolean) :: ([.fieldLink RX6 111 "FabricsimModel" "thrown" "I"] ++ wsX60)
def wsX6_isIn : List Cond := .code yX6_isIn cX6_isIn 3 (some .boolean) :: ([])
def wsX6_isHost : List Cond := .code yX6_isHost cX6_isHost 1 (some .boolean) :: ([.methodLink RX6 114 yX6_isIn, .static yX6_isIn, .initialized RX6, .code yX6_isIn cX6_isIn 3 (some .boolean)])
def wsX6_areFour : List Cond := .code yX6_areFour cX6_areFour 2 (some .boolean) :: ([.methodLink RX6 114 yX6_isIn, .static yX6_isIn, .initialized RX6, .code yX6_isIn cX6_isIn 3 (some .boolean)])
def wsX6_isFlow : List Cond := .code yX6_isFlow cX6_isFlow 2 (some .boolean) :: ([.fieldLink RX6 118 "FabricsimModel" "flows" "I", .methodLink RX6 114 yX6_isIn, .static yX6_isIn, .initialized RX6, .code yX6_isIn cX6_isIn 3 (some .boolean)] ++ wsX60)
def wsX6_reset_r1 : List Cond := [Cond.fieldLink RX6 128 "FabricsimModel" "delay" "I", Cond.fieldLink RX6 7 "FabricsimModel" "gap" "I", Cond.fieldLink RX6 13 "FabricsimModel" "window" "I", Cond.methodLink RX6 114 yX6_isIn, Cond.static yX6_isIn, Cond.initialized RX6, Cond.code yX6_isIn cX6_isIn 3 (some .boolean), Cond.methodLink RX6 124 yX6_goes, Cond.instanceMethod yX6_goes, Cond.selects RX6 yX6_goes yX6_goes, Cond.code yX6_goes cX6_goes 2 (some .boolean), Cond.fieldLink RX6 111 "FabricsimModel" "thrown" "I", Cond.methodLink RX6 108 yX6_begins, Cond.instanceMethod yX6_begins, Cond.selects RX6 yX6_begins yX6_begins, Cond.code yX6_begins cX6_begins 2 none, Cond.fieldLink RX6 121 "FabricsimModel" "clock" "I", Cond.fieldLink RX6 118 "FabricsimModel" "flows" "I", Cond.fieldLink RX6 56 "FabricsimModel" "credits" "[I", Cond.fieldLink RX6 59 "FabricsimModel" "sizes" "[I", Cond.fieldLink RX6 62 "FabricsimModel" "lastQueues" "[I", Cond.fieldLink RX6 68 "FabricsimModel" "returns" "[I", Cond.fieldLink RX6 83 "FabricsimModel" "isCut" "[Z", Cond.fieldLink RX6 87 "FabricsimModel" "lastFlows" "[I"]
def wsX6_reset_r2 : List Cond := [Cond.fieldLink RX6 93 "FabricsimModel" "open" "[I"]
def wsX6_reset : List Cond := .code yX6_reset cX6_reset 4 none :: ((wsX6_reset_r1 ++ wsX6_reset_r2) ++ wsX60)
def wsX6_addFlow_r1 : List Cond := [Cond.fieldLink RX6 118 "FabricsimModel" "flows" "I", Cond.fieldLink RX6 16 "FabricsimModel" "sources" "[I", Cond.fieldLink RX6 20 "FabricsimModel" "targets" "[I", Cond.fieldLink RX6 23 "FabricsimModel" "packets" "[I", Cond.fieldLink RX6 26 "FabricsimModel" "starts" "[I", Cond.fieldLink RX6 121 "FabricsimModel" "clock" "I", Cond.fieldLink RX6 29 "FabricsimModel" "sent" "[I", Cond.fieldLink RX6 32 "FabricsimModel" "delivered" "[I", Cond.fieldLink RX6 35 "FabricsimModel" "lost" "[I", Cond.fieldLink RX6 38 "FabricsimModel" "late" "[I", Cond.fieldLink RX6 41 "FabricsimModel" "greatest" "[I", Cond.fieldLink RX6 44 "FabricsimModel" "done" "[I", Cond.fieldLink RX6 47 "FabricsimModel" "flowlets" "[I", Cond.fieldLink RX6 50 "FabricsimModel" "spines" "[I", Cond.fieldLink RX6 53 "FabricsimModel" "latest" "[I", Cond.methodLink RX6 131 yX6_isHost, Cond.static yX6_isHost, Cond.initialized RX6, Cond.code yX6_isHost cX6_isHost 1 (some .boolean), Cond.methodLink RX6 114 yX6_isIn, Cond.static yX6_isIn, Cond.code yX6_isIn cX6_isIn 3 (some .boolean), Cond.methodLink RX6 124 yX6_goes, Cond.instanceMethod yX6_goes]
def wsX6_addFlow_r2 : List Cond := [Cond.selects RX6 yX6_goes yX6_goes, Cond.code yX6_goes cX6_goes 2 (some .boolean), Cond.fieldLink RX6 111 "FabricsimModel" "thrown" "I"]
def wsX6_addFlow : List Cond := .code yX6_addFlow cX6_addFlow 6 (some .int) :: ((wsX6_addFlow_r1 ++ wsX6_addFlow_r2) ++ wsX60)
def wsX6_north : List Cond := .code yX6_north cX6_north 2 (some .int) :: ([])
def wsX6_south : List Cond := .code yX6_south cX6_south 2 (some .int) :: ([])
def wsX6_cut : List Cond := .code yX6_cut cX6_cut 3 (some .int) :: ([.fieldLink RX6 83 "FabricsimModel" "isCut" "[Z", .fieldLink RX6 59 "FabricsimModel" "sizes" "[I", .methodLink RX6 134 yX6_areFour, .static yX6_areFour, .initialized RX6, .code yX6_areFour cX6_areFour 2 (some .boolean), .methodLink RX6 114 yX6_isIn, .static yX6_isIn, .code yX6_isIn cX6_isIn 3 (some .boolean), .methodLink RX6 124 yX6_goes, .instanceMethod yX6_goes, .selects RX6 yX6_goes yX6_goes, .code yX6_goes cX6_goes 2 (some .boolean), .fieldLink RX6 111 "FabricsimModel" "thrown" "I", .methodLink RX6 138 yX6_north, .static yX6_north, .code yX6_north cX6_north 2 (some .int), .methodLink RX6 142 yX6_south, .static yX6_south, .code yX6_south cX6_south 2 (some .int)] ++ wsX60)
def wsX6_restore : List Cond := .code yX6_restore cX6_restore 5 (some .int) :: ([.fieldLink RX6 83 "FabricsimModel" "isCut" "[Z", .methodLink RX6 134 yX6_areFour, .static yX6_areFour, .initialized RX6, .code yX6_areFour cX6_areFour 2 (some .boolean), .methodLink RX6 114 yX6_isIn, .static yX6_isIn, .code yX6_isIn cX6_isIn 3 (some .boolean), .methodLink RX6 124 yX6_goes, .instanceMethod yX6_goes, .selects RX6 yX6_goes yX6_goes, .code yX6_goes cX6_goes 2 (some .boolean), .fieldLink RX6 111 "FabricsimModel" "thrown" "I"] ++ wsX60)
def wsX6_isUsable : List Cond := .code yX6_isUsable cX6_isUsable 4 (some .boolean) :: ([.fieldLink RX6 83 "FabricsimModel" "isCut" "[Z"] ++ wsX60)
def wsX6_usableSet : List Cond := .code yX6_usableSet cX6_usableSet 5 (some .int) :: ([.methodLink RX6 145 yX6_isUsable, .instanceMethod yX6_isUsable, .selects RX6 yX6_isUsable yX6_isUsable, .initialized RX6, .code yX6_isUsable cX6_isUsable 4 (some .boolean), .fieldLink RX6 83 "FabricsimModel" "isCut" "[Z"] ++ wsX60)
def wsX6_chosen : List Cond := .code yX6_chosen cX6_chosen 10 (some .int) :: ([.fieldLink RX6 16 "FabricsimModel" "sources" "[I", .fieldLink RX6 20 "FabricsimModel" "targets" "[I", .methodLink RX6 145 yX6_isUsable, .instanceMethod yX6_isUsable, .selects RX6 yX6_isUsable yX6_isUsable, .initialized RX6, .code yX6_isUsable cX6_isUsable 4 (some .boolean), .fieldLink RX6 83 "FabricsimModel" "isCut" "[Z"] ++ wsX60)
def wsX6_isFar : List Cond := .code yX6_isFar cX6_isFar 2 (some .boolean) :: ([.fieldLink RX6 16 "FabricsimModel" "sources" "[I", .fieldLink RX6 20 "FabricsimModel" "targets" "[I"] ++ wsX60)
def wsX6_leaves : List Cond := .code yX6_leaves cX6_leaves 3 none :: ([.fieldLink RX6 59 "FabricsimModel" "sizes" "[I", .fieldLink RX6 71 "FabricsimModel" "itsFlows" "[I", .fieldLink RX6 74 "FabricsimModel" "itsNumbers" "[I", .fieldLink RX6 77 "FabricsimModel" "itsSpines" "[I", .fieldLink RX6 80 "FabricsimModel" "itsFlowlets" "[I", .fieldLink RX6 68 "FabricsimModel" "returns" "[I", .fieldLink RX6 121 "FabricsimModel" "clock" "I", .fieldLink RX6 128 "FabricsimModel" "delay" "I"] ++ wsX60)
def wsX6_targetOf : List Cond := .code yX6_targetOf cX6_targetOf 2 (some .int) :: ([.fieldLink RX6 20 "FabricsimModel" "targets" "[I", .fieldLink RX6 71 "FabricsimModel" "itsFlows" "[I"] ++ wsX60)
def wsX6_wanted : List Cond := .code yX6_wanted cX6_wanted 4 (some .int) :: ([.fieldLink RX6 59 "FabricsimModel" "sizes" "[I", .fieldLink RX6 77 "FabricsimModel" "itsSpines" "[I", .methodLink RX6 148 yX6_targetOf, .instanceMethod yX6_targetOf, .selects RX6 yX6_targetOf yX6_targetOf, .initialized RX6, .code yX6_targetOf cX6_targetOf 2 (some .int), .fieldLink RX6 20 "FabricsimModel" "targets" "[I", .fieldLink RX6 71 "FabricsimModel" "itsFlows" "[I", .methodLink RX6 142 yX6_south, .static yX6_south, .code yX6_south cX6_south 2 (some .int), .methodLink RX6 145 yX6_isUsable, .instanceMethod yX6_isUsable, .selects RX6 yX6_isUsable yX6_isUsable, .code yX6_isUsable cX6_isUsable 4 (some .boolean), .fieldLink RX6 83 "FabricsimModel" "isCut" "[Z", .methodLink RX6 138 yX6_north, .static yX6_north, .code yX6_north cX6_north 2 (some .int)] ++ wsX60)
def wsX6_queueAt : List Cond := .code yX6_queueAt cX6_queueAt 3 (some .int) :: ([.methodLink RX6 138 yX6_north, .static yX6_north, .initialized RX6, .code yX6_north cX6_north 2 (some .int), .methodLink RX6 142 yX6_south, .static yX6_south, .code yX6_south cX6_south 2 (some .int)])
def wsX6_isShut : List Cond := .code yX6_isShut cX6_isShut 2 (some .boolean) :: ([.fieldLink RX6 83 "FabricsimModel" "isCut" "[Z"] ++ wsX60)
def wsX6_creditsReturn : List Cond := .code yX6_creditsReturn cX6_creditsReturn 3 none :: ([.fieldLink RX6 121 "FabricsimModel" "clock" "I", .fieldLink RX6 56 "FabricsimModel" "credits" "[I", .fieldLink RX6 68 "FabricsimModel" "returns" "[I"] ++ wsX60)
def wsX6_hostsTake : List Cond := .code yX6_hostsTake cX6_hostsTake 5 (some .int) :: ([.fieldLink RX6 59 "FabricsimModel" "sizes" "[I", .fieldLink RX6 71 "FabricsimModel" "itsFlows" "[I", .fieldLink RX6 74 "FabricsimModel" "itsNumbers" "[I", .fieldLink RX6 38 "FabricsimModel" "late" "[I", .fieldLink RX6 41 "FabricsimModel" "greatest" "[I", .fieldLink RX6 32 "FabricsimModel" "delivered" "[I", .fieldLink RX6 44 "FabricsimModel" "done" "[I", .fieldLink RX6 23 "FabricsimModel" "packets" "[I", .fieldLink RX6 121 "FabricsimModel" "clock" "I", .fieldLink RX6 93 "FabricsimModel" "open" "[I", .methodLink RX6 152 yX6_leaves, .instanceMethod yX6_leaves, .selects RX6 yX6_leaves yX6_leaves, .initialized RX6, .code yX6_leaves cX6_leaves 3 none, .fieldLink RX6 77 "FabricsimModel" "itsSpines" "[I", .fieldLink RX6 80 "FabricsimModel" "itsFlowlets" "[I", .fieldLink RX6 68 "FabricsimModel" "returns" "[I", .fieldLink RX6 128 "FabricsimModel" "delay" "I"] ++ wsX60)
def wsX6_spinesLose_r1 : List Cond := [Cond.fieldLink RX6 71 "FabricsimModel" "itsFlows" "[I", Cond.fieldLink RX6 35 "FabricsimModel" "lost" "[I", Cond.fieldLink RX6 93 "FabricsimModel" "open" "[I", Cond.fieldLink RX6 20 "FabricsimModel" "targets" "[I", Cond.methodLink RX6 138 yX6_north, Cond.static yX6_north, Cond.initialized RX6, Cond.code yX6_north cX6_north 2 (some .int), Cond.methodLink RX6 156 yX6_wanted, Cond.instanceMethod yX6_wanted, Cond.selects RX6 yX6_wanted yX6_wanted, Cond.code yX6_wanted cX6_wanted 4 (some .int), Cond.fieldLink RX6 59 "FabricsimModel" "sizes" "[I", Cond.fieldLink RX6 77 "FabricsimModel" "itsSpines" "[I", Cond.methodLink RX6 148 yX6_targetOf, Cond.instanceMethod yX6_targetOf, Cond.selects RX6 yX6_targetOf yX6_targetOf, Cond.code yX6_targetOf cX6_targetOf 2 (some .int), Cond.methodLink RX6 142 yX6_south, Cond.static yX6_south, Cond.code yX6_south cX6_south 2 (some .int), Cond.methodLink RX6 145 yX6_isUsable, Cond.instanceMethod yX6_isUsable, Cond.selects RX6 yX6_isUsable yX6_isUsable]
def wsX6_spinesLose_r2 : List Cond := [Cond.code yX6_isUsable cX6_isUsable 4 (some .boolean), Cond.fieldLink RX6 83 "FabricsimModel" "isCut" "[Z", Cond.methodLink RX6 159 yX6_isShut, Cond.instanceMethod yX6_isShut, Cond.selects RX6 yX6_isShut yX6_isShut, Cond.code yX6_isShut cX6_isShut 2 (some .boolean), Cond.methodLink RX6 152 yX6_leaves, Cond.instanceMethod yX6_leaves, Cond.selects RX6 yX6_leaves yX6_leaves, Cond.code yX6_leaves cX6_leaves 3 none, Cond.fieldLink RX6 74 "FabricsimModel" "itsNumbers" "[I", Cond.fieldLink RX6 80 "FabricsimModel" "itsFlowlets" "[I", Cond.fieldLink RX6 68 "FabricsimModel" "returns" "[I", Cond.fieldLink RX6 121 "FabricsimModel" "clock" "I", Cond.fieldLink RX6 128 "FabricsimModel" "delay" "I"]
def wsX6_spinesLose : List Cond := .code yX6_spinesLose cX6_spinesLose 6 none :: ((wsX6_spinesLose_r1 ++ wsX6_spinesLose_r2) ++ wsX60)
def wsX6_leavesChoose_r1 : List Cond := [Cond.fieldLink RX6 59 "FabricsimModel" "sizes" "[I", Cond.fieldLink RX6 71 "FabricsimModel" "itsFlows" "[I", Cond.fieldLink RX6 80 "FabricsimModel" "itsFlowlets" "[I", Cond.fieldLink RX6 77 "FabricsimModel" "itsSpines" "[I", Cond.methodLink RX6 162 yX6_isFar, Cond.instanceMethod yX6_isFar, Cond.selects RX6 yX6_isFar yX6_isFar, Cond.initialized RX6, Cond.code yX6_isFar cX6_isFar 2 (some .boolean), Cond.fieldLink RX6 16 "FabricsimModel" "sources" "[I", Cond.fieldLink RX6 20 "FabricsimModel" "targets" "[I", Cond.methodLink RX6 156 yX6_wanted, Cond.instanceMethod yX6_wanted, Cond.selects RX6 yX6_wanted yX6_wanted, Cond.code yX6_wanted cX6_wanted 4 (some .int), Cond.methodLink RX6 148 yX6_targetOf, Cond.instanceMethod yX6_targetOf, Cond.selects RX6 yX6_targetOf yX6_targetOf, Cond.code yX6_targetOf cX6_targetOf 2 (some .int), Cond.methodLink RX6 142 yX6_south, Cond.static yX6_south, Cond.code yX6_south cX6_south 2 (some .int), Cond.methodLink RX6 145 yX6_isUsable, Cond.instanceMethod yX6_isUsable]
def wsX6_leavesChoose_r2 : List Cond := [Cond.selects RX6 yX6_isUsable yX6_isUsable, Cond.code yX6_isUsable cX6_isUsable 4 (some .boolean), Cond.fieldLink RX6 83 "FabricsimModel" "isCut" "[Z", Cond.methodLink RX6 138 yX6_north, Cond.static yX6_north, Cond.code yX6_north cX6_north 2 (some .int), Cond.methodLink RX6 165 yX6_chosen, Cond.instanceMethod yX6_chosen, Cond.selects RX6 yX6_chosen yX6_chosen, Cond.code yX6_chosen cX6_chosen 10 (some .int)]
def wsX6_leavesChoose : List Cond := .code yX6_leavesChoose cX6_leavesChoose 3 none :: ((wsX6_leavesChoose_r1 ++ wsX6_leavesChoose_r2) ++ wsX60)
def wsX6_linksPick_r1 : List Cond := [Cond.fieldLink RX6 62 "FabricsimModel" "lastQueues" "[I", Cond.fieldLink RX6 56 "FabricsimModel" "credits" "[I", Cond.fieldLink RX6 65 "FabricsimModel" "picked" "[I", Cond.methodLink RX6 168 yX6_queueAt, Cond.static yX6_queueAt, Cond.initialized RX6, Cond.code yX6_queueAt cX6_queueAt 3 (some .int), Cond.methodLink RX6 138 yX6_north, Cond.static yX6_north, Cond.code yX6_north cX6_north 2 (some .int), Cond.methodLink RX6 142 yX6_south, Cond.static yX6_south, Cond.code yX6_south cX6_south 2 (some .int), Cond.methodLink RX6 156 yX6_wanted, Cond.instanceMethod yX6_wanted, Cond.selects RX6 yX6_wanted yX6_wanted, Cond.code yX6_wanted cX6_wanted 4 (some .int), Cond.fieldLink RX6 59 "FabricsimModel" "sizes" "[I", Cond.fieldLink RX6 77 "FabricsimModel" "itsSpines" "[I", Cond.methodLink RX6 148 yX6_targetOf, Cond.instanceMethod yX6_targetOf, Cond.selects RX6 yX6_targetOf yX6_targetOf, Cond.code yX6_targetOf cX6_targetOf 2 (some .int), Cond.fieldLink RX6 20 "FabricsimModel" "targets" "[I"]
def wsX6_linksPick_r2 : List Cond := [Cond.fieldLink RX6 71 "FabricsimModel" "itsFlows" "[I", Cond.methodLink RX6 145 yX6_isUsable, Cond.instanceMethod yX6_isUsable, Cond.selects RX6 yX6_isUsable yX6_isUsable, Cond.code yX6_isUsable cX6_isUsable 4 (some .boolean), Cond.fieldLink RX6 83 "FabricsimModel" "isCut" "[Z", Cond.methodLink RX6 159 yX6_isShut, Cond.instanceMethod yX6_isShut, Cond.selects RX6 yX6_isShut yX6_isShut, Cond.code yX6_isShut cX6_isShut 2 (some .boolean)]
def wsX6_linksPick : List Cond := .code yX6_linksPick cX6_linksPick 6 none :: ((wsX6_linksPick_r1 ++ wsX6_linksPick_r2) ++ wsX60)
def wsX6_maySend : List Cond := .code yX6_maySend cX6_maySend 5 (some .boolean) :: ([.fieldLink RX6 16 "FabricsimModel" "sources" "[I", .fieldLink RX6 26 "FabricsimModel" "starts" "[I", .fieldLink RX6 121 "FabricsimModel" "clock" "I", .fieldLink RX6 29 "FabricsimModel" "sent" "[I", .fieldLink RX6 35 "FabricsimModel" "lost" "[I", .fieldLink RX6 23 "FabricsimModel" "packets" "[I", .fieldLink RX6 20 "FabricsimModel" "targets" "[I", .fieldLink RX6 93 "FabricsimModel" "open" "[I", .fieldLink RX6 13 "FabricsimModel" "window" "I", .methodLink RX6 162 yX6_isFar, .instanceMethod yX6_isFar, .selects RX6 yX6_isFar yX6_isFar, .initialized RX6, .code yX6_isFar cX6_isFar 2 (some .boolean), .methodLink RX6 171 yX6_usableSet, .instanceMethod yX6_usableSet, .selects RX6 yX6_usableSet yX6_usableSet, .code yX6_usableSet cX6_usableSet 5 (some .int), .methodLink RX6 145 yX6_isUsable, .instanceMethod yX6_isUsable, .selects RX6 yX6_isUsable yX6_isUsable, .code yX6_isUsable cX6_isUsable 4 (some .boolean), .fieldLink RX6 83 "FabricsimModel" "isCut" "[Z"] ++ wsX60)
def wsX6_hostsPick_r1 : List Cond := [Cond.fieldLink RX6 90 "FabricsimModel" "sending" "[I", Cond.fieldLink RX6 118 "FabricsimModel" "flows" "I", Cond.fieldLink RX6 56 "FabricsimModel" "credits" "[I", Cond.fieldLink RX6 87 "FabricsimModel" "lastFlows" "[I", Cond.fieldLink RX6 93 "FabricsimModel" "open" "[I", Cond.fieldLink RX6 20 "FabricsimModel" "targets" "[I", Cond.methodLink RX6 174 yX6_maySend, Cond.instanceMethod yX6_maySend, Cond.selects RX6 yX6_maySend yX6_maySend, Cond.initialized RX6, Cond.code yX6_maySend cX6_maySend 5 (some .boolean), Cond.fieldLink RX6 16 "FabricsimModel" "sources" "[I", Cond.fieldLink RX6 26 "FabricsimModel" "starts" "[I", Cond.fieldLink RX6 121 "FabricsimModel" "clock" "I", Cond.fieldLink RX6 29 "FabricsimModel" "sent" "[I", Cond.fieldLink RX6 35 "FabricsimModel" "lost" "[I", Cond.fieldLink RX6 23 "FabricsimModel" "packets" "[I", Cond.fieldLink RX6 13 "FabricsimModel" "window" "I", Cond.methodLink RX6 162 yX6_isFar, Cond.instanceMethod yX6_isFar, Cond.selects RX6 yX6_isFar yX6_isFar, Cond.code yX6_isFar cX6_isFar 2 (some .boolean), Cond.methodLink RX6 171 yX6_usableSet, Cond.instanceMethod yX6_usableSet]
def wsX6_hostsPick_r2 : List Cond := [Cond.selects RX6 yX6_usableSet yX6_usableSet, Cond.code yX6_usableSet cX6_usableSet 5 (some .int), Cond.methodLink RX6 145 yX6_isUsable, Cond.instanceMethod yX6_isUsable, Cond.selects RX6 yX6_isUsable yX6_isUsable, Cond.code yX6_isUsable cX6_isUsable 4 (some .boolean), Cond.fieldLink RX6 83 "FabricsimModel" "isCut" "[Z"]
def wsX6_hostsPick : List Cond := .code yX6_hostsPick cX6_hostsPick 4 none :: ((wsX6_hostsPick_r1 ++ wsX6_hostsPick_r2) ++ wsX60)
def wsX6_takesAlong : List Cond := .code yX6_takesAlong cX6_takesAlong 3 none :: ([.fieldLink RX6 65 "FabricsimModel" "picked" "[I", .fieldLink RX6 96 "FabricsimModel" "movingFlows" "[I", .fieldLink RX6 71 "FabricsimModel" "itsFlows" "[I", .fieldLink RX6 99 "FabricsimModel" "movingNumbers" "[I", .fieldLink RX6 74 "FabricsimModel" "itsNumbers" "[I", .fieldLink RX6 102 "FabricsimModel" "movingSpines" "[I", .fieldLink RX6 77 "FabricsimModel" "itsSpines" "[I", .fieldLink RX6 105 "FabricsimModel" "movingFlowlets" "[I", .fieldLink RX6 80 "FabricsimModel" "itsFlowlets" "[I"] ++ wsX60)
def wsX6_makes_r1 : List Cond := [Cond.fieldLink RX6 90 "FabricsimModel" "sending" "[I", Cond.fieldLink RX6 53 "FabricsimModel" "latest" "[I", Cond.fieldLink RX6 121 "FabricsimModel" "clock" "I", Cond.fieldLink RX6 7 "FabricsimModel" "gap" "I", Cond.fieldLink RX6 20 "FabricsimModel" "targets" "[I", Cond.fieldLink RX6 50 "FabricsimModel" "spines" "[I", Cond.fieldLink RX6 47 "FabricsimModel" "flowlets" "[I", Cond.fieldLink RX6 96 "FabricsimModel" "movingFlows" "[I", Cond.fieldLink RX6 99 "FabricsimModel" "movingNumbers" "[I", Cond.fieldLink RX6 29 "FabricsimModel" "sent" "[I", Cond.fieldLink RX6 102 "FabricsimModel" "movingSpines" "[I", Cond.fieldLink RX6 105 "FabricsimModel" "movingFlowlets" "[I", Cond.methodLink RX6 162 yX6_isFar, Cond.instanceMethod yX6_isFar, Cond.selects RX6 yX6_isFar yX6_isFar, Cond.initialized RX6, Cond.code yX6_isFar cX6_isFar 2 (some .boolean), Cond.fieldLink RX6 16 "FabricsimModel" "sources" "[I", Cond.methodLink RX6 145 yX6_isUsable, Cond.instanceMethod yX6_isUsable, Cond.selects RX6 yX6_isUsable yX6_isUsable, Cond.code yX6_isUsable cX6_isUsable 4 (some .boolean), Cond.fieldLink RX6 83 "FabricsimModel" "isCut" "[Z", Cond.methodLink RX6 165 yX6_chosen]
def wsX6_makes_r2 : List Cond := [Cond.instanceMethod yX6_chosen, Cond.selects RX6 yX6_chosen yX6_chosen, Cond.code yX6_chosen cX6_chosen 10 (some .int)]
def wsX6_makes : List Cond := .code yX6_makes cX6_makes 4 none :: ((wsX6_makes_r1 ++ wsX6_makes_r2) ++ wsX60)
def wsX6_arrives : List Cond := .code yX6_arrives cX6_arrives 3 none :: ([.fieldLink RX6 59 "FabricsimModel" "sizes" "[I", .fieldLink RX6 71 "FabricsimModel" "itsFlows" "[I", .fieldLink RX6 96 "FabricsimModel" "movingFlows" "[I", .fieldLink RX6 74 "FabricsimModel" "itsNumbers" "[I", .fieldLink RX6 99 "FabricsimModel" "movingNumbers" "[I", .fieldLink RX6 77 "FabricsimModel" "itsSpines" "[I", .fieldLink RX6 102 "FabricsimModel" "movingSpines" "[I", .fieldLink RX6 80 "FabricsimModel" "itsFlowlets" "[I", .fieldLink RX6 105 "FabricsimModel" "movingFlowlets" "[I"] ++ wsX60)
def wsX6_moves_r1 : List Cond := [Cond.fieldLink RX6 65 "FabricsimModel" "picked" "[I", Cond.fieldLink RX6 90 "FabricsimModel" "sending" "[I", Cond.methodLink RX6 177 yX6_takesAlong, Cond.instanceMethod yX6_takesAlong, Cond.selects RX6 yX6_takesAlong yX6_takesAlong, Cond.initialized RX6, Cond.code yX6_takesAlong cX6_takesAlong 3 none, Cond.fieldLink RX6 96 "FabricsimModel" "movingFlows" "[I", Cond.fieldLink RX6 71 "FabricsimModel" "itsFlows" "[I", Cond.fieldLink RX6 99 "FabricsimModel" "movingNumbers" "[I", Cond.fieldLink RX6 74 "FabricsimModel" "itsNumbers" "[I", Cond.fieldLink RX6 102 "FabricsimModel" "movingSpines" "[I", Cond.fieldLink RX6 77 "FabricsimModel" "itsSpines" "[I", Cond.fieldLink RX6 105 "FabricsimModel" "movingFlowlets" "[I", Cond.fieldLink RX6 80 "FabricsimModel" "itsFlowlets" "[I", Cond.methodLink RX6 152 yX6_leaves, Cond.instanceMethod yX6_leaves, Cond.selects RX6 yX6_leaves yX6_leaves, Cond.code yX6_leaves cX6_leaves 3 none, Cond.fieldLink RX6 59 "FabricsimModel" "sizes" "[I", Cond.fieldLink RX6 68 "FabricsimModel" "returns" "[I", Cond.fieldLink RX6 121 "FabricsimModel" "clock" "I", Cond.fieldLink RX6 128 "FabricsimModel" "delay" "I", Cond.methodLink RX6 180 yX6_makes]
def wsX6_moves_r2 : List Cond := [Cond.instanceMethod yX6_makes, Cond.selects RX6 yX6_makes yX6_makes, Cond.code yX6_makes cX6_makes 4 none, Cond.fieldLink RX6 53 "FabricsimModel" "latest" "[I", Cond.fieldLink RX6 7 "FabricsimModel" "gap" "I", Cond.fieldLink RX6 20 "FabricsimModel" "targets" "[I", Cond.fieldLink RX6 50 "FabricsimModel" "spines" "[I", Cond.fieldLink RX6 47 "FabricsimModel" "flowlets" "[I", Cond.fieldLink RX6 29 "FabricsimModel" "sent" "[I", Cond.methodLink RX6 162 yX6_isFar, Cond.instanceMethod yX6_isFar, Cond.selects RX6 yX6_isFar yX6_isFar, Cond.code yX6_isFar cX6_isFar 2 (some .boolean), Cond.fieldLink RX6 16 "FabricsimModel" "sources" "[I", Cond.methodLink RX6 145 yX6_isUsable, Cond.instanceMethod yX6_isUsable, Cond.selects RX6 yX6_isUsable yX6_isUsable, Cond.code yX6_isUsable cX6_isUsable 4 (some .boolean), Cond.fieldLink RX6 83 "FabricsimModel" "isCut" "[Z", Cond.methodLink RX6 165 yX6_chosen, Cond.instanceMethod yX6_chosen, Cond.selects RX6 yX6_chosen yX6_chosen, Cond.code yX6_chosen cX6_chosen 10 (some .int), Cond.methodLink RX6 183 yX6_arrives]
def wsX6_moves_r3 : List Cond := [Cond.instanceMethod yX6_arrives, Cond.selects RX6 yX6_arrives yX6_arrives, Cond.code yX6_arrives cX6_arrives 3 none]
def wsX6_moves : List Cond := .code yX6_moves cX6_moves 2 none :: ((wsX6_moves_r1 ++ (wsX6_moves_r2 ++ wsX6_moves_r3)) ++ wsX60)
def wsX6_ticks_r1 : List Cond := [Cond.fieldLink RX6 121 "FabricsimModel" "clock" "I", Cond.methodLink RX6 186 yX6_creditsReturn, Cond.instanceMethod yX6_creditsReturn, Cond.selects RX6 yX6_creditsReturn yX6_creditsReturn, Cond.initialized RX6, Cond.code yX6_creditsReturn cX6_creditsReturn 3 none, Cond.fieldLink RX6 56 "FabricsimModel" "credits" "[I", Cond.fieldLink RX6 68 "FabricsimModel" "returns" "[I", Cond.methodLink RX6 189 yX6_hostsTake, Cond.instanceMethod yX6_hostsTake, Cond.selects RX6 yX6_hostsTake yX6_hostsTake, Cond.code yX6_hostsTake cX6_hostsTake 5 (some .int), Cond.fieldLink RX6 59 "FabricsimModel" "sizes" "[I", Cond.fieldLink RX6 71 "FabricsimModel" "itsFlows" "[I", Cond.fieldLink RX6 74 "FabricsimModel" "itsNumbers" "[I", Cond.fieldLink RX6 38 "FabricsimModel" "late" "[I", Cond.fieldLink RX6 41 "FabricsimModel" "greatest" "[I", Cond.fieldLink RX6 32 "FabricsimModel" "delivered" "[I", Cond.fieldLink RX6 44 "FabricsimModel" "done" "[I", Cond.fieldLink RX6 23 "FabricsimModel" "packets" "[I", Cond.fieldLink RX6 93 "FabricsimModel" "open" "[I", Cond.methodLink RX6 152 yX6_leaves, Cond.instanceMethod yX6_leaves, Cond.selects RX6 yX6_leaves yX6_leaves]
def wsX6_ticks_r2 : List Cond := [Cond.code yX6_leaves cX6_leaves 3 none, Cond.fieldLink RX6 77 "FabricsimModel" "itsSpines" "[I", Cond.fieldLink RX6 80 "FabricsimModel" "itsFlowlets" "[I", Cond.fieldLink RX6 128 "FabricsimModel" "delay" "I", Cond.methodLink RX6 193 yX6_spinesLose, Cond.instanceMethod yX6_spinesLose, Cond.selects RX6 yX6_spinesLose yX6_spinesLose, Cond.code yX6_spinesLose cX6_spinesLose 6 none, Cond.fieldLink RX6 35 "FabricsimModel" "lost" "[I", Cond.fieldLink RX6 20 "FabricsimModel" "targets" "[I", Cond.methodLink RX6 138 yX6_north, Cond.static yX6_north, Cond.code yX6_north cX6_north 2 (some .int), Cond.methodLink RX6 156 yX6_wanted, Cond.instanceMethod yX6_wanted, Cond.selects RX6 yX6_wanted yX6_wanted, Cond.code yX6_wanted cX6_wanted 4 (some .int), Cond.methodLink RX6 148 yX6_targetOf, Cond.instanceMethod yX6_targetOf, Cond.selects RX6 yX6_targetOf yX6_targetOf, Cond.code yX6_targetOf cX6_targetOf 2 (some .int), Cond.methodLink RX6 142 yX6_south, Cond.static yX6_south, Cond.code yX6_south cX6_south 2 (some .int)]
def wsX6_ticks_r3 : List Cond := [Cond.methodLink RX6 145 yX6_isUsable, Cond.instanceMethod yX6_isUsable, Cond.selects RX6 yX6_isUsable yX6_isUsable, Cond.code yX6_isUsable cX6_isUsable 4 (some .boolean), Cond.fieldLink RX6 83 "FabricsimModel" "isCut" "[Z", Cond.methodLink RX6 159 yX6_isShut, Cond.instanceMethod yX6_isShut, Cond.selects RX6 yX6_isShut yX6_isShut, Cond.code yX6_isShut cX6_isShut 2 (some .boolean), Cond.methodLink RX6 196 yX6_leavesChoose, Cond.instanceMethod yX6_leavesChoose, Cond.selects RX6 yX6_leavesChoose yX6_leavesChoose, Cond.code yX6_leavesChoose cX6_leavesChoose 3 none, Cond.methodLink RX6 162 yX6_isFar, Cond.instanceMethod yX6_isFar, Cond.selects RX6 yX6_isFar yX6_isFar, Cond.code yX6_isFar cX6_isFar 2 (some .boolean), Cond.fieldLink RX6 16 "FabricsimModel" "sources" "[I", Cond.methodLink RX6 165 yX6_chosen, Cond.instanceMethod yX6_chosen, Cond.selects RX6 yX6_chosen yX6_chosen, Cond.code yX6_chosen cX6_chosen 10 (some .int), Cond.methodLink RX6 199 yX6_linksPick, Cond.instanceMethod yX6_linksPick]
def wsX6_ticks_r4 : List Cond := [Cond.selects RX6 yX6_linksPick yX6_linksPick, Cond.code yX6_linksPick cX6_linksPick 6 none, Cond.fieldLink RX6 62 "FabricsimModel" "lastQueues" "[I", Cond.fieldLink RX6 65 "FabricsimModel" "picked" "[I", Cond.methodLink RX6 168 yX6_queueAt, Cond.static yX6_queueAt, Cond.code yX6_queueAt cX6_queueAt 3 (some .int), Cond.methodLink RX6 202 yX6_hostsPick, Cond.instanceMethod yX6_hostsPick, Cond.selects RX6 yX6_hostsPick yX6_hostsPick, Cond.code yX6_hostsPick cX6_hostsPick 4 none, Cond.fieldLink RX6 90 "FabricsimModel" "sending" "[I", Cond.fieldLink RX6 118 "FabricsimModel" "flows" "I", Cond.fieldLink RX6 87 "FabricsimModel" "lastFlows" "[I", Cond.methodLink RX6 174 yX6_maySend, Cond.instanceMethod yX6_maySend, Cond.selects RX6 yX6_maySend yX6_maySend, Cond.code yX6_maySend cX6_maySend 5 (some .boolean), Cond.fieldLink RX6 26 "FabricsimModel" "starts" "[I", Cond.fieldLink RX6 29 "FabricsimModel" "sent" "[I", Cond.fieldLink RX6 13 "FabricsimModel" "window" "I", Cond.methodLink RX6 171 yX6_usableSet, Cond.instanceMethod yX6_usableSet, Cond.selects RX6 yX6_usableSet yX6_usableSet]
def wsX6_ticks_r5 : List Cond := [Cond.code yX6_usableSet cX6_usableSet 5 (some .int), Cond.methodLink RX6 205 yX6_moves, Cond.instanceMethod yX6_moves, Cond.selects RX6 yX6_moves yX6_moves, Cond.code yX6_moves cX6_moves 2 none, Cond.methodLink RX6 177 yX6_takesAlong, Cond.instanceMethod yX6_takesAlong, Cond.selects RX6 yX6_takesAlong yX6_takesAlong, Cond.code yX6_takesAlong cX6_takesAlong 3 none, Cond.fieldLink RX6 96 "FabricsimModel" "movingFlows" "[I", Cond.fieldLink RX6 99 "FabricsimModel" "movingNumbers" "[I", Cond.fieldLink RX6 102 "FabricsimModel" "movingSpines" "[I", Cond.fieldLink RX6 105 "FabricsimModel" "movingFlowlets" "[I", Cond.methodLink RX6 180 yX6_makes, Cond.instanceMethod yX6_makes, Cond.selects RX6 yX6_makes yX6_makes, Cond.code yX6_makes cX6_makes 4 none, Cond.fieldLink RX6 53 "FabricsimModel" "latest" "[I", Cond.fieldLink RX6 7 "FabricsimModel" "gap" "I", Cond.fieldLink RX6 50 "FabricsimModel" "spines" "[I", Cond.fieldLink RX6 47 "FabricsimModel" "flowlets" "[I", Cond.methodLink RX6 183 yX6_arrives, Cond.instanceMethod yX6_arrives, Cond.selects RX6 yX6_arrives yX6_arrives]
def wsX6_ticks_r6 : List Cond := [Cond.code yX6_arrives cX6_arrives 3 none]
def wsX6_ticks : List Cond := .code yX6_ticks cX6_ticks 2 (some .int) :: ((wsX6_ticks_r1 ++ (wsX6_ticks_r2 ++ (wsX6_ticks_r3 ++ (wsX6_ticks_r4 ++ (wsX6_ticks_r5 ++ wsX6_ticks_r6))))) ++ wsX60)
def wsX6_pass_r1 : List Cond := [Cond.fieldLink RX6 121 "FabricsimModel" "clock" "I", Cond.constant RX6 208 (100000), Cond.methodLink RX6 114 yX6_isIn, Cond.static yX6_isIn, Cond.initialized RX6, Cond.code yX6_isIn cX6_isIn 3 (some .boolean), Cond.methodLink RX6 124 yX6_goes, Cond.instanceMethod yX6_goes, Cond.selects RX6 yX6_goes yX6_goes, Cond.code yX6_goes cX6_goes 2 (some .boolean), Cond.fieldLink RX6 111 "FabricsimModel" "thrown" "I", Cond.methodLink RX6 209 yX6_ticks, Cond.instanceMethod yX6_ticks, Cond.selects RX6 yX6_ticks yX6_ticks, Cond.code yX6_ticks cX6_ticks 2 (some .int), Cond.methodLink RX6 186 yX6_creditsReturn, Cond.instanceMethod yX6_creditsReturn, Cond.selects RX6 yX6_creditsReturn yX6_creditsReturn, Cond.code yX6_creditsReturn cX6_creditsReturn 3 none, Cond.fieldLink RX6 56 "FabricsimModel" "credits" "[I", Cond.fieldLink RX6 68 "FabricsimModel" "returns" "[I", Cond.methodLink RX6 189 yX6_hostsTake, Cond.instanceMethod yX6_hostsTake, Cond.selects RX6 yX6_hostsTake yX6_hostsTake]
def wsX6_pass_r2 : List Cond := [Cond.code yX6_hostsTake cX6_hostsTake 5 (some .int), Cond.fieldLink RX6 59 "FabricsimModel" "sizes" "[I", Cond.fieldLink RX6 71 "FabricsimModel" "itsFlows" "[I", Cond.fieldLink RX6 74 "FabricsimModel" "itsNumbers" "[I", Cond.fieldLink RX6 38 "FabricsimModel" "late" "[I", Cond.fieldLink RX6 41 "FabricsimModel" "greatest" "[I", Cond.fieldLink RX6 32 "FabricsimModel" "delivered" "[I", Cond.fieldLink RX6 44 "FabricsimModel" "done" "[I", Cond.fieldLink RX6 23 "FabricsimModel" "packets" "[I", Cond.fieldLink RX6 93 "FabricsimModel" "open" "[I", Cond.methodLink RX6 152 yX6_leaves, Cond.instanceMethod yX6_leaves, Cond.selects RX6 yX6_leaves yX6_leaves, Cond.code yX6_leaves cX6_leaves 3 none, Cond.fieldLink RX6 77 "FabricsimModel" "itsSpines" "[I", Cond.fieldLink RX6 80 "FabricsimModel" "itsFlowlets" "[I", Cond.fieldLink RX6 128 "FabricsimModel" "delay" "I", Cond.methodLink RX6 193 yX6_spinesLose, Cond.instanceMethod yX6_spinesLose, Cond.selects RX6 yX6_spinesLose yX6_spinesLose, Cond.code yX6_spinesLose cX6_spinesLose 6 none, Cond.fieldLink RX6 35 "FabricsimModel" "lost" "[I", Cond.fieldLink RX6 20 "FabricsimModel" "targets" "[I", Cond.methodLink RX6 138 yX6_north]
def wsX6_pass_r3 : List Cond := [Cond.static yX6_north, Cond.code yX6_north cX6_north 2 (some .int), Cond.methodLink RX6 156 yX6_wanted, Cond.instanceMethod yX6_wanted, Cond.selects RX6 yX6_wanted yX6_wanted, Cond.code yX6_wanted cX6_wanted 4 (some .int), Cond.methodLink RX6 148 yX6_targetOf, Cond.instanceMethod yX6_targetOf, Cond.selects RX6 yX6_targetOf yX6_targetOf, Cond.code yX6_targetOf cX6_targetOf 2 (some .int), Cond.methodLink RX6 142 yX6_south, Cond.static yX6_south, Cond.code yX6_south cX6_south 2 (some .int), Cond.methodLink RX6 145 yX6_isUsable, Cond.instanceMethod yX6_isUsable, Cond.selects RX6 yX6_isUsable yX6_isUsable, Cond.code yX6_isUsable cX6_isUsable 4 (some .boolean), Cond.fieldLink RX6 83 "FabricsimModel" "isCut" "[Z", Cond.methodLink RX6 159 yX6_isShut, Cond.instanceMethod yX6_isShut, Cond.selects RX6 yX6_isShut yX6_isShut, Cond.code yX6_isShut cX6_isShut 2 (some .boolean), Cond.methodLink RX6 196 yX6_leavesChoose, Cond.instanceMethod yX6_leavesChoose]
def wsX6_pass_r4 : List Cond := [Cond.selects RX6 yX6_leavesChoose yX6_leavesChoose, Cond.code yX6_leavesChoose cX6_leavesChoose 3 none, Cond.methodLink RX6 162 yX6_isFar, Cond.instanceMethod yX6_isFar, Cond.selects RX6 yX6_isFar yX6_isFar, Cond.code yX6_isFar cX6_isFar 2 (some .boolean), Cond.fieldLink RX6 16 "FabricsimModel" "sources" "[I", Cond.methodLink RX6 165 yX6_chosen, Cond.instanceMethod yX6_chosen, Cond.selects RX6 yX6_chosen yX6_chosen, Cond.code yX6_chosen cX6_chosen 10 (some .int), Cond.methodLink RX6 199 yX6_linksPick, Cond.instanceMethod yX6_linksPick, Cond.selects RX6 yX6_linksPick yX6_linksPick, Cond.code yX6_linksPick cX6_linksPick 6 none, Cond.fieldLink RX6 62 "FabricsimModel" "lastQueues" "[I", Cond.fieldLink RX6 65 "FabricsimModel" "picked" "[I", Cond.methodLink RX6 168 yX6_queueAt, Cond.static yX6_queueAt, Cond.code yX6_queueAt cX6_queueAt 3 (some .int), Cond.methodLink RX6 202 yX6_hostsPick, Cond.instanceMethod yX6_hostsPick, Cond.selects RX6 yX6_hostsPick yX6_hostsPick, Cond.code yX6_hostsPick cX6_hostsPick 4 none]
def wsX6_pass_r5 : List Cond := [Cond.fieldLink RX6 90 "FabricsimModel" "sending" "[I", Cond.fieldLink RX6 118 "FabricsimModel" "flows" "I", Cond.fieldLink RX6 87 "FabricsimModel" "lastFlows" "[I", Cond.methodLink RX6 174 yX6_maySend, Cond.instanceMethod yX6_maySend, Cond.selects RX6 yX6_maySend yX6_maySend, Cond.code yX6_maySend cX6_maySend 5 (some .boolean), Cond.fieldLink RX6 26 "FabricsimModel" "starts" "[I", Cond.fieldLink RX6 29 "FabricsimModel" "sent" "[I", Cond.fieldLink RX6 13 "FabricsimModel" "window" "I", Cond.methodLink RX6 171 yX6_usableSet, Cond.instanceMethod yX6_usableSet, Cond.selects RX6 yX6_usableSet yX6_usableSet, Cond.code yX6_usableSet cX6_usableSet 5 (some .int), Cond.methodLink RX6 205 yX6_moves, Cond.instanceMethod yX6_moves, Cond.selects RX6 yX6_moves yX6_moves, Cond.code yX6_moves cX6_moves 2 none, Cond.methodLink RX6 177 yX6_takesAlong, Cond.instanceMethod yX6_takesAlong, Cond.selects RX6 yX6_takesAlong yX6_takesAlong, Cond.code yX6_takesAlong cX6_takesAlong 3 none, Cond.fieldLink RX6 96 "FabricsimModel" "movingFlows" "[I", Cond.fieldLink RX6 99 "FabricsimModel" "movingNumbers" "[I"]
def wsX6_pass_r6 : List Cond := [Cond.fieldLink RX6 102 "FabricsimModel" "movingSpines" "[I", Cond.fieldLink RX6 105 "FabricsimModel" "movingFlowlets" "[I", Cond.methodLink RX6 180 yX6_makes, Cond.instanceMethod yX6_makes, Cond.selects RX6 yX6_makes yX6_makes, Cond.code yX6_makes cX6_makes 4 none, Cond.fieldLink RX6 53 "FabricsimModel" "latest" "[I", Cond.fieldLink RX6 7 "FabricsimModel" "gap" "I", Cond.fieldLink RX6 50 "FabricsimModel" "spines" "[I", Cond.fieldLink RX6 47 "FabricsimModel" "flowlets" "[I", Cond.methodLink RX6 183 yX6_arrives, Cond.instanceMethod yX6_arrives, Cond.selects RX6 yX6_arrives yX6_arrives, Cond.code yX6_arrives cX6_arrives 3 none]
def wsX6_pass : List Cond := .code yX6_pass cX6_pass 4 (some .int) :: ((wsX6_pass_r1 ++ (wsX6_pass_r2 ++ (wsX6_pass_r3 ++ (wsX6_pass_r4 ++ (wsX6_pass_r5 ++ wsX6_pass_r6))))) ++ wsX60)
def wsX6_clock : List Cond := .code yX6_clock cX6_clock 1 (some .int) :: ([.fieldLink RX6 111 "FabricsimModel" "thrown" "I", .fieldLink RX6 121 "FabricsimModel" "clock" "I"] ++ wsX60)
def wsX6_flows : List Cond := .code yX6_flows cX6_flows 1 (some .int) :: ([.fieldLink RX6 111 "FabricsimModel" "thrown" "I", .fieldLink RX6 118 "FabricsimModel" "flows" "I"] ++ wsX60)
def wsX6_asks : List Cond := .code yX6_asks cX6_asks 2 (some .boolean) :: ([.methodLink RX6 212 yX6_isFlow, .instanceMethod yX6_isFlow, .selects RX6 yX6_isFlow yX6_isFlow, .initialized RX6, .code yX6_isFlow cX6_isFlow 2 (some .boolean), .fieldLink RX6 118 "FabricsimModel" "flows" "I", .methodLink RX6 114 yX6_isIn, .static yX6_isIn, .code yX6_isIn cX6_isIn 3 (some .boolean), .methodLink RX6 124 yX6_goes, .instanceMethod yX6_goes, .selects RX6 yX6_goes yX6_goes, .code yX6_goes cX6_goes 2 (some .boolean), .fieldLink RX6 111 "FabricsimModel" "thrown" "I"] ++ wsX60)
def wsX6_sent : List Cond := .code yX6_sent cX6_sent 2 (some .int) :: ([.fieldLink RX6 29 "FabricsimModel" "sent" "[I", .methodLink RX6 215 yX6_asks, .instanceMethod yX6_asks, .selects RX6 yX6_asks yX6_asks, .initialized RX6, .code yX6_asks cX6_asks 2 (some .boolean), .methodLink RX6 212 yX6_isFlow, .instanceMethod yX6_isFlow, .selects RX6 yX6_isFlow yX6_isFlow, .code yX6_isFlow cX6_isFlow 2 (some .boolean), .fieldLink RX6 118 "FabricsimModel" "flows" "I", .methodLink RX6 114 yX6_isIn, .static yX6_isIn, .code yX6_isIn cX6_isIn 3 (some .boolean), .methodLink RX6 124 yX6_goes, .instanceMethod yX6_goes, .selects RX6 yX6_goes yX6_goes, .code yX6_goes cX6_goes 2 (some .boolean), .fieldLink RX6 111 "FabricsimModel" "thrown" "I"] ++ wsX60)
def wsX6_delivered : List Cond := .code yX6_delivered cX6_delivered 2 (some .int) :: ([.fieldLink RX6 32 "FabricsimModel" "delivered" "[I", .methodLink RX6 215 yX6_asks, .instanceMethod yX6_asks, .selects RX6 yX6_asks yX6_asks, .initialized RX6, .code yX6_asks cX6_asks 2 (some .boolean), .methodLink RX6 212 yX6_isFlow, .instanceMethod yX6_isFlow, .selects RX6 yX6_isFlow yX6_isFlow, .code yX6_isFlow cX6_isFlow 2 (some .boolean), .fieldLink RX6 118 "FabricsimModel" "flows" "I", .methodLink RX6 114 yX6_isIn, .static yX6_isIn, .code yX6_isIn cX6_isIn 3 (some .boolean), .methodLink RX6 124 yX6_goes, .instanceMethod yX6_goes, .selects RX6 yX6_goes yX6_goes, .code yX6_goes cX6_goes 2 (some .boolean), .fieldLink RX6 111 "FabricsimModel" "thrown" "I"] ++ wsX60)
def wsX6_lost : List Cond := .code yX6_lost cX6_lost 2 (some .int) :: ([.fieldLink RX6 35 "FabricsimModel" "lost" "[I", .methodLink RX6 215 yX6_asks, .instanceMethod yX6_asks, .selects RX6 yX6_asks yX6_asks, .initialized RX6, .code yX6_asks cX6_asks 2 (some .boolean), .methodLink RX6 212 yX6_isFlow, .instanceMethod yX6_isFlow, .selects RX6 yX6_isFlow yX6_isFlow, .code yX6_isFlow cX6_isFlow 2 (some .boolean), .fieldLink RX6 118 "FabricsimModel" "flows" "I", .methodLink RX6 114 yX6_isIn, .static yX6_isIn, .code yX6_isIn cX6_isIn 3 (some .boolean), .methodLink RX6 124 yX6_goes, .instanceMethod yX6_goes, .selects RX6 yX6_goes yX6_goes, .code yX6_goes cX6_goes 2 (some .boolean), .fieldLink RX6 111 "FabricsimModel" "thrown" "I"] ++ wsX60)
def wsX6_outOfOrder : List Cond := .code yX6_outOfOrder cX6_outOfOrder 2 (some .int) :: ([.fieldLink RX6 38 "FabricsimModel" "late" "[I", .methodLink RX6 215 yX6_asks, .instanceMethod yX6_asks, .selects RX6 yX6_asks yX6_asks, .initialized RX6, .code yX6_asks cX6_asks 2 (some .boolean), .methodLink RX6 212 yX6_isFlow, .instanceMethod yX6_isFlow, .selects RX6 yX6_isFlow yX6_isFlow, .code yX6_isFlow cX6_isFlow 2 (some .boolean), .fieldLink RX6 118 "FabricsimModel" "flows" "I", .methodLink RX6 114 yX6_isIn, .static yX6_isIn, .code yX6_isIn cX6_isIn 3 (some .boolean), .methodLink RX6 124 yX6_goes, .instanceMethod yX6_goes, .selects RX6 yX6_goes yX6_goes, .code yX6_goes cX6_goes 2 (some .boolean), .fieldLink RX6 111 "FabricsimModel" "thrown" "I"] ++ wsX60)
def wsX6_doneIn : List Cond := .code yX6_doneIn cX6_doneIn 2 (some .int) :: ([.fieldLink RX6 44 "FabricsimModel" "done" "[I", .methodLink RX6 215 yX6_asks, .instanceMethod yX6_asks, .selects RX6 yX6_asks yX6_asks, .initialized RX6, .code yX6_asks cX6_asks 2 (some .boolean), .methodLink RX6 212 yX6_isFlow, .instanceMethod yX6_isFlow, .selects RX6 yX6_isFlow yX6_isFlow, .code yX6_isFlow cX6_isFlow 2 (some .boolean), .fieldLink RX6 118 "FabricsimModel" "flows" "I", .methodLink RX6 114 yX6_isIn, .static yX6_isIn, .code yX6_isIn cX6_isIn 3 (some .boolean), .methodLink RX6 124 yX6_goes, .instanceMethod yX6_goes, .selects RX6 yX6_goes yX6_goes, .code yX6_goes cX6_goes 2 (some .boolean), .fieldLink RX6 111 "FabricsimModel" "thrown" "I"] ++ wsX60)
def wsX6_flowlets : List Cond := .code yX6_flowlets cX6_flowlets 2 (some .int) :: ([.fieldLink RX6 47 "FabricsimModel" "flowlets" "[I", .methodLink RX6 215 yX6_asks, .instanceMethod yX6_asks, .selects RX6 yX6_asks yX6_asks, .initialized RX6, .code yX6_asks cX6_asks 2 (some .boolean), .methodLink RX6 212 yX6_isFlow, .instanceMethod yX6_isFlow, .selects RX6 yX6_isFlow yX6_isFlow, .code yX6_isFlow cX6_isFlow 2 (some .boolean), .fieldLink RX6 118 "FabricsimModel" "flows" "I", .methodLink RX6 114 yX6_isIn, .static yX6_isIn, .code yX6_isIn cX6_isIn 3 (some .boolean), .methodLink RX6 124 yX6_goes, .instanceMethod yX6_goes, .selects RX6 yX6_goes yX6_goes, .code yX6_goes cX6_goes 2 (some .boolean), .fieldLink RX6 111 "FabricsimModel" "thrown" "I"] ++ wsX60)
def wsX6_spineOf : List Cond := .code yX6_spineOf cX6_spineOf 2 (some .int) :: ([.fieldLink RX6 50 "FabricsimModel" "spines" "[I", .methodLink RX6 215 yX6_asks, .instanceMethod yX6_asks, .selects RX6 yX6_asks yX6_asks, .initialized RX6, .code yX6_asks cX6_asks 2 (some .boolean), .methodLink RX6 212 yX6_isFlow, .instanceMethod yX6_isFlow, .selects RX6 yX6_isFlow yX6_isFlow, .code yX6_isFlow cX6_isFlow 2 (some .boolean), .fieldLink RX6 118 "FabricsimModel" "flows" "I", .methodLink RX6 114 yX6_isIn, .static yX6_isIn, .code yX6_isIn cX6_isIn 3 (some .boolean), .methodLink RX6 124 yX6_goes, .instanceMethod yX6_goes, .selects RX6 yX6_goes yX6_goes, .code yX6_goes cX6_goes 2 (some .boolean), .fieldLink RX6 111 "FabricsimModel" "thrown" "I"] ++ wsX60)
def wsX6_upQueue : List Cond := .code yX6_upQueue cX6_upQueue 2 (some .int) :: ([.fieldLink RX6 59 "FabricsimModel" "sizes" "[I", .methodLink RX6 131 yX6_isHost, .static yX6_isHost, .initialized RX6, .code yX6_isHost cX6_isHost 1 (some .boolean), .methodLink RX6 114 yX6_isIn, .static yX6_isIn, .code yX6_isIn cX6_isIn 3 (some .boolean), .methodLink RX6 124 yX6_goes, .instanceMethod yX6_goes, .selects RX6 yX6_goes yX6_goes, .code yX6_goes cX6_goes 2 (some .boolean), .fieldLink RX6 111 "FabricsimModel" "thrown" "I"] ++ wsX60)
def wsX6_downQueue : List Cond := .code yX6_downQueue cX6_downQueue 2 (some .int) :: ([.fieldLink RX6 59 "FabricsimModel" "sizes" "[I", .methodLink RX6 131 yX6_isHost, .static yX6_isHost, .initialized RX6, .code yX6_isHost cX6_isHost 1 (some .boolean), .methodLink RX6 114 yX6_isIn, .static yX6_isIn, .code yX6_isIn cX6_isIn 3 (some .boolean), .methodLink RX6 124 yX6_goes, .instanceMethod yX6_goes, .selects RX6 yX6_goes yX6_goes, .code yX6_goes cX6_goes 2 (some .boolean), .fieldLink RX6 111 "FabricsimModel" "thrown" "I"] ++ wsX60)
def wsX6_northQueue : List Cond := .code yX6_northQueue cX6_northQueue 3 (some .int) :: ([.fieldLink RX6 59 "FabricsimModel" "sizes" "[I", .methodLink RX6 134 yX6_areFour, .static yX6_areFour, .initialized RX6, .code yX6_areFour cX6_areFour 2 (some .boolean), .methodLink RX6 114 yX6_isIn, .static yX6_isIn, .code yX6_isIn cX6_isIn 3 (some .boolean), .methodLink RX6 124 yX6_goes, .instanceMethod yX6_goes, .selects RX6 yX6_goes yX6_goes, .code yX6_goes cX6_goes 2 (some .boolean), .fieldLink RX6 111 "FabricsimModel" "thrown" "I", .methodLink RX6 138 yX6_north, .static yX6_north, .code yX6_north cX6_north 2 (some .int)] ++ wsX60)
def wsX6_southQueue : List Cond := .code yX6_southQueue cX6_southQueue 3 (some .int) :: ([.fieldLink RX6 59 "FabricsimModel" "sizes" "[I", .methodLink RX6 134 yX6_areFour, .static yX6_areFour, .initialized RX6, .code yX6_areFour cX6_areFour 2 (some .boolean), .methodLink RX6 114 yX6_isIn, .static yX6_isIn, .code yX6_isIn cX6_isIn 3 (some .boolean), .methodLink RX6 124 yX6_goes, .instanceMethod yX6_goes, .selects RX6 yX6_goes yX6_goes, .code yX6_goes cX6_goes 2 (some .boolean), .fieldLink RX6 111 "FabricsimModel" "thrown" "I", .methodLink RX6 142 yX6_south, .static yX6_south, .code yX6_south cX6_south 2 (some .int)] ++ wsX60)
def wsX6_upCredits : List Cond := .code yX6_upCredits cX6_upCredits 2 (some .int) :: ([.fieldLink RX6 56 "FabricsimModel" "credits" "[I", .methodLink RX6 131 yX6_isHost, .static yX6_isHost, .initialized RX6, .code yX6_isHost cX6_isHost 1 (some .boolean), .methodLink RX6 114 yX6_isIn, .static yX6_isIn, .code yX6_isIn cX6_isIn 3 (some .boolean), .methodLink RX6 124 yX6_goes, .instanceMethod yX6_goes, .selects RX6 yX6_goes yX6_goes, .code yX6_goes cX6_goes 2 (some .boolean), .fieldLink RX6 111 "FabricsimModel" "thrown" "I"] ++ wsX60)
def wsX6_northCredits : List Cond := .code yX6_northCredits cX6_northCredits 3 (some .int) :: ([.fieldLink RX6 56 "FabricsimModel" "credits" "[I", .methodLink RX6 134 yX6_areFour, .static yX6_areFour, .initialized RX6, .code yX6_areFour cX6_areFour 2 (some .boolean), .methodLink RX6 114 yX6_isIn, .static yX6_isIn, .code yX6_isIn cX6_isIn 3 (some .boolean), .methodLink RX6 124 yX6_goes, .instanceMethod yX6_goes, .selects RX6 yX6_goes yX6_goes, .code yX6_goes cX6_goes 2 (some .boolean), .fieldLink RX6 111 "FabricsimModel" "thrown" "I", .methodLink RX6 138 yX6_north, .static yX6_north, .code yX6_north cX6_north 2 (some .int)] ++ wsX60)
def wsX6_returning : List Cond := .code yX6_returning cX6_returning 3 (some .int) :: ([.fieldLink RX6 111 "FabricsimModel" "thrown" "I", .fieldLink RX6 68 "FabricsimModel" "returns" "[I"] ++ wsX60)
def wsX6_queued : List Cond := .code yX6_queued cX6_queued 3 (some .int) :: ([.fieldLink RX6 111 "FabricsimModel" "thrown" "I", .fieldLink RX6 59 "FabricsimModel" "sizes" "[I"] ++ wsX60)
def wsX6_open : List Cond := .code yX6_open cX6_open 2 (some .int) :: ([.fieldLink RX6 93 "FabricsimModel" "open" "[I", .methodLink RX6 131 yX6_isHost, .static yX6_isHost, .initialized RX6, .code yX6_isHost cX6_isHost 1 (some .boolean), .methodLink RX6 114 yX6_isIn, .static yX6_isIn, .code yX6_isIn cX6_isIn 3 (some .boolean), .methodLink RX6 124 yX6_goes, .instanceMethod yX6_goes, .selects RX6 yX6_goes yX6_goes, .code yX6_goes cX6_goes 2 (some .boolean), .fieldLink RX6 111 "FabricsimModel" "thrown" "I"] ++ wsX60)
def wsX6_usable : List Cond := .code yX6_usable cX6_usable 3 (some .int) :: ([.methodLink RX6 134 yX6_areFour, .static yX6_areFour, .initialized RX6, .code yX6_areFour cX6_areFour 2 (some .boolean), .methodLink RX6 114 yX6_isIn, .static yX6_isIn, .code yX6_isIn cX6_isIn 3 (some .boolean), .methodLink RX6 124 yX6_goes, .instanceMethod yX6_goes, .selects RX6 yX6_goes yX6_goes, .code yX6_goes cX6_goes 2 (some .boolean), .fieldLink RX6 111 "FabricsimModel" "thrown" "I", .methodLink RX6 171 yX6_usableSet, .instanceMethod yX6_usableSet, .selects RX6 yX6_usableSet yX6_usableSet, .code yX6_usableSet cX6_usableSet 5 (some .int), .methodLink RX6 145 yX6_isUsable, .instanceMethod yX6_isUsable, .selects RX6 yX6_isUsable yX6_isUsable, .code yX6_isUsable cX6_isUsable 4 (some .boolean), .fieldLink RX6 83 "FabricsimModel" "isCut" "[Z"] ++ wsX60)
def wsX6_toSend : List Cond := .code yX6_toSend cX6_toSend 2 (some .int) :: ([.fieldLink RX6 23 "FabricsimModel" "packets" "[I", .fieldLink RX6 29 "FabricsimModel" "sent" "[I", .fieldLink RX6 35 "FabricsimModel" "lost" "[I"] ++ wsX60)
def wsX6_sum : List Cond := .code yX6_sum cX6_sum 7 (some .int) :: ([.fieldLink RX6 118 "FabricsimModel" "flows" "I", .fieldLink RX6 16 "FabricsimModel" "sources" "[I", .fieldLink RX6 20 "FabricsimModel" "targets" "[I", .methodLink RX6 162 yX6_isFar, .instanceMethod yX6_isFar, .selects RX6 yX6_isFar yX6_isFar, .initialized RX6, .code yX6_isFar cX6_isFar 2 (some .boolean), .methodLink RX6 218 yX6_toSend, .instanceMethod yX6_toSend, .selects RX6 yX6_toSend yX6_toSend, .code yX6_toSend cX6_toSend 2 (some .int), .fieldLink RX6 23 "FabricsimModel" "packets" "[I", .fieldLink RX6 29 "FabricsimModel" "sent" "[I", .fieldLink RX6 35 "FabricsimModel" "lost" "[I"] ++ wsX60)
def wsX6_uncut : List Cond := .code yX6_uncut cX6_uncut 4 (some .int) :: ([.fieldLink RX6 83 "FabricsimModel" "isCut" "[Z"] ++ wsX60)
def wsX6_leastTicks_r1 : List Cond := [Cond.fieldLink RX6 111 "FabricsimModel" "thrown" "I", Cond.methodLink RX6 221 yX6_sum, Cond.instanceMethod yX6_sum, Cond.selects RX6 yX6_sum yX6_sum, Cond.initialized RX6, Cond.code yX6_sum cX6_sum 7 (some .int), Cond.fieldLink RX6 118 "FabricsimModel" "flows" "I", Cond.fieldLink RX6 16 "FabricsimModel" "sources" "[I", Cond.fieldLink RX6 20 "FabricsimModel" "targets" "[I", Cond.methodLink RX6 162 yX6_isFar, Cond.instanceMethod yX6_isFar, Cond.selects RX6 yX6_isFar yX6_isFar, Cond.code yX6_isFar cX6_isFar 2 (some .boolean), Cond.methodLink RX6 218 yX6_toSend, Cond.instanceMethod yX6_toSend, Cond.selects RX6 yX6_toSend yX6_toSend, Cond.code yX6_toSend cX6_toSend 2 (some .int), Cond.fieldLink RX6 23 "FabricsimModel" "packets" "[I", Cond.fieldLink RX6 29 "FabricsimModel" "sent" "[I", Cond.fieldLink RX6 35 "FabricsimModel" "lost" "[I", Cond.methodLink RX6 224 yX6_uncut, Cond.instanceMethod yX6_uncut, Cond.selects RX6 yX6_uncut yX6_uncut, Cond.code yX6_uncut cX6_uncut 4 (some .int)]
def wsX6_leastTicks_r2 : List Cond := [Cond.fieldLink RX6 83 "FabricsimModel" "isCut" "[Z"]
def wsX6_leastTicks : List Cond := .code yX6_leastTicks cX6_leastTicks 7 (some .int) :: ((wsX6_leastTicks_r1 ++ wsX6_leastTicks_r2) ++ wsX60)
def wsJ9_max_7cf53 : List Cond := .code yJ9_max_7cf53 cJ9_max_7cf53 2 (some .int) :: ([])
def wsL_reset_r1 : List Cond := [Cond.classLink RL 13 "java/lang/IllegalArgumentException", Cond.methodLink RL 7 yX5_reset, Cond.instanceMethod yX5_reset, Cond.selects RX5 yX5_reset yX5_reset, Cond.initialized RX5, Cond.code yX5_reset cX5_reset 4 none, Cond.classLink RX5 107 "java/lang/IllegalArgumentException", Cond.initialized "java/lang/IllegalArgumentException", Cond.methodLink RX5 103 yX5_isOutside, Cond.static yX5_isOutside, Cond.code yX5_isOutside cX5_isOutside 3 (some .boolean), Cond.methodLink RX5 66 yX5_begin, Cond.instanceMethod yX5_begin, Cond.selects RX5 yX5_begin yX5_begin, Cond.code yX5_begin cX5_begin 5 none, Cond.fieldLink RX5 83 "Fabricsim" "delay" "I", Cond.fieldLink RX5 87 "Fabricsim" "gap" "I", Cond.fieldLink RX5 90 "Fabricsim" "window" "I", Cond.fieldLink RX5 93 "Fabricsim" "flowCount" "I", Cond.fieldLink RX5 96 "Fabricsim" "nextTick" "I", Cond.fieldLink RX5 23 "Fabricsim" "links" "[LFabricsim$Link;", Cond.fieldLink RX5 17 "Fabricsim" "hosts" "[LFabricsim$Host;", Cond.fieldLink RX5 42 "Fabricsim" "uncut" "[I", Cond.instanceMethod yX2_clear]
def wsL_reset_r2 : List Cond := [Cond.initialized RX2, Cond.selects RX2 yX2_clear yX2_clear, Cond.code yX2_clear cX2_clear 2 none, Cond.fieldLink RX2 17 "Fabricsim$Link" "backInSlot" "[I", Cond.fieldLink RX2 22 "Fabricsim$Link" "first" "I", Cond.fieldLink RX2 26 "Fabricsim$Link" "waiting" "I", Cond.fieldLink RX2 29 "Fabricsim$Link" "credits" "I", Cond.fieldLink RX2 32 "Fabricsim$Link" "lastPlace" "I", Cond.fieldLink RX2 35 "Fabricsim$Link" "pickedPlace" "I", Cond.instanceMethod yX1_clear, Cond.initialized RX1, Cond.selects RX1 yX1_clear yX1_clear, Cond.code yX1_clear cX1_clear 1 none, Cond.fieldLink RX1 21 "Fabricsim$Host" "openPackets" "I", Cond.fieldLink RX1 25 "Fabricsim$Host" "lastFlow" "I"]
def wsL_reset : List Cond := .codeWith yL_reset cL_reset 5 (some .int) [(0, 7, 10, 13)] :: ((wsL_reset_r1 ++ wsL_reset_r2) ++ wsX50 ++ wsX20 ++ wsX10 ++ (vx_atS RX5 111 "java/lang/IllegalArgumentException" ["java/lang/RuntimeException", "java/lang/Exception"]).filter goodWord)
def wsL_addFlow_r1 : List Cond := [Cond.classLink RL 13 "java/lang/IllegalArgumentException", Cond.classLink RL 19 "java/lang/IllegalStateException", Cond.methodLink RL 15 yX5_addFlow, Cond.instanceMethod yX5_addFlow, Cond.selects RX5 yX5_addFlow yX5_addFlow, Cond.initialized RX5, Cond.code yX5_addFlow cX5_addFlow 5 (some .int), Cond.classLink RX5 107 "java/lang/IllegalArgumentException", Cond.initialized "java/lang/IllegalArgumentException", Cond.classLink RX5 121 "java/lang/IllegalStateException", Cond.initialized "java/lang/IllegalStateException", Cond.fieldLink RX5 93 "Fabricsim" "flowCount" "I", Cond.fieldLink RX5 11 "Fabricsim" "flowRows" "[LFabricsim$Flow;", Cond.fieldLink RX5 96 "Fabricsim" "nextTick" "I", Cond.methodLink RX5 114 yX5_checkHost, Cond.static yX5_checkHost, Cond.code yX5_checkHost cX5_checkHost 1 none, Cond.methodLink RX5 103 yX5_isOutside, Cond.static yX5_isOutside, Cond.code yX5_isOutside cX5_isOutside 3 (some .boolean), Cond.instanceMethod yX0_begin, Cond.initialized RX0, Cond.selects RX0 yX0_begin yX0_begin, Cond.code yX0_begin cX0_begin 5 none]
def wsL_addFlow_r2 : List Cond := [Cond.fieldLink RX0 9 "Fabricsim$Flow" "source" "I", Cond.fieldLink RX0 15 "Fabricsim$Flow" "target" "I", Cond.fieldLink RX0 18 "Fabricsim$Flow" "packets" "I", Cond.fieldLink RX0 21 "Fabricsim$Flow" "start" "I", Cond.fieldLink RX0 24 "Fabricsim$Flow" "sentPackets" "I", Cond.fieldLink RX0 27 "Fabricsim$Flow" "deliveredPackets" "I", Cond.fieldLink RX0 30 "Fabricsim$Flow" "lostPackets" "I", Cond.fieldLink RX0 33 "Fabricsim$Flow" "latePackets" "I", Cond.fieldLink RX0 36 "Fabricsim$Flow" "greatestDelivered" "I", Cond.fieldLink RX0 39 "Fabricsim$Flow" "doneTick" "I", Cond.fieldLink RX0 42 "Fabricsim$Flow" "flowletCount" "I", Cond.fieldLink RX0 45 "Fabricsim$Flow" "spine" "I", Cond.fieldLink RX0 48 "Fabricsim$Flow" "lastSentTick" "I"]
def wsL_addFlow : List Cond := .codeWith yL_addFlow cL_addFlow 7 (some .int) [(0, 14, 17, 13), (0, 14, 21, 19)] :: ((wsL_addFlow_r1 ++ wsL_addFlow_r2) ++ wsX50 ++ wsX00 ++ (vx_atS RX5 111 "java/lang/IllegalArgumentException" ["java/lang/RuntimeException", "java/lang/Exception"]).filter goodWord ++ (vx_atS RX5 125 "java/lang/IllegalStateException" ["java/lang/RuntimeException", "java/lang/Exception"]).filter goodWord)
def wsL_cut_r1 : List Cond := [Cond.classLink RL 13 "java/lang/IllegalArgumentException", Cond.classLink RL 19 "java/lang/IllegalStateException", Cond.methodLink RL 21 yX5_cut, Cond.instanceMethod yX5_cut, Cond.selects RX5 yX5_cut yX5_cut, Cond.initialized RX5, Cond.code yX5_cut cX5_cut 3 (some .int), Cond.classLink RX5 121 "java/lang/IllegalStateException", Cond.initialized "java/lang/IllegalStateException", Cond.fieldLink RX5 42 "Fabricsim" "uncut" "[I", Cond.methodLink RX5 129 yX5_checkConnection, Cond.static yX5_checkConnection, Cond.code yX5_checkConnection cX5_checkConnection 2 none, Cond.classLink RX5 107 "java/lang/IllegalArgumentException", Cond.initialized "java/lang/IllegalArgumentException", Cond.methodLink RX5 103 yX5_isOutside, Cond.static yX5_isOutside, Cond.code yX5_isOutside cX5_isOutside 3 (some .boolean), Cond.methodLink RX5 132 yX5_isCut, Cond.instanceMethod yX5_isCut, Cond.selects RX5 yX5_isCut yX5_isCut, Cond.code yX5_isCut cX5_isCut 3 (some .boolean), Cond.methodLink RX5 80 yX5_northOf, Cond.instanceMethod yX5_northOf]
def wsL_cut_r2 : List Cond := [Cond.selects RX5 yX5_northOf yX5_northOf, Cond.code yX5_northOf cX5_northOf 3 (some (.object "Fabricsim$Link")), Cond.fieldLink RX5 27 "Fabricsim" "norths" "[LFabricsim$Link;", Cond.methodLink RX5 76 yX5_southOf, Cond.instanceMethod yX5_southOf, Cond.selects RX5 yX5_southOf yX5_southOf, Cond.code yX5_southOf cX5_southOf 3 (some (.object "Fabricsim$Link")), Cond.fieldLink RX5 30 "Fabricsim" "souths" "[LFabricsim$Link;"]
def wsL_cut : List Cond := .codeWith yL_cut cL_cut 5 (some .int) [(0, 10, 13, 13), (0, 10, 17, 19)] :: ((wsL_cut_r1 ++ wsL_cut_r2) ++ wsX50 ++ wsX20 ++ (vx_atS RX5 125 "java/lang/IllegalStateException" ["java/lang/RuntimeException", "java/lang/Exception"]).filter goodWord ++ (vx_atS RX5 111 "java/lang/IllegalArgumentException" ["java/lang/RuntimeException", "java/lang/Exception"]).filter goodWord)
def wsL_restore_r1 : List Cond := [Cond.classLink RL 13 "java/lang/IllegalArgumentException", Cond.classLink RL 19 "java/lang/IllegalStateException", Cond.methodLink RL 25 yX5_restore, Cond.instanceMethod yX5_restore, Cond.selects RX5 yX5_restore yX5_restore, Cond.initialized RX5, Cond.code yX5_restore cX5_restore 5 (some .int), Cond.classLink RX5 121 "java/lang/IllegalStateException", Cond.initialized "java/lang/IllegalStateException", Cond.fieldLink RX5 42 "Fabricsim" "uncut" "[I", Cond.methodLink RX5 129 yX5_checkConnection, Cond.static yX5_checkConnection, Cond.code yX5_checkConnection cX5_checkConnection 2 none, Cond.classLink RX5 107 "java/lang/IllegalArgumentException", Cond.initialized "java/lang/IllegalArgumentException", Cond.methodLink RX5 103 yX5_isOutside, Cond.static yX5_isOutside, Cond.code yX5_isOutside cX5_isOutside 3 (some .boolean), Cond.methodLink RX5 132 yX5_isCut, Cond.instanceMethod yX5_isCut, Cond.selects RX5 yX5_isCut yX5_isCut, Cond.code yX5_isCut cX5_isCut 3 (some .boolean), Cond.methodLink RX5 143 yJ6_bitCount_0f7a4, Cond.static yJ6_bitCount_0f7a4]
def wsL_restore_r2 : List Cond := [Cond.initialized RJ6, Cond.code yJ6_bitCount_0f7a4 cJ6_bitCount_0f7a4 1 (some .int), Cond.constant RJ6 265 (1431655765), Cond.constant RJ6 266 (858993459), Cond.constant RJ6 267 (252645135)]
def wsL_restore : List Cond := .codeWith yL_restore cL_restore 5 (some .int) [(0, 10, 13, 13), (0, 10, 17, 19)] :: ((wsL_restore_r1 ++ wsL_restore_r2) ++ wsX50 ++ (vx_atS RX5 125 "java/lang/IllegalStateException" ["java/lang/RuntimeException", "java/lang/Exception"]).filter goodWord ++ (vx_atS RX5 111 "java/lang/IllegalArgumentException" ["java/lang/RuntimeException", "java/lang/Exception"]).filter goodWord)
def wsL_pass_r1 : List Cond := [Cond.classLink RL 13 "java/lang/IllegalArgumentException", Cond.classLink RL 19 "java/lang/IllegalStateException", Cond.methodLink RL 28 yX5_pass, Cond.instanceMethod yX5_pass, Cond.selects RX5 yX5_pass yX5_pass, Cond.initialized RX5, Cond.code yX5_pass cX5_pass 4 (some .int), Cond.classLink RX5 107 "java/lang/IllegalArgumentException", Cond.initialized "java/lang/IllegalArgumentException", Cond.classLink RX5 121 "java/lang/IllegalStateException", Cond.initialized "java/lang/IllegalStateException", Cond.fieldLink RX5 96 "Fabricsim" "nextTick" "I", Cond.constant RX5 151 (100000), Cond.methodLink RX5 103 yX5_isOutside, Cond.static yX5_isOutside, Cond.code yX5_isOutside cX5_isOutside 3 (some .boolean), Cond.methodLink RX5 154 yX5_runTick, Cond.instanceMethod yX5_runTick, Cond.selects RX5 yX5_runTick yX5_runTick, Cond.code yX5_runTick cX5_runTick 3 (some .int), Cond.fieldLink RX5 83 "Fabricsim" "delay" "I", Cond.methodLink RX5 233 yX5_takeCreditsBack, Cond.instanceMethod yX5_takeCreditsBack, Cond.selects RX5 yX5_takeCreditsBack yX5_takeCreditsBack]
def wsL_pass_r2 : List Cond := [Cond.code yX5_takeCreditsBack cX5_takeCreditsBack 3 none, Cond.fieldLink RX5 23 "Fabricsim" "links" "[LFabricsim$Link;", Cond.instanceMethod yX2_takeBack, Cond.initialized RX2, Cond.selects RX2 yX2_takeBack yX2_takeBack, Cond.code yX2_takeBack cX2_takeBack 2 none, Cond.fieldLink RX2 29 "Fabricsim$Link" "credits" "I", Cond.fieldLink RX2 17 "Fabricsim$Link" "backInSlot" "[I", Cond.methodLink RX5 236 yX5_deliverAll, Cond.instanceMethod yX5_deliverAll, Cond.selects RX5 yX5_deliverAll yX5_deliverAll, Cond.code yX5_deliverAll cX5_deliverAll 6 (some .int), Cond.fieldLink RX5 17 "Fabricsim" "hosts" "[LFabricsim$Host;", Cond.fieldLink RX5 11 "Fabricsim" "flowRows" "[LFabricsim$Flow;", Cond.instanceMethod yX2_firstPacket, Cond.selects RX2 yX2_firstPacket yX2_firstPacket, Cond.code yX2_firstPacket cX2_firstPacket 1 (some (.object "Fabricsim$Packet")), Cond.fieldLink RX2 11 "Fabricsim$Link" "ring" "[LFabricsim$Packet;", Cond.fieldLink RX2 22 "Fabricsim$Link" "first" "I", Cond.instanceMethod yX0_countDelivered, Cond.initialized RX0, Cond.selects RX0 yX0_countDelivered yX0_countDelivered, Cond.code yX0_countDelivered cX0_countDelivered 3 none, Cond.fieldLink RX0 27 "Fabricsim$Flow" "deliveredPackets" "I"]
def wsL_pass_r3 : List Cond := [Cond.fieldLink RX0 36 "Fabricsim$Flow" "greatestDelivered" "I", Cond.fieldLink RX0 33 "Fabricsim$Flow" "latePackets" "I", Cond.fieldLink RX0 18 "Fabricsim$Flow" "packets" "I", Cond.fieldLink RX0 39 "Fabricsim$Flow" "doneTick" "I", Cond.instanceMethod yX2_drop, Cond.selects RX2 yX2_drop yX2_drop, Cond.code yX2_drop cX2_drop 2 none, Cond.fieldLink RX2 26 "Fabricsim$Link" "waiting" "I", Cond.methodLink RX5 239 yX5_loseAtSpines, Cond.instanceMethod yX5_loseAtSpines, Cond.selects RX5 yX5_loseAtSpines yX5_loseAtSpines, Cond.code yX5_loseAtSpines cX5_loseAtSpines 6 none, Cond.methodLink RX5 80 yX5_northOf, Cond.instanceMethod yX5_northOf, Cond.selects RX5 yX5_northOf yX5_northOf, Cond.code yX5_northOf cX5_northOf 3 (some (.object "Fabricsim$Link")), Cond.fieldLink RX5 27 "Fabricsim" "norths" "[LFabricsim$Link;", Cond.instanceMethod yX0_targetLeaf, Cond.selects RX0 yX0_targetLeaf yX0_targetLeaf, Cond.code yX0_targetLeaf cX0_targetLeaf 1 (some .int), Cond.fieldLink RX0 15 "Fabricsim$Flow" "target" "I", Cond.methodLink RX5 132 yX5_isCut, Cond.instanceMethod yX5_isCut, Cond.selects RX5 yX5_isCut yX5_isCut]
def wsL_pass_r4 : List Cond := [Cond.code yX5_isCut cX5_isCut 3 (some .boolean), Cond.fieldLink RX5 42 "Fabricsim" "uncut" "[I", Cond.methodLink RX5 242 yX5_aimAtLeaves, Cond.instanceMethod yX5_aimAtLeaves, Cond.selects RX5 yX5_aimAtLeaves yX5_aimAtLeaves, Cond.code yX5_aimAtLeaves cX5_aimAtLeaves 4 none, Cond.fieldLink RX5 35 "Fabricsim" "leaves" "[LFabricsim$Node;", Cond.methodLink RX5 281 yX5_wantedAtLeaf, Cond.instanceMethod yX5_wantedAtLeaf, Cond.selects RX5 yX5_wantedAtLeaf yX5_wantedAtLeaf, Cond.code yX5_wantedAtLeaf cX5_wantedAtLeaf 6 (some .int), Cond.methodLink RX5 286 yX5_isUsable, Cond.instanceMethod yX5_isUsable, Cond.selects RX5 yX5_isUsable yX5_isUsable, Cond.code yX5_isUsable cX5_isUsable 4 (some .boolean), Cond.methodLink RX5 193 yX5_usableSpines, Cond.instanceMethod yX5_usableSpines, Cond.selects RX5 yX5_usableSpines yX5_usableSpines, Cond.code yX5_usableSpines cX5_usableSpines 3 (some .int), Cond.methodLink RX5 292 yX5_chosenSpine, Cond.instanceMethod yX5_chosenSpine, Cond.selects RX5 yX5_chosenSpine yX5_chosenSpine, Cond.code yX5_chosenSpine cX5_chosenSpine 8 (some .int), Cond.instanceMethod yX0_sourceLeaf]
def wsL_pass_r5 : List Cond := [Cond.selects RX0 yX0_sourceLeaf yX0_sourceLeaf, Cond.code yX0_sourceLeaf cX0_sourceLeaf 1 (some .int), Cond.fieldLink RX0 9 "Fabricsim$Flow" "source" "I", Cond.methodLink RX5 143 yJ6_bitCount_0f7a4, Cond.static yJ6_bitCount_0f7a4, Cond.initialized RJ6, Cond.code yJ6_bitCount_0f7a4 cJ6_bitCount_0f7a4 1 (some .int), Cond.constant RJ6 265 (1431655765), Cond.constant RJ6 266 (858993459), Cond.constant RJ6 267 (252645135), Cond.methodLink RX5 245 yX5_aimAtSpines, Cond.instanceMethod yX5_aimAtSpines, Cond.selects RX5 yX5_aimAtSpines yX5_aimAtSpines, Cond.code yX5_aimAtSpines cX5_aimAtSpines 4 none, Cond.fieldLink RX5 39 "Fabricsim" "spines" "[LFabricsim$Node;", Cond.methodLink RX5 295 yX5_wantedAtSpine, Cond.instanceMethod yX5_wantedAtSpine, Cond.selects RX5 yX5_wantedAtSpine yX5_wantedAtSpine, Cond.code yX5_wantedAtSpine cX5_wantedAtSpine 4 (some .int), Cond.methodLink RX5 248 yX5_pickAll, Cond.instanceMethod yX5_pickAll, Cond.selects RX5 yX5_pickAll yX5_pickAll, Cond.code yX5_pickAll cX5_pickAll 2 none, Cond.instanceMethod yX3_pick]
def wsL_pass_r6 : List Cond := [Cond.initialized RX3, Cond.selects RX3 yX3_pick yX3_pick, Cond.code yX3_pick cX3_pick 2 none, Cond.fieldLink RX3 17 "Fabricsim$Node" "out" "[LFabricsim$Link;", Cond.fieldLink RX3 20 "Fabricsim$Node" "wanted" "[I", Cond.instanceMethod yX2_pick, Cond.selects RX2 yX2_pick yX2_pick, Cond.code yX2_pick cX2_pick 5 none, Cond.fieldLink RX2 35 "Fabricsim$Link" "pickedPlace" "I", Cond.fieldLink RX2 32 "Fabricsim$Link" "lastPlace" "I", Cond.methodLink RX5 251 yX5_moveAll, Cond.instanceMethod yX5_moveAll, Cond.selects RX5 yX5_moveAll yX5_moveAll, Cond.code yX5_moveAll cX5_moveAll 3 none, Cond.instanceMethod yX3_move, Cond.selects RX3 yX3_move yX3_move, Cond.code yX3_move cX3_move 5 none, Cond.fieldLink RX3 11 "Fabricsim$Node" "in" "[LFabricsim$Link;", Cond.instanceMethod yX2_put, Cond.selects RX2 yX2_put yX2_put, Cond.code yX2_put cX2_put 5 none, Cond.instanceMethod yX4_write, Cond.initialized RX4, Cond.selects RX4 yX4_write yX4_write]
def wsL_pass_r7 : List Cond := [Cond.code yX4_write cX4_write 5 none, Cond.fieldLink RX4 7 "Fabricsim$Packet" "flow" "I", Cond.fieldLink RX4 13 "Fabricsim$Packet" "number" "I", Cond.fieldLink RX4 16 "Fabricsim$Packet" "flowlet" "I", Cond.fieldLink RX4 19 "Fabricsim$Packet" "spine" "I", Cond.methodLink RX5 254 yX5_sendAll, Cond.instanceMethod yX5_sendAll, Cond.selects RX5 yX5_sendAll yX5_sendAll, Cond.code yX5_sendAll cX5_sendAll 4 none, Cond.methodLink RX5 307 yX5_pickedFlow, Cond.instanceMethod yX5_pickedFlow, Cond.selects RX5 yX5_pickedFlow yX5_pickedFlow, Cond.code yX5_pickedFlow cX5_pickedFlow 5 (some .int), Cond.fieldLink RX5 93 "Fabricsim" "flowCount" "I", Cond.methodLink RX5 314 yX5_canSend, Cond.instanceMethod yX5_canSend, Cond.selects RX5 yX5_canSend yX5_canSend, Cond.code yX5_canSend cX5_canSend 2 (some .boolean), Cond.fieldLink RX5 90 "Fabricsim" "window" "I", Cond.instanceMethod yX0_unsent, Cond.selects RX0 yX0_unsent yX0_unsent, Cond.code yX0_unsent cX0_unsent 1 (some .int), Cond.fieldLink RX0 24 "Fabricsim$Flow" "sentPackets" "I", Cond.fieldLink RX0 30 "Fabricsim$Flow" "lostPackets" "I"]
def wsL_pass_r8 : List Cond := [Cond.instanceMethod yX0_crossesLeaves, Cond.selects RX0 yX0_crossesLeaves yX0_crossesLeaves, Cond.code yX0_crossesLeaves cX0_crossesLeaves 1 (some .boolean), Cond.methodLink RX0 51 yX0_sourceLeaf, Cond.methodLink RX0 55 yX0_targetLeaf, Cond.methodLink RX5 310 yX5_send, Cond.instanceMethod yX5_send, Cond.selects RX5 yX5_send yX5_send, Cond.code yX5_send cX5_send 4 none, Cond.methodLink RX5 321 yX5_needsFlowlet, Cond.instanceMethod yX5_needsFlowlet, Cond.selects RX5 yX5_needsFlowlet yX5_needsFlowlet, Cond.code yX5_needsFlowlet cX5_needsFlowlet 2 (some .boolean), Cond.fieldLink RX5 87 "Fabricsim" "gap" "I"]
def wsL_pass : List Cond := .codeWith yL_pass cL_pass 4 (some .int) [(0, 9, 12, 13), (0, 9, 15, 19)] :: ((wsL_pass_r1 ++ (wsL_pass_r2 ++ (wsL_pass_r3 ++ (wsL_pass_r4 ++ (wsL_pass_r5 ++ (wsL_pass_r6 ++ (wsL_pass_r7 ++ wsL_pass_r8))))))) ++ wsX50 ++ wsX20 ++ wsX10 ++ wsX40 ++ wsX00 ++ wsX30 ++ (vx_atS RX5 111 "java/lang/IllegalArgumentException" ["java/lang/RuntimeException", "java/lang/Exception"]).filter goodWord ++ (vx_atS RX5 125 "java/lang/IllegalStateException" ["java/lang/RuntimeException", "java/lang/Exception"]).filter goodWord)
def wsL_sent : List Cond := .codeWith yL_sent cL_sent 4 (some .int) [(0, 9, 12, 35)] :: ([.classLink RL 35 "java/lang/IndexOutOfBoundsException", .methodLink RL 32 yX5_sent, .instanceMethod yX5_sent, .selects RX5 yX5_sent yX5_sent, .initialized RX5, .code yX5_sent cX5_sent 2 (some .int), .fieldLink RX5 11 "Fabricsim" "flowRows" "[LFabricsim$Flow;", .methodLink RX5 158 yX5_checkFlow, .instanceMethod yX5_checkFlow, .selects RX5 yX5_checkFlow yX5_checkFlow, .code yX5_checkFlow cX5_checkFlow 2 none, .classLink RX5 334 "java/lang/IndexOutOfBoundsException", .initialized "java/lang/IndexOutOfBoundsException", .fieldLink RX5 93 "Fabricsim" "flowCount" "I", .methodLink RX5 103 yX5_isOutside, .static yX5_isOutside, .code yX5_isOutside cX5_isOutside 3 (some .boolean)] ++ wsX50 ++ wsX00 ++ (vx_atS RX5 338 "java/lang/IndexOutOfBoundsException" ["java/lang/RuntimeException", "java/lang/Exception"]).filter goodWord)
def wsL_delivered : List Cond := .codeWith yL_delivered cL_delivered 4 (some .int) [(0, 9, 12, 35)] :: ([.classLink RL 35 "java/lang/IndexOutOfBoundsException", .methodLink RL 37 yX5_delivered, .instanceMethod yX5_delivered, .selects RX5 yX5_delivered yX5_delivered, .initialized RX5, .code yX5_delivered cX5_delivered 2 (some .int), .fieldLink RX5 11 "Fabricsim" "flowRows" "[LFabricsim$Flow;", .methodLink RX5 158 yX5_checkFlow, .instanceMethod yX5_checkFlow, .selects RX5 yX5_checkFlow yX5_checkFlow, .code yX5_checkFlow cX5_checkFlow 2 none, .classLink RX5 334 "java/lang/IndexOutOfBoundsException", .initialized "java/lang/IndexOutOfBoundsException", .fieldLink RX5 93 "Fabricsim" "flowCount" "I", .methodLink RX5 103 yX5_isOutside, .static yX5_isOutside, .code yX5_isOutside cX5_isOutside 3 (some .boolean)] ++ wsX50 ++ wsX00 ++ (vx_atS RX5 338 "java/lang/IndexOutOfBoundsException" ["java/lang/RuntimeException", "java/lang/Exception"]).filter goodWord)
def wsL_lost : List Cond := .codeWith yL_lost cL_lost 4 (some .int) [(0, 9, 12, 35)] :: ([.classLink RL 35 "java/lang/IndexOutOfBoundsException", .methodLink RL 40 yX5_lost, .instanceMethod yX5_lost, .selects RX5 yX5_lost yX5_lost, .initialized RX5, .code yX5_lost cX5_lost 2 (some .int), .fieldLink RX5 11 "Fabricsim" "flowRows" "[LFabricsim$Flow;", .methodLink RX5 158 yX5_checkFlow, .instanceMethod yX5_checkFlow, .selects RX5 yX5_checkFlow yX5_checkFlow, .code yX5_checkFlow cX5_checkFlow 2 none, .classLink RX5 334 "java/lang/IndexOutOfBoundsException", .initialized "java/lang/IndexOutOfBoundsException", .fieldLink RX5 93 "Fabricsim" "flowCount" "I", .methodLink RX5 103 yX5_isOutside, .static yX5_isOutside, .code yX5_isOutside cX5_isOutside 3 (some .boolean)] ++ wsX50 ++ wsX00 ++ (vx_atS RX5 338 "java/lang/IndexOutOfBoundsException" ["java/lang/RuntimeException", "java/lang/Exception"]).filter goodWord)
def wsL_outOfOrder : List Cond := .codeWith yL_outOfOrder cL_outOfOrder 4 (some .int) [(0, 9, 12, 35)] :: ([.classLink RL 35 "java/lang/IndexOutOfBoundsException", .methodLink RL 43 yX5_outOfOrder, .instanceMethod yX5_outOfOrder, .selects RX5 yX5_outOfOrder yX5_outOfOrder, .initialized RX5, .code yX5_outOfOrder cX5_outOfOrder 2 (some .int), .fieldLink RX5 11 "Fabricsim" "flowRows" "[LFabricsim$Flow;", .methodLink RX5 158 yX5_checkFlow, .instanceMethod yX5_checkFlow, .selects RX5 yX5_checkFlow yX5_checkFlow, .code yX5_checkFlow cX5_checkFlow 2 none, .classLink RX5 334 "java/lang/IndexOutOfBoundsException", .initialized "java/lang/IndexOutOfBoundsException", .fieldLink RX5 93 "Fabricsim" "flowCount" "I", .methodLink RX5 103 yX5_isOutside, .static yX5_isOutside, .code yX5_isOutside cX5_isOutside 3 (some .boolean)] ++ wsX50 ++ wsX00 ++ (vx_atS RX5 338 "java/lang/IndexOutOfBoundsException" ["java/lang/RuntimeException", "java/lang/Exception"]).filter goodWord)
def wsL_doneIn : List Cond := .codeWith yL_doneIn cL_doneIn 4 (some .int) [(0, 9, 12, 35)] :: ([.classLink RL 35 "java/lang/IndexOutOfBoundsException", .methodLink RL 46 yX5_doneIn, .instanceMethod yX5_doneIn, .selects RX5 yX5_doneIn yX5_doneIn, .initialized RX5, .code yX5_doneIn cX5_doneIn 2 (some .int), .fieldLink RX5 11 "Fabricsim" "flowRows" "[LFabricsim$Flow;", .methodLink RX5 158 yX5_checkFlow, .instanceMethod yX5_checkFlow, .selects RX5 yX5_checkFlow yX5_checkFlow, .code yX5_checkFlow cX5_checkFlow 2 none, .classLink RX5 334 "java/lang/IndexOutOfBoundsException", .initialized "java/lang/IndexOutOfBoundsException", .fieldLink RX5 93 "Fabricsim" "flowCount" "I", .methodLink RX5 103 yX5_isOutside, .static yX5_isOutside, .code yX5_isOutside cX5_isOutside 3 (some .boolean)] ++ wsX50 ++ wsX00 ++ (vx_atS RX5 338 "java/lang/IndexOutOfBoundsException" ["java/lang/RuntimeException", "java/lang/Exception"]).filter goodWord)
def wsL_flowlets : List Cond := .codeWith yL_flowlets cL_flowlets 4 (some .int) [(0, 9, 12, 35)] :: ([.classLink RL 35 "java/lang/IndexOutOfBoundsException", .methodLink RL 49 yX5_flowlets, .instanceMethod yX5_flowlets, .selects RX5 yX5_flowlets yX5_flowlets, .initialized RX5, .code yX5_flowlets cX5_flowlets 2 (some .int), .fieldLink RX5 11 "Fabricsim" "flowRows" "[LFabricsim$Flow;", .methodLink RX5 158 yX5_checkFlow, .instanceMethod yX5_checkFlow, .selects RX5 yX5_checkFlow yX5_checkFlow, .code yX5_checkFlow cX5_checkFlow 2 none, .classLink RX5 334 "java/lang/IndexOutOfBoundsException", .initialized "java/lang/IndexOutOfBoundsException", .fieldLink RX5 93 "Fabricsim" "flowCount" "I", .methodLink RX5 103 yX5_isOutside, .static yX5_isOutside, .code yX5_isOutside cX5_isOutside 3 (some .boolean)] ++ wsX50 ++ wsX00 ++ (vx_atS RX5 338 "java/lang/IndexOutOfBoundsException" ["java/lang/RuntimeException", "java/lang/Exception"]).filter goodWord)
def wsL_spineOf : List Cond := .codeWith yL_spineOf cL_spineOf 4 (some .int) [(0, 9, 12, 35)] :: ([.classLink RL 35 "java/lang/IndexOutOfBoundsException", .methodLink RL 52 yX5_spineOf, .instanceMethod yX5_spineOf, .selects RX5 yX5_spineOf yX5_spineOf, .initialized RX5, .code yX5_spineOf cX5_spineOf 2 (some .int), .fieldLink RX5 11 "Fabricsim" "flowRows" "[LFabricsim$Flow;", .methodLink RX5 158 yX5_checkFlow, .instanceMethod yX5_checkFlow, .selects RX5 yX5_checkFlow yX5_checkFlow, .code yX5_checkFlow cX5_checkFlow 2 none, .classLink RX5 334 "java/lang/IndexOutOfBoundsException", .initialized "java/lang/IndexOutOfBoundsException", .fieldLink RX5 93 "Fabricsim" "flowCount" "I", .methodLink RX5 103 yX5_isOutside, .static yX5_isOutside, .code yX5_isOutside cX5_isOutside 3 (some .boolean)] ++ wsX50 ++ wsX00 ++ (vx_atS RX5 338 "java/lang/IndexOutOfBoundsException" ["java/lang/RuntimeException", "java/lang/Exception"]).filter goodWord)
def wsL_upQueue : List Cond := .codeWith yL_upQueue cL_upQueue 4 (some .int) [(0, 9, 12, 13)] :: ([.classLink RL 13 "java/lang/IllegalArgumentException", .methodLink RL 55 yX5_upQueue, .instanceMethod yX5_upQueue, .selects RX5 yX5_upQueue yX5_upQueue, .initialized RX5, .code yX5_upQueue cX5_upQueue 2 (some .int), .fieldLink RX5 17 "Fabricsim" "hosts" "[LFabricsim$Host;", .methodLink RX5 114 yX5_checkHost, .static yX5_checkHost, .code yX5_checkHost cX5_checkHost 1 none, .classLink RX5 107 "java/lang/IllegalArgumentException", .initialized "java/lang/IllegalArgumentException", .methodLink RX5 103 yX5_isOutside, .static yX5_isOutside, .code yX5_isOutside cX5_isOutside 3 (some .boolean)] ++ wsX50 ++ wsX10 ++ wsX20 ++ (vx_atS RX5 111 "java/lang/IllegalArgumentException" ["java/lang/RuntimeException", "java/lang/Exception"]).filter goodWord)
def wsL_downQueue : List Cond := .codeWith yL_downQueue cL_downQueue 4 (some .int) [(0, 9, 12, 13)] :: ([.classLink RL 13 "java/lang/IllegalArgumentException", .methodLink RL 58 yX5_downQueue, .instanceMethod yX5_downQueue, .selects RX5 yX5_downQueue yX5_downQueue, .initialized RX5, .code yX5_downQueue cX5_downQueue 2 (some .int), .fieldLink RX5 17 "Fabricsim" "hosts" "[LFabricsim$Host;", .methodLink RX5 114 yX5_checkHost, .static yX5_checkHost, .code yX5_checkHost cX5_checkHost 1 none, .classLink RX5 107 "java/lang/IllegalArgumentException", .initialized "java/lang/IllegalArgumentException", .methodLink RX5 103 yX5_isOutside, .static yX5_isOutside, .code yX5_isOutside cX5_isOutside 3 (some .boolean)] ++ wsX50 ++ wsX10 ++ wsX20 ++ (vx_atS RX5 111 "java/lang/IllegalArgumentException" ["java/lang/RuntimeException", "java/lang/Exception"]).filter goodWord)
def wsL_northQueue : List Cond := .codeWith yL_northQueue cL_northQueue 5 (some .int) [(0, 10, 13, 13)] :: ([.classLink RL 13 "java/lang/IllegalArgumentException", .methodLink RL 61 yX5_northQueue, .instanceMethod yX5_northQueue, .selects RX5 yX5_northQueue yX5_northQueue, .initialized RX5, .code yX5_northQueue cX5_northQueue 3 (some .int), .methodLink RX5 129 yX5_checkConnection, .static yX5_checkConnection, .code yX5_checkConnection cX5_checkConnection 2 none, .classLink RX5 107 "java/lang/IllegalArgumentException", .initialized "java/lang/IllegalArgumentException", .methodLink RX5 103 yX5_isOutside, .static yX5_isOutside, .code yX5_isOutside cX5_isOutside 3 (some .boolean), .methodLink RX5 80 yX5_northOf, .instanceMethod yX5_northOf, .selects RX5 yX5_northOf yX5_northOf, .code yX5_northOf cX5_northOf 3 (some (.object "Fabricsim$Link")), .fieldLink RX5 27 "Fabricsim" "norths" "[LFabricsim$Link;"] ++ wsX20 ++ wsX50 ++ (vx_atS RX5 111 "java/lang/IllegalArgumentException" ["java/lang/RuntimeException", "java/lang/Exception"]).filter goodWord)
def wsL_southQueue : List Cond := .codeWith yL_southQueue cL_southQueue 5 (some .int) [(0, 10, 13, 13)] :: ([.classLink RL 13 "java/lang/IllegalArgumentException", .methodLink RL 64 yX5_southQueue, .instanceMethod yX5_southQueue, .selects RX5 yX5_southQueue yX5_southQueue, .initialized RX5, .code yX5_southQueue cX5_southQueue 3 (some .int), .methodLink RX5 129 yX5_checkConnection, .static yX5_checkConnection, .code yX5_checkConnection cX5_checkConnection 2 none, .classLink RX5 107 "java/lang/IllegalArgumentException", .initialized "java/lang/IllegalArgumentException", .methodLink RX5 103 yX5_isOutside, .static yX5_isOutside, .code yX5_isOutside cX5_isOutside 3 (some .boolean), .methodLink RX5 76 yX5_southOf, .instanceMethod yX5_southOf, .selects RX5 yX5_southOf yX5_southOf, .code yX5_southOf cX5_southOf 3 (some (.object "Fabricsim$Link")), .fieldLink RX5 30 "Fabricsim" "souths" "[LFabricsim$Link;"] ++ wsX20 ++ wsX50 ++ (vx_atS RX5 111 "java/lang/IllegalArgumentException" ["java/lang/RuntimeException", "java/lang/Exception"]).filter goodWord)
def wsL_upCredits : List Cond := .codeWith yL_upCredits cL_upCredits 4 (some .int) [(0, 9, 12, 13)] :: ([.classLink RL 13 "java/lang/IllegalArgumentException", .methodLink RL 67 yX5_upCredits, .instanceMethod yX5_upCredits, .selects RX5 yX5_upCredits yX5_upCredits, .initialized RX5, .code yX5_upCredits cX5_upCredits 2 (some .int), .fieldLink RX5 17 "Fabricsim" "hosts" "[LFabricsim$Host;", .methodLink RX5 114 yX5_checkHost, .static yX5_checkHost, .code yX5_checkHost cX5_checkHost 1 none, .classLink RX5 107 "java/lang/IllegalArgumentException", .initialized "java/lang/IllegalArgumentException", .methodLink RX5 103 yX5_isOutside, .static yX5_isOutside, .code yX5_isOutside cX5_isOutside 3 (some .boolean)] ++ wsX50 ++ wsX10 ++ wsX20 ++ (vx_atS RX5 111 "java/lang/IllegalArgumentException" ["java/lang/RuntimeException", "java/lang/Exception"]).filter goodWord)
def wsL_northCredits : List Cond := .codeWith yL_northCredits cL_northCredits 5 (some .int) [(0, 10, 13, 13)] :: ([.classLink RL 13 "java/lang/IllegalArgumentException", .methodLink RL 70 yX5_northCredits, .instanceMethod yX5_northCredits, .selects RX5 yX5_northCredits yX5_northCredits, .initialized RX5, .code yX5_northCredits cX5_northCredits 3 (some .int), .methodLink RX5 129 yX5_checkConnection, .static yX5_checkConnection, .code yX5_checkConnection cX5_checkConnection 2 none, .classLink RX5 107 "java/lang/IllegalArgumentException", .initialized "java/lang/IllegalArgumentException", .methodLink RX5 103 yX5_isOutside, .static yX5_isOutside, .code yX5_isOutside cX5_isOutside 3 (some .boolean), .methodLink RX5 80 yX5_northOf, .instanceMethod yX5_northOf, .selects RX5 yX5_northOf yX5_northOf, .code yX5_northOf cX5_northOf 3 (some (.object "Fabricsim$Link")), .fieldLink RX5 27 "Fabricsim" "norths" "[LFabricsim$Link;"] ++ wsX20 ++ wsX50 ++ (vx_atS RX5 111 "java/lang/IllegalArgumentException" ["java/lang/RuntimeException", "java/lang/Exception"]).filter goodWord)
def wsL_open : List Cond := .codeWith yL_open cL_open 4 (some .int) [(0, 9, 12, 13)] :: ([.classLink RL 13 "java/lang/IllegalArgumentException", .methodLink RL 73 yX5_open, .instanceMethod yX5_open, .selects RX5 yX5_open yX5_open, .initialized RX5, .code yX5_open cX5_open 2 (some .int), .fieldLink RX5 17 "Fabricsim" "hosts" "[LFabricsim$Host;", .methodLink RX5 114 yX5_checkHost, .static yX5_checkHost, .code yX5_checkHost cX5_checkHost 1 none, .classLink RX5 107 "java/lang/IllegalArgumentException", .initialized "java/lang/IllegalArgumentException", .methodLink RX5 103 yX5_isOutside, .static yX5_isOutside, .code yX5_isOutside cX5_isOutside 3 (some .boolean)] ++ wsX50 ++ wsX10 ++ (vx_atS RX5 111 "java/lang/IllegalArgumentException" ["java/lang/RuntimeException", "java/lang/Exception"]).filter goodWord)
def wsL_usable : List Cond := .codeWith yL_usable cL_usable 5 (some .int) [(0, 10, 13, 13)] :: ([.classLink RL 13 "java/lang/IllegalArgumentException", .methodLink RL 76 yX5_usable, .instanceMethod yX5_usable, .selects RX5 yX5_usable yX5_usable, .initialized RX5, .code yX5_usable cX5_usable 3 (some .int), .classLink RX5 107 "java/lang/IllegalArgumentException", .initialized "java/lang/IllegalArgumentException", .methodLink RX5 103 yX5_isOutside, .static yX5_isOutside, .code yX5_isOutside cX5_isOutside 3 (some .boolean), .methodLink RX5 193 yX5_usableSpines, .instanceMethod yX5_usableSpines, .selects RX5 yX5_usableSpines yX5_usableSpines, .code yX5_usableSpines cX5_usableSpines 3 (some .int), .fieldLink RX5 42 "Fabricsim" "uncut" "[I"] ++ wsX50 ++ (vx_atS RX5 111 "java/lang/IllegalArgumentException" ["java/lang/RuntimeException", "java/lang/Exception"]).filter goodWord)
def wsL_law0_r1 : List Cond := [Cond.classLink RL 8 RX5, Cond.instantiable RX5 13, Cond.initialized RX5, Cond.classLink RL 80 RX6, Cond.instantiable RX6 36, Cond.initialized RX6, Cond.arrayClass .long, Cond.methodLink RL 79 yX5_init, Cond.instanceMethod yX5_init, Cond.code yX5_init cX5_init 2 none, Cond.methodLink RX5 3 objectInit, Cond.instanceMethod objectInit, Cond.code objectInit ⟨#[0xb1]⟩ 1 none, Cond.classLink RX5 9 RX0, Cond.fieldLink RX5 11 "Fabricsim" "flowRows" "[LFabricsim$Flow;", Cond.classLink RX5 15 RX1, Cond.fieldLink RX5 17 "Fabricsim" "hosts" "[LFabricsim$Host;", Cond.classLink RX5 21 RX2, Cond.fieldLink RX5 23 "Fabricsim" "links" "[LFabricsim$Link;", Cond.fieldLink RX5 27 "Fabricsim" "norths" "[LFabricsim$Link;", Cond.fieldLink RX5 30 "Fabricsim" "souths" "[LFabricsim$Link;", Cond.classLink RX5 33 RX3, Cond.fieldLink RX5 35 "Fabricsim" "leaves" "[LFabricsim$Node;", Cond.fieldLink RX5 39 "Fabricsim" "spines" "[LFabricsim$Node;"]
def wsL_law0_r2 : List Cond := [Cond.arrayClass .int, Cond.fieldLink RX5 42 "Fabricsim" "uncut" "[I", Cond.instantiable RX0 13, Cond.initialized RX0, Cond.instantiable RX1 4, Cond.initialized RX1, Cond.instantiable RX2 7, Cond.initialized RX2, Cond.instantiable RX3 3, Cond.initialized RX3, Cond.instanceMethod yX0_init, Cond.code yX0_init cX0_init 1 none, Cond.methodLink RX0 3 objectInit, Cond.instanceMethod yX1_init, Cond.code yX1_init cX1_init 1 none, Cond.methodLink RX1 3 objectInit, Cond.classLink RX1 9 RX2, Cond.fieldLink RX1 12 "Fabricsim$Host" "up" "LFabricsim$Link;", Cond.fieldLink RX1 18 "Fabricsim$Host" "down" "LFabricsim$Link;", Cond.instanceMethod yX2_init, Cond.code yX2_init cX2_init 2 none, Cond.methodLink RX2 3 objectInit, Cond.classLink RX2 9 RX4, Cond.fieldLink RX2 11 "Fabricsim$Link" "ring" "[LFabricsim$Packet;"]
def wsL_law0_r3 : List Cond := [Cond.fieldLink RX2 17 "Fabricsim$Link" "backInSlot" "[I", Cond.instantiable RX4 4, Cond.initialized RX4, Cond.instanceMethod yX4_init, Cond.code yX4_init cX4_init 1 none, Cond.methodLink RX4 1 objectInit, Cond.instanceMethod yX3_init, Cond.code yX3_init cX3_init 3 none, Cond.methodLink RX3 3 objectInit, Cond.classLink RX3 9 RX2, Cond.fieldLink RX3 11 "Fabricsim$Node" "in" "[LFabricsim$Link;", Cond.fieldLink RX3 17 "Fabricsim$Node" "out" "[LFabricsim$Link;", Cond.fieldLink RX3 20 "Fabricsim$Node" "wanted" "[I", Cond.methodLink RX5 59 yX5_joinLeaf, Cond.instanceMethod yX5_joinLeaf, Cond.selects RX5 yX5_joinLeaf yX5_joinLeaf, Cond.code yX5_joinLeaf cX5_joinLeaf 5 none, Cond.methodLink RX5 76 yX5_southOf, Cond.instanceMethod yX5_southOf, Cond.selects RX5 yX5_southOf yX5_southOf, Cond.code yX5_southOf cX5_southOf 3 (some (.object "Fabricsim$Link")), Cond.methodLink RX5 80 yX5_northOf, Cond.instanceMethod yX5_northOf, Cond.selects RX5 yX5_northOf yX5_northOf]
def wsL_law0_r4 : List Cond := [Cond.code yX5_northOf cX5_northOf 3 (some (.object "Fabricsim$Link")), Cond.methodLink RX5 63 yX5_joinSpine, Cond.instanceMethod yX5_joinSpine, Cond.selects RX5 yX5_joinSpine yX5_joinSpine, Cond.code yX5_joinSpine cX5_joinSpine 4 none, Cond.methodLink RX5 66 yX5_begin, Cond.instanceMethod yX5_begin, Cond.selects RX5 yX5_begin yX5_begin, Cond.code yX5_begin cX5_begin 5 none, Cond.fieldLink RX5 83 "Fabricsim" "delay" "I", Cond.fieldLink RX5 87 "Fabricsim" "gap" "I", Cond.fieldLink RX5 90 "Fabricsim" "window" "I", Cond.fieldLink RX5 93 "Fabricsim" "flowCount" "I", Cond.fieldLink RX5 96 "Fabricsim" "nextTick" "I", Cond.instanceMethod yX2_clear, Cond.selects RX2 yX2_clear yX2_clear, Cond.code yX2_clear cX2_clear 2 none, Cond.fieldLink RX2 22 "Fabricsim$Link" "first" "I", Cond.fieldLink RX2 26 "Fabricsim$Link" "waiting" "I", Cond.fieldLink RX2 29 "Fabricsim$Link" "credits" "I", Cond.fieldLink RX2 32 "Fabricsim$Link" "lastPlace" "I", Cond.fieldLink RX2 35 "Fabricsim$Link" "pickedPlace" "I", Cond.instanceMethod yX1_clear, Cond.selects RX1 yX1_clear yX1_clear]
def wsL_law0_r5 : List Cond := [Cond.code yX1_clear cX1_clear 1 none, Cond.fieldLink RX1 21 "Fabricsim$Host" "openPackets" "I", Cond.fieldLink RX1 25 "Fabricsim$Host" "lastFlow" "I", Cond.methodLink RL 82 yX6_init, Cond.instanceMethod yX6_init, Cond.code yX6_init cX6_init 1 none, Cond.methodLink RX6 1 objectInit, Cond.fieldLink RX6 7 "FabricsimModel" "gap" "I", Cond.fieldLink RX6 13 "FabricsimModel" "window" "I", Cond.fieldLink RX6 16 "FabricsimModel" "sources" "[I", Cond.fieldLink RX6 20 "FabricsimModel" "targets" "[I", Cond.fieldLink RX6 23 "FabricsimModel" "packets" "[I", Cond.fieldLink RX6 26 "FabricsimModel" "starts" "[I", Cond.fieldLink RX6 29 "FabricsimModel" "sent" "[I", Cond.fieldLink RX6 32 "FabricsimModel" "delivered" "[I", Cond.fieldLink RX6 35 "FabricsimModel" "lost" "[I", Cond.fieldLink RX6 38 "FabricsimModel" "late" "[I", Cond.fieldLink RX6 41 "FabricsimModel" "greatest" "[I", Cond.fieldLink RX6 44 "FabricsimModel" "done" "[I", Cond.fieldLink RX6 47 "FabricsimModel" "flowlets" "[I", Cond.fieldLink RX6 50 "FabricsimModel" "spines" "[I", Cond.fieldLink RX6 53 "FabricsimModel" "latest" "[I", Cond.fieldLink RX6 56 "FabricsimModel" "credits" "[I", Cond.fieldLink RX6 59 "FabricsimModel" "sizes" "[I"]
def wsL_law0_r6 : List Cond := [Cond.fieldLink RX6 62 "FabricsimModel" "lastQueues" "[I", Cond.fieldLink RX6 65 "FabricsimModel" "picked" "[I", Cond.fieldLink RX6 68 "FabricsimModel" "returns" "[I", Cond.fieldLink RX6 71 "FabricsimModel" "itsFlows" "[I", Cond.fieldLink RX6 74 "FabricsimModel" "itsNumbers" "[I", Cond.fieldLink RX6 77 "FabricsimModel" "itsSpines" "[I", Cond.fieldLink RX6 80 "FabricsimModel" "itsFlowlets" "[I", Cond.arrayClass .boolean, Cond.fieldLink RX6 83 "FabricsimModel" "isCut" "[Z", Cond.fieldLink RX6 87 "FabricsimModel" "lastFlows" "[I", Cond.fieldLink RX6 90 "FabricsimModel" "sending" "[I", Cond.fieldLink RX6 93 "FabricsimModel" "open" "[I", Cond.fieldLink RX6 96 "FabricsimModel" "movingFlows" "[I", Cond.fieldLink RX6 99 "FabricsimModel" "movingNumbers" "[I", Cond.fieldLink RX6 102 "FabricsimModel" "movingSpines" "[I", Cond.fieldLink RX6 105 "FabricsimModel" "movingFlowlets" "[I", Cond.methodLink RX6 108 yX6_begins, Cond.instanceMethod yX6_begins, Cond.selects RX6 yX6_begins yX6_begins, Cond.code yX6_begins cX6_begins 2 none, Cond.fieldLink RX6 121 "FabricsimModel" "clock" "I", Cond.fieldLink RX6 118 "FabricsimModel" "flows" "I", Cond.methodLink RL 83 yL_reset, Cond.static yL_reset]
def wsL_law0_r7 : List Cond := [Cond.initialized RL, Cond.codeWith yL_reset cL_reset 5 (some .int) [(0, 7, 10, 13)], Cond.classLink RL 13 "java/lang/IllegalArgumentException", Cond.methodLink RL 7 yX5_reset, Cond.instanceMethod yX5_reset, Cond.selects RX5 yX5_reset yX5_reset, Cond.code yX5_reset cX5_reset 4 none, Cond.classLink RX5 107 "java/lang/IllegalArgumentException", Cond.initialized "java/lang/IllegalArgumentException", Cond.methodLink RX5 103 yX5_isOutside, Cond.static yX5_isOutside, Cond.code yX5_isOutside cX5_isOutside 3 (some .boolean), Cond.methodLink RL 88 yX6_reset, Cond.instanceMethod yX6_reset, Cond.selects RX6 yX6_reset yX6_reset, Cond.code yX6_reset cX6_reset 4 none, Cond.fieldLink RX6 128 "FabricsimModel" "delay" "I", Cond.methodLink RX6 114 yX6_isIn, Cond.static yX6_isIn, Cond.code yX6_isIn cX6_isIn 3 (some .boolean), Cond.methodLink RX6 124 yX6_goes, Cond.instanceMethod yX6_goes, Cond.selects RX6 yX6_goes yX6_goes, Cond.code yX6_goes cX6_goes 2 (some .boolean)]
def wsL_law0_r8 : List Cond := [Cond.fieldLink RX6 111 "FabricsimModel" "thrown" "I", Cond.methodLink RL 89 yX6_thrown, Cond.instanceMethod yX6_thrown, Cond.selects RX6 yX6_thrown yX6_thrown, Cond.code yX6_thrown cX6_thrown 1 (some .int), Cond.methodLink RL 93 yL_addFlow, Cond.static yL_addFlow, Cond.codeWith yL_addFlow cL_addFlow 7 (some .int) [(0, 14, 17, 13), (0, 14, 21, 19)], Cond.classLink RL 19 "java/lang/IllegalStateException", Cond.methodLink RL 15 yX5_addFlow, Cond.instanceMethod yX5_addFlow, Cond.selects RX5 yX5_addFlow yX5_addFlow, Cond.code yX5_addFlow cX5_addFlow 5 (some .int), Cond.classLink RX5 121 "java/lang/IllegalStateException", Cond.initialized "java/lang/IllegalStateException", Cond.methodLink RX5 114 yX5_checkHost, Cond.static yX5_checkHost, Cond.code yX5_checkHost cX5_checkHost 1 none, Cond.instanceMethod yX0_begin, Cond.selects RX0 yX0_begin yX0_begin, Cond.code yX0_begin cX0_begin 5 none, Cond.fieldLink RX0 9 "Fabricsim$Flow" "source" "I", Cond.fieldLink RX0 15 "Fabricsim$Flow" "target" "I", Cond.fieldLink RX0 18 "Fabricsim$Flow" "packets" "I"]
def wsL_law0_r9 : List Cond := [Cond.fieldLink RX0 21 "Fabricsim$Flow" "start" "I", Cond.fieldLink RX0 24 "Fabricsim$Flow" "sentPackets" "I", Cond.fieldLink RX0 27 "Fabricsim$Flow" "deliveredPackets" "I", Cond.fieldLink RX0 30 "Fabricsim$Flow" "lostPackets" "I", Cond.fieldLink RX0 33 "Fabricsim$Flow" "latePackets" "I", Cond.fieldLink RX0 36 "Fabricsim$Flow" "greatestDelivered" "I", Cond.fieldLink RX0 39 "Fabricsim$Flow" "doneTick" "I", Cond.fieldLink RX0 42 "Fabricsim$Flow" "flowletCount" "I", Cond.fieldLink RX0 45 "Fabricsim$Flow" "spine" "I", Cond.fieldLink RX0 48 "Fabricsim$Flow" "lastSentTick" "I", Cond.methodLink RL 96 yX6_addFlow, Cond.instanceMethod yX6_addFlow, Cond.selects RX6 yX6_addFlow yX6_addFlow, Cond.code yX6_addFlow cX6_addFlow 6 (some .int), Cond.methodLink RX6 131 yX6_isHost, Cond.static yX6_isHost, Cond.code yX6_isHost cX6_isHost 1 (some .boolean), Cond.methodLink RL 97 yL_cut, Cond.static yL_cut, Cond.codeWith yL_cut cL_cut 5 (some .int) [(0, 10, 13, 13), (0, 10, 17, 19)], Cond.methodLink RL 21 yX5_cut, Cond.instanceMethod yX5_cut, Cond.selects RX5 yX5_cut yX5_cut, Cond.code yX5_cut cX5_cut 3 (some .int)]
def wsL_law0_r10 : List Cond := [Cond.methodLink RX5 129 yX5_checkConnection, Cond.static yX5_checkConnection, Cond.code yX5_checkConnection cX5_checkConnection 2 none, Cond.methodLink RX5 132 yX5_isCut, Cond.instanceMethod yX5_isCut, Cond.selects RX5 yX5_isCut yX5_isCut, Cond.code yX5_isCut cX5_isCut 3 (some .boolean), Cond.methodLink RL 100 yX6_cut, Cond.instanceMethod yX6_cut, Cond.selects RX6 yX6_cut yX6_cut, Cond.code yX6_cut cX6_cut 3 (some .int), Cond.methodLink RX6 134 yX6_areFour, Cond.static yX6_areFour, Cond.code yX6_areFour cX6_areFour 2 (some .boolean), Cond.methodLink RX6 138 yX6_north, Cond.static yX6_north, Cond.code yX6_north cX6_north 2 (some .int), Cond.methodLink RX6 142 yX6_south, Cond.static yX6_south, Cond.code yX6_south cX6_south 2 (some .int), Cond.methodLink RL 101 yL_restore, Cond.static yL_restore, Cond.codeWith yL_restore cL_restore 5 (some .int) [(0, 10, 13, 13), (0, 10, 17, 19)], Cond.methodLink RL 25 yX5_restore]
def wsL_law0_r11 : List Cond := [Cond.instanceMethod yX5_restore, Cond.selects RX5 yX5_restore yX5_restore, Cond.code yX5_restore cX5_restore 5 (some .int), Cond.methodLink RX5 143 yJ6_bitCount_0f7a4, Cond.static yJ6_bitCount_0f7a4, Cond.initialized RJ6, Cond.code yJ6_bitCount_0f7a4 cJ6_bitCount_0f7a4 1 (some .int), Cond.constant RJ6 265 (1431655765), Cond.constant RJ6 266 (858993459), Cond.constant RJ6 267 (252645135), Cond.methodLink RL 103 yX6_restore, Cond.instanceMethod yX6_restore, Cond.selects RX6 yX6_restore yX6_restore, Cond.code yX6_restore cX6_restore 5 (some .int), Cond.methodLink RL 104 yL_pass, Cond.static yL_pass, Cond.codeWith yL_pass cL_pass 4 (some .int) [(0, 9, 12, 13), (0, 9, 15, 19)], Cond.methodLink RL 28 yX5_pass, Cond.instanceMethod yX5_pass, Cond.selects RX5 yX5_pass yX5_pass, Cond.code yX5_pass cX5_pass 4 (some .int), Cond.constant RX5 151 (100000), Cond.methodLink RX5 154 yX5_runTick, Cond.instanceMethod yX5_runTick]
def wsL_law0_r12 : List Cond := [Cond.selects RX5 yX5_runTick yX5_runTick, Cond.code yX5_runTick cX5_runTick 3 (some .int), Cond.methodLink RX5 233 yX5_takeCreditsBack, Cond.instanceMethod yX5_takeCreditsBack, Cond.selects RX5 yX5_takeCreditsBack yX5_takeCreditsBack, Cond.code yX5_takeCreditsBack cX5_takeCreditsBack 3 none, Cond.instanceMethod yX2_takeBack, Cond.selects RX2 yX2_takeBack yX2_takeBack, Cond.code yX2_takeBack cX2_takeBack 2 none, Cond.methodLink RX5 236 yX5_deliverAll, Cond.instanceMethod yX5_deliverAll, Cond.selects RX5 yX5_deliverAll yX5_deliverAll, Cond.code yX5_deliverAll cX5_deliverAll 6 (some .int), Cond.instanceMethod yX2_firstPacket, Cond.selects RX2 yX2_firstPacket yX2_firstPacket, Cond.code yX2_firstPacket cX2_firstPacket 1 (some (.object "Fabricsim$Packet")), Cond.instanceMethod yX0_countDelivered, Cond.selects RX0 yX0_countDelivered yX0_countDelivered, Cond.code yX0_countDelivered cX0_countDelivered 3 none, Cond.instanceMethod yX2_drop, Cond.selects RX2 yX2_drop yX2_drop, Cond.code yX2_drop cX2_drop 2 none, Cond.methodLink RX5 239 yX5_loseAtSpines, Cond.instanceMethod yX5_loseAtSpines]
def wsL_law0_r13 : List Cond := [Cond.selects RX5 yX5_loseAtSpines yX5_loseAtSpines, Cond.code yX5_loseAtSpines cX5_loseAtSpines 6 none, Cond.instanceMethod yX0_targetLeaf, Cond.selects RX0 yX0_targetLeaf yX0_targetLeaf, Cond.code yX0_targetLeaf cX0_targetLeaf 1 (some .int), Cond.methodLink RX5 242 yX5_aimAtLeaves, Cond.instanceMethod yX5_aimAtLeaves, Cond.selects RX5 yX5_aimAtLeaves yX5_aimAtLeaves, Cond.code yX5_aimAtLeaves cX5_aimAtLeaves 4 none, Cond.methodLink RX5 281 yX5_wantedAtLeaf, Cond.instanceMethod yX5_wantedAtLeaf, Cond.selects RX5 yX5_wantedAtLeaf yX5_wantedAtLeaf, Cond.code yX5_wantedAtLeaf cX5_wantedAtLeaf 6 (some .int), Cond.methodLink RX5 286 yX5_isUsable, Cond.instanceMethod yX5_isUsable, Cond.selects RX5 yX5_isUsable yX5_isUsable, Cond.code yX5_isUsable cX5_isUsable 4 (some .boolean), Cond.methodLink RX5 193 yX5_usableSpines, Cond.instanceMethod yX5_usableSpines, Cond.selects RX5 yX5_usableSpines yX5_usableSpines, Cond.code yX5_usableSpines cX5_usableSpines 3 (some .int), Cond.methodLink RX5 292 yX5_chosenSpine, Cond.instanceMethod yX5_chosenSpine, Cond.selects RX5 yX5_chosenSpine yX5_chosenSpine]
def wsL_law0_r14 : List Cond := [Cond.code yX5_chosenSpine cX5_chosenSpine 8 (some .int), Cond.instanceMethod yX0_sourceLeaf, Cond.selects RX0 yX0_sourceLeaf yX0_sourceLeaf, Cond.code yX0_sourceLeaf cX0_sourceLeaf 1 (some .int), Cond.methodLink RX5 245 yX5_aimAtSpines, Cond.instanceMethod yX5_aimAtSpines, Cond.selects RX5 yX5_aimAtSpines yX5_aimAtSpines, Cond.code yX5_aimAtSpines cX5_aimAtSpines 4 none, Cond.methodLink RX5 295 yX5_wantedAtSpine, Cond.instanceMethod yX5_wantedAtSpine, Cond.selects RX5 yX5_wantedAtSpine yX5_wantedAtSpine, Cond.code yX5_wantedAtSpine cX5_wantedAtSpine 4 (some .int), Cond.methodLink RX5 248 yX5_pickAll, Cond.instanceMethod yX5_pickAll, Cond.selects RX5 yX5_pickAll yX5_pickAll, Cond.code yX5_pickAll cX5_pickAll 2 none, Cond.instanceMethod yX3_pick, Cond.selects RX3 yX3_pick yX3_pick, Cond.code yX3_pick cX3_pick 2 none, Cond.instanceMethod yX2_pick, Cond.selects RX2 yX2_pick yX2_pick, Cond.code yX2_pick cX2_pick 5 none, Cond.methodLink RX5 251 yX5_moveAll, Cond.instanceMethod yX5_moveAll]
def wsL_law0_r15 : List Cond := [Cond.selects RX5 yX5_moveAll yX5_moveAll, Cond.code yX5_moveAll cX5_moveAll 3 none, Cond.instanceMethod yX3_move, Cond.selects RX3 yX3_move yX3_move, Cond.code yX3_move cX3_move 5 none, Cond.instanceMethod yX2_put, Cond.selects RX2 yX2_put yX2_put, Cond.code yX2_put cX2_put 5 none, Cond.instanceMethod yX4_write, Cond.selects RX4 yX4_write yX4_write, Cond.code yX4_write cX4_write 5 none, Cond.fieldLink RX4 7 "Fabricsim$Packet" "flow" "I", Cond.fieldLink RX4 13 "Fabricsim$Packet" "number" "I", Cond.fieldLink RX4 16 "Fabricsim$Packet" "flowlet" "I", Cond.fieldLink RX4 19 "Fabricsim$Packet" "spine" "I", Cond.methodLink RX5 254 yX5_sendAll, Cond.instanceMethod yX5_sendAll, Cond.selects RX5 yX5_sendAll yX5_sendAll, Cond.code yX5_sendAll cX5_sendAll 4 none, Cond.methodLink RX5 307 yX5_pickedFlow, Cond.instanceMethod yX5_pickedFlow, Cond.selects RX5 yX5_pickedFlow yX5_pickedFlow, Cond.code yX5_pickedFlow cX5_pickedFlow 5 (some .int), Cond.methodLink RX5 314 yX5_canSend]
def wsL_law0_r16 : List Cond := [Cond.instanceMethod yX5_canSend, Cond.selects RX5 yX5_canSend yX5_canSend, Cond.code yX5_canSend cX5_canSend 2 (some .boolean), Cond.instanceMethod yX0_unsent, Cond.selects RX0 yX0_unsent yX0_unsent, Cond.code yX0_unsent cX0_unsent 1 (some .int), Cond.instanceMethod yX0_crossesLeaves, Cond.selects RX0 yX0_crossesLeaves yX0_crossesLeaves, Cond.code yX0_crossesLeaves cX0_crossesLeaves 1 (some .boolean), Cond.methodLink RX0 51 yX0_sourceLeaf, Cond.methodLink RX0 55 yX0_targetLeaf, Cond.methodLink RX5 310 yX5_send, Cond.instanceMethod yX5_send, Cond.selects RX5 yX5_send yX5_send, Cond.code yX5_send cX5_send 4 none, Cond.methodLink RX5 321 yX5_needsFlowlet, Cond.instanceMethod yX5_needsFlowlet, Cond.selects RX5 yX5_needsFlowlet yX5_needsFlowlet, Cond.code yX5_needsFlowlet cX5_needsFlowlet 2 (some .boolean), Cond.methodLink RL 107 yX6_pass, Cond.instanceMethod yX6_pass, Cond.selects RX6 yX6_pass yX6_pass, Cond.code yX6_pass cX6_pass 4 (some .int), Cond.constant RX6 208 (100000)]
def wsL_law0_r17 : List Cond := [Cond.methodLink RX6 209 yX6_ticks, Cond.instanceMethod yX6_ticks, Cond.selects RX6 yX6_ticks yX6_ticks, Cond.code yX6_ticks cX6_ticks 2 (some .int), Cond.methodLink RX6 186 yX6_creditsReturn, Cond.instanceMethod yX6_creditsReturn, Cond.selects RX6 yX6_creditsReturn yX6_creditsReturn, Cond.code yX6_creditsReturn cX6_creditsReturn 3 none, Cond.methodLink RX6 189 yX6_hostsTake, Cond.instanceMethod yX6_hostsTake, Cond.selects RX6 yX6_hostsTake yX6_hostsTake, Cond.code yX6_hostsTake cX6_hostsTake 5 (some .int), Cond.methodLink RX6 152 yX6_leaves, Cond.instanceMethod yX6_leaves, Cond.selects RX6 yX6_leaves yX6_leaves, Cond.code yX6_leaves cX6_leaves 3 none, Cond.methodLink RX6 193 yX6_spinesLose, Cond.instanceMethod yX6_spinesLose, Cond.selects RX6 yX6_spinesLose yX6_spinesLose, Cond.code yX6_spinesLose cX6_spinesLose 6 none, Cond.methodLink RX6 156 yX6_wanted, Cond.instanceMethod yX6_wanted, Cond.selects RX6 yX6_wanted yX6_wanted, Cond.code yX6_wanted cX6_wanted 4 (some .int)]
def wsL_law0_r18 : List Cond := [Cond.methodLink RX6 148 yX6_targetOf, Cond.instanceMethod yX6_targetOf, Cond.selects RX6 yX6_targetOf yX6_targetOf, Cond.code yX6_targetOf cX6_targetOf 2 (some .int), Cond.methodLink RX6 145 yX6_isUsable, Cond.instanceMethod yX6_isUsable, Cond.selects RX6 yX6_isUsable yX6_isUsable, Cond.code yX6_isUsable cX6_isUsable 4 (some .boolean), Cond.methodLink RX6 159 yX6_isShut, Cond.instanceMethod yX6_isShut, Cond.selects RX6 yX6_isShut yX6_isShut, Cond.code yX6_isShut cX6_isShut 2 (some .boolean), Cond.methodLink RX6 196 yX6_leavesChoose, Cond.instanceMethod yX6_leavesChoose, Cond.selects RX6 yX6_leavesChoose yX6_leavesChoose, Cond.code yX6_leavesChoose cX6_leavesChoose 3 none, Cond.methodLink RX6 162 yX6_isFar, Cond.instanceMethod yX6_isFar, Cond.selects RX6 yX6_isFar yX6_isFar, Cond.code yX6_isFar cX6_isFar 2 (some .boolean), Cond.methodLink RX6 165 yX6_chosen, Cond.instanceMethod yX6_chosen, Cond.selects RX6 yX6_chosen yX6_chosen, Cond.code yX6_chosen cX6_chosen 10 (some .int)]
def wsL_law0_r19 : List Cond := [Cond.methodLink RX6 199 yX6_linksPick, Cond.instanceMethod yX6_linksPick, Cond.selects RX6 yX6_linksPick yX6_linksPick, Cond.code yX6_linksPick cX6_linksPick 6 none, Cond.methodLink RX6 168 yX6_queueAt, Cond.static yX6_queueAt, Cond.code yX6_queueAt cX6_queueAt 3 (some .int), Cond.methodLink RX6 202 yX6_hostsPick, Cond.instanceMethod yX6_hostsPick, Cond.selects RX6 yX6_hostsPick yX6_hostsPick, Cond.code yX6_hostsPick cX6_hostsPick 4 none, Cond.methodLink RX6 174 yX6_maySend, Cond.instanceMethod yX6_maySend, Cond.selects RX6 yX6_maySend yX6_maySend, Cond.code yX6_maySend cX6_maySend 5 (some .boolean), Cond.methodLink RX6 171 yX6_usableSet, Cond.instanceMethod yX6_usableSet, Cond.selects RX6 yX6_usableSet yX6_usableSet, Cond.code yX6_usableSet cX6_usableSet 5 (some .int), Cond.methodLink RX6 205 yX6_moves, Cond.instanceMethod yX6_moves, Cond.selects RX6 yX6_moves yX6_moves, Cond.code yX6_moves cX6_moves 2 none, Cond.methodLink RX6 177 yX6_takesAlong]
def wsL_law0_r20 : List Cond := [Cond.instanceMethod yX6_takesAlong, Cond.selects RX6 yX6_takesAlong yX6_takesAlong, Cond.code yX6_takesAlong cX6_takesAlong 3 none, Cond.methodLink RX6 180 yX6_makes, Cond.instanceMethod yX6_makes, Cond.selects RX6 yX6_makes yX6_makes, Cond.code yX6_makes cX6_makes 4 none, Cond.methodLink RX6 183 yX6_arrives, Cond.instanceMethod yX6_arrives, Cond.selects RX6 yX6_arrives yX6_arrives, Cond.code yX6_arrives cX6_arrives 3 none, Cond.methodLink RL 108 yX5_clock, Cond.instanceMethod yX5_clock, Cond.selects RX5 yX5_clock yX5_clock, Cond.code yX5_clock cX5_clock 1 (some .int), Cond.methodLink RL 111 yX6_clock, Cond.instanceMethod yX6_clock, Cond.selects RX6 yX6_clock yX6_clock, Cond.code yX6_clock cX6_clock 1 (some .int), Cond.methodLink RL 112 yX5_flows, Cond.instanceMethod yX5_flows, Cond.selects RX5 yX5_flows yX5_flows, Cond.code yX5_flows cX5_flows 1 (some .int), Cond.methodLink RL 115 yX6_flows]
def wsL_law0_r21 : List Cond := [Cond.instanceMethod yX6_flows, Cond.selects RX6 yX6_flows yX6_flows, Cond.code yX6_flows cX6_flows 1 (some .int), Cond.methodLink RL 116 yL_sent, Cond.static yL_sent, Cond.codeWith yL_sent cL_sent 4 (some .int) [(0, 9, 12, 35)], Cond.classLink RL 35 "java/lang/IndexOutOfBoundsException", Cond.methodLink RL 32 yX5_sent, Cond.instanceMethod yX5_sent, Cond.selects RX5 yX5_sent yX5_sent, Cond.code yX5_sent cX5_sent 2 (some .int), Cond.methodLink RX5 158 yX5_checkFlow, Cond.instanceMethod yX5_checkFlow, Cond.selects RX5 yX5_checkFlow yX5_checkFlow, Cond.code yX5_checkFlow cX5_checkFlow 2 none, Cond.classLink RX5 334 "java/lang/IndexOutOfBoundsException", Cond.initialized "java/lang/IndexOutOfBoundsException", Cond.methodLink RL 118 yX6_sent, Cond.instanceMethod yX6_sent, Cond.selects RX6 yX6_sent yX6_sent, Cond.code yX6_sent cX6_sent 2 (some .int), Cond.methodLink RX6 215 yX6_asks, Cond.instanceMethod yX6_asks, Cond.selects RX6 yX6_asks yX6_asks]
def wsL_law0_r22 : List Cond := [Cond.code yX6_asks cX6_asks 2 (some .boolean), Cond.methodLink RX6 212 yX6_isFlow, Cond.instanceMethod yX6_isFlow, Cond.selects RX6 yX6_isFlow yX6_isFlow, Cond.code yX6_isFlow cX6_isFlow 2 (some .boolean), Cond.methodLink RL 119 yL_delivered, Cond.static yL_delivered, Cond.codeWith yL_delivered cL_delivered 4 (some .int) [(0, 9, 12, 35)], Cond.methodLink RL 37 yX5_delivered, Cond.instanceMethod yX5_delivered, Cond.selects RX5 yX5_delivered yX5_delivered, Cond.code yX5_delivered cX5_delivered 2 (some .int), Cond.methodLink RL 121 yX6_delivered, Cond.instanceMethod yX6_delivered, Cond.selects RX6 yX6_delivered yX6_delivered, Cond.code yX6_delivered cX6_delivered 2 (some .int), Cond.methodLink RL 122 yL_lost, Cond.static yL_lost, Cond.codeWith yL_lost cL_lost 4 (some .int) [(0, 9, 12, 35)], Cond.methodLink RL 40 yX5_lost, Cond.instanceMethod yX5_lost, Cond.selects RX5 yX5_lost yX5_lost, Cond.code yX5_lost cX5_lost 2 (some .int), Cond.methodLink RL 124 yX6_lost]
def wsL_law0_r23 : List Cond := [Cond.instanceMethod yX6_lost, Cond.selects RX6 yX6_lost yX6_lost, Cond.code yX6_lost cX6_lost 2 (some .int), Cond.methodLink RL 125 yL_outOfOrder, Cond.static yL_outOfOrder, Cond.codeWith yL_outOfOrder cL_outOfOrder 4 (some .int) [(0, 9, 12, 35)], Cond.methodLink RL 43 yX5_outOfOrder, Cond.instanceMethod yX5_outOfOrder, Cond.selects RX5 yX5_outOfOrder yX5_outOfOrder, Cond.code yX5_outOfOrder cX5_outOfOrder 2 (some .int), Cond.methodLink RL 127 yX6_outOfOrder, Cond.instanceMethod yX6_outOfOrder, Cond.selects RX6 yX6_outOfOrder yX6_outOfOrder, Cond.code yX6_outOfOrder cX6_outOfOrder 2 (some .int), Cond.methodLink RL 128 yL_doneIn, Cond.static yL_doneIn, Cond.codeWith yL_doneIn cL_doneIn 4 (some .int) [(0, 9, 12, 35)], Cond.methodLink RL 46 yX5_doneIn, Cond.instanceMethod yX5_doneIn, Cond.selects RX5 yX5_doneIn yX5_doneIn, Cond.code yX5_doneIn cX5_doneIn 2 (some .int), Cond.methodLink RL 130 yX6_doneIn, Cond.instanceMethod yX6_doneIn, Cond.selects RX6 yX6_doneIn yX6_doneIn]
def wsL_law0_r24 : List Cond := [Cond.code yX6_doneIn cX6_doneIn 2 (some .int), Cond.methodLink RL 131 yL_flowlets, Cond.static yL_flowlets, Cond.codeWith yL_flowlets cL_flowlets 4 (some .int) [(0, 9, 12, 35)], Cond.methodLink RL 49 yX5_flowlets, Cond.instanceMethod yX5_flowlets, Cond.selects RX5 yX5_flowlets yX5_flowlets, Cond.code yX5_flowlets cX5_flowlets 2 (some .int), Cond.methodLink RL 133 yX6_flowlets, Cond.instanceMethod yX6_flowlets, Cond.selects RX6 yX6_flowlets yX6_flowlets, Cond.code yX6_flowlets cX6_flowlets 2 (some .int), Cond.methodLink RL 134 yL_spineOf, Cond.static yL_spineOf, Cond.codeWith yL_spineOf cL_spineOf 4 (some .int) [(0, 9, 12, 35)], Cond.methodLink RL 52 yX5_spineOf, Cond.instanceMethod yX5_spineOf, Cond.selects RX5 yX5_spineOf yX5_spineOf, Cond.code yX5_spineOf cX5_spineOf 2 (some .int), Cond.methodLink RL 136 yX6_spineOf, Cond.instanceMethod yX6_spineOf, Cond.selects RX6 yX6_spineOf yX6_spineOf, Cond.code yX6_spineOf cX6_spineOf 2 (some .int), Cond.methodLink RL 137 yL_upQueue]
def wsL_law0_r25 : List Cond := [Cond.static yL_upQueue, Cond.codeWith yL_upQueue cL_upQueue 4 (some .int) [(0, 9, 12, 13)], Cond.methodLink RL 55 yX5_upQueue, Cond.instanceMethod yX5_upQueue, Cond.selects RX5 yX5_upQueue yX5_upQueue, Cond.code yX5_upQueue cX5_upQueue 2 (some .int), Cond.methodLink RL 139 yX6_upQueue, Cond.instanceMethod yX6_upQueue, Cond.selects RX6 yX6_upQueue yX6_upQueue, Cond.code yX6_upQueue cX6_upQueue 2 (some .int), Cond.methodLink RL 140 yL_downQueue, Cond.static yL_downQueue, Cond.codeWith yL_downQueue cL_downQueue 4 (some .int) [(0, 9, 12, 13)], Cond.methodLink RL 58 yX5_downQueue, Cond.instanceMethod yX5_downQueue, Cond.selects RX5 yX5_downQueue yX5_downQueue, Cond.code yX5_downQueue cX5_downQueue 2 (some .int), Cond.methodLink RL 142 yX6_downQueue, Cond.instanceMethod yX6_downQueue, Cond.selects RX6 yX6_downQueue yX6_downQueue, Cond.code yX6_downQueue cX6_downQueue 2 (some .int), Cond.methodLink RL 143 yL_northQueue, Cond.static yL_northQueue, Cond.codeWith yL_northQueue cL_northQueue 5 (some .int) [(0, 10, 13, 13)]]
def wsL_law0_r26 : List Cond := [Cond.methodLink RL 61 yX5_northQueue, Cond.instanceMethod yX5_northQueue, Cond.selects RX5 yX5_northQueue yX5_northQueue, Cond.code yX5_northQueue cX5_northQueue 3 (some .int), Cond.methodLink RL 145 yX6_northQueue, Cond.instanceMethod yX6_northQueue, Cond.selects RX6 yX6_northQueue yX6_northQueue, Cond.code yX6_northQueue cX6_northQueue 3 (some .int), Cond.methodLink RL 146 yL_southQueue, Cond.static yL_southQueue, Cond.codeWith yL_southQueue cL_southQueue 5 (some .int) [(0, 10, 13, 13)], Cond.methodLink RL 64 yX5_southQueue, Cond.instanceMethod yX5_southQueue, Cond.selects RX5 yX5_southQueue yX5_southQueue, Cond.code yX5_southQueue cX5_southQueue 3 (some .int), Cond.methodLink RL 148 yX6_southQueue, Cond.instanceMethod yX6_southQueue, Cond.selects RX6 yX6_southQueue yX6_southQueue, Cond.code yX6_southQueue cX6_southQueue 3 (some .int), Cond.methodLink RL 149 yL_upCredits, Cond.static yL_upCredits, Cond.codeWith yL_upCredits cL_upCredits 4 (some .int) [(0, 9, 12, 13)], Cond.methodLink RL 67 yX5_upCredits, Cond.instanceMethod yX5_upCredits]
def wsL_law0_r27 : List Cond := [Cond.selects RX5 yX5_upCredits yX5_upCredits, Cond.code yX5_upCredits cX5_upCredits 2 (some .int), Cond.methodLink RL 151 yX6_upCredits, Cond.instanceMethod yX6_upCredits, Cond.selects RX6 yX6_upCredits yX6_upCredits, Cond.code yX6_upCredits cX6_upCredits 2 (some .int), Cond.methodLink RL 152 yL_northCredits, Cond.static yL_northCredits, Cond.codeWith yL_northCredits cL_northCredits 5 (some .int) [(0, 10, 13, 13)], Cond.methodLink RL 70 yX5_northCredits, Cond.instanceMethod yX5_northCredits, Cond.selects RX5 yX5_northCredits yX5_northCredits, Cond.code yX5_northCredits cX5_northCredits 3 (some .int), Cond.methodLink RL 154 yX6_northCredits, Cond.instanceMethod yX6_northCredits, Cond.selects RX6 yX6_northCredits yX6_northCredits, Cond.code yX6_northCredits cX6_northCredits 3 (some .int), Cond.methodLink RL 155 yX5_returning, Cond.instanceMethod yX5_returning, Cond.selects RX5 yX5_returning yX5_returning, Cond.code yX5_returning cX5_returning 3 (some .int), Cond.instanceMethod yX2_onTheWayBack, Cond.selects RX2 yX2_onTheWayBack yX2_onTheWayBack, Cond.code yX2_onTheWayBack cX2_onTheWayBack 3 (some .int)]
def wsL_law0_r28 : List Cond := [Cond.methodLink RL 158 yX6_returning, Cond.instanceMethod yX6_returning, Cond.selects RX6 yX6_returning yX6_returning, Cond.code yX6_returning cX6_returning 3 (some .int), Cond.methodLink RL 159 yX5_queued, Cond.instanceMethod yX5_queued, Cond.selects RX5 yX5_queued yX5_queued, Cond.code yX5_queued cX5_queued 3 (some .int), Cond.methodLink RL 162 yX6_queued, Cond.instanceMethod yX6_queued, Cond.selects RX6 yX6_queued yX6_queued, Cond.code yX6_queued cX6_queued 3 (some .int), Cond.methodLink RL 163 yL_open, Cond.static yL_open, Cond.codeWith yL_open cL_open 4 (some .int) [(0, 9, 12, 13)], Cond.methodLink RL 73 yX5_open, Cond.instanceMethod yX5_open, Cond.selects RX5 yX5_open yX5_open, Cond.code yX5_open cX5_open 2 (some .int), Cond.methodLink RL 165 yX6_open, Cond.instanceMethod yX6_open, Cond.selects RX6 yX6_open yX6_open, Cond.code yX6_open cX6_open 2 (some .int), Cond.methodLink RL 166 yL_usable]
def wsL_law0_r29 : List Cond := [Cond.static yL_usable, Cond.codeWith yL_usable cL_usable 5 (some .int) [(0, 10, 13, 13)], Cond.methodLink RL 76 yX5_usable, Cond.instanceMethod yX5_usable, Cond.selects RX5 yX5_usable yX5_usable, Cond.code yX5_usable cX5_usable 3 (some .int), Cond.methodLink RL 168 yX6_usable, Cond.instanceMethod yX6_usable, Cond.selects RX6 yX6_usable yX6_usable, Cond.code yX6_usable cX6_usable 3 (some .int), Cond.methodLink RL 169 yX5_leastTicks, Cond.instanceMethod yX5_leastTicks, Cond.selects RX5 yX5_leastTicks yX5_leastTicks, Cond.code yX5_leastTicks cX5_leastTicks 5 (some .int), Cond.methodLink RX5 203 Lib.Math.max.name, Cond.static Lib.Math.max.name, Cond.initialized "java/lang/Math", Cond.code Lib.Math.max.name Lib.Math.max.code 2 (some .int), Cond.methodLink RX5 197 yX5_unsentBy, Cond.instanceMethod yX5_unsentBy, Cond.selects RX5 yX5_unsentBy yX5_unsentBy, Cond.code yX5_unsentBy cX5_unsentBy 4 (some .int), Cond.methodLink RX5 200 yX5_unsentFor, Cond.instanceMethod yX5_unsentFor]
def wsL_law0_r30 : List Cond := [Cond.selects RX5 yX5_unsentFor yX5_unsentFor, Cond.code yX5_unsentFor cX5_unsentFor 4 (some .int), Cond.methodLink RX5 208 yX5_unsentOutOf, Cond.instanceMethod yX5_unsentOutOf, Cond.selects RX5 yX5_unsentOutOf yX5_unsentOutOf, Cond.code yX5_unsentOutOf cX5_unsentOutOf 4 (some .int), Cond.methodLink RX5 211 yX5_unsentInto, Cond.instanceMethod yX5_unsentInto, Cond.selects RX5 yX5_unsentInto yX5_unsentInto, Cond.code yX5_unsentInto cX5_unsentInto 4 (some .int), Cond.methodLink RL 172 yX6_leastTicks, Cond.instanceMethod yX6_leastTicks, Cond.selects RX6 yX6_leastTicks yX6_leastTicks, Cond.code yX6_leastTicks cX6_leastTicks 7 (some .int), Cond.methodLink RX6 221 yX6_sum, Cond.instanceMethod yX6_sum, Cond.selects RX6 yX6_sum yX6_sum, Cond.code yX6_sum cX6_sum 7 (some .int), Cond.methodLink RX6 218 yX6_toSend, Cond.instanceMethod yX6_toSend, Cond.selects RX6 yX6_toSend yX6_toSend, Cond.code yX6_toSend cX6_toSend 2 (some .int), Cond.methodLink RX6 224 yX6_uncut, Cond.instanceMethod yX6_uncut]
def wsL_law0_r31 : List Cond := [Cond.selects RX6 yX6_uncut yX6_uncut, Cond.code yX6_uncut cX6_uncut 4 (some .int)]
def wsL_law0 : List Cond := (wsL_law0_r1 ++ (wsL_law0_r2 ++ (wsL_law0_r3 ++ (wsL_law0_r4 ++ (wsL_law0_r5 ++ (wsL_law0_r6 ++ (wsL_law0_r7 ++ (wsL_law0_r8 ++ (wsL_law0_r9 ++ (wsL_law0_r10 ++ (wsL_law0_r11 ++ (wsL_law0_r12 ++ (wsL_law0_r13 ++ (wsL_law0_r14 ++ (wsL_law0_r15 ++ (wsL_law0_r16 ++ (wsL_law0_r17 ++ (wsL_law0_r18 ++ (wsL_law0_r19 ++ (wsL_law0_r20 ++ (wsL_law0_r21 ++ (wsL_law0_r22 ++ (wsL_law0_r23 ++ (wsL_law0_r24 ++ (wsL_law0_r25 ++ (wsL_law0_r26 ++ (wsL_law0_r27 ++ (wsL_law0_r28 ++ (wsL_law0_r29 ++ (wsL_law0_r30 ++ wsL_law0_r31)))))))))))))))))))))))))))))) ++ wsX50 ++ wsX60 ++ wsX00 ++ wsX10 ++ wsX20 ++ wsX30 ++ wsX40 ++ ([] : List Cond)
def wsL_law : List Cond := wsL_law0 ++ (vx_atS RX5 111 "java/lang/IllegalArgumentException" ["java/lang/RuntimeException", "java/lang/Exception"]).filter goodWord ++ (vx_atS RX5 125 "java/lang/IllegalStateException" ["java/lang/RuntimeException", "java/lang/Exception"]).filter goodWord ++ (vx_atS RX5 338 "java/lang/IndexOutOfBoundsException" ["java/lang/RuntimeException", "java/lang/Exception"]).filter goodWord
theorem inlX0 : ∀ w ∈ wsX00, w ∈ wsL_law := fun _ h => List.mem_append_left _ (List.mem_append_left _ (List.mem_append_left _ (List.mem_append_left _ (List.mem_append_left _ (List.mem_append_left _ (List.mem_append_left _ (List.mem_append_left _ (List.mem_append_right _ h))))))))
theorem inlX1 : ∀ w ∈ wsX10, w ∈ wsL_law := fun _ h => List.mem_append_left _ (List.mem_append_left _ (List.mem_append_left _ (List.mem_append_left _ (List.mem_append_left _ (List.mem_append_left _ (List.mem_append_left _ (List.mem_append_right _ h)))))))
theorem inlX2 : ∀ w ∈ wsX20, w ∈ wsL_law := fun _ h => List.mem_append_left _ (List.mem_append_left _ (List.mem_append_left _ (List.mem_append_left _ (List.mem_append_left _ (List.mem_append_left _ (List.mem_append_right _ h))))))
theorem inlX3 : ∀ w ∈ wsX30, w ∈ wsL_law := fun _ h => List.mem_append_left _ (List.mem_append_left _ (List.mem_append_left _ (List.mem_append_left _ (List.mem_append_left _ (List.mem_append_right _ h)))))
theorem inlX4 : ∀ w ∈ wsX40, w ∈ wsL_law := fun _ h => List.mem_append_left _ (List.mem_append_left _ (List.mem_append_left _ (List.mem_append_left _ (List.mem_append_right _ h))))
theorem inlX5 : ∀ w ∈ wsX50, w ∈ wsL_law := fun _ h => List.mem_append_left _ (List.mem_append_left _ (List.mem_append_left _ (List.mem_append_left _ (List.mem_append_left _ (List.mem_append_left _ (List.mem_append_left _ (List.mem_append_left _ (List.mem_append_left _ (List.mem_append_left _ (List.mem_append_right _ h))))))))))
theorem inlX6 : ∀ w ∈ wsX60, w ∈ wsL_law := fun _ h => List.mem_append_left _ (List.mem_append_left _ (List.mem_append_left _ (List.mem_append_left _ (List.mem_append_left _ (List.mem_append_left _ (List.mem_append_left _ (List.mem_append_left _ (List.mem_append_left _ (List.mem_append_right _ h)))))))))
theorem inJ6 : ∀ w ∈ wsJ60, w ∈ lw_tbl := by decide +kernel
theorem inJ9 : ∀ w ∈ wsJ90, w ∈ lw_tbl := by decide +kernel
theorem inJ0 : ∀ w ∈ wsJ00, w ∈ lw_tbl := by decide +kernel
abbrev vwCl : List vw_C := [(RX0, TX0, 13), (RX1, TX1, 4), (RX2, TX2, 7), (RX3, TX3, 3), (RX4, TX4, 4), (RX5, TX5, 13), (RX6, TX6, 36)]
end
section
theorem dX0_init_0 : decode cX0_init 0 = .ok (.aload_n 0, 1) := by decide +kernel
theorem dX0_init_1 : decode cX0_init 1 = .ok (.invokespecial 3, 3) := by decide +kernel
theorem dX0_init_4 : decode cX0_init 4 = .ok (.return_, 1) := by decide +kernel
theorem dX0_begin_0 : decode cX0_begin 0 = .ok (.aload_n 0, 1) := by decide +kernel
theorem dX0_begin_1 : decode cX0_begin 1 = .ok (.iload_n 1, 1) := by decide +kernel
theorem dX0_begin_2 : decode cX0_begin 2 = .ok (.putfield 9, 3) := by decide +kernel
theorem dX0_begin_5 : decode cX0_begin 5 = .ok (.aload_n 0, 1) := by decide +kernel
theorem dX0_begin_6 : decode cX0_begin 6 = .ok (.iload_n 2, 1) := by decide +kernel
theorem dX0_begin_7 : decode cX0_begin 7 = .ok (.putfield 15, 3) := by decide +kernel
theorem dX0_begin_10 : decode cX0_begin 10 = .ok (.aload_n 0, 1) := by decide +kernel
theorem dX0_begin_11 : decode cX0_begin 11 = .ok (.iload_n 3, 1) := by decide +kernel
theorem dX0_begin_12 : decode cX0_begin 12 = .ok (.putfield 18, 3) := by decide +kernel
theorem dX0_begin_15 : decode cX0_begin 15 = .ok (.aload_n 0, 1) := by decide +kernel
theorem dX0_begin_16 : decode cX0_begin 16 = .ok (.iload 4, 2) := by decide +kernel
theorem dX0_begin_18 : decode cX0_begin 18 = .ok (.putfield 21, 3) := by decide +kernel
theorem dX0_begin_21 : decode cX0_begin 21 = .ok (.aload_n 0, 1) := by decide +kernel
theorem dX0_begin_22 : decode cX0_begin 22 = .ok (.iconst 0, 1) := by decide +kernel
theorem dX0_begin_23 : decode cX0_begin 23 = .ok (.putfield 24, 3) := by decide +kernel
theorem dX0_begin_26 : decode cX0_begin 26 = .ok (.aload_n 0, 1) := by decide +kernel
theorem dX0_begin_27 : decode cX0_begin 27 = .ok (.iconst 0, 1) := by decide +kernel
theorem dX0_begin_28 : decode cX0_begin 28 = .ok (.putfield 27, 3) := by decide +kernel
theorem dX0_begin_31 : decode cX0_begin 31 = .ok (.aload_n 0, 1) := by decide +kernel
theorem dX0_begin_32 : decode cX0_begin 32 = .ok (.iconst 0, 1) := by decide +kernel
theorem dX0_begin_33 : decode cX0_begin 33 = .ok (.putfield 30, 3) := by decide +kernel
theorem dX0_begin_36 : decode cX0_begin 36 = .ok (.aload_n 0, 1) := by decide +kernel
theorem dX0_begin_37 : decode cX0_begin 37 = .ok (.iconst 0, 1) := by decide +kernel
theorem dX0_begin_38 : decode cX0_begin 38 = .ok (.putfield 33, 3) := by decide +kernel
theorem dX0_begin_41 : decode cX0_begin 41 = .ok (.aload_n 0, 1) := by decide +kernel
theorem dX0_begin_42 : decode cX0_begin 42 = .ok (.iconst (-1), 1) := by decide +kernel
theorem dX0_begin_43 : decode cX0_begin 43 = .ok (.putfield 36, 3) := by decide +kernel
theorem dX0_begin_46 : decode cX0_begin 46 = .ok (.aload_n 0, 1) := by decide +kernel
theorem dX0_begin_47 : decode cX0_begin 47 = .ok (.iconst (-1), 1) := by decide +kernel
theorem dX0_begin_48 : decode cX0_begin 48 = .ok (.putfield 39, 3) := by decide +kernel
theorem dX0_begin_51 : decode cX0_begin 51 = .ok (.aload_n 0, 1) := by decide +kernel
theorem dX0_begin_52 : decode cX0_begin 52 = .ok (.iconst 0, 1) := by decide +kernel
theorem dX0_begin_53 : decode cX0_begin 53 = .ok (.putfield 42, 3) := by decide +kernel
theorem dX0_begin_56 : decode cX0_begin 56 = .ok (.aload_n 0, 1) := by decide +kernel
theorem dX0_begin_57 : decode cX0_begin 57 = .ok (.iconst (-1), 1) := by decide +kernel
theorem dX0_begin_58 : decode cX0_begin 58 = .ok (.putfield 45, 3) := by decide +kernel
theorem dX0_begin_61 : decode cX0_begin 61 = .ok (.aload_n 0, 1) := by decide +kernel
theorem dX0_begin_62 : decode cX0_begin 62 = .ok (.iconst (-1), 1) := by decide +kernel
theorem dX0_begin_63 : decode cX0_begin 63 = .ok (.putfield 48, 3) := by decide +kernel
theorem dX0_begin_66 : decode cX0_begin 66 = .ok (.return_, 1) := by decide +kernel
theorem dX0_unsent_0 : decode cX0_unsent 0 = .ok (.aload_n 0, 1) := by decide +kernel
theorem dX0_unsent_1 : decode cX0_unsent 1 = .ok (.getfield 18, 3) := by decide +kernel
theorem dX0_unsent_4 : decode cX0_unsent 4 = .ok (.aload_n 0, 1) := by decide +kernel
theorem dX0_unsent_5 : decode cX0_unsent 5 = .ok (.getfield 24, 3) := by decide +kernel
theorem dX0_unsent_8 : decode cX0_unsent 8 = .ok (.aload_n 0, 1) := by decide +kernel
theorem dX0_unsent_9 : decode cX0_unsent 9 = .ok (.getfield 30, 3) := by decide +kernel
theorem dX0_unsent_12 : decode cX0_unsent 12 = .ok (.isub, 1) := by decide +kernel
theorem dX0_unsent_13 : decode cX0_unsent 13 = .ok (.isub, 1) := by decide +kernel
theorem dX0_unsent_14 : decode cX0_unsent 14 = .ok (.ireturn, 1) := by decide +kernel
theorem dX0_sourceLeaf_0 : decode cX0_sourceLeaf 0 = .ok (.aload_n 0, 1) := by decide +kernel
theorem dX0_sourceLeaf_1 : decode cX0_sourceLeaf 1 = .ok (.getfield 9, 3) := by decide +kernel
theorem dX0_sourceLeaf_4 : decode cX0_sourceLeaf 4 = .ok (.iconst 4, 1) := by decide +kernel
theorem dX0_sourceLeaf_5 : decode cX0_sourceLeaf 5 = .ok (.idiv, 1) := by decide +kernel
theorem dX0_sourceLeaf_6 : decode cX0_sourceLeaf 6 = .ok (.ireturn, 1) := by decide +kernel
theorem dX0_targetLeaf_0 : decode cX0_targetLeaf 0 = .ok (.aload_n 0, 1) := by decide +kernel
theorem dX0_targetLeaf_1 : decode cX0_targetLeaf 1 = .ok (.getfield 15, 3) := by decide +kernel
theorem dX0_targetLeaf_4 : decode cX0_targetLeaf 4 = .ok (.iconst 4, 1) := by decide +kernel
theorem dX0_targetLeaf_5 : decode cX0_targetLeaf 5 = .ok (.idiv, 1) := by decide +kernel
theorem dX0_targetLeaf_6 : decode cX0_targetLeaf 6 = .ok (.ireturn, 1) := by decide +kernel
set_option maxRecDepth 20000 in
theorem ggX0_crossesLeaves_X0_sourceLeaf : GoodIn wsX0_crossesLeaves wsX0_sourceLeaf := goodIn_r _ [5, 6, 12, 13, 14, 15, 16, 17, 18, 19, 20, 21, 22, 23, 24] (by decide +kernel) (by decide +kernel)
set_option maxRecDepth 20000 in
theorem gX0_crossesLeaves_X0_sourceLeaf : GoodIn wsX0_crossesLeaves (wsV RX0 51 RX0 yX0_sourceLeaf wsX0_sourceLeaf) := goodIn_app (goodIn_of _ (by decide +kernel)) ggX0_crossesLeaves_X0_sourceLeaf
set_option maxRecDepth 20000 in
theorem ggX0_crossesLeaves_X0_targetLeaf : GoodIn wsX0_crossesLeaves wsX0_targetLeaf := goodIn_r _ [10, 11, 12, 13, 14, 15, 16, 17, 18, 19, 20, 21, 22, 23, 24] (by decide +kernel) (by decide +kernel)
set_option maxRecDepth 20000 in
theorem gX0_crossesLeaves_X0_targetLeaf : GoodIn wsX0_crossesLeaves (wsV RX0 55 RX0 yX0_targetLeaf wsX0_targetLeaf) := goodIn_app (goodIn_of _ (by decide +kernel)) ggX0_crossesLeaves_X0_targetLeaf
theorem dX0_crossesLeaves_0 : decode cX0_crossesLeaves 0 = .ok (.aload_n 0, 1) := by decide +kernel
theorem dX0_crossesLeaves_1 : decode cX0_crossesLeaves 1 = .ok (.invokevirtual 51, 3) := by decide +kernel
theorem dX0_crossesLeaves_4 : decode cX0_crossesLeaves 4 = .ok (.aload_n 0, 1) := by decide +kernel
theorem dX0_crossesLeaves_5 : decode cX0_crossesLeaves 5 = .ok (.invokevirtual 55, 3) := by decide +kernel
theorem dX0_crossesLeaves_8 : decode cX0_crossesLeaves 8 = .ok (.if_icmp .eq 7, 3) := by decide +kernel
theorem dX0_crossesLeaves_11 : decode cX0_crossesLeaves 11 = .ok (.iconst 1, 1) := by decide +kernel
theorem dX0_crossesLeaves_12 : decode cX0_crossesLeaves 12 = .ok (.goto 4, 3) := by decide +kernel
theorem dX0_crossesLeaves_15 : decode cX0_crossesLeaves 15 = .ok (.iconst 0, 1) := by decide +kernel
theorem dX0_crossesLeaves_16 : decode cX0_crossesLeaves 16 = .ok (.ireturn, 1) := by decide +kernel
theorem dX0_countDelivered_0 : decode cX0_countDelivered 0 = .ok (.aload_n 0, 1) := by decide +kernel
theorem dX0_countDelivered_1 : decode cX0_countDelivered 1 = .ok (.dup, 1) := by decide +kernel
theorem dX0_countDelivered_2 : decode cX0_countDelivered 2 = .ok (.getfield 27, 3) := by decide +kernel
theorem dX0_countDelivered_5 : decode cX0_countDelivered 5 = .ok (.iconst 1, 1) := by decide +kernel
theorem dX0_countDelivered_6 : decode cX0_countDelivered 6 = .ok (.iadd, 1) := by decide +kernel
theorem dX0_countDelivered_7 : decode cX0_countDelivered 7 = .ok (.putfield 27, 3) := by decide +kernel
theorem dX0_countDelivered_10 : decode cX0_countDelivered 10 = .ok (.iload_n 1, 1) := by decide +kernel
theorem dX0_countDelivered_11 : decode cX0_countDelivered 11 = .ok (.aload_n 0, 1) := by decide +kernel
theorem dX0_countDelivered_12 : decode cX0_countDelivered 12 = .ok (.getfield 36, 3) := by decide +kernel
theorem dX0_countDelivered_15 : decode cX0_countDelivered 15 = .ok (.if_icmp .ge 16, 3) := by decide +kernel
theorem dX0_countDelivered_18 : decode cX0_countDelivered 18 = .ok (.aload_n 0, 1) := by decide +kernel
theorem dX0_countDelivered_19 : decode cX0_countDelivered 19 = .ok (.dup, 1) := by decide +kernel
theorem dX0_countDelivered_20 : decode cX0_countDelivered 20 = .ok (.getfield 33, 3) := by decide +kernel
theorem dX0_countDelivered_23 : decode cX0_countDelivered 23 = .ok (.iconst 1, 1) := by decide +kernel
theorem dX0_countDelivered_24 : decode cX0_countDelivered 24 = .ok (.iadd, 1) := by decide +kernel
theorem dX0_countDelivered_25 : decode cX0_countDelivered 25 = .ok (.putfield 33, 3) := by decide +kernel
theorem dX0_countDelivered_28 : decode cX0_countDelivered 28 = .ok (.goto 8, 3) := by decide +kernel
theorem dX0_countDelivered_31 : decode cX0_countDelivered 31 = .ok (.aload_n 0, 1) := by decide +kernel
theorem dX0_countDelivered_32 : decode cX0_countDelivered 32 = .ok (.iload_n 1, 1) := by decide +kernel
theorem dX0_countDelivered_33 : decode cX0_countDelivered 33 = .ok (.putfield 36, 3) := by decide +kernel
theorem dX0_countDelivered_36 : decode cX0_countDelivered 36 = .ok (.aload_n 0, 1) := by decide +kernel
theorem dX0_countDelivered_37 : decode cX0_countDelivered 37 = .ok (.getfield 27, 3) := by decide +kernel
theorem dX0_countDelivered_40 : decode cX0_countDelivered 40 = .ok (.aload_n 0, 1) := by decide +kernel
theorem dX0_countDelivered_41 : decode cX0_countDelivered 41 = .ok (.getfield 18, 3) := by decide +kernel
theorem dX0_countDelivered_44 : decode cX0_countDelivered 44 = .ok (.if_icmp .ne 8, 3) := by decide +kernel
theorem dX0_countDelivered_47 : decode cX0_countDelivered 47 = .ok (.aload_n 0, 1) := by decide +kernel
theorem dX0_countDelivered_48 : decode cX0_countDelivered 48 = .ok (.iload_n 2, 1) := by decide +kernel
theorem dX0_countDelivered_49 : decode cX0_countDelivered 49 = .ok (.putfield 39, 3) := by decide +kernel
theorem dX0_countDelivered_52 : decode cX0_countDelivered 52 = .ok (.return_, 1) := by decide +kernel
set_option maxRecDepth 20000 in
theorem ggX1_init_X2_init : GoodIn wsX1_init wsX2_init := goodIn_r _ [10, 11, 2, 3, 12, 13, 14, 15, 16, 17, 18, 19, 20, 21, 22, 23, 24, 25, 26, 27, 32, 33, 34, 35] (by decide +kernel) (by decide +kernel)
set_option maxRecDepth 20000 in
theorem gX1_init_X2_init_n11 : GoodIn wsX1_init (wsX2_init) := ggX1_init_X2_init
theorem dX1_init_0 : decode cX1_init 0 = .ok (.aload_n 0, 1) := by decide +kernel
theorem dX1_init_1 : decode cX1_init 1 = .ok (.invokespecial 3, 3) := by decide +kernel
theorem dX1_init_4 : decode cX1_init 4 = .ok (.aload_n 0, 1) := by decide +kernel
theorem dX1_init_5 : decode cX1_init 5 = .ok (.new 9, 3) := by decide +kernel
theorem dX1_init_8 : decode cX1_init 8 = .ok (.dup, 1) := by decide +kernel
theorem dX1_init_9 : decode cX1_init 9 = .ok (.invokespecial 11, 3) := by decide +kernel
theorem dX1_init_12 : decode cX1_init 12 = .ok (.putfield 12, 3) := by decide +kernel
theorem dX1_init_15 : decode cX1_init 15 = .ok (.aload_n 0, 1) := by decide +kernel
theorem dX1_init_16 : decode cX1_init 16 = .ok (.new 9, 3) := by decide +kernel
theorem dX1_init_19 : decode cX1_init 19 = .ok (.dup, 1) := by decide +kernel
theorem dX1_init_20 : decode cX1_init 20 = .ok (.invokespecial 11, 3) := by decide +kernel
theorem dX1_init_23 : decode cX1_init 23 = .ok (.putfield 18, 3) := by decide +kernel
theorem dX1_init_26 : decode cX1_init 26 = .ok (.return_, 1) := by decide +kernel
theorem dX1_clear_0 : decode cX1_clear 0 = .ok (.aload_n 0, 1) := by decide +kernel
theorem dX1_clear_1 : decode cX1_clear 1 = .ok (.iconst 0, 1) := by decide +kernel
theorem dX1_clear_2 : decode cX1_clear 2 = .ok (.putfield 21, 3) := by decide +kernel
theorem dX1_clear_5 : decode cX1_clear 5 = .ok (.aload_n 0, 1) := by decide +kernel
theorem dX1_clear_6 : decode cX1_clear 6 = .ok (.iconst (-1), 1) := by decide +kernel
theorem dX1_clear_7 : decode cX1_clear 7 = .ok (.putfield 25, 3) := by decide +kernel
theorem dX1_clear_10 : decode cX1_clear 10 = .ok (.return_, 1) := by decide +kernel
set_option maxRecDepth 20000 in
theorem ggX2_init_X4_init : GoodIn wsX2_init wsX4_init := goodIn_r _ [11, 12, 2, 3] (by decide +kernel) (by decide +kernel)
set_option maxRecDepth 20000 in
theorem gX2_init_X4_init_n21 : GoodIn wsX2_init (wsX4_init) := ggX2_init_X4_init
theorem dX2_init_0 : decode cX2_init 0 = .ok (.aload_n 0, 1) := by decide +kernel
theorem dX2_init_1 : decode cX2_init 1 = .ok (.invokespecial 3, 3) := by decide +kernel
theorem dX2_init_4 : decode cX2_init 4 = .ok (.aload_n 0, 1) := by decide +kernel
theorem dX2_init_5 : decode cX2_init 5 = .ok (.iconst 4, 1) := by decide +kernel
theorem dX2_init_6 : decode cX2_init 6 = .ok (.anewarray 9, 3) := by decide +kernel
theorem dX2_init_9 : decode cX2_init 9 = .ok (.putfield 11, 3) := by decide +kernel
theorem dX2_init_12 : decode cX2_init 12 = .ok (.aload_n 0, 1) := by decide +kernel
theorem dX2_init_13 : decode cX2_init 13 = .ok (.bipush 7, 2) := by decide +kernel
theorem dX2_init_15 : decode cX2_init 15 = .ok (.newarray .int, 2) := by decide +kernel
theorem dX2_init_17 : decode cX2_init 17 = .ok (.putfield 17, 3) := by decide +kernel
theorem dX2_init_20 : decode cX2_init 20 = .ok (.iconst 0, 1) := by decide +kernel
theorem dX2_init_21 : decode cX2_init 21 = .ok (.istore_n 1, 1) := by decide +kernel
theorem dX2_init_22 : decode cX2_init 22 = .ok (.iload_n 1, 1) := by decide +kernel
theorem dX2_init_23 : decode cX2_init 23 = .ok (.aload_n 0, 1) := by decide +kernel
theorem dX2_init_24 : decode cX2_init 24 = .ok (.getfield 11, 3) := by decide +kernel
theorem dX2_init_27 : decode cX2_init 27 = .ok (.arraylength, 1) := by decide +kernel
theorem dX2_init_28 : decode cX2_init 28 = .ok (.if_icmp .ge 22, 3) := by decide +kernel
theorem dX2_init_31 : decode cX2_init 31 = .ok (.aload_n 0, 1) := by decide +kernel
theorem dX2_init_32 : decode cX2_init 32 = .ok (.getfield 11, 3) := by decide +kernel
theorem dX2_init_35 : decode cX2_init 35 = .ok (.iload_n 1, 1) := by decide +kernel
theorem dX2_init_36 : decode cX2_init 36 = .ok (.new 9, 3) := by decide +kernel
theorem dX2_init_39 : decode cX2_init 39 = .ok (.dup, 1) := by decide +kernel
theorem dX2_init_40 : decode cX2_init 40 = .ok (.invokespecial 21, 3) := by decide +kernel
theorem dX2_init_43 : decode cX2_init 43 = .ok (.aastore, 1) := by decide +kernel
theorem dX2_init_44 : decode cX2_init 44 = .ok (.iinc 1 1, 3) := by decide +kernel
theorem dX2_init_47 : decode cX2_init 47 = .ok (.goto (-25), 3) := by decide +kernel
theorem dX2_init_50 : decode cX2_init 50 = .ok (.return_, 1) := by decide +kernel
theorem dX2_clear_0 : decode cX2_clear 0 = .ok (.iconst 0, 1) := by decide +kernel
theorem dX2_clear_1 : decode cX2_clear 1 = .ok (.istore_n 1, 1) := by decide +kernel
theorem dX2_clear_2 : decode cX2_clear 2 = .ok (.iload_n 1, 1) := by decide +kernel
theorem dX2_clear_3 : decode cX2_clear 3 = .ok (.aload_n 0, 1) := by decide +kernel
theorem dX2_clear_4 : decode cX2_clear 4 = .ok (.getfield 17, 3) := by decide +kernel
theorem dX2_clear_7 : decode cX2_clear 7 = .ok (.arraylength, 1) := by decide +kernel
theorem dX2_clear_8 : decode cX2_clear 8 = .ok (.if_icmp .ge 16, 3) := by decide +kernel
theorem dX2_clear_11 : decode cX2_clear 11 = .ok (.aload_n 0, 1) := by decide +kernel
theorem dX2_clear_12 : decode cX2_clear 12 = .ok (.getfield 17, 3) := by decide +kernel
theorem dX2_clear_15 : decode cX2_clear 15 = .ok (.iload_n 1, 1) := by decide +kernel
theorem dX2_clear_16 : decode cX2_clear 16 = .ok (.iconst 0, 1) := by decide +kernel
theorem dX2_clear_17 : decode cX2_clear 17 = .ok (.iastore, 1) := by decide +kernel
theorem dX2_clear_18 : decode cX2_clear 18 = .ok (.iinc 1 1, 3) := by decide +kernel
theorem dX2_clear_21 : decode cX2_clear 21 = .ok (.goto (-19), 3) := by decide +kernel
theorem dX2_clear_24 : decode cX2_clear 24 = .ok (.aload_n 0, 1) := by decide +kernel
theorem dX2_clear_25 : decode cX2_clear 25 = .ok (.iconst 0, 1) := by decide +kernel
theorem dX2_clear_26 : decode cX2_clear 26 = .ok (.putfield 22, 3) := by decide +kernel
theorem dX2_clear_29 : decode cX2_clear 29 = .ok (.aload_n 0, 1) := by decide +kernel
theorem dX2_clear_30 : decode cX2_clear 30 = .ok (.iconst 0, 1) := by decide +kernel
theorem dX2_clear_31 : decode cX2_clear 31 = .ok (.putfield 26, 3) := by decide +kernel
theorem dX2_clear_34 : decode cX2_clear 34 = .ok (.aload_n 0, 1) := by decide +kernel
theorem dX2_clear_35 : decode cX2_clear 35 = .ok (.iconst 4, 1) := by decide +kernel
theorem dX2_clear_36 : decode cX2_clear 36 = .ok (.putfield 29, 3) := by decide +kernel
theorem dX2_clear_39 : decode cX2_clear 39 = .ok (.aload_n 0, 1) := by decide +kernel
theorem dX2_clear_40 : decode cX2_clear 40 = .ok (.iconst (-1), 1) := by decide +kernel
theorem dX2_clear_41 : decode cX2_clear 41 = .ok (.putfield 32, 3) := by decide +kernel
theorem dX2_clear_44 : decode cX2_clear 44 = .ok (.aload_n 0, 1) := by decide +kernel
theorem dX2_clear_45 : decode cX2_clear 45 = .ok (.iconst (-1), 1) := by decide +kernel
theorem dX2_clear_46 : decode cX2_clear 46 = .ok (.putfield 35, 3) := by decide +kernel
theorem dX2_clear_49 : decode cX2_clear 49 = .ok (.return_, 1) := by decide +kernel
theorem dX2_firstPacket_0 : decode cX2_firstPacket 0 = .ok (.aload_n 0, 1) := by decide +kernel
theorem dX2_firstPacket_1 : decode cX2_firstPacket 1 = .ok (.getfield 11, 3) := by decide +kernel
theorem dX2_firstPacket_4 : decode cX2_firstPacket 4 = .ok (.aload_n 0, 1) := by decide +kernel
theorem dX2_firstPacket_5 : decode cX2_firstPacket 5 = .ok (.getfield 22, 3) := by decide +kernel
theorem dX2_firstPacket_8 : decode cX2_firstPacket 8 = .ok (.aaload, 1) := by decide +kernel
theorem dX2_firstPacket_9 : decode cX2_firstPacket 9 = .ok (.areturn, 1) := by decide +kernel
set_option maxRecDepth 20000 in
theorem ggX2_put_X4_write : GoodIn wsX2_put wsX4_write := goodIn_r _ [8, 9, 10, 11, 12, 20, 21, 22, 23] (by decide +kernel) (by decide +kernel)
set_option maxRecDepth 20000 in
theorem gX2_put_X4_write_n38 : GoodIn wsX2_put (wsX4_write) := ggX2_put_X4_write
theorem dX2_put_0 : decode cX2_put 0 = .ok (.aload_n 0, 1) := by decide +kernel
theorem dX2_put_1 : decode cX2_put 1 = .ok (.dup, 1) := by decide +kernel
theorem dX2_put_2 : decode cX2_put 2 = .ok (.getfield 29, 3) := by decide +kernel
theorem dX2_put_5 : decode cX2_put 5 = .ok (.iconst 1, 1) := by decide +kernel
theorem dX2_put_6 : decode cX2_put 6 = .ok (.isub, 1) := by decide +kernel
theorem dX2_put_7 : decode cX2_put 7 = .ok (.putfield 29, 3) := by decide +kernel
theorem dX2_put_10 : decode cX2_put 10 = .ok (.aload_n 0, 1) := by decide +kernel
theorem dX2_put_11 : decode cX2_put 11 = .ok (.getfield 11, 3) := by decide +kernel
theorem dX2_put_14 : decode cX2_put 14 = .ok (.aload_n 0, 1) := by decide +kernel
theorem dX2_put_15 : decode cX2_put 15 = .ok (.getfield 22, 3) := by decide +kernel
theorem dX2_put_18 : decode cX2_put 18 = .ok (.aload_n 0, 1) := by decide +kernel
theorem dX2_put_19 : decode cX2_put 19 = .ok (.getfield 26, 3) := by decide +kernel
theorem dX2_put_22 : decode cX2_put 22 = .ok (.iadd, 1) := by decide +kernel
theorem dX2_put_23 : decode cX2_put 23 = .ok (.iconst 4, 1) := by decide +kernel
theorem dX2_put_24 : decode cX2_put 24 = .ok (.irem, 1) := by decide +kernel
theorem dX2_put_25 : decode cX2_put 25 = .ok (.aaload, 1) := by decide +kernel
theorem dX2_put_26 : decode cX2_put 26 = .ok (.iload_n 1, 1) := by decide +kernel
theorem dX2_put_27 : decode cX2_put 27 = .ok (.iload_n 2, 1) := by decide +kernel
theorem dX2_put_28 : decode cX2_put 28 = .ok (.iload_n 3, 1) := by decide +kernel
theorem dX2_put_29 : decode cX2_put 29 = .ok (.iload 4, 2) := by decide +kernel
theorem dX2_put_31 : decode cX2_put 31 = .ok (.invokevirtual 38, 3) := by decide +kernel
theorem dX2_put_34 : decode cX2_put 34 = .ok (.aload_n 0, 1) := by decide +kernel
theorem dX2_put_35 : decode cX2_put 35 = .ok (.dup, 1) := by decide +kernel
theorem dX2_put_36 : decode cX2_put 36 = .ok (.getfield 26, 3) := by decide +kernel
theorem dX2_put_39 : decode cX2_put 39 = .ok (.iconst 1, 1) := by decide +kernel
theorem dX2_put_40 : decode cX2_put 40 = .ok (.iadd, 1) := by decide +kernel
theorem dX2_put_41 : decode cX2_put 41 = .ok (.putfield 26, 3) := by decide +kernel
theorem dX2_put_44 : decode cX2_put 44 = .ok (.return_, 1) := by decide +kernel
theorem dX2_drop_0 : decode cX2_drop 0 = .ok (.aload_n 0, 1) := by decide +kernel
theorem dX2_drop_1 : decode cX2_drop 1 = .ok (.aload_n 0, 1) := by decide +kernel
theorem dX2_drop_2 : decode cX2_drop 2 = .ok (.getfield 22, 3) := by decide +kernel
theorem dX2_drop_5 : decode cX2_drop 5 = .ok (.iconst 1, 1) := by decide +kernel
theorem dX2_drop_6 : decode cX2_drop 6 = .ok (.iadd, 1) := by decide +kernel
theorem dX2_drop_7 : decode cX2_drop 7 = .ok (.iconst 4, 1) := by decide +kernel
theorem dX2_drop_8 : decode cX2_drop 8 = .ok (.irem, 1) := by decide +kernel
theorem dX2_drop_9 : decode cX2_drop 9 = .ok (.putfield 22, 3) := by decide +kernel
theorem dX2_drop_12 : decode cX2_drop 12 = .ok (.aload_n 0, 1) := by decide +kernel
theorem dX2_drop_13 : decode cX2_drop 13 = .ok (.dup, 1) := by decide +kernel
theorem dX2_drop_14 : decode cX2_drop 14 = .ok (.getfield 26, 3) := by decide +kernel
theorem dX2_drop_17 : decode cX2_drop 17 = .ok (.iconst 1, 1) := by decide +kernel
theorem dX2_drop_18 : decode cX2_drop 18 = .ok (.isub, 1) := by decide +kernel
theorem dX2_drop_19 : decode cX2_drop 19 = .ok (.putfield 26, 3) := by decide +kernel
theorem dX2_drop_22 : decode cX2_drop 22 = .ok (.aload_n 0, 1) := by decide +kernel
theorem dX2_drop_23 : decode cX2_drop 23 = .ok (.getfield 17, 3) := by decide +kernel
theorem dX2_drop_26 : decode cX2_drop 26 = .ok (.iload_n 1, 1) := by decide +kernel
theorem dX2_drop_27 : decode cX2_drop 27 = .ok (.dup2, 1) := by decide +kernel
theorem dX2_drop_28 : decode cX2_drop 28 = .ok (.iaload, 1) := by decide +kernel
theorem dX2_drop_29 : decode cX2_drop 29 = .ok (.iconst 1, 1) := by decide +kernel
theorem dX2_drop_30 : decode cX2_drop 30 = .ok (.iadd, 1) := by decide +kernel
theorem dX2_drop_31 : decode cX2_drop 31 = .ok (.iastore, 1) := by decide +kernel
theorem dX2_drop_32 : decode cX2_drop 32 = .ok (.return_, 1) := by decide +kernel
theorem dX2_takeBack_0 : decode cX2_takeBack 0 = .ok (.aload_n 0, 1) := by decide +kernel
theorem dX2_takeBack_1 : decode cX2_takeBack 1 = .ok (.dup, 1) := by decide +kernel
theorem dX2_takeBack_2 : decode cX2_takeBack 2 = .ok (.getfield 29, 3) := by decide +kernel
theorem dX2_takeBack_5 : decode cX2_takeBack 5 = .ok (.aload_n 0, 1) := by decide +kernel
theorem dX2_takeBack_6 : decode cX2_takeBack 6 = .ok (.getfield 17, 3) := by decide +kernel
theorem dX2_takeBack_9 : decode cX2_takeBack 9 = .ok (.iload_n 1, 1) := by decide +kernel
theorem dX2_takeBack_10 : decode cX2_takeBack 10 = .ok (.iaload, 1) := by decide +kernel
theorem dX2_takeBack_11 : decode cX2_takeBack 11 = .ok (.iadd, 1) := by decide +kernel
theorem dX2_takeBack_12 : decode cX2_takeBack 12 = .ok (.putfield 29, 3) := by decide +kernel
theorem dX2_takeBack_15 : decode cX2_takeBack 15 = .ok (.aload_n 0, 1) := by decide +kernel
theorem dX2_takeBack_16 : decode cX2_takeBack 16 = .ok (.getfield 17, 3) := by decide +kernel
theorem dX2_takeBack_19 : decode cX2_takeBack 19 = .ok (.iload_n 1, 1) := by decide +kernel
theorem dX2_takeBack_20 : decode cX2_takeBack 20 = .ok (.iconst 0, 1) := by decide +kernel
theorem dX2_takeBack_21 : decode cX2_takeBack 21 = .ok (.iastore, 1) := by decide +kernel
theorem dX2_takeBack_22 : decode cX2_takeBack 22 = .ok (.return_, 1) := by decide +kernel
theorem dX2_onTheWayBack_0 : decode cX2_onTheWayBack 0 = .ok (.iconst 0, 1) := by decide +kernel
theorem dX2_onTheWayBack_1 : decode cX2_onTheWayBack 1 = .ok (.istore_n 1, 1) := by decide +kernel
theorem dX2_onTheWayBack_2 : decode cX2_onTheWayBack 2 = .ok (.iconst 0, 1) := by decide +kernel
theorem dX2_onTheWayBack_3 : decode cX2_onTheWayBack 3 = .ok (.istore_n 2, 1) := by decide +kernel
theorem dX2_onTheWayBack_4 : decode cX2_onTheWayBack 4 = .ok (.iload_n 2, 1) := by decide +kernel
theorem dX2_onTheWayBack_5 : decode cX2_onTheWayBack 5 = .ok (.aload_n 0, 1) := by decide +kernel
theorem dX2_onTheWayBack_6 : decode cX2_onTheWayBack 6 = .ok (.getfield 17, 3) := by decide +kernel
theorem dX2_onTheWayBack_9 : decode cX2_onTheWayBack 9 = .ok (.arraylength, 1) := by decide +kernel
theorem dX2_onTheWayBack_10 : decode cX2_onTheWayBack 10 = .ok (.if_icmp .ge 18, 3) := by decide +kernel
theorem dX2_onTheWayBack_13 : decode cX2_onTheWayBack 13 = .ok (.iload_n 1, 1) := by decide +kernel
theorem dX2_onTheWayBack_14 : decode cX2_onTheWayBack 14 = .ok (.aload_n 0, 1) := by decide +kernel
theorem dX2_onTheWayBack_15 : decode cX2_onTheWayBack 15 = .ok (.getfield 17, 3) := by decide +kernel
theorem dX2_onTheWayBack_18 : decode cX2_onTheWayBack 18 = .ok (.iload_n 2, 1) := by decide +kernel
theorem dX2_onTheWayBack_19 : decode cX2_onTheWayBack 19 = .ok (.iaload, 1) := by decide +kernel
theorem dX2_onTheWayBack_20 : decode cX2_onTheWayBack 20 = .ok (.iadd, 1) := by decide +kernel
theorem dX2_onTheWayBack_21 : decode cX2_onTheWayBack 21 = .ok (.istore_n 1, 1) := by decide +kernel
theorem dX2_onTheWayBack_22 : decode cX2_onTheWayBack 22 = .ok (.iinc 2 1, 3) := by decide +kernel
theorem dX2_onTheWayBack_25 : decode cX2_onTheWayBack 25 = .ok (.goto (-21), 3) := by decide +kernel
theorem dX2_onTheWayBack_28 : decode cX2_onTheWayBack 28 = .ok (.iload_n 1, 1) := by decide +kernel
theorem dX2_onTheWayBack_29 : decode cX2_onTheWayBack 29 = .ok (.ireturn, 1) := by decide +kernel
theorem dX2_pick_0 : decode cX2_pick 0 = .ok (.aload_n 0, 1) := by decide +kernel
theorem dX2_pick_1 : decode cX2_pick 1 = .ok (.iconst (-1), 1) := by decide +kernel
theorem dX2_pick_2 : decode cX2_pick 2 = .ok (.putfield 35, 3) := by decide +kernel
theorem dX2_pick_5 : decode cX2_pick 5 = .ok (.aload_n 0, 1) := by decide +kernel
theorem dX2_pick_6 : decode cX2_pick 6 = .ok (.getfield 29, 3) := by decide +kernel
theorem dX2_pick_9 : decode cX2_pick 9 = .ok (.ifCond .ne 4, 3) := by decide +kernel
theorem dX2_pick_12 : decode cX2_pick 12 = .ok (.return_, 1) := by decide +kernel
theorem dX2_pick_13 : decode cX2_pick 13 = .ok (.iconst 1, 1) := by decide +kernel
theorem dX2_pick_14 : decode cX2_pick 14 = .ok (.istore_n 3, 1) := by decide +kernel
theorem dX2_pick_15 : decode cX2_pick 15 = .ok (.iload_n 3, 1) := by decide +kernel
theorem dX2_pick_16 : decode cX2_pick 16 = .ok (.aload_n 1, 1) := by decide +kernel
theorem dX2_pick_17 : decode cX2_pick 17 = .ok (.arraylength, 1) := by decide +kernel
theorem dX2_pick_18 : decode cX2_pick 18 = .ok (.if_icmp .gt 41, 3) := by decide +kernel
theorem dX2_pick_21 : decode cX2_pick 21 = .ok (.aload_n 0, 1) := by decide +kernel
theorem dX2_pick_22 : decode cX2_pick 22 = .ok (.getfield 32, 3) := by decide +kernel
theorem dX2_pick_25 : decode cX2_pick 25 = .ok (.iload_n 3, 1) := by decide +kernel
theorem dX2_pick_26 : decode cX2_pick 26 = .ok (.iadd, 1) := by decide +kernel
theorem dX2_pick_27 : decode cX2_pick 27 = .ok (.aload_n 1, 1) := by decide +kernel
theorem dX2_pick_28 : decode cX2_pick 28 = .ok (.arraylength, 1) := by decide +kernel
theorem dX2_pick_29 : decode cX2_pick 29 = .ok (.irem, 1) := by decide +kernel
theorem dX2_pick_30 : decode cX2_pick 30 = .ok (.istore 4, 2) := by decide +kernel
theorem dX2_pick_32 : decode cX2_pick 32 = .ok (.aload_n 1, 1) := by decide +kernel
theorem dX2_pick_33 : decode cX2_pick 33 = .ok (.iload 4, 2) := by decide +kernel
theorem dX2_pick_35 : decode cX2_pick 35 = .ok (.iaload, 1) := by decide +kernel
theorem dX2_pick_36 : decode cX2_pick 36 = .ok (.iload_n 2, 1) := by decide +kernel
theorem dX2_pick_37 : decode cX2_pick 37 = .ok (.if_icmp .ne 16, 3) := by decide +kernel
theorem dX2_pick_40 : decode cX2_pick 40 = .ok (.aload_n 0, 1) := by decide +kernel
theorem dX2_pick_41 : decode cX2_pick 41 = .ok (.iload 4, 2) := by decide +kernel
theorem dX2_pick_43 : decode cX2_pick 43 = .ok (.putfield 32, 3) := by decide +kernel
theorem dX2_pick_46 : decode cX2_pick 46 = .ok (.aload_n 0, 1) := by decide +kernel
theorem dX2_pick_47 : decode cX2_pick 47 = .ok (.iload 4, 2) := by decide +kernel
theorem dX2_pick_49 : decode cX2_pick 49 = .ok (.putfield 35, 3) := by decide +kernel
theorem dX2_pick_52 : decode cX2_pick 52 = .ok (.return_, 1) := by decide +kernel
theorem dX2_pick_53 : decode cX2_pick 53 = .ok (.iinc 3 1, 3) := by decide +kernel
theorem dX2_pick_56 : decode cX2_pick 56 = .ok (.goto (-41), 3) := by decide +kernel
theorem dX2_pick_59 : decode cX2_pick 59 = .ok (.return_, 1) := by decide +kernel
theorem dX3_init_0 : decode cX3_init 0 = .ok (.aload_n 0, 1) := by decide +kernel
theorem dX3_init_1 : decode cX3_init 1 = .ok (.invokespecial 3, 3) := by decide +kernel
theorem dX3_init_4 : decode cX3_init 4 = .ok (.aload_n 0, 1) := by decide +kernel
theorem dX3_init_5 : decode cX3_init 5 = .ok (.iload_n 1, 1) := by decide +kernel
theorem dX3_init_6 : decode cX3_init 6 = .ok (.anewarray 9, 3) := by decide +kernel
theorem dX3_init_9 : decode cX3_init 9 = .ok (.putfield 11, 3) := by decide +kernel
theorem dX3_init_12 : decode cX3_init 12 = .ok (.aload_n 0, 1) := by decide +kernel
theorem dX3_init_13 : decode cX3_init 13 = .ok (.iload_n 2, 1) := by decide +kernel
theorem dX3_init_14 : decode cX3_init 14 = .ok (.anewarray 9, 3) := by decide +kernel
theorem dX3_init_17 : decode cX3_init 17 = .ok (.putfield 17, 3) := by decide +kernel
theorem dX3_init_20 : decode cX3_init 20 = .ok (.aload_n 0, 1) := by decide +kernel
theorem dX3_init_21 : decode cX3_init 21 = .ok (.iload_n 1, 1) := by decide +kernel
theorem dX3_init_22 : decode cX3_init 22 = .ok (.newarray .int, 2) := by decide +kernel
theorem dX3_init_24 : decode cX3_init 24 = .ok (.putfield 20, 3) := by decide +kernel
theorem dX3_init_27 : decode cX3_init 27 = .ok (.return_, 1) := by decide +kernel
set_option maxRecDepth 20000 in
theorem ggX3_pick_X2_pick : GoodIn wsX3_pick wsX2_pick := goodIn_r _ [6, 7, 8, 9, 13, 14, 15, 16, 17, 18, 19] (by decide +kernel) (by decide +kernel)
set_option maxRecDepth 20000 in
theorem gX3_pick_X2_pick_n24 : GoodIn wsX3_pick (wsX2_pick) := ggX3_pick_X2_pick
theorem dX3_pick_0 : decode cX3_pick 0 = .ok (.iconst 0, 1) := by decide +kernel
theorem dX3_pick_1 : decode cX3_pick 1 = .ok (.istore_n 1, 1) := by decide +kernel
theorem dX3_pick_2 : decode cX3_pick 2 = .ok (.iload_n 1, 1) := by decide +kernel
theorem dX3_pick_3 : decode cX3_pick 3 = .ok (.aload_n 0, 1) := by decide +kernel
theorem dX3_pick_4 : decode cX3_pick 4 = .ok (.getfield 17, 3) := by decide +kernel
theorem dX3_pick_7 : decode cX3_pick 7 = .ok (.arraylength, 1) := by decide +kernel
theorem dX3_pick_8 : decode cX3_pick 8 = .ok (.if_icmp .ge 23, 3) := by decide +kernel
theorem dX3_pick_11 : decode cX3_pick 11 = .ok (.aload_n 0, 1) := by decide +kernel
theorem dX3_pick_12 : decode cX3_pick 12 = .ok (.getfield 17, 3) := by decide +kernel
theorem dX3_pick_15 : decode cX3_pick 15 = .ok (.iload_n 1, 1) := by decide +kernel
theorem dX3_pick_16 : decode cX3_pick 16 = .ok (.aaload, 1) := by decide +kernel
theorem dX3_pick_17 : decode cX3_pick 17 = .ok (.aload_n 0, 1) := by decide +kernel
theorem dX3_pick_18 : decode cX3_pick 18 = .ok (.getfield 20, 3) := by decide +kernel
theorem dX3_pick_21 : decode cX3_pick 21 = .ok (.iload_n 1, 1) := by decide +kernel
theorem dX3_pick_22 : decode cX3_pick 22 = .ok (.invokevirtual 24, 3) := by decide +kernel
theorem dX3_pick_25 : decode cX3_pick 25 = .ok (.iinc 1 1, 3) := by decide +kernel
theorem dX3_pick_28 : decode cX3_pick 28 = .ok (.goto (-26), 3) := by decide +kernel
theorem dX3_pick_31 : decode cX3_pick 31 = .ok (.return_, 1) := by decide +kernel
set_option maxRecDepth 20000 in
theorem ggX3_move_X2_firstPacket : GoodIn wsX3_move wsX2_firstPacket := goodIn_r _ [6, 7, 8, 29, 30, 31, 32, 33, 34, 35] (by decide +kernel) (by decide +kernel)
set_option maxRecDepth 20000 in
theorem gX3_move_X2_firstPacket_n32 : GoodIn wsX3_move (wsX2_firstPacket) := ggX3_move_X2_firstPacket
set_option maxRecDepth 20000 in
theorem ggX3_move_X2_put : GoodIn wsX3_move wsX2_put := goodIn_r _ [11, 12, 7, 8, 13, 14, 15, 16, 17, 18, 19, 20, 21, 29, 30, 31, 32, 33, 34, 35, 36, 37, 38, 39] (by decide +kernel) (by decide +kernel)
set_option maxRecDepth 20000 in
theorem gX3_move_X2_put_n50 : GoodIn wsX3_move (wsX2_put) := ggX3_move_X2_put
set_option maxRecDepth 20000 in
theorem ggX3_move_X2_drop : GoodIn wsX3_move wsX2_drop := goodIn_r _ [24, 8, 13, 25, 29, 30, 31, 32, 33, 34, 35] (by decide +kernel) (by decide +kernel)
set_option maxRecDepth 20000 in
theorem gX3_move_X2_drop_n54 : GoodIn wsX3_move (wsX2_drop) := ggX3_move_X2_drop
theorem dX3_move_0 : decode cX3_move 0 = .ok (.iconst 0, 1) := by decide +kernel
theorem dX3_move_1 : decode cX3_move 1 = .ok (.istore_n 2, 1) := by decide +kernel
theorem dX3_move_2 : decode cX3_move 2 = .ok (.iload_n 2, 1) := by decide +kernel
theorem dX3_move_3 : decode cX3_move 3 = .ok (.aload_n 0, 1) := by decide +kernel
theorem dX3_move_4 : decode cX3_move 4 = .ok (.getfield 17, 3) := by decide +kernel
theorem dX3_move_7 : decode cX3_move 7 = .ok (.arraylength, 1) := by decide +kernel
theorem dX3_move_8 : decode cX3_move 8 = .ok (.if_icmp .ge 74, 3) := by decide +kernel
theorem dX3_move_11 : decode cX3_move 11 = .ok (.aload_n 0, 1) := by decide +kernel
theorem dX3_move_12 : decode cX3_move 12 = .ok (.getfield 17, 3) := by decide +kernel
theorem dX3_move_15 : decode cX3_move 15 = .ok (.iload_n 2, 1) := by decide +kernel
theorem dX3_move_16 : decode cX3_move 16 = .ok (.aaload, 1) := by decide +kernel
theorem dX3_move_17 : decode cX3_move 17 = .ok (.getfield 28, 3) := by decide +kernel
theorem dX3_move_20 : decode cX3_move 20 = .ok (.istore_n 3, 1) := by decide +kernel
theorem dX3_move_21 : decode cX3_move 21 = .ok (.iload_n 3, 1) := by decide +kernel
theorem dX3_move_22 : decode cX3_move 22 = .ok (.iconst (-1), 1) := by decide +kernel
theorem dX3_move_23 : decode cX3_move 23 = .ok (.if_icmp .eq 53, 3) := by decide +kernel
theorem dX3_move_26 : decode cX3_move 26 = .ok (.aload_n 0, 1) := by decide +kernel
theorem dX3_move_27 : decode cX3_move 27 = .ok (.getfield 11, 3) := by decide +kernel
theorem dX3_move_30 : decode cX3_move 30 = .ok (.iload_n 3, 1) := by decide +kernel
theorem dX3_move_31 : decode cX3_move 31 = .ok (.aaload, 1) := by decide +kernel
theorem dX3_move_32 : decode cX3_move 32 = .ok (.invokevirtual 32, 3) := by decide +kernel
theorem dX3_move_35 : decode cX3_move 35 = .ok (.astore 4, 2) := by decide +kernel
theorem dX3_move_37 : decode cX3_move 37 = .ok (.aload_n 0, 1) := by decide +kernel
theorem dX3_move_38 : decode cX3_move 38 = .ok (.getfield 17, 3) := by decide +kernel
theorem dX3_move_41 : decode cX3_move 41 = .ok (.iload_n 2, 1) := by decide +kernel
theorem dX3_move_42 : decode cX3_move 42 = .ok (.aaload, 1) := by decide +kernel
theorem dX3_move_43 : decode cX3_move 43 = .ok (.aload 4, 2) := by decide +kernel
theorem dX3_move_45 : decode cX3_move 45 = .ok (.getfield 36, 3) := by decide +kernel
theorem dX3_move_48 : decode cX3_move 48 = .ok (.aload 4, 2) := by decide +kernel
theorem dX3_move_50 : decode cX3_move 50 = .ok (.getfield 41, 3) := by decide +kernel
theorem dX3_move_53 : decode cX3_move 53 = .ok (.aload 4, 2) := by decide +kernel
theorem dX3_move_55 : decode cX3_move 55 = .ok (.getfield 44, 3) := by decide +kernel
theorem dX3_move_58 : decode cX3_move 58 = .ok (.aload 4, 2) := by decide +kernel
theorem dX3_move_60 : decode cX3_move 60 = .ok (.getfield 47, 3) := by decide +kernel
theorem dX3_move_63 : decode cX3_move 63 = .ok (.invokevirtual 50, 3) := by decide +kernel
theorem dX3_move_66 : decode cX3_move 66 = .ok (.aload_n 0, 1) := by decide +kernel
theorem dX3_move_67 : decode cX3_move 67 = .ok (.getfield 11, 3) := by decide +kernel
theorem dX3_move_70 : decode cX3_move 70 = .ok (.iload_n 3, 1) := by decide +kernel
theorem dX3_move_71 : decode cX3_move 71 = .ok (.aaload, 1) := by decide +kernel
theorem dX3_move_72 : decode cX3_move 72 = .ok (.iload_n 1, 1) := by decide +kernel
theorem dX3_move_73 : decode cX3_move 73 = .ok (.invokevirtual 54, 3) := by decide +kernel
theorem dX3_move_76 : decode cX3_move 76 = .ok (.iinc 2 1, 3) := by decide +kernel
theorem dX3_move_79 : decode cX3_move 79 = .ok (.goto (-77), 3) := by decide +kernel
theorem dX3_move_82 : decode cX3_move 82 = .ok (.return_, 1) := by decide +kernel
theorem dX4_init_0 : decode cX4_init 0 = .ok (.aload_n 0, 1) := by decide +kernel
theorem dX4_init_1 : decode cX4_init 1 = .ok (.invokespecial 1, 3) := by decide +kernel
theorem dX4_init_4 : decode cX4_init 4 = .ok (.return_, 1) := by decide +kernel
theorem dX4_write_0 : decode cX4_write 0 = .ok (.aload_n 0, 1) := by decide +kernel
theorem dX4_write_1 : decode cX4_write 1 = .ok (.iload_n 1, 1) := by decide +kernel
theorem dX4_write_2 : decode cX4_write 2 = .ok (.putfield 7, 3) := by decide +kernel
theorem dX4_write_5 : decode cX4_write 5 = .ok (.aload_n 0, 1) := by decide +kernel
theorem dX4_write_6 : decode cX4_write 6 = .ok (.iload_n 2, 1) := by decide +kernel
theorem dX4_write_7 : decode cX4_write 7 = .ok (.putfield 13, 3) := by decide +kernel
theorem dX4_write_10 : decode cX4_write 10 = .ok (.aload_n 0, 1) := by decide +kernel
theorem dX4_write_11 : decode cX4_write 11 = .ok (.iload_n 3, 1) := by decide +kernel
theorem dX4_write_12 : decode cX4_write 12 = .ok (.putfield 16, 3) := by decide +kernel
theorem dX4_write_15 : decode cX4_write 15 = .ok (.aload_n 0, 1) := by decide +kernel
theorem dX4_write_16 : decode cX4_write 16 = .ok (.iload 4, 2) := by decide +kernel
theorem dX4_write_18 : decode cX4_write 18 = .ok (.putfield 19, 3) := by decide +kernel
theorem dX4_write_21 : decode cX4_write 21 = .ok (.return_, 1) := by decide +kernel
set_option maxRecDepth 20000 in
theorem ggX5_init_X0_init : GoodIn wsX5_init wsX0_init := goodIn_r _ [26, 27, 2, 3] (by decide +kernel) (by decide +kernel)
set_option maxRecDepth 20000 in
theorem gX5_init_X0_init_n46 : GoodIn wsX5_init (wsX0_init) := ggX5_init_X0_init
set_option maxRecDepth 20000 in
theorem ggX5_init_X1_init : GoodIn wsX5_init wsX1_init := goodIn_r _ [29, 30, 2, 3, 31, 21, 22, 32, 33, 34, 35, 36, 37, 38, 15, 39, 40, 41, 42, 43, 44, 121, 122, 123, 124, 125, 126, 127, 117, 118, 119, 120, 131, 132, 133, 134] (by decide +kernel) (by decide +kernel)
set_option maxRecDepth 20000 in
theorem gX5_init_X1_init_n47 : GoodIn wsX5_init (wsX1_init) := ggX5_init_X1_init
set_option maxRecDepth 20000 in
theorem ggX5_init_X2_init : GoodIn wsX5_init wsX2_init := goodIn_r _ [35, 36, 2, 3, 37, 38, 15, 39, 40, 41, 42, 43, 44, 121, 122, 123, 124, 125, 126, 127, 131, 132, 133, 134] (by decide +kernel) (by decide +kernel)
set_option maxRecDepth 20000 in
theorem gX5_init_X2_init_n55 : GoodIn wsX5_init (wsX2_init) := ggX5_init_X2_init
set_option maxRecDepth 20000 in
theorem ggX5_init_X3_init : GoodIn wsX5_init wsX3_init := goodIn_r _ [46, 47, 2, 3, 48, 49, 50, 15, 51, 128, 129, 130] (by decide +kernel) (by decide +kernel)
set_option maxRecDepth 20000 in
theorem gX5_init_X3_init_n56 : GoodIn wsX5_init (wsX3_init) := ggX5_init_X3_init
set_option maxRecDepth 20000 in
theorem ggX5_init_X5_joinLeaf : GoodIn wsX5_init wsX5_joinLeaf := goodIn_r _ [56, 13, 7, 57, 58, 59, 55, 60, 11, 61, 62, 63, 64, 10, 91, 92, 93, 94, 95, 96, 97, 98, 99, 100, 101, 102, 103, 128, 129, 130, 117, 118, 119, 120] (by decide +kernel) (by decide +kernel)
set_option maxRecDepth 20000 in
theorem gX5_init_X5_joinLeaf : GoodIn wsX5_init (wsV RX5 59 RX5 yX5_joinLeaf wsX5_joinLeaf) := goodIn_app (goodIn_of _ (by decide +kernel)) ggX5_init_X5_joinLeaf
set_option maxRecDepth 20000 in
theorem ggX5_init_X5_joinSpine : GoodIn wsX5_init wsX5_joinSpine := goodIn_r _ [68, 14, 61, 62, 63, 55, 64, 10, 57, 58, 59, 60, 11, 91, 92, 93, 94, 95, 96, 97, 98, 99, 100, 101, 102, 103, 128, 129, 130] (by decide +kernel) (by decide +kernel)
set_option maxRecDepth 20000 in
theorem gX5_init_X5_joinSpine : GoodIn wsX5_init (wsV RX5 63 RX5 yX5_joinSpine wsX5_joinSpine) := goodIn_app (goodIn_of _ (by decide +kernel)) ggX5_init_X5_joinSpine
set_option maxRecDepth 20000 in
theorem ggX5_init_X5_begin : GoodIn wsX5_init wsX5_begin := goodIn_r _ [72, 73, 74, 75, 76, 77, 9, 7, 16, 78, 22, 79, 80, 39, 81, 82, 83, 84, 85, 86, 20, 87, 88, 89, 90, 91, 92, 93, 94, 95, 96, 97, 98, 99, 100, 101, 102, 103, 121, 122, 123, 124, 125, 126, 127, 117, 118, 119, 120] (by decide +kernel) (by decide +kernel)
set_option maxRecDepth 20000 in
theorem gX5_init_X5_begin : GoodIn wsX5_init (wsV RX5 66 RX5 yX5_begin wsX5_begin) := goodIn_app (goodIn_of _ (by decide +kernel)) ggX5_init_X5_begin
end
section
theorem dX5_init_0 : decode cX5_init 0 = .ok (.aload_n 0, 1) := by decide +kernel
theorem dX5_init_1 : decode cX5_init 1 = .ok (.invokespecial 3, 3) := by decide +kernel
theorem dX5_init_4 : decode cX5_init 4 = .ok (.aload_n 0, 1) := by decide +kernel
theorem dX5_init_5 : decode cX5_init 5 = .ok (.bipush 24, 2) := by decide +kernel
theorem dX5_init_7 : decode cX5_init 7 = .ok (.anewarray 9, 3) := by decide +kernel
theorem dX5_init_10 : decode cX5_init 10 = .ok (.putfield 11, 3) := by decide +kernel
theorem dX5_init_13 : decode cX5_init 13 = .ok (.aload_n 0, 1) := by decide +kernel
theorem dX5_init_14 : decode cX5_init 14 = .ok (.bipush 16, 2) := by decide +kernel
theorem dX5_init_16 : decode cX5_init 16 = .ok (.anewarray 15, 3) := by decide +kernel
theorem dX5_init_19 : decode cX5_init 19 = .ok (.putfield 17, 3) := by decide +kernel
theorem dX5_init_22 : decode cX5_init 22 = .ok (.aload_n 0, 1) := by decide +kernel
theorem dX5_init_23 : decode cX5_init 23 = .ok (.bipush 64, 2) := by decide +kernel
theorem dX5_init_25 : decode cX5_init 25 = .ok (.anewarray 21, 3) := by decide +kernel
theorem dX5_init_28 : decode cX5_init 28 = .ok (.putfield 23, 3) := by decide +kernel
theorem dX5_init_31 : decode cX5_init 31 = .ok (.aload_n 0, 1) := by decide +kernel
theorem dX5_init_32 : decode cX5_init 32 = .ok (.bipush 16, 2) := by decide +kernel
theorem dX5_init_34 : decode cX5_init 34 = .ok (.anewarray 21, 3) := by decide +kernel
theorem dX5_init_37 : decode cX5_init 37 = .ok (.putfield 27, 3) := by decide +kernel
theorem dX5_init_40 : decode cX5_init 40 = .ok (.aload_n 0, 1) := by decide +kernel
theorem dX5_init_41 : decode cX5_init 41 = .ok (.bipush 16, 2) := by decide +kernel
theorem dX5_init_43 : decode cX5_init 43 = .ok (.anewarray 21, 3) := by decide +kernel
theorem dX5_init_46 : decode cX5_init 46 = .ok (.putfield 30, 3) := by decide +kernel
theorem dX5_init_49 : decode cX5_init 49 = .ok (.aload_n 0, 1) := by decide +kernel
theorem dX5_init_50 : decode cX5_init 50 = .ok (.iconst 4, 1) := by decide +kernel
theorem dX5_init_51 : decode cX5_init 51 = .ok (.anewarray 33, 3) := by decide +kernel
theorem dX5_init_54 : decode cX5_init 54 = .ok (.putfield 35, 3) := by decide +kernel
theorem dX5_init_57 : decode cX5_init 57 = .ok (.aload_n 0, 1) := by decide +kernel
theorem dX5_init_58 : decode cX5_init 58 = .ok (.iconst 4, 1) := by decide +kernel
theorem dX5_init_59 : decode cX5_init 59 = .ok (.anewarray 33, 3) := by decide +kernel
theorem dX5_init_62 : decode cX5_init 62 = .ok (.putfield 39, 3) := by decide +kernel
theorem dX5_init_65 : decode cX5_init 65 = .ok (.aload_n 0, 1) := by decide +kernel
theorem dX5_init_66 : decode cX5_init 66 = .ok (.iconst 4, 1) := by decide +kernel
theorem dX5_init_67 : decode cX5_init 67 = .ok (.newarray .int, 2) := by decide +kernel
theorem dX5_init_69 : decode cX5_init 69 = .ok (.putfield 42, 3) := by decide +kernel
theorem dX5_init_72 : decode cX5_init 72 = .ok (.iconst 0, 1) := by decide +kernel
theorem dX5_init_73 : decode cX5_init 73 = .ok (.istore_n 1, 1) := by decide +kernel
theorem dX5_init_74 : decode cX5_init 74 = .ok (.iload_n 1, 1) := by decide +kernel
theorem dX5_init_75 : decode cX5_init 75 = .ok (.bipush 24, 2) := by decide +kernel
theorem dX5_init_77 : decode cX5_init 77 = .ok (.if_icmp .ge 22, 3) := by decide +kernel
theorem dX5_init_80 : decode cX5_init 80 = .ok (.aload_n 0, 1) := by decide +kernel
theorem dX5_init_81 : decode cX5_init 81 = .ok (.getfield 11, 3) := by decide +kernel
theorem dX5_init_84 : decode cX5_init 84 = .ok (.iload_n 1, 1) := by decide +kernel
theorem dX5_init_85 : decode cX5_init 85 = .ok (.new 9, 3) := by decide +kernel
theorem dX5_init_88 : decode cX5_init 88 = .ok (.dup, 1) := by decide +kernel
theorem dX5_init_89 : decode cX5_init 89 = .ok (.invokespecial 46, 3) := by decide +kernel
theorem dX5_init_92 : decode cX5_init 92 = .ok (.aastore, 1) := by decide +kernel
theorem dX5_init_93 : decode cX5_init 93 = .ok (.iinc 1 1, 3) := by decide +kernel
theorem dX5_init_96 : decode cX5_init 96 = .ok (.goto (-22), 3) := by decide +kernel
theorem dX5_init_99 : decode cX5_init 99 = .ok (.iconst 0, 1) := by decide +kernel
theorem dX5_init_100 : decode cX5_init 100 = .ok (.istore_n 1, 1) := by decide +kernel
theorem dX5_init_101 : decode cX5_init 101 = .ok (.iload_n 1, 1) := by decide +kernel
theorem dX5_init_102 : decode cX5_init 102 = .ok (.bipush 16, 2) := by decide +kernel
theorem dX5_init_104 : decode cX5_init 104 = .ok (.if_icmp .ge 55, 3) := by decide +kernel
theorem dX5_init_107 : decode cX5_init 107 = .ok (.aload_n 0, 1) := by decide +kernel
theorem dX5_init_108 : decode cX5_init 108 = .ok (.getfield 17, 3) := by decide +kernel
theorem dX5_init_111 : decode cX5_init 111 = .ok (.iload_n 1, 1) := by decide +kernel
theorem dX5_init_112 : decode cX5_init 112 = .ok (.new 15, 3) := by decide +kernel
theorem dX5_init_115 : decode cX5_init 115 = .ok (.dup, 1) := by decide +kernel
theorem dX5_init_116 : decode cX5_init 116 = .ok (.invokespecial 47, 3) := by decide +kernel
theorem dX5_init_119 : decode cX5_init 119 = .ok (.aastore, 1) := by decide +kernel
theorem dX5_init_120 : decode cX5_init 120 = .ok (.aload_n 0, 1) := by decide +kernel
theorem dX5_init_121 : decode cX5_init 121 = .ok (.getfield 23, 3) := by decide +kernel
theorem dX5_init_124 : decode cX5_init 124 = .ok (.iload_n 1, 1) := by decide +kernel
theorem dX5_init_125 : decode cX5_init 125 = .ok (.aload_n 0, 1) := by decide +kernel
theorem dX5_init_126 : decode cX5_init 126 = .ok (.getfield 17, 3) := by decide +kernel
theorem dX5_init_129 : decode cX5_init 129 = .ok (.iload_n 1, 1) := by decide +kernel
theorem dX5_init_130 : decode cX5_init 130 = .ok (.aaload, 1) := by decide +kernel
theorem dX5_init_131 : decode cX5_init 131 = .ok (.getfield 48, 3) := by decide +kernel
theorem dX5_init_134 : decode cX5_init 134 = .ok (.aastore, 1) := by decide +kernel
theorem dX5_init_135 : decode cX5_init 135 = .ok (.aload_n 0, 1) := by decide +kernel
theorem dX5_init_136 : decode cX5_init 136 = .ok (.getfield 23, 3) := by decide +kernel
theorem dX5_init_139 : decode cX5_init 139 = .ok (.bipush 16, 2) := by decide +kernel
theorem dX5_init_141 : decode cX5_init 141 = .ok (.iload_n 1, 1) := by decide +kernel
theorem dX5_init_142 : decode cX5_init 142 = .ok (.iadd, 1) := by decide +kernel
theorem dX5_init_143 : decode cX5_init 143 = .ok (.aload_n 0, 1) := by decide +kernel
theorem dX5_init_144 : decode cX5_init 144 = .ok (.getfield 17, 3) := by decide +kernel
theorem dX5_init_147 : decode cX5_init 147 = .ok (.iload_n 1, 1) := by decide +kernel
theorem dX5_init_148 : decode cX5_init 148 = .ok (.aaload, 1) := by decide +kernel
theorem dX5_init_149 : decode cX5_init 149 = .ok (.getfield 52, 3) := by decide +kernel
theorem dX5_init_152 : decode cX5_init 152 = .ok (.aastore, 1) := by decide +kernel
theorem dX5_init_153 : decode cX5_init 153 = .ok (.iinc 1 1, 3) := by decide +kernel
theorem dX5_init_156 : decode cX5_init 156 = .ok (.goto (-55), 3) := by decide +kernel
theorem dX5_init_159 : decode cX5_init 159 = .ok (.iconst 0, 1) := by decide +kernel
theorem dX5_init_160 : decode cX5_init 160 = .ok (.istore_n 1, 1) := by decide +kernel
theorem dX5_init_161 : decode cX5_init 161 = .ok (.iload_n 1, 1) := by decide +kernel
theorem dX5_init_162 : decode cX5_init 162 = .ok (.bipush 16, 2) := by decide +kernel
theorem dX5_init_164 : decode cX5_init 164 = .ok (.if_icmp .ge 65, 3) := by decide +kernel
theorem dX5_init_167 : decode cX5_init 167 = .ok (.aload_n 0, 1) := by decide +kernel
theorem dX5_init_168 : decode cX5_init 168 = .ok (.getfield 27, 3) := by decide +kernel
theorem dX5_init_171 : decode cX5_init 171 = .ok (.iload_n 1, 1) := by decide +kernel
theorem dX5_init_172 : decode cX5_init 172 = .ok (.new 21, 3) := by decide +kernel
theorem dX5_init_175 : decode cX5_init 175 = .ok (.dup, 1) := by decide +kernel
theorem dX5_init_176 : decode cX5_init 176 = .ok (.invokespecial 55, 3) := by decide +kernel
theorem dX5_init_179 : decode cX5_init 179 = .ok (.aastore, 1) := by decide +kernel
theorem dX5_init_180 : decode cX5_init 180 = .ok (.aload_n 0, 1) := by decide +kernel
theorem dX5_init_181 : decode cX5_init 181 = .ok (.getfield 30, 3) := by decide +kernel
theorem dX5_init_184 : decode cX5_init 184 = .ok (.iload_n 1, 1) := by decide +kernel
theorem dX5_init_185 : decode cX5_init 185 = .ok (.new 21, 3) := by decide +kernel
theorem dX5_init_188 : decode cX5_init 188 = .ok (.dup, 1) := by decide +kernel
theorem dX5_init_189 : decode cX5_init 189 = .ok (.invokespecial 55, 3) := by decide +kernel
theorem dX5_init_192 : decode cX5_init 192 = .ok (.aastore, 1) := by decide +kernel
theorem dX5_init_193 : decode cX5_init 193 = .ok (.aload_n 0, 1) := by decide +kernel
theorem dX5_init_194 : decode cX5_init 194 = .ok (.getfield 23, 3) := by decide +kernel
theorem dX5_init_197 : decode cX5_init 197 = .ok (.bipush 32, 2) := by decide +kernel
theorem dX5_init_199 : decode cX5_init 199 = .ok (.iload_n 1, 1) := by decide +kernel
theorem dX5_init_200 : decode cX5_init 200 = .ok (.iadd, 1) := by decide +kernel
theorem dX5_init_201 : decode cX5_init 201 = .ok (.aload_n 0, 1) := by decide +kernel
theorem dX5_init_202 : decode cX5_init 202 = .ok (.getfield 27, 3) := by decide +kernel
theorem dX5_init_205 : decode cX5_init 205 = .ok (.iload_n 1, 1) := by decide +kernel
theorem dX5_init_206 : decode cX5_init 206 = .ok (.aaload, 1) := by decide +kernel
theorem dX5_init_207 : decode cX5_init 207 = .ok (.aastore, 1) := by decide +kernel
theorem dX5_init_208 : decode cX5_init 208 = .ok (.aload_n 0, 1) := by decide +kernel
theorem dX5_init_209 : decode cX5_init 209 = .ok (.getfield 23, 3) := by decide +kernel
theorem dX5_init_212 : decode cX5_init 212 = .ok (.bipush 48, 2) := by decide +kernel
theorem dX5_init_214 : decode cX5_init 214 = .ok (.iload_n 1, 1) := by decide +kernel
theorem dX5_init_215 : decode cX5_init 215 = .ok (.iadd, 1) := by decide +kernel
theorem dX5_init_216 : decode cX5_init 216 = .ok (.aload_n 0, 1) := by decide +kernel
theorem dX5_init_217 : decode cX5_init 217 = .ok (.getfield 30, 3) := by decide +kernel
theorem dX5_init_220 : decode cX5_init 220 = .ok (.iload_n 1, 1) := by decide +kernel
theorem dX5_init_221 : decode cX5_init 221 = .ok (.aaload, 1) := by decide +kernel
theorem dX5_init_222 : decode cX5_init 222 = .ok (.aastore, 1) := by decide +kernel
theorem dX5_init_223 : decode cX5_init 223 = .ok (.iinc 1 1, 3) := by decide +kernel
theorem dX5_init_226 : decode cX5_init 226 = .ok (.goto (-65), 3) := by decide +kernel
theorem dX5_init_229 : decode cX5_init 229 = .ok (.iconst 0, 1) := by decide +kernel
theorem dX5_init_230 : decode cX5_init 230 = .ok (.istore_n 1, 1) := by decide +kernel
theorem dX5_init_231 : decode cX5_init 231 = .ok (.iload_n 1, 1) := by decide +kernel
theorem dX5_init_232 : decode cX5_init 232 = .ok (.iconst 4, 1) := by decide +kernel
theorem dX5_init_233 : decode cX5_init 233 = .ok (.if_icmp .ge 31, 3) := by decide +kernel
theorem dX5_init_236 : decode cX5_init 236 = .ok (.aload_n 0, 1) := by decide +kernel
theorem dX5_init_237 : decode cX5_init 237 = .ok (.getfield 35, 3) := by decide +kernel
theorem dX5_init_240 : decode cX5_init 240 = .ok (.iload_n 1, 1) := by decide +kernel
theorem dX5_init_241 : decode cX5_init 241 = .ok (.new 33, 3) := by decide +kernel
theorem dX5_init_244 : decode cX5_init 244 = .ok (.dup, 1) := by decide +kernel
theorem dX5_init_245 : decode cX5_init 245 = .ok (.bipush 8, 2) := by decide +kernel
theorem dX5_init_247 : decode cX5_init 247 = .ok (.bipush 8, 2) := by decide +kernel
theorem dX5_init_249 : decode cX5_init 249 = .ok (.invokespecial 56, 3) := by decide +kernel
theorem dX5_init_252 : decode cX5_init 252 = .ok (.aastore, 1) := by decide +kernel
theorem dX5_init_253 : decode cX5_init 253 = .ok (.aload_n 0, 1) := by decide +kernel
theorem dX5_init_254 : decode cX5_init 254 = .ok (.iload_n 1, 1) := by decide +kernel
theorem dX5_init_255 : decode cX5_init 255 = .ok (.invokevirtual 59, 3) := by decide +kernel
theorem dX5_init_258 : decode cX5_init 258 = .ok (.iinc 1 1, 3) := by decide +kernel
theorem dX5_init_261 : decode cX5_init 261 = .ok (.goto (-30), 3) := by decide +kernel
theorem dX5_init_264 : decode cX5_init 264 = .ok (.iconst 0, 1) := by decide +kernel
theorem dX5_init_265 : decode cX5_init 265 = .ok (.istore_n 1, 1) := by decide +kernel
theorem dX5_init_266 : decode cX5_init 266 = .ok (.iload_n 1, 1) := by decide +kernel
theorem dX5_init_267 : decode cX5_init 267 = .ok (.iconst 4, 1) := by decide +kernel
theorem dX5_init_268 : decode cX5_init 268 = .ok (.if_icmp .ge 29, 3) := by decide +kernel
theorem dX5_init_271 : decode cX5_init 271 = .ok (.aload_n 0, 1) := by decide +kernel
theorem dX5_init_272 : decode cX5_init 272 = .ok (.getfield 39, 3) := by decide +kernel
theorem dX5_init_275 : decode cX5_init 275 = .ok (.iload_n 1, 1) := by decide +kernel
theorem dX5_init_276 : decode cX5_init 276 = .ok (.new 33, 3) := by decide +kernel
theorem dX5_init_279 : decode cX5_init 279 = .ok (.dup, 1) := by decide +kernel
theorem dX5_init_280 : decode cX5_init 280 = .ok (.iconst 4, 1) := by decide +kernel
theorem dX5_init_281 : decode cX5_init 281 = .ok (.iconst 4, 1) := by decide +kernel
theorem dX5_init_282 : decode cX5_init 282 = .ok (.invokespecial 56, 3) := by decide +kernel
theorem dX5_init_285 : decode cX5_init 285 = .ok (.aastore, 1) := by decide +kernel
theorem dX5_init_286 : decode cX5_init 286 = .ok (.aload_n 0, 1) := by decide +kernel
theorem dX5_init_287 : decode cX5_init 287 = .ok (.iload_n 1, 1) := by decide +kernel
theorem dX5_init_288 : decode cX5_init 288 = .ok (.invokevirtual 63, 3) := by decide +kernel
theorem dX5_init_291 : decode cX5_init 291 = .ok (.iinc 1 1, 3) := by decide +kernel
theorem dX5_init_294 : decode cX5_init 294 = .ok (.goto (-28), 3) := by decide +kernel
theorem dX5_init_297 : decode cX5_init 297 = .ok (.aload_n 0, 1) := by decide +kernel
theorem dX5_init_298 : decode cX5_init 298 = .ok (.iconst 0, 1) := by decide +kernel
theorem dX5_init_299 : decode cX5_init 299 = .ok (.iconst 5, 1) := by decide +kernel
theorem dX5_init_300 : decode cX5_init 300 = .ok (.bipush 8, 2) := by decide +kernel
theorem dX5_init_302 : decode cX5_init 302 = .ok (.invokevirtual 66, 3) := by decide +kernel
theorem dX5_init_305 : decode cX5_init 305 = .ok (.return_, 1) := by decide +kernel
set_option maxRecDepth 20000 in
theorem ggX5_joinLeaf_X5_southOf : GoodIn wsX5_joinLeaf wsX5_southOf := goodIn_r _ [7, 8, 14, 15, 16, 17, 18, 19, 20, 21, 22, 23, 24, 25, 26] (by decide +kernel) (by decide +kernel)
set_option maxRecDepth 20000 in
theorem gX5_joinLeaf_X5_southOf : GoodIn wsX5_joinLeaf (wsV RX5 76 RX5 yX5_southOf wsX5_southOf) := goodIn_app (goodIn_of _ (by decide +kernel)) ggX5_joinLeaf_X5_southOf
set_option maxRecDepth 20000 in
theorem ggX5_joinLeaf_X5_northOf : GoodIn wsX5_joinLeaf wsX5_northOf := goodIn_r _ [12, 13, 14, 15, 16, 17, 18, 19, 20, 21, 22, 23, 24, 25, 26] (by decide +kernel) (by decide +kernel)
set_option maxRecDepth 20000 in
theorem gX5_joinLeaf_X5_northOf : GoodIn wsX5_joinLeaf (wsV RX5 80 RX5 yX5_northOf wsX5_northOf) := goodIn_app (goodIn_of _ (by decide +kernel)) ggX5_joinLeaf_X5_northOf
theorem dX5_joinLeaf_0 : decode cX5_joinLeaf 0 = .ok (.aload_n 0, 1) := by decide +kernel
theorem dX5_joinLeaf_1 : decode cX5_joinLeaf 1 = .ok (.getfield 35, 3) := by decide +kernel
theorem dX5_joinLeaf_4 : decode cX5_joinLeaf 4 = .ok (.iload_n 1, 1) := by decide +kernel
theorem dX5_joinLeaf_5 : decode cX5_joinLeaf 5 = .ok (.aaload, 1) := by decide +kernel
theorem dX5_joinLeaf_6 : decode cX5_joinLeaf 6 = .ok (.astore_n 2, 1) := by decide +kernel
theorem dX5_joinLeaf_7 : decode cX5_joinLeaf 7 = .ok (.iconst 0, 1) := by decide +kernel
theorem dX5_joinLeaf_8 : decode cX5_joinLeaf 8 = .ok (.istore_n 3, 1) := by decide +kernel
theorem dX5_joinLeaf_9 : decode cX5_joinLeaf 9 = .ok (.iload_n 3, 1) := by decide +kernel
theorem dX5_joinLeaf_10 : decode cX5_joinLeaf 10 = .ok (.iconst 4, 1) := by decide +kernel
theorem dX5_joinLeaf_11 : decode cX5_joinLeaf 11 = .ok (.if_icmp .ge 43, 3) := by decide +kernel
theorem dX5_joinLeaf_14 : decode cX5_joinLeaf 14 = .ok (.aload_n 0, 1) := by decide +kernel
theorem dX5_joinLeaf_15 : decode cX5_joinLeaf 15 = .ok (.getfield 17, 3) := by decide +kernel
theorem dX5_joinLeaf_18 : decode cX5_joinLeaf 18 = .ok (.iload_n 1, 1) := by decide +kernel
theorem dX5_joinLeaf_19 : decode cX5_joinLeaf 19 = .ok (.iconst 4, 1) := by decide +kernel
theorem dX5_joinLeaf_20 : decode cX5_joinLeaf 20 = .ok (.imul, 1) := by decide +kernel
theorem dX5_joinLeaf_21 : decode cX5_joinLeaf 21 = .ok (.iload_n 3, 1) := by decide +kernel
theorem dX5_joinLeaf_22 : decode cX5_joinLeaf 22 = .ok (.iadd, 1) := by decide +kernel
theorem dX5_joinLeaf_23 : decode cX5_joinLeaf 23 = .ok (.aaload, 1) := by decide +kernel
theorem dX5_joinLeaf_24 : decode cX5_joinLeaf 24 = .ok (.astore 4, 2) := by decide +kernel
theorem dX5_joinLeaf_26 : decode cX5_joinLeaf 26 = .ok (.aload_n 2, 1) := by decide +kernel
theorem dX5_joinLeaf_27 : decode cX5_joinLeaf 27 = .ok (.getfield 70, 3) := by decide +kernel
theorem dX5_joinLeaf_30 : decode cX5_joinLeaf 30 = .ok (.iload_n 3, 1) := by decide +kernel
theorem dX5_joinLeaf_31 : decode cX5_joinLeaf 31 = .ok (.aload 4, 2) := by decide +kernel
theorem dX5_joinLeaf_33 : decode cX5_joinLeaf 33 = .ok (.getfield 48, 3) := by decide +kernel
theorem dX5_joinLeaf_36 : decode cX5_joinLeaf 36 = .ok (.aastore, 1) := by decide +kernel
theorem dX5_joinLeaf_37 : decode cX5_joinLeaf 37 = .ok (.aload_n 2, 1) := by decide +kernel
theorem dX5_joinLeaf_38 : decode cX5_joinLeaf 38 = .ok (.getfield 73, 3) := by decide +kernel
theorem dX5_joinLeaf_41 : decode cX5_joinLeaf 41 = .ok (.iload_n 3, 1) := by decide +kernel
theorem dX5_joinLeaf_42 : decode cX5_joinLeaf 42 = .ok (.aload 4, 2) := by decide +kernel
theorem dX5_joinLeaf_44 : decode cX5_joinLeaf 44 = .ok (.getfield 52, 3) := by decide +kernel
theorem dX5_joinLeaf_47 : decode cX5_joinLeaf 47 = .ok (.aastore, 1) := by decide +kernel
theorem dX5_joinLeaf_48 : decode cX5_joinLeaf 48 = .ok (.iinc 3 1, 3) := by decide +kernel
theorem dX5_joinLeaf_51 : decode cX5_joinLeaf 51 = .ok (.goto (-42), 3) := by decide +kernel
theorem dX5_joinLeaf_54 : decode cX5_joinLeaf 54 = .ok (.iconst 0, 1) := by decide +kernel
theorem dX5_joinLeaf_55 : decode cX5_joinLeaf 55 = .ok (.istore_n 3, 1) := by decide +kernel
theorem dX5_joinLeaf_56 : decode cX5_joinLeaf 56 = .ok (.iload_n 3, 1) := by decide +kernel
theorem dX5_joinLeaf_57 : decode cX5_joinLeaf 57 = .ok (.iconst 4, 1) := by decide +kernel
theorem dX5_joinLeaf_58 : decode cX5_joinLeaf 58 = .ok (.if_icmp .ge 37, 3) := by decide +kernel
theorem dX5_joinLeaf_61 : decode cX5_joinLeaf 61 = .ok (.aload_n 2, 1) := by decide +kernel
theorem dX5_joinLeaf_62 : decode cX5_joinLeaf 62 = .ok (.getfield 70, 3) := by decide +kernel
theorem dX5_joinLeaf_65 : decode cX5_joinLeaf 65 = .ok (.iconst 4, 1) := by decide +kernel
theorem dX5_joinLeaf_66 : decode cX5_joinLeaf 66 = .ok (.iload_n 3, 1) := by decide +kernel
theorem dX5_joinLeaf_67 : decode cX5_joinLeaf 67 = .ok (.iadd, 1) := by decide +kernel
theorem dX5_joinLeaf_68 : decode cX5_joinLeaf 68 = .ok (.aload_n 0, 1) := by decide +kernel
theorem dX5_joinLeaf_69 : decode cX5_joinLeaf 69 = .ok (.iload_n 3, 1) := by decide +kernel
theorem dX5_joinLeaf_70 : decode cX5_joinLeaf 70 = .ok (.iload_n 1, 1) := by decide +kernel
theorem dX5_joinLeaf_71 : decode cX5_joinLeaf 71 = .ok (.invokevirtual 76, 3) := by decide +kernel
theorem dX5_joinLeaf_74 : decode cX5_joinLeaf 74 = .ok (.aastore, 1) := by decide +kernel
theorem dX5_joinLeaf_75 : decode cX5_joinLeaf 75 = .ok (.aload_n 2, 1) := by decide +kernel
theorem dX5_joinLeaf_76 : decode cX5_joinLeaf 76 = .ok (.getfield 73, 3) := by decide +kernel
theorem dX5_joinLeaf_79 : decode cX5_joinLeaf 79 = .ok (.iconst 4, 1) := by decide +kernel
theorem dX5_joinLeaf_80 : decode cX5_joinLeaf 80 = .ok (.iload_n 3, 1) := by decide +kernel
theorem dX5_joinLeaf_81 : decode cX5_joinLeaf 81 = .ok (.iadd, 1) := by decide +kernel
theorem dX5_joinLeaf_82 : decode cX5_joinLeaf 82 = .ok (.aload_n 0, 1) := by decide +kernel
theorem dX5_joinLeaf_83 : decode cX5_joinLeaf 83 = .ok (.iload_n 1, 1) := by decide +kernel
theorem dX5_joinLeaf_84 : decode cX5_joinLeaf 84 = .ok (.iload_n 3, 1) := by decide +kernel
theorem dX5_joinLeaf_85 : decode cX5_joinLeaf 85 = .ok (.invokevirtual 80, 3) := by decide +kernel
theorem dX5_joinLeaf_88 : decode cX5_joinLeaf 88 = .ok (.aastore, 1) := by decide +kernel
theorem dX5_joinLeaf_89 : decode cX5_joinLeaf 89 = .ok (.iinc 3 1, 3) := by decide +kernel
theorem dX5_joinLeaf_92 : decode cX5_joinLeaf 92 = .ok (.goto (-36), 3) := by decide +kernel
theorem dX5_joinLeaf_95 : decode cX5_joinLeaf 95 = .ok (.return_, 1) := by decide +kernel
set_option maxRecDepth 20000 in
theorem ggX5_joinSpine_X5_northOf : GoodIn wsX5_joinSpine wsX5_northOf := goodIn_r _ [6, 7, 13, 14, 15, 16, 17, 18, 19, 20, 21, 22, 23, 24, 25] (by decide +kernel) (by decide +kernel)
set_option maxRecDepth 20000 in
theorem gX5_joinSpine_X5_northOf : GoodIn wsX5_joinSpine (wsV RX5 80 RX5 yX5_northOf wsX5_northOf) := goodIn_app (goodIn_of _ (by decide +kernel)) ggX5_joinSpine_X5_northOf
set_option maxRecDepth 20000 in
theorem ggX5_joinSpine_X5_southOf : GoodIn wsX5_joinSpine wsX5_southOf := goodIn_r _ [11, 12, 13, 14, 15, 16, 17, 18, 19, 20, 21, 22, 23, 24, 25] (by decide +kernel) (by decide +kernel)
set_option maxRecDepth 20000 in
theorem gX5_joinSpine_X5_southOf : GoodIn wsX5_joinSpine (wsV RX5 76 RX5 yX5_southOf wsX5_southOf) := goodIn_app (goodIn_of _ (by decide +kernel)) ggX5_joinSpine_X5_southOf
theorem dX5_joinSpine_0 : decode cX5_joinSpine 0 = .ok (.aload_n 0, 1) := by decide +kernel
theorem dX5_joinSpine_1 : decode cX5_joinSpine 1 = .ok (.getfield 39, 3) := by decide +kernel
theorem dX5_joinSpine_4 : decode cX5_joinSpine 4 = .ok (.iload_n 1, 1) := by decide +kernel
theorem dX5_joinSpine_5 : decode cX5_joinSpine 5 = .ok (.aaload, 1) := by decide +kernel
theorem dX5_joinSpine_6 : decode cX5_joinSpine 6 = .ok (.astore_n 2, 1) := by decide +kernel
theorem dX5_joinSpine_7 : decode cX5_joinSpine 7 = .ok (.iconst 0, 1) := by decide +kernel
theorem dX5_joinSpine_8 : decode cX5_joinSpine 8 = .ok (.istore_n 3, 1) := by decide +kernel
theorem dX5_joinSpine_9 : decode cX5_joinSpine 9 = .ok (.iload_n 3, 1) := by decide +kernel
theorem dX5_joinSpine_10 : decode cX5_joinSpine 10 = .ok (.iconst 4, 1) := by decide +kernel
theorem dX5_joinSpine_11 : decode cX5_joinSpine 11 = .ok (.if_icmp .ge 33, 3) := by decide +kernel
theorem dX5_joinSpine_14 : decode cX5_joinSpine 14 = .ok (.aload_n 2, 1) := by decide +kernel
theorem dX5_joinSpine_15 : decode cX5_joinSpine 15 = .ok (.getfield 70, 3) := by decide +kernel
theorem dX5_joinSpine_18 : decode cX5_joinSpine 18 = .ok (.iload_n 3, 1) := by decide +kernel
theorem dX5_joinSpine_19 : decode cX5_joinSpine 19 = .ok (.aload_n 0, 1) := by decide +kernel
theorem dX5_joinSpine_20 : decode cX5_joinSpine 20 = .ok (.iload_n 3, 1) := by decide +kernel
theorem dX5_joinSpine_21 : decode cX5_joinSpine 21 = .ok (.iload_n 1, 1) := by decide +kernel
theorem dX5_joinSpine_22 : decode cX5_joinSpine 22 = .ok (.invokevirtual 80, 3) := by decide +kernel
theorem dX5_joinSpine_25 : decode cX5_joinSpine 25 = .ok (.aastore, 1) := by decide +kernel
theorem dX5_joinSpine_26 : decode cX5_joinSpine 26 = .ok (.aload_n 2, 1) := by decide +kernel
theorem dX5_joinSpine_27 : decode cX5_joinSpine 27 = .ok (.getfield 73, 3) := by decide +kernel
theorem dX5_joinSpine_30 : decode cX5_joinSpine 30 = .ok (.iload_n 3, 1) := by decide +kernel
theorem dX5_joinSpine_31 : decode cX5_joinSpine 31 = .ok (.aload_n 0, 1) := by decide +kernel
theorem dX5_joinSpine_32 : decode cX5_joinSpine 32 = .ok (.iload_n 1, 1) := by decide +kernel
theorem dX5_joinSpine_33 : decode cX5_joinSpine 33 = .ok (.iload_n 3, 1) := by decide +kernel
theorem dX5_joinSpine_34 : decode cX5_joinSpine 34 = .ok (.invokevirtual 76, 3) := by decide +kernel
theorem dX5_joinSpine_37 : decode cX5_joinSpine 37 = .ok (.aastore, 1) := by decide +kernel
theorem dX5_joinSpine_38 : decode cX5_joinSpine 38 = .ok (.iinc 3 1, 3) := by decide +kernel
theorem dX5_joinSpine_41 : decode cX5_joinSpine 41 = .ok (.goto (-32), 3) := by decide +kernel
theorem dX5_joinSpine_44 : decode cX5_joinSpine 44 = .ok (.return_, 1) := by decide +kernel
set_option maxRecDepth 20000 in
theorem ggX5_begin_X2_clear : GoodIn wsX5_begin wsX2_clear := goodIn_r _ [12, 13, 14, 15, 16, 17, 18, 38, 39, 40, 41, 42, 43, 44] (by decide +kernel) (by decide +kernel)
set_option maxRecDepth 20000 in
theorem gX5_begin_X2_clear_n99 : GoodIn wsX5_begin (wsX2_clear) := ggX5_begin_X2_clear
set_option maxRecDepth 20000 in
theorem ggX5_begin_X1_clear : GoodIn wsX5_begin wsX1_clear := goodIn_r _ [22, 23, 24, 45, 46, 47, 48] (by decide +kernel) (by decide +kernel)
set_option maxRecDepth 20000 in
theorem gX5_begin_X1_clear_n102 : GoodIn wsX5_begin (wsX1_clear) := ggX5_begin_X1_clear
theorem dX5_begin_0 : decode cX5_begin 0 = .ok (.aload_n 0, 1) := by decide +kernel
theorem dX5_begin_1 : decode cX5_begin 1 = .ok (.iload_n 1, 1) := by decide +kernel
theorem dX5_begin_2 : decode cX5_begin 2 = .ok (.putfield 83, 3) := by decide +kernel
theorem dX5_begin_5 : decode cX5_begin 5 = .ok (.aload_n 0, 1) := by decide +kernel
theorem dX5_begin_6 : decode cX5_begin 6 = .ok (.iload_n 2, 1) := by decide +kernel
theorem dX5_begin_7 : decode cX5_begin 7 = .ok (.putfield 87, 3) := by decide +kernel
theorem dX5_begin_10 : decode cX5_begin 10 = .ok (.aload_n 0, 1) := by decide +kernel
theorem dX5_begin_11 : decode cX5_begin 11 = .ok (.iload_n 3, 1) := by decide +kernel
theorem dX5_begin_12 : decode cX5_begin 12 = .ok (.putfield 90, 3) := by decide +kernel
theorem dX5_begin_15 : decode cX5_begin 15 = .ok (.aload_n 0, 1) := by decide +kernel
theorem dX5_begin_16 : decode cX5_begin 16 = .ok (.iconst 0, 1) := by decide +kernel
theorem dX5_begin_17 : decode cX5_begin 17 = .ok (.putfield 93, 3) := by decide +kernel
theorem dX5_begin_20 : decode cX5_begin 20 = .ok (.aload_n 0, 1) := by decide +kernel
theorem dX5_begin_21 : decode cX5_begin 21 = .ok (.iconst 0, 1) := by decide +kernel
theorem dX5_begin_22 : decode cX5_begin 22 = .ok (.putfield 96, 3) := by decide +kernel
theorem dX5_begin_25 : decode cX5_begin 25 = .ok (.iconst 0, 1) := by decide +kernel
theorem dX5_begin_26 : decode cX5_begin 26 = .ok (.istore 4, 2) := by decide +kernel
theorem dX5_begin_28 : decode cX5_begin 28 = .ok (.iload 4, 2) := by decide +kernel
theorem dX5_begin_30 : decode cX5_begin 30 = .ok (.aload_n 0, 1) := by decide +kernel
theorem dX5_begin_31 : decode cX5_begin 31 = .ok (.getfield 23, 3) := by decide +kernel
theorem dX5_begin_34 : decode cX5_begin 34 = .ok (.arraylength, 1) := by decide +kernel
theorem dX5_begin_35 : decode cX5_begin 35 = .ok (.if_icmp .ge 19, 3) := by decide +kernel
theorem dX5_begin_38 : decode cX5_begin 38 = .ok (.aload_n 0, 1) := by decide +kernel
theorem dX5_begin_39 : decode cX5_begin 39 = .ok (.getfield 23, 3) := by decide +kernel
theorem dX5_begin_42 : decode cX5_begin 42 = .ok (.iload 4, 2) := by decide +kernel
theorem dX5_begin_44 : decode cX5_begin 44 = .ok (.aaload, 1) := by decide +kernel
theorem dX5_begin_45 : decode cX5_begin 45 = .ok (.invokevirtual 99, 3) := by decide +kernel
theorem dX5_begin_48 : decode cX5_begin 48 = .ok (.iinc 4 1, 3) := by decide +kernel
theorem dX5_begin_51 : decode cX5_begin 51 = .ok (.goto (-23), 3) := by decide +kernel
theorem dX5_begin_54 : decode cX5_begin 54 = .ok (.iconst 0, 1) := by decide +kernel
theorem dX5_begin_55 : decode cX5_begin 55 = .ok (.istore 4, 2) := by decide +kernel
theorem dX5_begin_57 : decode cX5_begin 57 = .ok (.iload 4, 2) := by decide +kernel
theorem dX5_begin_59 : decode cX5_begin 59 = .ok (.bipush 16, 2) := by decide +kernel
theorem dX5_begin_61 : decode cX5_begin 61 = .ok (.if_icmp .ge 19, 3) := by decide +kernel
theorem dX5_begin_64 : decode cX5_begin 64 = .ok (.aload_n 0, 1) := by decide +kernel
theorem dX5_begin_65 : decode cX5_begin 65 = .ok (.getfield 17, 3) := by decide +kernel
theorem dX5_begin_68 : decode cX5_begin 68 = .ok (.iload 4, 2) := by decide +kernel
theorem dX5_begin_70 : decode cX5_begin 70 = .ok (.aaload, 1) := by decide +kernel
theorem dX5_begin_71 : decode cX5_begin 71 = .ok (.invokevirtual 102, 3) := by decide +kernel
theorem dX5_begin_74 : decode cX5_begin 74 = .ok (.iinc 4 1, 3) := by decide +kernel
theorem dX5_begin_77 : decode cX5_begin 77 = .ok (.goto (-20), 3) := by decide +kernel
theorem dX5_begin_80 : decode cX5_begin 80 = .ok (.iconst 0, 1) := by decide +kernel
theorem dX5_begin_81 : decode cX5_begin 81 = .ok (.istore 4, 2) := by decide +kernel
theorem dX5_begin_83 : decode cX5_begin 83 = .ok (.iload 4, 2) := by decide +kernel
theorem dX5_begin_85 : decode cX5_begin 85 = .ok (.iconst 4, 1) := by decide +kernel
theorem dX5_begin_86 : decode cX5_begin 86 = .ok (.if_icmp .ge 18, 3) := by decide +kernel
theorem dX5_begin_89 : decode cX5_begin 89 = .ok (.aload_n 0, 1) := by decide +kernel
theorem dX5_begin_90 : decode cX5_begin 90 = .ok (.getfield 42, 3) := by decide +kernel
theorem dX5_begin_93 : decode cX5_begin 93 = .ok (.iload 4, 2) := by decide +kernel
theorem dX5_begin_95 : decode cX5_begin 95 = .ok (.bipush 15, 2) := by decide +kernel
theorem dX5_begin_97 : decode cX5_begin 97 = .ok (.iastore, 1) := by decide +kernel
theorem dX5_begin_98 : decode cX5_begin 98 = .ok (.iinc 4 1, 3) := by decide +kernel
theorem dX5_begin_101 : decode cX5_begin 101 = .ok (.goto (-18), 3) := by decide +kernel
theorem dX5_begin_104 : decode cX5_begin 104 = .ok (.return_, 1) := by decide +kernel
set_option maxRecDepth 20000 in
theorem ggX5_reset_X5_isOutside : GoodIn wsX5_reset wsX5_isOutside := goodIn_r _ [6] (by decide +kernel) (by decide +kernel)
set_option maxRecDepth 20000 in
theorem gX5_reset_X5_isOutside : GoodIn wsX5_reset (va_wsS RX5 103 yX5_isOutside wsX5_isOutside) := goodIn_app (goodIn_of _ (by decide +kernel)) ggX5_reset_X5_isOutside
set_option maxRecDepth 20000 in
theorem ggX5_reset_X5_begin : GoodIn wsX5_reset wsX5_begin := goodIn_r _ [10, 11, 12, 13, 14, 15, 16, 17, 18, 19, 20, 21, 22, 23, 24, 25, 26, 27, 28, 29, 30, 31, 32, 33, 34, 35, 36, 37, 38, 39, 40, 41, 42, 43, 44, 45, 46, 47, 48, 49, 50, 51, 52, 53, 54, 55, 56, 57, 58] (by decide +kernel) (by decide +kernel)
set_option maxRecDepth 20000 in
theorem gX5_reset_X5_begin : GoodIn wsX5_reset (wsV RX5 66 RX5 yX5_begin wsX5_begin) := goodIn_app (goodIn_of _ (by decide +kernel)) ggX5_reset_X5_begin
theorem dX5_reset_0 : decode cX5_reset 0 = .ok (.iload_n 1, 1) := by decide +kernel
theorem dX5_reset_1 : decode cX5_reset 1 = .ok (.iconst 0, 1) := by decide +kernel
theorem dX5_reset_2 : decode cX5_reset 2 = .ok (.iconst 5, 1) := by decide +kernel
theorem dX5_reset_3 : decode cX5_reset 3 = .ok (.invokestatic 103, 3) := by decide +kernel
theorem dX5_reset_6 : decode cX5_reset 6 = .ok (.ifCond .ne 23, 3) := by decide +kernel
theorem dX5_reset_9 : decode cX5_reset 9 = .ok (.iload_n 2, 1) := by decide +kernel
theorem dX5_reset_10 : decode cX5_reset 10 = .ok (.iconst 1, 1) := by decide +kernel
theorem dX5_reset_11 : decode cX5_reset 11 = .ok (.bipush 50, 2) := by decide +kernel
theorem dX5_reset_13 : decode cX5_reset 13 = .ok (.invokestatic 103, 3) := by decide +kernel
theorem dX5_reset_16 : decode cX5_reset 16 = .ok (.ifCond .ne 13, 3) := by decide +kernel
theorem dX5_reset_19 : decode cX5_reset 19 = .ok (.iload_n 3, 1) := by decide +kernel
theorem dX5_reset_20 : decode cX5_reset 20 = .ok (.iconst 1, 1) := by decide +kernel
theorem dX5_reset_21 : decode cX5_reset 21 = .ok (.bipush 16, 2) := by decide +kernel
theorem dX5_reset_23 : decode cX5_reset 23 = .ok (.invokestatic 103, 3) := by decide +kernel
theorem dX5_reset_26 : decode cX5_reset 26 = .ok (.ifCond .eq 13, 3) := by decide +kernel
theorem dX5_reset_29 : decode cX5_reset 29 = .ok (.new 107, 3) := by decide +kernel
theorem dX5_reset_32 : decode cX5_reset 32 = .ok (.dup, 1) := by decide +kernel
theorem dX5_reset_33 : decode cX5_reset 33 = .ok (.ldc 109, 2) := by decide +kernel
theorem dX5_reset_35 : decode cX5_reset 35 = .ok (.invokespecial 111, 3) := by decide +kernel
theorem dX5_reset_38 : decode cX5_reset 38 = .ok (.athrow, 1) := by decide +kernel
theorem dX5_reset_39 : decode cX5_reset 39 = .ok (.aload_n 0, 1) := by decide +kernel
theorem dX5_reset_40 : decode cX5_reset 40 = .ok (.iload_n 1, 1) := by decide +kernel
theorem dX5_reset_41 : decode cX5_reset 41 = .ok (.iload_n 2, 1) := by decide +kernel
theorem dX5_reset_42 : decode cX5_reset 42 = .ok (.iload_n 3, 1) := by decide +kernel
theorem dX5_reset_43 : decode cX5_reset 43 = .ok (.invokevirtual 66, 3) := by decide +kernel
theorem dX5_reset_46 : decode cX5_reset 46 = .ok (.return_, 1) := by decide +kernel
set_option maxRecDepth 20000 in
theorem ggX5_addFlow_X5_checkHost : GoodIn wsX5_addFlow wsX5_checkHost := goodIn_ca (goodIn_r _ [11, 1, 2, 12, 13, 10, 14] (by decide +kernel) (by decide +kernel)) (goodIn_sub (fun _ h => List.mem_cons_of_mem _ (List.mem_append_left _ (List.mem_append_right _ h))) (by decide +kernel))
set_option maxRecDepth 20000 in
theorem gX5_addFlow_X5_checkHost : GoodIn wsX5_addFlow (va_wsS RX5 114 yX5_checkHost wsX5_checkHost) := goodIn_app (goodIn_of _ (by decide +kernel)) ggX5_addFlow_X5_checkHost
set_option maxRecDepth 20000 in
theorem ggX5_addFlow_X5_isOutside : GoodIn wsX5_addFlow wsX5_isOutside := goodIn_r _ [14] (by decide +kernel) (by decide +kernel)
set_option maxRecDepth 20000 in
theorem gX5_addFlow_X5_isOutside : GoodIn wsX5_addFlow (va_wsS RX5 103 yX5_isOutside wsX5_isOutside) := goodIn_app (goodIn_of _ (by decide +kernel)) ggX5_addFlow_X5_isOutside
set_option maxRecDepth 20000 in
theorem ggX5_addFlow_X0_begin : GoodIn wsX5_addFlow wsX0_begin := goodIn_r _ [18, 19, 20, 21, 22, 23, 24, 25, 26, 27, 28, 29, 30, 31, 45, 46, 47, 48, 49, 50, 51, 52, 53, 54, 55, 56, 57] (by decide +kernel) (by decide +kernel)
set_option maxRecDepth 20000 in
theorem gX5_addFlow_X0_begin_n126 : GoodIn wsX5_addFlow (wsX0_begin) := ggX5_addFlow_X0_begin
theorem dX5_addFlow_0 : decode cX5_addFlow 0 = .ok (.iload_n 1, 1) := by decide +kernel
theorem dX5_addFlow_1 : decode cX5_addFlow 1 = .ok (.invokestatic 114, 3) := by decide +kernel
theorem dX5_addFlow_4 : decode cX5_addFlow 4 = .ok (.iload_n 2, 1) := by decide +kernel
theorem dX5_addFlow_5 : decode cX5_addFlow 5 = .ok (.invokestatic 114, 3) := by decide +kernel
theorem dX5_addFlow_8 : decode cX5_addFlow 8 = .ok (.iload_n 2, 1) := by decide +kernel
theorem dX5_addFlow_9 : decode cX5_addFlow 9 = .ok (.iload_n 1, 1) := by decide +kernel
theorem dX5_addFlow_10 : decode cX5_addFlow 10 = .ok (.if_icmp .ne 13, 3) := by decide +kernel
theorem dX5_addFlow_13 : decode cX5_addFlow 13 = .ok (.new 107, 3) := by decide +kernel
theorem dX5_addFlow_16 : decode cX5_addFlow 16 = .ok (.dup, 1) := by decide +kernel
theorem dX5_addFlow_17 : decode cX5_addFlow 17 = .ok (.ldc 117, 2) := by decide +kernel
theorem dX5_addFlow_19 : decode cX5_addFlow 19 = .ok (.invokespecial 111, 3) := by decide +kernel
theorem dX5_addFlow_22 : decode cX5_addFlow 22 = .ok (.athrow, 1) := by decide +kernel
theorem dX5_addFlow_23 : decode cX5_addFlow 23 = .ok (.iload_n 3, 1) := by decide +kernel
theorem dX5_addFlow_24 : decode cX5_addFlow 24 = .ok (.iconst 1, 1) := by decide +kernel
theorem dX5_addFlow_25 : decode cX5_addFlow 25 = .ok (.bipush 100, 2) := by decide +kernel
theorem dX5_addFlow_27 : decode cX5_addFlow 27 = .ok (.invokestatic 103, 3) := by decide +kernel
theorem dX5_addFlow_30 : decode cX5_addFlow 30 = .ok (.ifCond .ne 14, 3) := by decide +kernel
theorem dX5_addFlow_33 : decode cX5_addFlow 33 = .ok (.iload 4, 2) := by decide +kernel
theorem dX5_addFlow_35 : decode cX5_addFlow 35 = .ok (.iconst 0, 1) := by decide +kernel
theorem dX5_addFlow_36 : decode cX5_addFlow 36 = .ok (.bipush 100, 2) := by decide +kernel
theorem dX5_addFlow_38 : decode cX5_addFlow 38 = .ok (.invokestatic 103, 3) := by decide +kernel
theorem dX5_addFlow_41 : decode cX5_addFlow 41 = .ok (.ifCond .eq 13, 3) := by decide +kernel
theorem dX5_addFlow_44 : decode cX5_addFlow 44 = .ok (.new 107, 3) := by decide +kernel
theorem dX5_addFlow_47 : decode cX5_addFlow 47 = .ok (.dup, 1) := by decide +kernel
theorem dX5_addFlow_48 : decode cX5_addFlow 48 = .ok (.ldc 119, 2) := by decide +kernel
theorem dX5_addFlow_50 : decode cX5_addFlow 50 = .ok (.invokespecial 111, 3) := by decide +kernel
theorem dX5_addFlow_53 : decode cX5_addFlow 53 = .ok (.athrow, 1) := by decide +kernel
theorem dX5_addFlow_54 : decode cX5_addFlow 54 = .ok (.aload_n 0, 1) := by decide +kernel
theorem dX5_addFlow_55 : decode cX5_addFlow 55 = .ok (.getfield 93, 3) := by decide +kernel
theorem dX5_addFlow_58 : decode cX5_addFlow 58 = .ok (.bipush 24, 2) := by decide +kernel
theorem dX5_addFlow_60 : decode cX5_addFlow 60 = .ok (.if_icmp .lt 13, 3) := by decide +kernel
theorem dX5_addFlow_63 : decode cX5_addFlow 63 = .ok (.new 121, 3) := by decide +kernel
theorem dX5_addFlow_66 : decode cX5_addFlow 66 = .ok (.dup, 1) := by decide +kernel
theorem dX5_addFlow_67 : decode cX5_addFlow 67 = .ok (.ldc 123, 2) := by decide +kernel
theorem dX5_addFlow_69 : decode cX5_addFlow 69 = .ok (.invokespecial 125, 3) := by decide +kernel
theorem dX5_addFlow_72 : decode cX5_addFlow 72 = .ok (.athrow, 1) := by decide +kernel
theorem dX5_addFlow_73 : decode cX5_addFlow 73 = .ok (.aload_n 0, 1) := by decide +kernel
theorem dX5_addFlow_74 : decode cX5_addFlow 74 = .ok (.getfield 11, 3) := by decide +kernel
theorem dX5_addFlow_77 : decode cX5_addFlow 77 = .ok (.aload_n 0, 1) := by decide +kernel
theorem dX5_addFlow_78 : decode cX5_addFlow 78 = .ok (.getfield 93, 3) := by decide +kernel
theorem dX5_addFlow_81 : decode cX5_addFlow 81 = .ok (.aaload, 1) := by decide +kernel
theorem dX5_addFlow_82 : decode cX5_addFlow 82 = .ok (.iload_n 1, 1) := by decide +kernel
theorem dX5_addFlow_83 : decode cX5_addFlow 83 = .ok (.iload_n 2, 1) := by decide +kernel
theorem dX5_addFlow_84 : decode cX5_addFlow 84 = .ok (.iload_n 3, 1) := by decide +kernel
theorem dX5_addFlow_85 : decode cX5_addFlow 85 = .ok (.aload_n 0, 1) := by decide +kernel
theorem dX5_addFlow_86 : decode cX5_addFlow 86 = .ok (.getfield 96, 3) := by decide +kernel
theorem dX5_addFlow_89 : decode cX5_addFlow 89 = .ok (.iload 4, 2) := by decide +kernel
theorem dX5_addFlow_91 : decode cX5_addFlow 91 = .ok (.iadd, 1) := by decide +kernel
theorem dX5_addFlow_92 : decode cX5_addFlow 92 = .ok (.invokevirtual 126, 3) := by decide +kernel
theorem dX5_addFlow_95 : decode cX5_addFlow 95 = .ok (.aload_n 0, 1) := by decide +kernel
theorem dX5_addFlow_96 : decode cX5_addFlow 96 = .ok (.dup, 1) := by decide +kernel
theorem dX5_addFlow_97 : decode cX5_addFlow 97 = .ok (.getfield 93, 3) := by decide +kernel
theorem dX5_addFlow_100 : decode cX5_addFlow 100 = .ok (.iconst 1, 1) := by decide +kernel
theorem dX5_addFlow_101 : decode cX5_addFlow 101 = .ok (.iadd, 1) := by decide +kernel
theorem dX5_addFlow_102 : decode cX5_addFlow 102 = .ok (.putfield 93, 3) := by decide +kernel
theorem dX5_addFlow_105 : decode cX5_addFlow 105 = .ok (.aload_n 0, 1) := by decide +kernel
theorem dX5_addFlow_106 : decode cX5_addFlow 106 = .ok (.getfield 93, 3) := by decide +kernel
theorem dX5_addFlow_109 : decode cX5_addFlow 109 = .ok (.iconst 1, 1) := by decide +kernel
theorem dX5_addFlow_110 : decode cX5_addFlow 110 = .ok (.isub, 1) := by decide +kernel
theorem dX5_addFlow_111 : decode cX5_addFlow 111 = .ok (.ireturn, 1) := by decide +kernel
set_option maxRecDepth 20000 in
theorem ggX5_cut_X5_checkConnection : GoodIn wsX5_cut wsX5_checkConnection := goodIn_ca (goodIn_r _ [7, 8, 9, 10, 11, 6, 12] (by decide +kernel) (by decide +kernel)) (goodIn_sub (fun _ h => List.mem_cons_of_mem _ (List.mem_append_right _ h)) (by decide +kernel))
set_option maxRecDepth 20000 in
theorem gX5_cut_X5_checkConnection : GoodIn wsX5_cut (va_wsS RX5 129 yX5_checkConnection wsX5_checkConnection) := goodIn_app (goodIn_of _ (by decide +kernel)) ggX5_cut_X5_checkConnection
set_option maxRecDepth 20000 in
theorem ggX5_cut_X5_isCut : GoodIn wsX5_cut wsX5_isCut := goodIn_r _ [16, 3, 27, 28, 29, 30, 31, 32, 33, 34, 35, 36, 37, 38, 39] (by decide +kernel) (by decide +kernel)
set_option maxRecDepth 20000 in
theorem gX5_cut_X5_isCut : GoodIn wsX5_cut (wsV RX5 132 RX5 yX5_isCut wsX5_isCut) := goodIn_app (goodIn_of _ (by decide +kernel)) ggX5_cut_X5_isCut
set_option maxRecDepth 20000 in
theorem ggX5_cut_X5_northOf : GoodIn wsX5_cut wsX5_northOf := goodIn_r _ [20, 21, 27, 28, 29, 30, 31, 32, 33, 34, 35, 36, 37, 38, 39] (by decide +kernel) (by decide +kernel)
set_option maxRecDepth 20000 in
theorem gX5_cut_X5_northOf : GoodIn wsX5_cut (wsV RX5 80 RX5 yX5_northOf wsX5_northOf) := goodIn_app (goodIn_of _ (by decide +kernel)) ggX5_cut_X5_northOf
set_option maxRecDepth 20000 in
theorem ggX5_cut_X5_southOf : GoodIn wsX5_cut wsX5_southOf := goodIn_r _ [25, 26, 27, 28, 29, 30, 31, 32, 33, 34, 35, 36, 37, 38, 39] (by decide +kernel) (by decide +kernel)
set_option maxRecDepth 20000 in
theorem gX5_cut_X5_southOf : GoodIn wsX5_cut (wsV RX5 76 RX5 yX5_southOf wsX5_southOf) := goodIn_app (goodIn_of _ (by decide +kernel)) ggX5_cut_X5_southOf
theorem dX5_cut_0 : decode cX5_cut 0 = .ok (.iload_n 1, 1) := by decide +kernel
theorem dX5_cut_1 : decode cX5_cut 1 = .ok (.iload_n 2, 1) := by decide +kernel
theorem dX5_cut_2 : decode cX5_cut 2 = .ok (.invokestatic 129, 3) := by decide +kernel
theorem dX5_cut_5 : decode cX5_cut 5 = .ok (.aload_n 0, 1) := by decide +kernel
theorem dX5_cut_6 : decode cX5_cut 6 = .ok (.iload_n 1, 1) := by decide +kernel
theorem dX5_cut_7 : decode cX5_cut 7 = .ok (.iload_n 2, 1) := by decide +kernel
theorem dX5_cut_8 : decode cX5_cut 8 = .ok (.invokevirtual 132, 3) := by decide +kernel
theorem dX5_cut_11 : decode cX5_cut 11 = .ok (.ifCond .eq 13, 3) := by decide +kernel
theorem dX5_cut_14 : decode cX5_cut 14 = .ok (.new 121, 3) := by decide +kernel
theorem dX5_cut_17 : decode cX5_cut 17 = .ok (.dup, 1) := by decide +kernel
theorem dX5_cut_18 : decode cX5_cut 18 = .ok (.ldc 136, 2) := by decide +kernel
theorem dX5_cut_20 : decode cX5_cut 20 = .ok (.invokespecial 125, 3) := by decide +kernel
theorem dX5_cut_23 : decode cX5_cut 23 = .ok (.athrow, 1) := by decide +kernel
theorem dX5_cut_24 : decode cX5_cut 24 = .ok (.aload_n 0, 1) := by decide +kernel
theorem dX5_cut_25 : decode cX5_cut 25 = .ok (.getfield 42, 3) := by decide +kernel
theorem dX5_cut_28 : decode cX5_cut 28 = .ok (.iload_n 1, 1) := by decide +kernel
theorem dX5_cut_29 : decode cX5_cut 29 = .ok (.dup2, 1) := by decide +kernel
theorem dX5_cut_30 : decode cX5_cut 30 = .ok (.iaload, 1) := by decide +kernel
theorem dX5_cut_31 : decode cX5_cut 31 = .ok (.iconst 1, 1) := by decide +kernel
theorem dX5_cut_32 : decode cX5_cut 32 = .ok (.iload_n 2, 1) := by decide +kernel
theorem dX5_cut_33 : decode cX5_cut 33 = .ok (.ishl, 1) := by decide +kernel
theorem dX5_cut_34 : decode cX5_cut 34 = .ok (.iconst (-1), 1) := by decide +kernel
theorem dX5_cut_35 : decode cX5_cut 35 = .ok (.ixor, 1) := by decide +kernel
theorem dX5_cut_36 : decode cX5_cut 36 = .ok (.iand, 1) := by decide +kernel
theorem dX5_cut_37 : decode cX5_cut 37 = .ok (.iastore, 1) := by decide +kernel
theorem dX5_cut_38 : decode cX5_cut 38 = .ok (.aload_n 0, 1) := by decide +kernel
theorem dX5_cut_39 : decode cX5_cut 39 = .ok (.iload_n 1, 1) := by decide +kernel
theorem dX5_cut_40 : decode cX5_cut 40 = .ok (.iload_n 2, 1) := by decide +kernel
theorem dX5_cut_41 : decode cX5_cut 41 = .ok (.invokevirtual 80, 3) := by decide +kernel
theorem dX5_cut_44 : decode cX5_cut 44 = .ok (.getfield 138, 3) := by decide +kernel
theorem dX5_cut_47 : decode cX5_cut 47 = .ok (.aload_n 0, 1) := by decide +kernel
theorem dX5_cut_48 : decode cX5_cut 48 = .ok (.iload_n 2, 1) := by decide +kernel
theorem dX5_cut_49 : decode cX5_cut 49 = .ok (.iload_n 1, 1) := by decide +kernel
theorem dX5_cut_50 : decode cX5_cut 50 = .ok (.invokevirtual 76, 3) := by decide +kernel
theorem dX5_cut_53 : decode cX5_cut 53 = .ok (.getfield 138, 3) := by decide +kernel
theorem dX5_cut_56 : decode cX5_cut 56 = .ok (.iadd, 1) := by decide +kernel
theorem dX5_cut_57 : decode cX5_cut 57 = .ok (.ireturn, 1) := by decide +kernel
set_option maxRecDepth 20000 in
theorem ggX5_restore_X5_checkConnection : GoodIn wsX5_restore wsX5_checkConnection := goodIn_ca (goodIn_r _ [7, 8, 9, 10, 11, 6, 12] (by decide +kernel) (by decide +kernel)) (goodIn_sub (fun _ h => List.mem_cons_of_mem _ (List.mem_append_right _ h)) (by decide +kernel))
set_option maxRecDepth 20000 in
theorem gX5_restore_X5_checkConnection : GoodIn wsX5_restore (va_wsS RX5 129 yX5_checkConnection wsX5_checkConnection) := goodIn_app (goodIn_of _ (by decide +kernel)) ggX5_restore_X5_checkConnection
set_option maxRecDepth 20000 in
theorem ggX5_restore_X5_isCut : GoodIn wsX5_restore wsX5_isCut := goodIn_r _ [16, 3, 24, 25, 26, 27, 28, 29, 30, 31, 32, 33, 34, 35, 36] (by decide +kernel) (by decide +kernel)
set_option maxRecDepth 20000 in
theorem gX5_restore_X5_isCut : GoodIn wsX5_restore (wsV RX5 132 RX5 yX5_isCut wsX5_isCut) := goodIn_app (goodIn_of _ (by decide +kernel)) ggX5_restore_X5_isCut
set_option maxRecDepth 20000 in
theorem ggX5_restore_J6_bitCount_0f7a4 : GoodIn wsX5_restore wsJ6_bitCount_0f7a4 := goodIn_r _ [20, 21, 22, 23] (by decide +kernel) (by decide +kernel)
set_option maxRecDepth 20000 in
theorem gX5_restore_J6_bitCount_0f7a4 : GoodIn wsX5_restore (va_wsS RX5 143 yJ6_bitCount_0f7a4 wsJ6_bitCount_0f7a4) := goodIn_app (goodIn_of _ (by decide +kernel)) ggX5_restore_J6_bitCount_0f7a4
theorem dX5_restore_0 : decode cX5_restore 0 = .ok (.iload_n 1, 1) := by decide +kernel
theorem dX5_restore_1 : decode cX5_restore 1 = .ok (.iload_n 2, 1) := by decide +kernel
theorem dX5_restore_2 : decode cX5_restore 2 = .ok (.invokestatic 129, 3) := by decide +kernel
theorem dX5_restore_5 : decode cX5_restore 5 = .ok (.aload_n 0, 1) := by decide +kernel
theorem dX5_restore_6 : decode cX5_restore 6 = .ok (.iload_n 1, 1) := by decide +kernel
theorem dX5_restore_7 : decode cX5_restore 7 = .ok (.iload_n 2, 1) := by decide +kernel
theorem dX5_restore_8 : decode cX5_restore 8 = .ok (.invokevirtual 132, 3) := by decide +kernel
theorem dX5_restore_11 : decode cX5_restore 11 = .ok (.ifCond .ne 13, 3) := by decide +kernel
theorem dX5_restore_14 : decode cX5_restore 14 = .ok (.new 121, 3) := by decide +kernel
theorem dX5_restore_17 : decode cX5_restore 17 = .ok (.dup, 1) := by decide +kernel
theorem dX5_restore_18 : decode cX5_restore 18 = .ok (.ldc 141, 2) := by decide +kernel
theorem dX5_restore_20 : decode cX5_restore 20 = .ok (.invokespecial 125, 3) := by decide +kernel
theorem dX5_restore_23 : decode cX5_restore 23 = .ok (.athrow, 1) := by decide +kernel
theorem dX5_restore_24 : decode cX5_restore 24 = .ok (.aload_n 0, 1) := by decide +kernel
theorem dX5_restore_25 : decode cX5_restore 25 = .ok (.getfield 42, 3) := by decide +kernel
theorem dX5_restore_28 : decode cX5_restore 28 = .ok (.iload_n 1, 1) := by decide +kernel
theorem dX5_restore_29 : decode cX5_restore 29 = .ok (.dup2, 1) := by decide +kernel
theorem dX5_restore_30 : decode cX5_restore 30 = .ok (.iaload, 1) := by decide +kernel
theorem dX5_restore_31 : decode cX5_restore 31 = .ok (.iconst 1, 1) := by decide +kernel
theorem dX5_restore_32 : decode cX5_restore 32 = .ok (.iload_n 2, 1) := by decide +kernel
theorem dX5_restore_33 : decode cX5_restore 33 = .ok (.ishl, 1) := by decide +kernel
theorem dX5_restore_34 : decode cX5_restore 34 = .ok (.ior, 1) := by decide +kernel
theorem dX5_restore_35 : decode cX5_restore 35 = .ok (.iastore, 1) := by decide +kernel
theorem dX5_restore_36 : decode cX5_restore 36 = .ok (.bipush 16, 2) := by decide +kernel
theorem dX5_restore_38 : decode cX5_restore 38 = .ok (.istore_n 3, 1) := by decide +kernel
theorem dX5_restore_39 : decode cX5_restore 39 = .ok (.iconst 0, 1) := by decide +kernel
theorem dX5_restore_40 : decode cX5_restore 40 = .ok (.istore 4, 2) := by decide +kernel
theorem dX5_restore_42 : decode cX5_restore 42 = .ok (.iload 4, 2) := by decide +kernel
theorem dX5_restore_44 : decode cX5_restore 44 = .ok (.iconst 4, 1) := by decide +kernel
theorem dX5_restore_45 : decode cX5_restore 45 = .ok (.if_icmp .ge 22, 3) := by decide +kernel
theorem dX5_restore_48 : decode cX5_restore 48 = .ok (.iload_n 3, 1) := by decide +kernel
theorem dX5_restore_49 : decode cX5_restore 49 = .ok (.aload_n 0, 1) := by decide +kernel
theorem dX5_restore_50 : decode cX5_restore 50 = .ok (.getfield 42, 3) := by decide +kernel
theorem dX5_restore_53 : decode cX5_restore 53 = .ok (.iload 4, 2) := by decide +kernel
theorem dX5_restore_55 : decode cX5_restore 55 = .ok (.iaload, 1) := by decide +kernel
theorem dX5_restore_56 : decode cX5_restore 56 = .ok (.invokestatic 143, 3) := by decide +kernel
theorem dX5_restore_59 : decode cX5_restore 59 = .ok (.isub, 1) := by decide +kernel
theorem dX5_restore_60 : decode cX5_restore 60 = .ok (.istore_n 3, 1) := by decide +kernel
theorem dX5_restore_61 : decode cX5_restore 61 = .ok (.iinc 4 1, 3) := by decide +kernel
theorem dX5_restore_64 : decode cX5_restore 64 = .ok (.goto (-22), 3) := by decide +kernel
theorem dX5_restore_67 : decode cX5_restore 67 = .ok (.iload_n 3, 1) := by decide +kernel
theorem dX5_restore_68 : decode cX5_restore 68 = .ok (.ireturn, 1) := by decide +kernel
set_option maxRecDepth 20000 in
theorem ggX5_pass_X5_isOutside : GoodIn wsX5_pass wsX5_isOutside := goodIn_r _ [10] (by decide +kernel) (by decide +kernel)
set_option maxRecDepth 20000 in
theorem gX5_pass_X5_isOutside : GoodIn wsX5_pass (va_wsS RX5 103 yX5_isOutside wsX5_isOutside) := goodIn_app (goodIn_of _ (by decide +kernel)) ggX5_pass_X5_isOutside
set_option maxRecDepth 20000 in
theorem ggX5_pass_X5_runTick : GoodIn wsX5_pass wsX5_runTick := goodIn_r _ [14, 5, 15, 16, 17, 18, 9, 19, 20, 21, 22, 23, 24, 25, 26, 27, 28, 29, 30, 31, 32, 33, 34, 35, 36, 37, 38, 39, 40, 41, 42, 43, 44, 45, 46, 47, 48, 49, 50, 51, 52, 53, 54, 55, 56, 57, 58, 59, 60, 61, 62, 63, 64, 65, 66, 67, 68, 69, 70, 71, 72, 73, 74, 75, 76, 77, 78, 79, 80, 81, 82, 83, 84, 85, 86, 87, 88, 89, 90, 91, 92, 93, 94, 95, 96, 97, 98, 99, 100, 101, 102, 103, 104, 105, 106, 107, 108, 109, 110, 111, 112, 113, 114, 115, 116, 117, 118, 119, 120, 121, 122, 123, 124, 125, 126, 127, 128, 129, 130, 131, 132, 133, 134, 135, 136, 137, 138, 139, 140, 141, 142, 143, 144, 145, 146, 147, 148, 149, 150, 151, 152, 153, 154, 155, 156, 157, 158, 159, 160, 161, 162, 163, 164, 165, 166, 167, 168, 169, 170, 171, 172, 173, 174, 175, 176, 177, 178, 179, 180, 181, 182, 183, 184, 185, 186, 187, 188, 189, 190, 191, 192, 193, 194, 195, 196, 197, 198, 199, 200, 201, 202, 203, 204, 205, 206, 207, 208, 209, 210, 211, 212, 213, 214, 215, 216, 217, 218, 219, 220] (by decide +kernel) (by decide +kernel)
set_option maxRecDepth 20000 in
theorem gX5_pass_X5_runTick : GoodIn wsX5_pass (wsV RX5 154 RX5 yX5_runTick wsX5_runTick) := goodIn_app (goodIn_of _ (by decide +kernel)) ggX5_pass_X5_runTick
theorem dX5_pass_0 : decode cX5_pass 0 = .ok (.iload_n 1, 1) := by decide +kernel
theorem dX5_pass_1 : decode cX5_pass 1 = .ok (.iconst 1, 1) := by decide +kernel
theorem dX5_pass_2 : decode cX5_pass 2 = .ok (.sipush 200, 3) := by decide +kernel
theorem dX5_pass_5 : decode cX5_pass 5 = .ok (.invokestatic 103, 3) := by decide +kernel
theorem dX5_pass_8 : decode cX5_pass 8 = .ok (.ifCond .eq 13, 3) := by decide +kernel
theorem dX5_pass_11 : decode cX5_pass 11 = .ok (.new 107, 3) := by decide +kernel
theorem dX5_pass_14 : decode cX5_pass 14 = .ok (.dup, 1) := by decide +kernel
theorem dX5_pass_15 : decode cX5_pass 15 = .ok (.ldc 149, 2) := by decide +kernel
theorem dX5_pass_17 : decode cX5_pass 17 = .ok (.invokespecial 111, 3) := by decide +kernel
theorem dX5_pass_20 : decode cX5_pass 20 = .ok (.athrow, 1) := by decide +kernel
theorem dX5_pass_21 : decode cX5_pass 21 = .ok (.aload_n 0, 1) := by decide +kernel
theorem dX5_pass_22 : decode cX5_pass 22 = .ok (.getfield 96, 3) := by decide +kernel
theorem dX5_pass_25 : decode cX5_pass 25 = .ok (.iload_n 1, 1) := by decide +kernel
theorem dX5_pass_26 : decode cX5_pass 26 = .ok (.iadd, 1) := by decide +kernel
theorem dX5_pass_27 : decode cX5_pass 27 = .ok (.ldc 151, 2) := by decide +kernel
theorem dX5_pass_29 : decode cX5_pass 29 = .ok (.if_icmp .le 13, 3) := by decide +kernel
theorem dX5_pass_32 : decode cX5_pass 32 = .ok (.new 121, 3) := by decide +kernel
theorem dX5_pass_35 : decode cX5_pass 35 = .ok (.dup, 1) := by decide +kernel
theorem dX5_pass_36 : decode cX5_pass 36 = .ok (.ldc 152, 2) := by decide +kernel
theorem dX5_pass_38 : decode cX5_pass 38 = .ok (.invokespecial 125, 3) := by decide +kernel
theorem dX5_pass_41 : decode cX5_pass 41 = .ok (.athrow, 1) := by decide +kernel
theorem dX5_pass_42 : decode cX5_pass 42 = .ok (.iconst 0, 1) := by decide +kernel
theorem dX5_pass_43 : decode cX5_pass 43 = .ok (.istore_n 2, 1) := by decide +kernel
theorem dX5_pass_44 : decode cX5_pass 44 = .ok (.iconst 0, 1) := by decide +kernel
theorem dX5_pass_45 : decode cX5_pass 45 = .ok (.istore_n 3, 1) := by decide +kernel
theorem dX5_pass_46 : decode cX5_pass 46 = .ok (.iload_n 3, 1) := by decide +kernel
theorem dX5_pass_47 : decode cX5_pass 47 = .ok (.iload_n 1, 1) := by decide +kernel
theorem dX5_pass_48 : decode cX5_pass 48 = .ok (.if_icmp .ge 16, 3) := by decide +kernel
theorem dX5_pass_51 : decode cX5_pass 51 = .ok (.iload_n 2, 1) := by decide +kernel
theorem dX5_pass_52 : decode cX5_pass 52 = .ok (.aload_n 0, 1) := by decide +kernel
theorem dX5_pass_53 : decode cX5_pass 53 = .ok (.invokevirtual 154, 3) := by decide +kernel
theorem dX5_pass_56 : decode cX5_pass 56 = .ok (.iadd, 1) := by decide +kernel
theorem dX5_pass_57 : decode cX5_pass 57 = .ok (.istore_n 2, 1) := by decide +kernel
theorem dX5_pass_58 : decode cX5_pass 58 = .ok (.iinc 3 1, 3) := by decide +kernel
theorem dX5_pass_61 : decode cX5_pass 61 = .ok (.goto (-15), 3) := by decide +kernel
theorem dX5_pass_64 : decode cX5_pass 64 = .ok (.iload_n 2, 1) := by decide +kernel
theorem dX5_pass_65 : decode cX5_pass 65 = .ok (.ireturn, 1) := by decide +kernel
theorem dX5_clock_0 : decode cX5_clock 0 = .ok (.aload_n 0, 1) := by decide +kernel
theorem dX5_clock_1 : decode cX5_clock 1 = .ok (.getfield 96, 3) := by decide +kernel
theorem dX5_clock_4 : decode cX5_clock 4 = .ok (.ireturn, 1) := by decide +kernel
theorem dX5_flows_0 : decode cX5_flows 0 = .ok (.aload_n 0, 1) := by decide +kernel
theorem dX5_flows_1 : decode cX5_flows 1 = .ok (.getfield 93, 3) := by decide +kernel
theorem dX5_flows_4 : decode cX5_flows 4 = .ok (.ireturn, 1) := by decide +kernel
set_option maxRecDepth 20000 in
theorem ggX5_sent_X5_checkFlow : GoodIn wsX5_sent wsX5_checkFlow := goodIn_ca (goodIn_r _ [6, 7, 8, 9, 10, 11, 5, 12, 13, 14, 15, 16, 17, 18, 19, 20, 21, 22, 23, 24, 25] (by decide +kernel) (by decide +kernel)) (goodIn_sub (fun _ h => List.mem_cons_of_mem _ (List.mem_append_right _ h)) (by decide +kernel))
set_option maxRecDepth 20000 in
theorem gX5_sent_X5_checkFlow : GoodIn wsX5_sent (wsV RX5 158 RX5 yX5_checkFlow wsX5_checkFlow) := goodIn_app (goodIn_of _ (by decide +kernel)) ggX5_sent_X5_checkFlow
theorem dX5_sent_0 : decode cX5_sent 0 = .ok (.aload_n 0, 1) := by decide +kernel
theorem dX5_sent_1 : decode cX5_sent 1 = .ok (.iload_n 1, 1) := by decide +kernel
theorem dX5_sent_2 : decode cX5_sent 2 = .ok (.invokevirtual 158, 3) := by decide +kernel
theorem dX5_sent_5 : decode cX5_sent 5 = .ok (.aload_n 0, 1) := by decide +kernel
theorem dX5_sent_6 : decode cX5_sent 6 = .ok (.getfield 11, 3) := by decide +kernel
theorem dX5_sent_9 : decode cX5_sent 9 = .ok (.iload_n 1, 1) := by decide +kernel
theorem dX5_sent_10 : decode cX5_sent 10 = .ok (.aaload, 1) := by decide +kernel
theorem dX5_sent_11 : decode cX5_sent 11 = .ok (.getfield 161, 3) := by decide +kernel
theorem dX5_sent_14 : decode cX5_sent 14 = .ok (.ireturn, 1) := by decide +kernel
set_option maxRecDepth 20000 in
theorem ggX5_delivered_X5_checkFlow : GoodIn wsX5_delivered wsX5_checkFlow := goodIn_ca (goodIn_r _ [6, 7, 8, 9, 10, 11, 5, 12, 13, 14, 15, 16, 17, 18, 19, 20, 21, 22, 23, 24, 25] (by decide +kernel) (by decide +kernel)) (goodIn_sub (fun _ h => List.mem_cons_of_mem _ (List.mem_append_right _ h)) (by decide +kernel))
set_option maxRecDepth 20000 in
theorem gX5_delivered_X5_checkFlow : GoodIn wsX5_delivered (wsV RX5 158 RX5 yX5_checkFlow wsX5_checkFlow) := goodIn_app (goodIn_of _ (by decide +kernel)) ggX5_delivered_X5_checkFlow
theorem dX5_delivered_0 : decode cX5_delivered 0 = .ok (.aload_n 0, 1) := by decide +kernel
theorem dX5_delivered_1 : decode cX5_delivered 1 = .ok (.iload_n 1, 1) := by decide +kernel
theorem dX5_delivered_2 : decode cX5_delivered 2 = .ok (.invokevirtual 158, 3) := by decide +kernel
theorem dX5_delivered_5 : decode cX5_delivered 5 = .ok (.aload_n 0, 1) := by decide +kernel
theorem dX5_delivered_6 : decode cX5_delivered 6 = .ok (.getfield 11, 3) := by decide +kernel
theorem dX5_delivered_9 : decode cX5_delivered 9 = .ok (.iload_n 1, 1) := by decide +kernel
theorem dX5_delivered_10 : decode cX5_delivered 10 = .ok (.aaload, 1) := by decide +kernel
theorem dX5_delivered_11 : decode cX5_delivered 11 = .ok (.getfield 164, 3) := by decide +kernel
theorem dX5_delivered_14 : decode cX5_delivered 14 = .ok (.ireturn, 1) := by decide +kernel
set_option maxRecDepth 20000 in
theorem ggX5_lost_X5_checkFlow : GoodIn wsX5_lost wsX5_checkFlow := goodIn_ca (goodIn_r _ [6, 7, 8, 9, 10, 11, 5, 12, 13, 14, 15, 16, 17, 18, 19, 20, 21, 22, 23, 24, 25] (by decide +kernel) (by decide +kernel)) (goodIn_sub (fun _ h => List.mem_cons_of_mem _ (List.mem_append_right _ h)) (by decide +kernel))
set_option maxRecDepth 20000 in
theorem gX5_lost_X5_checkFlow : GoodIn wsX5_lost (wsV RX5 158 RX5 yX5_checkFlow wsX5_checkFlow) := goodIn_app (goodIn_of _ (by decide +kernel)) ggX5_lost_X5_checkFlow
theorem dX5_lost_0 : decode cX5_lost 0 = .ok (.aload_n 0, 1) := by decide +kernel
theorem dX5_lost_1 : decode cX5_lost 1 = .ok (.iload_n 1, 1) := by decide +kernel
theorem dX5_lost_2 : decode cX5_lost 2 = .ok (.invokevirtual 158, 3) := by decide +kernel
theorem dX5_lost_5 : decode cX5_lost 5 = .ok (.aload_n 0, 1) := by decide +kernel
theorem dX5_lost_6 : decode cX5_lost 6 = .ok (.getfield 11, 3) := by decide +kernel
theorem dX5_lost_9 : decode cX5_lost 9 = .ok (.iload_n 1, 1) := by decide +kernel
theorem dX5_lost_10 : decode cX5_lost 10 = .ok (.aaload, 1) := by decide +kernel
theorem dX5_lost_11 : decode cX5_lost 11 = .ok (.getfield 167, 3) := by decide +kernel
theorem dX5_lost_14 : decode cX5_lost 14 = .ok (.ireturn, 1) := by decide +kernel
set_option maxRecDepth 20000 in
theorem ggX5_outOfOrder_X5_checkFlow : GoodIn wsX5_outOfOrder wsX5_checkFlow := goodIn_ca (goodIn_r _ [6, 7, 8, 9, 10, 11, 5, 12, 13, 14, 15, 16, 17, 18, 19, 20, 21, 22, 23, 24, 25] (by decide +kernel) (by decide +kernel)) (goodIn_sub (fun _ h => List.mem_cons_of_mem _ (List.mem_append_right _ h)) (by decide +kernel))
set_option maxRecDepth 20000 in
theorem gX5_outOfOrder_X5_checkFlow : GoodIn wsX5_outOfOrder (wsV RX5 158 RX5 yX5_checkFlow wsX5_checkFlow) := goodIn_app (goodIn_of _ (by decide +kernel)) ggX5_outOfOrder_X5_checkFlow
theorem dX5_outOfOrder_0 : decode cX5_outOfOrder 0 = .ok (.aload_n 0, 1) := by decide +kernel
theorem dX5_outOfOrder_1 : decode cX5_outOfOrder 1 = .ok (.iload_n 1, 1) := by decide +kernel
theorem dX5_outOfOrder_2 : decode cX5_outOfOrder 2 = .ok (.invokevirtual 158, 3) := by decide +kernel
theorem dX5_outOfOrder_5 : decode cX5_outOfOrder 5 = .ok (.aload_n 0, 1) := by decide +kernel
theorem dX5_outOfOrder_6 : decode cX5_outOfOrder 6 = .ok (.getfield 11, 3) := by decide +kernel
theorem dX5_outOfOrder_9 : decode cX5_outOfOrder 9 = .ok (.iload_n 1, 1) := by decide +kernel
theorem dX5_outOfOrder_10 : decode cX5_outOfOrder 10 = .ok (.aaload, 1) := by decide +kernel
theorem dX5_outOfOrder_11 : decode cX5_outOfOrder 11 = .ok (.getfield 170, 3) := by decide +kernel
theorem dX5_outOfOrder_14 : decode cX5_outOfOrder 14 = .ok (.ireturn, 1) := by decide +kernel
set_option maxRecDepth 20000 in
theorem ggX5_doneIn_X5_checkFlow : GoodIn wsX5_doneIn wsX5_checkFlow := goodIn_ca (goodIn_r _ [6, 7, 8, 9, 10, 11, 5, 12, 13, 14, 15, 16, 17, 18, 19, 20, 21, 22, 23, 24, 25] (by decide +kernel) (by decide +kernel)) (goodIn_sub (fun _ h => List.mem_cons_of_mem _ (List.mem_append_right _ h)) (by decide +kernel))
set_option maxRecDepth 20000 in
theorem gX5_doneIn_X5_checkFlow : GoodIn wsX5_doneIn (wsV RX5 158 RX5 yX5_checkFlow wsX5_checkFlow) := goodIn_app (goodIn_of _ (by decide +kernel)) ggX5_doneIn_X5_checkFlow
theorem dX5_doneIn_0 : decode cX5_doneIn 0 = .ok (.aload_n 0, 1) := by decide +kernel
theorem dX5_doneIn_1 : decode cX5_doneIn 1 = .ok (.iload_n 1, 1) := by decide +kernel
theorem dX5_doneIn_2 : decode cX5_doneIn 2 = .ok (.invokevirtual 158, 3) := by decide +kernel
theorem dX5_doneIn_5 : decode cX5_doneIn 5 = .ok (.aload_n 0, 1) := by decide +kernel
theorem dX5_doneIn_6 : decode cX5_doneIn 6 = .ok (.getfield 11, 3) := by decide +kernel
theorem dX5_doneIn_9 : decode cX5_doneIn 9 = .ok (.iload_n 1, 1) := by decide +kernel
theorem dX5_doneIn_10 : decode cX5_doneIn 10 = .ok (.aaload, 1) := by decide +kernel
theorem dX5_doneIn_11 : decode cX5_doneIn 11 = .ok (.getfield 173, 3) := by decide +kernel
theorem dX5_doneIn_14 : decode cX5_doneIn 14 = .ok (.ireturn, 1) := by decide +kernel
set_option maxRecDepth 20000 in
theorem ggX5_flowlets_X5_checkFlow : GoodIn wsX5_flowlets wsX5_checkFlow := goodIn_ca (goodIn_r _ [6, 7, 8, 9, 10, 11, 5, 12, 13, 14, 15, 16, 17, 18, 19, 20, 21, 22, 23, 24, 25] (by decide +kernel) (by decide +kernel)) (goodIn_sub (fun _ h => List.mem_cons_of_mem _ (List.mem_append_right _ h)) (by decide +kernel))
set_option maxRecDepth 20000 in
theorem gX5_flowlets_X5_checkFlow : GoodIn wsX5_flowlets (wsV RX5 158 RX5 yX5_checkFlow wsX5_checkFlow) := goodIn_app (goodIn_of _ (by decide +kernel)) ggX5_flowlets_X5_checkFlow
theorem dX5_flowlets_0 : decode cX5_flowlets 0 = .ok (.aload_n 0, 1) := by decide +kernel
theorem dX5_flowlets_1 : decode cX5_flowlets 1 = .ok (.iload_n 1, 1) := by decide +kernel
theorem dX5_flowlets_2 : decode cX5_flowlets 2 = .ok (.invokevirtual 158, 3) := by decide +kernel
theorem dX5_flowlets_5 : decode cX5_flowlets 5 = .ok (.aload_n 0, 1) := by decide +kernel
theorem dX5_flowlets_6 : decode cX5_flowlets 6 = .ok (.getfield 11, 3) := by decide +kernel
theorem dX5_flowlets_9 : decode cX5_flowlets 9 = .ok (.iload_n 1, 1) := by decide +kernel
theorem dX5_flowlets_10 : decode cX5_flowlets 10 = .ok (.aaload, 1) := by decide +kernel
theorem dX5_flowlets_11 : decode cX5_flowlets 11 = .ok (.getfield 176, 3) := by decide +kernel
theorem dX5_flowlets_14 : decode cX5_flowlets 14 = .ok (.ireturn, 1) := by decide +kernel
set_option maxRecDepth 20000 in
theorem ggX5_spineOf_X5_checkFlow : GoodIn wsX5_spineOf wsX5_checkFlow := goodIn_ca (goodIn_r _ [6, 7, 8, 9, 10, 11, 5, 12, 13, 14, 15, 16, 17, 18, 19, 20, 21, 22, 23, 24, 25] (by decide +kernel) (by decide +kernel)) (goodIn_sub (fun _ h => List.mem_cons_of_mem _ (List.mem_append_right _ h)) (by decide +kernel))
set_option maxRecDepth 20000 in
theorem gX5_spineOf_X5_checkFlow : GoodIn wsX5_spineOf (wsV RX5 158 RX5 yX5_checkFlow wsX5_checkFlow) := goodIn_app (goodIn_of _ (by decide +kernel)) ggX5_spineOf_X5_checkFlow
theorem dX5_spineOf_0 : decode cX5_spineOf 0 = .ok (.aload_n 0, 1) := by decide +kernel
theorem dX5_spineOf_1 : decode cX5_spineOf 1 = .ok (.iload_n 1, 1) := by decide +kernel
theorem dX5_spineOf_2 : decode cX5_spineOf 2 = .ok (.invokevirtual 158, 3) := by decide +kernel
theorem dX5_spineOf_5 : decode cX5_spineOf 5 = .ok (.aload_n 0, 1) := by decide +kernel
theorem dX5_spineOf_6 : decode cX5_spineOf 6 = .ok (.getfield 11, 3) := by decide +kernel
theorem dX5_spineOf_9 : decode cX5_spineOf 9 = .ok (.iload_n 1, 1) := by decide +kernel
theorem dX5_spineOf_10 : decode cX5_spineOf 10 = .ok (.aaload, 1) := by decide +kernel
theorem dX5_spineOf_11 : decode cX5_spineOf 11 = .ok (.getfield 179, 3) := by decide +kernel
theorem dX5_spineOf_14 : decode cX5_spineOf 14 = .ok (.ireturn, 1) := by decide +kernel
set_option maxRecDepth 20000 in
theorem ggX5_upQueue_X5_checkHost : GoodIn wsX5_upQueue wsX5_checkHost := goodIn_ca (goodIn_r _ [5, 6, 7, 8, 9, 4, 10] (by decide +kernel) (by decide +kernel)) (goodIn_sub (fun _ h => List.mem_cons_of_mem _ (List.mem_append_right _ h)) (by decide +kernel))
set_option maxRecDepth 20000 in
theorem gX5_upQueue_X5_checkHost : GoodIn wsX5_upQueue (va_wsS RX5 114 yX5_checkHost wsX5_checkHost) := goodIn_app (goodIn_of _ (by decide +kernel)) ggX5_upQueue_X5_checkHost
theorem dX5_upQueue_0 : decode cX5_upQueue 0 = .ok (.iload_n 1, 1) := by decide +kernel
theorem dX5_upQueue_1 : decode cX5_upQueue 1 = .ok (.invokestatic 114, 3) := by decide +kernel
theorem dX5_upQueue_4 : decode cX5_upQueue 4 = .ok (.aload_n 0, 1) := by decide +kernel
theorem dX5_upQueue_5 : decode cX5_upQueue 5 = .ok (.getfield 17, 3) := by decide +kernel
theorem dX5_upQueue_8 : decode cX5_upQueue 8 = .ok (.iload_n 1, 1) := by decide +kernel
theorem dX5_upQueue_9 : decode cX5_upQueue 9 = .ok (.aaload, 1) := by decide +kernel
theorem dX5_upQueue_10 : decode cX5_upQueue 10 = .ok (.getfield 48, 3) := by decide +kernel
theorem dX5_upQueue_13 : decode cX5_upQueue 13 = .ok (.getfield 138, 3) := by decide +kernel
theorem dX5_upQueue_16 : decode cX5_upQueue 16 = .ok (.ireturn, 1) := by decide +kernel
set_option maxRecDepth 20000 in
theorem ggX5_downQueue_X5_checkHost : GoodIn wsX5_downQueue wsX5_checkHost := goodIn_ca (goodIn_r _ [5, 6, 7, 8, 9, 4, 10] (by decide +kernel) (by decide +kernel)) (goodIn_sub (fun _ h => List.mem_cons_of_mem _ (List.mem_append_right _ h)) (by decide +kernel))
set_option maxRecDepth 20000 in
theorem gX5_downQueue_X5_checkHost : GoodIn wsX5_downQueue (va_wsS RX5 114 yX5_checkHost wsX5_checkHost) := goodIn_app (goodIn_of _ (by decide +kernel)) ggX5_downQueue_X5_checkHost
theorem dX5_downQueue_0 : decode cX5_downQueue 0 = .ok (.iload_n 1, 1) := by decide +kernel
theorem dX5_downQueue_1 : decode cX5_downQueue 1 = .ok (.invokestatic 114, 3) := by decide +kernel
theorem dX5_downQueue_4 : decode cX5_downQueue 4 = .ok (.aload_n 0, 1) := by decide +kernel
theorem dX5_downQueue_5 : decode cX5_downQueue 5 = .ok (.getfield 17, 3) := by decide +kernel
theorem dX5_downQueue_8 : decode cX5_downQueue 8 = .ok (.iload_n 1, 1) := by decide +kernel
theorem dX5_downQueue_9 : decode cX5_downQueue 9 = .ok (.aaload, 1) := by decide +kernel
theorem dX5_downQueue_10 : decode cX5_downQueue 10 = .ok (.getfield 52, 3) := by decide +kernel
theorem dX5_downQueue_13 : decode cX5_downQueue 13 = .ok (.getfield 138, 3) := by decide +kernel
theorem dX5_downQueue_16 : decode cX5_downQueue 16 = .ok (.ireturn, 1) := by decide +kernel
set_option maxRecDepth 20000 in
theorem ggX5_northQueue_X5_checkConnection : GoodIn wsX5_northQueue wsX5_checkConnection := goodIn_ca (goodIn_r _ [4, 5, 6, 7, 8, 3, 9] (by decide +kernel) (by decide +kernel)) (goodIn_sub (fun _ h => List.mem_cons_of_mem _ (List.mem_append_right _ h)) (by decide +kernel))
set_option maxRecDepth 20000 in
theorem gX5_northQueue_X5_checkConnection : GoodIn wsX5_northQueue (va_wsS RX5 129 yX5_checkConnection wsX5_checkConnection) := goodIn_app (goodIn_of _ (by decide +kernel)) ggX5_northQueue_X5_checkConnection
set_option maxRecDepth 20000 in
theorem ggX5_northQueue_X5_northOf : GoodIn wsX5_northQueue wsX5_northOf := goodIn_r _ [13, 14, 22, 23, 24, 25, 26, 27, 28, 29, 30, 31, 32, 33, 34] (by decide +kernel) (by decide +kernel)
set_option maxRecDepth 20000 in
theorem gX5_northQueue_X5_northOf : GoodIn wsX5_northQueue (wsV RX5 80 RX5 yX5_northOf wsX5_northOf) := goodIn_app (goodIn_of _ (by decide +kernel)) ggX5_northQueue_X5_northOf
theorem dX5_northQueue_0 : decode cX5_northQueue 0 = .ok (.iload_n 1, 1) := by decide +kernel
theorem dX5_northQueue_1 : decode cX5_northQueue 1 = .ok (.iload_n 2, 1) := by decide +kernel
theorem dX5_northQueue_2 : decode cX5_northQueue 2 = .ok (.invokestatic 129, 3) := by decide +kernel
theorem dX5_northQueue_5 : decode cX5_northQueue 5 = .ok (.aload_n 0, 1) := by decide +kernel
theorem dX5_northQueue_6 : decode cX5_northQueue 6 = .ok (.iload_n 1, 1) := by decide +kernel
theorem dX5_northQueue_7 : decode cX5_northQueue 7 = .ok (.iload_n 2, 1) := by decide +kernel
theorem dX5_northQueue_8 : decode cX5_northQueue 8 = .ok (.invokevirtual 80, 3) := by decide +kernel
theorem dX5_northQueue_11 : decode cX5_northQueue 11 = .ok (.getfield 138, 3) := by decide +kernel
theorem dX5_northQueue_14 : decode cX5_northQueue 14 = .ok (.ireturn, 1) := by decide +kernel
set_option maxRecDepth 20000 in
theorem ggX5_southQueue_X5_checkConnection : GoodIn wsX5_southQueue wsX5_checkConnection := goodIn_ca (goodIn_r _ [4, 5, 6, 7, 8, 3, 9] (by decide +kernel) (by decide +kernel)) (goodIn_sub (fun _ h => List.mem_cons_of_mem _ (List.mem_append_right _ h)) (by decide +kernel))
set_option maxRecDepth 20000 in
theorem gX5_southQueue_X5_checkConnection : GoodIn wsX5_southQueue (va_wsS RX5 129 yX5_checkConnection wsX5_checkConnection) := goodIn_app (goodIn_of _ (by decide +kernel)) ggX5_southQueue_X5_checkConnection
set_option maxRecDepth 20000 in
theorem ggX5_southQueue_X5_southOf : GoodIn wsX5_southQueue wsX5_southOf := goodIn_r _ [13, 14, 22, 23, 24, 25, 26, 27, 28, 29, 30, 31, 32, 33, 34] (by decide +kernel) (by decide +kernel)
set_option maxRecDepth 20000 in
theorem gX5_southQueue_X5_southOf : GoodIn wsX5_southQueue (wsV RX5 76 RX5 yX5_southOf wsX5_southOf) := goodIn_app (goodIn_of _ (by decide +kernel)) ggX5_southQueue_X5_southOf
theorem dX5_southQueue_0 : decode cX5_southQueue 0 = .ok (.iload_n 2, 1) := by decide +kernel
theorem dX5_southQueue_1 : decode cX5_southQueue 1 = .ok (.iload_n 1, 1) := by decide +kernel
theorem dX5_southQueue_2 : decode cX5_southQueue 2 = .ok (.invokestatic 129, 3) := by decide +kernel
theorem dX5_southQueue_5 : decode cX5_southQueue 5 = .ok (.aload_n 0, 1) := by decide +kernel
theorem dX5_southQueue_6 : decode cX5_southQueue 6 = .ok (.iload_n 1, 1) := by decide +kernel
theorem dX5_southQueue_7 : decode cX5_southQueue 7 = .ok (.iload_n 2, 1) := by decide +kernel
theorem dX5_southQueue_8 : decode cX5_southQueue 8 = .ok (.invokevirtual 76, 3) := by decide +kernel
theorem dX5_southQueue_11 : decode cX5_southQueue 11 = .ok (.getfield 138, 3) := by decide +kernel
theorem dX5_southQueue_14 : decode cX5_southQueue 14 = .ok (.ireturn, 1) := by decide +kernel
set_option maxRecDepth 20000 in
theorem ggX5_upCredits_X5_checkHost : GoodIn wsX5_upCredits wsX5_checkHost := goodIn_ca (goodIn_r _ [5, 6, 7, 8, 9, 4, 10] (by decide +kernel) (by decide +kernel)) (goodIn_sub (fun _ h => List.mem_cons_of_mem _ (List.mem_append_right _ h)) (by decide +kernel))
set_option maxRecDepth 20000 in
theorem gX5_upCredits_X5_checkHost : GoodIn wsX5_upCredits (va_wsS RX5 114 yX5_checkHost wsX5_checkHost) := goodIn_app (goodIn_of _ (by decide +kernel)) ggX5_upCredits_X5_checkHost
theorem dX5_upCredits_0 : decode cX5_upCredits 0 = .ok (.iload_n 1, 1) := by decide +kernel
theorem dX5_upCredits_1 : decode cX5_upCredits 1 = .ok (.invokestatic 114, 3) := by decide +kernel
theorem dX5_upCredits_4 : decode cX5_upCredits 4 = .ok (.aload_n 0, 1) := by decide +kernel
theorem dX5_upCredits_5 : decode cX5_upCredits 5 = .ok (.getfield 17, 3) := by decide +kernel
theorem dX5_upCredits_8 : decode cX5_upCredits 8 = .ok (.iload_n 1, 1) := by decide +kernel
theorem dX5_upCredits_9 : decode cX5_upCredits 9 = .ok (.aaload, 1) := by decide +kernel
theorem dX5_upCredits_10 : decode cX5_upCredits 10 = .ok (.getfield 48, 3) := by decide +kernel
theorem dX5_upCredits_13 : decode cX5_upCredits 13 = .ok (.getfield 182, 3) := by decide +kernel
theorem dX5_upCredits_16 : decode cX5_upCredits 16 = .ok (.ireturn, 1) := by decide +kernel
set_option maxRecDepth 20000 in
theorem ggX5_northCredits_X5_checkConnection : GoodIn wsX5_northCredits wsX5_checkConnection := goodIn_ca (goodIn_r _ [4, 5, 6, 7, 8, 3, 9] (by decide +kernel) (by decide +kernel)) (goodIn_sub (fun _ h => List.mem_cons_of_mem _ (List.mem_append_right _ h)) (by decide +kernel))
set_option maxRecDepth 20000 in
theorem gX5_northCredits_X5_checkConnection : GoodIn wsX5_northCredits (va_wsS RX5 129 yX5_checkConnection wsX5_checkConnection) := goodIn_app (goodIn_of _ (by decide +kernel)) ggX5_northCredits_X5_checkConnection
set_option maxRecDepth 20000 in
theorem ggX5_northCredits_X5_northOf : GoodIn wsX5_northCredits wsX5_northOf := goodIn_r _ [13, 14, 22, 23, 24, 25, 26, 27, 28, 29, 30, 31, 32, 33, 34] (by decide +kernel) (by decide +kernel)
set_option maxRecDepth 20000 in
theorem gX5_northCredits_X5_northOf : GoodIn wsX5_northCredits (wsV RX5 80 RX5 yX5_northOf wsX5_northOf) := goodIn_app (goodIn_of _ (by decide +kernel)) ggX5_northCredits_X5_northOf
theorem dX5_northCredits_0 : decode cX5_northCredits 0 = .ok (.iload_n 1, 1) := by decide +kernel
theorem dX5_northCredits_1 : decode cX5_northCredits 1 = .ok (.iload_n 2, 1) := by decide +kernel
theorem dX5_northCredits_2 : decode cX5_northCredits 2 = .ok (.invokestatic 129, 3) := by decide +kernel
theorem dX5_northCredits_5 : decode cX5_northCredits 5 = .ok (.aload_n 0, 1) := by decide +kernel
theorem dX5_northCredits_6 : decode cX5_northCredits 6 = .ok (.iload_n 1, 1) := by decide +kernel
theorem dX5_northCredits_7 : decode cX5_northCredits 7 = .ok (.iload_n 2, 1) := by decide +kernel
theorem dX5_northCredits_8 : decode cX5_northCredits 8 = .ok (.invokevirtual 80, 3) := by decide +kernel
theorem dX5_northCredits_11 : decode cX5_northCredits 11 = .ok (.getfield 182, 3) := by decide +kernel
theorem dX5_northCredits_14 : decode cX5_northCredits 14 = .ok (.ireturn, 1) := by decide +kernel
set_option maxRecDepth 20000 in
theorem ggX5_returning_X2_onTheWayBack : GoodIn wsX5_returning wsX2_onTheWayBack := goodIn_r _ [5, 6, 20, 21, 22, 23, 24, 25, 26] (by decide +kernel) (by decide +kernel)
set_option maxRecDepth 20000 in
theorem gX5_returning_X2_onTheWayBack_n185 : GoodIn wsX5_returning (wsX2_onTheWayBack) := ggX5_returning_X2_onTheWayBack
theorem dX5_returning_0 : decode cX5_returning 0 = .ok (.iconst 0, 1) := by decide +kernel
theorem dX5_returning_1 : decode cX5_returning 1 = .ok (.istore_n 1, 1) := by decide +kernel
theorem dX5_returning_2 : decode cX5_returning 2 = .ok (.iconst 0, 1) := by decide +kernel
theorem dX5_returning_3 : decode cX5_returning 3 = .ok (.istore_n 2, 1) := by decide +kernel
theorem dX5_returning_4 : decode cX5_returning 4 = .ok (.iload_n 2, 1) := by decide +kernel
theorem dX5_returning_5 : decode cX5_returning 5 = .ok (.aload_n 0, 1) := by decide +kernel
theorem dX5_returning_6 : decode cX5_returning 6 = .ok (.getfield 23, 3) := by decide +kernel
theorem dX5_returning_9 : decode cX5_returning 9 = .ok (.arraylength, 1) := by decide +kernel
theorem dX5_returning_10 : decode cX5_returning 10 = .ok (.if_icmp .ge 21, 3) := by decide +kernel
theorem dX5_returning_13 : decode cX5_returning 13 = .ok (.iload_n 1, 1) := by decide +kernel
theorem dX5_returning_14 : decode cX5_returning 14 = .ok (.aload_n 0, 1) := by decide +kernel
theorem dX5_returning_15 : decode cX5_returning 15 = .ok (.getfield 23, 3) := by decide +kernel
theorem dX5_returning_18 : decode cX5_returning 18 = .ok (.iload_n 2, 1) := by decide +kernel
theorem dX5_returning_19 : decode cX5_returning 19 = .ok (.aaload, 1) := by decide +kernel
theorem dX5_returning_20 : decode cX5_returning 20 = .ok (.invokevirtual 185, 3) := by decide +kernel
theorem dX5_returning_23 : decode cX5_returning 23 = .ok (.iadd, 1) := by decide +kernel
theorem dX5_returning_24 : decode cX5_returning 24 = .ok (.istore_n 1, 1) := by decide +kernel
theorem dX5_returning_25 : decode cX5_returning 25 = .ok (.iinc 2 1, 3) := by decide +kernel
theorem dX5_returning_28 : decode cX5_returning 28 = .ok (.goto (-24), 3) := by decide +kernel
theorem dX5_returning_31 : decode cX5_returning 31 = .ok (.iload_n 1, 1) := by decide +kernel
theorem dX5_returning_32 : decode cX5_returning 32 = .ok (.ireturn, 1) := by decide +kernel
theorem dX5_queued_0 : decode cX5_queued 0 = .ok (.iconst 0, 1) := by decide +kernel
theorem dX5_queued_1 : decode cX5_queued 1 = .ok (.istore_n 1, 1) := by decide +kernel
theorem dX5_queued_2 : decode cX5_queued 2 = .ok (.iconst 0, 1) := by decide +kernel
theorem dX5_queued_3 : decode cX5_queued 3 = .ok (.istore_n 2, 1) := by decide +kernel
theorem dX5_queued_4 : decode cX5_queued 4 = .ok (.iload_n 2, 1) := by decide +kernel
theorem dX5_queued_5 : decode cX5_queued 5 = .ok (.aload_n 0, 1) := by decide +kernel
theorem dX5_queued_6 : decode cX5_queued 6 = .ok (.getfield 23, 3) := by decide +kernel
theorem dX5_queued_9 : decode cX5_queued 9 = .ok (.arraylength, 1) := by decide +kernel
theorem dX5_queued_10 : decode cX5_queued 10 = .ok (.if_icmp .ge 21, 3) := by decide +kernel
theorem dX5_queued_13 : decode cX5_queued 13 = .ok (.iload_n 1, 1) := by decide +kernel
theorem dX5_queued_14 : decode cX5_queued 14 = .ok (.aload_n 0, 1) := by decide +kernel
theorem dX5_queued_15 : decode cX5_queued 15 = .ok (.getfield 23, 3) := by decide +kernel
theorem dX5_queued_18 : decode cX5_queued 18 = .ok (.iload_n 2, 1) := by decide +kernel
theorem dX5_queued_19 : decode cX5_queued 19 = .ok (.aaload, 1) := by decide +kernel
theorem dX5_queued_20 : decode cX5_queued 20 = .ok (.getfield 138, 3) := by decide +kernel
theorem dX5_queued_23 : decode cX5_queued 23 = .ok (.iadd, 1) := by decide +kernel
theorem dX5_queued_24 : decode cX5_queued 24 = .ok (.istore_n 1, 1) := by decide +kernel
theorem dX5_queued_25 : decode cX5_queued 25 = .ok (.iinc 2 1, 3) := by decide +kernel
theorem dX5_queued_28 : decode cX5_queued 28 = .ok (.goto (-24), 3) := by decide +kernel
theorem dX5_queued_31 : decode cX5_queued 31 = .ok (.iload_n 1, 1) := by decide +kernel
theorem dX5_queued_32 : decode cX5_queued 32 = .ok (.ireturn, 1) := by decide +kernel
set_option maxRecDepth 20000 in
theorem ggX5_open_X5_checkHost : GoodIn wsX5_open wsX5_checkHost := goodIn_ca (goodIn_r _ [5, 6, 7, 8, 9, 4, 10] (by decide +kernel) (by decide +kernel)) (goodIn_sub (fun _ h => List.mem_cons_of_mem _ (List.mem_append_right _ h)) (by decide +kernel))
set_option maxRecDepth 20000 in
theorem gX5_open_X5_checkHost : GoodIn wsX5_open (va_wsS RX5 114 yX5_checkHost wsX5_checkHost) := goodIn_app (goodIn_of _ (by decide +kernel)) ggX5_open_X5_checkHost
theorem dX5_open_0 : decode cX5_open 0 = .ok (.iload_n 1, 1) := by decide +kernel
theorem dX5_open_1 : decode cX5_open 1 = .ok (.invokestatic 114, 3) := by decide +kernel
theorem dX5_open_4 : decode cX5_open 4 = .ok (.aload_n 0, 1) := by decide +kernel
theorem dX5_open_5 : decode cX5_open 5 = .ok (.getfield 17, 3) := by decide +kernel
theorem dX5_open_8 : decode cX5_open 8 = .ok (.iload_n 1, 1) := by decide +kernel
theorem dX5_open_9 : decode cX5_open 9 = .ok (.aaload, 1) := by decide +kernel
theorem dX5_open_10 : decode cX5_open 10 = .ok (.getfield 188, 3) := by decide +kernel
theorem dX5_open_13 : decode cX5_open 13 = .ok (.ireturn, 1) := by decide +kernel
set_option maxRecDepth 20000 in
theorem ggX5_usable_X5_isOutside : GoodIn wsX5_usable wsX5_isOutside := goodIn_r _ [6] (by decide +kernel) (by decide +kernel)
set_option maxRecDepth 20000 in
theorem gX5_usable_X5_isOutside : GoodIn wsX5_usable (va_wsS RX5 103 yX5_isOutside wsX5_isOutside) := goodIn_app (goodIn_of _ (by decide +kernel)) ggX5_usable_X5_isOutside
set_option maxRecDepth 20000 in
theorem ggX5_usable_X5_usableSpines : GoodIn wsX5_usable wsX5_usableSpines := goodIn_r _ [10, 11, 12, 13, 14, 15, 16, 17, 18, 19, 20, 21, 22, 23, 24] (by decide +kernel) (by decide +kernel)
set_option maxRecDepth 20000 in
theorem gX5_usable_X5_usableSpines : GoodIn wsX5_usable (wsV RX5 193 RX5 yX5_usableSpines wsX5_usableSpines) := goodIn_app (goodIn_of _ (by decide +kernel)) ggX5_usable_X5_usableSpines
theorem dX5_usable_0 : decode cX5_usable 0 = .ok (.iload_n 1, 1) := by decide +kernel
theorem dX5_usable_1 : decode cX5_usable 1 = .ok (.iconst 0, 1) := by decide +kernel
theorem dX5_usable_2 : decode cX5_usable 2 = .ok (.iconst 3, 1) := by decide +kernel
theorem dX5_usable_3 : decode cX5_usable 3 = .ok (.invokestatic 103, 3) := by decide +kernel
theorem dX5_usable_6 : decode cX5_usable 6 = .ok (.ifCond .ne 17, 3) := by decide +kernel
theorem dX5_usable_9 : decode cX5_usable 9 = .ok (.iload_n 2, 1) := by decide +kernel
theorem dX5_usable_10 : decode cX5_usable 10 = .ok (.iconst 0, 1) := by decide +kernel
theorem dX5_usable_11 : decode cX5_usable 11 = .ok (.iconst 3, 1) := by decide +kernel
theorem dX5_usable_12 : decode cX5_usable 12 = .ok (.invokestatic 103, 3) := by decide +kernel
theorem dX5_usable_15 : decode cX5_usable 15 = .ok (.ifCond .ne 8, 3) := by decide +kernel
theorem dX5_usable_18 : decode cX5_usable 18 = .ok (.iload_n 2, 1) := by decide +kernel
theorem dX5_usable_19 : decode cX5_usable 19 = .ok (.iload_n 1, 1) := by decide +kernel
theorem dX5_usable_20 : decode cX5_usable 20 = .ok (.if_icmp .ne 13, 3) := by decide +kernel
theorem dX5_usable_23 : decode cX5_usable 23 = .ok (.new 107, 3) := by decide +kernel
theorem dX5_usable_26 : decode cX5_usable 26 = .ok (.dup, 1) := by decide +kernel
theorem dX5_usable_27 : decode cX5_usable 27 = .ok (.ldc 191, 2) := by decide +kernel
theorem dX5_usable_29 : decode cX5_usable 29 = .ok (.invokespecial 111, 3) := by decide +kernel
theorem dX5_usable_32 : decode cX5_usable 32 = .ok (.athrow, 1) := by decide +kernel
theorem dX5_usable_33 : decode cX5_usable 33 = .ok (.aload_n 0, 1) := by decide +kernel
theorem dX5_usable_34 : decode cX5_usable 34 = .ok (.iload_n 1, 1) := by decide +kernel
theorem dX5_usable_35 : decode cX5_usable 35 = .ok (.iload_n 2, 1) := by decide +kernel
theorem dX5_usable_36 : decode cX5_usable 36 = .ok (.invokevirtual 193, 3) := by decide +kernel
theorem dX5_usable_39 : decode cX5_usable 39 = .ok (.ireturn, 1) := by decide +kernel
set_option maxRecDepth 20000 in
theorem ggX5_leastTicks_X5_unsentBy : GoodIn wsX5_leastTicks wsX5_unsentBy := goodIn_r _ [10, 11, 12, 13, 14, 15, 16, 17, 18, 19, 52, 53, 54, 55, 56, 57, 58, 59, 60, 61, 62, 63, 64, 65, 66, 67, 68, 69, 70, 71, 72, 73, 74, 75, 76, 77] (by decide +kernel) (by decide +kernel)
set_option maxRecDepth 20000 in
theorem gX5_leastTicks_X5_unsentBy : GoodIn wsX5_leastTicks (wsV RX5 197 RX5 yX5_unsentBy wsX5_unsentBy) := goodIn_app (goodIn_of _ (by decide +kernel)) ggX5_leastTicks_X5_unsentBy
set_option maxRecDepth 20000 in
theorem ggX5_leastTicks_X5_unsentFor : GoodIn wsX5_leastTicks wsX5_unsentFor := goodIn_r _ [23, 11, 12, 13, 14, 15, 16, 17, 18, 19, 52, 53, 54, 55, 56, 57, 58, 59, 60, 61, 62, 63, 64, 65, 66, 67, 68, 69, 70, 71, 72, 73, 74, 75, 76, 77] (by decide +kernel) (by decide +kernel)
set_option maxRecDepth 20000 in
theorem gX5_leastTicks_X5_unsentFor : GoodIn wsX5_leastTicks (wsV RX5 200 RX5 yX5_unsentFor wsX5_unsentFor) := goodIn_app (goodIn_of _ (by decide +kernel)) ggX5_leastTicks_X5_unsentFor
set_option maxRecDepth 20000 in
theorem ggX5_leastTicks_X5_unsentOutOf : GoodIn wsX5_leastTicks wsX5_unsentOutOf := goodIn_r _ [27, 11, 12, 28, 14, 29, 30, 31, 32, 33, 34, 35, 36, 37, 38, 39, 40, 13, 15, 16, 17, 18, 19, 52, 53, 54, 55, 56, 57, 58, 59, 60, 61, 62, 63, 64, 65, 66, 67, 68, 69, 70, 71, 72, 73, 74, 75, 76, 77] (by decide +kernel) (by decide +kernel)
set_option maxRecDepth 20000 in
theorem gX5_leastTicks_X5_unsentOutOf : GoodIn wsX5_leastTicks (wsV RX5 208 RX5 yX5_unsentOutOf wsX5_unsentOutOf) := goodIn_app (goodIn_of _ (by decide +kernel)) ggX5_leastTicks_X5_unsentOutOf
set_option maxRecDepth 20000 in
theorem ggX5_leastTicks_X5_unsentInto : GoodIn wsX5_leastTicks wsX5_unsentInto := goodIn_r _ [44, 11, 12, 28, 14, 29, 30, 31, 32, 33, 34, 35, 36, 37, 38, 39, 40, 13, 15, 16, 17, 18, 19, 52, 53, 54, 55, 56, 57, 58, 59, 60, 61, 62, 63, 64, 65, 66, 67, 68, 69, 70, 71, 72, 73, 74, 75, 76, 77] (by decide +kernel) (by decide +kernel)
set_option maxRecDepth 20000 in
theorem gX5_leastTicks_X5_unsentInto : GoodIn wsX5_leastTicks (wsV RX5 211 RX5 yX5_unsentInto wsX5_unsentInto) := goodIn_app (goodIn_of _ (by decide +kernel)) ggX5_leastTicks_X5_unsentInto
set_option maxRecDepth 20000 in
theorem ggX5_leastTicks_J6_bitCount_0f7a4 : GoodIn wsX5_leastTicks wsJ6_bitCount_0f7a4 := goodIn_r _ [48, 49, 50, 51] (by decide +kernel) (by decide +kernel)
set_option maxRecDepth 20000 in
theorem gX5_leastTicks_J6_bitCount_0f7a4 : GoodIn wsX5_leastTicks (va_wsS RX5 143 yJ6_bitCount_0f7a4 wsJ6_bitCount_0f7a4) := goodIn_app (goodIn_of _ (by decide +kernel)) ggX5_leastTicks_J6_bitCount_0f7a4
theorem dX5_leastTicks_0 : decode cX5_leastTicks 0 = .ok (.iconst 0, 1) := by decide +kernel
theorem dX5_leastTicks_1 : decode cX5_leastTicks 1 = .ok (.istore_n 1, 1) := by decide +kernel
theorem dX5_leastTicks_2 : decode cX5_leastTicks 2 = .ok (.iconst 0, 1) := by decide +kernel
theorem dX5_leastTicks_3 : decode cX5_leastTicks 3 = .ok (.istore_n 2, 1) := by decide +kernel
theorem dX5_leastTicks_4 : decode cX5_leastTicks 4 = .ok (.iload_n 2, 1) := by decide +kernel
theorem dX5_leastTicks_5 : decode cX5_leastTicks 5 = .ok (.bipush 16, 2) := by decide +kernel
theorem dX5_leastTicks_7 : decode cX5_leastTicks 7 = .ok (.if_icmp .ge 27, 3) := by decide +kernel
theorem dX5_leastTicks_10 : decode cX5_leastTicks 10 = .ok (.iload_n 1, 1) := by decide +kernel
theorem dX5_leastTicks_11 : decode cX5_leastTicks 11 = .ok (.aload_n 0, 1) := by decide +kernel
theorem dX5_leastTicks_12 : decode cX5_leastTicks 12 = .ok (.iload_n 2, 1) := by decide +kernel
theorem dX5_leastTicks_13 : decode cX5_leastTicks 13 = .ok (.invokevirtual 197, 3) := by decide +kernel
theorem dX5_leastTicks_16 : decode cX5_leastTicks 16 = .ok (.aload_n 0, 1) := by decide +kernel
theorem dX5_leastTicks_17 : decode cX5_leastTicks 17 = .ok (.iload_n 2, 1) := by decide +kernel
theorem dX5_leastTicks_18 : decode cX5_leastTicks 18 = .ok (.invokevirtual 200, 3) := by decide +kernel
theorem dX5_leastTicks_21 : decode cX5_leastTicks 21 = .ok (.invokestatic 203, 3) := by decide +kernel
theorem dX5_leastTicks_24 : decode cX5_leastTicks 24 = .ok (.invokestatic 203, 3) := by decide +kernel
theorem dX5_leastTicks_27 : decode cX5_leastTicks 27 = .ok (.istore_n 1, 1) := by decide +kernel
theorem dX5_leastTicks_28 : decode cX5_leastTicks 28 = .ok (.iinc 2 1, 3) := by decide +kernel
theorem dX5_leastTicks_31 : decode cX5_leastTicks 31 = .ok (.goto (-27), 3) := by decide +kernel
theorem dX5_leastTicks_34 : decode cX5_leastTicks 34 = .ok (.iconst 0, 1) := by decide +kernel
theorem dX5_leastTicks_35 : decode cX5_leastTicks 35 = .ok (.istore_n 2, 1) := by decide +kernel
theorem dX5_leastTicks_36 : decode cX5_leastTicks 36 = .ok (.iload_n 2, 1) := by decide +kernel
theorem dX5_leastTicks_37 : decode cX5_leastTicks 37 = .ok (.iconst 4, 1) := by decide +kernel
theorem dX5_leastTicks_38 : decode cX5_leastTicks 38 = .ok (.if_icmp .ge 64, 3) := by decide +kernel
theorem dX5_leastTicks_41 : decode cX5_leastTicks 41 = .ok (.aload_n 0, 1) := by decide +kernel
theorem dX5_leastTicks_42 : decode cX5_leastTicks 42 = .ok (.iload_n 2, 1) := by decide +kernel
theorem dX5_leastTicks_43 : decode cX5_leastTicks 43 = .ok (.invokevirtual 208, 3) := by decide +kernel
theorem dX5_leastTicks_46 : decode cX5_leastTicks 46 = .ok (.aload_n 0, 1) := by decide +kernel
theorem dX5_leastTicks_47 : decode cX5_leastTicks 47 = .ok (.iload_n 2, 1) := by decide +kernel
theorem dX5_leastTicks_48 : decode cX5_leastTicks 48 = .ok (.invokevirtual 211, 3) := by decide +kernel
theorem dX5_leastTicks_51 : decode cX5_leastTicks 51 = .ok (.invokestatic 203, 3) := by decide +kernel
theorem dX5_leastTicks_54 : decode cX5_leastTicks 54 = .ok (.istore_n 3, 1) := by decide +kernel
theorem dX5_leastTicks_55 : decode cX5_leastTicks 55 = .ok (.aload_n 0, 1) := by decide +kernel
theorem dX5_leastTicks_56 : decode cX5_leastTicks 56 = .ok (.getfield 42, 3) := by decide +kernel
theorem dX5_leastTicks_59 : decode cX5_leastTicks 59 = .ok (.iload_n 2, 1) := by decide +kernel
theorem dX5_leastTicks_60 : decode cX5_leastTicks 60 = .ok (.iaload, 1) := by decide +kernel
theorem dX5_leastTicks_61 : decode cX5_leastTicks 61 = .ok (.invokestatic 143, 3) := by decide +kernel
theorem dX5_leastTicks_64 : decode cX5_leastTicks 64 = .ok (.istore 4, 2) := by decide +kernel
theorem dX5_leastTicks_66 : decode cX5_leastTicks 66 = .ok (.iload_n 3, 1) := by decide +kernel
theorem dX5_leastTicks_67 : decode cX5_leastTicks 67 = .ok (.ifCond .le 10, 3) := by decide +kernel
theorem dX5_leastTicks_70 : decode cX5_leastTicks 70 = .ok (.iload 4, 2) := by decide +kernel
theorem dX5_leastTicks_72 : decode cX5_leastTicks 72 = .ok (.ifCond .ne 5, 3) := by decide +kernel
theorem dX5_leastTicks_75 : decode cX5_leastTicks 75 = .ok (.iconst (-1), 1) := by decide +kernel
theorem dX5_leastTicks_76 : decode cX5_leastTicks 76 = .ok (.ireturn, 1) := by decide +kernel
theorem dX5_leastTicks_77 : decode cX5_leastTicks 77 = .ok (.iload 4, 2) := by decide +kernel
theorem dX5_leastTicks_79 : decode cX5_leastTicks 79 = .ok (.ifCond .le 17, 3) := by decide +kernel
theorem dX5_leastTicks_82 : decode cX5_leastTicks 82 = .ok (.iload_n 1, 1) := by decide +kernel
theorem dX5_leastTicks_83 : decode cX5_leastTicks 83 = .ok (.iload_n 3, 1) := by decide +kernel
theorem dX5_leastTicks_84 : decode cX5_leastTicks 84 = .ok (.iload 4, 2) := by decide +kernel
theorem dX5_leastTicks_86 : decode cX5_leastTicks 86 = .ok (.iadd, 1) := by decide +kernel
theorem dX5_leastTicks_87 : decode cX5_leastTicks 87 = .ok (.iconst 1, 1) := by decide +kernel
theorem dX5_leastTicks_88 : decode cX5_leastTicks 88 = .ok (.isub, 1) := by decide +kernel
theorem dX5_leastTicks_89 : decode cX5_leastTicks 89 = .ok (.iload 4, 2) := by decide +kernel
theorem dX5_leastTicks_91 : decode cX5_leastTicks 91 = .ok (.idiv, 1) := by decide +kernel
theorem dX5_leastTicks_92 : decode cX5_leastTicks 92 = .ok (.invokestatic 203, 3) := by decide +kernel
theorem dX5_leastTicks_95 : decode cX5_leastTicks 95 = .ok (.istore_n 1, 1) := by decide +kernel
theorem dX5_leastTicks_96 : decode cX5_leastTicks 96 = .ok (.iinc 2 1, 3) := by decide +kernel
theorem dX5_leastTicks_99 : decode cX5_leastTicks 99 = .ok (.goto (-63), 3) := by decide +kernel
theorem dX5_leastTicks_102 : decode cX5_leastTicks 102 = .ok (.iload_n 1, 1) := by decide +kernel
theorem dX5_leastTicks_103 : decode cX5_leastTicks 103 = .ok (.ireturn, 1) := by decide +kernel
set_option maxRecDepth 20000 in
theorem ggX5_unsentBy_X0_unsent : GoodIn wsX5_unsentBy wsX0_unsent := goodIn_r _ [6, 7, 8, 9, 23, 24, 25, 26, 27, 28, 29, 30, 31, 32, 33, 34, 35] (by decide +kernel) (by decide +kernel)
set_option maxRecDepth 20000 in
theorem gX5_unsentBy_X0_unsent_n217 : GoodIn wsX5_unsentBy (wsX0_unsent) := ggX5_unsentBy_X0_unsent
theorem dX5_unsentBy_0 : decode cX5_unsentBy 0 = .ok (.iconst 0, 1) := by decide +kernel
theorem dX5_unsentBy_1 : decode cX5_unsentBy 1 = .ok (.istore_n 2, 1) := by decide +kernel
theorem dX5_unsentBy_2 : decode cX5_unsentBy 2 = .ok (.iconst 0, 1) := by decide +kernel
theorem dX5_unsentBy_3 : decode cX5_unsentBy 3 = .ok (.istore_n 3, 1) := by decide +kernel
theorem dX5_unsentBy_4 : decode cX5_unsentBy 4 = .ok (.iload_n 3, 1) := by decide +kernel
theorem dX5_unsentBy_5 : decode cX5_unsentBy 5 = .ok (.aload_n 0, 1) := by decide +kernel
theorem dX5_unsentBy_6 : decode cX5_unsentBy 6 = .ok (.getfield 93, 3) := by decide +kernel
theorem dX5_unsentBy_9 : decode cX5_unsentBy 9 = .ok (.if_icmp .ge 34, 3) := by decide +kernel
theorem dX5_unsentBy_12 : decode cX5_unsentBy 12 = .ok (.aload_n 0, 1) := by decide +kernel
theorem dX5_unsentBy_13 : decode cX5_unsentBy 13 = .ok (.getfield 11, 3) := by decide +kernel
theorem dX5_unsentBy_16 : decode cX5_unsentBy 16 = .ok (.iload_n 3, 1) := by decide +kernel
theorem dX5_unsentBy_17 : decode cX5_unsentBy 17 = .ok (.aaload, 1) := by decide +kernel
theorem dX5_unsentBy_18 : decode cX5_unsentBy 18 = .ok (.getfield 214, 3) := by decide +kernel
theorem dX5_unsentBy_21 : decode cX5_unsentBy 21 = .ok (.iload_n 1, 1) := by decide +kernel
theorem dX5_unsentBy_22 : decode cX5_unsentBy 22 = .ok (.if_icmp .ne 15, 3) := by decide +kernel
theorem dX5_unsentBy_25 : decode cX5_unsentBy 25 = .ok (.iload_n 2, 1) := by decide +kernel
theorem dX5_unsentBy_26 : decode cX5_unsentBy 26 = .ok (.aload_n 0, 1) := by decide +kernel
theorem dX5_unsentBy_27 : decode cX5_unsentBy 27 = .ok (.getfield 11, 3) := by decide +kernel
theorem dX5_unsentBy_30 : decode cX5_unsentBy 30 = .ok (.iload_n 3, 1) := by decide +kernel
theorem dX5_unsentBy_31 : decode cX5_unsentBy 31 = .ok (.aaload, 1) := by decide +kernel
theorem dX5_unsentBy_32 : decode cX5_unsentBy 32 = .ok (.invokevirtual 217, 3) := by decide +kernel
theorem dX5_unsentBy_35 : decode cX5_unsentBy 35 = .ok (.iadd, 1) := by decide +kernel
theorem dX5_unsentBy_36 : decode cX5_unsentBy 36 = .ok (.istore_n 2, 1) := by decide +kernel
theorem dX5_unsentBy_37 : decode cX5_unsentBy 37 = .ok (.iinc 3 1, 3) := by decide +kernel
theorem dX5_unsentBy_40 : decode cX5_unsentBy 40 = .ok (.goto (-36), 3) := by decide +kernel
theorem dX5_unsentBy_43 : decode cX5_unsentBy 43 = .ok (.iload_n 2, 1) := by decide +kernel
theorem dX5_unsentBy_44 : decode cX5_unsentBy 44 = .ok (.ireturn, 1) := by decide +kernel
set_option maxRecDepth 20000 in
theorem ggX5_unsentFor_X0_unsent : GoodIn wsX5_unsentFor wsX0_unsent := goodIn_r _ [6, 7, 8, 9, 23, 24, 25, 26, 27, 28, 29, 30, 31, 32, 33, 34, 35] (by decide +kernel) (by decide +kernel)
set_option maxRecDepth 20000 in
theorem gX5_unsentFor_X0_unsent_n217 : GoodIn wsX5_unsentFor (wsX0_unsent) := ggX5_unsentFor_X0_unsent
theorem dX5_unsentFor_0 : decode cX5_unsentFor 0 = .ok (.iconst 0, 1) := by decide +kernel
theorem dX5_unsentFor_1 : decode cX5_unsentFor 1 = .ok (.istore_n 2, 1) := by decide +kernel
theorem dX5_unsentFor_2 : decode cX5_unsentFor 2 = .ok (.iconst 0, 1) := by decide +kernel
theorem dX5_unsentFor_3 : decode cX5_unsentFor 3 = .ok (.istore_n 3, 1) := by decide +kernel
theorem dX5_unsentFor_4 : decode cX5_unsentFor 4 = .ok (.iload_n 3, 1) := by decide +kernel
theorem dX5_unsentFor_5 : decode cX5_unsentFor 5 = .ok (.aload_n 0, 1) := by decide +kernel
theorem dX5_unsentFor_6 : decode cX5_unsentFor 6 = .ok (.getfield 93, 3) := by decide +kernel
theorem dX5_unsentFor_9 : decode cX5_unsentFor 9 = .ok (.if_icmp .ge 34, 3) := by decide +kernel
theorem dX5_unsentFor_12 : decode cX5_unsentFor 12 = .ok (.aload_n 0, 1) := by decide +kernel
theorem dX5_unsentFor_13 : decode cX5_unsentFor 13 = .ok (.getfield 11, 3) := by decide +kernel
theorem dX5_unsentFor_16 : decode cX5_unsentFor 16 = .ok (.iload_n 3, 1) := by decide +kernel
theorem dX5_unsentFor_17 : decode cX5_unsentFor 17 = .ok (.aaload, 1) := by decide +kernel
theorem dX5_unsentFor_18 : decode cX5_unsentFor 18 = .ok (.getfield 220, 3) := by decide +kernel
theorem dX5_unsentFor_21 : decode cX5_unsentFor 21 = .ok (.iload_n 1, 1) := by decide +kernel
theorem dX5_unsentFor_22 : decode cX5_unsentFor 22 = .ok (.if_icmp .ne 15, 3) := by decide +kernel
theorem dX5_unsentFor_25 : decode cX5_unsentFor 25 = .ok (.iload_n 2, 1) := by decide +kernel
theorem dX5_unsentFor_26 : decode cX5_unsentFor 26 = .ok (.aload_n 0, 1) := by decide +kernel
theorem dX5_unsentFor_27 : decode cX5_unsentFor 27 = .ok (.getfield 11, 3) := by decide +kernel
theorem dX5_unsentFor_30 : decode cX5_unsentFor 30 = .ok (.iload_n 3, 1) := by decide +kernel
theorem dX5_unsentFor_31 : decode cX5_unsentFor 31 = .ok (.aaload, 1) := by decide +kernel
theorem dX5_unsentFor_32 : decode cX5_unsentFor 32 = .ok (.invokevirtual 217, 3) := by decide +kernel
theorem dX5_unsentFor_35 : decode cX5_unsentFor 35 = .ok (.iadd, 1) := by decide +kernel
theorem dX5_unsentFor_36 : decode cX5_unsentFor 36 = .ok (.istore_n 2, 1) := by decide +kernel
theorem dX5_unsentFor_37 : decode cX5_unsentFor 37 = .ok (.iinc 3 1, 3) := by decide +kernel
theorem dX5_unsentFor_40 : decode cX5_unsentFor 40 = .ok (.goto (-36), 3) := by decide +kernel
theorem dX5_unsentFor_43 : decode cX5_unsentFor 43 = .ok (.iload_n 2, 1) := by decide +kernel
theorem dX5_unsentFor_44 : decode cX5_unsentFor 44 = .ok (.ireturn, 1) := by decide +kernel
set_option maxRecDepth 20000 in
theorem ggX5_unsentOutOf_X0_crossesLeaves : GoodIn wsX5_unsentOutOf wsX0_crossesLeaves := goodIn_r _ [6, 7, 8, 9, 4, 10, 11, 12, 13, 14, 15, 16, 36, 37, 38, 39, 40, 41, 42, 43, 44, 45, 46, 47, 48] (by decide +kernel) (by decide +kernel)
set_option maxRecDepth 20000 in
theorem gX5_unsentOutOf_X0_crossesLeaves_n223 : GoodIn wsX5_unsentOutOf (wsX0_crossesLeaves) := ggX5_unsentOutOf_X0_crossesLeaves
set_option maxRecDepth 20000 in
theorem ggX5_unsentOutOf_X0_sourceLeaf : GoodIn wsX5_unsentOutOf wsX0_sourceLeaf := goodIn_r _ [10, 11, 36, 37, 38, 39, 40, 41, 42, 43, 44, 45, 46, 47, 48] (by decide +kernel) (by decide +kernel)
set_option maxRecDepth 20000 in
theorem gX5_unsentOutOf_X0_sourceLeaf_n227 : GoodIn wsX5_unsentOutOf (wsX0_sourceLeaf) := ggX5_unsentOutOf_X0_sourceLeaf
set_option maxRecDepth 20000 in
theorem ggX5_unsentOutOf_X0_unsent : GoodIn wsX5_unsentOutOf wsX0_unsent := goodIn_r _ [19, 20, 21, 22, 36, 37, 38, 39, 40, 41, 42, 43, 44, 45, 46, 47, 48] (by decide +kernel) (by decide +kernel)
set_option maxRecDepth 20000 in
theorem gX5_unsentOutOf_X0_unsent_n217 : GoodIn wsX5_unsentOutOf (wsX0_unsent) := ggX5_unsentOutOf_X0_unsent
theorem dX5_unsentOutOf_0 : decode cX5_unsentOutOf 0 = .ok (.iconst 0, 1) := by decide +kernel
theorem dX5_unsentOutOf_1 : decode cX5_unsentOutOf 1 = .ok (.istore_n 2, 1) := by decide +kernel
theorem dX5_unsentOutOf_2 : decode cX5_unsentOutOf 2 = .ok (.iconst 0, 1) := by decide +kernel
theorem dX5_unsentOutOf_3 : decode cX5_unsentOutOf 3 = .ok (.istore_n 3, 1) := by decide +kernel
theorem dX5_unsentOutOf_4 : decode cX5_unsentOutOf 4 = .ok (.iload_n 3, 1) := by decide +kernel
theorem dX5_unsentOutOf_5 : decode cX5_unsentOutOf 5 = .ok (.aload_n 0, 1) := by decide +kernel
theorem dX5_unsentOutOf_6 : decode cX5_unsentOutOf 6 = .ok (.getfield 93, 3) := by decide +kernel
theorem dX5_unsentOutOf_9 : decode cX5_unsentOutOf 9 = .ok (.if_icmp .ge 46, 3) := by decide +kernel
theorem dX5_unsentOutOf_12 : decode cX5_unsentOutOf 12 = .ok (.aload_n 0, 1) := by decide +kernel
theorem dX5_unsentOutOf_13 : decode cX5_unsentOutOf 13 = .ok (.getfield 11, 3) := by decide +kernel
theorem dX5_unsentOutOf_16 : decode cX5_unsentOutOf 16 = .ok (.iload_n 3, 1) := by decide +kernel
theorem dX5_unsentOutOf_17 : decode cX5_unsentOutOf 17 = .ok (.aaload, 1) := by decide +kernel
theorem dX5_unsentOutOf_18 : decode cX5_unsentOutOf 18 = .ok (.invokevirtual 223, 3) := by decide +kernel
theorem dX5_unsentOutOf_21 : decode cX5_unsentOutOf 21 = .ok (.ifCond .eq 28, 3) := by decide +kernel
theorem dX5_unsentOutOf_24 : decode cX5_unsentOutOf 24 = .ok (.aload_n 0, 1) := by decide +kernel
theorem dX5_unsentOutOf_25 : decode cX5_unsentOutOf 25 = .ok (.getfield 11, 3) := by decide +kernel
theorem dX5_unsentOutOf_28 : decode cX5_unsentOutOf 28 = .ok (.iload_n 3, 1) := by decide +kernel
theorem dX5_unsentOutOf_29 : decode cX5_unsentOutOf 29 = .ok (.aaload, 1) := by decide +kernel
theorem dX5_unsentOutOf_30 : decode cX5_unsentOutOf 30 = .ok (.invokevirtual 227, 3) := by decide +kernel
theorem dX5_unsentOutOf_33 : decode cX5_unsentOutOf 33 = .ok (.iload_n 1, 1) := by decide +kernel
theorem dX5_unsentOutOf_34 : decode cX5_unsentOutOf 34 = .ok (.if_icmp .ne 15, 3) := by decide +kernel
theorem dX5_unsentOutOf_37 : decode cX5_unsentOutOf 37 = .ok (.iload_n 2, 1) := by decide +kernel
theorem dX5_unsentOutOf_38 : decode cX5_unsentOutOf 38 = .ok (.aload_n 0, 1) := by decide +kernel
theorem dX5_unsentOutOf_39 : decode cX5_unsentOutOf 39 = .ok (.getfield 11, 3) := by decide +kernel
theorem dX5_unsentOutOf_42 : decode cX5_unsentOutOf 42 = .ok (.iload_n 3, 1) := by decide +kernel
theorem dX5_unsentOutOf_43 : decode cX5_unsentOutOf 43 = .ok (.aaload, 1) := by decide +kernel
theorem dX5_unsentOutOf_44 : decode cX5_unsentOutOf 44 = .ok (.invokevirtual 217, 3) := by decide +kernel
theorem dX5_unsentOutOf_47 : decode cX5_unsentOutOf 47 = .ok (.iadd, 1) := by decide +kernel
theorem dX5_unsentOutOf_48 : decode cX5_unsentOutOf 48 = .ok (.istore_n 2, 1) := by decide +kernel
theorem dX5_unsentOutOf_49 : decode cX5_unsentOutOf 49 = .ok (.iinc 3 1, 3) := by decide +kernel
theorem dX5_unsentOutOf_52 : decode cX5_unsentOutOf 52 = .ok (.goto (-48), 3) := by decide +kernel
theorem dX5_unsentOutOf_55 : decode cX5_unsentOutOf 55 = .ok (.iload_n 2, 1) := by decide +kernel
theorem dX5_unsentOutOf_56 : decode cX5_unsentOutOf 56 = .ok (.ireturn, 1) := by decide +kernel
set_option maxRecDepth 20000 in
theorem ggX5_unsentInto_X0_crossesLeaves : GoodIn wsX5_unsentInto wsX0_crossesLeaves := goodIn_r _ [6, 7, 8, 9, 4, 10, 11, 12, 13, 14, 15, 16, 36, 37, 38, 39, 40, 41, 42, 43, 44, 45, 46, 47, 48] (by decide +kernel) (by decide +kernel)
set_option maxRecDepth 20000 in
theorem gX5_unsentInto_X0_crossesLeaves_n223 : GoodIn wsX5_unsentInto (wsX0_crossesLeaves) := ggX5_unsentInto_X0_crossesLeaves
set_option maxRecDepth 20000 in
theorem ggX5_unsentInto_X0_targetLeaf : GoodIn wsX5_unsentInto wsX0_targetLeaf := goodIn_r _ [15, 16, 36, 37, 38, 39, 40, 41, 42, 43, 44, 45, 46, 47, 48] (by decide +kernel) (by decide +kernel)
set_option maxRecDepth 20000 in
theorem gX5_unsentInto_X0_targetLeaf_n230 : GoodIn wsX5_unsentInto (wsX0_targetLeaf) := ggX5_unsentInto_X0_targetLeaf
set_option maxRecDepth 20000 in
theorem ggX5_unsentInto_X0_unsent : GoodIn wsX5_unsentInto wsX0_unsent := goodIn_r _ [19, 20, 21, 22, 36, 37, 38, 39, 40, 41, 42, 43, 44, 45, 46, 47, 48] (by decide +kernel) (by decide +kernel)
set_option maxRecDepth 20000 in
theorem gX5_unsentInto_X0_unsent_n217 : GoodIn wsX5_unsentInto (wsX0_unsent) := ggX5_unsentInto_X0_unsent
theorem dX5_unsentInto_0 : decode cX5_unsentInto 0 = .ok (.iconst 0, 1) := by decide +kernel
theorem dX5_unsentInto_1 : decode cX5_unsentInto 1 = .ok (.istore_n 2, 1) := by decide +kernel
theorem dX5_unsentInto_2 : decode cX5_unsentInto 2 = .ok (.iconst 0, 1) := by decide +kernel
theorem dX5_unsentInto_3 : decode cX5_unsentInto 3 = .ok (.istore_n 3, 1) := by decide +kernel
theorem dX5_unsentInto_4 : decode cX5_unsentInto 4 = .ok (.iload_n 3, 1) := by decide +kernel
theorem dX5_unsentInto_5 : decode cX5_unsentInto 5 = .ok (.aload_n 0, 1) := by decide +kernel
theorem dX5_unsentInto_6 : decode cX5_unsentInto 6 = .ok (.getfield 93, 3) := by decide +kernel
theorem dX5_unsentInto_9 : decode cX5_unsentInto 9 = .ok (.if_icmp .ge 46, 3) := by decide +kernel
theorem dX5_unsentInto_12 : decode cX5_unsentInto 12 = .ok (.aload_n 0, 1) := by decide +kernel
theorem dX5_unsentInto_13 : decode cX5_unsentInto 13 = .ok (.getfield 11, 3) := by decide +kernel
theorem dX5_unsentInto_16 : decode cX5_unsentInto 16 = .ok (.iload_n 3, 1) := by decide +kernel
theorem dX5_unsentInto_17 : decode cX5_unsentInto 17 = .ok (.aaload, 1) := by decide +kernel
theorem dX5_unsentInto_18 : decode cX5_unsentInto 18 = .ok (.invokevirtual 223, 3) := by decide +kernel
theorem dX5_unsentInto_21 : decode cX5_unsentInto 21 = .ok (.ifCond .eq 28, 3) := by decide +kernel
theorem dX5_unsentInto_24 : decode cX5_unsentInto 24 = .ok (.aload_n 0, 1) := by decide +kernel
theorem dX5_unsentInto_25 : decode cX5_unsentInto 25 = .ok (.getfield 11, 3) := by decide +kernel
theorem dX5_unsentInto_28 : decode cX5_unsentInto 28 = .ok (.iload_n 3, 1) := by decide +kernel
theorem dX5_unsentInto_29 : decode cX5_unsentInto 29 = .ok (.aaload, 1) := by decide +kernel
theorem dX5_unsentInto_30 : decode cX5_unsentInto 30 = .ok (.invokevirtual 230, 3) := by decide +kernel
theorem dX5_unsentInto_33 : decode cX5_unsentInto 33 = .ok (.iload_n 1, 1) := by decide +kernel
theorem dX5_unsentInto_34 : decode cX5_unsentInto 34 = .ok (.if_icmp .ne 15, 3) := by decide +kernel
theorem dX5_unsentInto_37 : decode cX5_unsentInto 37 = .ok (.iload_n 2, 1) := by decide +kernel
theorem dX5_unsentInto_38 : decode cX5_unsentInto 38 = .ok (.aload_n 0, 1) := by decide +kernel
theorem dX5_unsentInto_39 : decode cX5_unsentInto 39 = .ok (.getfield 11, 3) := by decide +kernel
theorem dX5_unsentInto_42 : decode cX5_unsentInto 42 = .ok (.iload_n 3, 1) := by decide +kernel
theorem dX5_unsentInto_43 : decode cX5_unsentInto 43 = .ok (.aaload, 1) := by decide +kernel
theorem dX5_unsentInto_44 : decode cX5_unsentInto 44 = .ok (.invokevirtual 217, 3) := by decide +kernel
theorem dX5_unsentInto_47 : decode cX5_unsentInto 47 = .ok (.iadd, 1) := by decide +kernel
theorem dX5_unsentInto_48 : decode cX5_unsentInto 48 = .ok (.istore_n 2, 1) := by decide +kernel
theorem dX5_unsentInto_49 : decode cX5_unsentInto 49 = .ok (.iinc 3 1, 3) := by decide +kernel
theorem dX5_unsentInto_52 : decode cX5_unsentInto 52 = .ok (.goto (-48), 3) := by decide +kernel
theorem dX5_unsentInto_55 : decode cX5_unsentInto 55 = .ok (.iload_n 2, 1) := by decide +kernel
theorem dX5_unsentInto_56 : decode cX5_unsentInto 56 = .ok (.ireturn, 1) := by decide +kernel
set_option maxRecDepth 20000 in
theorem ggX5_runTick_X5_takeCreditsBack : GoodIn wsX5_runTick wsX5_takeCreditsBack := goodIn_r _ [7, 1, 8, 9, 10, 11, 12, 13, 14, 165, 166, 167, 168, 169, 170, 171, 172, 173, 174, 175, 176, 177, 178, 179, 180, 181, 182, 183, 184] (by decide +kernel) (by decide +kernel)
set_option maxRecDepth 20000 in
theorem gX5_runTick_X5_takeCreditsBack : GoodIn wsX5_runTick (wsV RX5 233 RX5 yX5_takeCreditsBack wsX5_takeCreditsBack) := goodIn_app (goodIn_of _ (by decide +kernel)) ggX5_runTick_X5_takeCreditsBack
set_option maxRecDepth 20000 in
theorem ggX5_runTick_X5_deliverAll : GoodIn wsX5_runTick wsX5_deliverAll := goodIn_r _ [18, 19, 20, 1, 21, 10, 22, 23, 24, 25, 26, 27, 28, 29, 30, 31, 32, 33, 34, 35, 36, 37, 38, 14, 165, 166, 167, 168, 169, 170, 171, 172, 173, 174, 175, 176, 177, 185, 186, 187, 188, 178, 179, 180, 181, 182, 183, 184, 189, 190, 191, 192, 193, 194, 195, 196, 197, 198, 199, 200, 201, 202, 203, 204, 205] (by decide +kernel) (by decide +kernel)
set_option maxRecDepth 20000 in
theorem gX5_runTick_X5_deliverAll : GoodIn wsX5_runTick (wsV RX5 236 RX5 yX5_deliverAll wsX5_deliverAll) := goodIn_app (goodIn_of _ (by decide +kernel)) ggX5_runTick_X5_deliverAll
set_option maxRecDepth 20000 in
theorem ggX5_runTick_X5_loseAtSpines : GoodIn wsX5_runTick wsX5_loseAtSpines := goodIn_r _ [42, 20, 19, 43, 44, 45, 6, 46, 47, 21, 10, 22, 23, 24, 25, 48, 27, 49, 50, 51, 52, 53, 54, 55, 56, 35, 36, 37, 38, 14, 178, 179, 180, 181, 182, 183, 184, 165, 166, 167, 168, 169, 170, 171, 172, 173, 174, 175, 176, 177, 189, 190, 191, 192, 193, 194, 195, 196, 197, 198, 199, 200, 201, 202, 203, 204, 205, 185, 186, 187, 188] (by decide +kernel) (by decide +kernel)
set_option maxRecDepth 20000 in
theorem gX5_runTick_X5_loseAtSpines : GoodIn wsX5_runTick (wsV RX5 239 RX5 yX5_loseAtSpines wsX5_loseAtSpines) := goodIn_app (goodIn_of _ (by decide +kernel)) ggX5_runTick_X5_loseAtSpines
set_option maxRecDepth 20000 in
theorem ggX5_runTick_X5_aimAtLeaves : GoodIn wsX5_runTick wsX5_aimAtLeaves := goodIn_r _ [60, 61, 62, 63, 64, 6, 65, 20, 21, 10, 22, 23, 24, 25, 48, 27, 49, 50, 51, 66, 67, 68, 69, 70, 71, 72, 73, 56, 74, 75, 76, 77, 78, 79, 80, 81, 82, 83, 84, 85, 86, 87, 88, 165, 166, 167, 168, 169, 170, 171, 172, 173, 174, 175, 176, 177, 206, 207, 208, 178, 179, 180, 181, 182, 183, 184, 189, 190, 191, 192, 193, 194, 195, 196, 197, 198, 199, 200, 201, 202, 203, 204, 205] (by decide +kernel) (by decide +kernel)
set_option maxRecDepth 20000 in
theorem gX5_runTick_X5_aimAtLeaves : GoodIn wsX5_runTick (wsV RX5 242 RX5 yX5_aimAtLeaves wsX5_aimAtLeaves) := goodIn_app (goodIn_of _ (by decide +kernel)) ggX5_runTick_X5_aimAtLeaves
set_option maxRecDepth 20000 in
theorem ggX5_runTick_X5_aimAtSpines : GoodIn wsX5_runTick wsX5_aimAtSpines := goodIn_r _ [92, 93, 94, 95, 96, 6, 97, 20, 21, 10, 22, 23, 24, 25, 48, 27, 49, 50, 51, 52, 53, 54, 55, 56, 165, 166, 167, 168, 169, 170, 171, 172, 173, 174, 175, 176, 177, 206, 207, 208, 178, 179, 180, 181, 182, 183, 184, 189, 190, 191, 192, 193, 194, 195, 196, 197, 198, 199, 200, 201, 202, 203, 204, 205] (by decide +kernel) (by decide +kernel)
set_option maxRecDepth 20000 in
theorem gX5_runTick_X5_aimAtSpines : GoodIn wsX5_runTick (wsV RX5 245 RX5 yX5_aimAtSpines wsX5_aimAtSpines) := goodIn_app (goodIn_of _ (by decide +kernel)) ggX5_runTick_X5_aimAtSpines
set_option maxRecDepth 20000 in
theorem ggX5_runTick_X5_pickAll : GoodIn wsX5_runTick wsX5_pickAll := goodIn_r _ [101, 61, 93, 102, 103, 104, 105, 106, 107, 108, 10, 109, 110, 111, 13, 112, 165, 166, 167, 168, 169, 170, 171, 172, 173, 174, 175, 176, 177, 206, 207, 208, 178, 179, 180, 181, 182, 183, 184] (by decide +kernel) (by decide +kernel)
set_option maxRecDepth 20000 in
theorem gX5_runTick_X5_pickAll : GoodIn wsX5_runTick (wsV RX5 248 RX5 yX5_pickAll wsX5_pickAll) := goodIn_app (goodIn_of _ (by decide +kernel)) ggX5_runTick_X5_pickAll
set_option maxRecDepth 20000 in
theorem ggX5_runTick_X5_moveAll : GoodIn wsX5_runTick wsX5_moveAll := goodIn_r _ [116, 61, 93, 117, 103, 118, 119, 106, 120, 21, 10, 22, 23, 24, 25, 121, 122, 123, 13, 38, 124, 125, 126, 127, 128, 129, 130, 131, 35, 36, 37, 14, 165, 166, 167, 168, 169, 170, 171, 172, 173, 174, 175, 176, 177, 206, 207, 208, 178, 179, 180, 181, 182, 183, 184, 189, 190, 191, 192] (by decide +kernel) (by decide +kernel)
set_option maxRecDepth 20000 in
theorem gX5_runTick_X5_moveAll : GoodIn wsX5_runTick (wsV RX5 251 RX5 yX5_moveAll wsX5_moveAll) := goodIn_app (goodIn_of _ (by decide +kernel)) ggX5_runTick_X5_moveAll
set_option maxRecDepth 20000 in
theorem ggX5_runTick_X5_sendAll : GoodIn wsX5_runTick wsX5_sendAll := goodIn_r _ [135, 19, 136, 137, 138, 6, 139, 140, 20, 141, 142, 143, 144, 1, 145, 146, 27, 147, 148, 33, 149, 150, 151, 152, 153, 154, 78, 79, 80, 81, 155, 48, 49, 50, 51, 70, 71, 72, 73, 56, 156, 157, 158, 159, 160, 161, 162, 163, 164, 66, 67, 68, 69, 74, 75, 76, 77, 82, 83, 84, 85, 86, 87, 88, 121, 10, 122, 123, 13, 24, 25, 38, 124, 125, 126, 127, 128, 129, 130, 131, 165, 166, 167, 168, 169, 170, 171, 172, 173, 174, 175, 176, 177, 185, 186, 187, 188, 178, 179, 180, 181, 182, 183, 184, 193, 194, 195, 196, 197, 198, 199, 200, 201, 202, 203, 204, 205, 189, 190, 191, 192] (by decide +kernel) (by decide +kernel)
set_option maxRecDepth 20000 in
theorem gX5_runTick_X5_sendAll : GoodIn wsX5_runTick (wsV RX5 254 RX5 yX5_sendAll wsX5_sendAll) := goodIn_app (goodIn_of _ (by decide +kernel)) ggX5_runTick_X5_sendAll
theorem dX5_runTick_0 : decode cX5_runTick 0 = .ok (.aload_n 0, 1) := by decide +kernel
theorem dX5_runTick_1 : decode cX5_runTick 1 = .ok (.getfield 96, 3) := by decide +kernel
theorem dX5_runTick_4 : decode cX5_runTick 4 = .ok (.iconst 1, 1) := by decide +kernel
theorem dX5_runTick_5 : decode cX5_runTick 5 = .ok (.iadd, 1) := by decide +kernel
theorem dX5_runTick_6 : decode cX5_runTick 6 = .ok (.aload_n 0, 1) := by decide +kernel
theorem dX5_runTick_7 : decode cX5_runTick 7 = .ok (.getfield 83, 3) := by decide +kernel
theorem dX5_runTick_10 : decode cX5_runTick 10 = .ok (.iadd, 1) := by decide +kernel
theorem dX5_runTick_11 : decode cX5_runTick 11 = .ok (.bipush 7, 2) := by decide +kernel
theorem dX5_runTick_13 : decode cX5_runTick 13 = .ok (.irem, 1) := by decide +kernel
theorem dX5_runTick_14 : decode cX5_runTick 14 = .ok (.istore_n 1, 1) := by decide +kernel
theorem dX5_runTick_15 : decode cX5_runTick 15 = .ok (.aload_n 0, 1) := by decide +kernel
theorem dX5_runTick_16 : decode cX5_runTick 16 = .ok (.invokevirtual 233, 3) := by decide +kernel
theorem dX5_runTick_19 : decode cX5_runTick 19 = .ok (.aload_n 0, 1) := by decide +kernel
theorem dX5_runTick_20 : decode cX5_runTick 20 = .ok (.iload_n 1, 1) := by decide +kernel
theorem dX5_runTick_21 : decode cX5_runTick 21 = .ok (.invokevirtual 236, 3) := by decide +kernel
theorem dX5_runTick_24 : decode cX5_runTick 24 = .ok (.istore_n 2, 1) := by decide +kernel
theorem dX5_runTick_25 : decode cX5_runTick 25 = .ok (.aload_n 0, 1) := by decide +kernel
theorem dX5_runTick_26 : decode cX5_runTick 26 = .ok (.iload_n 1, 1) := by decide +kernel
theorem dX5_runTick_27 : decode cX5_runTick 27 = .ok (.invokevirtual 239, 3) := by decide +kernel
theorem dX5_runTick_30 : decode cX5_runTick 30 = .ok (.aload_n 0, 1) := by decide +kernel
theorem dX5_runTick_31 : decode cX5_runTick 31 = .ok (.invokevirtual 242, 3) := by decide +kernel
theorem dX5_runTick_34 : decode cX5_runTick 34 = .ok (.aload_n 0, 1) := by decide +kernel
theorem dX5_runTick_35 : decode cX5_runTick 35 = .ok (.invokevirtual 245, 3) := by decide +kernel
theorem dX5_runTick_38 : decode cX5_runTick 38 = .ok (.aload_n 0, 1) := by decide +kernel
theorem dX5_runTick_39 : decode cX5_runTick 39 = .ok (.invokevirtual 248, 3) := by decide +kernel
theorem dX5_runTick_42 : decode cX5_runTick 42 = .ok (.aload_n 0, 1) := by decide +kernel
theorem dX5_runTick_43 : decode cX5_runTick 43 = .ok (.iload_n 1, 1) := by decide +kernel
theorem dX5_runTick_44 : decode cX5_runTick 44 = .ok (.invokevirtual 251, 3) := by decide +kernel
theorem dX5_runTick_47 : decode cX5_runTick 47 = .ok (.aload_n 0, 1) := by decide +kernel
theorem dX5_runTick_48 : decode cX5_runTick 48 = .ok (.invokevirtual 254, 3) := by decide +kernel
theorem dX5_runTick_51 : decode cX5_runTick 51 = .ok (.aload_n 0, 1) := by decide +kernel
theorem dX5_runTick_52 : decode cX5_runTick 52 = .ok (.dup, 1) := by decide +kernel
theorem dX5_runTick_53 : decode cX5_runTick 53 = .ok (.getfield 96, 3) := by decide +kernel
theorem dX5_runTick_56 : decode cX5_runTick 56 = .ok (.iconst 1, 1) := by decide +kernel
theorem dX5_runTick_57 : decode cX5_runTick 57 = .ok (.iadd, 1) := by decide +kernel
theorem dX5_runTick_58 : decode cX5_runTick 58 = .ok (.putfield 96, 3) := by decide +kernel
theorem dX5_runTick_61 : decode cX5_runTick 61 = .ok (.iload_n 2, 1) := by decide +kernel
theorem dX5_runTick_62 : decode cX5_runTick 62 = .ok (.ireturn, 1) := by decide +kernel
set_option maxRecDepth 20000 in
theorem ggX5_takeCreditsBack_X2_takeBack : GoodIn wsX5_takeCreditsBack wsX2_takeBack := goodIn_r _ [6, 7, 8, 22, 23, 24, 25, 26, 27, 28] (by decide +kernel) (by decide +kernel)
set_option maxRecDepth 20000 in
theorem gX5_takeCreditsBack_X2_takeBack_n257 : GoodIn wsX5_takeCreditsBack (wsX2_takeBack) := ggX5_takeCreditsBack_X2_takeBack
theorem dX5_takeCreditsBack_0 : decode cX5_takeCreditsBack 0 = .ok (.aload_n 0, 1) := by decide +kernel
theorem dX5_takeCreditsBack_1 : decode cX5_takeCreditsBack 1 = .ok (.getfield 96, 3) := by decide +kernel
theorem dX5_takeCreditsBack_4 : decode cX5_takeCreditsBack 4 = .ok (.bipush 7, 2) := by decide +kernel
theorem dX5_takeCreditsBack_6 : decode cX5_takeCreditsBack 6 = .ok (.irem, 1) := by decide +kernel
theorem dX5_takeCreditsBack_7 : decode cX5_takeCreditsBack 7 = .ok (.istore_n 1, 1) := by decide +kernel
theorem dX5_takeCreditsBack_8 : decode cX5_takeCreditsBack 8 = .ok (.iconst 0, 1) := by decide +kernel
theorem dX5_takeCreditsBack_9 : decode cX5_takeCreditsBack 9 = .ok (.istore_n 2, 1) := by decide +kernel
theorem dX5_takeCreditsBack_10 : decode cX5_takeCreditsBack 10 = .ok (.iload_n 2, 1) := by decide +kernel
theorem dX5_takeCreditsBack_11 : decode cX5_takeCreditsBack 11 = .ok (.aload_n 0, 1) := by decide +kernel
theorem dX5_takeCreditsBack_12 : decode cX5_takeCreditsBack 12 = .ok (.getfield 23, 3) := by decide +kernel
theorem dX5_takeCreditsBack_15 : decode cX5_takeCreditsBack 15 = .ok (.arraylength, 1) := by decide +kernel
theorem dX5_takeCreditsBack_16 : decode cX5_takeCreditsBack 16 = .ok (.if_icmp .ge 19, 3) := by decide +kernel
theorem dX5_takeCreditsBack_19 : decode cX5_takeCreditsBack 19 = .ok (.aload_n 0, 1) := by decide +kernel
theorem dX5_takeCreditsBack_20 : decode cX5_takeCreditsBack 20 = .ok (.getfield 23, 3) := by decide +kernel
theorem dX5_takeCreditsBack_23 : decode cX5_takeCreditsBack 23 = .ok (.iload_n 2, 1) := by decide +kernel
theorem dX5_takeCreditsBack_24 : decode cX5_takeCreditsBack 24 = .ok (.aaload, 1) := by decide +kernel
theorem dX5_takeCreditsBack_25 : decode cX5_takeCreditsBack 25 = .ok (.iload_n 1, 1) := by decide +kernel
theorem dX5_takeCreditsBack_26 : decode cX5_takeCreditsBack 26 = .ok (.invokevirtual 257, 3) := by decide +kernel
theorem dX5_takeCreditsBack_29 : decode cX5_takeCreditsBack 29 = .ok (.iinc 2 1, 3) := by decide +kernel
theorem dX5_takeCreditsBack_32 : decode cX5_takeCreditsBack 32 = .ok (.goto (-22), 3) := by decide +kernel
theorem dX5_takeCreditsBack_35 : decode cX5_takeCreditsBack 35 = .ok (.return_, 1) := by decide +kernel
set_option maxRecDepth 20000 in
theorem ggX5_deliverAll_X2_firstPacket : GoodIn wsX5_deliverAll wsX2_firstPacket := goodIn_r _ [7, 8, 9, 41, 42, 43, 44, 45, 46, 47] (by decide +kernel) (by decide +kernel)
set_option maxRecDepth 20000 in
theorem gX5_deliverAll_X2_firstPacket_n260 : GoodIn wsX5_deliverAll (wsX2_firstPacket) := ggX5_deliverAll_X2_firstPacket
set_option maxRecDepth 20000 in
theorem ggX5_deliverAll_X0_countDelivered : GoodIn wsX5_deliverAll wsX0_countDelivered := goodIn_r _ [13, 14, 15, 16, 17, 18, 52, 53, 54, 55, 56, 57, 58, 59, 60, 61, 62, 63, 64] (by decide +kernel) (by decide +kernel)
set_option maxRecDepth 20000 in
theorem gX5_deliverAll_X0_countDelivered_n272 : GoodIn wsX5_deliverAll (wsX0_countDelivered) := ggX5_deliverAll_X0_countDelivered
set_option maxRecDepth 20000 in
theorem ggX5_deliverAll_X2_drop : GoodIn wsX5_deliverAll wsX2_drop := goodIn_r _ [21, 9, 22, 23, 41, 42, 43, 44, 45, 46, 47] (by decide +kernel) (by decide +kernel)
set_option maxRecDepth 20000 in
theorem gX5_deliverAll_X2_drop_n275 : GoodIn wsX5_deliverAll (wsX2_drop) := ggX5_deliverAll_X2_drop
theorem dX5_deliverAll_0 : decode cX5_deliverAll 0 = .ok (.iconst 0, 1) := by decide +kernel
theorem dX5_deliverAll_1 : decode cX5_deliverAll 1 = .ok (.istore_n 2, 1) := by decide +kernel
theorem dX5_deliverAll_2 : decode cX5_deliverAll 2 = .ok (.iconst 0, 1) := by decide +kernel
theorem dX5_deliverAll_3 : decode cX5_deliverAll 3 = .ok (.istore_n 3, 1) := by decide +kernel
theorem dX5_deliverAll_4 : decode cX5_deliverAll 4 = .ok (.iload_n 3, 1) := by decide +kernel
theorem dX5_deliverAll_5 : decode cX5_deliverAll 5 = .ok (.bipush 16, 2) := by decide +kernel
theorem dX5_deliverAll_7 : decode cX5_deliverAll 7 = .ok (.if_icmp .ge 81, 3) := by decide +kernel
theorem dX5_deliverAll_10 : decode cX5_deliverAll 10 = .ok (.aload_n 0, 1) := by decide +kernel
theorem dX5_deliverAll_11 : decode cX5_deliverAll 11 = .ok (.getfield 17, 3) := by decide +kernel
theorem dX5_deliverAll_14 : decode cX5_deliverAll 14 = .ok (.iload_n 3, 1) := by decide +kernel
theorem dX5_deliverAll_15 : decode cX5_deliverAll 15 = .ok (.aaload, 1) := by decide +kernel
theorem dX5_deliverAll_16 : decode cX5_deliverAll 16 = .ok (.getfield 52, 3) := by decide +kernel
theorem dX5_deliverAll_19 : decode cX5_deliverAll 19 = .ok (.astore 4, 2) := by decide +kernel
theorem dX5_deliverAll_21 : decode cX5_deliverAll 21 = .ok (.aload 4, 2) := by decide +kernel
theorem dX5_deliverAll_23 : decode cX5_deliverAll 23 = .ok (.getfield 138, 3) := by decide +kernel
theorem dX5_deliverAll_26 : decode cX5_deliverAll 26 = .ok (.ifCond .le 56, 3) := by decide +kernel
theorem dX5_deliverAll_29 : decode cX5_deliverAll 29 = .ok (.aload 4, 2) := by decide +kernel
theorem dX5_deliverAll_31 : decode cX5_deliverAll 31 = .ok (.invokevirtual 260, 3) := by decide +kernel
theorem dX5_deliverAll_34 : decode cX5_deliverAll 34 = .ok (.astore 5, 2) := by decide +kernel
theorem dX5_deliverAll_36 : decode cX5_deliverAll 36 = .ok (.aload_n 0, 1) := by decide +kernel
theorem dX5_deliverAll_37 : decode cX5_deliverAll 37 = .ok (.getfield 11, 3) := by decide +kernel
theorem dX5_deliverAll_40 : decode cX5_deliverAll 40 = .ok (.aload 5, 2) := by decide +kernel
theorem dX5_deliverAll_42 : decode cX5_deliverAll 42 = .ok (.getfield 264, 3) := by decide +kernel
theorem dX5_deliverAll_45 : decode cX5_deliverAll 45 = .ok (.aaload, 1) := by decide +kernel
theorem dX5_deliverAll_46 : decode cX5_deliverAll 46 = .ok (.aload 5, 2) := by decide +kernel
theorem dX5_deliverAll_48 : decode cX5_deliverAll 48 = .ok (.getfield 269, 3) := by decide +kernel
theorem dX5_deliverAll_51 : decode cX5_deliverAll 51 = .ok (.aload_n 0, 1) := by decide +kernel
theorem dX5_deliverAll_52 : decode cX5_deliverAll 52 = .ok (.getfield 96, 3) := by decide +kernel
theorem dX5_deliverAll_55 : decode cX5_deliverAll 55 = .ok (.invokevirtual 272, 3) := by decide +kernel
theorem dX5_deliverAll_58 : decode cX5_deliverAll 58 = .ok (.aload_n 0, 1) := by decide +kernel
theorem dX5_deliverAll_59 : decode cX5_deliverAll 59 = .ok (.getfield 17, 3) := by decide +kernel
theorem dX5_deliverAll_62 : decode cX5_deliverAll 62 = .ok (.iload_n 3, 1) := by decide +kernel
theorem dX5_deliverAll_63 : decode cX5_deliverAll 63 = .ok (.aaload, 1) := by decide +kernel
theorem dX5_deliverAll_64 : decode cX5_deliverAll 64 = .ok (.dup, 1) := by decide +kernel
theorem dX5_deliverAll_65 : decode cX5_deliverAll 65 = .ok (.getfield 188, 3) := by decide +kernel
theorem dX5_deliverAll_68 : decode cX5_deliverAll 68 = .ok (.iconst 1, 1) := by decide +kernel
theorem dX5_deliverAll_69 : decode cX5_deliverAll 69 = .ok (.isub, 1) := by decide +kernel
theorem dX5_deliverAll_70 : decode cX5_deliverAll 70 = .ok (.putfield 188, 3) := by decide +kernel
theorem dX5_deliverAll_73 : decode cX5_deliverAll 73 = .ok (.aload 4, 2) := by decide +kernel
theorem dX5_deliverAll_75 : decode cX5_deliverAll 75 = .ok (.iload_n 1, 1) := by decide +kernel
theorem dX5_deliverAll_76 : decode cX5_deliverAll 76 = .ok (.invokevirtual 275, 3) := by decide +kernel
theorem dX5_deliverAll_79 : decode cX5_deliverAll 79 = .ok (.iinc 2 1, 3) := by decide +kernel
theorem dX5_deliverAll_82 : decode cX5_deliverAll 82 = .ok (.iinc 3 1, 3) := by decide +kernel
theorem dX5_deliverAll_85 : decode cX5_deliverAll 85 = .ok (.goto (-81), 3) := by decide +kernel
theorem dX5_deliverAll_88 : decode cX5_deliverAll 88 = .ok (.iload_n 2, 1) := by decide +kernel
theorem dX5_deliverAll_89 : decode cX5_deliverAll 89 = .ok (.ireturn, 1) := by decide +kernel
set_option maxRecDepth 20000 in
theorem ggX5_loseAtSpines_X5_northOf : GoodIn wsX5_loseAtSpines wsX5_northOf := goodIn_r _ [7, 8, 37, 38, 39, 40, 41, 42, 43, 44, 45, 46, 47, 48, 49] (by decide +kernel) (by decide +kernel)
set_option maxRecDepth 20000 in
theorem gX5_loseAtSpines_X5_northOf : GoodIn wsX5_loseAtSpines (wsV RX5 80 RX5 yX5_northOf wsX5_northOf) := goodIn_app (goodIn_of _ (by decide +kernel)) ggX5_loseAtSpines_X5_northOf
set_option maxRecDepth 20000 in
theorem ggX5_loseAtSpines_X2_firstPacket : GoodIn wsX5_loseAtSpines wsX2_firstPacket := goodIn_r _ [12, 13, 14, 30, 31, 32, 33, 34, 35, 36] (by decide +kernel) (by decide +kernel)
set_option maxRecDepth 20000 in
theorem gX5_loseAtSpines_X2_firstPacket_n260 : GoodIn wsX5_loseAtSpines (wsX2_firstPacket) := ggX5_loseAtSpines_X2_firstPacket
set_option maxRecDepth 20000 in
theorem ggX5_loseAtSpines_X0_targetLeaf : GoodIn wsX5_loseAtSpines wsX0_targetLeaf := goodIn_r _ [18, 19, 54, 55, 56, 57, 58, 59, 60, 61, 62, 63, 64, 65, 66] (by decide +kernel) (by decide +kernel)
set_option maxRecDepth 20000 in
theorem gX5_loseAtSpines_X0_targetLeaf_n230 : GoodIn wsX5_loseAtSpines (wsX0_targetLeaf) := ggX5_loseAtSpines_X0_targetLeaf
set_option maxRecDepth 20000 in
theorem ggX5_loseAtSpines_X5_isCut : GoodIn wsX5_loseAtSpines wsX5_isCut := goodIn_r _ [23, 24, 37, 38, 39, 40, 41, 42, 43, 44, 45, 46, 47, 48, 49] (by decide +kernel) (by decide +kernel)
set_option maxRecDepth 20000 in
theorem gX5_loseAtSpines_X5_isCut : GoodIn wsX5_loseAtSpines (wsV RX5 132 RX5 yX5_isCut wsX5_isCut) := goodIn_app (goodIn_of _ (by decide +kernel)) ggX5_loseAtSpines_X5_isCut
set_option maxRecDepth 20000 in
theorem ggX5_loseAtSpines_X2_drop : GoodIn wsX5_loseAtSpines wsX2_drop := goodIn_r _ [27, 14, 28, 29, 30, 31, 32, 33, 34, 35, 36] (by decide +kernel) (by decide +kernel)
set_option maxRecDepth 20000 in
theorem gX5_loseAtSpines_X2_drop_n275 : GoodIn wsX5_loseAtSpines (wsX2_drop) := ggX5_loseAtSpines_X2_drop
theorem dX5_loseAtSpines_0 : decode cX5_loseAtSpines 0 = .ok (.iconst 0, 1) := by decide +kernel
theorem dX5_loseAtSpines_1 : decode cX5_loseAtSpines 1 = .ok (.istore_n 2, 1) := by decide +kernel
theorem dX5_loseAtSpines_2 : decode cX5_loseAtSpines 2 = .ok (.iload_n 2, 1) := by decide +kernel
theorem dX5_loseAtSpines_3 : decode cX5_loseAtSpines 3 = .ok (.iconst 4, 1) := by decide +kernel
theorem dX5_loseAtSpines_4 : decode cX5_loseAtSpines 4 = .ok (.if_icmp .ge 102, 3) := by decide +kernel
theorem dX5_loseAtSpines_7 : decode cX5_loseAtSpines 7 = .ok (.iconst 0, 1) := by decide +kernel
theorem dX5_loseAtSpines_8 : decode cX5_loseAtSpines 8 = .ok (.istore_n 3, 1) := by decide +kernel
theorem dX5_loseAtSpines_9 : decode cX5_loseAtSpines 9 = .ok (.iload_n 3, 1) := by decide +kernel
theorem dX5_loseAtSpines_10 : decode cX5_loseAtSpines 10 = .ok (.iconst 4, 1) := by decide +kernel
theorem dX5_loseAtSpines_11 : decode cX5_loseAtSpines 11 = .ok (.if_icmp .ge 89, 3) := by decide +kernel
theorem dX5_loseAtSpines_14 : decode cX5_loseAtSpines 14 = .ok (.aload_n 0, 1) := by decide +kernel
theorem dX5_loseAtSpines_15 : decode cX5_loseAtSpines 15 = .ok (.iload_n 3, 1) := by decide +kernel
theorem dX5_loseAtSpines_16 : decode cX5_loseAtSpines 16 = .ok (.iload_n 2, 1) := by decide +kernel
theorem dX5_loseAtSpines_17 : decode cX5_loseAtSpines 17 = .ok (.invokevirtual 80, 3) := by decide +kernel
theorem dX5_loseAtSpines_20 : decode cX5_loseAtSpines 20 = .ok (.astore 4, 2) := by decide +kernel
theorem dX5_loseAtSpines_22 : decode cX5_loseAtSpines 22 = .ok (.aload 4, 2) := by decide +kernel
theorem dX5_loseAtSpines_24 : decode cX5_loseAtSpines 24 = .ok (.getfield 138, 3) := by decide +kernel
theorem dX5_loseAtSpines_27 : decode cX5_loseAtSpines 27 = .ok (.ifCond .le 67, 3) := by decide +kernel
theorem dX5_loseAtSpines_30 : decode cX5_loseAtSpines 30 = .ok (.aload_n 0, 1) := by decide +kernel
theorem dX5_loseAtSpines_31 : decode cX5_loseAtSpines 31 = .ok (.getfield 11, 3) := by decide +kernel
theorem dX5_loseAtSpines_34 : decode cX5_loseAtSpines 34 = .ok (.aload 4, 2) := by decide +kernel
theorem dX5_loseAtSpines_36 : decode cX5_loseAtSpines 36 = .ok (.invokevirtual 260, 3) := by decide +kernel
theorem dX5_loseAtSpines_39 : decode cX5_loseAtSpines 39 = .ok (.getfield 264, 3) := by decide +kernel
theorem dX5_loseAtSpines_42 : decode cX5_loseAtSpines 42 = .ok (.aaload, 1) := by decide +kernel
theorem dX5_loseAtSpines_43 : decode cX5_loseAtSpines 43 = .ok (.astore 5, 2) := by decide +kernel
theorem dX5_loseAtSpines_45 : decode cX5_loseAtSpines 45 = .ok (.aload_n 0, 1) := by decide +kernel
theorem dX5_loseAtSpines_46 : decode cX5_loseAtSpines 46 = .ok (.aload 5, 2) := by decide +kernel
theorem dX5_loseAtSpines_48 : decode cX5_loseAtSpines 48 = .ok (.invokevirtual 230, 3) := by decide +kernel
theorem dX5_loseAtSpines_51 : decode cX5_loseAtSpines 51 = .ok (.iload_n 2, 1) := by decide +kernel
theorem dX5_loseAtSpines_52 : decode cX5_loseAtSpines 52 = .ok (.invokevirtual 132, 3) := by decide +kernel
theorem dX5_loseAtSpines_55 : decode cX5_loseAtSpines 55 = .ok (.ifCond .eq 39, 3) := by decide +kernel
theorem dX5_loseAtSpines_58 : decode cX5_loseAtSpines 58 = .ok (.aload 5, 2) := by decide +kernel
theorem dX5_loseAtSpines_60 : decode cX5_loseAtSpines 60 = .ok (.dup, 1) := by decide +kernel
theorem dX5_loseAtSpines_61 : decode cX5_loseAtSpines 61 = .ok (.getfield 167, 3) := by decide +kernel
theorem dX5_loseAtSpines_64 : decode cX5_loseAtSpines 64 = .ok (.iconst 1, 1) := by decide +kernel
theorem dX5_loseAtSpines_65 : decode cX5_loseAtSpines 65 = .ok (.iadd, 1) := by decide +kernel
theorem dX5_loseAtSpines_66 : decode cX5_loseAtSpines 66 = .ok (.putfield 167, 3) := by decide +kernel
theorem dX5_loseAtSpines_69 : decode cX5_loseAtSpines 69 = .ok (.aload_n 0, 1) := by decide +kernel
theorem dX5_loseAtSpines_70 : decode cX5_loseAtSpines 70 = .ok (.getfield 17, 3) := by decide +kernel
theorem dX5_loseAtSpines_73 : decode cX5_loseAtSpines 73 = .ok (.aload 5, 2) := by decide +kernel
theorem dX5_loseAtSpines_75 : decode cX5_loseAtSpines 75 = .ok (.getfield 220, 3) := by decide +kernel
theorem dX5_loseAtSpines_78 : decode cX5_loseAtSpines 78 = .ok (.aaload, 1) := by decide +kernel
theorem dX5_loseAtSpines_79 : decode cX5_loseAtSpines 79 = .ok (.dup, 1) := by decide +kernel
theorem dX5_loseAtSpines_80 : decode cX5_loseAtSpines 80 = .ok (.getfield 188, 3) := by decide +kernel
theorem dX5_loseAtSpines_83 : decode cX5_loseAtSpines 83 = .ok (.iconst 1, 1) := by decide +kernel
theorem dX5_loseAtSpines_84 : decode cX5_loseAtSpines 84 = .ok (.isub, 1) := by decide +kernel
theorem dX5_loseAtSpines_85 : decode cX5_loseAtSpines 85 = .ok (.putfield 188, 3) := by decide +kernel
theorem dX5_loseAtSpines_88 : decode cX5_loseAtSpines 88 = .ok (.aload 4, 2) := by decide +kernel
theorem dX5_loseAtSpines_90 : decode cX5_loseAtSpines 90 = .ok (.iload_n 1, 1) := by decide +kernel
theorem dX5_loseAtSpines_91 : decode cX5_loseAtSpines 91 = .ok (.invokevirtual 275, 3) := by decide +kernel
theorem dX5_loseAtSpines_94 : decode cX5_loseAtSpines 94 = .ok (.iinc 3 1, 3) := by decide +kernel
theorem dX5_loseAtSpines_97 : decode cX5_loseAtSpines 97 = .ok (.goto (-88), 3) := by decide +kernel
theorem dX5_loseAtSpines_100 : decode cX5_loseAtSpines 100 = .ok (.iinc 2 1, 3) := by decide +kernel
theorem dX5_loseAtSpines_103 : decode cX5_loseAtSpines 103 = .ok (.goto (-101), 3) := by decide +kernel
theorem dX5_loseAtSpines_106 : decode cX5_loseAtSpines 106 = .ok (.return_, 1) := by decide +kernel
set_option maxRecDepth 20000 in
theorem ggX5_aimAtLeaves_X5_wantedAtLeaf : GoodIn wsX5_aimAtLeaves wsX5_wantedAtLeaf := goodIn_r _ [6, 7, 8, 9, 10, 11, 12, 13, 14, 15, 16, 17, 18, 19, 20, 21, 5, 22, 23, 24, 25, 26, 27, 28, 29, 30, 31, 32, 33, 34, 35, 36, 37, 38, 39, 40, 41, 42, 59, 60, 61, 62, 63, 64, 65, 43, 44, 45, 46, 47, 48, 49, 50, 51, 52, 53, 54, 55, 66, 67, 68, 69, 70, 71, 72, 73, 74, 75, 76, 77, 78, 79, 80, 81, 82] (by decide +kernel) (by decide +kernel)
set_option maxRecDepth 20000 in
theorem gX5_aimAtLeaves_X5_wantedAtLeaf : GoodIn wsX5_aimAtLeaves (wsV RX5 281 RX5 yX5_wantedAtLeaf wsX5_wantedAtLeaf) := goodIn_app (goodIn_of _ (by decide +kernel)) ggX5_aimAtLeaves_X5_wantedAtLeaf
theorem dX5_aimAtLeaves_0 : decode cX5_aimAtLeaves 0 = .ok (.iconst 0, 1) := by decide +kernel
theorem dX5_aimAtLeaves_1 : decode cX5_aimAtLeaves 1 = .ok (.istore_n 1, 1) := by decide +kernel
theorem dX5_aimAtLeaves_2 : decode cX5_aimAtLeaves 2 = .ok (.iload_n 1, 1) := by decide +kernel
theorem dX5_aimAtLeaves_3 : decode cX5_aimAtLeaves 3 = .ok (.iconst 4, 1) := by decide +kernel
theorem dX5_aimAtLeaves_4 : decode cX5_aimAtLeaves 4 = .ok (.if_icmp .ge 50, 3) := by decide +kernel
theorem dX5_aimAtLeaves_7 : decode cX5_aimAtLeaves 7 = .ok (.aload_n 0, 1) := by decide +kernel
theorem dX5_aimAtLeaves_8 : decode cX5_aimAtLeaves 8 = .ok (.getfield 35, 3) := by decide +kernel
theorem dX5_aimAtLeaves_11 : decode cX5_aimAtLeaves 11 = .ok (.iload_n 1, 1) := by decide +kernel
theorem dX5_aimAtLeaves_12 : decode cX5_aimAtLeaves 12 = .ok (.aaload, 1) := by decide +kernel
theorem dX5_aimAtLeaves_13 : decode cX5_aimAtLeaves 13 = .ok (.astore_n 2, 1) := by decide +kernel
theorem dX5_aimAtLeaves_14 : decode cX5_aimAtLeaves 14 = .ok (.iconst 0, 1) := by decide +kernel
theorem dX5_aimAtLeaves_15 : decode cX5_aimAtLeaves 15 = .ok (.istore_n 3, 1) := by decide +kernel
theorem dX5_aimAtLeaves_16 : decode cX5_aimAtLeaves 16 = .ok (.iload_n 3, 1) := by decide +kernel
theorem dX5_aimAtLeaves_17 : decode cX5_aimAtLeaves 17 = .ok (.aload_n 2, 1) := by decide +kernel
theorem dX5_aimAtLeaves_18 : decode cX5_aimAtLeaves 18 = .ok (.getfield 70, 3) := by decide +kernel
theorem dX5_aimAtLeaves_21 : decode cX5_aimAtLeaves 21 = .ok (.arraylength, 1) := by decide +kernel
theorem dX5_aimAtLeaves_22 : decode cX5_aimAtLeaves 22 = .ok (.if_icmp .ge 26, 3) := by decide +kernel
theorem dX5_aimAtLeaves_25 : decode cX5_aimAtLeaves 25 = .ok (.aload_n 2, 1) := by decide +kernel
theorem dX5_aimAtLeaves_26 : decode cX5_aimAtLeaves 26 = .ok (.getfield 278, 3) := by decide +kernel
theorem dX5_aimAtLeaves_29 : decode cX5_aimAtLeaves 29 = .ok (.iload_n 3, 1) := by decide +kernel
theorem dX5_aimAtLeaves_30 : decode cX5_aimAtLeaves 30 = .ok (.aload_n 0, 1) := by decide +kernel
theorem dX5_aimAtLeaves_31 : decode cX5_aimAtLeaves 31 = .ok (.iload_n 1, 1) := by decide +kernel
theorem dX5_aimAtLeaves_32 : decode cX5_aimAtLeaves 32 = .ok (.aload_n 2, 1) := by decide +kernel
theorem dX5_aimAtLeaves_33 : decode cX5_aimAtLeaves 33 = .ok (.getfield 70, 3) := by decide +kernel
theorem dX5_aimAtLeaves_36 : decode cX5_aimAtLeaves 36 = .ok (.iload_n 3, 1) := by decide +kernel
theorem dX5_aimAtLeaves_37 : decode cX5_aimAtLeaves 37 = .ok (.aaload, 1) := by decide +kernel
theorem dX5_aimAtLeaves_38 : decode cX5_aimAtLeaves 38 = .ok (.invokevirtual 281, 3) := by decide +kernel
theorem dX5_aimAtLeaves_41 : decode cX5_aimAtLeaves 41 = .ok (.iastore, 1) := by decide +kernel
theorem dX5_aimAtLeaves_42 : decode cX5_aimAtLeaves 42 = .ok (.iinc 3 1, 3) := by decide +kernel
theorem dX5_aimAtLeaves_45 : decode cX5_aimAtLeaves 45 = .ok (.goto (-29), 3) := by decide +kernel
theorem dX5_aimAtLeaves_48 : decode cX5_aimAtLeaves 48 = .ok (.iinc 1 1, 3) := by decide +kernel
theorem dX5_aimAtLeaves_51 : decode cX5_aimAtLeaves 51 = .ok (.goto (-49), 3) := by decide +kernel
theorem dX5_aimAtLeaves_54 : decode cX5_aimAtLeaves 54 = .ok (.return_, 1) := by decide +kernel
set_option maxRecDepth 20000 in
theorem ggX5_wantedAtLeaf_X2_firstPacket : GoodIn wsX5_wantedAtLeaf wsX2_firstPacket := goodIn_r _ [5, 6, 7, 38, 39, 40, 41, 42, 43, 44] (by decide +kernel) (by decide +kernel)
set_option maxRecDepth 20000 in
theorem gX5_wantedAtLeaf_X2_firstPacket_n260 : GoodIn wsX5_wantedAtLeaf (wsX2_firstPacket) := ggX5_wantedAtLeaf_X2_firstPacket
set_option maxRecDepth 20000 in
theorem ggX5_wantedAtLeaf_X0_targetLeaf : GoodIn wsX5_wantedAtLeaf wsX0_targetLeaf := goodIn_r _ [11, 12, 62, 63, 64, 65, 66, 67, 68, 69, 70, 71, 72, 73, 74] (by decide +kernel) (by decide +kernel)
set_option maxRecDepth 20000 in
theorem gX5_wantedAtLeaf_X0_targetLeaf_n230 : GoodIn wsX5_wantedAtLeaf (wsX0_targetLeaf) := ggX5_wantedAtLeaf_X0_targetLeaf
set_option maxRecDepth 20000 in
theorem ggX5_wantedAtLeaf_X5_isUsable : GoodIn wsX5_wantedAtLeaf wsX5_isUsable := goodIn_r _ [17, 18, 19, 20, 16, 21, 22, 45, 46, 47, 48, 49, 50, 51, 52, 53, 54, 55, 56, 57] (by decide +kernel) (by decide +kernel)
set_option maxRecDepth 20000 in
theorem gX5_wantedAtLeaf_X5_isUsable : GoodIn wsX5_wantedAtLeaf (wsV RX5 286 RX5 yX5_isUsable wsX5_isUsable) := goodIn_app (goodIn_of _ (by decide +kernel)) ggX5_wantedAtLeaf_X5_isUsable
set_option maxRecDepth 20000 in
theorem ggX5_wantedAtLeaf_X5_chosenSpine : GoodIn wsX5_wantedAtLeaf wsX5_chosenSpine := goodIn_r _ [26, 1, 27, 9, 28, 29, 30, 8, 10, 11, 12, 18, 19, 20, 16, 21, 22, 31, 32, 33, 34, 35, 36, 37, 45, 46, 47, 48, 49, 50, 51, 52, 53, 54, 55, 56, 57, 62, 63, 64, 65, 66, 67, 68, 69, 70, 71, 72, 73, 74] (by decide +kernel) (by decide +kernel)
set_option maxRecDepth 20000 in
theorem gX5_wantedAtLeaf_X5_chosenSpine : GoodIn wsX5_wantedAtLeaf (wsV RX5 292 RX5 yX5_chosenSpine wsX5_chosenSpine) := goodIn_app (goodIn_of _ (by decide +kernel)) ggX5_wantedAtLeaf_X5_chosenSpine
theorem dX5_wantedAtLeaf_0 : decode cX5_wantedAtLeaf 0 = .ok (.aload_n 2, 1) := by decide +kernel
theorem dX5_wantedAtLeaf_1 : decode cX5_wantedAtLeaf 1 = .ok (.getfield 138, 3) := by decide +kernel
theorem dX5_wantedAtLeaf_4 : decode cX5_wantedAtLeaf 4 = .ok (.ifCond .ne 5, 3) := by decide +kernel
theorem dX5_wantedAtLeaf_7 : decode cX5_wantedAtLeaf 7 = .ok (.iconst (-1), 1) := by decide +kernel
theorem dX5_wantedAtLeaf_8 : decode cX5_wantedAtLeaf 8 = .ok (.ireturn, 1) := by decide +kernel
theorem dX5_wantedAtLeaf_9 : decode cX5_wantedAtLeaf 9 = .ok (.aload_n 2, 1) := by decide +kernel
theorem dX5_wantedAtLeaf_10 : decode cX5_wantedAtLeaf 10 = .ok (.invokevirtual 260, 3) := by decide +kernel
theorem dX5_wantedAtLeaf_13 : decode cX5_wantedAtLeaf 13 = .ok (.astore_n 3, 1) := by decide +kernel
theorem dX5_wantedAtLeaf_14 : decode cX5_wantedAtLeaf 14 = .ok (.aload_n 0, 1) := by decide +kernel
theorem dX5_wantedAtLeaf_15 : decode cX5_wantedAtLeaf 15 = .ok (.getfield 11, 3) := by decide +kernel
theorem dX5_wantedAtLeaf_18 : decode cX5_wantedAtLeaf 18 = .ok (.aload_n 3, 1) := by decide +kernel
theorem dX5_wantedAtLeaf_19 : decode cX5_wantedAtLeaf 19 = .ok (.getfield 264, 3) := by decide +kernel
theorem dX5_wantedAtLeaf_22 : decode cX5_wantedAtLeaf 22 = .ok (.aaload, 1) := by decide +kernel
theorem dX5_wantedAtLeaf_23 : decode cX5_wantedAtLeaf 23 = .ok (.astore 4, 2) := by decide +kernel
theorem dX5_wantedAtLeaf_25 : decode cX5_wantedAtLeaf 25 = .ok (.aload 4, 2) := by decide +kernel
theorem dX5_wantedAtLeaf_27 : decode cX5_wantedAtLeaf 27 = .ok (.invokevirtual 230, 3) := by decide +kernel
theorem dX5_wantedAtLeaf_30 : decode cX5_wantedAtLeaf 30 = .ok (.iload_n 1, 1) := by decide +kernel
theorem dX5_wantedAtLeaf_31 : decode cX5_wantedAtLeaf 31 = .ok (.if_icmp .ne 11, 3) := by decide +kernel
theorem dX5_wantedAtLeaf_34 : decode cX5_wantedAtLeaf 34 = .ok (.aload 4, 2) := by decide +kernel
theorem dX5_wantedAtLeaf_36 : decode cX5_wantedAtLeaf 36 = .ok (.getfield 220, 3) := by decide +kernel
theorem dX5_wantedAtLeaf_39 : decode cX5_wantedAtLeaf 39 = .ok (.iconst 4, 1) := by decide +kernel
theorem dX5_wantedAtLeaf_40 : decode cX5_wantedAtLeaf 40 = .ok (.irem, 1) := by decide +kernel
theorem dX5_wantedAtLeaf_41 : decode cX5_wantedAtLeaf 41 = .ok (.ireturn, 1) := by decide +kernel
theorem dX5_wantedAtLeaf_42 : decode cX5_wantedAtLeaf 42 = .ok (.aload_n 0, 1) := by decide +kernel
theorem dX5_wantedAtLeaf_43 : decode cX5_wantedAtLeaf 43 = .ok (.aload_n 3, 1) := by decide +kernel
theorem dX5_wantedAtLeaf_44 : decode cX5_wantedAtLeaf 44 = .ok (.getfield 285, 3) := by decide +kernel
theorem dX5_wantedAtLeaf_47 : decode cX5_wantedAtLeaf 47 = .ok (.iload_n 1, 1) := by decide +kernel
theorem dX5_wantedAtLeaf_48 : decode cX5_wantedAtLeaf 48 = .ok (.aload 4, 2) := by decide +kernel
theorem dX5_wantedAtLeaf_50 : decode cX5_wantedAtLeaf 50 = .ok (.invokevirtual 230, 3) := by decide +kernel
theorem dX5_wantedAtLeaf_53 : decode cX5_wantedAtLeaf 53 = .ok (.invokevirtual 286, 3) := by decide +kernel
theorem dX5_wantedAtLeaf_56 : decode cX5_wantedAtLeaf 56 = .ok (.ifCond .ne 31, 3) := by decide +kernel
theorem dX5_wantedAtLeaf_59 : decode cX5_wantedAtLeaf 59 = .ok (.aload_n 0, 1) := by decide +kernel
theorem dX5_wantedAtLeaf_60 : decode cX5_wantedAtLeaf 60 = .ok (.aload_n 3, 1) := by decide +kernel
theorem dX5_wantedAtLeaf_61 : decode cX5_wantedAtLeaf 61 = .ok (.getfield 264, 3) := by decide +kernel
theorem dX5_wantedAtLeaf_64 : decode cX5_wantedAtLeaf 64 = .ok (.aload_n 3, 1) := by decide +kernel
theorem dX5_wantedAtLeaf_65 : decode cX5_wantedAtLeaf 65 = .ok (.getfield 289, 3) := by decide +kernel
theorem dX5_wantedAtLeaf_68 : decode cX5_wantedAtLeaf 68 = .ok (.invokevirtual 292, 3) := by decide +kernel
theorem dX5_wantedAtLeaf_71 : decode cX5_wantedAtLeaf 71 = .ok (.istore 5, 2) := by decide +kernel
theorem dX5_wantedAtLeaf_73 : decode cX5_wantedAtLeaf 73 = .ok (.iload 5, 2) := by decide +kernel
theorem dX5_wantedAtLeaf_75 : decode cX5_wantedAtLeaf 75 = .ok (.iconst (-1), 1) := by decide +kernel
theorem dX5_wantedAtLeaf_76 : decode cX5_wantedAtLeaf 76 = .ok (.if_icmp .ne 5, 3) := by decide +kernel
theorem dX5_wantedAtLeaf_79 : decode cX5_wantedAtLeaf 79 = .ok (.iconst (-1), 1) := by decide +kernel
theorem dX5_wantedAtLeaf_80 : decode cX5_wantedAtLeaf 80 = .ok (.ireturn, 1) := by decide +kernel
theorem dX5_wantedAtLeaf_81 : decode cX5_wantedAtLeaf 81 = .ok (.aload_n 3, 1) := by decide +kernel
theorem dX5_wantedAtLeaf_82 : decode cX5_wantedAtLeaf 82 = .ok (.iload 5, 2) := by decide +kernel
theorem dX5_wantedAtLeaf_84 : decode cX5_wantedAtLeaf 84 = .ok (.putfield 285, 3) := by decide +kernel
theorem dX5_wantedAtLeaf_87 : decode cX5_wantedAtLeaf 87 = .ok (.iconst 4, 1) := by decide +kernel
theorem dX5_wantedAtLeaf_88 : decode cX5_wantedAtLeaf 88 = .ok (.aload_n 3, 1) := by decide +kernel
theorem dX5_wantedAtLeaf_89 : decode cX5_wantedAtLeaf 89 = .ok (.getfield 285, 3) := by decide +kernel
theorem dX5_wantedAtLeaf_92 : decode cX5_wantedAtLeaf 92 = .ok (.iadd, 1) := by decide +kernel
theorem dX5_wantedAtLeaf_93 : decode cX5_wantedAtLeaf 93 = .ok (.ireturn, 1) := by decide +kernel
set_option maxRecDepth 20000 in
theorem ggX5_aimAtSpines_X5_wantedAtSpine : GoodIn wsX5_aimAtSpines wsX5_wantedAtSpine := goodIn_r _ [6, 7, 8, 9, 10, 11, 12, 13, 14, 15, 16, 17, 18, 19, 20, 21, 5, 22, 23, 40, 41, 42, 43, 44, 45, 46, 24, 25, 26, 27, 28, 29, 30, 31, 32, 33, 34, 35, 36, 47, 48, 49, 50, 51, 52, 53, 54, 55, 56, 57, 58, 59, 60, 61, 62, 63] (by decide +kernel) (by decide +kernel)
set_option maxRecDepth 20000 in
theorem gX5_aimAtSpines_X5_wantedAtSpine : GoodIn wsX5_aimAtSpines (wsV RX5 295 RX5 yX5_wantedAtSpine wsX5_wantedAtSpine) := goodIn_app (goodIn_of _ (by decide +kernel)) ggX5_aimAtSpines_X5_wantedAtSpine
theorem dX5_aimAtSpines_0 : decode cX5_aimAtSpines 0 = .ok (.iconst 0, 1) := by decide +kernel
theorem dX5_aimAtSpines_1 : decode cX5_aimAtSpines 1 = .ok (.istore_n 1, 1) := by decide +kernel
theorem dX5_aimAtSpines_2 : decode cX5_aimAtSpines 2 = .ok (.iload_n 1, 1) := by decide +kernel
theorem dX5_aimAtSpines_3 : decode cX5_aimAtSpines 3 = .ok (.iconst 4, 1) := by decide +kernel
theorem dX5_aimAtSpines_4 : decode cX5_aimAtSpines 4 = .ok (.if_icmp .ge 50, 3) := by decide +kernel
theorem dX5_aimAtSpines_7 : decode cX5_aimAtSpines 7 = .ok (.aload_n 0, 1) := by decide +kernel
theorem dX5_aimAtSpines_8 : decode cX5_aimAtSpines 8 = .ok (.getfield 39, 3) := by decide +kernel
theorem dX5_aimAtSpines_11 : decode cX5_aimAtSpines 11 = .ok (.iload_n 1, 1) := by decide +kernel
theorem dX5_aimAtSpines_12 : decode cX5_aimAtSpines 12 = .ok (.aaload, 1) := by decide +kernel
theorem dX5_aimAtSpines_13 : decode cX5_aimAtSpines 13 = .ok (.astore_n 2, 1) := by decide +kernel
theorem dX5_aimAtSpines_14 : decode cX5_aimAtSpines 14 = .ok (.iconst 0, 1) := by decide +kernel
theorem dX5_aimAtSpines_15 : decode cX5_aimAtSpines 15 = .ok (.istore_n 3, 1) := by decide +kernel
theorem dX5_aimAtSpines_16 : decode cX5_aimAtSpines 16 = .ok (.iload_n 3, 1) := by decide +kernel
theorem dX5_aimAtSpines_17 : decode cX5_aimAtSpines 17 = .ok (.aload_n 2, 1) := by decide +kernel
theorem dX5_aimAtSpines_18 : decode cX5_aimAtSpines 18 = .ok (.getfield 70, 3) := by decide +kernel
theorem dX5_aimAtSpines_21 : decode cX5_aimAtSpines 21 = .ok (.arraylength, 1) := by decide +kernel
theorem dX5_aimAtSpines_22 : decode cX5_aimAtSpines 22 = .ok (.if_icmp .ge 26, 3) := by decide +kernel
theorem dX5_aimAtSpines_25 : decode cX5_aimAtSpines 25 = .ok (.aload_n 2, 1) := by decide +kernel
theorem dX5_aimAtSpines_26 : decode cX5_aimAtSpines 26 = .ok (.getfield 278, 3) := by decide +kernel
theorem dX5_aimAtSpines_29 : decode cX5_aimAtSpines 29 = .ok (.iload_n 3, 1) := by decide +kernel
theorem dX5_aimAtSpines_30 : decode cX5_aimAtSpines 30 = .ok (.aload_n 0, 1) := by decide +kernel
theorem dX5_aimAtSpines_31 : decode cX5_aimAtSpines 31 = .ok (.iload_n 1, 1) := by decide +kernel
theorem dX5_aimAtSpines_32 : decode cX5_aimAtSpines 32 = .ok (.aload_n 2, 1) := by decide +kernel
theorem dX5_aimAtSpines_33 : decode cX5_aimAtSpines 33 = .ok (.getfield 70, 3) := by decide +kernel
theorem dX5_aimAtSpines_36 : decode cX5_aimAtSpines 36 = .ok (.iload_n 3, 1) := by decide +kernel
theorem dX5_aimAtSpines_37 : decode cX5_aimAtSpines 37 = .ok (.aaload, 1) := by decide +kernel
theorem dX5_aimAtSpines_38 : decode cX5_aimAtSpines 38 = .ok (.invokevirtual 295, 3) := by decide +kernel
theorem dX5_aimAtSpines_41 : decode cX5_aimAtSpines 41 = .ok (.iastore, 1) := by decide +kernel
theorem dX5_aimAtSpines_42 : decode cX5_aimAtSpines 42 = .ok (.iinc 3 1, 3) := by decide +kernel
theorem dX5_aimAtSpines_45 : decode cX5_aimAtSpines 45 = .ok (.goto (-29), 3) := by decide +kernel
theorem dX5_aimAtSpines_48 : decode cX5_aimAtSpines 48 = .ok (.iinc 1 1, 3) := by decide +kernel
theorem dX5_aimAtSpines_51 : decode cX5_aimAtSpines 51 = .ok (.goto (-49), 3) := by decide +kernel
theorem dX5_aimAtSpines_54 : decode cX5_aimAtSpines 54 = .ok (.return_, 1) := by decide +kernel
set_option maxRecDepth 20000 in
theorem ggX5_wantedAtSpine_X2_firstPacket : GoodIn wsX5_wantedAtSpine wsX2_firstPacket := goodIn_r _ [5, 6, 7, 19, 20, 21, 22, 23, 24, 25] (by decide +kernel) (by decide +kernel)
set_option maxRecDepth 20000 in
theorem gX5_wantedAtSpine_X2_firstPacket_n260 : GoodIn wsX5_wantedAtSpine (wsX2_firstPacket) := ggX5_wantedAtSpine_X2_firstPacket
set_option maxRecDepth 20000 in
theorem ggX5_wantedAtSpine_X0_targetLeaf : GoodIn wsX5_wantedAtSpine wsX0_targetLeaf := goodIn_r _ [11, 12, 43, 44, 45, 46, 47, 48, 49, 50, 51, 52, 53, 54, 55] (by decide +kernel) (by decide +kernel)
set_option maxRecDepth 20000 in
theorem gX5_wantedAtSpine_X0_targetLeaf_n230 : GoodIn wsX5_wantedAtSpine (wsX0_targetLeaf) := ggX5_wantedAtSpine_X0_targetLeaf
set_option maxRecDepth 20000 in
theorem ggX5_wantedAtSpine_X5_isCut : GoodIn wsX5_wantedAtSpine wsX5_isCut := goodIn_r _ [17, 18, 26, 27, 28, 29, 30, 31, 32, 33, 34, 35, 36, 37, 38] (by decide +kernel) (by decide +kernel)
set_option maxRecDepth 20000 in
theorem gX5_wantedAtSpine_X5_isCut : GoodIn wsX5_wantedAtSpine (wsV RX5 132 RX5 yX5_isCut wsX5_isCut) := goodIn_app (goodIn_of _ (by decide +kernel)) ggX5_wantedAtSpine_X5_isCut
theorem dX5_wantedAtSpine_0 : decode cX5_wantedAtSpine 0 = .ok (.aload_n 2, 1) := by decide +kernel
theorem dX5_wantedAtSpine_1 : decode cX5_wantedAtSpine 1 = .ok (.getfield 138, 3) := by decide +kernel
theorem dX5_wantedAtSpine_4 : decode cX5_wantedAtSpine 4 = .ok (.ifCond .ne 5, 3) := by decide +kernel
theorem dX5_wantedAtSpine_7 : decode cX5_wantedAtSpine 7 = .ok (.iconst (-1), 1) := by decide +kernel
theorem dX5_wantedAtSpine_8 : decode cX5_wantedAtSpine 8 = .ok (.ireturn, 1) := by decide +kernel
theorem dX5_wantedAtSpine_9 : decode cX5_wantedAtSpine 9 = .ok (.aload_n 0, 1) := by decide +kernel
theorem dX5_wantedAtSpine_10 : decode cX5_wantedAtSpine 10 = .ok (.getfield 11, 3) := by decide +kernel
theorem dX5_wantedAtSpine_13 : decode cX5_wantedAtSpine 13 = .ok (.aload_n 2, 1) := by decide +kernel
theorem dX5_wantedAtSpine_14 : decode cX5_wantedAtSpine 14 = .ok (.invokevirtual 260, 3) := by decide +kernel
theorem dX5_wantedAtSpine_17 : decode cX5_wantedAtSpine 17 = .ok (.getfield 264, 3) := by decide +kernel
theorem dX5_wantedAtSpine_20 : decode cX5_wantedAtSpine 20 = .ok (.aaload, 1) := by decide +kernel
theorem dX5_wantedAtSpine_21 : decode cX5_wantedAtSpine 21 = .ok (.invokevirtual 230, 3) := by decide +kernel
theorem dX5_wantedAtSpine_24 : decode cX5_wantedAtSpine 24 = .ok (.istore_n 3, 1) := by decide +kernel
theorem dX5_wantedAtSpine_25 : decode cX5_wantedAtSpine 25 = .ok (.aload_n 0, 1) := by decide +kernel
theorem dX5_wantedAtSpine_26 : decode cX5_wantedAtSpine 26 = .ok (.iload_n 3, 1) := by decide +kernel
theorem dX5_wantedAtSpine_27 : decode cX5_wantedAtSpine 27 = .ok (.iload_n 1, 1) := by decide +kernel
theorem dX5_wantedAtSpine_28 : decode cX5_wantedAtSpine 28 = .ok (.invokevirtual 132, 3) := by decide +kernel
theorem dX5_wantedAtSpine_31 : decode cX5_wantedAtSpine 31 = .ok (.ifCond .eq 7, 3) := by decide +kernel
theorem dX5_wantedAtSpine_34 : decode cX5_wantedAtSpine 34 = .ok (.iconst (-1), 1) := by decide +kernel
theorem dX5_wantedAtSpine_35 : decode cX5_wantedAtSpine 35 = .ok (.goto 4, 3) := by decide +kernel
theorem dX5_wantedAtSpine_38 : decode cX5_wantedAtSpine 38 = .ok (.iload_n 3, 1) := by decide +kernel
theorem dX5_wantedAtSpine_39 : decode cX5_wantedAtSpine 39 = .ok (.ireturn, 1) := by decide +kernel
set_option maxRecDepth 20000 in
theorem ggX5_pickAll_X3_pick : GoodIn wsX5_pickAll wsX3_pick := goodIn_r _ [6, 7, 8, 9, 10, 11, 12, 13, 14, 15, 29, 30, 31, 32, 33, 34, 35, 36, 37, 38] (by decide +kernel) (by decide +kernel)
set_option maxRecDepth 20000 in
theorem gX5_pickAll_X3_pick_n298 : GoodIn wsX5_pickAll (wsX3_pick) := ggX5_pickAll_X3_pick
theorem dX5_pickAll_0 : decode cX5_pickAll 0 = .ok (.iconst 0, 1) := by decide +kernel
theorem dX5_pickAll_1 : decode cX5_pickAll 1 = .ok (.istore_n 1, 1) := by decide +kernel
theorem dX5_pickAll_2 : decode cX5_pickAll 2 = .ok (.iload_n 1, 1) := by decide +kernel
theorem dX5_pickAll_3 : decode cX5_pickAll 3 = .ok (.iconst 4, 1) := by decide +kernel
theorem dX5_pickAll_4 : decode cX5_pickAll 4 = .ok (.if_icmp .ge 18, 3) := by decide +kernel
theorem dX5_pickAll_7 : decode cX5_pickAll 7 = .ok (.aload_n 0, 1) := by decide +kernel
theorem dX5_pickAll_8 : decode cX5_pickAll 8 = .ok (.getfield 35, 3) := by decide +kernel
theorem dX5_pickAll_11 : decode cX5_pickAll 11 = .ok (.iload_n 1, 1) := by decide +kernel
theorem dX5_pickAll_12 : decode cX5_pickAll 12 = .ok (.aaload, 1) := by decide +kernel
theorem dX5_pickAll_13 : decode cX5_pickAll 13 = .ok (.invokevirtual 298, 3) := by decide +kernel
theorem dX5_pickAll_16 : decode cX5_pickAll 16 = .ok (.iinc 1 1, 3) := by decide +kernel
theorem dX5_pickAll_19 : decode cX5_pickAll 19 = .ok (.goto (-17), 3) := by decide +kernel
theorem dX5_pickAll_22 : decode cX5_pickAll 22 = .ok (.iconst 0, 1) := by decide +kernel
theorem dX5_pickAll_23 : decode cX5_pickAll 23 = .ok (.istore_n 1, 1) := by decide +kernel
theorem dX5_pickAll_24 : decode cX5_pickAll 24 = .ok (.iload_n 1, 1) := by decide +kernel
theorem dX5_pickAll_25 : decode cX5_pickAll 25 = .ok (.iconst 4, 1) := by decide +kernel
theorem dX5_pickAll_26 : decode cX5_pickAll 26 = .ok (.if_icmp .ge 18, 3) := by decide +kernel
theorem dX5_pickAll_29 : decode cX5_pickAll 29 = .ok (.aload_n 0, 1) := by decide +kernel
theorem dX5_pickAll_30 : decode cX5_pickAll 30 = .ok (.getfield 39, 3) := by decide +kernel
theorem dX5_pickAll_33 : decode cX5_pickAll 33 = .ok (.iload_n 1, 1) := by decide +kernel
theorem dX5_pickAll_34 : decode cX5_pickAll 34 = .ok (.aaload, 1) := by decide +kernel
theorem dX5_pickAll_35 : decode cX5_pickAll 35 = .ok (.invokevirtual 298, 3) := by decide +kernel
theorem dX5_pickAll_38 : decode cX5_pickAll 38 = .ok (.iinc 1 1, 3) := by decide +kernel
theorem dX5_pickAll_41 : decode cX5_pickAll 41 = .ok (.goto (-17), 3) := by decide +kernel
theorem dX5_pickAll_44 : decode cX5_pickAll 44 = .ok (.return_, 1) := by decide +kernel
set_option maxRecDepth 20000 in
theorem ggX5_moveAll_X3_move : GoodIn wsX5_moveAll wsX3_move := goodIn_r _ [6, 7, 8, 9, 10, 11, 12, 13, 14, 15, 16, 17, 18, 19, 20, 21, 22, 23, 24, 25, 26, 27, 28, 29, 30, 31, 45, 46, 47, 48, 49, 50, 51, 52, 53, 54, 55, 56, 57, 58] (by decide +kernel) (by decide +kernel)
set_option maxRecDepth 20000 in
theorem gX5_moveAll_X3_move_n301 : GoodIn wsX5_moveAll (wsX3_move) := ggX5_moveAll_X3_move
theorem dX5_moveAll_0 : decode cX5_moveAll 0 = .ok (.iconst 0, 1) := by decide +kernel
theorem dX5_moveAll_1 : decode cX5_moveAll 1 = .ok (.istore_n 2, 1) := by decide +kernel
theorem dX5_moveAll_2 : decode cX5_moveAll 2 = .ok (.iload_n 2, 1) := by decide +kernel
theorem dX5_moveAll_3 : decode cX5_moveAll 3 = .ok (.iconst 4, 1) := by decide +kernel
theorem dX5_moveAll_4 : decode cX5_moveAll 4 = .ok (.if_icmp .ge 19, 3) := by decide +kernel
theorem dX5_moveAll_7 : decode cX5_moveAll 7 = .ok (.aload_n 0, 1) := by decide +kernel
theorem dX5_moveAll_8 : decode cX5_moveAll 8 = .ok (.getfield 35, 3) := by decide +kernel
theorem dX5_moveAll_11 : decode cX5_moveAll 11 = .ok (.iload_n 2, 1) := by decide +kernel
theorem dX5_moveAll_12 : decode cX5_moveAll 12 = .ok (.aaload, 1) := by decide +kernel
theorem dX5_moveAll_13 : decode cX5_moveAll 13 = .ok (.iload_n 1, 1) := by decide +kernel
theorem dX5_moveAll_14 : decode cX5_moveAll 14 = .ok (.invokevirtual 301, 3) := by decide +kernel
theorem dX5_moveAll_17 : decode cX5_moveAll 17 = .ok (.iinc 2 1, 3) := by decide +kernel
theorem dX5_moveAll_20 : decode cX5_moveAll 20 = .ok (.goto (-18), 3) := by decide +kernel
theorem dX5_moveAll_23 : decode cX5_moveAll 23 = .ok (.iconst 0, 1) := by decide +kernel
theorem dX5_moveAll_24 : decode cX5_moveAll 24 = .ok (.istore_n 2, 1) := by decide +kernel
theorem dX5_moveAll_25 : decode cX5_moveAll 25 = .ok (.iload_n 2, 1) := by decide +kernel
theorem dX5_moveAll_26 : decode cX5_moveAll 26 = .ok (.iconst 4, 1) := by decide +kernel
theorem dX5_moveAll_27 : decode cX5_moveAll 27 = .ok (.if_icmp .ge 19, 3) := by decide +kernel
theorem dX5_moveAll_30 : decode cX5_moveAll 30 = .ok (.aload_n 0, 1) := by decide +kernel
theorem dX5_moveAll_31 : decode cX5_moveAll 31 = .ok (.getfield 39, 3) := by decide +kernel
theorem dX5_moveAll_34 : decode cX5_moveAll 34 = .ok (.iload_n 2, 1) := by decide +kernel
theorem dX5_moveAll_35 : decode cX5_moveAll 35 = .ok (.aaload, 1) := by decide +kernel
theorem dX5_moveAll_36 : decode cX5_moveAll 36 = .ok (.iload_n 1, 1) := by decide +kernel
theorem dX5_moveAll_37 : decode cX5_moveAll 37 = .ok (.invokevirtual 301, 3) := by decide +kernel
theorem dX5_moveAll_40 : decode cX5_moveAll 40 = .ok (.iinc 2 1, 3) := by decide +kernel
theorem dX5_moveAll_43 : decode cX5_moveAll 43 = .ok (.goto (-18), 3) := by decide +kernel
theorem dX5_moveAll_46 : decode cX5_moveAll 46 = .ok (.return_, 1) := by decide +kernel
set_option maxRecDepth 20000 in
theorem ggX5_sendAll_X5_pickedFlow : GoodIn wsX5_sendAll wsX5_pickedFlow := goodIn_r _ [6, 7, 8, 9, 10, 11, 5, 12, 13, 1, 14, 15, 16, 17, 18, 19, 20, 21, 22, 23, 24, 25, 26, 27, 28, 29, 30, 31, 32, 33, 34, 35, 36, 37, 38, 39, 80, 81, 82, 83, 84, 85, 86, 87, 88, 89, 90, 91, 92, 104, 105, 106, 107, 108, 109, 110, 111, 112, 113, 114, 115, 116, 93, 94, 95, 96] (by decide +kernel) (by decide +kernel)
set_option maxRecDepth 20000 in
theorem gX5_sendAll_X5_pickedFlow : GoodIn wsX5_sendAll (wsV RX5 307 RX5 yX5_pickedFlow wsX5_pickedFlow) := goodIn_app (goodIn_of _ (by decide +kernel)) ggX5_sendAll_X5_pickedFlow
set_option maxRecDepth 20000 in
theorem ggX5_sendAll_X5_send : GoodIn wsX5_sendAll wsX5_send := goodIn_r _ [43, 8, 13, 1, 22, 16, 23, 24, 25, 26, 27, 28, 29, 30, 31, 32, 33, 34, 44, 45, 46, 5, 47, 48, 49, 50, 51, 52, 35, 36, 37, 38, 39, 53, 54, 55, 56, 57, 58, 59, 60, 61, 62, 63, 64, 65, 66, 67, 68, 69, 70, 71, 72, 73, 74, 75, 76, 77, 78, 79, 80, 81, 82, 83, 84, 85, 86, 87, 88, 89, 90, 91, 92, 104, 105, 106, 107, 108, 109, 110, 111, 112, 113, 114, 115, 116, 93, 94, 95, 96, 97, 98, 99, 100, 101, 102, 103, 117, 118, 119, 120] (by decide +kernel) (by decide +kernel)
set_option maxRecDepth 20000 in
theorem gX5_sendAll_X5_send : GoodIn wsX5_sendAll (wsV RX5 310 RX5 yX5_send wsX5_send) := goodIn_app (goodIn_of _ (by decide +kernel)) ggX5_sendAll_X5_send
theorem dX5_sendAll_0 : decode cX5_sendAll 0 = .ok (.iconst 0, 1) := by decide +kernel
theorem dX5_sendAll_1 : decode cX5_sendAll 1 = .ok (.istore_n 1, 1) := by decide +kernel
theorem dX5_sendAll_2 : decode cX5_sendAll 2 = .ok (.iload_n 1, 1) := by decide +kernel
theorem dX5_sendAll_3 : decode cX5_sendAll 3 = .ok (.bipush 16, 2) := by decide +kernel
theorem dX5_sendAll_5 : decode cX5_sendAll 5 = .ok (.if_icmp .ge 55, 3) := by decide +kernel
theorem dX5_sendAll_8 : decode cX5_sendAll 8 = .ok (.aload_n 0, 1) := by decide +kernel
theorem dX5_sendAll_9 : decode cX5_sendAll 9 = .ok (.getfield 17, 3) := by decide +kernel
theorem dX5_sendAll_12 : decode cX5_sendAll 12 = .ok (.iload_n 1, 1) := by decide +kernel
theorem dX5_sendAll_13 : decode cX5_sendAll 13 = .ok (.aaload, 1) := by decide +kernel
theorem dX5_sendAll_14 : decode cX5_sendAll 14 = .ok (.astore_n 2, 1) := by decide +kernel
theorem dX5_sendAll_15 : decode cX5_sendAll 15 = .ok (.aload_n 2, 1) := by decide +kernel
theorem dX5_sendAll_16 : decode cX5_sendAll 16 = .ok (.getfield 48, 3) := by decide +kernel
theorem dX5_sendAll_19 : decode cX5_sendAll 19 = .ok (.getfield 182, 3) := by decide +kernel
theorem dX5_sendAll_22 : decode cX5_sendAll 22 = .ok (.ifCond .le 32, 3) := by decide +kernel
theorem dX5_sendAll_25 : decode cX5_sendAll 25 = .ok (.aload_n 0, 1) := by decide +kernel
theorem dX5_sendAll_26 : decode cX5_sendAll 26 = .ok (.iload_n 1, 1) := by decide +kernel
theorem dX5_sendAll_27 : decode cX5_sendAll 27 = .ok (.aload_n 2, 1) := by decide +kernel
theorem dX5_sendAll_28 : decode cX5_sendAll 28 = .ok (.getfield 304, 3) := by decide +kernel
theorem dX5_sendAll_31 : decode cX5_sendAll 31 = .ok (.invokevirtual 307, 3) := by decide +kernel
theorem dX5_sendAll_34 : decode cX5_sendAll 34 = .ok (.istore_n 3, 1) := by decide +kernel
theorem dX5_sendAll_35 : decode cX5_sendAll 35 = .ok (.iload_n 3, 1) := by decide +kernel
theorem dX5_sendAll_36 : decode cX5_sendAll 36 = .ok (.iconst (-1), 1) := by decide +kernel
theorem dX5_sendAll_37 : decode cX5_sendAll 37 = .ok (.if_icmp .eq 17, 3) := by decide +kernel
theorem dX5_sendAll_40 : decode cX5_sendAll 40 = .ok (.aload_n 2, 1) := by decide +kernel
theorem dX5_sendAll_41 : decode cX5_sendAll 41 = .ok (.iload_n 3, 1) := by decide +kernel
theorem dX5_sendAll_42 : decode cX5_sendAll 42 = .ok (.putfield 304, 3) := by decide +kernel
theorem dX5_sendAll_45 : decode cX5_sendAll 45 = .ok (.aload_n 0, 1) := by decide +kernel
theorem dX5_sendAll_46 : decode cX5_sendAll 46 = .ok (.iload_n 3, 1) := by decide +kernel
theorem dX5_sendAll_47 : decode cX5_sendAll 47 = .ok (.aload_n 2, 1) := by decide +kernel
theorem dX5_sendAll_48 : decode cX5_sendAll 48 = .ok (.getfield 48, 3) := by decide +kernel
theorem dX5_sendAll_51 : decode cX5_sendAll 51 = .ok (.invokevirtual 310, 3) := by decide +kernel
theorem dX5_sendAll_54 : decode cX5_sendAll 54 = .ok (.iinc 1 1, 3) := by decide +kernel
theorem dX5_sendAll_57 : decode cX5_sendAll 57 = .ok (.goto (-55), 3) := by decide +kernel
theorem dX5_sendAll_60 : decode cX5_sendAll 60 = .ok (.return_, 1) := by decide +kernel
set_option maxRecDepth 20000 in
theorem ggX5_pickedFlow_X5_canSend : GoodIn wsX5_pickedFlow wsX5_canSend := goodIn_r _ [7, 8, 9, 10, 11, 12, 13, 14, 15, 16, 17, 18, 19, 20, 21, 22, 23, 24, 25, 26, 27, 28, 29, 30, 31, 32, 33, 6, 34, 35, 49, 50, 51, 52, 53, 54, 55, 56, 57, 58, 59, 60, 61, 36, 37, 38, 39, 40, 41, 42, 43, 44, 45, 46, 47, 48, 62, 63, 64, 65] (by decide +kernel) (by decide +kernel)
set_option maxRecDepth 20000 in
theorem gX5_pickedFlow_X5_canSend : GoodIn wsX5_pickedFlow (wsV RX5 314 RX5 yX5_canSend wsX5_canSend) := goodIn_app (goodIn_of _ (by decide +kernel)) ggX5_pickedFlow_X5_canSend
theorem dX5_pickedFlow_0 : decode cX5_pickedFlow 0 = .ok (.iconst 1, 1) := by decide +kernel
theorem dX5_pickedFlow_1 : decode cX5_pickedFlow 1 = .ok (.istore_n 3, 1) := by decide +kernel
theorem dX5_pickedFlow_2 : decode cX5_pickedFlow 2 = .ok (.iload_n 3, 1) := by decide +kernel
theorem dX5_pickedFlow_3 : decode cX5_pickedFlow 3 = .ok (.aload_n 0, 1) := by decide +kernel
theorem dX5_pickedFlow_4 : decode cX5_pickedFlow 4 = .ok (.getfield 93, 3) := by decide +kernel
theorem dX5_pickedFlow_7 : decode cX5_pickedFlow 7 = .ok (.if_icmp .gt 50, 3) := by decide +kernel
theorem dX5_pickedFlow_10 : decode cX5_pickedFlow 10 = .ok (.iload_n 2, 1) := by decide +kernel
theorem dX5_pickedFlow_11 : decode cX5_pickedFlow 11 = .ok (.iload_n 3, 1) := by decide +kernel
theorem dX5_pickedFlow_12 : decode cX5_pickedFlow 12 = .ok (.iadd, 1) := by decide +kernel
theorem dX5_pickedFlow_13 : decode cX5_pickedFlow 13 = .ok (.aload_n 0, 1) := by decide +kernel
theorem dX5_pickedFlow_14 : decode cX5_pickedFlow 14 = .ok (.getfield 93, 3) := by decide +kernel
theorem dX5_pickedFlow_17 : decode cX5_pickedFlow 17 = .ok (.irem, 1) := by decide +kernel
theorem dX5_pickedFlow_18 : decode cX5_pickedFlow 18 = .ok (.istore 4, 2) := by decide +kernel
theorem dX5_pickedFlow_20 : decode cX5_pickedFlow 20 = .ok (.aload_n 0, 1) := by decide +kernel
theorem dX5_pickedFlow_21 : decode cX5_pickedFlow 21 = .ok (.getfield 11, 3) := by decide +kernel
theorem dX5_pickedFlow_24 : decode cX5_pickedFlow 24 = .ok (.iload 4, 2) := by decide +kernel
theorem dX5_pickedFlow_26 : decode cX5_pickedFlow 26 = .ok (.aaload, 1) := by decide +kernel
theorem dX5_pickedFlow_27 : decode cX5_pickedFlow 27 = .ok (.getfield 214, 3) := by decide +kernel
theorem dX5_pickedFlow_30 : decode cX5_pickedFlow 30 = .ok (.iload_n 1, 1) := by decide +kernel
theorem dX5_pickedFlow_31 : decode cX5_pickedFlow 31 = .ok (.if_icmp .ne 20, 3) := by decide +kernel
theorem dX5_pickedFlow_34 : decode cX5_pickedFlow 34 = .ok (.aload_n 0, 1) := by decide +kernel
theorem dX5_pickedFlow_35 : decode cX5_pickedFlow 35 = .ok (.aload_n 0, 1) := by decide +kernel
theorem dX5_pickedFlow_36 : decode cX5_pickedFlow 36 = .ok (.getfield 11, 3) := by decide +kernel
theorem dX5_pickedFlow_39 : decode cX5_pickedFlow 39 = .ok (.iload 4, 2) := by decide +kernel
theorem dX5_pickedFlow_41 : decode cX5_pickedFlow 41 = .ok (.aaload, 1) := by decide +kernel
theorem dX5_pickedFlow_42 : decode cX5_pickedFlow 42 = .ok (.invokevirtual 314, 3) := by decide +kernel
theorem dX5_pickedFlow_45 : decode cX5_pickedFlow 45 = .ok (.ifCond .eq 6, 3) := by decide +kernel
theorem dX5_pickedFlow_48 : decode cX5_pickedFlow 48 = .ok (.iload 4, 2) := by decide +kernel
theorem dX5_pickedFlow_50 : decode cX5_pickedFlow 50 = .ok (.ireturn, 1) := by decide +kernel
theorem dX5_pickedFlow_51 : decode cX5_pickedFlow 51 = .ok (.iinc 3 1, 3) := by decide +kernel
theorem dX5_pickedFlow_54 : decode cX5_pickedFlow 54 = .ok (.goto (-52), 3) := by decide +kernel
theorem dX5_pickedFlow_57 : decode cX5_pickedFlow 57 = .ok (.iconst (-1), 1) := by decide +kernel
theorem dX5_pickedFlow_58 : decode cX5_pickedFlow 58 = .ok (.ireturn, 1) := by decide +kernel
set_option maxRecDepth 20000 in
theorem ggX5_canSend_X0_unsent : GoodIn wsX5_canSend wsX0_unsent := goodIn_r _ [7, 8, 9, 10, 30, 31, 32, 33, 34, 35, 36, 37, 38, 39, 40, 41, 42] (by decide +kernel) (by decide +kernel)
set_option maxRecDepth 20000 in
theorem gX5_canSend_X0_unsent_n217 : GoodIn wsX5_canSend (wsX0_unsent) := ggX5_canSend_X0_unsent
set_option maxRecDepth 20000 in
theorem ggX5_canSend_X0_crossesLeaves : GoodIn wsX5_canSend wsX0_crossesLeaves := goodIn_r _ [13, 14, 15, 16, 5, 17, 18, 19, 20, 21, 22, 23, 30, 31, 32, 33, 34, 35, 36, 37, 38, 39, 40, 41, 42] (by decide +kernel) (by decide +kernel)
set_option maxRecDepth 20000 in
theorem gX5_canSend_X0_crossesLeaves_n223 : GoodIn wsX5_canSend (wsX0_crossesLeaves) := ggX5_canSend_X0_crossesLeaves
set_option maxRecDepth 20000 in
theorem ggX5_canSend_X0_sourceLeaf : GoodIn wsX5_canSend wsX0_sourceLeaf := goodIn_r _ [17, 18, 30, 31, 32, 33, 34, 35, 36, 37, 38, 39, 40, 41, 42] (by decide +kernel) (by decide +kernel)
set_option maxRecDepth 20000 in
theorem gX5_canSend_X0_sourceLeaf_n227 : GoodIn wsX5_canSend (wsX0_sourceLeaf) := ggX5_canSend_X0_sourceLeaf
set_option maxRecDepth 20000 in
theorem ggX5_canSend_X0_targetLeaf : GoodIn wsX5_canSend wsX0_targetLeaf := goodIn_r _ [22, 23, 30, 31, 32, 33, 34, 35, 36, 37, 38, 39, 40, 41, 42] (by decide +kernel) (by decide +kernel)
set_option maxRecDepth 20000 in
theorem gX5_canSend_X0_targetLeaf_n230 : GoodIn wsX5_canSend (wsX0_targetLeaf) := ggX5_canSend_X0_targetLeaf
set_option maxRecDepth 20000 in
theorem ggX5_canSend_X5_usableSpines : GoodIn wsX5_canSend wsX5_usableSpines := goodIn_r _ [28, 29, 43, 44, 45, 46, 47, 48, 49, 50, 51, 52, 53, 54, 55] (by decide +kernel) (by decide +kernel)
set_option maxRecDepth 20000 in
theorem gX5_canSend_X5_usableSpines : GoodIn wsX5_canSend (wsV RX5 193 RX5 yX5_usableSpines wsX5_usableSpines) := goodIn_app (goodIn_of _ (by decide +kernel)) ggX5_canSend_X5_usableSpines
theorem dX5_canSend_0 : decode cX5_canSend 0 = .ok (.aload_n 1, 1) := by decide +kernel
theorem dX5_canSend_1 : decode cX5_canSend 1 = .ok (.getfield 318, 3) := by decide +kernel
theorem dX5_canSend_4 : decode cX5_canSend 4 = .ok (.aload_n 0, 1) := by decide +kernel
theorem dX5_canSend_5 : decode cX5_canSend 5 = .ok (.getfield 96, 3) := by decide +kernel
theorem dX5_canSend_8 : decode cX5_canSend 8 = .ok (.if_icmp .gt 10, 3) := by decide +kernel
theorem dX5_canSend_11 : decode cX5_canSend 11 = .ok (.aload_n 1, 1) := by decide +kernel
theorem dX5_canSend_12 : decode cX5_canSend 12 = .ok (.invokevirtual 217, 3) := by decide +kernel
theorem dX5_canSend_15 : decode cX5_canSend 15 = .ok (.ifCond .gt 5, 3) := by decide +kernel
theorem dX5_canSend_18 : decode cX5_canSend 18 = .ok (.iconst 0, 1) := by decide +kernel
theorem dX5_canSend_19 : decode cX5_canSend 19 = .ok (.ireturn, 1) := by decide +kernel
theorem dX5_canSend_20 : decode cX5_canSend 20 = .ok (.aload_n 0, 1) := by decide +kernel
theorem dX5_canSend_21 : decode cX5_canSend 21 = .ok (.getfield 17, 3) := by decide +kernel
theorem dX5_canSend_24 : decode cX5_canSend 24 = .ok (.aload_n 1, 1) := by decide +kernel
theorem dX5_canSend_25 : decode cX5_canSend 25 = .ok (.getfield 220, 3) := by decide +kernel
theorem dX5_canSend_28 : decode cX5_canSend 28 = .ok (.aaload, 1) := by decide +kernel
theorem dX5_canSend_29 : decode cX5_canSend 29 = .ok (.getfield 188, 3) := by decide +kernel
theorem dX5_canSend_32 : decode cX5_canSend 32 = .ok (.aload_n 0, 1) := by decide +kernel
theorem dX5_canSend_33 : decode cX5_canSend 33 = .ok (.getfield 90, 3) := by decide +kernel
theorem dX5_canSend_36 : decode cX5_canSend 36 = .ok (.if_icmp .lt 5, 3) := by decide +kernel
theorem dX5_canSend_39 : decode cX5_canSend 39 = .ok (.iconst 0, 1) := by decide +kernel
theorem dX5_canSend_40 : decode cX5_canSend 40 = .ok (.ireturn, 1) := by decide +kernel
theorem dX5_canSend_41 : decode cX5_canSend 41 = .ok (.aload_n 1, 1) := by decide +kernel
theorem dX5_canSend_42 : decode cX5_canSend 42 = .ok (.invokevirtual 223, 3) := by decide +kernel
theorem dX5_canSend_45 : decode cX5_canSend 45 = .ok (.ifCond .eq 18, 3) := by decide +kernel
theorem dX5_canSend_48 : decode cX5_canSend 48 = .ok (.aload_n 0, 1) := by decide +kernel
theorem dX5_canSend_49 : decode cX5_canSend 49 = .ok (.aload_n 1, 1) := by decide +kernel
theorem dX5_canSend_50 : decode cX5_canSend 50 = .ok (.invokevirtual 227, 3) := by decide +kernel
theorem dX5_canSend_53 : decode cX5_canSend 53 = .ok (.aload_n 1, 1) := by decide +kernel
theorem dX5_canSend_54 : decode cX5_canSend 54 = .ok (.invokevirtual 230, 3) := by decide +kernel
theorem dX5_canSend_57 : decode cX5_canSend 57 = .ok (.invokevirtual 193, 3) := by decide +kernel
theorem dX5_canSend_60 : decode cX5_canSend 60 = .ok (.ifCond .eq 7, 3) := by decide +kernel
theorem dX5_canSend_63 : decode cX5_canSend 63 = .ok (.iconst 1, 1) := by decide +kernel
theorem dX5_canSend_64 : decode cX5_canSend 64 = .ok (.goto 4, 3) := by decide +kernel
theorem dX5_canSend_67 : decode cX5_canSend 67 = .ok (.iconst 0, 1) := by decide +kernel
theorem dX5_canSend_68 : decode cX5_canSend 68 = .ok (.ireturn, 1) := by decide +kernel
set_option maxRecDepth 20000 in
theorem ggX5_send_X0_crossesLeaves : GoodIn wsX5_send wsX0_crossesLeaves := goodIn_r _ [7, 8, 9, 10, 5, 11, 12, 13, 14, 15, 16, 17, 73, 74, 75, 76, 77, 78, 79, 80, 81, 82, 83, 84, 85] (by decide +kernel) (by decide +kernel)
set_option maxRecDepth 20000 in
theorem gX5_send_X0_crossesLeaves_n223 : GoodIn wsX5_send (wsX0_crossesLeaves) := ggX5_send_X0_crossesLeaves
set_option maxRecDepth 20000 in
theorem ggX5_send_X5_needsFlowlet : GoodIn wsX5_send wsX5_needsFlowlet := goodIn_r _ [22, 2, 23, 9, 5, 10, 11, 12, 14, 15, 16, 17, 24, 25, 26, 21, 27, 28, 29, 30, 31, 32, 73, 74, 75, 76, 77, 78, 79, 80, 81, 82, 83, 84, 85, 60, 61, 62, 63, 64, 65, 66, 67, 68, 69, 70, 71, 72] (by decide +kernel) (by decide +kernel)
set_option maxRecDepth 20000 in
theorem gX5_send_X5_needsFlowlet : GoodIn wsX5_send (wsV RX5 321 RX5 yX5_needsFlowlet wsX5_needsFlowlet) := goodIn_app (goodIn_of _ (by decide +kernel)) ggX5_send_X5_needsFlowlet
set_option maxRecDepth 20000 in
theorem ggX5_send_X5_chosenSpine : GoodIn wsX5_send wsX5_chosenSpine := goodIn_r _ [36, 1, 9, 5, 10, 11, 12, 14, 15, 16, 17, 28, 29, 30, 21, 31, 32, 37, 38, 39, 40, 41, 42, 43, 60, 61, 62, 63, 64, 65, 66, 67, 68, 69, 70, 71, 72, 73, 74, 75, 76, 77, 78, 79, 80, 81, 82, 83, 84, 85] (by decide +kernel) (by decide +kernel)
set_option maxRecDepth 20000 in
theorem gX5_send_X5_chosenSpine : GoodIn wsX5_send (wsV RX5 292 RX5 yX5_chosenSpine wsX5_chosenSpine) := goodIn_app (goodIn_of _ (by decide +kernel)) ggX5_send_X5_chosenSpine
set_option maxRecDepth 20000 in
theorem ggX5_send_X2_put : GoodIn wsX5_send wsX2_put := goodIn_r _ [47, 48, 49, 50, 51, 52, 53, 54, 55, 56, 57, 58, 59, 90, 91, 92, 93, 94, 95, 96, 97, 98, 99, 100] (by decide +kernel) (by decide +kernel)
set_option maxRecDepth 20000 in
theorem gX5_send_X2_put_n324 : GoodIn wsX5_send (wsX2_put) := ggX5_send_X2_put
theorem dX5_send_0 : decode cX5_send 0 = .ok (.aload_n 0, 1) := by decide +kernel
theorem dX5_send_1 : decode cX5_send 1 = .ok (.getfield 11, 3) := by decide +kernel
theorem dX5_send_4 : decode cX5_send 4 = .ok (.iload_n 1, 1) := by decide +kernel
theorem dX5_send_5 : decode cX5_send 5 = .ok (.aaload, 1) := by decide +kernel
theorem dX5_send_6 : decode cX5_send 6 = .ok (.astore_n 3, 1) := by decide +kernel
theorem dX5_send_7 : decode cX5_send 7 = .ok (.aload_n 3, 1) := by decide +kernel
theorem dX5_send_8 : decode cX5_send 8 = .ok (.invokevirtual 223, 3) := by decide +kernel
theorem dX5_send_11 : decode cX5_send 11 = .ok (.ifCond .eq 34, 3) := by decide +kernel
theorem dX5_send_14 : decode cX5_send 14 = .ok (.aload_n 0, 1) := by decide +kernel
theorem dX5_send_15 : decode cX5_send 15 = .ok (.aload_n 3, 1) := by decide +kernel
theorem dX5_send_16 : decode cX5_send 16 = .ok (.invokevirtual 321, 3) := by decide +kernel
theorem dX5_send_19 : decode cX5_send 19 = .ok (.ifCond .eq 26, 3) := by decide +kernel
theorem dX5_send_22 : decode cX5_send 22 = .ok (.aload_n 3, 1) := by decide +kernel
theorem dX5_send_23 : decode cX5_send 23 = .ok (.aload_n 0, 1) := by decide +kernel
theorem dX5_send_24 : decode cX5_send 24 = .ok (.iload_n 1, 1) := by decide +kernel
theorem dX5_send_25 : decode cX5_send 25 = .ok (.aload_n 3, 1) := by decide +kernel
theorem dX5_send_26 : decode cX5_send 26 = .ok (.getfield 176, 3) := by decide +kernel
theorem dX5_send_29 : decode cX5_send 29 = .ok (.invokevirtual 292, 3) := by decide +kernel
theorem dX5_send_32 : decode cX5_send 32 = .ok (.putfield 179, 3) := by decide +kernel
theorem dX5_send_35 : decode cX5_send 35 = .ok (.aload_n 3, 1) := by decide +kernel
theorem dX5_send_36 : decode cX5_send 36 = .ok (.dup, 1) := by decide +kernel
theorem dX5_send_37 : decode cX5_send 37 = .ok (.getfield 176, 3) := by decide +kernel
theorem dX5_send_40 : decode cX5_send 40 = .ok (.iconst 1, 1) := by decide +kernel
theorem dX5_send_41 : decode cX5_send 41 = .ok (.iadd, 1) := by decide +kernel
theorem dX5_send_42 : decode cX5_send 42 = .ok (.putfield 176, 3) := by decide +kernel
theorem dX5_send_45 : decode cX5_send 45 = .ok (.aload_n 2, 1) := by decide +kernel
theorem dX5_send_46 : decode cX5_send 46 = .ok (.iload_n 1, 1) := by decide +kernel
theorem dX5_send_47 : decode cX5_send 47 = .ok (.aload_n 3, 1) := by decide +kernel
theorem dX5_send_48 : decode cX5_send 48 = .ok (.getfield 161, 3) := by decide +kernel
theorem dX5_send_51 : decode cX5_send 51 = .ok (.aload_n 3, 1) := by decide +kernel
theorem dX5_send_52 : decode cX5_send 52 = .ok (.getfield 176, 3) := by decide +kernel
theorem dX5_send_55 : decode cX5_send 55 = .ok (.iconst 1, 1) := by decide +kernel
theorem dX5_send_56 : decode cX5_send 56 = .ok (.isub, 1) := by decide +kernel
theorem dX5_send_57 : decode cX5_send 57 = .ok (.aload_n 3, 1) := by decide +kernel
theorem dX5_send_58 : decode cX5_send 58 = .ok (.getfield 179, 3) := by decide +kernel
theorem dX5_send_61 : decode cX5_send 61 = .ok (.invokevirtual 324, 3) := by decide +kernel
theorem dX5_send_64 : decode cX5_send 64 = .ok (.aload_n 3, 1) := by decide +kernel
theorem dX5_send_65 : decode cX5_send 65 = .ok (.dup, 1) := by decide +kernel
theorem dX5_send_66 : decode cX5_send 66 = .ok (.getfield 161, 3) := by decide +kernel
theorem dX5_send_69 : decode cX5_send 69 = .ok (.iconst 1, 1) := by decide +kernel
theorem dX5_send_70 : decode cX5_send 70 = .ok (.iadd, 1) := by decide +kernel
theorem dX5_send_71 : decode cX5_send 71 = .ok (.putfield 161, 3) := by decide +kernel
theorem dX5_send_74 : decode cX5_send 74 = .ok (.aload_n 3, 1) := by decide +kernel
theorem dX5_send_75 : decode cX5_send 75 = .ok (.aload_n 0, 1) := by decide +kernel
theorem dX5_send_76 : decode cX5_send 76 = .ok (.getfield 96, 3) := by decide +kernel
theorem dX5_send_79 : decode cX5_send 79 = .ok (.putfield 327, 3) := by decide +kernel
theorem dX5_send_82 : decode cX5_send 82 = .ok (.aload_n 0, 1) := by decide +kernel
theorem dX5_send_83 : decode cX5_send 83 = .ok (.getfield 17, 3) := by decide +kernel
theorem dX5_send_86 : decode cX5_send 86 = .ok (.aload_n 3, 1) := by decide +kernel
theorem dX5_send_87 : decode cX5_send 87 = .ok (.getfield 220, 3) := by decide +kernel
theorem dX5_send_90 : decode cX5_send 90 = .ok (.aaload, 1) := by decide +kernel
theorem dX5_send_91 : decode cX5_send 91 = .ok (.dup, 1) := by decide +kernel
theorem dX5_send_92 : decode cX5_send 92 = .ok (.getfield 188, 3) := by decide +kernel
theorem dX5_send_95 : decode cX5_send 95 = .ok (.iconst 1, 1) := by decide +kernel
theorem dX5_send_96 : decode cX5_send 96 = .ok (.iadd, 1) := by decide +kernel
theorem dX5_send_97 : decode cX5_send 97 = .ok (.putfield 188, 3) := by decide +kernel
theorem dX5_send_100 : decode cX5_send 100 = .ok (.return_, 1) := by decide +kernel
set_option maxRecDepth 20000 in
theorem ggX5_needsFlowlet_X0_sourceLeaf : GoodIn wsX5_needsFlowlet wsX0_sourceLeaf := goodIn_r _ [6, 7, 22, 23, 24, 25, 26, 27, 28, 29, 30, 31, 32, 33, 34] (by decide +kernel) (by decide +kernel)
set_option maxRecDepth 20000 in
theorem gX5_needsFlowlet_X0_sourceLeaf_n227 : GoodIn wsX5_needsFlowlet (wsX0_sourceLeaf) := ggX5_needsFlowlet_X0_sourceLeaf
set_option maxRecDepth 20000 in
theorem ggX5_needsFlowlet_X0_targetLeaf : GoodIn wsX5_needsFlowlet wsX0_targetLeaf := goodIn_r _ [10, 11, 22, 23, 24, 25, 26, 27, 28, 29, 30, 31, 32, 33, 34] (by decide +kernel) (by decide +kernel)
set_option maxRecDepth 20000 in
theorem gX5_needsFlowlet_X0_targetLeaf_n230 : GoodIn wsX5_needsFlowlet (wsX0_targetLeaf) := ggX5_needsFlowlet_X0_targetLeaf
set_option maxRecDepth 20000 in
theorem ggX5_needsFlowlet_X5_isUsable : GoodIn wsX5_needsFlowlet wsX5_isUsable := goodIn_r _ [16, 17, 18, 19, 15, 20, 21, 35, 36, 37, 38, 39, 40, 41, 42, 43, 44, 45, 46, 47] (by decide +kernel) (by decide +kernel)
set_option maxRecDepth 20000 in
theorem gX5_needsFlowlet_X5_isUsable : GoodIn wsX5_needsFlowlet (wsV RX5 286 RX5 yX5_isUsable wsX5_isUsable) := goodIn_app (goodIn_of _ (by decide +kernel)) ggX5_needsFlowlet_X5_isUsable
theorem dX5_needsFlowlet_0 : decode cX5_needsFlowlet 0 = .ok (.aload_n 1, 1) := by decide +kernel
theorem dX5_needsFlowlet_1 : decode cX5_needsFlowlet 1 = .ok (.getfield 176, 3) := by decide +kernel
theorem dX5_needsFlowlet_4 : decode cX5_needsFlowlet 4 = .ok (.ifCond .eq 38, 3) := by decide +kernel
theorem dX5_needsFlowlet_7 : decode cX5_needsFlowlet 7 = .ok (.aload_n 0, 1) := by decide +kernel
theorem dX5_needsFlowlet_8 : decode cX5_needsFlowlet 8 = .ok (.getfield 96, 3) := by decide +kernel
theorem dX5_needsFlowlet_11 : decode cX5_needsFlowlet 11 = .ok (.aload_n 1, 1) := by decide +kernel
theorem dX5_needsFlowlet_12 : decode cX5_needsFlowlet 12 = .ok (.getfield 327, 3) := by decide +kernel
theorem dX5_needsFlowlet_15 : decode cX5_needsFlowlet 15 = .ok (.isub, 1) := by decide +kernel
theorem dX5_needsFlowlet_16 : decode cX5_needsFlowlet 16 = .ok (.aload_n 0, 1) := by decide +kernel
theorem dX5_needsFlowlet_17 : decode cX5_needsFlowlet 17 = .ok (.getfield 87, 3) := by decide +kernel
theorem dX5_needsFlowlet_20 : decode cX5_needsFlowlet 20 = .ok (.if_icmp .gt 22, 3) := by decide +kernel
theorem dX5_needsFlowlet_23 : decode cX5_needsFlowlet 23 = .ok (.aload_n 0, 1) := by decide +kernel
theorem dX5_needsFlowlet_24 : decode cX5_needsFlowlet 24 = .ok (.aload_n 1, 1) := by decide +kernel
theorem dX5_needsFlowlet_25 : decode cX5_needsFlowlet 25 = .ok (.getfield 179, 3) := by decide +kernel
theorem dX5_needsFlowlet_28 : decode cX5_needsFlowlet 28 = .ok (.aload_n 1, 1) := by decide +kernel
theorem dX5_needsFlowlet_29 : decode cX5_needsFlowlet 29 = .ok (.invokevirtual 227, 3) := by decide +kernel
theorem dX5_needsFlowlet_32 : decode cX5_needsFlowlet 32 = .ok (.aload_n 1, 1) := by decide +kernel
theorem dX5_needsFlowlet_33 : decode cX5_needsFlowlet 33 = .ok (.invokevirtual 230, 3) := by decide +kernel
theorem dX5_needsFlowlet_36 : decode cX5_needsFlowlet 36 = .ok (.invokevirtual 286, 3) := by decide +kernel
theorem dX5_needsFlowlet_39 : decode cX5_needsFlowlet 39 = .ok (.ifCond .ne 7, 3) := by decide +kernel
theorem dX5_needsFlowlet_42 : decode cX5_needsFlowlet 42 = .ok (.iconst 1, 1) := by decide +kernel
theorem dX5_needsFlowlet_43 : decode cX5_needsFlowlet 43 = .ok (.goto 4, 3) := by decide +kernel
theorem dX5_needsFlowlet_46 : decode cX5_needsFlowlet 46 = .ok (.iconst 0, 1) := by decide +kernel
theorem dX5_needsFlowlet_47 : decode cX5_needsFlowlet 47 = .ok (.ireturn, 1) := by decide +kernel
set_option maxRecDepth 20000 in
theorem ggX5_chosenSpine_X0_sourceLeaf : GoodIn wsX5_chosenSpine wsX0_sourceLeaf := goodIn_r _ [5, 6, 37, 38, 39, 40, 41, 42, 43, 44, 45, 46, 47, 48, 49] (by decide +kernel) (by decide +kernel)
set_option maxRecDepth 20000 in
theorem gX5_chosenSpine_X0_sourceLeaf_n227 : GoodIn wsX5_chosenSpine (wsX0_sourceLeaf) := ggX5_chosenSpine_X0_sourceLeaf
set_option maxRecDepth 20000 in
theorem ggX5_chosenSpine_X0_targetLeaf : GoodIn wsX5_chosenSpine wsX0_targetLeaf := goodIn_r _ [9, 10, 37, 38, 39, 40, 41, 42, 43, 44, 45, 46, 47, 48, 49] (by decide +kernel) (by decide +kernel)
set_option maxRecDepth 20000 in
theorem gX5_chosenSpine_X0_targetLeaf_n230 : GoodIn wsX5_chosenSpine (wsX0_targetLeaf) := ggX5_chosenSpine_X0_targetLeaf
set_option maxRecDepth 20000 in
theorem ggX5_chosenSpine_X5_usableSpines : GoodIn wsX5_chosenSpine wsX5_usableSpines := goodIn_r _ [15, 16, 24, 25, 26, 27, 28, 29, 30, 31, 32, 33, 34, 35, 36] (by decide +kernel) (by decide +kernel)
set_option maxRecDepth 20000 in
theorem gX5_chosenSpine_X5_usableSpines : GoodIn wsX5_chosenSpine (wsV RX5 193 RX5 yX5_usableSpines wsX5_usableSpines) := goodIn_app (goodIn_of _ (by decide +kernel)) ggX5_chosenSpine_X5_usableSpines
set_option maxRecDepth 20000 in
theorem ggX5_chosenSpine_J6_bitCount_0f7a4 : GoodIn wsX5_chosenSpine wsJ6_bitCount_0f7a4 := goodIn_r _ [20, 21, 22, 23] (by decide +kernel) (by decide +kernel)
set_option maxRecDepth 20000 in
theorem gX5_chosenSpine_J6_bitCount_0f7a4 : GoodIn wsX5_chosenSpine (va_wsS RX5 143 yJ6_bitCount_0f7a4 wsJ6_bitCount_0f7a4) := goodIn_app (goodIn_of _ (by decide +kernel)) ggX5_chosenSpine_J6_bitCount_0f7a4
theorem dX5_chosenSpine_0 : decode cX5_chosenSpine 0 = .ok (.aload_n 0, 1) := by decide +kernel
theorem dX5_chosenSpine_1 : decode cX5_chosenSpine 1 = .ok (.getfield 11, 3) := by decide +kernel
theorem dX5_chosenSpine_4 : decode cX5_chosenSpine 4 = .ok (.iload_n 1, 1) := by decide +kernel
theorem dX5_chosenSpine_5 : decode cX5_chosenSpine 5 = .ok (.aaload, 1) := by decide +kernel
theorem dX5_chosenSpine_6 : decode cX5_chosenSpine 6 = .ok (.astore_n 3, 1) := by decide +kernel
theorem dX5_chosenSpine_7 : decode cX5_chosenSpine 7 = .ok (.aload_n 0, 1) := by decide +kernel
theorem dX5_chosenSpine_8 : decode cX5_chosenSpine 8 = .ok (.aload_n 3, 1) := by decide +kernel
theorem dX5_chosenSpine_9 : decode cX5_chosenSpine 9 = .ok (.invokevirtual 227, 3) := by decide +kernel
theorem dX5_chosenSpine_12 : decode cX5_chosenSpine 12 = .ok (.aload_n 3, 1) := by decide +kernel
theorem dX5_chosenSpine_13 : decode cX5_chosenSpine 13 = .ok (.invokevirtual 230, 3) := by decide +kernel
theorem dX5_chosenSpine_16 : decode cX5_chosenSpine 16 = .ok (.invokevirtual 193, 3) := by decide +kernel
theorem dX5_chosenSpine_19 : decode cX5_chosenSpine 19 = .ok (.istore 4, 2) := by decide +kernel
theorem dX5_chosenSpine_21 : decode cX5_chosenSpine 21 = .ok (.iload 4, 2) := by decide +kernel
theorem dX5_chosenSpine_23 : decode cX5_chosenSpine 23 = .ok (.invokestatic 143, 3) := by decide +kernel
theorem dX5_chosenSpine_26 : decode cX5_chosenSpine 26 = .ok (.istore 5, 2) := by decide +kernel
theorem dX5_chosenSpine_28 : decode cX5_chosenSpine 28 = .ok (.iload 5, 2) := by decide +kernel
theorem dX5_chosenSpine_30 : decode cX5_chosenSpine 30 = .ok (.ifCond .ne 5, 3) := by decide +kernel
theorem dX5_chosenSpine_33 : decode cX5_chosenSpine 33 = .ok (.iconst (-1), 1) := by decide +kernel
theorem dX5_chosenSpine_34 : decode cX5_chosenSpine 34 = .ok (.ireturn, 1) := by decide +kernel
theorem dX5_chosenSpine_35 : decode cX5_chosenSpine 35 = .ok (.bipush 7, 2) := by decide +kernel
theorem dX5_chosenSpine_37 : decode cX5_chosenSpine 37 = .ok (.iload_n 1, 1) := by decide +kernel
theorem dX5_chosenSpine_38 : decode cX5_chosenSpine 38 = .ok (.imul, 1) := by decide +kernel
theorem dX5_chosenSpine_39 : decode cX5_chosenSpine 39 = .ok (.bipush 13, 2) := by decide +kernel
theorem dX5_chosenSpine_41 : decode cX5_chosenSpine 41 = .ok (.iload_n 2, 1) := by decide +kernel
theorem dX5_chosenSpine_42 : decode cX5_chosenSpine 42 = .ok (.imul, 1) := by decide +kernel
theorem dX5_chosenSpine_43 : decode cX5_chosenSpine 43 = .ok (.iadd, 1) := by decide +kernel
theorem dX5_chosenSpine_44 : decode cX5_chosenSpine 44 = .ok (.iconst 3, 1) := by decide +kernel
theorem dX5_chosenSpine_45 : decode cX5_chosenSpine 45 = .ok (.aload_n 3, 1) := by decide +kernel
theorem dX5_chosenSpine_46 : decode cX5_chosenSpine 46 = .ok (.getfield 214, 3) := by decide +kernel
theorem dX5_chosenSpine_49 : decode cX5_chosenSpine 49 = .ok (.imul, 1) := by decide +kernel
theorem dX5_chosenSpine_50 : decode cX5_chosenSpine 50 = .ok (.iadd, 1) := by decide +kernel
theorem dX5_chosenSpine_51 : decode cX5_chosenSpine 51 = .ok (.iconst 5, 1) := by decide +kernel
theorem dX5_chosenSpine_52 : decode cX5_chosenSpine 52 = .ok (.aload_n 3, 1) := by decide +kernel
theorem dX5_chosenSpine_53 : decode cX5_chosenSpine 53 = .ok (.getfield 220, 3) := by decide +kernel
theorem dX5_chosenSpine_56 : decode cX5_chosenSpine 56 = .ok (.imul, 1) := by decide +kernel
theorem dX5_chosenSpine_57 : decode cX5_chosenSpine 57 = .ok (.iadd, 1) := by decide +kernel
theorem dX5_chosenSpine_58 : decode cX5_chosenSpine 58 = .ok (.iload 5, 2) := by decide +kernel
theorem dX5_chosenSpine_60 : decode cX5_chosenSpine 60 = .ok (.irem, 1) := by decide +kernel
theorem dX5_chosenSpine_61 : decode cX5_chosenSpine 61 = .ok (.istore 6, 2) := by decide +kernel
theorem dX5_chosenSpine_63 : decode cX5_chosenSpine 63 = .ok (.iconst 0, 1) := by decide +kernel
theorem dX5_chosenSpine_64 : decode cX5_chosenSpine 64 = .ok (.istore 7, 2) := by decide +kernel
theorem dX5_chosenSpine_66 : decode cX5_chosenSpine 66 = .ok (.iload 7, 2) := by decide +kernel
theorem dX5_chosenSpine_68 : decode cX5_chosenSpine 68 = .ok (.iconst 4, 1) := by decide +kernel
theorem dX5_chosenSpine_69 : decode cX5_chosenSpine 69 = .ok (.if_icmp .ge 31, 3) := by decide +kernel
theorem dX5_chosenSpine_72 : decode cX5_chosenSpine 72 = .ok (.iload 4, 2) := by decide +kernel
theorem dX5_chosenSpine_74 : decode cX5_chosenSpine 74 = .ok (.iload 7, 2) := by decide +kernel
theorem dX5_chosenSpine_76 : decode cX5_chosenSpine 76 = .ok (.ishr, 1) := by decide +kernel
theorem dX5_chosenSpine_77 : decode cX5_chosenSpine 77 = .ok (.iconst 1, 1) := by decide +kernel
theorem dX5_chosenSpine_78 : decode cX5_chosenSpine 78 = .ok (.iand, 1) := by decide +kernel
theorem dX5_chosenSpine_79 : decode cX5_chosenSpine 79 = .ok (.iconst 1, 1) := by decide +kernel
theorem dX5_chosenSpine_80 : decode cX5_chosenSpine 80 = .ok (.if_icmp .ne 14, 3) := by decide +kernel
theorem dX5_chosenSpine_83 : decode cX5_chosenSpine 83 = .ok (.iload 6, 2) := by decide +kernel
theorem dX5_chosenSpine_85 : decode cX5_chosenSpine 85 = .ok (.ifCond .ne 6, 3) := by decide +kernel
theorem dX5_chosenSpine_88 : decode cX5_chosenSpine 88 = .ok (.iload 7, 2) := by decide +kernel
theorem dX5_chosenSpine_90 : decode cX5_chosenSpine 90 = .ok (.ireturn, 1) := by decide +kernel
theorem dX5_chosenSpine_91 : decode cX5_chosenSpine 91 = .ok (.iinc 6 (-1), 3) := by decide +kernel
theorem dX5_chosenSpine_94 : decode cX5_chosenSpine 94 = .ok (.iinc 7 1, 3) := by decide +kernel
theorem dX5_chosenSpine_97 : decode cX5_chosenSpine 97 = .ok (.goto (-31), 3) := by decide +kernel
theorem dX5_chosenSpine_100 : decode cX5_chosenSpine 100 = .ok (.iconst (-1), 1) := by decide +kernel
theorem dX5_chosenSpine_101 : decode cX5_chosenSpine 101 = .ok (.ireturn, 1) := by decide +kernel
theorem dX5_isCut_0 : decode cX5_isCut 0 = .ok (.aload_n 0, 1) := by decide +kernel
theorem dX5_isCut_1 : decode cX5_isCut 1 = .ok (.getfield 42, 3) := by decide +kernel
theorem dX5_isCut_4 : decode cX5_isCut 4 = .ok (.iload_n 1, 1) := by decide +kernel
theorem dX5_isCut_5 : decode cX5_isCut 5 = .ok (.iaload, 1) := by decide +kernel
theorem dX5_isCut_6 : decode cX5_isCut 6 = .ok (.iload_n 2, 1) := by decide +kernel
theorem dX5_isCut_7 : decode cX5_isCut 7 = .ok (.ishr, 1) := by decide +kernel
theorem dX5_isCut_8 : decode cX5_isCut 8 = .ok (.iconst 1, 1) := by decide +kernel
theorem dX5_isCut_9 : decode cX5_isCut 9 = .ok (.iand, 1) := by decide +kernel
theorem dX5_isCut_10 : decode cX5_isCut 10 = .ok (.ifCond .ne 7, 3) := by decide +kernel
theorem dX5_isCut_13 : decode cX5_isCut 13 = .ok (.iconst 1, 1) := by decide +kernel
theorem dX5_isCut_14 : decode cX5_isCut 14 = .ok (.goto 4, 3) := by decide +kernel
theorem dX5_isCut_17 : decode cX5_isCut 17 = .ok (.iconst 0, 1) := by decide +kernel
theorem dX5_isCut_18 : decode cX5_isCut 18 = .ok (.ireturn, 1) := by decide +kernel
set_option maxRecDepth 20000 in
theorem ggX5_isUsable_X5_usableSpines : GoodIn wsX5_isUsable wsX5_usableSpines := goodIn_r _ [5, 6, 7, 8, 9, 10, 11, 12, 13, 14, 15, 16, 17, 18, 19] (by decide +kernel) (by decide +kernel)
set_option maxRecDepth 20000 in
theorem gX5_isUsable_X5_usableSpines : GoodIn wsX5_isUsable (wsV RX5 193 RX5 yX5_usableSpines wsX5_usableSpines) := goodIn_app (goodIn_of _ (by decide +kernel)) ggX5_isUsable_X5_usableSpines
theorem dX5_isUsable_0 : decode cX5_isUsable 0 = .ok (.aload_n 0, 1) := by decide +kernel
theorem dX5_isUsable_1 : decode cX5_isUsable 1 = .ok (.iload_n 2, 1) := by decide +kernel
theorem dX5_isUsable_2 : decode cX5_isUsable 2 = .ok (.iload_n 3, 1) := by decide +kernel
theorem dX5_isUsable_3 : decode cX5_isUsable 3 = .ok (.invokevirtual 193, 3) := by decide +kernel
theorem dX5_isUsable_6 : decode cX5_isUsable 6 = .ok (.iload_n 1, 1) := by decide +kernel
theorem dX5_isUsable_7 : decode cX5_isUsable 7 = .ok (.ishr, 1) := by decide +kernel
theorem dX5_isUsable_8 : decode cX5_isUsable 8 = .ok (.iconst 1, 1) := by decide +kernel
theorem dX5_isUsable_9 : decode cX5_isUsable 9 = .ok (.iand, 1) := by decide +kernel
theorem dX5_isUsable_10 : decode cX5_isUsable 10 = .ok (.iconst 1, 1) := by decide +kernel
theorem dX5_isUsable_11 : decode cX5_isUsable 11 = .ok (.if_icmp .ne 7, 3) := by decide +kernel
theorem dX5_isUsable_14 : decode cX5_isUsable 14 = .ok (.iconst 1, 1) := by decide +kernel
theorem dX5_isUsable_15 : decode cX5_isUsable 15 = .ok (.goto 4, 3) := by decide +kernel
theorem dX5_isUsable_18 : decode cX5_isUsable 18 = .ok (.iconst 0, 1) := by decide +kernel
theorem dX5_isUsable_19 : decode cX5_isUsable 19 = .ok (.ireturn, 1) := by decide +kernel
theorem dX5_usableSpines_0 : decode cX5_usableSpines 0 = .ok (.aload_n 0, 1) := by decide +kernel
theorem dX5_usableSpines_1 : decode cX5_usableSpines 1 = .ok (.getfield 42, 3) := by decide +kernel
theorem dX5_usableSpines_4 : decode cX5_usableSpines 4 = .ok (.iload_n 1, 1) := by decide +kernel
theorem dX5_usableSpines_5 : decode cX5_usableSpines 5 = .ok (.iaload, 1) := by decide +kernel
theorem dX5_usableSpines_6 : decode cX5_usableSpines 6 = .ok (.aload_n 0, 1) := by decide +kernel
theorem dX5_usableSpines_7 : decode cX5_usableSpines 7 = .ok (.getfield 42, 3) := by decide +kernel
theorem dX5_usableSpines_10 : decode cX5_usableSpines 10 = .ok (.iload_n 2, 1) := by decide +kernel
theorem dX5_usableSpines_11 : decode cX5_usableSpines 11 = .ok (.iaload, 1) := by decide +kernel
theorem dX5_usableSpines_12 : decode cX5_usableSpines 12 = .ok (.iand, 1) := by decide +kernel
theorem dX5_usableSpines_13 : decode cX5_usableSpines 13 = .ok (.ireturn, 1) := by decide +kernel
theorem dX5_northOf_0 : decode cX5_northOf 0 = .ok (.aload_n 0, 1) := by decide +kernel
theorem dX5_northOf_1 : decode cX5_northOf 1 = .ok (.getfield 27, 3) := by decide +kernel
theorem dX5_northOf_4 : decode cX5_northOf 4 = .ok (.iload_n 1, 1) := by decide +kernel
theorem dX5_northOf_5 : decode cX5_northOf 5 = .ok (.iconst 4, 1) := by decide +kernel
theorem dX5_northOf_6 : decode cX5_northOf 6 = .ok (.imul, 1) := by decide +kernel
theorem dX5_northOf_7 : decode cX5_northOf 7 = .ok (.iload_n 2, 1) := by decide +kernel
theorem dX5_northOf_8 : decode cX5_northOf 8 = .ok (.iadd, 1) := by decide +kernel
theorem dX5_northOf_9 : decode cX5_northOf 9 = .ok (.aaload, 1) := by decide +kernel
theorem dX5_northOf_10 : decode cX5_northOf 10 = .ok (.areturn, 1) := by decide +kernel
theorem dX5_southOf_0 : decode cX5_southOf 0 = .ok (.aload_n 0, 1) := by decide +kernel
theorem dX5_southOf_1 : decode cX5_southOf 1 = .ok (.getfield 30, 3) := by decide +kernel
theorem dX5_southOf_4 : decode cX5_southOf 4 = .ok (.iload_n 1, 1) := by decide +kernel
theorem dX5_southOf_5 : decode cX5_southOf 5 = .ok (.iconst 4, 1) := by decide +kernel
theorem dX5_southOf_6 : decode cX5_southOf 6 = .ok (.imul, 1) := by decide +kernel
theorem dX5_southOf_7 : decode cX5_southOf 7 = .ok (.iload_n 2, 1) := by decide +kernel
theorem dX5_southOf_8 : decode cX5_southOf 8 = .ok (.iadd, 1) := by decide +kernel
theorem dX5_southOf_9 : decode cX5_southOf 9 = .ok (.aaload, 1) := by decide +kernel
theorem dX5_southOf_10 : decode cX5_southOf 10 = .ok (.areturn, 1) := by decide +kernel
theorem dX5_isOutside_0 : decode cX5_isOutside 0 = .ok (.iload_n 0, 1) := by decide +kernel
theorem dX5_isOutside_1 : decode cX5_isOutside 1 = .ok (.iload_n 1, 1) := by decide +kernel
theorem dX5_isOutside_2 : decode cX5_isOutside 2 = .ok (.if_icmp .lt 8, 3) := by decide +kernel
theorem dX5_isOutside_5 : decode cX5_isOutside 5 = .ok (.iload_n 0, 1) := by decide +kernel
theorem dX5_isOutside_6 : decode cX5_isOutside 6 = .ok (.iload_n 2, 1) := by decide +kernel
theorem dX5_isOutside_7 : decode cX5_isOutside 7 = .ok (.if_icmp .le 7, 3) := by decide +kernel
theorem dX5_isOutside_10 : decode cX5_isOutside 10 = .ok (.iconst 1, 1) := by decide +kernel
theorem dX5_isOutside_11 : decode cX5_isOutside 11 = .ok (.goto 4, 3) := by decide +kernel
theorem dX5_isOutside_14 : decode cX5_isOutside 14 = .ok (.iconst 0, 1) := by decide +kernel
theorem dX5_isOutside_15 : decode cX5_isOutside 15 = .ok (.ireturn, 1) := by decide +kernel
set_option maxRecDepth 20000 in
theorem ggX5_checkHost_X5_isOutside : GoodIn wsX5_checkHost wsX5_isOutside := goodIn_r _ [6] (by decide +kernel) (by decide +kernel)
set_option maxRecDepth 20000 in
theorem gX5_checkHost_X5_isOutside : GoodIn wsX5_checkHost (va_wsS RX5 103 yX5_isOutside wsX5_isOutside) := goodIn_app (goodIn_of _ (by decide +kernel)) ggX5_checkHost_X5_isOutside
theorem dX5_checkHost_0 : decode cX5_checkHost 0 = .ok (.iload_n 0, 1) := by decide +kernel
theorem dX5_checkHost_1 : decode cX5_checkHost 1 = .ok (.iconst 0, 1) := by decide +kernel
theorem dX5_checkHost_2 : decode cX5_checkHost 2 = .ok (.bipush 15, 2) := by decide +kernel
theorem dX5_checkHost_4 : decode cX5_checkHost 4 = .ok (.invokestatic 103, 3) := by decide +kernel
theorem dX5_checkHost_7 : decode cX5_checkHost 7 = .ok (.ifCond .eq 14, 3) := by decide +kernel
theorem dX5_checkHost_10 : decode cX5_checkHost 10 = .ok (.new 107, 3) := by decide +kernel
theorem dX5_checkHost_13 : decode cX5_checkHost 13 = .ok (.dup, 1) := by decide +kernel
theorem dX5_checkHost_14 : decode cX5_checkHost 14 = .ok (.ldc_w 330, 3) := by decide +kernel
theorem dX5_checkHost_17 : decode cX5_checkHost 17 = .ok (.invokespecial 111, 3) := by decide +kernel
theorem dX5_checkHost_20 : decode cX5_checkHost 20 = .ok (.athrow, 1) := by decide +kernel
theorem dX5_checkHost_21 : decode cX5_checkHost 21 = .ok (.return_, 1) := by decide +kernel
set_option maxRecDepth 20000 in
theorem ggX5_checkConnection_X5_isOutside : GoodIn wsX5_checkConnection wsX5_isOutside := goodIn_r _ [6] (by decide +kernel) (by decide +kernel)
set_option maxRecDepth 20000 in
theorem gX5_checkConnection_X5_isOutside : GoodIn wsX5_checkConnection (va_wsS RX5 103 yX5_isOutside wsX5_isOutside) := goodIn_app (goodIn_of _ (by decide +kernel)) ggX5_checkConnection_X5_isOutside
theorem dX5_checkConnection_0 : decode cX5_checkConnection 0 = .ok (.iload_n 0, 1) := by decide +kernel
theorem dX5_checkConnection_1 : decode cX5_checkConnection 1 = .ok (.iconst 0, 1) := by decide +kernel
theorem dX5_checkConnection_2 : decode cX5_checkConnection 2 = .ok (.iconst 3, 1) := by decide +kernel
theorem dX5_checkConnection_3 : decode cX5_checkConnection 3 = .ok (.invokestatic 103, 3) := by decide +kernel
theorem dX5_checkConnection_6 : decode cX5_checkConnection 6 = .ok (.ifCond .ne 12, 3) := by decide +kernel
theorem dX5_checkConnection_9 : decode cX5_checkConnection 9 = .ok (.iload_n 1, 1) := by decide +kernel
theorem dX5_checkConnection_10 : decode cX5_checkConnection 10 = .ok (.iconst 0, 1) := by decide +kernel
theorem dX5_checkConnection_11 : decode cX5_checkConnection 11 = .ok (.iconst 3, 1) := by decide +kernel
theorem dX5_checkConnection_12 : decode cX5_checkConnection 12 = .ok (.invokestatic 103, 3) := by decide +kernel
theorem dX5_checkConnection_15 : decode cX5_checkConnection 15 = .ok (.ifCond .eq 14, 3) := by decide +kernel
theorem dX5_checkConnection_18 : decode cX5_checkConnection 18 = .ok (.new 107, 3) := by decide +kernel
theorem dX5_checkConnection_21 : decode cX5_checkConnection 21 = .ok (.dup, 1) := by decide +kernel
theorem dX5_checkConnection_22 : decode cX5_checkConnection 22 = .ok (.ldc_w 332, 3) := by decide +kernel
theorem dX5_checkConnection_25 : decode cX5_checkConnection 25 = .ok (.invokespecial 111, 3) := by decide +kernel
theorem dX5_checkConnection_28 : decode cX5_checkConnection 28 = .ok (.athrow, 1) := by decide +kernel
theorem dX5_checkConnection_29 : decode cX5_checkConnection 29 = .ok (.return_, 1) := by decide +kernel
set_option maxRecDepth 20000 in
theorem ggX5_checkFlow_X5_isOutside : GoodIn wsX5_checkFlow wsX5_isOutside := goodIn_r _ [7] (by decide +kernel) (by decide +kernel)
set_option maxRecDepth 20000 in
theorem gX5_checkFlow_X5_isOutside : GoodIn wsX5_checkFlow (va_wsS RX5 103 yX5_isOutside wsX5_isOutside) := goodIn_app (goodIn_of _ (by decide +kernel)) ggX5_checkFlow_X5_isOutside
theorem dX5_checkFlow_0 : decode cX5_checkFlow 0 = .ok (.iload_n 1, 1) := by decide +kernel
theorem dX5_checkFlow_1 : decode cX5_checkFlow 1 = .ok (.iconst 0, 1) := by decide +kernel
theorem dX5_checkFlow_2 : decode cX5_checkFlow 2 = .ok (.aload_n 0, 1) := by decide +kernel
theorem dX5_checkFlow_3 : decode cX5_checkFlow 3 = .ok (.getfield 93, 3) := by decide +kernel
theorem dX5_checkFlow_6 : decode cX5_checkFlow 6 = .ok (.iconst 1, 1) := by decide +kernel
theorem dX5_checkFlow_7 : decode cX5_checkFlow 7 = .ok (.isub, 1) := by decide +kernel
theorem dX5_checkFlow_8 : decode cX5_checkFlow 8 = .ok (.invokestatic 103, 3) := by decide +kernel
theorem dX5_checkFlow_11 : decode cX5_checkFlow 11 = .ok (.ifCond .eq 14, 3) := by decide +kernel
theorem dX5_checkFlow_14 : decode cX5_checkFlow 14 = .ok (.new 334, 3) := by decide +kernel
theorem dX5_checkFlow_17 : decode cX5_checkFlow 17 = .ok (.dup, 1) := by decide +kernel
theorem dX5_checkFlow_18 : decode cX5_checkFlow 18 = .ok (.ldc_w 336, 3) := by decide +kernel
theorem dX5_checkFlow_21 : decode cX5_checkFlow 21 = .ok (.invokespecial 338, 3) := by decide +kernel
theorem dX5_checkFlow_24 : decode cX5_checkFlow 24 = .ok (.athrow, 1) := by decide +kernel
theorem dX5_checkFlow_25 : decode cX5_checkFlow 25 = .ok (.return_, 1) := by decide +kernel
set_option maxRecDepth 20000 in
theorem ggX6_init_X6_begins : GoodIn wsX6_init wsX6_begins := goodIn_r _ [42, 43, 44, 20, 21, 22, 24, 30, 31, 33, 45, 46, 47, 48, 49, 50, 51, 52, 53, 54, 55, 56, 57, 58, 59, 60, 61, 62, 63, 64, 65, 66, 67, 68, 69, 70, 71, 72, 73, 74, 75, 76, 77, 78, 79, 80] (by decide +kernel) (by decide +kernel)
set_option maxRecDepth 20000 in
theorem gX6_init_X6_begins : GoodIn wsX6_init (wsV RX6 108 RX6 yX6_begins wsX6_begins) := goodIn_app (goodIn_of _ (by decide +kernel)) ggX6_init_X6_begins
end
section
theorem dX6_init_0 : decode cX6_init 0 = .ok (.aload_n 0, 1) := by decide +kernel
theorem dX6_init_1 : decode cX6_init 1 = .ok (.invokespecial 1, 3) := by decide +kernel
theorem dX6_init_4 : decode cX6_init 4 = .ok (.aload_n 0, 1) := by decide +kernel
theorem dX6_init_5 : decode cX6_init 5 = .ok (.iconst 5, 1) := by decide +kernel
theorem dX6_init_6 : decode cX6_init 6 = .ok (.putfield 7, 3) := by decide +kernel
theorem dX6_init_9 : decode cX6_init 9 = .ok (.aload_n 0, 1) := by decide +kernel
theorem dX6_init_10 : decode cX6_init 10 = .ok (.bipush 8, 2) := by decide +kernel
theorem dX6_init_12 : decode cX6_init 12 = .ok (.putfield 13, 3) := by decide +kernel
theorem dX6_init_15 : decode cX6_init 15 = .ok (.aload_n 0, 1) := by decide +kernel
theorem dX6_init_16 : decode cX6_init 16 = .ok (.bipush 24, 2) := by decide +kernel
theorem dX6_init_18 : decode cX6_init 18 = .ok (.newarray .int, 2) := by decide +kernel
theorem dX6_init_20 : decode cX6_init 20 = .ok (.putfield 16, 3) := by decide +kernel
theorem dX6_init_23 : decode cX6_init 23 = .ok (.aload_n 0, 1) := by decide +kernel
theorem dX6_init_24 : decode cX6_init 24 = .ok (.bipush 24, 2) := by decide +kernel
theorem dX6_init_26 : decode cX6_init 26 = .ok (.newarray .int, 2) := by decide +kernel
theorem dX6_init_28 : decode cX6_init 28 = .ok (.putfield 20, 3) := by decide +kernel
theorem dX6_init_31 : decode cX6_init 31 = .ok (.aload_n 0, 1) := by decide +kernel
theorem dX6_init_32 : decode cX6_init 32 = .ok (.bipush 24, 2) := by decide +kernel
theorem dX6_init_34 : decode cX6_init 34 = .ok (.newarray .int, 2) := by decide +kernel
theorem dX6_init_36 : decode cX6_init 36 = .ok (.putfield 23, 3) := by decide +kernel
theorem dX6_init_39 : decode cX6_init 39 = .ok (.aload_n 0, 1) := by decide +kernel
theorem dX6_init_40 : decode cX6_init 40 = .ok (.bipush 24, 2) := by decide +kernel
theorem dX6_init_42 : decode cX6_init 42 = .ok (.newarray .int, 2) := by decide +kernel
theorem dX6_init_44 : decode cX6_init 44 = .ok (.putfield 26, 3) := by decide +kernel
theorem dX6_init_47 : decode cX6_init 47 = .ok (.aload_n 0, 1) := by decide +kernel
theorem dX6_init_48 : decode cX6_init 48 = .ok (.bipush 24, 2) := by decide +kernel
theorem dX6_init_50 : decode cX6_init 50 = .ok (.newarray .int, 2) := by decide +kernel
theorem dX6_init_52 : decode cX6_init 52 = .ok (.putfield 29, 3) := by decide +kernel
theorem dX6_init_55 : decode cX6_init 55 = .ok (.aload_n 0, 1) := by decide +kernel
theorem dX6_init_56 : decode cX6_init 56 = .ok (.bipush 24, 2) := by decide +kernel
theorem dX6_init_58 : decode cX6_init 58 = .ok (.newarray .int, 2) := by decide +kernel
theorem dX6_init_60 : decode cX6_init 60 = .ok (.putfield 32, 3) := by decide +kernel
theorem dX6_init_63 : decode cX6_init 63 = .ok (.aload_n 0, 1) := by decide +kernel
theorem dX6_init_64 : decode cX6_init 64 = .ok (.bipush 24, 2) := by decide +kernel
theorem dX6_init_66 : decode cX6_init 66 = .ok (.newarray .int, 2) := by decide +kernel
theorem dX6_init_68 : decode cX6_init 68 = .ok (.putfield 35, 3) := by decide +kernel
theorem dX6_init_71 : decode cX6_init 71 = .ok (.aload_n 0, 1) := by decide +kernel
theorem dX6_init_72 : decode cX6_init 72 = .ok (.bipush 24, 2) := by decide +kernel
theorem dX6_init_74 : decode cX6_init 74 = .ok (.newarray .int, 2) := by decide +kernel
theorem dX6_init_76 : decode cX6_init 76 = .ok (.putfield 38, 3) := by decide +kernel
theorem dX6_init_79 : decode cX6_init 79 = .ok (.aload_n 0, 1) := by decide +kernel
theorem dX6_init_80 : decode cX6_init 80 = .ok (.bipush 24, 2) := by decide +kernel
theorem dX6_init_82 : decode cX6_init 82 = .ok (.newarray .int, 2) := by decide +kernel
theorem dX6_init_84 : decode cX6_init 84 = .ok (.putfield 41, 3) := by decide +kernel
theorem dX6_init_87 : decode cX6_init 87 = .ok (.aload_n 0, 1) := by decide +kernel
theorem dX6_init_88 : decode cX6_init 88 = .ok (.bipush 24, 2) := by decide +kernel
theorem dX6_init_90 : decode cX6_init 90 = .ok (.newarray .int, 2) := by decide +kernel
theorem dX6_init_92 : decode cX6_init 92 = .ok (.putfield 44, 3) := by decide +kernel
theorem dX6_init_95 : decode cX6_init 95 = .ok (.aload_n 0, 1) := by decide +kernel
theorem dX6_init_96 : decode cX6_init 96 = .ok (.bipush 24, 2) := by decide +kernel
theorem dX6_init_98 : decode cX6_init 98 = .ok (.newarray .int, 2) := by decide +kernel
theorem dX6_init_100 : decode cX6_init 100 = .ok (.putfield 47, 3) := by decide +kernel
theorem dX6_init_103 : decode cX6_init 103 = .ok (.aload_n 0, 1) := by decide +kernel
theorem dX6_init_104 : decode cX6_init 104 = .ok (.bipush 24, 2) := by decide +kernel
theorem dX6_init_106 : decode cX6_init 106 = .ok (.newarray .int, 2) := by decide +kernel
theorem dX6_init_108 : decode cX6_init 108 = .ok (.putfield 50, 3) := by decide +kernel
theorem dX6_init_111 : decode cX6_init 111 = .ok (.aload_n 0, 1) := by decide +kernel
theorem dX6_init_112 : decode cX6_init 112 = .ok (.bipush 24, 2) := by decide +kernel
theorem dX6_init_114 : decode cX6_init 114 = .ok (.newarray .int, 2) := by decide +kernel
theorem dX6_init_116 : decode cX6_init 116 = .ok (.putfield 53, 3) := by decide +kernel
theorem dX6_init_119 : decode cX6_init 119 = .ok (.aload_n 0, 1) := by decide +kernel
theorem dX6_init_120 : decode cX6_init 120 = .ok (.bipush 64, 2) := by decide +kernel
theorem dX6_init_122 : decode cX6_init 122 = .ok (.newarray .int, 2) := by decide +kernel
theorem dX6_init_124 : decode cX6_init 124 = .ok (.putfield 56, 3) := by decide +kernel
theorem dX6_init_127 : decode cX6_init 127 = .ok (.aload_n 0, 1) := by decide +kernel
theorem dX6_init_128 : decode cX6_init 128 = .ok (.bipush 64, 2) := by decide +kernel
theorem dX6_init_130 : decode cX6_init 130 = .ok (.newarray .int, 2) := by decide +kernel
theorem dX6_init_132 : decode cX6_init 132 = .ok (.putfield 59, 3) := by decide +kernel
theorem dX6_init_135 : decode cX6_init 135 = .ok (.aload_n 0, 1) := by decide +kernel
theorem dX6_init_136 : decode cX6_init 136 = .ok (.bipush 64, 2) := by decide +kernel
theorem dX6_init_138 : decode cX6_init 138 = .ok (.newarray .int, 2) := by decide +kernel
theorem dX6_init_140 : decode cX6_init 140 = .ok (.putfield 62, 3) := by decide +kernel
theorem dX6_init_143 : decode cX6_init 143 = .ok (.aload_n 0, 1) := by decide +kernel
theorem dX6_init_144 : decode cX6_init 144 = .ok (.bipush 64, 2) := by decide +kernel
theorem dX6_init_146 : decode cX6_init 146 = .ok (.newarray .int, 2) := by decide +kernel
theorem dX6_init_148 : decode cX6_init 148 = .ok (.putfield 65, 3) := by decide +kernel
theorem dX6_init_151 : decode cX6_init 151 = .ok (.aload_n 0, 1) := by decide +kernel
theorem dX6_init_152 : decode cX6_init 152 = .ok (.sipush 512, 3) := by decide +kernel
theorem dX6_init_155 : decode cX6_init 155 = .ok (.newarray .int, 2) := by decide +kernel
theorem dX6_init_157 : decode cX6_init 157 = .ok (.putfield 68, 3) := by decide +kernel
theorem dX6_init_160 : decode cX6_init 160 = .ok (.aload_n 0, 1) := by decide +kernel
theorem dX6_init_161 : decode cX6_init 161 = .ok (.sipush 256, 3) := by decide +kernel
theorem dX6_init_164 : decode cX6_init 164 = .ok (.newarray .int, 2) := by decide +kernel
theorem dX6_init_166 : decode cX6_init 166 = .ok (.putfield 71, 3) := by decide +kernel
theorem dX6_init_169 : decode cX6_init 169 = .ok (.aload_n 0, 1) := by decide +kernel
theorem dX6_init_170 : decode cX6_init 170 = .ok (.sipush 256, 3) := by decide +kernel
theorem dX6_init_173 : decode cX6_init 173 = .ok (.newarray .int, 2) := by decide +kernel
theorem dX6_init_175 : decode cX6_init 175 = .ok (.putfield 74, 3) := by decide +kernel
theorem dX6_init_178 : decode cX6_init 178 = .ok (.aload_n 0, 1) := by decide +kernel
theorem dX6_init_179 : decode cX6_init 179 = .ok (.sipush 256, 3) := by decide +kernel
theorem dX6_init_182 : decode cX6_init 182 = .ok (.newarray .int, 2) := by decide +kernel
theorem dX6_init_184 : decode cX6_init 184 = .ok (.putfield 77, 3) := by decide +kernel
theorem dX6_init_187 : decode cX6_init 187 = .ok (.aload_n 0, 1) := by decide +kernel
theorem dX6_init_188 : decode cX6_init 188 = .ok (.sipush 256, 3) := by decide +kernel
theorem dX6_init_191 : decode cX6_init 191 = .ok (.newarray .int, 2) := by decide +kernel
theorem dX6_init_193 : decode cX6_init 193 = .ok (.putfield 80, 3) := by decide +kernel
theorem dX6_init_196 : decode cX6_init 196 = .ok (.aload_n 0, 1) := by decide +kernel
theorem dX6_init_197 : decode cX6_init 197 = .ok (.bipush 16, 2) := by decide +kernel
theorem dX6_init_199 : decode cX6_init 199 = .ok (.newarray .boolean, 2) := by decide +kernel
theorem dX6_init_201 : decode cX6_init 201 = .ok (.putfield 83, 3) := by decide +kernel
theorem dX6_init_204 : decode cX6_init 204 = .ok (.aload_n 0, 1) := by decide +kernel
theorem dX6_init_205 : decode cX6_init 205 = .ok (.bipush 16, 2) := by decide +kernel
theorem dX6_init_207 : decode cX6_init 207 = .ok (.newarray .int, 2) := by decide +kernel
theorem dX6_init_209 : decode cX6_init 209 = .ok (.putfield 87, 3) := by decide +kernel
theorem dX6_init_212 : decode cX6_init 212 = .ok (.aload_n 0, 1) := by decide +kernel
theorem dX6_init_213 : decode cX6_init 213 = .ok (.bipush 16, 2) := by decide +kernel
theorem dX6_init_215 : decode cX6_init 215 = .ok (.newarray .int, 2) := by decide +kernel
theorem dX6_init_217 : decode cX6_init 217 = .ok (.putfield 90, 3) := by decide +kernel
theorem dX6_init_220 : decode cX6_init 220 = .ok (.aload_n 0, 1) := by decide +kernel
theorem dX6_init_221 : decode cX6_init 221 = .ok (.bipush 16, 2) := by decide +kernel
theorem dX6_init_223 : decode cX6_init 223 = .ok (.newarray .int, 2) := by decide +kernel
theorem dX6_init_225 : decode cX6_init 225 = .ok (.putfield 93, 3) := by decide +kernel
theorem dX6_init_228 : decode cX6_init 228 = .ok (.aload_n 0, 1) := by decide +kernel
theorem dX6_init_229 : decode cX6_init 229 = .ok (.bipush 64, 2) := by decide +kernel
theorem dX6_init_231 : decode cX6_init 231 = .ok (.newarray .int, 2) := by decide +kernel
theorem dX6_init_233 : decode cX6_init 233 = .ok (.putfield 96, 3) := by decide +kernel
theorem dX6_init_236 : decode cX6_init 236 = .ok (.aload_n 0, 1) := by decide +kernel
theorem dX6_init_237 : decode cX6_init 237 = .ok (.bipush 64, 2) := by decide +kernel
theorem dX6_init_239 : decode cX6_init 239 = .ok (.newarray .int, 2) := by decide +kernel
theorem dX6_init_241 : decode cX6_init 241 = .ok (.putfield 99, 3) := by decide +kernel
theorem dX6_init_244 : decode cX6_init 244 = .ok (.aload_n 0, 1) := by decide +kernel
theorem dX6_init_245 : decode cX6_init 245 = .ok (.bipush 64, 2) := by decide +kernel
theorem dX6_init_247 : decode cX6_init 247 = .ok (.newarray .int, 2) := by decide +kernel
theorem dX6_init_249 : decode cX6_init 249 = .ok (.putfield 102, 3) := by decide +kernel
theorem dX6_init_252 : decode cX6_init 252 = .ok (.aload_n 0, 1) := by decide +kernel
theorem dX6_init_253 : decode cX6_init 253 = .ok (.bipush 64, 2) := by decide +kernel
theorem dX6_init_255 : decode cX6_init 255 = .ok (.newarray .int, 2) := by decide +kernel
theorem dX6_init_257 : decode cX6_init 257 = .ok (.putfield 105, 3) := by decide +kernel
theorem dX6_init_260 : decode cX6_init 260 = .ok (.aload_n 0, 1) := by decide +kernel
theorem dX6_init_261 : decode cX6_init 261 = .ok (.invokevirtual 108, 3) := by decide +kernel
theorem dX6_init_264 : decode cX6_init 264 = .ok (.return_, 1) := by decide +kernel
theorem dX6_thrown_0 : decode cX6_thrown 0 = .ok (.aload_n 0, 1) := by decide +kernel
theorem dX6_thrown_1 : decode cX6_thrown 1 = .ok (.getfield 111, 3) := by decide +kernel
theorem dX6_thrown_4 : decode cX6_thrown 4 = .ok (.ireturn, 1) := by decide +kernel
theorem dX6_goes_0 : decode cX6_goes 0 = .ok (.aload_n 0, 1) := by decide +kernel
theorem dX6_goes_1 : decode cX6_goes 1 = .ok (.iload_n 1, 1) := by decide +kernel
theorem dX6_goes_2 : decode cX6_goes 2 = .ok (.putfield 111, 3) := by decide +kernel
theorem dX6_goes_5 : decode cX6_goes 5 = .ok (.iload_n 1, 1) := by decide +kernel
theorem dX6_goes_6 : decode cX6_goes 6 = .ok (.ifCond .ne 7, 3) := by decide +kernel
theorem dX6_goes_9 : decode cX6_goes 9 = .ok (.iconst 1, 1) := by decide +kernel
theorem dX6_goes_10 : decode cX6_goes 10 = .ok (.goto 4, 3) := by decide +kernel
theorem dX6_goes_13 : decode cX6_goes 13 = .ok (.iconst 0, 1) := by decide +kernel
theorem dX6_goes_14 : decode cX6_goes 14 = .ok (.ireturn, 1) := by decide +kernel
theorem dX6_isIn_0 : decode cX6_isIn 0 = .ok (.iload_n 0, 1) := by decide +kernel
theorem dX6_isIn_1 : decode cX6_isIn 1 = .ok (.iload_n 1, 1) := by decide +kernel
theorem dX6_isIn_2 : decode cX6_isIn 2 = .ok (.if_icmp .lt 12, 3) := by decide +kernel
theorem dX6_isIn_5 : decode cX6_isIn 5 = .ok (.iload_n 0, 1) := by decide +kernel
theorem dX6_isIn_6 : decode cX6_isIn 6 = .ok (.iload_n 2, 1) := by decide +kernel
theorem dX6_isIn_7 : decode cX6_isIn 7 = .ok (.if_icmp .gt 7, 3) := by decide +kernel
theorem dX6_isIn_10 : decode cX6_isIn 10 = .ok (.iconst 1, 1) := by decide +kernel
theorem dX6_isIn_11 : decode cX6_isIn 11 = .ok (.goto 4, 3) := by decide +kernel
theorem dX6_isIn_14 : decode cX6_isIn 14 = .ok (.iconst 0, 1) := by decide +kernel
theorem dX6_isIn_15 : decode cX6_isIn 15 = .ok (.ireturn, 1) := by decide +kernel
set_option maxRecDepth 20000 in
theorem ggX6_isHost_X6_isIn : GoodIn wsX6_isHost wsX6_isIn := goodIn_r _ [4] (by decide +kernel) (by decide +kernel)
set_option maxRecDepth 20000 in
theorem gX6_isHost_X6_isIn : GoodIn wsX6_isHost (va_wsS RX6 114 yX6_isIn wsX6_isIn) := goodIn_app (goodIn_of _ (by decide +kernel)) ggX6_isHost_X6_isIn
theorem dX6_isHost_0 : decode cX6_isHost 0 = .ok (.iload_n 0, 1) := by decide +kernel
theorem dX6_isHost_1 : decode cX6_isHost 1 = .ok (.iconst 0, 1) := by decide +kernel
theorem dX6_isHost_2 : decode cX6_isHost 2 = .ok (.bipush 15, 2) := by decide +kernel
theorem dX6_isHost_4 : decode cX6_isHost 4 = .ok (.invokestatic 114, 3) := by decide +kernel
theorem dX6_isHost_7 : decode cX6_isHost 7 = .ok (.ireturn, 1) := by decide +kernel
set_option maxRecDepth 20000 in
theorem ggX6_areFour_X6_isIn : GoodIn wsX6_areFour wsX6_isIn := goodIn_r _ [4] (by decide +kernel) (by decide +kernel)
set_option maxRecDepth 20000 in
theorem gX6_areFour_X6_isIn : GoodIn wsX6_areFour (va_wsS RX6 114 yX6_isIn wsX6_isIn) := goodIn_app (goodIn_of _ (by decide +kernel)) ggX6_areFour_X6_isIn
theorem dX6_areFour_0 : decode cX6_areFour 0 = .ok (.iload_n 0, 1) := by decide +kernel
theorem dX6_areFour_1 : decode cX6_areFour 1 = .ok (.iconst 0, 1) := by decide +kernel
theorem dX6_areFour_2 : decode cX6_areFour 2 = .ok (.iconst 3, 1) := by decide +kernel
theorem dX6_areFour_3 : decode cX6_areFour 3 = .ok (.invokestatic 114, 3) := by decide +kernel
theorem dX6_areFour_6 : decode cX6_areFour 6 = .ok (.ifCond .eq 16, 3) := by decide +kernel
theorem dX6_areFour_9 : decode cX6_areFour 9 = .ok (.iload_n 1, 1) := by decide +kernel
theorem dX6_areFour_10 : decode cX6_areFour 10 = .ok (.iconst 0, 1) := by decide +kernel
theorem dX6_areFour_11 : decode cX6_areFour 11 = .ok (.iconst 3, 1) := by decide +kernel
theorem dX6_areFour_12 : decode cX6_areFour 12 = .ok (.invokestatic 114, 3) := by decide +kernel
theorem dX6_areFour_15 : decode cX6_areFour 15 = .ok (.ifCond .eq 7, 3) := by decide +kernel
theorem dX6_areFour_18 : decode cX6_areFour 18 = .ok (.iconst 1, 1) := by decide +kernel
theorem dX6_areFour_19 : decode cX6_areFour 19 = .ok (.goto 4, 3) := by decide +kernel
theorem dX6_areFour_22 : decode cX6_areFour 22 = .ok (.iconst 0, 1) := by decide +kernel
theorem dX6_areFour_23 : decode cX6_areFour 23 = .ok (.ireturn, 1) := by decide +kernel
set_option maxRecDepth 20000 in
theorem ggX6_isFlow_X6_isIn : GoodIn wsX6_isFlow wsX6_isIn := goodIn_r _ [5] (by decide +kernel) (by decide +kernel)
set_option maxRecDepth 20000 in
theorem gX6_isFlow_X6_isIn : GoodIn wsX6_isFlow (va_wsS RX6 114 yX6_isIn wsX6_isIn) := goodIn_app (goodIn_of _ (by decide +kernel)) ggX6_isFlow_X6_isIn
theorem dX6_isFlow_0 : decode cX6_isFlow 0 = .ok (.iload_n 1, 1) := by decide +kernel
theorem dX6_isFlow_1 : decode cX6_isFlow 1 = .ok (.iconst 0, 1) := by decide +kernel
theorem dX6_isFlow_2 : decode cX6_isFlow 2 = .ok (.aload_n 0, 1) := by decide +kernel
theorem dX6_isFlow_3 : decode cX6_isFlow 3 = .ok (.getfield 118, 3) := by decide +kernel
theorem dX6_isFlow_6 : decode cX6_isFlow 6 = .ok (.iconst 1, 1) := by decide +kernel
theorem dX6_isFlow_7 : decode cX6_isFlow 7 = .ok (.isub, 1) := by decide +kernel
theorem dX6_isFlow_8 : decode cX6_isFlow 8 = .ok (.invokestatic 114, 3) := by decide +kernel
theorem dX6_isFlow_11 : decode cX6_isFlow 11 = .ok (.ireturn, 1) := by decide +kernel
theorem dX6_begins_0 : decode cX6_begins 0 = .ok (.aload_n 0, 1) := by decide +kernel
theorem dX6_begins_1 : decode cX6_begins 1 = .ok (.iconst 0, 1) := by decide +kernel
theorem dX6_begins_2 : decode cX6_begins 2 = .ok (.putfield 121, 3) := by decide +kernel
theorem dX6_begins_5 : decode cX6_begins 5 = .ok (.aload_n 0, 1) := by decide +kernel
theorem dX6_begins_6 : decode cX6_begins 6 = .ok (.iconst 0, 1) := by decide +kernel
theorem dX6_begins_7 : decode cX6_begins 7 = .ok (.putfield 118, 3) := by decide +kernel
theorem dX6_begins_10 : decode cX6_begins 10 = .ok (.iconst 0, 1) := by decide +kernel
theorem dX6_begins_11 : decode cX6_begins 11 = .ok (.istore_n 1, 1) := by decide +kernel
theorem dX6_begins_12 : decode cX6_begins 12 = .ok (.iload_n 1, 1) := by decide +kernel
theorem dX6_begins_13 : decode cX6_begins 13 = .ok (.bipush 64, 2) := by decide +kernel
theorem dX6_begins_15 : decode cX6_begins 15 = .ok (.if_icmp .ge 30, 3) := by decide +kernel
theorem dX6_begins_18 : decode cX6_begins 18 = .ok (.aload_n 0, 1) := by decide +kernel
theorem dX6_begins_19 : decode cX6_begins 19 = .ok (.getfield 56, 3) := by decide +kernel
theorem dX6_begins_22 : decode cX6_begins 22 = .ok (.iload_n 1, 1) := by decide +kernel
theorem dX6_begins_23 : decode cX6_begins 23 = .ok (.iconst 4, 1) := by decide +kernel
theorem dX6_begins_24 : decode cX6_begins 24 = .ok (.iastore, 1) := by decide +kernel
theorem dX6_begins_25 : decode cX6_begins 25 = .ok (.aload_n 0, 1) := by decide +kernel
theorem dX6_begins_26 : decode cX6_begins 26 = .ok (.getfield 59, 3) := by decide +kernel
theorem dX6_begins_29 : decode cX6_begins 29 = .ok (.iload_n 1, 1) := by decide +kernel
theorem dX6_begins_30 : decode cX6_begins 30 = .ok (.iconst 0, 1) := by decide +kernel
theorem dX6_begins_31 : decode cX6_begins 31 = .ok (.iastore, 1) := by decide +kernel
theorem dX6_begins_32 : decode cX6_begins 32 = .ok (.aload_n 0, 1) := by decide +kernel
theorem dX6_begins_33 : decode cX6_begins 33 = .ok (.getfield 62, 3) := by decide +kernel
theorem dX6_begins_36 : decode cX6_begins 36 = .ok (.iload_n 1, 1) := by decide +kernel
theorem dX6_begins_37 : decode cX6_begins 37 = .ok (.iconst (-1), 1) := by decide +kernel
theorem dX6_begins_38 : decode cX6_begins 38 = .ok (.iastore, 1) := by decide +kernel
theorem dX6_begins_39 : decode cX6_begins 39 = .ok (.iinc 1 1, 3) := by decide +kernel
theorem dX6_begins_42 : decode cX6_begins 42 = .ok (.goto (-30), 3) := by decide +kernel
theorem dX6_begins_45 : decode cX6_begins 45 = .ok (.iconst 0, 1) := by decide +kernel
theorem dX6_begins_46 : decode cX6_begins 46 = .ok (.istore_n 1, 1) := by decide +kernel
theorem dX6_begins_47 : decode cX6_begins 47 = .ok (.iload_n 1, 1) := by decide +kernel
theorem dX6_begins_48 : decode cX6_begins 48 = .ok (.sipush 512, 3) := by decide +kernel
theorem dX6_begins_51 : decode cX6_begins 51 = .ok (.if_icmp .ge 16, 3) := by decide +kernel
theorem dX6_begins_54 : decode cX6_begins 54 = .ok (.aload_n 0, 1) := by decide +kernel
theorem dX6_begins_55 : decode cX6_begins 55 = .ok (.getfield 68, 3) := by decide +kernel
theorem dX6_begins_58 : decode cX6_begins 58 = .ok (.iload_n 1, 1) := by decide +kernel
theorem dX6_begins_59 : decode cX6_begins 59 = .ok (.iconst 0, 1) := by decide +kernel
theorem dX6_begins_60 : decode cX6_begins 60 = .ok (.iastore, 1) := by decide +kernel
theorem dX6_begins_61 : decode cX6_begins 61 = .ok (.iinc 1 1, 3) := by decide +kernel
theorem dX6_begins_64 : decode cX6_begins 64 = .ok (.goto (-17), 3) := by decide +kernel
theorem dX6_begins_67 : decode cX6_begins 67 = .ok (.iconst 0, 1) := by decide +kernel
theorem dX6_begins_68 : decode cX6_begins 68 = .ok (.istore_n 1, 1) := by decide +kernel
theorem dX6_begins_69 : decode cX6_begins 69 = .ok (.iload_n 1, 1) := by decide +kernel
theorem dX6_begins_70 : decode cX6_begins 70 = .ok (.bipush 16, 2) := by decide +kernel
theorem dX6_begins_72 : decode cX6_begins 72 = .ok (.if_icmp .ge 30, 3) := by decide +kernel
theorem dX6_begins_75 : decode cX6_begins 75 = .ok (.aload_n 0, 1) := by decide +kernel
theorem dX6_begins_76 : decode cX6_begins 76 = .ok (.getfield 83, 3) := by decide +kernel
theorem dX6_begins_79 : decode cX6_begins 79 = .ok (.iload_n 1, 1) := by decide +kernel
theorem dX6_begins_80 : decode cX6_begins 80 = .ok (.iconst 0, 1) := by decide +kernel
theorem dX6_begins_81 : decode cX6_begins 81 = .ok (.bastore, 1) := by decide +kernel
theorem dX6_begins_82 : decode cX6_begins 82 = .ok (.aload_n 0, 1) := by decide +kernel
theorem dX6_begins_83 : decode cX6_begins 83 = .ok (.getfield 87, 3) := by decide +kernel
theorem dX6_begins_86 : decode cX6_begins 86 = .ok (.iload_n 1, 1) := by decide +kernel
theorem dX6_begins_87 : decode cX6_begins 87 = .ok (.iconst (-1), 1) := by decide +kernel
theorem dX6_begins_88 : decode cX6_begins 88 = .ok (.iastore, 1) := by decide +kernel
theorem dX6_begins_89 : decode cX6_begins 89 = .ok (.aload_n 0, 1) := by decide +kernel
theorem dX6_begins_90 : decode cX6_begins 90 = .ok (.getfield 93, 3) := by decide +kernel
theorem dX6_begins_93 : decode cX6_begins 93 = .ok (.iload_n 1, 1) := by decide +kernel
theorem dX6_begins_94 : decode cX6_begins 94 = .ok (.iconst 0, 1) := by decide +kernel
theorem dX6_begins_95 : decode cX6_begins 95 = .ok (.iastore, 1) := by decide +kernel
theorem dX6_begins_96 : decode cX6_begins 96 = .ok (.iinc 1 1, 3) := by decide +kernel
theorem dX6_begins_99 : decode cX6_begins 99 = .ok (.goto (-30), 3) := by decide +kernel
theorem dX6_begins_102 : decode cX6_begins 102 = .ok (.return_, 1) := by decide +kernel
set_option maxRecDepth 20000 in
theorem ggX6_reset_X6_isIn : GoodIn wsX6_reset wsX6_isIn := goodIn_r _ [7] (by decide +kernel) (by decide +kernel)
set_option maxRecDepth 20000 in
theorem gX6_reset_X6_isIn : GoodIn wsX6_reset (va_wsS RX6 114 yX6_isIn wsX6_isIn) := goodIn_app (goodIn_of _ (by decide +kernel)) ggX6_reset_X6_isIn
set_option maxRecDepth 20000 in
theorem ggX6_reset_X6_goes : GoodIn wsX6_reset wsX6_goes := goodIn_r _ [11, 12, 26, 27, 28, 29, 30, 31, 32, 33, 34, 35, 36, 37, 38, 39, 40, 41, 42, 43, 44, 45, 46, 47, 48, 49, 50, 51, 52, 53, 54, 55, 56, 57, 58, 59, 60, 61] (by decide +kernel) (by decide +kernel)
set_option maxRecDepth 20000 in
theorem gX6_reset_X6_goes : GoodIn wsX6_reset (wsV RX6 124 RX6 yX6_goes wsX6_goes) := goodIn_app (goodIn_of _ (by decide +kernel)) ggX6_reset_X6_goes
set_option maxRecDepth 20000 in
theorem ggX6_reset_X6_begins : GoodIn wsX6_reset wsX6_begins := goodIn_r _ [16, 17, 18, 19, 20, 21, 22, 23, 24, 25, 26, 27, 28, 29, 30, 31, 32, 33, 34, 35, 36, 37, 38, 39, 40, 41, 42, 43, 44, 45, 46, 47, 48, 49, 50, 51, 52, 53, 54, 55, 56, 57, 58, 59, 60, 61] (by decide +kernel) (by decide +kernel)
set_option maxRecDepth 20000 in
theorem gX6_reset_X6_begins : GoodIn wsX6_reset (wsV RX6 108 RX6 yX6_begins wsX6_begins) := goodIn_app (goodIn_of _ (by decide +kernel)) ggX6_reset_X6_begins
theorem dX6_reset_0 : decode cX6_reset 0 = .ok (.aload_n 0, 1) := by decide +kernel
theorem dX6_reset_1 : decode cX6_reset 1 = .ok (.iload_n 1, 1) := by decide +kernel
theorem dX6_reset_2 : decode cX6_reset 2 = .ok (.iconst 0, 1) := by decide +kernel
theorem dX6_reset_3 : decode cX6_reset 3 = .ok (.iconst 5, 1) := by decide +kernel
theorem dX6_reset_4 : decode cX6_reset 4 = .ok (.invokestatic 114, 3) := by decide +kernel
theorem dX6_reset_7 : decode cX6_reset 7 = .ok (.ifCond .eq 27, 3) := by decide +kernel
theorem dX6_reset_10 : decode cX6_reset 10 = .ok (.iload_n 2, 1) := by decide +kernel
theorem dX6_reset_11 : decode cX6_reset 11 = .ok (.iconst 1, 1) := by decide +kernel
theorem dX6_reset_12 : decode cX6_reset 12 = .ok (.bipush 50, 2) := by decide +kernel
theorem dX6_reset_14 : decode cX6_reset 14 = .ok (.invokestatic 114, 3) := by decide +kernel
theorem dX6_reset_17 : decode cX6_reset 17 = .ok (.ifCond .eq 17, 3) := by decide +kernel
theorem dX6_reset_20 : decode cX6_reset 20 = .ok (.iload_n 3, 1) := by decide +kernel
theorem dX6_reset_21 : decode cX6_reset 21 = .ok (.iconst 1, 1) := by decide +kernel
theorem dX6_reset_22 : decode cX6_reset 22 = .ok (.bipush 16, 2) := by decide +kernel
theorem dX6_reset_24 : decode cX6_reset 24 = .ok (.invokestatic 114, 3) := by decide +kernel
theorem dX6_reset_27 : decode cX6_reset 27 = .ok (.ifCond .eq 7, 3) := by decide +kernel
theorem dX6_reset_30 : decode cX6_reset 30 = .ok (.iconst 0, 1) := by decide +kernel
theorem dX6_reset_31 : decode cX6_reset 31 = .ok (.goto 4, 3) := by decide +kernel
theorem dX6_reset_34 : decode cX6_reset 34 = .ok (.iconst 1, 1) := by decide +kernel
theorem dX6_reset_35 : decode cX6_reset 35 = .ok (.invokevirtual 124, 3) := by decide +kernel
theorem dX6_reset_38 : decode cX6_reset 38 = .ok (.ifCond .eq 22, 3) := by decide +kernel
theorem dX6_reset_41 : decode cX6_reset 41 = .ok (.aload_n 0, 1) := by decide +kernel
theorem dX6_reset_42 : decode cX6_reset 42 = .ok (.iload_n 1, 1) := by decide +kernel
theorem dX6_reset_43 : decode cX6_reset 43 = .ok (.putfield 128, 3) := by decide +kernel
theorem dX6_reset_46 : decode cX6_reset 46 = .ok (.aload_n 0, 1) := by decide +kernel
theorem dX6_reset_47 : decode cX6_reset 47 = .ok (.iload_n 2, 1) := by decide +kernel
theorem dX6_reset_48 : decode cX6_reset 48 = .ok (.putfield 7, 3) := by decide +kernel
theorem dX6_reset_51 : decode cX6_reset 51 = .ok (.aload_n 0, 1) := by decide +kernel
theorem dX6_reset_52 : decode cX6_reset 52 = .ok (.iload_n 3, 1) := by decide +kernel
theorem dX6_reset_53 : decode cX6_reset 53 = .ok (.putfield 13, 3) := by decide +kernel
theorem dX6_reset_56 : decode cX6_reset 56 = .ok (.aload_n 0, 1) := by decide +kernel
theorem dX6_reset_57 : decode cX6_reset 57 = .ok (.invokevirtual 108, 3) := by decide +kernel
theorem dX6_reset_60 : decode cX6_reset 60 = .ok (.return_, 1) := by decide +kernel
set_option maxRecDepth 20000 in
theorem ggX6_addFlow_X6_isHost : GoodIn wsX6_addFlow wsX6_isHost := goodIn_r _ [19, 20, 21, 18, 22] (by decide +kernel) (by decide +kernel)
set_option maxRecDepth 20000 in
theorem gX6_addFlow_X6_isHost : GoodIn wsX6_addFlow (va_wsS RX6 131 yX6_isHost wsX6_isHost) := goodIn_app (goodIn_of _ (by decide +kernel)) ggX6_addFlow_X6_isHost
set_option maxRecDepth 20000 in
theorem ggX6_addFlow_X6_isIn : GoodIn wsX6_addFlow wsX6_isIn := goodIn_r _ [22] (by decide +kernel) (by decide +kernel)
set_option maxRecDepth 20000 in
theorem gX6_addFlow_X6_isIn : GoodIn wsX6_addFlow (va_wsS RX6 114 yX6_isIn wsX6_isIn) := goodIn_app (goodIn_of _ (by decide +kernel)) ggX6_addFlow_X6_isIn
set_option maxRecDepth 20000 in
theorem ggX6_addFlow_X6_goes : GoodIn wsX6_addFlow wsX6_goes := goodIn_r _ [26, 27, 28, 29, 30, 31, 32, 33, 34, 35, 36, 37, 38, 39, 40, 41, 42, 43, 44, 45, 46, 47, 48, 49, 50, 51, 52, 53, 54, 55, 56, 57, 58, 59, 60, 61, 62, 63] (by decide +kernel) (by decide +kernel)
set_option maxRecDepth 20000 in
theorem gX6_addFlow_X6_goes : GoodIn wsX6_addFlow (wsV RX6 124 RX6 yX6_goes wsX6_goes) := goodIn_app (goodIn_of _ (by decide +kernel)) ggX6_addFlow_X6_goes
theorem dX6_addFlow_0 : decode cX6_addFlow 0 = .ok (.iload_n 1, 1) := by decide +kernel
theorem dX6_addFlow_1 : decode cX6_addFlow 1 = .ok (.invokestatic 131, 3) := by decide +kernel
theorem dX6_addFlow_4 : decode cX6_addFlow 4 = .ok (.ifCond .eq 40, 3) := by decide +kernel
theorem dX6_addFlow_7 : decode cX6_addFlow 7 = .ok (.iload_n 2, 1) := by decide +kernel
theorem dX6_addFlow_8 : decode cX6_addFlow 8 = .ok (.invokestatic 131, 3) := by decide +kernel
theorem dX6_addFlow_11 : decode cX6_addFlow 11 = .ok (.ifCond .eq 33, 3) := by decide +kernel
theorem dX6_addFlow_14 : decode cX6_addFlow 14 = .ok (.iload_n 1, 1) := by decide +kernel
theorem dX6_addFlow_15 : decode cX6_addFlow 15 = .ok (.iload_n 2, 1) := by decide +kernel
theorem dX6_addFlow_16 : decode cX6_addFlow 16 = .ok (.if_icmp .eq 28, 3) := by decide +kernel
theorem dX6_addFlow_19 : decode cX6_addFlow 19 = .ok (.iload_n 3, 1) := by decide +kernel
theorem dX6_addFlow_20 : decode cX6_addFlow 20 = .ok (.iconst 1, 1) := by decide +kernel
theorem dX6_addFlow_21 : decode cX6_addFlow 21 = .ok (.bipush 100, 2) := by decide +kernel
theorem dX6_addFlow_23 : decode cX6_addFlow 23 = .ok (.invokestatic 114, 3) := by decide +kernel
theorem dX6_addFlow_26 : decode cX6_addFlow 26 = .ok (.ifCond .eq 18, 3) := by decide +kernel
theorem dX6_addFlow_29 : decode cX6_addFlow 29 = .ok (.iload 4, 2) := by decide +kernel
theorem dX6_addFlow_31 : decode cX6_addFlow 31 = .ok (.iconst 0, 1) := by decide +kernel
theorem dX6_addFlow_32 : decode cX6_addFlow 32 = .ok (.bipush 100, 2) := by decide +kernel
theorem dX6_addFlow_34 : decode cX6_addFlow 34 = .ok (.invokestatic 114, 3) := by decide +kernel
theorem dX6_addFlow_37 : decode cX6_addFlow 37 = .ok (.ifCond .eq 7, 3) := by decide +kernel
theorem dX6_addFlow_40 : decode cX6_addFlow 40 = .ok (.iconst 1, 1) := by decide +kernel
theorem dX6_addFlow_41 : decode cX6_addFlow 41 = .ok (.goto 4, 3) := by decide +kernel
theorem dX6_addFlow_44 : decode cX6_addFlow 44 = .ok (.iconst 0, 1) := by decide +kernel
theorem dX6_addFlow_45 : decode cX6_addFlow 45 = .ok (.istore 5, 2) := by decide +kernel
theorem dX6_addFlow_47 : decode cX6_addFlow 47 = .ok (.aload_n 0, 1) := by decide +kernel
theorem dX6_addFlow_48 : decode cX6_addFlow 48 = .ok (.iload 5, 2) := by decide +kernel
theorem dX6_addFlow_50 : decode cX6_addFlow 50 = .ok (.ifCond .ne 7, 3) := by decide +kernel
theorem dX6_addFlow_53 : decode cX6_addFlow 53 = .ok (.iconst 1, 1) := by decide +kernel
theorem dX6_addFlow_54 : decode cX6_addFlow 54 = .ok (.goto 17, 3) := by decide +kernel
theorem dX6_addFlow_57 : decode cX6_addFlow 57 = .ok (.aload_n 0, 1) := by decide +kernel
theorem dX6_addFlow_58 : decode cX6_addFlow 58 = .ok (.getfield 118, 3) := by decide +kernel
theorem dX6_addFlow_61 : decode cX6_addFlow 61 = .ok (.bipush 24, 2) := by decide +kernel
theorem dX6_addFlow_63 : decode cX6_addFlow 63 = .ok (.if_icmp .ne 7, 3) := by decide +kernel
theorem dX6_addFlow_66 : decode cX6_addFlow 66 = .ok (.iconst 2, 1) := by decide +kernel
theorem dX6_addFlow_67 : decode cX6_addFlow 67 = .ok (.goto 4, 3) := by decide +kernel
theorem dX6_addFlow_70 : decode cX6_addFlow 70 = .ok (.iconst 0, 1) := by decide +kernel
theorem dX6_addFlow_71 : decode cX6_addFlow 71 = .ok (.invokevirtual 124, 3) := by decide +kernel
theorem dX6_addFlow_74 : decode cX6_addFlow 74 = .ok (.ifCond .ne 5, 3) := by decide +kernel
theorem dX6_addFlow_77 : decode cX6_addFlow 77 = .ok (.iconst 0, 1) := by decide +kernel
theorem dX6_addFlow_78 : decode cX6_addFlow 78 = .ok (.ireturn, 1) := by decide +kernel
theorem dX6_addFlow_79 : decode cX6_addFlow 79 = .ok (.aload_n 0, 1) := by decide +kernel
theorem dX6_addFlow_80 : decode cX6_addFlow 80 = .ok (.getfield 16, 3) := by decide +kernel
theorem dX6_addFlow_83 : decode cX6_addFlow 83 = .ok (.aload_n 0, 1) := by decide +kernel
theorem dX6_addFlow_84 : decode cX6_addFlow 84 = .ok (.getfield 118, 3) := by decide +kernel
theorem dX6_addFlow_87 : decode cX6_addFlow 87 = .ok (.iload_n 1, 1) := by decide +kernel
theorem dX6_addFlow_88 : decode cX6_addFlow 88 = .ok (.iastore, 1) := by decide +kernel
theorem dX6_addFlow_89 : decode cX6_addFlow 89 = .ok (.aload_n 0, 1) := by decide +kernel
theorem dX6_addFlow_90 : decode cX6_addFlow 90 = .ok (.getfield 20, 3) := by decide +kernel
theorem dX6_addFlow_93 : decode cX6_addFlow 93 = .ok (.aload_n 0, 1) := by decide +kernel
theorem dX6_addFlow_94 : decode cX6_addFlow 94 = .ok (.getfield 118, 3) := by decide +kernel
theorem dX6_addFlow_97 : decode cX6_addFlow 97 = .ok (.iload_n 2, 1) := by decide +kernel
theorem dX6_addFlow_98 : decode cX6_addFlow 98 = .ok (.iastore, 1) := by decide +kernel
theorem dX6_addFlow_99 : decode cX6_addFlow 99 = .ok (.aload_n 0, 1) := by decide +kernel
theorem dX6_addFlow_100 : decode cX6_addFlow 100 = .ok (.getfield 23, 3) := by decide +kernel
theorem dX6_addFlow_103 : decode cX6_addFlow 103 = .ok (.aload_n 0, 1) := by decide +kernel
theorem dX6_addFlow_104 : decode cX6_addFlow 104 = .ok (.getfield 118, 3) := by decide +kernel
theorem dX6_addFlow_107 : decode cX6_addFlow 107 = .ok (.iload_n 3, 1) := by decide +kernel
theorem dX6_addFlow_108 : decode cX6_addFlow 108 = .ok (.iastore, 1) := by decide +kernel
theorem dX6_addFlow_109 : decode cX6_addFlow 109 = .ok (.aload_n 0, 1) := by decide +kernel
theorem dX6_addFlow_110 : decode cX6_addFlow 110 = .ok (.getfield 26, 3) := by decide +kernel
theorem dX6_addFlow_113 : decode cX6_addFlow 113 = .ok (.aload_n 0, 1) := by decide +kernel
theorem dX6_addFlow_114 : decode cX6_addFlow 114 = .ok (.getfield 118, 3) := by decide +kernel
theorem dX6_addFlow_117 : decode cX6_addFlow 117 = .ok (.aload_n 0, 1) := by decide +kernel
theorem dX6_addFlow_118 : decode cX6_addFlow 118 = .ok (.getfield 121, 3) := by decide +kernel
theorem dX6_addFlow_121 : decode cX6_addFlow 121 = .ok (.iload 4, 2) := by decide +kernel
theorem dX6_addFlow_123 : decode cX6_addFlow 123 = .ok (.iadd, 1) := by decide +kernel
theorem dX6_addFlow_124 : decode cX6_addFlow 124 = .ok (.iastore, 1) := by decide +kernel
theorem dX6_addFlow_125 : decode cX6_addFlow 125 = .ok (.aload_n 0, 1) := by decide +kernel
theorem dX6_addFlow_126 : decode cX6_addFlow 126 = .ok (.getfield 29, 3) := by decide +kernel
theorem dX6_addFlow_129 : decode cX6_addFlow 129 = .ok (.aload_n 0, 1) := by decide +kernel
theorem dX6_addFlow_130 : decode cX6_addFlow 130 = .ok (.getfield 118, 3) := by decide +kernel
theorem dX6_addFlow_133 : decode cX6_addFlow 133 = .ok (.iconst 0, 1) := by decide +kernel
theorem dX6_addFlow_134 : decode cX6_addFlow 134 = .ok (.iastore, 1) := by decide +kernel
theorem dX6_addFlow_135 : decode cX6_addFlow 135 = .ok (.aload_n 0, 1) := by decide +kernel
theorem dX6_addFlow_136 : decode cX6_addFlow 136 = .ok (.getfield 32, 3) := by decide +kernel
theorem dX6_addFlow_139 : decode cX6_addFlow 139 = .ok (.aload_n 0, 1) := by decide +kernel
theorem dX6_addFlow_140 : decode cX6_addFlow 140 = .ok (.getfield 118, 3) := by decide +kernel
theorem dX6_addFlow_143 : decode cX6_addFlow 143 = .ok (.iconst 0, 1) := by decide +kernel
theorem dX6_addFlow_144 : decode cX6_addFlow 144 = .ok (.iastore, 1) := by decide +kernel
theorem dX6_addFlow_145 : decode cX6_addFlow 145 = .ok (.aload_n 0, 1) := by decide +kernel
theorem dX6_addFlow_146 : decode cX6_addFlow 146 = .ok (.getfield 35, 3) := by decide +kernel
theorem dX6_addFlow_149 : decode cX6_addFlow 149 = .ok (.aload_n 0, 1) := by decide +kernel
theorem dX6_addFlow_150 : decode cX6_addFlow 150 = .ok (.getfield 118, 3) := by decide +kernel
theorem dX6_addFlow_153 : decode cX6_addFlow 153 = .ok (.iconst 0, 1) := by decide +kernel
theorem dX6_addFlow_154 : decode cX6_addFlow 154 = .ok (.iastore, 1) := by decide +kernel
theorem dX6_addFlow_155 : decode cX6_addFlow 155 = .ok (.aload_n 0, 1) := by decide +kernel
theorem dX6_addFlow_156 : decode cX6_addFlow 156 = .ok (.getfield 38, 3) := by decide +kernel
theorem dX6_addFlow_159 : decode cX6_addFlow 159 = .ok (.aload_n 0, 1) := by decide +kernel
theorem dX6_addFlow_160 : decode cX6_addFlow 160 = .ok (.getfield 118, 3) := by decide +kernel
theorem dX6_addFlow_163 : decode cX6_addFlow 163 = .ok (.iconst 0, 1) := by decide +kernel
theorem dX6_addFlow_164 : decode cX6_addFlow 164 = .ok (.iastore, 1) := by decide +kernel
theorem dX6_addFlow_165 : decode cX6_addFlow 165 = .ok (.aload_n 0, 1) := by decide +kernel
theorem dX6_addFlow_166 : decode cX6_addFlow 166 = .ok (.getfield 41, 3) := by decide +kernel
theorem dX6_addFlow_169 : decode cX6_addFlow 169 = .ok (.aload_n 0, 1) := by decide +kernel
theorem dX6_addFlow_170 : decode cX6_addFlow 170 = .ok (.getfield 118, 3) := by decide +kernel
theorem dX6_addFlow_173 : decode cX6_addFlow 173 = .ok (.iconst (-1), 1) := by decide +kernel
theorem dX6_addFlow_174 : decode cX6_addFlow 174 = .ok (.iastore, 1) := by decide +kernel
theorem dX6_addFlow_175 : decode cX6_addFlow 175 = .ok (.aload_n 0, 1) := by decide +kernel
theorem dX6_addFlow_176 : decode cX6_addFlow 176 = .ok (.getfield 44, 3) := by decide +kernel
theorem dX6_addFlow_179 : decode cX6_addFlow 179 = .ok (.aload_n 0, 1) := by decide +kernel
theorem dX6_addFlow_180 : decode cX6_addFlow 180 = .ok (.getfield 118, 3) := by decide +kernel
theorem dX6_addFlow_183 : decode cX6_addFlow 183 = .ok (.iconst (-1), 1) := by decide +kernel
theorem dX6_addFlow_184 : decode cX6_addFlow 184 = .ok (.iastore, 1) := by decide +kernel
theorem dX6_addFlow_185 : decode cX6_addFlow 185 = .ok (.aload_n 0, 1) := by decide +kernel
theorem dX6_addFlow_186 : decode cX6_addFlow 186 = .ok (.getfield 47, 3) := by decide +kernel
theorem dX6_addFlow_189 : decode cX6_addFlow 189 = .ok (.aload_n 0, 1) := by decide +kernel
theorem dX6_addFlow_190 : decode cX6_addFlow 190 = .ok (.getfield 118, 3) := by decide +kernel
theorem dX6_addFlow_193 : decode cX6_addFlow 193 = .ok (.iconst 0, 1) := by decide +kernel
theorem dX6_addFlow_194 : decode cX6_addFlow 194 = .ok (.iastore, 1) := by decide +kernel
theorem dX6_addFlow_195 : decode cX6_addFlow 195 = .ok (.aload_n 0, 1) := by decide +kernel
theorem dX6_addFlow_196 : decode cX6_addFlow 196 = .ok (.getfield 50, 3) := by decide +kernel
theorem dX6_addFlow_199 : decode cX6_addFlow 199 = .ok (.aload_n 0, 1) := by decide +kernel
theorem dX6_addFlow_200 : decode cX6_addFlow 200 = .ok (.getfield 118, 3) := by decide +kernel
theorem dX6_addFlow_203 : decode cX6_addFlow 203 = .ok (.iconst (-1), 1) := by decide +kernel
theorem dX6_addFlow_204 : decode cX6_addFlow 204 = .ok (.iastore, 1) := by decide +kernel
theorem dX6_addFlow_205 : decode cX6_addFlow 205 = .ok (.aload_n 0, 1) := by decide +kernel
theorem dX6_addFlow_206 : decode cX6_addFlow 206 = .ok (.getfield 53, 3) := by decide +kernel
theorem dX6_addFlow_209 : decode cX6_addFlow 209 = .ok (.aload_n 0, 1) := by decide +kernel
theorem dX6_addFlow_210 : decode cX6_addFlow 210 = .ok (.getfield 118, 3) := by decide +kernel
theorem dX6_addFlow_213 : decode cX6_addFlow 213 = .ok (.iconst (-1), 1) := by decide +kernel
theorem dX6_addFlow_214 : decode cX6_addFlow 214 = .ok (.iastore, 1) := by decide +kernel
theorem dX6_addFlow_215 : decode cX6_addFlow 215 = .ok (.aload_n 0, 1) := by decide +kernel
theorem dX6_addFlow_216 : decode cX6_addFlow 216 = .ok (.dup, 1) := by decide +kernel
theorem dX6_addFlow_217 : decode cX6_addFlow 217 = .ok (.getfield 118, 3) := by decide +kernel
theorem dX6_addFlow_220 : decode cX6_addFlow 220 = .ok (.iconst 1, 1) := by decide +kernel
theorem dX6_addFlow_221 : decode cX6_addFlow 221 = .ok (.iadd, 1) := by decide +kernel
theorem dX6_addFlow_222 : decode cX6_addFlow 222 = .ok (.putfield 118, 3) := by decide +kernel
theorem dX6_addFlow_225 : decode cX6_addFlow 225 = .ok (.aload_n 0, 1) := by decide +kernel
theorem dX6_addFlow_226 : decode cX6_addFlow 226 = .ok (.getfield 118, 3) := by decide +kernel
theorem dX6_addFlow_229 : decode cX6_addFlow 229 = .ok (.iconst 1, 1) := by decide +kernel
theorem dX6_addFlow_230 : decode cX6_addFlow 230 = .ok (.isub, 1) := by decide +kernel
theorem dX6_addFlow_231 : decode cX6_addFlow 231 = .ok (.ireturn, 1) := by decide +kernel
theorem dX6_north_0 : decode cX6_north 0 = .ok (.bipush 32, 2) := by decide +kernel
theorem dX6_north_2 : decode cX6_north 2 = .ok (.iconst 4, 1) := by decide +kernel
theorem dX6_north_3 : decode cX6_north 3 = .ok (.iload_n 0, 1) := by decide +kernel
theorem dX6_north_4 : decode cX6_north 4 = .ok (.imul, 1) := by decide +kernel
theorem dX6_north_5 : decode cX6_north 5 = .ok (.iadd, 1) := by decide +kernel
theorem dX6_north_6 : decode cX6_north 6 = .ok (.iload_n 1, 1) := by decide +kernel
theorem dX6_north_7 : decode cX6_north 7 = .ok (.iadd, 1) := by decide +kernel
theorem dX6_north_8 : decode cX6_north 8 = .ok (.ireturn, 1) := by decide +kernel
theorem dX6_south_0 : decode cX6_south 0 = .ok (.bipush 48, 2) := by decide +kernel
theorem dX6_south_2 : decode cX6_south 2 = .ok (.iconst 4, 1) := by decide +kernel
theorem dX6_south_3 : decode cX6_south 3 = .ok (.iload_n 0, 1) := by decide +kernel
theorem dX6_south_4 : decode cX6_south 4 = .ok (.imul, 1) := by decide +kernel
theorem dX6_south_5 : decode cX6_south 5 = .ok (.iadd, 1) := by decide +kernel
theorem dX6_south_6 : decode cX6_south 6 = .ok (.iload_n 1, 1) := by decide +kernel
theorem dX6_south_7 : decode cX6_south 7 = .ok (.iadd, 1) := by decide +kernel
theorem dX6_south_8 : decode cX6_south 8 = .ok (.ireturn, 1) := by decide +kernel
set_option maxRecDepth 20000 in
theorem ggX6_cut_X6_areFour : GoodIn wsX6_cut wsX6_areFour := goodIn_r _ [6, 7, 8, 5, 9] (by decide +kernel) (by decide +kernel)
set_option maxRecDepth 20000 in
theorem gX6_cut_X6_areFour : GoodIn wsX6_cut (va_wsS RX6 134 yX6_areFour wsX6_areFour) := goodIn_app (goodIn_of _ (by decide +kernel)) ggX6_cut_X6_areFour
set_option maxRecDepth 20000 in
theorem ggX6_cut_X6_goes : GoodIn wsX6_cut wsX6_goes := goodIn_r _ [13, 14, 21, 22, 23, 24, 25, 26, 27, 28, 29, 30, 31, 32, 33, 34, 35, 36, 37, 38, 39, 40, 41, 42, 43, 44, 45, 46, 47, 48, 49, 50, 51, 52, 53, 54, 55, 56] (by decide +kernel) (by decide +kernel)
set_option maxRecDepth 20000 in
theorem gX6_cut_X6_goes : GoodIn wsX6_cut (wsV RX6 124 RX6 yX6_goes wsX6_goes) := goodIn_app (goodIn_of _ (by decide +kernel)) ggX6_cut_X6_goes
set_option maxRecDepth 20000 in
theorem ggX6_cut_X6_north : GoodIn wsX6_cut wsX6_north := goodIn_r _ [17] (by decide +kernel) (by decide +kernel)
set_option maxRecDepth 20000 in
theorem gX6_cut_X6_north : GoodIn wsX6_cut (va_wsS RX6 138 yX6_north wsX6_north) := goodIn_app (goodIn_of _ (by decide +kernel)) ggX6_cut_X6_north
set_option maxRecDepth 20000 in
theorem ggX6_cut_X6_south : GoodIn wsX6_cut wsX6_south := goodIn_r _ [20] (by decide +kernel) (by decide +kernel)
set_option maxRecDepth 20000 in
theorem gX6_cut_X6_south : GoodIn wsX6_cut (va_wsS RX6 142 yX6_south wsX6_south) := goodIn_app (goodIn_of _ (by decide +kernel)) ggX6_cut_X6_south
theorem dX6_cut_0 : decode cX6_cut 0 = .ok (.aload_n 0, 1) := by decide +kernel
theorem dX6_cut_1 : decode cX6_cut 1 = .ok (.iload_n 1, 1) := by decide +kernel
theorem dX6_cut_2 : decode cX6_cut 2 = .ok (.iload_n 2, 1) := by decide +kernel
theorem dX6_cut_3 : decode cX6_cut 3 = .ok (.invokestatic 134, 3) := by decide +kernel
theorem dX6_cut_6 : decode cX6_cut 6 = .ok (.ifCond .ne 7, 3) := by decide +kernel
theorem dX6_cut_9 : decode cX6_cut 9 = .ok (.iconst 1, 1) := by decide +kernel
theorem dX6_cut_10 : decode cX6_cut 10 = .ok (.goto 21, 3) := by decide +kernel
theorem dX6_cut_13 : decode cX6_cut 13 = .ok (.aload_n 0, 1) := by decide +kernel
theorem dX6_cut_14 : decode cX6_cut 14 = .ok (.getfield 83, 3) := by decide +kernel
theorem dX6_cut_17 : decode cX6_cut 17 = .ok (.iconst 4, 1) := by decide +kernel
theorem dX6_cut_18 : decode cX6_cut 18 = .ok (.iload_n 1, 1) := by decide +kernel
theorem dX6_cut_19 : decode cX6_cut 19 = .ok (.imul, 1) := by decide +kernel
theorem dX6_cut_20 : decode cX6_cut 20 = .ok (.iload_n 2, 1) := by decide +kernel
theorem dX6_cut_21 : decode cX6_cut 21 = .ok (.iadd, 1) := by decide +kernel
theorem dX6_cut_22 : decode cX6_cut 22 = .ok (.baload, 1) := by decide +kernel
theorem dX6_cut_23 : decode cX6_cut 23 = .ok (.ifCond .eq 7, 3) := by decide +kernel
theorem dX6_cut_26 : decode cX6_cut 26 = .ok (.iconst 2, 1) := by decide +kernel
theorem dX6_cut_27 : decode cX6_cut 27 = .ok (.goto 4, 3) := by decide +kernel
theorem dX6_cut_30 : decode cX6_cut 30 = .ok (.iconst 0, 1) := by decide +kernel
theorem dX6_cut_31 : decode cX6_cut 31 = .ok (.invokevirtual 124, 3) := by decide +kernel
theorem dX6_cut_34 : decode cX6_cut 34 = .ok (.ifCond .ne 5, 3) := by decide +kernel
theorem dX6_cut_37 : decode cX6_cut 37 = .ok (.iconst 0, 1) := by decide +kernel
theorem dX6_cut_38 : decode cX6_cut 38 = .ok (.ireturn, 1) := by decide +kernel
theorem dX6_cut_39 : decode cX6_cut 39 = .ok (.aload_n 0, 1) := by decide +kernel
theorem dX6_cut_40 : decode cX6_cut 40 = .ok (.getfield 83, 3) := by decide +kernel
theorem dX6_cut_43 : decode cX6_cut 43 = .ok (.iconst 4, 1) := by decide +kernel
theorem dX6_cut_44 : decode cX6_cut 44 = .ok (.iload_n 1, 1) := by decide +kernel
theorem dX6_cut_45 : decode cX6_cut 45 = .ok (.imul, 1) := by decide +kernel
theorem dX6_cut_46 : decode cX6_cut 46 = .ok (.iload_n 2, 1) := by decide +kernel
theorem dX6_cut_47 : decode cX6_cut 47 = .ok (.iadd, 1) := by decide +kernel
theorem dX6_cut_48 : decode cX6_cut 48 = .ok (.iconst 1, 1) := by decide +kernel
theorem dX6_cut_49 : decode cX6_cut 49 = .ok (.bastore, 1) := by decide +kernel
theorem dX6_cut_50 : decode cX6_cut 50 = .ok (.aload_n 0, 1) := by decide +kernel
theorem dX6_cut_51 : decode cX6_cut 51 = .ok (.getfield 59, 3) := by decide +kernel
theorem dX6_cut_54 : decode cX6_cut 54 = .ok (.iload_n 1, 1) := by decide +kernel
theorem dX6_cut_55 : decode cX6_cut 55 = .ok (.iload_n 2, 1) := by decide +kernel
theorem dX6_cut_56 : decode cX6_cut 56 = .ok (.invokestatic 138, 3) := by decide +kernel
theorem dX6_cut_59 : decode cX6_cut 59 = .ok (.iaload, 1) := by decide +kernel
theorem dX6_cut_60 : decode cX6_cut 60 = .ok (.aload_n 0, 1) := by decide +kernel
theorem dX6_cut_61 : decode cX6_cut 61 = .ok (.getfield 59, 3) := by decide +kernel
theorem dX6_cut_64 : decode cX6_cut 64 = .ok (.iload_n 2, 1) := by decide +kernel
theorem dX6_cut_65 : decode cX6_cut 65 = .ok (.iload_n 1, 1) := by decide +kernel
theorem dX6_cut_66 : decode cX6_cut 66 = .ok (.invokestatic 142, 3) := by decide +kernel
theorem dX6_cut_69 : decode cX6_cut 69 = .ok (.iaload, 1) := by decide +kernel
theorem dX6_cut_70 : decode cX6_cut 70 = .ok (.iadd, 1) := by decide +kernel
theorem dX6_cut_71 : decode cX6_cut 71 = .ok (.ireturn, 1) := by decide +kernel
set_option maxRecDepth 20000 in
theorem ggX6_restore_X6_areFour : GoodIn wsX6_restore wsX6_areFour := goodIn_r _ [5, 6, 7, 4, 8] (by decide +kernel) (by decide +kernel)
set_option maxRecDepth 20000 in
theorem gX6_restore_X6_areFour : GoodIn wsX6_restore (va_wsS RX6 134 yX6_areFour wsX6_areFour) := goodIn_app (goodIn_of _ (by decide +kernel)) ggX6_restore_X6_areFour
set_option maxRecDepth 20000 in
theorem ggX6_restore_X6_goes : GoodIn wsX6_restore wsX6_goes := goodIn_r _ [12, 13, 14, 15, 16, 17, 18, 19, 20, 21, 22, 23, 24, 25, 26, 27, 28, 29, 30, 31, 32, 33, 34, 35, 36, 37, 38, 39, 40, 41, 42, 43, 44, 45, 46, 47, 48, 49] (by decide +kernel) (by decide +kernel)
set_option maxRecDepth 20000 in
theorem gX6_restore_X6_goes : GoodIn wsX6_restore (wsV RX6 124 RX6 yX6_goes wsX6_goes) := goodIn_app (goodIn_of _ (by decide +kernel)) ggX6_restore_X6_goes
theorem dX6_restore_0 : decode cX6_restore 0 = .ok (.aload_n 0, 1) := by decide +kernel
theorem dX6_restore_1 : decode cX6_restore 1 = .ok (.iload_n 1, 1) := by decide +kernel
theorem dX6_restore_2 : decode cX6_restore 2 = .ok (.iload_n 2, 1) := by decide +kernel
theorem dX6_restore_3 : decode cX6_restore 3 = .ok (.invokestatic 134, 3) := by decide +kernel
theorem dX6_restore_6 : decode cX6_restore 6 = .ok (.ifCond .ne 7, 3) := by decide +kernel
theorem dX6_restore_9 : decode cX6_restore 9 = .ok (.iconst 1, 1) := by decide +kernel
theorem dX6_restore_10 : decode cX6_restore 10 = .ok (.goto 21, 3) := by decide +kernel
theorem dX6_restore_13 : decode cX6_restore 13 = .ok (.aload_n 0, 1) := by decide +kernel
theorem dX6_restore_14 : decode cX6_restore 14 = .ok (.getfield 83, 3) := by decide +kernel
theorem dX6_restore_17 : decode cX6_restore 17 = .ok (.iconst 4, 1) := by decide +kernel
theorem dX6_restore_18 : decode cX6_restore 18 = .ok (.iload_n 1, 1) := by decide +kernel
theorem dX6_restore_19 : decode cX6_restore 19 = .ok (.imul, 1) := by decide +kernel
theorem dX6_restore_20 : decode cX6_restore 20 = .ok (.iload_n 2, 1) := by decide +kernel
theorem dX6_restore_21 : decode cX6_restore 21 = .ok (.iadd, 1) := by decide +kernel
theorem dX6_restore_22 : decode cX6_restore 22 = .ok (.baload, 1) := by decide +kernel
theorem dX6_restore_23 : decode cX6_restore 23 = .ok (.ifCond .eq 7, 3) := by decide +kernel
theorem dX6_restore_26 : decode cX6_restore 26 = .ok (.iconst 0, 1) := by decide +kernel
theorem dX6_restore_27 : decode cX6_restore 27 = .ok (.goto 4, 3) := by decide +kernel
theorem dX6_restore_30 : decode cX6_restore 30 = .ok (.iconst 2, 1) := by decide +kernel
theorem dX6_restore_31 : decode cX6_restore 31 = .ok (.invokevirtual 124, 3) := by decide +kernel
theorem dX6_restore_34 : decode cX6_restore 34 = .ok (.ifCond .ne 5, 3) := by decide +kernel
theorem dX6_restore_37 : decode cX6_restore 37 = .ok (.iconst 0, 1) := by decide +kernel
theorem dX6_restore_38 : decode cX6_restore 38 = .ok (.ireturn, 1) := by decide +kernel
theorem dX6_restore_39 : decode cX6_restore 39 = .ok (.aload_n 0, 1) := by decide +kernel
theorem dX6_restore_40 : decode cX6_restore 40 = .ok (.getfield 83, 3) := by decide +kernel
theorem dX6_restore_43 : decode cX6_restore 43 = .ok (.iconst 4, 1) := by decide +kernel
theorem dX6_restore_44 : decode cX6_restore 44 = .ok (.iload_n 1, 1) := by decide +kernel
theorem dX6_restore_45 : decode cX6_restore 45 = .ok (.imul, 1) := by decide +kernel
theorem dX6_restore_46 : decode cX6_restore 46 = .ok (.iload_n 2, 1) := by decide +kernel
theorem dX6_restore_47 : decode cX6_restore 47 = .ok (.iadd, 1) := by decide +kernel
theorem dX6_restore_48 : decode cX6_restore 48 = .ok (.iconst 0, 1) := by decide +kernel
theorem dX6_restore_49 : decode cX6_restore 49 = .ok (.bastore, 1) := by decide +kernel
theorem dX6_restore_50 : decode cX6_restore 50 = .ok (.iconst 0, 1) := by decide +kernel
theorem dX6_restore_51 : decode cX6_restore 51 = .ok (.istore_n 3, 1) := by decide +kernel
theorem dX6_restore_52 : decode cX6_restore 52 = .ok (.iconst 0, 1) := by decide +kernel
theorem dX6_restore_53 : decode cX6_restore 53 = .ok (.istore 4, 2) := by decide +kernel
theorem dX6_restore_55 : decode cX6_restore 55 = .ok (.iload 4, 2) := by decide +kernel
theorem dX6_restore_57 : decode cX6_restore 57 = .ok (.bipush 16, 2) := by decide +kernel
theorem dX6_restore_59 : decode cX6_restore 59 = .ok (.if_icmp .ge 27, 3) := by decide +kernel
theorem dX6_restore_62 : decode cX6_restore 62 = .ok (.iload_n 3, 1) := by decide +kernel
theorem dX6_restore_63 : decode cX6_restore 63 = .ok (.aload_n 0, 1) := by decide +kernel
theorem dX6_restore_64 : decode cX6_restore 64 = .ok (.getfield 83, 3) := by decide +kernel
theorem dX6_restore_67 : decode cX6_restore 67 = .ok (.iload 4, 2) := by decide +kernel
theorem dX6_restore_69 : decode cX6_restore 69 = .ok (.baload, 1) := by decide +kernel
theorem dX6_restore_70 : decode cX6_restore 70 = .ok (.ifCond .eq 7, 3) := by decide +kernel
theorem dX6_restore_73 : decode cX6_restore 73 = .ok (.iconst 1, 1) := by decide +kernel
theorem dX6_restore_74 : decode cX6_restore 74 = .ok (.goto 4, 3) := by decide +kernel
theorem dX6_restore_77 : decode cX6_restore 77 = .ok (.iconst 0, 1) := by decide +kernel
theorem dX6_restore_78 : decode cX6_restore 78 = .ok (.iadd, 1) := by decide +kernel
theorem dX6_restore_79 : decode cX6_restore 79 = .ok (.istore_n 3, 1) := by decide +kernel
theorem dX6_restore_80 : decode cX6_restore 80 = .ok (.iinc 4 1, 3) := by decide +kernel
theorem dX6_restore_83 : decode cX6_restore 83 = .ok (.goto (-28), 3) := by decide +kernel
theorem dX6_restore_86 : decode cX6_restore 86 = .ok (.iload_n 3, 1) := by decide +kernel
theorem dX6_restore_87 : decode cX6_restore 87 = .ok (.ireturn, 1) := by decide +kernel
theorem dX6_isUsable_0 : decode cX6_isUsable 0 = .ok (.aload_n 0, 1) := by decide +kernel
theorem dX6_isUsable_1 : decode cX6_isUsable 1 = .ok (.getfield 83, 3) := by decide +kernel
theorem dX6_isUsable_4 : decode cX6_isUsable 4 = .ok (.iconst 4, 1) := by decide +kernel
theorem dX6_isUsable_5 : decode cX6_isUsable 5 = .ok (.iload_n 1, 1) := by decide +kernel
theorem dX6_isUsable_6 : decode cX6_isUsable 6 = .ok (.imul, 1) := by decide +kernel
theorem dX6_isUsable_7 : decode cX6_isUsable 7 = .ok (.iload_n 3, 1) := by decide +kernel
theorem dX6_isUsable_8 : decode cX6_isUsable 8 = .ok (.iadd, 1) := by decide +kernel
theorem dX6_isUsable_9 : decode cX6_isUsable 9 = .ok (.baload, 1) := by decide +kernel
theorem dX6_isUsable_10 : decode cX6_isUsable 10 = .ok (.ifCond .ne 20, 3) := by decide +kernel
theorem dX6_isUsable_13 : decode cX6_isUsable 13 = .ok (.aload_n 0, 1) := by decide +kernel
theorem dX6_isUsable_14 : decode cX6_isUsable 14 = .ok (.getfield 83, 3) := by decide +kernel
theorem dX6_isUsable_17 : decode cX6_isUsable 17 = .ok (.iconst 4, 1) := by decide +kernel
theorem dX6_isUsable_18 : decode cX6_isUsable 18 = .ok (.iload_n 2, 1) := by decide +kernel
theorem dX6_isUsable_19 : decode cX6_isUsable 19 = .ok (.imul, 1) := by decide +kernel
theorem dX6_isUsable_20 : decode cX6_isUsable 20 = .ok (.iload_n 3, 1) := by decide +kernel
theorem dX6_isUsable_21 : decode cX6_isUsable 21 = .ok (.iadd, 1) := by decide +kernel
theorem dX6_isUsable_22 : decode cX6_isUsable 22 = .ok (.baload, 1) := by decide +kernel
theorem dX6_isUsable_23 : decode cX6_isUsable 23 = .ok (.ifCond .ne 7, 3) := by decide +kernel
theorem dX6_isUsable_26 : decode cX6_isUsable 26 = .ok (.iconst 1, 1) := by decide +kernel
theorem dX6_isUsable_27 : decode cX6_isUsable 27 = .ok (.goto 4, 3) := by decide +kernel
theorem dX6_isUsable_30 : decode cX6_isUsable 30 = .ok (.iconst 0, 1) := by decide +kernel
theorem dX6_isUsable_31 : decode cX6_isUsable 31 = .ok (.ireturn, 1) := by decide +kernel
set_option maxRecDepth 20000 in
theorem ggX6_usableSet_X6_isUsable : GoodIn wsX6_usableSet wsX6_isUsable := goodIn_r _ [5, 6, 7, 8, 9, 10, 11, 12, 13, 14, 15, 16, 17, 18, 19, 20, 21, 22, 23, 24, 25, 26, 27, 28, 29, 30, 31, 32, 33, 34, 35, 36, 37, 38, 39, 40, 41, 42] (by decide +kernel) (by decide +kernel)
set_option maxRecDepth 20000 in
theorem gX6_usableSet_X6_isUsable : GoodIn wsX6_usableSet (wsV RX6 145 RX6 yX6_isUsable wsX6_isUsable) := goodIn_app (goodIn_of _ (by decide +kernel)) ggX6_usableSet_X6_isUsable
theorem dX6_usableSet_0 : decode cX6_usableSet 0 = .ok (.iconst 0, 1) := by decide +kernel
theorem dX6_usableSet_1 : decode cX6_usableSet 1 = .ok (.istore_n 3, 1) := by decide +kernel
theorem dX6_usableSet_2 : decode cX6_usableSet 2 = .ok (.iconst 0, 1) := by decide +kernel
theorem dX6_usableSet_3 : decode cX6_usableSet 3 = .ok (.istore 4, 2) := by decide +kernel
theorem dX6_usableSet_5 : decode cX6_usableSet 5 = .ok (.iload 4, 2) := by decide +kernel
theorem dX6_usableSet_7 : decode cX6_usableSet 7 = .ok (.iconst 4, 1) := by decide +kernel
theorem dX6_usableSet_8 : decode cX6_usableSet 8 = .ok (.if_icmp .ge 31, 3) := by decide +kernel
theorem dX6_usableSet_11 : decode cX6_usableSet 11 = .ok (.iload_n 3, 1) := by decide +kernel
theorem dX6_usableSet_12 : decode cX6_usableSet 12 = .ok (.aload_n 0, 1) := by decide +kernel
theorem dX6_usableSet_13 : decode cX6_usableSet 13 = .ok (.iload_n 1, 1) := by decide +kernel
theorem dX6_usableSet_14 : decode cX6_usableSet 14 = .ok (.iload_n 2, 1) := by decide +kernel
theorem dX6_usableSet_15 : decode cX6_usableSet 15 = .ok (.iload 4, 2) := by decide +kernel
theorem dX6_usableSet_17 : decode cX6_usableSet 17 = .ok (.invokevirtual 145, 3) := by decide +kernel
theorem dX6_usableSet_20 : decode cX6_usableSet 20 = .ok (.ifCond .eq 10, 3) := by decide +kernel
theorem dX6_usableSet_23 : decode cX6_usableSet 23 = .ok (.iconst 1, 1) := by decide +kernel
theorem dX6_usableSet_24 : decode cX6_usableSet 24 = .ok (.iload 4, 2) := by decide +kernel
theorem dX6_usableSet_26 : decode cX6_usableSet 26 = .ok (.ishl, 1) := by decide +kernel
theorem dX6_usableSet_27 : decode cX6_usableSet 27 = .ok (.goto 4, 3) := by decide +kernel
theorem dX6_usableSet_30 : decode cX6_usableSet 30 = .ok (.iconst 0, 1) := by decide +kernel
theorem dX6_usableSet_31 : decode cX6_usableSet 31 = .ok (.ior, 1) := by decide +kernel
theorem dX6_usableSet_32 : decode cX6_usableSet 32 = .ok (.istore_n 3, 1) := by decide +kernel
theorem dX6_usableSet_33 : decode cX6_usableSet 33 = .ok (.iinc 4 1, 3) := by decide +kernel
theorem dX6_usableSet_36 : decode cX6_usableSet 36 = .ok (.goto (-31), 3) := by decide +kernel
theorem dX6_usableSet_39 : decode cX6_usableSet 39 = .ok (.iload_n 3, 1) := by decide +kernel
theorem dX6_usableSet_40 : decode cX6_usableSet 40 = .ok (.ireturn, 1) := by decide +kernel
set_option maxRecDepth 20000 in
theorem ggX6_chosen_X6_isUsable : GoodIn wsX6_chosen wsX6_isUsable := goodIn_r _ [7, 8, 9, 10, 11, 12, 13, 14, 15, 16, 17, 18, 19, 20, 21, 22, 23, 24, 25, 26, 27, 28, 29, 30, 31, 32, 33, 34, 35, 36, 37, 38, 39, 40, 41, 42, 43, 44] (by decide +kernel) (by decide +kernel)
set_option maxRecDepth 20000 in
theorem gX6_chosen_X6_isUsable : GoodIn wsX6_chosen (wsV RX6 145 RX6 yX6_isUsable wsX6_isUsable) := goodIn_app (goodIn_of _ (by decide +kernel)) ggX6_chosen_X6_isUsable
theorem dX6_chosen_0 : decode cX6_chosen 0 = .ok (.aload_n 0, 1) := by decide +kernel
theorem dX6_chosen_1 : decode cX6_chosen 1 = .ok (.getfield 16, 3) := by decide +kernel
theorem dX6_chosen_4 : decode cX6_chosen 4 = .ok (.iload_n 1, 1) := by decide +kernel
theorem dX6_chosen_5 : decode cX6_chosen 5 = .ok (.iaload, 1) := by decide +kernel
theorem dX6_chosen_6 : decode cX6_chosen 6 = .ok (.iconst 4, 1) := by decide +kernel
theorem dX6_chosen_7 : decode cX6_chosen 7 = .ok (.idiv, 1) := by decide +kernel
theorem dX6_chosen_8 : decode cX6_chosen 8 = .ok (.istore_n 3, 1) := by decide +kernel
theorem dX6_chosen_9 : decode cX6_chosen 9 = .ok (.aload_n 0, 1) := by decide +kernel
theorem dX6_chosen_10 : decode cX6_chosen 10 = .ok (.getfield 20, 3) := by decide +kernel
theorem dX6_chosen_13 : decode cX6_chosen 13 = .ok (.iload_n 1, 1) := by decide +kernel
theorem dX6_chosen_14 : decode cX6_chosen 14 = .ok (.iaload, 1) := by decide +kernel
theorem dX6_chosen_15 : decode cX6_chosen 15 = .ok (.iconst 4, 1) := by decide +kernel
theorem dX6_chosen_16 : decode cX6_chosen 16 = .ok (.idiv, 1) := by decide +kernel
theorem dX6_chosen_17 : decode cX6_chosen 17 = .ok (.istore 4, 2) := by decide +kernel
theorem dX6_chosen_19 : decode cX6_chosen 19 = .ok (.iconst 0, 1) := by decide +kernel
theorem dX6_chosen_20 : decode cX6_chosen 20 = .ok (.istore 5, 2) := by decide +kernel
theorem dX6_chosen_22 : decode cX6_chosen 22 = .ok (.iconst 0, 1) := by decide +kernel
theorem dX6_chosen_23 : decode cX6_chosen 23 = .ok (.istore 6, 2) := by decide +kernel
theorem dX6_chosen_25 : decode cX6_chosen 25 = .ok (.iload 6, 2) := by decide +kernel
theorem dX6_chosen_27 : decode cX6_chosen 27 = .ok (.iconst 4, 1) := by decide +kernel
theorem dX6_chosen_28 : decode cX6_chosen 28 = .ok (.if_icmp .ge 31, 3) := by decide +kernel
theorem dX6_chosen_31 : decode cX6_chosen 31 = .ok (.iload 5, 2) := by decide +kernel
theorem dX6_chosen_33 : decode cX6_chosen 33 = .ok (.aload_n 0, 1) := by decide +kernel
theorem dX6_chosen_34 : decode cX6_chosen 34 = .ok (.iload_n 3, 1) := by decide +kernel
theorem dX6_chosen_35 : decode cX6_chosen 35 = .ok (.iload 4, 2) := by decide +kernel
theorem dX6_chosen_37 : decode cX6_chosen 37 = .ok (.iload 6, 2) := by decide +kernel
theorem dX6_chosen_39 : decode cX6_chosen 39 = .ok (.invokevirtual 145, 3) := by decide +kernel
theorem dX6_chosen_42 : decode cX6_chosen 42 = .ok (.ifCond .eq 7, 3) := by decide +kernel
theorem dX6_chosen_45 : decode cX6_chosen 45 = .ok (.iconst 1, 1) := by decide +kernel
theorem dX6_chosen_46 : decode cX6_chosen 46 = .ok (.goto 4, 3) := by decide +kernel
theorem dX6_chosen_49 : decode cX6_chosen 49 = .ok (.iconst 0, 1) := by decide +kernel
theorem dX6_chosen_50 : decode cX6_chosen 50 = .ok (.iadd, 1) := by decide +kernel
theorem dX6_chosen_51 : decode cX6_chosen 51 = .ok (.istore 5, 2) := by decide +kernel
theorem dX6_chosen_53 : decode cX6_chosen 53 = .ok (.iinc 6 1, 3) := by decide +kernel
theorem dX6_chosen_56 : decode cX6_chosen 56 = .ok (.goto (-31), 3) := by decide +kernel
theorem dX6_chosen_59 : decode cX6_chosen 59 = .ok (.iload 5, 2) := by decide +kernel
theorem dX6_chosen_61 : decode cX6_chosen 61 = .ok (.ifCond .ne 7, 3) := by decide +kernel
theorem dX6_chosen_64 : decode cX6_chosen 64 = .ok (.iconst 0, 1) := by decide +kernel
theorem dX6_chosen_65 : decode cX6_chosen 65 = .ok (.goto 33, 3) := by decide +kernel
theorem dX6_chosen_68 : decode cX6_chosen 68 = .ok (.bipush 7, 2) := by decide +kernel
theorem dX6_chosen_70 : decode cX6_chosen 70 = .ok (.iload_n 1, 1) := by decide +kernel
theorem dX6_chosen_71 : decode cX6_chosen 71 = .ok (.imul, 1) := by decide +kernel
theorem dX6_chosen_72 : decode cX6_chosen 72 = .ok (.bipush 13, 2) := by decide +kernel
theorem dX6_chosen_74 : decode cX6_chosen 74 = .ok (.iload_n 2, 1) := by decide +kernel
theorem dX6_chosen_75 : decode cX6_chosen 75 = .ok (.imul, 1) := by decide +kernel
theorem dX6_chosen_76 : decode cX6_chosen 76 = .ok (.iadd, 1) := by decide +kernel
theorem dX6_chosen_77 : decode cX6_chosen 77 = .ok (.iconst 3, 1) := by decide +kernel
theorem dX6_chosen_78 : decode cX6_chosen 78 = .ok (.aload_n 0, 1) := by decide +kernel
theorem dX6_chosen_79 : decode cX6_chosen 79 = .ok (.getfield 16, 3) := by decide +kernel
theorem dX6_chosen_82 : decode cX6_chosen 82 = .ok (.iload_n 1, 1) := by decide +kernel
theorem dX6_chosen_83 : decode cX6_chosen 83 = .ok (.iaload, 1) := by decide +kernel
theorem dX6_chosen_84 : decode cX6_chosen 84 = .ok (.imul, 1) := by decide +kernel
theorem dX6_chosen_85 : decode cX6_chosen 85 = .ok (.iadd, 1) := by decide +kernel
theorem dX6_chosen_86 : decode cX6_chosen 86 = .ok (.iconst 5, 1) := by decide +kernel
theorem dX6_chosen_87 : decode cX6_chosen 87 = .ok (.aload_n 0, 1) := by decide +kernel
theorem dX6_chosen_88 : decode cX6_chosen 88 = .ok (.getfield 20, 3) := by decide +kernel
theorem dX6_chosen_91 : decode cX6_chosen 91 = .ok (.iload_n 1, 1) := by decide +kernel
theorem dX6_chosen_92 : decode cX6_chosen 92 = .ok (.iaload, 1) := by decide +kernel
theorem dX6_chosen_93 : decode cX6_chosen 93 = .ok (.imul, 1) := by decide +kernel
theorem dX6_chosen_94 : decode cX6_chosen 94 = .ok (.iadd, 1) := by decide +kernel
theorem dX6_chosen_95 : decode cX6_chosen 95 = .ok (.iload 5, 2) := by decide +kernel
theorem dX6_chosen_97 : decode cX6_chosen 97 = .ok (.irem, 1) := by decide +kernel
theorem dX6_chosen_98 : decode cX6_chosen 98 = .ok (.istore 6, 2) := by decide +kernel
theorem dX6_chosen_100 : decode cX6_chosen 100 = .ok (.iconst (-1), 1) := by decide +kernel
theorem dX6_chosen_101 : decode cX6_chosen 101 = .ok (.istore 7, 2) := by decide +kernel
theorem dX6_chosen_103 : decode cX6_chosen 103 = .ok (.iconst 3, 1) := by decide +kernel
theorem dX6_chosen_104 : decode cX6_chosen 104 = .ok (.istore 8, 2) := by decide +kernel
theorem dX6_chosen_106 : decode cX6_chosen 106 = .ok (.iload 8, 2) := by decide +kernel
theorem dX6_chosen_108 : decode cX6_chosen 108 = .ok (.ifCond .lt 56, 3) := by decide +kernel
theorem dX6_chosen_111 : decode cX6_chosen 111 = .ok (.aload_n 0, 1) := by decide +kernel
theorem dX6_chosen_112 : decode cX6_chosen 112 = .ok (.iload_n 3, 1) := by decide +kernel
theorem dX6_chosen_113 : decode cX6_chosen 113 = .ok (.iload 4, 2) := by decide +kernel
theorem dX6_chosen_115 : decode cX6_chosen 115 = .ok (.iload 8, 2) := by decide +kernel
theorem dX6_chosen_117 : decode cX6_chosen 117 = .ok (.invokevirtual 145, 3) := by decide +kernel
theorem dX6_chosen_120 : decode cX6_chosen 120 = .ok (.istore 9, 2) := by decide +kernel
theorem dX6_chosen_122 : decode cX6_chosen 122 = .ok (.iload 5, 2) := by decide +kernel
theorem dX6_chosen_124 : decode cX6_chosen 124 = .ok (.iload 9, 2) := by decide +kernel
theorem dX6_chosen_126 : decode cX6_chosen 126 = .ok (.ifCond .eq 7, 3) := by decide +kernel
theorem dX6_chosen_129 : decode cX6_chosen 129 = .ok (.iconst 1, 1) := by decide +kernel
theorem dX6_chosen_130 : decode cX6_chosen 130 = .ok (.goto 4, 3) := by decide +kernel
theorem dX6_chosen_133 : decode cX6_chosen 133 = .ok (.iconst 0, 1) := by decide +kernel
theorem dX6_chosen_134 : decode cX6_chosen 134 = .ok (.isub, 1) := by decide +kernel
theorem dX6_chosen_135 : decode cX6_chosen 135 = .ok (.istore 5, 2) := by decide +kernel
theorem dX6_chosen_137 : decode cX6_chosen 137 = .ok (.iload 9, 2) := by decide +kernel
theorem dX6_chosen_139 : decode cX6_chosen 139 = .ok (.ifCond .eq 15, 3) := by decide +kernel
theorem dX6_chosen_142 : decode cX6_chosen 142 = .ok (.iload 5, 2) := by decide +kernel
theorem dX6_chosen_144 : decode cX6_chosen 144 = .ok (.iload 6, 2) := by decide +kernel
theorem dX6_chosen_146 : decode cX6_chosen 146 = .ok (.if_icmp .ne 8, 3) := by decide +kernel
theorem dX6_chosen_149 : decode cX6_chosen 149 = .ok (.iload 8, 2) := by decide +kernel
theorem dX6_chosen_151 : decode cX6_chosen 151 = .ok (.goto 5, 3) := by decide +kernel
theorem dX6_chosen_154 : decode cX6_chosen 154 = .ok (.iload 7, 2) := by decide +kernel
theorem dX6_chosen_156 : decode cX6_chosen 156 = .ok (.istore 7, 2) := by decide +kernel
theorem dX6_chosen_158 : decode cX6_chosen 158 = .ok (.iinc 8 (-1), 3) := by decide +kernel
theorem dX6_chosen_161 : decode cX6_chosen 161 = .ok (.goto (-55), 3) := by decide +kernel
theorem dX6_chosen_164 : decode cX6_chosen 164 = .ok (.iload 7, 2) := by decide +kernel
theorem dX6_chosen_166 : decode cX6_chosen 166 = .ok (.ireturn, 1) := by decide +kernel
theorem dX6_isFar_0 : decode cX6_isFar 0 = .ok (.aload_n 0, 1) := by decide +kernel
theorem dX6_isFar_1 : decode cX6_isFar 1 = .ok (.getfield 16, 3) := by decide +kernel
theorem dX6_isFar_4 : decode cX6_isFar 4 = .ok (.iload_n 1, 1) := by decide +kernel
theorem dX6_isFar_5 : decode cX6_isFar 5 = .ok (.iaload, 1) := by decide +kernel
theorem dX6_isFar_6 : decode cX6_isFar 6 = .ok (.iconst 4, 1) := by decide +kernel
theorem dX6_isFar_7 : decode cX6_isFar 7 = .ok (.idiv, 1) := by decide +kernel
theorem dX6_isFar_8 : decode cX6_isFar 8 = .ok (.aload_n 0, 1) := by decide +kernel
theorem dX6_isFar_9 : decode cX6_isFar 9 = .ok (.getfield 20, 3) := by decide +kernel
theorem dX6_isFar_12 : decode cX6_isFar 12 = .ok (.iload_n 1, 1) := by decide +kernel
theorem dX6_isFar_13 : decode cX6_isFar 13 = .ok (.iaload, 1) := by decide +kernel
theorem dX6_isFar_14 : decode cX6_isFar 14 = .ok (.iconst 4, 1) := by decide +kernel
theorem dX6_isFar_15 : decode cX6_isFar 15 = .ok (.idiv, 1) := by decide +kernel
theorem dX6_isFar_16 : decode cX6_isFar 16 = .ok (.if_icmp .eq 7, 3) := by decide +kernel
theorem dX6_isFar_19 : decode cX6_isFar 19 = .ok (.iconst 1, 1) := by decide +kernel
theorem dX6_isFar_20 : decode cX6_isFar 20 = .ok (.goto 4, 3) := by decide +kernel
theorem dX6_isFar_23 : decode cX6_isFar 23 = .ok (.iconst 0, 1) := by decide +kernel
theorem dX6_isFar_24 : decode cX6_isFar 24 = .ok (.ireturn, 1) := by decide +kernel
theorem dX6_leaves_0 : decode cX6_leaves 0 = .ok (.aload_n 0, 1) := by decide +kernel
theorem dX6_leaves_1 : decode cX6_leaves 1 = .ok (.getfield 59, 3) := by decide +kernel
theorem dX6_leaves_4 : decode cX6_leaves 4 = .ok (.iload_n 1, 1) := by decide +kernel
theorem dX6_leaves_5 : decode cX6_leaves 5 = .ok (.dup2, 1) := by decide +kernel
theorem dX6_leaves_6 : decode cX6_leaves 6 = .ok (.iaload, 1) := by decide +kernel
theorem dX6_leaves_7 : decode cX6_leaves 7 = .ok (.iconst 1, 1) := by decide +kernel
theorem dX6_leaves_8 : decode cX6_leaves 8 = .ok (.isub, 1) := by decide +kernel
theorem dX6_leaves_9 : decode cX6_leaves 9 = .ok (.iastore, 1) := by decide +kernel
theorem dX6_leaves_10 : decode cX6_leaves 10 = .ok (.iconst 4, 1) := by decide +kernel
theorem dX6_leaves_11 : decode cX6_leaves 11 = .ok (.iload_n 1, 1) := by decide +kernel
theorem dX6_leaves_12 : decode cX6_leaves 12 = .ok (.imul, 1) := by decide +kernel
theorem dX6_leaves_13 : decode cX6_leaves 13 = .ok (.istore_n 2, 1) := by decide +kernel
theorem dX6_leaves_14 : decode cX6_leaves 14 = .ok (.iload_n 2, 1) := by decide +kernel
theorem dX6_leaves_15 : decode cX6_leaves 15 = .ok (.iconst 4, 1) := by decide +kernel
theorem dX6_leaves_16 : decode cX6_leaves 16 = .ok (.iload_n 1, 1) := by decide +kernel
theorem dX6_leaves_17 : decode cX6_leaves 17 = .ok (.imul, 1) := by decide +kernel
theorem dX6_leaves_18 : decode cX6_leaves 18 = .ok (.aload_n 0, 1) := by decide +kernel
theorem dX6_leaves_19 : decode cX6_leaves 19 = .ok (.getfield 59, 3) := by decide +kernel
theorem dX6_leaves_22 : decode cX6_leaves 22 = .ok (.iload_n 1, 1) := by decide +kernel
theorem dX6_leaves_23 : decode cX6_leaves 23 = .ok (.iaload, 1) := by decide +kernel
theorem dX6_leaves_24 : decode cX6_leaves 24 = .ok (.iadd, 1) := by decide +kernel
theorem dX6_leaves_25 : decode cX6_leaves 25 = .ok (.if_icmp .ge 65, 3) := by decide +kernel
theorem dX6_leaves_28 : decode cX6_leaves 28 = .ok (.aload_n 0, 1) := by decide +kernel
theorem dX6_leaves_29 : decode cX6_leaves 29 = .ok (.getfield 71, 3) := by decide +kernel
theorem dX6_leaves_32 : decode cX6_leaves 32 = .ok (.iload_n 2, 1) := by decide +kernel
theorem dX6_leaves_33 : decode cX6_leaves 33 = .ok (.aload_n 0, 1) := by decide +kernel
theorem dX6_leaves_34 : decode cX6_leaves 34 = .ok (.getfield 71, 3) := by decide +kernel
theorem dX6_leaves_37 : decode cX6_leaves 37 = .ok (.iload_n 2, 1) := by decide +kernel
theorem dX6_leaves_38 : decode cX6_leaves 38 = .ok (.iconst 1, 1) := by decide +kernel
theorem dX6_leaves_39 : decode cX6_leaves 39 = .ok (.iadd, 1) := by decide +kernel
theorem dX6_leaves_40 : decode cX6_leaves 40 = .ok (.iaload, 1) := by decide +kernel
theorem dX6_leaves_41 : decode cX6_leaves 41 = .ok (.iastore, 1) := by decide +kernel
theorem dX6_leaves_42 : decode cX6_leaves 42 = .ok (.aload_n 0, 1) := by decide +kernel
theorem dX6_leaves_43 : decode cX6_leaves 43 = .ok (.getfield 74, 3) := by decide +kernel
theorem dX6_leaves_46 : decode cX6_leaves 46 = .ok (.iload_n 2, 1) := by decide +kernel
theorem dX6_leaves_47 : decode cX6_leaves 47 = .ok (.aload_n 0, 1) := by decide +kernel
theorem dX6_leaves_48 : decode cX6_leaves 48 = .ok (.getfield 74, 3) := by decide +kernel
theorem dX6_leaves_51 : decode cX6_leaves 51 = .ok (.iload_n 2, 1) := by decide +kernel
theorem dX6_leaves_52 : decode cX6_leaves 52 = .ok (.iconst 1, 1) := by decide +kernel
theorem dX6_leaves_53 : decode cX6_leaves 53 = .ok (.iadd, 1) := by decide +kernel
theorem dX6_leaves_54 : decode cX6_leaves 54 = .ok (.iaload, 1) := by decide +kernel
theorem dX6_leaves_55 : decode cX6_leaves 55 = .ok (.iastore, 1) := by decide +kernel
theorem dX6_leaves_56 : decode cX6_leaves 56 = .ok (.aload_n 0, 1) := by decide +kernel
theorem dX6_leaves_57 : decode cX6_leaves 57 = .ok (.getfield 77, 3) := by decide +kernel
theorem dX6_leaves_60 : decode cX6_leaves 60 = .ok (.iload_n 2, 1) := by decide +kernel
theorem dX6_leaves_61 : decode cX6_leaves 61 = .ok (.aload_n 0, 1) := by decide +kernel
theorem dX6_leaves_62 : decode cX6_leaves 62 = .ok (.getfield 77, 3) := by decide +kernel
theorem dX6_leaves_65 : decode cX6_leaves 65 = .ok (.iload_n 2, 1) := by decide +kernel
theorem dX6_leaves_66 : decode cX6_leaves 66 = .ok (.iconst 1, 1) := by decide +kernel
theorem dX6_leaves_67 : decode cX6_leaves 67 = .ok (.iadd, 1) := by decide +kernel
theorem dX6_leaves_68 : decode cX6_leaves 68 = .ok (.iaload, 1) := by decide +kernel
theorem dX6_leaves_69 : decode cX6_leaves 69 = .ok (.iastore, 1) := by decide +kernel
theorem dX6_leaves_70 : decode cX6_leaves 70 = .ok (.aload_n 0, 1) := by decide +kernel
theorem dX6_leaves_71 : decode cX6_leaves 71 = .ok (.getfield 80, 3) := by decide +kernel
theorem dX6_leaves_74 : decode cX6_leaves 74 = .ok (.iload_n 2, 1) := by decide +kernel
theorem dX6_leaves_75 : decode cX6_leaves 75 = .ok (.aload_n 0, 1) := by decide +kernel
theorem dX6_leaves_76 : decode cX6_leaves 76 = .ok (.getfield 80, 3) := by decide +kernel
theorem dX6_leaves_79 : decode cX6_leaves 79 = .ok (.iload_n 2, 1) := by decide +kernel
theorem dX6_leaves_80 : decode cX6_leaves 80 = .ok (.iconst 1, 1) := by decide +kernel
theorem dX6_leaves_81 : decode cX6_leaves 81 = .ok (.iadd, 1) := by decide +kernel
theorem dX6_leaves_82 : decode cX6_leaves 82 = .ok (.iaload, 1) := by decide +kernel
theorem dX6_leaves_83 : decode cX6_leaves 83 = .ok (.iastore, 1) := by decide +kernel
theorem dX6_leaves_84 : decode cX6_leaves 84 = .ok (.iinc 2 1, 3) := by decide +kernel
theorem dX6_leaves_87 : decode cX6_leaves 87 = .ok (.goto (-73), 3) := by decide +kernel
theorem dX6_leaves_90 : decode cX6_leaves 90 = .ok (.aload_n 0, 1) := by decide +kernel
theorem dX6_leaves_91 : decode cX6_leaves 91 = .ok (.getfield 68, 3) := by decide +kernel
theorem dX6_leaves_94 : decode cX6_leaves 94 = .ok (.bipush 8, 2) := by decide +kernel
theorem dX6_leaves_96 : decode cX6_leaves 96 = .ok (.iload_n 1, 1) := by decide +kernel
theorem dX6_leaves_97 : decode cX6_leaves 97 = .ok (.imul, 1) := by decide +kernel
theorem dX6_leaves_98 : decode cX6_leaves 98 = .ok (.aload_n 0, 1) := by decide +kernel
theorem dX6_leaves_99 : decode cX6_leaves 99 = .ok (.getfield 121, 3) := by decide +kernel
theorem dX6_leaves_102 : decode cX6_leaves 102 = .ok (.iconst 1, 1) := by decide +kernel
theorem dX6_leaves_103 : decode cX6_leaves 103 = .ok (.iadd, 1) := by decide +kernel
theorem dX6_leaves_104 : decode cX6_leaves 104 = .ok (.aload_n 0, 1) := by decide +kernel
theorem dX6_leaves_105 : decode cX6_leaves 105 = .ok (.getfield 128, 3) := by decide +kernel
theorem dX6_leaves_108 : decode cX6_leaves 108 = .ok (.iadd, 1) := by decide +kernel
theorem dX6_leaves_109 : decode cX6_leaves 109 = .ok (.bipush 8, 2) := by decide +kernel
theorem dX6_leaves_111 : decode cX6_leaves 111 = .ok (.irem, 1) := by decide +kernel
theorem dX6_leaves_112 : decode cX6_leaves 112 = .ok (.iadd, 1) := by decide +kernel
theorem dX6_leaves_113 : decode cX6_leaves 113 = .ok (.dup2, 1) := by decide +kernel
theorem dX6_leaves_114 : decode cX6_leaves 114 = .ok (.iaload, 1) := by decide +kernel
theorem dX6_leaves_115 : decode cX6_leaves 115 = .ok (.iconst 1, 1) := by decide +kernel
theorem dX6_leaves_116 : decode cX6_leaves 116 = .ok (.iadd, 1) := by decide +kernel
theorem dX6_leaves_117 : decode cX6_leaves 117 = .ok (.iastore, 1) := by decide +kernel
theorem dX6_leaves_118 : decode cX6_leaves 118 = .ok (.return_, 1) := by decide +kernel
theorem dX6_targetOf_0 : decode cX6_targetOf 0 = .ok (.aload_n 0, 1) := by decide +kernel
theorem dX6_targetOf_1 : decode cX6_targetOf 1 = .ok (.getfield 20, 3) := by decide +kernel
theorem dX6_targetOf_4 : decode cX6_targetOf 4 = .ok (.aload_n 0, 1) := by decide +kernel
theorem dX6_targetOf_5 : decode cX6_targetOf 5 = .ok (.getfield 71, 3) := by decide +kernel
theorem dX6_targetOf_8 : decode cX6_targetOf 8 = .ok (.iconst 4, 1) := by decide +kernel
theorem dX6_targetOf_9 : decode cX6_targetOf 9 = .ok (.iload_n 1, 1) := by decide +kernel
theorem dX6_targetOf_10 : decode cX6_targetOf 10 = .ok (.imul, 1) := by decide +kernel
theorem dX6_targetOf_11 : decode cX6_targetOf 11 = .ok (.iaload, 1) := by decide +kernel
theorem dX6_targetOf_12 : decode cX6_targetOf 12 = .ok (.iaload, 1) := by decide +kernel
theorem dX6_targetOf_13 : decode cX6_targetOf 13 = .ok (.ireturn, 1) := by decide +kernel
set_option maxRecDepth 20000 in
theorem ggX6_wanted_X6_targetOf : GoodIn wsX6_wanted wsX6_targetOf := goodIn_r _ [7, 8, 9, 21, 22, 23, 24, 25, 26, 27, 28, 29, 30, 31, 32, 33, 34, 35, 36, 37, 38, 39, 40, 41, 42, 43, 44, 45, 46, 47, 48, 49, 50, 51, 52, 53, 54, 55, 56] (by decide +kernel) (by decide +kernel)
set_option maxRecDepth 20000 in
theorem gX6_wanted_X6_targetOf : GoodIn wsX6_wanted (wsV RX6 148 RX6 yX6_targetOf wsX6_targetOf) := goodIn_app (goodIn_of _ (by decide +kernel)) ggX6_wanted_X6_targetOf
set_option maxRecDepth 20000 in
theorem ggX6_wanted_X6_south : GoodIn wsX6_wanted wsX6_south := goodIn_r _ [12] (by decide +kernel) (by decide +kernel)
set_option maxRecDepth 20000 in
theorem gX6_wanted_X6_south : GoodIn wsX6_wanted (va_wsS RX6 142 yX6_south wsX6_south) := goodIn_app (goodIn_of _ (by decide +kernel)) ggX6_wanted_X6_south
set_option maxRecDepth 20000 in
theorem ggX6_wanted_X6_isUsable : GoodIn wsX6_wanted wsX6_isUsable := goodIn_r _ [16, 17, 21, 22, 23, 24, 25, 26, 27, 28, 29, 30, 31, 32, 33, 34, 35, 36, 37, 38, 39, 40, 41, 42, 43, 44, 45, 46, 47, 48, 49, 50, 51, 52, 53, 54, 55, 56] (by decide +kernel) (by decide +kernel)
set_option maxRecDepth 20000 in
theorem gX6_wanted_X6_isUsable : GoodIn wsX6_wanted (wsV RX6 145 RX6 yX6_isUsable wsX6_isUsable) := goodIn_app (goodIn_of _ (by decide +kernel)) ggX6_wanted_X6_isUsable
set_option maxRecDepth 20000 in
theorem ggX6_wanted_X6_north : GoodIn wsX6_wanted wsX6_north := goodIn_r _ [20] (by decide +kernel) (by decide +kernel)
set_option maxRecDepth 20000 in
theorem gX6_wanted_X6_north : GoodIn wsX6_wanted (va_wsS RX6 138 yX6_north wsX6_north) := goodIn_app (goodIn_of _ (by decide +kernel)) ggX6_wanted_X6_north
theorem dX6_wanted_0 : decode cX6_wanted 0 = .ok (.aload_n 0, 1) := by decide +kernel
theorem dX6_wanted_1 : decode cX6_wanted 1 = .ok (.getfield 59, 3) := by decide +kernel
theorem dX6_wanted_4 : decode cX6_wanted 4 = .ok (.iload_n 1, 1) := by decide +kernel
theorem dX6_wanted_5 : decode cX6_wanted 5 = .ok (.iaload, 1) := by decide +kernel
theorem dX6_wanted_6 : decode cX6_wanted 6 = .ok (.ifCond .eq 15, 3) := by decide +kernel
theorem dX6_wanted_9 : decode cX6_wanted 9 = .ok (.iload_n 1, 1) := by decide +kernel
theorem dX6_wanted_10 : decode cX6_wanted 10 = .ok (.bipush 16, 2) := by decide +kernel
theorem dX6_wanted_12 : decode cX6_wanted 12 = .ok (.if_icmp .lt 11, 3) := by decide +kernel
theorem dX6_wanted_15 : decode cX6_wanted 15 = .ok (.iload_n 1, 1) := by decide +kernel
theorem dX6_wanted_16 : decode cX6_wanted 16 = .ok (.bipush 32, 2) := by decide +kernel
theorem dX6_wanted_18 : decode cX6_wanted 18 = .ok (.if_icmp .ge 5, 3) := by decide +kernel
theorem dX6_wanted_21 : decode cX6_wanted 21 = .ok (.iconst (-1), 1) := by decide +kernel
theorem dX6_wanted_22 : decode cX6_wanted 22 = .ok (.ireturn, 1) := by decide +kernel
theorem dX6_wanted_23 : decode cX6_wanted 23 = .ok (.aload_n 0, 1) := by decide +kernel
theorem dX6_wanted_24 : decode cX6_wanted 24 = .ok (.iload_n 1, 1) := by decide +kernel
theorem dX6_wanted_25 : decode cX6_wanted 25 = .ok (.invokevirtual 148, 3) := by decide +kernel
theorem dX6_wanted_28 : decode cX6_wanted 28 = .ok (.istore_n 2, 1) := by decide +kernel
theorem dX6_wanted_29 : decode cX6_wanted 29 = .ok (.iload_n 1, 1) := by decide +kernel
theorem dX6_wanted_30 : decode cX6_wanted 30 = .ok (.bipush 48, 2) := by decide +kernel
theorem dX6_wanted_32 : decode cX6_wanted 32 = .ok (.if_icmp .lt 8, 3) := by decide +kernel
theorem dX6_wanted_35 : decode cX6_wanted 35 = .ok (.bipush 16, 2) := by decide +kernel
theorem dX6_wanted_37 : decode cX6_wanted 37 = .ok (.iload_n 2, 1) := by decide +kernel
theorem dX6_wanted_38 : decode cX6_wanted 38 = .ok (.iadd, 1) := by decide +kernel
theorem dX6_wanted_39 : decode cX6_wanted 39 = .ok (.ireturn, 1) := by decide +kernel
theorem dX6_wanted_40 : decode cX6_wanted 40 = .ok (.iload_n 1, 1) := by decide +kernel
theorem dX6_wanted_41 : decode cX6_wanted 41 = .ok (.bipush 32, 2) := by decide +kernel
theorem dX6_wanted_43 : decode cX6_wanted 43 = .ok (.if_icmp .lt 16, 3) := by decide +kernel
theorem dX6_wanted_46 : decode cX6_wanted 46 = .ok (.iload_n 1, 1) := by decide +kernel
theorem dX6_wanted_47 : decode cX6_wanted 47 = .ok (.bipush 32, 2) := by decide +kernel
theorem dX6_wanted_49 : decode cX6_wanted 49 = .ok (.isub, 1) := by decide +kernel
theorem dX6_wanted_50 : decode cX6_wanted 50 = .ok (.iconst 4, 1) := by decide +kernel
theorem dX6_wanted_51 : decode cX6_wanted 51 = .ok (.irem, 1) := by decide +kernel
theorem dX6_wanted_52 : decode cX6_wanted 52 = .ok (.iload_n 2, 1) := by decide +kernel
theorem dX6_wanted_53 : decode cX6_wanted 53 = .ok (.iconst 4, 1) := by decide +kernel
theorem dX6_wanted_54 : decode cX6_wanted 54 = .ok (.idiv, 1) := by decide +kernel
theorem dX6_wanted_55 : decode cX6_wanted 55 = .ok (.invokestatic 142, 3) := by decide +kernel
theorem dX6_wanted_58 : decode cX6_wanted 58 = .ok (.ireturn, 1) := by decide +kernel
theorem dX6_wanted_59 : decode cX6_wanted 59 = .ok (.aload_n 0, 1) := by decide +kernel
theorem dX6_wanted_60 : decode cX6_wanted 60 = .ok (.getfield 77, 3) := by decide +kernel
theorem dX6_wanted_63 : decode cX6_wanted 63 = .ok (.iconst 4, 1) := by decide +kernel
theorem dX6_wanted_64 : decode cX6_wanted 64 = .ok (.iload_n 1, 1) := by decide +kernel
theorem dX6_wanted_65 : decode cX6_wanted 65 = .ok (.imul, 1) := by decide +kernel
theorem dX6_wanted_66 : decode cX6_wanted 66 = .ok (.iaload, 1) := by decide +kernel
theorem dX6_wanted_67 : decode cX6_wanted 67 = .ok (.istore_n 3, 1) := by decide +kernel
theorem dX6_wanted_68 : decode cX6_wanted 68 = .ok (.iload_n 1, 1) := by decide +kernel
theorem dX6_wanted_69 : decode cX6_wanted 69 = .ok (.iconst 4, 1) := by decide +kernel
theorem dX6_wanted_70 : decode cX6_wanted 70 = .ok (.idiv, 1) := by decide +kernel
theorem dX6_wanted_71 : decode cX6_wanted 71 = .ok (.iload_n 2, 1) := by decide +kernel
theorem dX6_wanted_72 : decode cX6_wanted 72 = .ok (.iconst 4, 1) := by decide +kernel
theorem dX6_wanted_73 : decode cX6_wanted 73 = .ok (.idiv, 1) := by decide +kernel
theorem dX6_wanted_74 : decode cX6_wanted 74 = .ok (.if_icmp .ne 10, 3) := by decide +kernel
theorem dX6_wanted_77 : decode cX6_wanted 77 = .ok (.bipush 16, 2) := by decide +kernel
theorem dX6_wanted_79 : decode cX6_wanted 79 = .ok (.iload_n 2, 1) := by decide +kernel
theorem dX6_wanted_80 : decode cX6_wanted 80 = .ok (.iadd, 1) := by decide +kernel
theorem dX6_wanted_81 : decode cX6_wanted 81 = .ok (.goto 28, 3) := by decide +kernel
theorem dX6_wanted_84 : decode cX6_wanted 84 = .ok (.aload_n 0, 1) := by decide +kernel
theorem dX6_wanted_85 : decode cX6_wanted 85 = .ok (.iload_n 1, 1) := by decide +kernel
theorem dX6_wanted_86 : decode cX6_wanted 86 = .ok (.iconst 4, 1) := by decide +kernel
theorem dX6_wanted_87 : decode cX6_wanted 87 = .ok (.idiv, 1) := by decide +kernel
theorem dX6_wanted_88 : decode cX6_wanted 88 = .ok (.iload_n 2, 1) := by decide +kernel
theorem dX6_wanted_89 : decode cX6_wanted 89 = .ok (.iconst 4, 1) := by decide +kernel
theorem dX6_wanted_90 : decode cX6_wanted 90 = .ok (.idiv, 1) := by decide +kernel
theorem dX6_wanted_91 : decode cX6_wanted 91 = .ok (.iload_n 3, 1) := by decide +kernel
theorem dX6_wanted_92 : decode cX6_wanted 92 = .ok (.invokevirtual 145, 3) := by decide +kernel
theorem dX6_wanted_95 : decode cX6_wanted 95 = .ok (.ifCond .eq 13, 3) := by decide +kernel
theorem dX6_wanted_98 : decode cX6_wanted 98 = .ok (.iload_n 1, 1) := by decide +kernel
theorem dX6_wanted_99 : decode cX6_wanted 99 = .ok (.iconst 4, 1) := by decide +kernel
theorem dX6_wanted_100 : decode cX6_wanted 100 = .ok (.idiv, 1) := by decide +kernel
theorem dX6_wanted_101 : decode cX6_wanted 101 = .ok (.iload_n 3, 1) := by decide +kernel
theorem dX6_wanted_102 : decode cX6_wanted 102 = .ok (.invokestatic 138, 3) := by decide +kernel
theorem dX6_wanted_105 : decode cX6_wanted 105 = .ok (.goto 4, 3) := by decide +kernel
theorem dX6_wanted_108 : decode cX6_wanted 108 = .ok (.iconst (-1), 1) := by decide +kernel
theorem dX6_wanted_109 : decode cX6_wanted 109 = .ok (.ireturn, 1) := by decide +kernel
set_option maxRecDepth 20000 in
theorem ggX6_queueAt_X6_north : GoodIn wsX6_queueAt wsX6_north := goodIn_r _ [4] (by decide +kernel) (by decide +kernel)
set_option maxRecDepth 20000 in
theorem gX6_queueAt_X6_north : GoodIn wsX6_queueAt (va_wsS RX6 138 yX6_north wsX6_north) := goodIn_app (goodIn_of _ (by decide +kernel)) ggX6_queueAt_X6_north
set_option maxRecDepth 20000 in
theorem ggX6_queueAt_X6_south : GoodIn wsX6_queueAt wsX6_south := goodIn_r _ [7] (by decide +kernel) (by decide +kernel)
set_option maxRecDepth 20000 in
theorem gX6_queueAt_X6_south : GoodIn wsX6_queueAt (va_wsS RX6 142 yX6_south wsX6_south) := goodIn_app (goodIn_of _ (by decide +kernel)) ggX6_queueAt_X6_south
theorem dX6_queueAt_0 : decode cX6_queueAt 0 = .ok (.iload_n 0, 1) := by decide +kernel
theorem dX6_queueAt_1 : decode cX6_queueAt 1 = .ok (.bipush 48, 2) := by decide +kernel
theorem dX6_queueAt_3 : decode cX6_queueAt 3 = .ok (.if_icmp .lt 23, 3) := by decide +kernel
theorem dX6_queueAt_6 : decode cX6_queueAt 6 = .ok (.iload_n 1, 1) := by decide +kernel
theorem dX6_queueAt_7 : decode cX6_queueAt 7 = .ok (.iconst 4, 1) := by decide +kernel
theorem dX6_queueAt_8 : decode cX6_queueAt 8 = .ok (.if_icmp .ge 16, 3) := by decide +kernel
theorem dX6_queueAt_11 : decode cX6_queueAt 11 = .ok (.iload_n 1, 1) := by decide +kernel
theorem dX6_queueAt_12 : decode cX6_queueAt 12 = .ok (.iload_n 0, 1) := by decide +kernel
theorem dX6_queueAt_13 : decode cX6_queueAt 13 = .ok (.bipush 48, 2) := by decide +kernel
theorem dX6_queueAt_15 : decode cX6_queueAt 15 = .ok (.isub, 1) := by decide +kernel
theorem dX6_queueAt_16 : decode cX6_queueAt 16 = .ok (.iconst 4, 1) := by decide +kernel
theorem dX6_queueAt_17 : decode cX6_queueAt 17 = .ok (.idiv, 1) := by decide +kernel
theorem dX6_queueAt_18 : decode cX6_queueAt 18 = .ok (.invokestatic 138, 3) := by decide +kernel
theorem dX6_queueAt_21 : decode cX6_queueAt 21 = .ok (.goto 4, 3) := by decide +kernel
theorem dX6_queueAt_24 : decode cX6_queueAt 24 = .ok (.iconst (-1), 1) := by decide +kernel
theorem dX6_queueAt_25 : decode cX6_queueAt 25 = .ok (.ireturn, 1) := by decide +kernel
theorem dX6_queueAt_26 : decode cX6_queueAt 26 = .ok (.iload_n 0, 1) := by decide +kernel
theorem dX6_queueAt_27 : decode cX6_queueAt 27 = .ok (.bipush 32, 2) := by decide +kernel
theorem dX6_queueAt_29 : decode cX6_queueAt 29 = .ok (.if_icmp .lt 12, 3) := by decide +kernel
theorem dX6_queueAt_32 : decode cX6_queueAt 32 = .ok (.iload_n 0, 1) := by decide +kernel
theorem dX6_queueAt_33 : decode cX6_queueAt 33 = .ok (.bipush 32, 2) := by decide +kernel
theorem dX6_queueAt_35 : decode cX6_queueAt 35 = .ok (.isub, 1) := by decide +kernel
theorem dX6_queueAt_36 : decode cX6_queueAt 36 = .ok (.iconst 4, 1) := by decide +kernel
theorem dX6_queueAt_37 : decode cX6_queueAt 37 = .ok (.idiv, 1) := by decide +kernel
theorem dX6_queueAt_38 : decode cX6_queueAt 38 = .ok (.goto 9, 3) := by decide +kernel
theorem dX6_queueAt_41 : decode cX6_queueAt 41 = .ok (.iload_n 0, 1) := by decide +kernel
theorem dX6_queueAt_42 : decode cX6_queueAt 42 = .ok (.bipush 16, 2) := by decide +kernel
theorem dX6_queueAt_44 : decode cX6_queueAt 44 = .ok (.isub, 1) := by decide +kernel
theorem dX6_queueAt_45 : decode cX6_queueAt 45 = .ok (.iconst 4, 1) := by decide +kernel
theorem dX6_queueAt_46 : decode cX6_queueAt 46 = .ok (.idiv, 1) := by decide +kernel
theorem dX6_queueAt_47 : decode cX6_queueAt 47 = .ok (.istore_n 2, 1) := by decide +kernel
theorem dX6_queueAt_48 : decode cX6_queueAt 48 = .ok (.iload_n 1, 1) := by decide +kernel
theorem dX6_queueAt_49 : decode cX6_queueAt 49 = .ok (.iconst 4, 1) := by decide +kernel
theorem dX6_queueAt_50 : decode cX6_queueAt 50 = .ok (.if_icmp .ge 11, 3) := by decide +kernel
theorem dX6_queueAt_53 : decode cX6_queueAt 53 = .ok (.iconst 4, 1) := by decide +kernel
theorem dX6_queueAt_54 : decode cX6_queueAt 54 = .ok (.iload_n 2, 1) := by decide +kernel
theorem dX6_queueAt_55 : decode cX6_queueAt 55 = .ok (.imul, 1) := by decide +kernel
theorem dX6_queueAt_56 : decode cX6_queueAt 56 = .ok (.iload_n 1, 1) := by decide +kernel
theorem dX6_queueAt_57 : decode cX6_queueAt 57 = .ok (.iadd, 1) := by decide +kernel
theorem dX6_queueAt_58 : decode cX6_queueAt 58 = .ok (.goto 10, 3) := by decide +kernel
theorem dX6_queueAt_61 : decode cX6_queueAt 61 = .ok (.iload_n 1, 1) := by decide +kernel
theorem dX6_queueAt_62 : decode cX6_queueAt 62 = .ok (.iconst 4, 1) := by decide +kernel
theorem dX6_queueAt_63 : decode cX6_queueAt 63 = .ok (.isub, 1) := by decide +kernel
theorem dX6_queueAt_64 : decode cX6_queueAt 64 = .ok (.iload_n 2, 1) := by decide +kernel
theorem dX6_queueAt_65 : decode cX6_queueAt 65 = .ok (.invokestatic 142, 3) := by decide +kernel
theorem dX6_queueAt_68 : decode cX6_queueAt 68 = .ok (.ireturn, 1) := by decide +kernel
theorem dX6_isShut_0 : decode cX6_isShut 0 = .ok (.iload_n 1, 1) := by decide +kernel
theorem dX6_isShut_1 : decode cX6_isShut 1 = .ok (.bipush 48, 2) := by decide +kernel
theorem dX6_isShut_3 : decode cX6_isShut 3 = .ok (.if_icmp .lt 26, 3) := by decide +kernel
theorem dX6_isShut_6 : decode cX6_isShut 6 = .ok (.aload_n 0, 1) := by decide +kernel
theorem dX6_isShut_7 : decode cX6_isShut 7 = .ok (.getfield 83, 3) := by decide +kernel
theorem dX6_isShut_10 : decode cX6_isShut 10 = .ok (.iconst 4, 1) := by decide +kernel
theorem dX6_isShut_11 : decode cX6_isShut 11 = .ok (.iload_n 1, 1) := by decide +kernel
theorem dX6_isShut_12 : decode cX6_isShut 12 = .ok (.bipush 48, 2) := by decide +kernel
theorem dX6_isShut_14 : decode cX6_isShut 14 = .ok (.isub, 1) := by decide +kernel
theorem dX6_isShut_15 : decode cX6_isShut 15 = .ok (.iconst 4, 1) := by decide +kernel
theorem dX6_isShut_16 : decode cX6_isShut 16 = .ok (.irem, 1) := by decide +kernel
theorem dX6_isShut_17 : decode cX6_isShut 17 = .ok (.imul, 1) := by decide +kernel
theorem dX6_isShut_18 : decode cX6_isShut 18 = .ok (.iload_n 1, 1) := by decide +kernel
theorem dX6_isShut_19 : decode cX6_isShut 19 = .ok (.bipush 48, 2) := by decide +kernel
theorem dX6_isShut_21 : decode cX6_isShut 21 = .ok (.isub, 1) := by decide +kernel
theorem dX6_isShut_22 : decode cX6_isShut 22 = .ok (.iconst 4, 1) := by decide +kernel
theorem dX6_isShut_23 : decode cX6_isShut 23 = .ok (.idiv, 1) := by decide +kernel
theorem dX6_isShut_24 : decode cX6_isShut 24 = .ok (.iadd, 1) := by decide +kernel
theorem dX6_isShut_25 : decode cX6_isShut 25 = .ok (.baload, 1) := by decide +kernel
theorem dX6_isShut_26 : decode cX6_isShut 26 = .ok (.goto 26, 3) := by decide +kernel
theorem dX6_isShut_29 : decode cX6_isShut 29 = .ok (.iload_n 1, 1) := by decide +kernel
theorem dX6_isShut_30 : decode cX6_isShut 30 = .ok (.bipush 32, 2) := by decide +kernel
theorem dX6_isShut_32 : decode cX6_isShut 32 = .ok (.if_icmp .lt 19, 3) := by decide +kernel
theorem dX6_isShut_35 : decode cX6_isShut 35 = .ok (.aload_n 0, 1) := by decide +kernel
theorem dX6_isShut_36 : decode cX6_isShut 36 = .ok (.getfield 83, 3) := by decide +kernel
theorem dX6_isShut_39 : decode cX6_isShut 39 = .ok (.iload_n 1, 1) := by decide +kernel
theorem dX6_isShut_40 : decode cX6_isShut 40 = .ok (.bipush 32, 2) := by decide +kernel
theorem dX6_isShut_42 : decode cX6_isShut 42 = .ok (.isub, 1) := by decide +kernel
theorem dX6_isShut_43 : decode cX6_isShut 43 = .ok (.baload, 1) := by decide +kernel
theorem dX6_isShut_44 : decode cX6_isShut 44 = .ok (.ifCond .eq 7, 3) := by decide +kernel
theorem dX6_isShut_47 : decode cX6_isShut 47 = .ok (.iconst 1, 1) := by decide +kernel
theorem dX6_isShut_48 : decode cX6_isShut 48 = .ok (.goto 4, 3) := by decide +kernel
theorem dX6_isShut_51 : decode cX6_isShut 51 = .ok (.iconst 0, 1) := by decide +kernel
theorem dX6_isShut_52 : decode cX6_isShut 52 = .ok (.ireturn, 1) := by decide +kernel
theorem dX6_creditsReturn_0 : decode cX6_creditsReturn 0 = .ok (.iconst 0, 1) := by decide +kernel
theorem dX6_creditsReturn_1 : decode cX6_creditsReturn 1 = .ok (.istore_n 1, 1) := by decide +kernel
theorem dX6_creditsReturn_2 : decode cX6_creditsReturn 2 = .ok (.iload_n 1, 1) := by decide +kernel
theorem dX6_creditsReturn_3 : decode cX6_creditsReturn 3 = .ok (.bipush 64, 2) := by decide +kernel
theorem dX6_creditsReturn_5 : decode cX6_creditsReturn 5 = .ok (.if_icmp .ge 44, 3) := by decide +kernel
theorem dX6_creditsReturn_8 : decode cX6_creditsReturn 8 = .ok (.bipush 8, 2) := by decide +kernel
theorem dX6_creditsReturn_10 : decode cX6_creditsReturn 10 = .ok (.iload_n 1, 1) := by decide +kernel
theorem dX6_creditsReturn_11 : decode cX6_creditsReturn 11 = .ok (.imul, 1) := by decide +kernel
theorem dX6_creditsReturn_12 : decode cX6_creditsReturn 12 = .ok (.aload_n 0, 1) := by decide +kernel
theorem dX6_creditsReturn_13 : decode cX6_creditsReturn 13 = .ok (.getfield 121, 3) := by decide +kernel
theorem dX6_creditsReturn_16 : decode cX6_creditsReturn 16 = .ok (.bipush 8, 2) := by decide +kernel
theorem dX6_creditsReturn_18 : decode cX6_creditsReturn 18 = .ok (.irem, 1) := by decide +kernel
theorem dX6_creditsReturn_19 : decode cX6_creditsReturn 19 = .ok (.iadd, 1) := by decide +kernel
theorem dX6_creditsReturn_20 : decode cX6_creditsReturn 20 = .ok (.istore_n 2, 1) := by decide +kernel
theorem dX6_creditsReturn_21 : decode cX6_creditsReturn 21 = .ok (.aload_n 0, 1) := by decide +kernel
theorem dX6_creditsReturn_22 : decode cX6_creditsReturn 22 = .ok (.getfield 56, 3) := by decide +kernel
theorem dX6_creditsReturn_25 : decode cX6_creditsReturn 25 = .ok (.iload_n 1, 1) := by decide +kernel
theorem dX6_creditsReturn_26 : decode cX6_creditsReturn 26 = .ok (.dup2, 1) := by decide +kernel
theorem dX6_creditsReturn_27 : decode cX6_creditsReturn 27 = .ok (.iaload, 1) := by decide +kernel
theorem dX6_creditsReturn_28 : decode cX6_creditsReturn 28 = .ok (.aload_n 0, 1) := by decide +kernel
theorem dX6_creditsReturn_29 : decode cX6_creditsReturn 29 = .ok (.getfield 68, 3) := by decide +kernel
theorem dX6_creditsReturn_32 : decode cX6_creditsReturn 32 = .ok (.iload_n 2, 1) := by decide +kernel
theorem dX6_creditsReturn_33 : decode cX6_creditsReturn 33 = .ok (.iaload, 1) := by decide +kernel
theorem dX6_creditsReturn_34 : decode cX6_creditsReturn 34 = .ok (.iadd, 1) := by decide +kernel
theorem dX6_creditsReturn_35 : decode cX6_creditsReturn 35 = .ok (.iastore, 1) := by decide +kernel
theorem dX6_creditsReturn_36 : decode cX6_creditsReturn 36 = .ok (.aload_n 0, 1) := by decide +kernel
theorem dX6_creditsReturn_37 : decode cX6_creditsReturn 37 = .ok (.getfield 68, 3) := by decide +kernel
theorem dX6_creditsReturn_40 : decode cX6_creditsReturn 40 = .ok (.iload_n 2, 1) := by decide +kernel
theorem dX6_creditsReturn_41 : decode cX6_creditsReturn 41 = .ok (.iconst 0, 1) := by decide +kernel
theorem dX6_creditsReturn_42 : decode cX6_creditsReturn 42 = .ok (.iastore, 1) := by decide +kernel
theorem dX6_creditsReturn_43 : decode cX6_creditsReturn 43 = .ok (.iinc 1 1, 3) := by decide +kernel
theorem dX6_creditsReturn_46 : decode cX6_creditsReturn 46 = .ok (.goto (-44), 3) := by decide +kernel
theorem dX6_creditsReturn_49 : decode cX6_creditsReturn 49 = .ok (.return_, 1) := by decide +kernel
set_option maxRecDepth 20000 in
theorem ggX6_hostsTake_X6_leaves : GoodIn wsX6_hostsTake wsX6_leaves := goodIn_r _ [15, 1, 2, 3, 16, 17, 18, 9, 19, 20, 21, 22, 23, 24, 25, 26, 27, 28, 29, 30, 31, 32, 33, 34, 35, 36, 37, 38, 39, 40, 41, 42, 43, 44, 45, 46, 47, 48, 49, 50, 51, 52, 53, 54, 55] (by decide +kernel) (by decide +kernel)
set_option maxRecDepth 20000 in
theorem gX6_hostsTake_X6_leaves : GoodIn wsX6_hostsTake (wsV RX6 152 RX6 yX6_leaves wsX6_leaves) := goodIn_app (goodIn_of _ (by decide +kernel)) ggX6_hostsTake_X6_leaves
theorem dX6_hostsTake_0 : decode cX6_hostsTake 0 = .ok (.iconst 0, 1) := by decide +kernel
theorem dX6_hostsTake_1 : decode cX6_hostsTake 1 = .ok (.istore_n 1, 1) := by decide +kernel
theorem dX6_hostsTake_2 : decode cX6_hostsTake 2 = .ok (.iconst 0, 1) := by decide +kernel
theorem dX6_hostsTake_3 : decode cX6_hostsTake 3 = .ok (.istore_n 2, 1) := by decide +kernel
theorem dX6_hostsTake_4 : decode cX6_hostsTake 4 = .ok (.iload_n 2, 1) := by decide +kernel
theorem dX6_hostsTake_5 : decode cX6_hostsTake 5 = .ok (.bipush 16, 2) := by decide +kernel
theorem dX6_hostsTake_7 : decode cX6_hostsTake 7 = .ok (.if_icmp .ge 164, 3) := by decide +kernel
theorem dX6_hostsTake_10 : decode cX6_hostsTake 10 = .ok (.aload_n 0, 1) := by decide +kernel
theorem dX6_hostsTake_11 : decode cX6_hostsTake 11 = .ok (.getfield 59, 3) := by decide +kernel
theorem dX6_hostsTake_14 : decode cX6_hostsTake 14 = .ok (.bipush 16, 2) := by decide +kernel
theorem dX6_hostsTake_16 : decode cX6_hostsTake 16 = .ok (.iload_n 2, 1) := by decide +kernel
theorem dX6_hostsTake_17 : decode cX6_hostsTake 17 = .ok (.iadd, 1) := by decide +kernel
theorem dX6_hostsTake_18 : decode cX6_hostsTake 18 = .ok (.iaload, 1) := by decide +kernel
theorem dX6_hostsTake_19 : decode cX6_hostsTake 19 = .ok (.ifCond .le 146, 3) := by decide +kernel
theorem dX6_hostsTake_22 : decode cX6_hostsTake 22 = .ok (.aload_n 0, 1) := by decide +kernel
theorem dX6_hostsTake_23 : decode cX6_hostsTake 23 = .ok (.getfield 71, 3) := by decide +kernel
theorem dX6_hostsTake_26 : decode cX6_hostsTake 26 = .ok (.iconst 4, 1) := by decide +kernel
theorem dX6_hostsTake_27 : decode cX6_hostsTake 27 = .ok (.bipush 16, 2) := by decide +kernel
theorem dX6_hostsTake_29 : decode cX6_hostsTake 29 = .ok (.iload_n 2, 1) := by decide +kernel
theorem dX6_hostsTake_30 : decode cX6_hostsTake 30 = .ok (.iadd, 1) := by decide +kernel
theorem dX6_hostsTake_31 : decode cX6_hostsTake 31 = .ok (.imul, 1) := by decide +kernel
theorem dX6_hostsTake_32 : decode cX6_hostsTake 32 = .ok (.iaload, 1) := by decide +kernel
theorem dX6_hostsTake_33 : decode cX6_hostsTake 33 = .ok (.istore_n 3, 1) := by decide +kernel
theorem dX6_hostsTake_34 : decode cX6_hostsTake 34 = .ok (.aload_n 0, 1) := by decide +kernel
theorem dX6_hostsTake_35 : decode cX6_hostsTake 35 = .ok (.getfield 74, 3) := by decide +kernel
theorem dX6_hostsTake_38 : decode cX6_hostsTake 38 = .ok (.iconst 4, 1) := by decide +kernel
theorem dX6_hostsTake_39 : decode cX6_hostsTake 39 = .ok (.bipush 16, 2) := by decide +kernel
theorem dX6_hostsTake_41 : decode cX6_hostsTake 41 = .ok (.iload_n 2, 1) := by decide +kernel
theorem dX6_hostsTake_42 : decode cX6_hostsTake 42 = .ok (.iadd, 1) := by decide +kernel
theorem dX6_hostsTake_43 : decode cX6_hostsTake 43 = .ok (.imul, 1) := by decide +kernel
theorem dX6_hostsTake_44 : decode cX6_hostsTake 44 = .ok (.iaload, 1) := by decide +kernel
theorem dX6_hostsTake_45 : decode cX6_hostsTake 45 = .ok (.istore 4, 2) := by decide +kernel
theorem dX6_hostsTake_47 : decode cX6_hostsTake 47 = .ok (.aload_n 0, 1) := by decide +kernel
theorem dX6_hostsTake_48 : decode cX6_hostsTake 48 = .ok (.getfield 38, 3) := by decide +kernel
theorem dX6_hostsTake_51 : decode cX6_hostsTake 51 = .ok (.iload_n 3, 1) := by decide +kernel
theorem dX6_hostsTake_52 : decode cX6_hostsTake 52 = .ok (.dup2, 1) := by decide +kernel
theorem dX6_hostsTake_53 : decode cX6_hostsTake 53 = .ok (.iaload, 1) := by decide +kernel
theorem dX6_hostsTake_54 : decode cX6_hostsTake 54 = .ok (.iload 4, 2) := by decide +kernel
theorem dX6_hostsTake_56 : decode cX6_hostsTake 56 = .ok (.aload_n 0, 1) := by decide +kernel
theorem dX6_hostsTake_57 : decode cX6_hostsTake 57 = .ok (.getfield 41, 3) := by decide +kernel
theorem dX6_hostsTake_60 : decode cX6_hostsTake 60 = .ok (.iload_n 3, 1) := by decide +kernel
theorem dX6_hostsTake_61 : decode cX6_hostsTake 61 = .ok (.iaload, 1) := by decide +kernel
theorem dX6_hostsTake_62 : decode cX6_hostsTake 62 = .ok (.if_icmp .ge 7, 3) := by decide +kernel
theorem dX6_hostsTake_65 : decode cX6_hostsTake 65 = .ok (.iconst 1, 1) := by decide +kernel
theorem dX6_hostsTake_66 : decode cX6_hostsTake 66 = .ok (.goto 4, 3) := by decide +kernel
theorem dX6_hostsTake_69 : decode cX6_hostsTake 69 = .ok (.iconst 0, 1) := by decide +kernel
theorem dX6_hostsTake_70 : decode cX6_hostsTake 70 = .ok (.iadd, 1) := by decide +kernel
theorem dX6_hostsTake_71 : decode cX6_hostsTake 71 = .ok (.iastore, 1) := by decide +kernel
theorem dX6_hostsTake_72 : decode cX6_hostsTake 72 = .ok (.aload_n 0, 1) := by decide +kernel
theorem dX6_hostsTake_73 : decode cX6_hostsTake 73 = .ok (.getfield 41, 3) := by decide +kernel
theorem dX6_hostsTake_76 : decode cX6_hostsTake 76 = .ok (.iload_n 3, 1) := by decide +kernel
theorem dX6_hostsTake_77 : decode cX6_hostsTake 77 = .ok (.iload 4, 2) := by decide +kernel
theorem dX6_hostsTake_79 : decode cX6_hostsTake 79 = .ok (.aload_n 0, 1) := by decide +kernel
theorem dX6_hostsTake_80 : decode cX6_hostsTake 80 = .ok (.getfield 41, 3) := by decide +kernel
theorem dX6_hostsTake_83 : decode cX6_hostsTake 83 = .ok (.iload_n 3, 1) := by decide +kernel
theorem dX6_hostsTake_84 : decode cX6_hostsTake 84 = .ok (.iaload, 1) := by decide +kernel
theorem dX6_hostsTake_85 : decode cX6_hostsTake 85 = .ok (.if_icmp .le 8, 3) := by decide +kernel
theorem dX6_hostsTake_88 : decode cX6_hostsTake 88 = .ok (.iload 4, 2) := by decide +kernel
theorem dX6_hostsTake_90 : decode cX6_hostsTake 90 = .ok (.goto 9, 3) := by decide +kernel
theorem dX6_hostsTake_93 : decode cX6_hostsTake 93 = .ok (.aload_n 0, 1) := by decide +kernel
theorem dX6_hostsTake_94 : decode cX6_hostsTake 94 = .ok (.getfield 41, 3) := by decide +kernel
theorem dX6_hostsTake_97 : decode cX6_hostsTake 97 = .ok (.iload_n 3, 1) := by decide +kernel
theorem dX6_hostsTake_98 : decode cX6_hostsTake 98 = .ok (.iaload, 1) := by decide +kernel
theorem dX6_hostsTake_99 : decode cX6_hostsTake 99 = .ok (.iastore, 1) := by decide +kernel
theorem dX6_hostsTake_100 : decode cX6_hostsTake 100 = .ok (.aload_n 0, 1) := by decide +kernel
theorem dX6_hostsTake_101 : decode cX6_hostsTake 101 = .ok (.getfield 32, 3) := by decide +kernel
theorem dX6_hostsTake_104 : decode cX6_hostsTake 104 = .ok (.iload_n 3, 1) := by decide +kernel
theorem dX6_hostsTake_105 : decode cX6_hostsTake 105 = .ok (.dup2, 1) := by decide +kernel
theorem dX6_hostsTake_106 : decode cX6_hostsTake 106 = .ok (.iaload, 1) := by decide +kernel
theorem dX6_hostsTake_107 : decode cX6_hostsTake 107 = .ok (.iconst 1, 1) := by decide +kernel
theorem dX6_hostsTake_108 : decode cX6_hostsTake 108 = .ok (.iadd, 1) := by decide +kernel
theorem dX6_hostsTake_109 : decode cX6_hostsTake 109 = .ok (.iastore, 1) := by decide +kernel
theorem dX6_hostsTake_110 : decode cX6_hostsTake 110 = .ok (.aload_n 0, 1) := by decide +kernel
theorem dX6_hostsTake_111 : decode cX6_hostsTake 111 = .ok (.getfield 44, 3) := by decide +kernel
theorem dX6_hostsTake_114 : decode cX6_hostsTake 114 = .ok (.iload_n 3, 1) := by decide +kernel
theorem dX6_hostsTake_115 : decode cX6_hostsTake 115 = .ok (.aload_n 0, 1) := by decide +kernel
theorem dX6_hostsTake_116 : decode cX6_hostsTake 116 = .ok (.getfield 32, 3) := by decide +kernel
theorem dX6_hostsTake_119 : decode cX6_hostsTake 119 = .ok (.iload_n 3, 1) := by decide +kernel
theorem dX6_hostsTake_120 : decode cX6_hostsTake 120 = .ok (.iaload, 1) := by decide +kernel
theorem dX6_hostsTake_121 : decode cX6_hostsTake 121 = .ok (.aload_n 0, 1) := by decide +kernel
theorem dX6_hostsTake_122 : decode cX6_hostsTake 122 = .ok (.getfield 23, 3) := by decide +kernel
theorem dX6_hostsTake_125 : decode cX6_hostsTake 125 = .ok (.iload_n 3, 1) := by decide +kernel
theorem dX6_hostsTake_126 : decode cX6_hostsTake 126 = .ok (.iaload, 1) := by decide +kernel
theorem dX6_hostsTake_127 : decode cX6_hostsTake 127 = .ok (.if_icmp .ne 10, 3) := by decide +kernel
theorem dX6_hostsTake_130 : decode cX6_hostsTake 130 = .ok (.aload_n 0, 1) := by decide +kernel
theorem dX6_hostsTake_131 : decode cX6_hostsTake 131 = .ok (.getfield 121, 3) := by decide +kernel
theorem dX6_hostsTake_134 : decode cX6_hostsTake 134 = .ok (.goto 9, 3) := by decide +kernel
theorem dX6_hostsTake_137 : decode cX6_hostsTake 137 = .ok (.aload_n 0, 1) := by decide +kernel
theorem dX6_hostsTake_138 : decode cX6_hostsTake 138 = .ok (.getfield 44, 3) := by decide +kernel
theorem dX6_hostsTake_141 : decode cX6_hostsTake 141 = .ok (.iload_n 3, 1) := by decide +kernel
theorem dX6_hostsTake_142 : decode cX6_hostsTake 142 = .ok (.iaload, 1) := by decide +kernel
theorem dX6_hostsTake_143 : decode cX6_hostsTake 143 = .ok (.iastore, 1) := by decide +kernel
theorem dX6_hostsTake_144 : decode cX6_hostsTake 144 = .ok (.aload_n 0, 1) := by decide +kernel
theorem dX6_hostsTake_145 : decode cX6_hostsTake 145 = .ok (.getfield 93, 3) := by decide +kernel
theorem dX6_hostsTake_148 : decode cX6_hostsTake 148 = .ok (.iload_n 2, 1) := by decide +kernel
theorem dX6_hostsTake_149 : decode cX6_hostsTake 149 = .ok (.dup2, 1) := by decide +kernel
theorem dX6_hostsTake_150 : decode cX6_hostsTake 150 = .ok (.iaload, 1) := by decide +kernel
theorem dX6_hostsTake_151 : decode cX6_hostsTake 151 = .ok (.iconst 1, 1) := by decide +kernel
theorem dX6_hostsTake_152 : decode cX6_hostsTake 152 = .ok (.isub, 1) := by decide +kernel
theorem dX6_hostsTake_153 : decode cX6_hostsTake 153 = .ok (.iastore, 1) := by decide +kernel
theorem dX6_hostsTake_154 : decode cX6_hostsTake 154 = .ok (.aload_n 0, 1) := by decide +kernel
theorem dX6_hostsTake_155 : decode cX6_hostsTake 155 = .ok (.bipush 16, 2) := by decide +kernel
theorem dX6_hostsTake_157 : decode cX6_hostsTake 157 = .ok (.iload_n 2, 1) := by decide +kernel
theorem dX6_hostsTake_158 : decode cX6_hostsTake 158 = .ok (.iadd, 1) := by decide +kernel
theorem dX6_hostsTake_159 : decode cX6_hostsTake 159 = .ok (.invokevirtual 152, 3) := by decide +kernel
theorem dX6_hostsTake_162 : decode cX6_hostsTake 162 = .ok (.iinc 1 1, 3) := by decide +kernel
theorem dX6_hostsTake_165 : decode cX6_hostsTake 165 = .ok (.iinc 2 1, 3) := by decide +kernel
theorem dX6_hostsTake_168 : decode cX6_hostsTake 168 = .ok (.goto (-164), 3) := by decide +kernel
theorem dX6_hostsTake_171 : decode cX6_hostsTake 171 = .ok (.iload_n 1, 1) := by decide +kernel
theorem dX6_hostsTake_172 : decode cX6_hostsTake 172 = .ok (.ireturn, 1) := by decide +kernel
set_option maxRecDepth 20000 in
theorem ggX6_spinesLose_X6_north : GoodIn wsX6_spinesLose wsX6_north := goodIn_r _ [8] (by decide +kernel) (by decide +kernel)
set_option maxRecDepth 20000 in
theorem gX6_spinesLose_X6_north : GoodIn wsX6_spinesLose (va_wsS RX6 138 yX6_north wsX6_north) := goodIn_app (goodIn_of _ (by decide +kernel)) ggX6_spinesLose_X6_north
set_option maxRecDepth 20000 in
theorem ggX6_spinesLose_X6_wanted : GoodIn wsX6_spinesLose wsX6_wanted := goodIn_r _ [12, 13, 14, 15, 16, 17, 7, 18, 4, 1, 19, 20, 21, 22, 23, 24, 25, 26, 5, 6, 8, 40, 41, 42, 43, 44, 45, 46, 47, 48, 49, 50, 51, 52, 53, 54, 55, 56, 57, 58, 59, 60, 61, 62, 63, 64, 65, 66, 67, 68, 69, 70, 71, 72, 73, 74, 75] (by decide +kernel) (by decide +kernel)
set_option maxRecDepth 20000 in
theorem gX6_spinesLose_X6_wanted : GoodIn wsX6_spinesLose (wsV RX6 156 RX6 yX6_wanted wsX6_wanted) := goodIn_app (goodIn_of _ (by decide +kernel)) ggX6_spinesLose_X6_wanted
set_option maxRecDepth 20000 in
theorem ggX6_spinesLose_X6_isShut : GoodIn wsX6_spinesLose wsX6_isShut := goodIn_r _ [30, 26, 40, 41, 42, 43, 44, 45, 46, 47, 48, 49, 50, 51, 52, 53, 54, 55, 56, 57, 58, 59, 60, 61, 62, 63, 64, 65, 66, 67, 68, 69, 70, 71, 72, 73, 74, 75] (by decide +kernel) (by decide +kernel)
set_option maxRecDepth 20000 in
theorem gX6_spinesLose_X6_isShut : GoodIn wsX6_spinesLose (wsV RX6 159 RX6 yX6_isShut wsX6_isShut) := goodIn_app (goodIn_of _ (by decide +kernel)) ggX6_spinesLose_X6_isShut
set_option maxRecDepth 20000 in
theorem ggX6_spinesLose_X6_leaves : GoodIn wsX6_spinesLose wsX6_leaves := goodIn_r _ [34, 13, 1, 35, 14, 36, 37, 38, 39, 40, 41, 42, 43, 44, 45, 46, 47, 48, 49, 50, 51, 52, 53, 54, 55, 56, 57, 58, 59, 60, 61, 62, 63, 64, 65, 66, 67, 68, 69, 70, 71, 72, 73, 74, 75] (by decide +kernel) (by decide +kernel)
set_option maxRecDepth 20000 in
theorem gX6_spinesLose_X6_leaves : GoodIn wsX6_spinesLose (wsV RX6 152 RX6 yX6_leaves wsX6_leaves) := goodIn_app (goodIn_of _ (by decide +kernel)) ggX6_spinesLose_X6_leaves
theorem dX6_spinesLose_0 : decode cX6_spinesLose 0 = .ok (.iconst 0, 1) := by decide +kernel
theorem dX6_spinesLose_1 : decode cX6_spinesLose 1 = .ok (.istore_n 1, 1) := by decide +kernel
theorem dX6_spinesLose_2 : decode cX6_spinesLose 2 = .ok (.iload_n 1, 1) := by decide +kernel
theorem dX6_spinesLose_3 : decode cX6_spinesLose 3 = .ok (.iconst 4, 1) := by decide +kernel
theorem dX6_spinesLose_4 : decode cX6_spinesLose 4 = .ok (.if_icmp .ge 92, 3) := by decide +kernel
theorem dX6_spinesLose_7 : decode cX6_spinesLose 7 = .ok (.iconst 0, 1) := by decide +kernel
theorem dX6_spinesLose_8 : decode cX6_spinesLose 8 = .ok (.istore_n 2, 1) := by decide +kernel
theorem dX6_spinesLose_9 : decode cX6_spinesLose 9 = .ok (.iload_n 2, 1) := by decide +kernel
theorem dX6_spinesLose_10 : decode cX6_spinesLose 10 = .ok (.iconst 4, 1) := by decide +kernel
theorem dX6_spinesLose_11 : decode cX6_spinesLose 11 = .ok (.if_icmp .ge 79, 3) := by decide +kernel
theorem dX6_spinesLose_14 : decode cX6_spinesLose 14 = .ok (.iload_n 2, 1) := by decide +kernel
theorem dX6_spinesLose_15 : decode cX6_spinesLose 15 = .ok (.iload_n 1, 1) := by decide +kernel
theorem dX6_spinesLose_16 : decode cX6_spinesLose 16 = .ok (.invokestatic 138, 3) := by decide +kernel
theorem dX6_spinesLose_19 : decode cX6_spinesLose 19 = .ok (.istore_n 3, 1) := by decide +kernel
theorem dX6_spinesLose_20 : decode cX6_spinesLose 20 = .ok (.aload_n 0, 1) := by decide +kernel
theorem dX6_spinesLose_21 : decode cX6_spinesLose 21 = .ok (.iload_n 3, 1) := by decide +kernel
theorem dX6_spinesLose_22 : decode cX6_spinesLose 22 = .ok (.invokevirtual 156, 3) := by decide +kernel
theorem dX6_spinesLose_25 : decode cX6_spinesLose 25 = .ok (.istore 4, 2) := by decide +kernel
theorem dX6_spinesLose_27 : decode cX6_spinesLose 27 = .ok (.iload 4, 2) := by decide +kernel
theorem dX6_spinesLose_29 : decode cX6_spinesLose 29 = .ok (.iconst (-1), 1) := by decide +kernel
theorem dX6_spinesLose_30 : decode cX6_spinesLose 30 = .ok (.if_icmp .eq 54, 3) := by decide +kernel
theorem dX6_spinesLose_33 : decode cX6_spinesLose 33 = .ok (.aload_n 0, 1) := by decide +kernel
theorem dX6_spinesLose_34 : decode cX6_spinesLose 34 = .ok (.iload 4, 2) := by decide +kernel
theorem dX6_spinesLose_36 : decode cX6_spinesLose 36 = .ok (.invokevirtual 159, 3) := by decide +kernel
theorem dX6_spinesLose_39 : decode cX6_spinesLose 39 = .ok (.ifCond .eq 45, 3) := by decide +kernel
theorem dX6_spinesLose_42 : decode cX6_spinesLose 42 = .ok (.aload_n 0, 1) := by decide +kernel
theorem dX6_spinesLose_43 : decode cX6_spinesLose 43 = .ok (.getfield 71, 3) := by decide +kernel
theorem dX6_spinesLose_46 : decode cX6_spinesLose 46 = .ok (.iconst 4, 1) := by decide +kernel
theorem dX6_spinesLose_47 : decode cX6_spinesLose 47 = .ok (.iload_n 3, 1) := by decide +kernel
theorem dX6_spinesLose_48 : decode cX6_spinesLose 48 = .ok (.imul, 1) := by decide +kernel
theorem dX6_spinesLose_49 : decode cX6_spinesLose 49 = .ok (.iaload, 1) := by decide +kernel
theorem dX6_spinesLose_50 : decode cX6_spinesLose 50 = .ok (.istore 5, 2) := by decide +kernel
theorem dX6_spinesLose_52 : decode cX6_spinesLose 52 = .ok (.aload_n 0, 1) := by decide +kernel
theorem dX6_spinesLose_53 : decode cX6_spinesLose 53 = .ok (.getfield 35, 3) := by decide +kernel
theorem dX6_spinesLose_56 : decode cX6_spinesLose 56 = .ok (.iload 5, 2) := by decide +kernel
theorem dX6_spinesLose_58 : decode cX6_spinesLose 58 = .ok (.dup2, 1) := by decide +kernel
theorem dX6_spinesLose_59 : decode cX6_spinesLose 59 = .ok (.iaload, 1) := by decide +kernel
theorem dX6_spinesLose_60 : decode cX6_spinesLose 60 = .ok (.iconst 1, 1) := by decide +kernel
theorem dX6_spinesLose_61 : decode cX6_spinesLose 61 = .ok (.iadd, 1) := by decide +kernel
theorem dX6_spinesLose_62 : decode cX6_spinesLose 62 = .ok (.iastore, 1) := by decide +kernel
theorem dX6_spinesLose_63 : decode cX6_spinesLose 63 = .ok (.aload_n 0, 1) := by decide +kernel
theorem dX6_spinesLose_64 : decode cX6_spinesLose 64 = .ok (.getfield 93, 3) := by decide +kernel
theorem dX6_spinesLose_67 : decode cX6_spinesLose 67 = .ok (.aload_n 0, 1) := by decide +kernel
theorem dX6_spinesLose_68 : decode cX6_spinesLose 68 = .ok (.getfield 20, 3) := by decide +kernel
theorem dX6_spinesLose_71 : decode cX6_spinesLose 71 = .ok (.iload 5, 2) := by decide +kernel
theorem dX6_spinesLose_73 : decode cX6_spinesLose 73 = .ok (.iaload, 1) := by decide +kernel
theorem dX6_spinesLose_74 : decode cX6_spinesLose 74 = .ok (.dup2, 1) := by decide +kernel
theorem dX6_spinesLose_75 : decode cX6_spinesLose 75 = .ok (.iaload, 1) := by decide +kernel
theorem dX6_spinesLose_76 : decode cX6_spinesLose 76 = .ok (.iconst 1, 1) := by decide +kernel
theorem dX6_spinesLose_77 : decode cX6_spinesLose 77 = .ok (.isub, 1) := by decide +kernel
theorem dX6_spinesLose_78 : decode cX6_spinesLose 78 = .ok (.iastore, 1) := by decide +kernel
theorem dX6_spinesLose_79 : decode cX6_spinesLose 79 = .ok (.aload_n 0, 1) := by decide +kernel
theorem dX6_spinesLose_80 : decode cX6_spinesLose 80 = .ok (.iload_n 3, 1) := by decide +kernel
theorem dX6_spinesLose_81 : decode cX6_spinesLose 81 = .ok (.invokevirtual 152, 3) := by decide +kernel
theorem dX6_spinesLose_84 : decode cX6_spinesLose 84 = .ok (.iinc 2 1, 3) := by decide +kernel
theorem dX6_spinesLose_87 : decode cX6_spinesLose 87 = .ok (.goto (-78), 3) := by decide +kernel
theorem dX6_spinesLose_90 : decode cX6_spinesLose 90 = .ok (.iinc 1 1, 3) := by decide +kernel
theorem dX6_spinesLose_93 : decode cX6_spinesLose 93 = .ok (.goto (-91), 3) := by decide +kernel
theorem dX6_spinesLose_96 : decode cX6_spinesLose 96 = .ok (.return_, 1) := by decide +kernel
set_option maxRecDepth 20000 in
theorem ggX6_leavesChoose_X6_isFar : GoodIn wsX6_leavesChoose wsX6_isFar := goodIn_r _ [9, 10, 11, 35, 36, 37, 38, 39, 40, 41, 42, 43, 44, 45, 46, 47, 48, 49, 50, 51, 52, 53, 54, 55, 56, 57, 58, 59, 60, 61, 62, 63, 64, 65, 66, 67, 68, 69, 70] (by decide +kernel) (by decide +kernel)
set_option maxRecDepth 20000 in
theorem gX6_leavesChoose_X6_isFar : GoodIn wsX6_leavesChoose (wsV RX6 162 RX6 yX6_isFar wsX6_isFar) := goodIn_app (goodIn_of _ (by decide +kernel)) ggX6_leavesChoose_X6_isFar
set_option maxRecDepth 20000 in
theorem ggX6_leavesChoose_X6_wanted : GoodIn wsX6_leavesChoose wsX6_wanted := goodIn_r _ [15, 1, 4, 16, 17, 18, 8, 19, 11, 2, 20, 21, 22, 23, 24, 25, 26, 27, 28, 29, 30, 35, 36, 37, 38, 39, 40, 41, 42, 43, 44, 45, 46, 47, 48, 49, 50, 51, 52, 53, 54, 55, 56, 57, 58, 59, 60, 61, 62, 63, 64, 65, 66, 67, 68, 69, 70] (by decide +kernel) (by decide +kernel)
set_option maxRecDepth 20000 in
theorem gX6_leavesChoose_X6_wanted : GoodIn wsX6_leavesChoose (wsV RX6 156 RX6 yX6_wanted wsX6_wanted) := goodIn_app (goodIn_of _ (by decide +kernel)) ggX6_leavesChoose_X6_wanted
set_option maxRecDepth 20000 in
theorem ggX6_leavesChoose_X6_chosen : GoodIn wsX6_leavesChoose wsX6_chosen := goodIn_r _ [34, 10, 11, 23, 24, 25, 8, 26, 27, 35, 36, 37, 38, 39, 40, 41, 42, 43, 44, 45, 46, 47, 48, 49, 50, 51, 52, 53, 54, 55, 56, 57, 58, 59, 60, 61, 62, 63, 64, 65, 66, 67, 68, 69, 70] (by decide +kernel) (by decide +kernel)
set_option maxRecDepth 20000 in
theorem gX6_leavesChoose_X6_chosen : GoodIn wsX6_leavesChoose (wsV RX6 165 RX6 yX6_chosen wsX6_chosen) := goodIn_app (goodIn_of _ (by decide +kernel)) ggX6_leavesChoose_X6_chosen
theorem dX6_leavesChoose_0 : decode cX6_leavesChoose 0 = .ok (.iconst 0, 1) := by decide +kernel
theorem dX6_leavesChoose_1 : decode cX6_leavesChoose 1 = .ok (.istore_n 1, 1) := by decide +kernel
theorem dX6_leavesChoose_2 : decode cX6_leavesChoose 2 = .ok (.iload_n 1, 1) := by decide +kernel
theorem dX6_leavesChoose_3 : decode cX6_leavesChoose 3 = .ok (.bipush 16, 2) := by decide +kernel
theorem dX6_leavesChoose_5 : decode cX6_leavesChoose 5 = .ok (.if_icmp .ge 88, 3) := by decide +kernel
theorem dX6_leavesChoose_8 : decode cX6_leavesChoose 8 = .ok (.aload_n 0, 1) := by decide +kernel
theorem dX6_leavesChoose_9 : decode cX6_leavesChoose 9 = .ok (.getfield 59, 3) := by decide +kernel
theorem dX6_leavesChoose_12 : decode cX6_leavesChoose 12 = .ok (.iload_n 1, 1) := by decide +kernel
theorem dX6_leavesChoose_13 : decode cX6_leavesChoose 13 = .ok (.iaload, 1) := by decide +kernel
theorem dX6_leavesChoose_14 : decode cX6_leavesChoose 14 = .ok (.ifCond .le 73, 3) := by decide +kernel
theorem dX6_leavesChoose_17 : decode cX6_leavesChoose 17 = .ok (.aload_n 0, 1) := by decide +kernel
theorem dX6_leavesChoose_18 : decode cX6_leavesChoose 18 = .ok (.aload_n 0, 1) := by decide +kernel
theorem dX6_leavesChoose_19 : decode cX6_leavesChoose 19 = .ok (.getfield 71, 3) := by decide +kernel
theorem dX6_leavesChoose_22 : decode cX6_leavesChoose 22 = .ok (.iconst 4, 1) := by decide +kernel
theorem dX6_leavesChoose_23 : decode cX6_leavesChoose 23 = .ok (.iload_n 1, 1) := by decide +kernel
theorem dX6_leavesChoose_24 : decode cX6_leavesChoose 24 = .ok (.imul, 1) := by decide +kernel
theorem dX6_leavesChoose_25 : decode cX6_leavesChoose 25 = .ok (.iaload, 1) := by decide +kernel
theorem dX6_leavesChoose_26 : decode cX6_leavesChoose 26 = .ok (.invokevirtual 162, 3) := by decide +kernel
theorem dX6_leavesChoose_29 : decode cX6_leavesChoose 29 = .ok (.ifCond .eq 58, 3) := by decide +kernel
theorem dX6_leavesChoose_32 : decode cX6_leavesChoose 32 = .ok (.aload_n 0, 1) := by decide +kernel
theorem dX6_leavesChoose_33 : decode cX6_leavesChoose 33 = .ok (.iload_n 1, 1) := by decide +kernel
theorem dX6_leavesChoose_34 : decode cX6_leavesChoose 34 = .ok (.invokevirtual 156, 3) := by decide +kernel
theorem dX6_leavesChoose_37 : decode cX6_leavesChoose 37 = .ok (.iconst (-1), 1) := by decide +kernel
theorem dX6_leavesChoose_38 : decode cX6_leavesChoose 38 = .ok (.if_icmp .ne 49, 3) := by decide +kernel
theorem dX6_leavesChoose_41 : decode cX6_leavesChoose 41 = .ok (.aload_n 0, 1) := by decide +kernel
theorem dX6_leavesChoose_42 : decode cX6_leavesChoose 42 = .ok (.aload_n 0, 1) := by decide +kernel
theorem dX6_leavesChoose_43 : decode cX6_leavesChoose 43 = .ok (.getfield 71, 3) := by decide +kernel
theorem dX6_leavesChoose_46 : decode cX6_leavesChoose 46 = .ok (.iconst 4, 1) := by decide +kernel
theorem dX6_leavesChoose_47 : decode cX6_leavesChoose 47 = .ok (.iload_n 1, 1) := by decide +kernel
theorem dX6_leavesChoose_48 : decode cX6_leavesChoose 48 = .ok (.imul, 1) := by decide +kernel
theorem dX6_leavesChoose_49 : decode cX6_leavesChoose 49 = .ok (.iaload, 1) := by decide +kernel
theorem dX6_leavesChoose_50 : decode cX6_leavesChoose 50 = .ok (.aload_n 0, 1) := by decide +kernel
theorem dX6_leavesChoose_51 : decode cX6_leavesChoose 51 = .ok (.getfield 80, 3) := by decide +kernel
theorem dX6_leavesChoose_54 : decode cX6_leavesChoose 54 = .ok (.iconst 4, 1) := by decide +kernel
theorem dX6_leavesChoose_55 : decode cX6_leavesChoose 55 = .ok (.iload_n 1, 1) := by decide +kernel
theorem dX6_leavesChoose_56 : decode cX6_leavesChoose 56 = .ok (.imul, 1) := by decide +kernel
theorem dX6_leavesChoose_57 : decode cX6_leavesChoose 57 = .ok (.iaload, 1) := by decide +kernel
theorem dX6_leavesChoose_58 : decode cX6_leavesChoose 58 = .ok (.invokevirtual 165, 3) := by decide +kernel
theorem dX6_leavesChoose_61 : decode cX6_leavesChoose 61 = .ok (.istore_n 2, 1) := by decide +kernel
theorem dX6_leavesChoose_62 : decode cX6_leavesChoose 62 = .ok (.aload_n 0, 1) := by decide +kernel
theorem dX6_leavesChoose_63 : decode cX6_leavesChoose 63 = .ok (.getfield 77, 3) := by decide +kernel
theorem dX6_leavesChoose_66 : decode cX6_leavesChoose 66 = .ok (.iconst 4, 1) := by decide +kernel
theorem dX6_leavesChoose_67 : decode cX6_leavesChoose 67 = .ok (.iload_n 1, 1) := by decide +kernel
theorem dX6_leavesChoose_68 : decode cX6_leavesChoose 68 = .ok (.imul, 1) := by decide +kernel
theorem dX6_leavesChoose_69 : decode cX6_leavesChoose 69 = .ok (.iload_n 2, 1) := by decide +kernel
theorem dX6_leavesChoose_70 : decode cX6_leavesChoose 70 = .ok (.iconst (-1), 1) := by decide +kernel
theorem dX6_leavesChoose_71 : decode cX6_leavesChoose 71 = .ok (.if_icmp .ne 14, 3) := by decide +kernel
theorem dX6_leavesChoose_74 : decode cX6_leavesChoose 74 = .ok (.aload_n 0, 1) := by decide +kernel
theorem dX6_leavesChoose_75 : decode cX6_leavesChoose 75 = .ok (.getfield 77, 3) := by decide +kernel
theorem dX6_leavesChoose_78 : decode cX6_leavesChoose 78 = .ok (.iconst 4, 1) := by decide +kernel
theorem dX6_leavesChoose_79 : decode cX6_leavesChoose 79 = .ok (.iload_n 1, 1) := by decide +kernel
theorem dX6_leavesChoose_80 : decode cX6_leavesChoose 80 = .ok (.imul, 1) := by decide +kernel
theorem dX6_leavesChoose_81 : decode cX6_leavesChoose 81 = .ok (.iaload, 1) := by decide +kernel
theorem dX6_leavesChoose_82 : decode cX6_leavesChoose 82 = .ok (.goto 4, 3) := by decide +kernel
theorem dX6_leavesChoose_85 : decode cX6_leavesChoose 85 = .ok (.iload_n 2, 1) := by decide +kernel
theorem dX6_leavesChoose_86 : decode cX6_leavesChoose 86 = .ok (.iastore, 1) := by decide +kernel
theorem dX6_leavesChoose_87 : decode cX6_leavesChoose 87 = .ok (.iinc 1 1, 3) := by decide +kernel
theorem dX6_leavesChoose_90 : decode cX6_leavesChoose 90 = .ok (.goto (-88), 3) := by decide +kernel
theorem dX6_leavesChoose_93 : decode cX6_leavesChoose 93 = .ok (.return_, 1) := by decide +kernel
set_option maxRecDepth 20000 in
theorem ggX6_linksPick_X6_queueAt : GoodIn wsX6_linksPick wsX6_queueAt := goodIn_r _ [7, 8, 9, 6, 10, 11, 12, 13] (by decide +kernel) (by decide +kernel)
set_option maxRecDepth 20000 in
theorem gX6_linksPick_X6_queueAt : GoodIn wsX6_linksPick (va_wsS RX6 168 yX6_queueAt wsX6_queueAt) := goodIn_app (goodIn_of _ (by decide +kernel)) ggX6_linksPick_X6_queueAt
set_option maxRecDepth 20000 in
theorem ggX6_linksPick_X6_wanted : GoodIn wsX6_linksPick wsX6_wanted := goodIn_r _ [17, 18, 19, 20, 21, 22, 6, 23, 24, 25, 11, 12, 13, 26, 27, 28, 29, 30, 8, 9, 10, 35, 36, 37, 38, 39, 40, 41, 42, 43, 44, 45, 46, 47, 48, 49, 50, 51, 52, 53, 54, 55, 56, 57, 58, 59, 60, 61, 62, 63, 64, 65, 66, 67, 68, 69, 70] (by decide +kernel) (by decide +kernel)
set_option maxRecDepth 20000 in
theorem gX6_linksPick_X6_wanted : GoodIn wsX6_linksPick (wsV RX6 156 RX6 yX6_wanted wsX6_wanted) := goodIn_app (goodIn_of _ (by decide +kernel)) ggX6_linksPick_X6_wanted
set_option maxRecDepth 20000 in
theorem ggX6_linksPick_X6_isShut : GoodIn wsX6_linksPick wsX6_isShut := goodIn_r _ [34, 30, 35, 36, 37, 38, 39, 40, 41, 42, 43, 44, 45, 46, 47, 48, 49, 50, 51, 52, 53, 54, 55, 56, 57, 58, 59, 60, 61, 62, 63, 64, 65, 66, 67, 68, 69, 70] (by decide +kernel) (by decide +kernel)
set_option maxRecDepth 20000 in
theorem gX6_linksPick_X6_isShut : GoodIn wsX6_linksPick (wsV RX6 159 RX6 yX6_isShut wsX6_isShut) := goodIn_app (goodIn_of _ (by decide +kernel)) ggX6_linksPick_X6_isShut
theorem dX6_linksPick_0 : decode cX6_linksPick 0 = .ok (.bipush 16, 2) := by decide +kernel
theorem dX6_linksPick_2 : decode cX6_linksPick 2 = .ok (.istore_n 1, 1) := by decide +kernel
theorem dX6_linksPick_3 : decode cX6_linksPick 3 = .ok (.iload_n 1, 1) := by decide +kernel
theorem dX6_linksPick_4 : decode cX6_linksPick 4 = .ok (.bipush 64, 2) := by decide +kernel
theorem dX6_linksPick_6 : decode cX6_linksPick 6 = .ok (.if_icmp .ge 178, 3) := by decide +kernel
theorem dX6_linksPick_9 : decode cX6_linksPick 9 = .ok (.iload_n 1, 1) := by decide +kernel
theorem dX6_linksPick_10 : decode cX6_linksPick 10 = .ok (.bipush 48, 2) := by decide +kernel
theorem dX6_linksPick_12 : decode cX6_linksPick 12 = .ok (.if_icmp .lt 7, 3) := by decide +kernel
theorem dX6_linksPick_15 : decode cX6_linksPick 15 = .ok (.iconst 4, 1) := by decide +kernel
theorem dX6_linksPick_16 : decode cX6_linksPick 16 = .ok (.goto 5, 3) := by decide +kernel
theorem dX6_linksPick_19 : decode cX6_linksPick 19 = .ok (.bipush 8, 2) := by decide +kernel
theorem dX6_linksPick_21 : decode cX6_linksPick 21 = .ok (.istore_n 2, 1) := by decide +kernel
theorem dX6_linksPick_22 : decode cX6_linksPick 22 = .ok (.iconst (-1), 1) := by decide +kernel
theorem dX6_linksPick_23 : decode cX6_linksPick 23 = .ok (.istore_n 3, 1) := by decide +kernel
theorem dX6_linksPick_24 : decode cX6_linksPick 24 = .ok (.iload_n 2, 1) := by decide +kernel
theorem dX6_linksPick_25 : decode cX6_linksPick 25 = .ok (.istore 4, 2) := by decide +kernel
theorem dX6_linksPick_27 : decode cX6_linksPick 27 = .ok (.iload 4, 2) := by decide +kernel
theorem dX6_linksPick_29 : decode cX6_linksPick 29 = .ok (.ifCond .le 60, 3) := by decide +kernel
theorem dX6_linksPick_32 : decode cX6_linksPick 32 = .ok (.aload_n 0, 1) := by decide +kernel
theorem dX6_linksPick_33 : decode cX6_linksPick 33 = .ok (.getfield 62, 3) := by decide +kernel
theorem dX6_linksPick_36 : decode cX6_linksPick 36 = .ok (.iload_n 1, 1) := by decide +kernel
theorem dX6_linksPick_37 : decode cX6_linksPick 37 = .ok (.iaload, 1) := by decide +kernel
theorem dX6_linksPick_38 : decode cX6_linksPick 38 = .ok (.iconst (-1), 1) := by decide +kernel
theorem dX6_linksPick_39 : decode cX6_linksPick 39 = .ok (.if_icmp .ne 10, 3) := by decide +kernel
theorem dX6_linksPick_42 : decode cX6_linksPick 42 = .ok (.iload 4, 2) := by decide +kernel
theorem dX6_linksPick_44 : decode cX6_linksPick 44 = .ok (.iconst 1, 1) := by decide +kernel
theorem dX6_linksPick_45 : decode cX6_linksPick 45 = .ok (.isub, 1) := by decide +kernel
theorem dX6_linksPick_46 : decode cX6_linksPick 46 = .ok (.goto 14, 3) := by decide +kernel
theorem dX6_linksPick_49 : decode cX6_linksPick 49 = .ok (.aload_n 0, 1) := by decide +kernel
theorem dX6_linksPick_50 : decode cX6_linksPick 50 = .ok (.getfield 62, 3) := by decide +kernel
theorem dX6_linksPick_53 : decode cX6_linksPick 53 = .ok (.iload_n 1, 1) := by decide +kernel
theorem dX6_linksPick_54 : decode cX6_linksPick 54 = .ok (.iaload, 1) := by decide +kernel
theorem dX6_linksPick_55 : decode cX6_linksPick 55 = .ok (.iload 4, 2) := by decide +kernel
theorem dX6_linksPick_57 : decode cX6_linksPick 57 = .ok (.iadd, 1) := by decide +kernel
theorem dX6_linksPick_58 : decode cX6_linksPick 58 = .ok (.iload_n 2, 1) := by decide +kernel
theorem dX6_linksPick_59 : decode cX6_linksPick 59 = .ok (.irem, 1) := by decide +kernel
theorem dX6_linksPick_60 : decode cX6_linksPick 60 = .ok (.istore 5, 2) := by decide +kernel
theorem dX6_linksPick_62 : decode cX6_linksPick 62 = .ok (.aload_n 0, 1) := by decide +kernel
theorem dX6_linksPick_63 : decode cX6_linksPick 63 = .ok (.iload_n 1, 1) := by decide +kernel
theorem dX6_linksPick_64 : decode cX6_linksPick 64 = .ok (.iload 5, 2) := by decide +kernel
theorem dX6_linksPick_66 : decode cX6_linksPick 66 = .ok (.invokestatic 168, 3) := by decide +kernel
theorem dX6_linksPick_69 : decode cX6_linksPick 69 = .ok (.invokevirtual 156, 3) := by decide +kernel
theorem dX6_linksPick_72 : decode cX6_linksPick 72 = .ok (.iload_n 1, 1) := by decide +kernel
theorem dX6_linksPick_73 : decode cX6_linksPick 73 = .ok (.if_icmp .ne 8, 3) := by decide +kernel
theorem dX6_linksPick_76 : decode cX6_linksPick 76 = .ok (.iload 5, 2) := by decide +kernel
theorem dX6_linksPick_78 : decode cX6_linksPick 78 = .ok (.goto 4, 3) := by decide +kernel
theorem dX6_linksPick_81 : decode cX6_linksPick 81 = .ok (.iload_n 3, 1) := by decide +kernel
theorem dX6_linksPick_82 : decode cX6_linksPick 82 = .ok (.istore_n 3, 1) := by decide +kernel
theorem dX6_linksPick_83 : decode cX6_linksPick 83 = .ok (.iinc 4 (-1), 3) := by decide +kernel
theorem dX6_linksPick_86 : decode cX6_linksPick 86 = .ok (.goto (-59), 3) := by decide +kernel
theorem dX6_linksPick_89 : decode cX6_linksPick 89 = .ok (.iload_n 3, 1) := by decide +kernel
theorem dX6_linksPick_90 : decode cX6_linksPick 90 = .ok (.iconst (-1), 1) := by decide +kernel
theorem dX6_linksPick_91 : decode cX6_linksPick 91 = .ok (.if_icmp .eq 24, 3) := by decide +kernel
theorem dX6_linksPick_94 : decode cX6_linksPick 94 = .ok (.aload_n 0, 1) := by decide +kernel
theorem dX6_linksPick_95 : decode cX6_linksPick 95 = .ok (.getfield 56, 3) := by decide +kernel
theorem dX6_linksPick_98 : decode cX6_linksPick 98 = .ok (.iload_n 1, 1) := by decide +kernel
theorem dX6_linksPick_99 : decode cX6_linksPick 99 = .ok (.iaload, 1) := by decide +kernel
theorem dX6_linksPick_100 : decode cX6_linksPick 100 = .ok (.ifCond .le 15, 3) := by decide +kernel
theorem dX6_linksPick_103 : decode cX6_linksPick 103 = .ok (.aload_n 0, 1) := by decide +kernel
theorem dX6_linksPick_104 : decode cX6_linksPick 104 = .ok (.iload_n 1, 1) := by decide +kernel
theorem dX6_linksPick_105 : decode cX6_linksPick 105 = .ok (.invokevirtual 159, 3) := by decide +kernel
theorem dX6_linksPick_108 : decode cX6_linksPick 108 = .ok (.ifCond .ne 7, 3) := by decide +kernel
theorem dX6_linksPick_111 : decode cX6_linksPick 111 = .ok (.iconst 1, 1) := by decide +kernel
theorem dX6_linksPick_112 : decode cX6_linksPick 112 = .ok (.goto 4, 3) := by decide +kernel
theorem dX6_linksPick_115 : decode cX6_linksPick 115 = .ok (.iconst 0, 1) := by decide +kernel
theorem dX6_linksPick_116 : decode cX6_linksPick 116 = .ok (.istore 4, 2) := by decide +kernel
theorem dX6_linksPick_118 : decode cX6_linksPick 118 = .ok (.aload_n 0, 1) := by decide +kernel
theorem dX6_linksPick_119 : decode cX6_linksPick 119 = .ok (.getfield 65, 3) := by decide +kernel
theorem dX6_linksPick_122 : decode cX6_linksPick 122 = .ok (.iload_n 1, 1) := by decide +kernel
theorem dX6_linksPick_123 : decode cX6_linksPick 123 = .ok (.iload 4, 2) := by decide +kernel
theorem dX6_linksPick_125 : decode cX6_linksPick 125 = .ok (.ifCond .eq 11, 3) := by decide +kernel
theorem dX6_linksPick_128 : decode cX6_linksPick 128 = .ok (.iload_n 1, 1) := by decide +kernel
theorem dX6_linksPick_129 : decode cX6_linksPick 129 = .ok (.iload_n 3, 1) := by decide +kernel
theorem dX6_linksPick_130 : decode cX6_linksPick 130 = .ok (.invokestatic 168, 3) := by decide +kernel
theorem dX6_linksPick_133 : decode cX6_linksPick 133 = .ok (.goto 4, 3) := by decide +kernel
theorem dX6_linksPick_136 : decode cX6_linksPick 136 = .ok (.iconst (-1), 1) := by decide +kernel
theorem dX6_linksPick_137 : decode cX6_linksPick 137 = .ok (.iastore, 1) := by decide +kernel
theorem dX6_linksPick_138 : decode cX6_linksPick 138 = .ok (.aload_n 0, 1) := by decide +kernel
theorem dX6_linksPick_139 : decode cX6_linksPick 139 = .ok (.getfield 62, 3) := by decide +kernel
theorem dX6_linksPick_142 : decode cX6_linksPick 142 = .ok (.iload_n 1, 1) := by decide +kernel
theorem dX6_linksPick_143 : decode cX6_linksPick 143 = .ok (.iload 4, 2) := by decide +kernel
theorem dX6_linksPick_145 : decode cX6_linksPick 145 = .ok (.ifCond .eq 7, 3) := by decide +kernel
theorem dX6_linksPick_148 : decode cX6_linksPick 148 = .ok (.iload_n 3, 1) := by decide +kernel
theorem dX6_linksPick_149 : decode cX6_linksPick 149 = .ok (.goto 9, 3) := by decide +kernel
theorem dX6_linksPick_152 : decode cX6_linksPick 152 = .ok (.aload_n 0, 1) := by decide +kernel
theorem dX6_linksPick_153 : decode cX6_linksPick 153 = .ok (.getfield 62, 3) := by decide +kernel
theorem dX6_linksPick_156 : decode cX6_linksPick 156 = .ok (.iload_n 1, 1) := by decide +kernel
theorem dX6_linksPick_157 : decode cX6_linksPick 157 = .ok (.iaload, 1) := by decide +kernel
theorem dX6_linksPick_158 : decode cX6_linksPick 158 = .ok (.iastore, 1) := by decide +kernel
theorem dX6_linksPick_159 : decode cX6_linksPick 159 = .ok (.aload_n 0, 1) := by decide +kernel
theorem dX6_linksPick_160 : decode cX6_linksPick 160 = .ok (.getfield 56, 3) := by decide +kernel
theorem dX6_linksPick_163 : decode cX6_linksPick 163 = .ok (.iload_n 1, 1) := by decide +kernel
theorem dX6_linksPick_164 : decode cX6_linksPick 164 = .ok (.dup2, 1) := by decide +kernel
theorem dX6_linksPick_165 : decode cX6_linksPick 165 = .ok (.iaload, 1) := by decide +kernel
theorem dX6_linksPick_166 : decode cX6_linksPick 166 = .ok (.iload 4, 2) := by decide +kernel
theorem dX6_linksPick_168 : decode cX6_linksPick 168 = .ok (.ifCond .eq 7, 3) := by decide +kernel
theorem dX6_linksPick_171 : decode cX6_linksPick 171 = .ok (.iconst 1, 1) := by decide +kernel
theorem dX6_linksPick_172 : decode cX6_linksPick 172 = .ok (.goto 4, 3) := by decide +kernel
theorem dX6_linksPick_175 : decode cX6_linksPick 175 = .ok (.iconst 0, 1) := by decide +kernel
theorem dX6_linksPick_176 : decode cX6_linksPick 176 = .ok (.isub, 1) := by decide +kernel
theorem dX6_linksPick_177 : decode cX6_linksPick 177 = .ok (.iastore, 1) := by decide +kernel
theorem dX6_linksPick_178 : decode cX6_linksPick 178 = .ok (.iinc 1 1, 3) := by decide +kernel
theorem dX6_linksPick_181 : decode cX6_linksPick 181 = .ok (.goto (-178), 3) := by decide +kernel
theorem dX6_linksPick_184 : decode cX6_linksPick 184 = .ok (.return_, 1) := by decide +kernel
set_option maxRecDepth 20000 in
theorem ggX6_maySend_X6_isFar : GoodIn wsX6_maySend wsX6_isFar := goodIn_r _ [14, 1, 7, 24, 25, 26, 27, 28, 29, 30, 31, 32, 33, 34, 35, 36, 37, 38, 39, 40, 41, 42, 43, 44, 45, 46, 47, 48, 49, 50, 51, 52, 53, 54, 55, 56, 57, 58, 59] (by decide +kernel) (by decide +kernel)
set_option maxRecDepth 20000 in
theorem gX6_maySend_X6_isFar : GoodIn wsX6_maySend (wsV RX6 162 RX6 yX6_isFar wsX6_isFar) := goodIn_app (goodIn_of _ (by decide +kernel)) ggX6_maySend_X6_isFar
set_option maxRecDepth 20000 in
theorem ggX6_maySend_X6_usableSet : GoodIn wsX6_maySend wsX6_usableSet := goodIn_r _ [18, 19, 20, 21, 13, 22, 23, 24, 25, 26, 27, 28, 29, 30, 31, 32, 33, 34, 35, 36, 37, 38, 39, 40, 41, 42, 43, 44, 45, 46, 47, 48, 49, 50, 51, 52, 53, 54, 55, 56, 57, 58, 59] (by decide +kernel) (by decide +kernel)
set_option maxRecDepth 20000 in
theorem gX6_maySend_X6_usableSet : GoodIn wsX6_maySend (wsV RX6 171 RX6 yX6_usableSet wsX6_usableSet) := goodIn_app (goodIn_of _ (by decide +kernel)) ggX6_maySend_X6_usableSet
theorem dX6_maySend_0 : decode cX6_maySend 0 = .ok (.aload_n 0, 1) := by decide +kernel
theorem dX6_maySend_1 : decode cX6_maySend 1 = .ok (.getfield 16, 3) := by decide +kernel
theorem dX6_maySend_4 : decode cX6_maySend 4 = .ok (.iload_n 1, 1) := by decide +kernel
theorem dX6_maySend_5 : decode cX6_maySend 5 = .ok (.iaload, 1) := by decide +kernel
theorem dX6_maySend_6 : decode cX6_maySend 6 = .ok (.iload_n 2, 1) := by decide +kernel
theorem dX6_maySend_7 : decode cX6_maySend 7 = .ok (.if_icmp .ne 42, 3) := by decide +kernel
theorem dX6_maySend_10 : decode cX6_maySend 10 = .ok (.aload_n 0, 1) := by decide +kernel
theorem dX6_maySend_11 : decode cX6_maySend 11 = .ok (.getfield 26, 3) := by decide +kernel
theorem dX6_maySend_14 : decode cX6_maySend 14 = .ok (.iload_n 1, 1) := by decide +kernel
theorem dX6_maySend_15 : decode cX6_maySend 15 = .ok (.iaload, 1) := by decide +kernel
theorem dX6_maySend_16 : decode cX6_maySend 16 = .ok (.aload_n 0, 1) := by decide +kernel
theorem dX6_maySend_17 : decode cX6_maySend 17 = .ok (.getfield 121, 3) := by decide +kernel
theorem dX6_maySend_20 : decode cX6_maySend 20 = .ok (.if_icmp .gt 29, 3) := by decide +kernel
theorem dX6_maySend_23 : decode cX6_maySend 23 = .ok (.aload_n 0, 1) := by decide +kernel
theorem dX6_maySend_24 : decode cX6_maySend 24 = .ok (.getfield 29, 3) := by decide +kernel
theorem dX6_maySend_27 : decode cX6_maySend 27 = .ok (.iload_n 1, 1) := by decide +kernel
theorem dX6_maySend_28 : decode cX6_maySend 28 = .ok (.iaload, 1) := by decide +kernel
theorem dX6_maySend_29 : decode cX6_maySend 29 = .ok (.aload_n 0, 1) := by decide +kernel
theorem dX6_maySend_30 : decode cX6_maySend 30 = .ok (.getfield 35, 3) := by decide +kernel
theorem dX6_maySend_33 : decode cX6_maySend 33 = .ok (.iload_n 1, 1) := by decide +kernel
theorem dX6_maySend_34 : decode cX6_maySend 34 = .ok (.iaload, 1) := by decide +kernel
theorem dX6_maySend_35 : decode cX6_maySend 35 = .ok (.isub, 1) := by decide +kernel
theorem dX6_maySend_36 : decode cX6_maySend 36 = .ok (.aload_n 0, 1) := by decide +kernel
theorem dX6_maySend_37 : decode cX6_maySend 37 = .ok (.getfield 23, 3) := by decide +kernel
theorem dX6_maySend_40 : decode cX6_maySend 40 = .ok (.iload_n 1, 1) := by decide +kernel
theorem dX6_maySend_41 : decode cX6_maySend 41 = .ok (.iaload, 1) := by decide +kernel
theorem dX6_maySend_42 : decode cX6_maySend 42 = .ok (.if_icmp .ge 7, 3) := by decide +kernel
theorem dX6_maySend_45 : decode cX6_maySend 45 = .ok (.iconst 1, 1) := by decide +kernel
theorem dX6_maySend_46 : decode cX6_maySend 46 = .ok (.goto 4, 3) := by decide +kernel
theorem dX6_maySend_49 : decode cX6_maySend 49 = .ok (.iconst 0, 1) := by decide +kernel
theorem dX6_maySend_50 : decode cX6_maySend 50 = .ok (.istore_n 3, 1) := by decide +kernel
theorem dX6_maySend_51 : decode cX6_maySend 51 = .ok (.aload_n 0, 1) := by decide +kernel
theorem dX6_maySend_52 : decode cX6_maySend 52 = .ok (.iload_n 1, 1) := by decide +kernel
theorem dX6_maySend_53 : decode cX6_maySend 53 = .ok (.invokevirtual 162, 3) := by decide +kernel
theorem dX6_maySend_56 : decode cX6_maySend 56 = .ok (.ifCond .eq 26, 3) := by decide +kernel
theorem dX6_maySend_59 : decode cX6_maySend 59 = .ok (.aload_n 0, 1) := by decide +kernel
theorem dX6_maySend_60 : decode cX6_maySend 60 = .ok (.aload_n 0, 1) := by decide +kernel
theorem dX6_maySend_61 : decode cX6_maySend 61 = .ok (.getfield 16, 3) := by decide +kernel
theorem dX6_maySend_64 : decode cX6_maySend 64 = .ok (.iload_n 1, 1) := by decide +kernel
theorem dX6_maySend_65 : decode cX6_maySend 65 = .ok (.iaload, 1) := by decide +kernel
theorem dX6_maySend_66 : decode cX6_maySend 66 = .ok (.iconst 4, 1) := by decide +kernel
theorem dX6_maySend_67 : decode cX6_maySend 67 = .ok (.idiv, 1) := by decide +kernel
theorem dX6_maySend_68 : decode cX6_maySend 68 = .ok (.aload_n 0, 1) := by decide +kernel
theorem dX6_maySend_69 : decode cX6_maySend 69 = .ok (.getfield 20, 3) := by decide +kernel
theorem dX6_maySend_72 : decode cX6_maySend 72 = .ok (.iload_n 1, 1) := by decide +kernel
theorem dX6_maySend_73 : decode cX6_maySend 73 = .ok (.iaload, 1) := by decide +kernel
theorem dX6_maySend_74 : decode cX6_maySend 74 = .ok (.iconst 4, 1) := by decide +kernel
theorem dX6_maySend_75 : decode cX6_maySend 75 = .ok (.idiv, 1) := by decide +kernel
theorem dX6_maySend_76 : decode cX6_maySend 76 = .ok (.invokevirtual 171, 3) := by decide +kernel
theorem dX6_maySend_79 : decode cX6_maySend 79 = .ok (.ifCond .eq 7, 3) := by decide +kernel
theorem dX6_maySend_82 : decode cX6_maySend 82 = .ok (.iconst 1, 1) := by decide +kernel
theorem dX6_maySend_83 : decode cX6_maySend 83 = .ok (.goto 4, 3) := by decide +kernel
theorem dX6_maySend_86 : decode cX6_maySend 86 = .ok (.iconst 0, 1) := by decide +kernel
theorem dX6_maySend_87 : decode cX6_maySend 87 = .ok (.istore 4, 2) := by decide +kernel
theorem dX6_maySend_89 : decode cX6_maySend 89 = .ok (.iload_n 3, 1) := by decide +kernel
theorem dX6_maySend_90 : decode cX6_maySend 90 = .ok (.ifCond .eq 30, 3) := by decide +kernel
theorem dX6_maySend_93 : decode cX6_maySend 93 = .ok (.iload 4, 2) := by decide +kernel
theorem dX6_maySend_95 : decode cX6_maySend 95 = .ok (.ifCond .eq 25, 3) := by decide +kernel
theorem dX6_maySend_98 : decode cX6_maySend 98 = .ok (.aload_n 0, 1) := by decide +kernel
theorem dX6_maySend_99 : decode cX6_maySend 99 = .ok (.getfield 93, 3) := by decide +kernel
theorem dX6_maySend_102 : decode cX6_maySend 102 = .ok (.aload_n 0, 1) := by decide +kernel
theorem dX6_maySend_103 : decode cX6_maySend 103 = .ok (.getfield 20, 3) := by decide +kernel
theorem dX6_maySend_106 : decode cX6_maySend 106 = .ok (.iload_n 1, 1) := by decide +kernel
theorem dX6_maySend_107 : decode cX6_maySend 107 = .ok (.iaload, 1) := by decide +kernel
theorem dX6_maySend_108 : decode cX6_maySend 108 = .ok (.iaload, 1) := by decide +kernel
theorem dX6_maySend_109 : decode cX6_maySend 109 = .ok (.aload_n 0, 1) := by decide +kernel
theorem dX6_maySend_110 : decode cX6_maySend 110 = .ok (.getfield 13, 3) := by decide +kernel
theorem dX6_maySend_113 : decode cX6_maySend 113 = .ok (.if_icmp .ge 7, 3) := by decide +kernel
theorem dX6_maySend_116 : decode cX6_maySend 116 = .ok (.iconst 1, 1) := by decide +kernel
theorem dX6_maySend_117 : decode cX6_maySend 117 = .ok (.goto 4, 3) := by decide +kernel
theorem dX6_maySend_120 : decode cX6_maySend 120 = .ok (.iconst 0, 1) := by decide +kernel
theorem dX6_maySend_121 : decode cX6_maySend 121 = .ok (.ireturn, 1) := by decide +kernel
set_option maxRecDepth 20000 in
theorem ggX6_hostsPick_X6_maySend : GoodIn wsX6_hostsPick wsX6_maySend := goodIn_r _ [11, 12, 13, 14, 15, 16, 17, 6, 5, 18, 19, 20, 21, 10, 22, 23, 24, 25, 26, 27, 28, 29, 30, 31, 32, 33, 34, 35, 36, 37, 38, 39, 40, 41, 42, 43, 44, 45, 46, 47, 48, 49, 50, 51, 52, 53, 54, 55, 56, 57, 58, 59, 60, 61, 62, 63, 64, 65, 66, 67] (by decide +kernel) (by decide +kernel)
set_option maxRecDepth 20000 in
theorem gX6_hostsPick_X6_maySend : GoodIn wsX6_hostsPick (wsV RX6 174 RX6 yX6_maySend wsX6_maySend) := goodIn_app (goodIn_of _ (by decide +kernel)) ggX6_hostsPick_X6_maySend
theorem dX6_hostsPick_0 : decode cX6_hostsPick 0 = .ok (.iconst 0, 1) := by decide +kernel
theorem dX6_hostsPick_1 : decode cX6_hostsPick 1 = .ok (.istore_n 1, 1) := by decide +kernel
theorem dX6_hostsPick_2 : decode cX6_hostsPick 2 = .ok (.iload_n 1, 1) := by decide +kernel
theorem dX6_hostsPick_3 : decode cX6_hostsPick 3 = .ok (.bipush 16, 2) := by decide +kernel
theorem dX6_hostsPick_5 : decode cX6_hostsPick 5 = .ok (.if_icmp .ge 147, 3) := by decide +kernel
theorem dX6_hostsPick_8 : decode cX6_hostsPick 8 = .ok (.aload_n 0, 1) := by decide +kernel
theorem dX6_hostsPick_9 : decode cX6_hostsPick 9 = .ok (.getfield 90, 3) := by decide +kernel
theorem dX6_hostsPick_12 : decode cX6_hostsPick 12 = .ok (.iload_n 1, 1) := by decide +kernel
theorem dX6_hostsPick_13 : decode cX6_hostsPick 13 = .ok (.iconst (-1), 1) := by decide +kernel
theorem dX6_hostsPick_14 : decode cX6_hostsPick 14 = .ok (.iastore, 1) := by decide +kernel
theorem dX6_hostsPick_15 : decode cX6_hostsPick 15 = .ok (.aload_n 0, 1) := by decide +kernel
theorem dX6_hostsPick_16 : decode cX6_hostsPick 16 = .ok (.getfield 118, 3) := by decide +kernel
theorem dX6_hostsPick_19 : decode cX6_hostsPick 19 = .ok (.istore_n 2, 1) := by decide +kernel
theorem dX6_hostsPick_20 : decode cX6_hostsPick 20 = .ok (.iload_n 2, 1) := by decide +kernel
theorem dX6_hostsPick_21 : decode cX6_hostsPick 21 = .ok (.ifCond .le 73, 3) := by decide +kernel
theorem dX6_hostsPick_24 : decode cX6_hostsPick 24 = .ok (.aload_n 0, 1) := by decide +kernel
theorem dX6_hostsPick_25 : decode cX6_hostsPick 25 = .ok (.getfield 56, 3) := by decide +kernel
theorem dX6_hostsPick_28 : decode cX6_hostsPick 28 = .ok (.iload_n 1, 1) := by decide +kernel
theorem dX6_hostsPick_29 : decode cX6_hostsPick 29 = .ok (.iaload, 1) := by decide +kernel
theorem dX6_hostsPick_30 : decode cX6_hostsPick 30 = .ok (.ifCond .le 64, 3) := by decide +kernel
theorem dX6_hostsPick_33 : decode cX6_hostsPick 33 = .ok (.aload_n 0, 1) := by decide +kernel
theorem dX6_hostsPick_34 : decode cX6_hostsPick 34 = .ok (.getfield 87, 3) := by decide +kernel
theorem dX6_hostsPick_37 : decode cX6_hostsPick 37 = .ok (.iload_n 1, 1) := by decide +kernel
theorem dX6_hostsPick_38 : decode cX6_hostsPick 38 = .ok (.iaload, 1) := by decide +kernel
theorem dX6_hostsPick_39 : decode cX6_hostsPick 39 = .ok (.iconst (-1), 1) := by decide +kernel
theorem dX6_hostsPick_40 : decode cX6_hostsPick 40 = .ok (.if_icmp .ne 9, 3) := by decide +kernel
theorem dX6_hostsPick_43 : decode cX6_hostsPick 43 = .ok (.iload_n 2, 1) := by decide +kernel
theorem dX6_hostsPick_44 : decode cX6_hostsPick 44 = .ok (.iconst 1, 1) := by decide +kernel
theorem dX6_hostsPick_45 : decode cX6_hostsPick 45 = .ok (.isub, 1) := by decide +kernel
theorem dX6_hostsPick_46 : decode cX6_hostsPick 46 = .ok (.goto 16, 3) := by decide +kernel
theorem dX6_hostsPick_49 : decode cX6_hostsPick 49 = .ok (.aload_n 0, 1) := by decide +kernel
theorem dX6_hostsPick_50 : decode cX6_hostsPick 50 = .ok (.getfield 87, 3) := by decide +kernel
theorem dX6_hostsPick_53 : decode cX6_hostsPick 53 = .ok (.iload_n 1, 1) := by decide +kernel
theorem dX6_hostsPick_54 : decode cX6_hostsPick 54 = .ok (.iaload, 1) := by decide +kernel
theorem dX6_hostsPick_55 : decode cX6_hostsPick 55 = .ok (.iload_n 2, 1) := by decide +kernel
theorem dX6_hostsPick_56 : decode cX6_hostsPick 56 = .ok (.iadd, 1) := by decide +kernel
theorem dX6_hostsPick_57 : decode cX6_hostsPick 57 = .ok (.aload_n 0, 1) := by decide +kernel
theorem dX6_hostsPick_58 : decode cX6_hostsPick 58 = .ok (.getfield 118, 3) := by decide +kernel
theorem dX6_hostsPick_61 : decode cX6_hostsPick 61 = .ok (.irem, 1) := by decide +kernel
theorem dX6_hostsPick_62 : decode cX6_hostsPick 62 = .ok (.istore_n 3, 1) := by decide +kernel
theorem dX6_hostsPick_63 : decode cX6_hostsPick 63 = .ok (.aload_n 0, 1) := by decide +kernel
theorem dX6_hostsPick_64 : decode cX6_hostsPick 64 = .ok (.getfield 90, 3) := by decide +kernel
theorem dX6_hostsPick_67 : decode cX6_hostsPick 67 = .ok (.iload_n 1, 1) := by decide +kernel
theorem dX6_hostsPick_68 : decode cX6_hostsPick 68 = .ok (.aload_n 0, 1) := by decide +kernel
theorem dX6_hostsPick_69 : decode cX6_hostsPick 69 = .ok (.iload_n 3, 1) := by decide +kernel
theorem dX6_hostsPick_70 : decode cX6_hostsPick 70 = .ok (.iload_n 1, 1) := by decide +kernel
theorem dX6_hostsPick_71 : decode cX6_hostsPick 71 = .ok (.invokevirtual 174, 3) := by decide +kernel
theorem dX6_hostsPick_74 : decode cX6_hostsPick 74 = .ok (.ifCond .eq 7, 3) := by decide +kernel
theorem dX6_hostsPick_77 : decode cX6_hostsPick 77 = .ok (.iload_n 3, 1) := by decide +kernel
theorem dX6_hostsPick_78 : decode cX6_hostsPick 78 = .ok (.goto 9, 3) := by decide +kernel
theorem dX6_hostsPick_81 : decode cX6_hostsPick 81 = .ok (.aload_n 0, 1) := by decide +kernel
theorem dX6_hostsPick_82 : decode cX6_hostsPick 82 = .ok (.getfield 90, 3) := by decide +kernel
theorem dX6_hostsPick_85 : decode cX6_hostsPick 85 = .ok (.iload_n 1, 1) := by decide +kernel
theorem dX6_hostsPick_86 : decode cX6_hostsPick 86 = .ok (.iaload, 1) := by decide +kernel
theorem dX6_hostsPick_87 : decode cX6_hostsPick 87 = .ok (.iastore, 1) := by decide +kernel
theorem dX6_hostsPick_88 : decode cX6_hostsPick 88 = .ok (.iinc 2 (-1), 3) := by decide +kernel
theorem dX6_hostsPick_91 : decode cX6_hostsPick 91 = .ok (.goto (-71), 3) := by decide +kernel
theorem dX6_hostsPick_94 : decode cX6_hostsPick 94 = .ok (.aload_n 0, 1) := by decide +kernel
theorem dX6_hostsPick_95 : decode cX6_hostsPick 95 = .ok (.getfield 90, 3) := by decide +kernel
theorem dX6_hostsPick_98 : decode cX6_hostsPick 98 = .ok (.iload_n 1, 1) := by decide +kernel
theorem dX6_hostsPick_99 : decode cX6_hostsPick 99 = .ok (.iaload, 1) := by decide +kernel
theorem dX6_hostsPick_100 : decode cX6_hostsPick 100 = .ok (.iconst (-1), 1) := by decide +kernel
theorem dX6_hostsPick_101 : decode cX6_hostsPick 101 = .ok (.if_icmp .eq 45, 3) := by decide +kernel
theorem dX6_hostsPick_104 : decode cX6_hostsPick 104 = .ok (.aload_n 0, 1) := by decide +kernel
theorem dX6_hostsPick_105 : decode cX6_hostsPick 105 = .ok (.getfield 87, 3) := by decide +kernel
theorem dX6_hostsPick_108 : decode cX6_hostsPick 108 = .ok (.iload_n 1, 1) := by decide +kernel
theorem dX6_hostsPick_109 : decode cX6_hostsPick 109 = .ok (.aload_n 0, 1) := by decide +kernel
theorem dX6_hostsPick_110 : decode cX6_hostsPick 110 = .ok (.getfield 90, 3) := by decide +kernel
theorem dX6_hostsPick_113 : decode cX6_hostsPick 113 = .ok (.iload_n 1, 1) := by decide +kernel
theorem dX6_hostsPick_114 : decode cX6_hostsPick 114 = .ok (.iaload, 1) := by decide +kernel
theorem dX6_hostsPick_115 : decode cX6_hostsPick 115 = .ok (.iastore, 1) := by decide +kernel
theorem dX6_hostsPick_116 : decode cX6_hostsPick 116 = .ok (.aload_n 0, 1) := by decide +kernel
theorem dX6_hostsPick_117 : decode cX6_hostsPick 117 = .ok (.getfield 56, 3) := by decide +kernel
theorem dX6_hostsPick_120 : decode cX6_hostsPick 120 = .ok (.iload_n 1, 1) := by decide +kernel
theorem dX6_hostsPick_121 : decode cX6_hostsPick 121 = .ok (.dup2, 1) := by decide +kernel
theorem dX6_hostsPick_122 : decode cX6_hostsPick 122 = .ok (.iaload, 1) := by decide +kernel
theorem dX6_hostsPick_123 : decode cX6_hostsPick 123 = .ok (.iconst 1, 1) := by decide +kernel
theorem dX6_hostsPick_124 : decode cX6_hostsPick 124 = .ok (.isub, 1) := by decide +kernel
theorem dX6_hostsPick_125 : decode cX6_hostsPick 125 = .ok (.iastore, 1) := by decide +kernel
theorem dX6_hostsPick_126 : decode cX6_hostsPick 126 = .ok (.aload_n 0, 1) := by decide +kernel
theorem dX6_hostsPick_127 : decode cX6_hostsPick 127 = .ok (.getfield 93, 3) := by decide +kernel
theorem dX6_hostsPick_130 : decode cX6_hostsPick 130 = .ok (.aload_n 0, 1) := by decide +kernel
theorem dX6_hostsPick_131 : decode cX6_hostsPick 131 = .ok (.getfield 20, 3) := by decide +kernel
theorem dX6_hostsPick_134 : decode cX6_hostsPick 134 = .ok (.aload_n 0, 1) := by decide +kernel
theorem dX6_hostsPick_135 : decode cX6_hostsPick 135 = .ok (.getfield 90, 3) := by decide +kernel
theorem dX6_hostsPick_138 : decode cX6_hostsPick 138 = .ok (.iload_n 1, 1) := by decide +kernel
theorem dX6_hostsPick_139 : decode cX6_hostsPick 139 = .ok (.iaload, 1) := by decide +kernel
theorem dX6_hostsPick_140 : decode cX6_hostsPick 140 = .ok (.iaload, 1) := by decide +kernel
theorem dX6_hostsPick_141 : decode cX6_hostsPick 141 = .ok (.dup2, 1) := by decide +kernel
theorem dX6_hostsPick_142 : decode cX6_hostsPick 142 = .ok (.iaload, 1) := by decide +kernel
theorem dX6_hostsPick_143 : decode cX6_hostsPick 143 = .ok (.iconst 1, 1) := by decide +kernel
theorem dX6_hostsPick_144 : decode cX6_hostsPick 144 = .ok (.iadd, 1) := by decide +kernel
theorem dX6_hostsPick_145 : decode cX6_hostsPick 145 = .ok (.iastore, 1) := by decide +kernel
theorem dX6_hostsPick_146 : decode cX6_hostsPick 146 = .ok (.iinc 1 1, 3) := by decide +kernel
theorem dX6_hostsPick_149 : decode cX6_hostsPick 149 = .ok (.goto (-147), 3) := by decide +kernel
theorem dX6_hostsPick_152 : decode cX6_hostsPick 152 = .ok (.return_, 1) := by decide +kernel
theorem dX6_takesAlong_0 : decode cX6_takesAlong 0 = .ok (.iconst 4, 1) := by decide +kernel
theorem dX6_takesAlong_1 : decode cX6_takesAlong 1 = .ok (.aload_n 0, 1) := by decide +kernel
theorem dX6_takesAlong_2 : decode cX6_takesAlong 2 = .ok (.getfield 65, 3) := by decide +kernel
theorem dX6_takesAlong_5 : decode cX6_takesAlong 5 = .ok (.iload_n 1, 1) := by decide +kernel
theorem dX6_takesAlong_6 : decode cX6_takesAlong 6 = .ok (.iaload, 1) := by decide +kernel
theorem dX6_takesAlong_7 : decode cX6_takesAlong 7 = .ok (.imul, 1) := by decide +kernel
theorem dX6_takesAlong_8 : decode cX6_takesAlong 8 = .ok (.istore_n 2, 1) := by decide +kernel
theorem dX6_takesAlong_9 : decode cX6_takesAlong 9 = .ok (.aload_n 0, 1) := by decide +kernel
theorem dX6_takesAlong_10 : decode cX6_takesAlong 10 = .ok (.getfield 96, 3) := by decide +kernel
theorem dX6_takesAlong_13 : decode cX6_takesAlong 13 = .ok (.iload_n 1, 1) := by decide +kernel
theorem dX6_takesAlong_14 : decode cX6_takesAlong 14 = .ok (.aload_n 0, 1) := by decide +kernel
theorem dX6_takesAlong_15 : decode cX6_takesAlong 15 = .ok (.getfield 71, 3) := by decide +kernel
theorem dX6_takesAlong_18 : decode cX6_takesAlong 18 = .ok (.iload_n 2, 1) := by decide +kernel
theorem dX6_takesAlong_19 : decode cX6_takesAlong 19 = .ok (.iaload, 1) := by decide +kernel
theorem dX6_takesAlong_20 : decode cX6_takesAlong 20 = .ok (.iastore, 1) := by decide +kernel
theorem dX6_takesAlong_21 : decode cX6_takesAlong 21 = .ok (.aload_n 0, 1) := by decide +kernel
theorem dX6_takesAlong_22 : decode cX6_takesAlong 22 = .ok (.getfield 99, 3) := by decide +kernel
theorem dX6_takesAlong_25 : decode cX6_takesAlong 25 = .ok (.iload_n 1, 1) := by decide +kernel
theorem dX6_takesAlong_26 : decode cX6_takesAlong 26 = .ok (.aload_n 0, 1) := by decide +kernel
theorem dX6_takesAlong_27 : decode cX6_takesAlong 27 = .ok (.getfield 74, 3) := by decide +kernel
theorem dX6_takesAlong_30 : decode cX6_takesAlong 30 = .ok (.iload_n 2, 1) := by decide +kernel
theorem dX6_takesAlong_31 : decode cX6_takesAlong 31 = .ok (.iaload, 1) := by decide +kernel
theorem dX6_takesAlong_32 : decode cX6_takesAlong 32 = .ok (.iastore, 1) := by decide +kernel
theorem dX6_takesAlong_33 : decode cX6_takesAlong 33 = .ok (.aload_n 0, 1) := by decide +kernel
theorem dX6_takesAlong_34 : decode cX6_takesAlong 34 = .ok (.getfield 102, 3) := by decide +kernel
theorem dX6_takesAlong_37 : decode cX6_takesAlong 37 = .ok (.iload_n 1, 1) := by decide +kernel
theorem dX6_takesAlong_38 : decode cX6_takesAlong 38 = .ok (.aload_n 0, 1) := by decide +kernel
theorem dX6_takesAlong_39 : decode cX6_takesAlong 39 = .ok (.getfield 77, 3) := by decide +kernel
theorem dX6_takesAlong_42 : decode cX6_takesAlong 42 = .ok (.iload_n 2, 1) := by decide +kernel
theorem dX6_takesAlong_43 : decode cX6_takesAlong 43 = .ok (.iaload, 1) := by decide +kernel
theorem dX6_takesAlong_44 : decode cX6_takesAlong 44 = .ok (.iastore, 1) := by decide +kernel
theorem dX6_takesAlong_45 : decode cX6_takesAlong 45 = .ok (.aload_n 0, 1) := by decide +kernel
theorem dX6_takesAlong_46 : decode cX6_takesAlong 46 = .ok (.getfield 105, 3) := by decide +kernel
theorem dX6_takesAlong_49 : decode cX6_takesAlong 49 = .ok (.iload_n 1, 1) := by decide +kernel
theorem dX6_takesAlong_50 : decode cX6_takesAlong 50 = .ok (.aload_n 0, 1) := by decide +kernel
theorem dX6_takesAlong_51 : decode cX6_takesAlong 51 = .ok (.getfield 80, 3) := by decide +kernel
theorem dX6_takesAlong_54 : decode cX6_takesAlong 54 = .ok (.iload_n 2, 1) := by decide +kernel
theorem dX6_takesAlong_55 : decode cX6_takesAlong 55 = .ok (.iaload, 1) := by decide +kernel
theorem dX6_takesAlong_56 : decode cX6_takesAlong 56 = .ok (.iastore, 1) := by decide +kernel
theorem dX6_takesAlong_57 : decode cX6_takesAlong 57 = .ok (.return_, 1) := by decide +kernel
set_option maxRecDepth 20000 in
theorem ggX6_makes_X6_isFar : GoodIn wsX6_makes wsX6_isFar := goodIn_r _ [17, 18, 5, 28, 29, 30, 31, 32, 33, 34, 35, 36, 37, 38, 39, 40, 41, 42, 43, 44, 45, 46, 47, 48, 49, 50, 51, 52, 53, 54, 55, 56, 57, 58, 59, 60, 61, 62, 63] (by decide +kernel) (by decide +kernel)
set_option maxRecDepth 20000 in
theorem gX6_makes_X6_isFar : GoodIn wsX6_makes (wsV RX6 162 RX6 yX6_isFar wsX6_isFar) := goodIn_app (goodIn_of _ (by decide +kernel)) ggX6_makes_X6_isFar
set_option maxRecDepth 20000 in
theorem ggX6_makes_X6_isUsable : GoodIn wsX6_makes wsX6_isUsable := goodIn_r _ [22, 23, 28, 29, 30, 31, 32, 33, 34, 35, 36, 37, 38, 39, 40, 41, 42, 43, 44, 45, 46, 47, 48, 49, 50, 51, 52, 53, 54, 55, 56, 57, 58, 59, 60, 61, 62, 63] (by decide +kernel) (by decide +kernel)
set_option maxRecDepth 20000 in
theorem gX6_makes_X6_isUsable : GoodIn wsX6_makes (wsV RX6 145 RX6 yX6_isUsable wsX6_isUsable) := goodIn_app (goodIn_of _ (by decide +kernel)) ggX6_makes_X6_isUsable
set_option maxRecDepth 20000 in
theorem ggX6_makes_X6_chosen : GoodIn wsX6_makes wsX6_chosen := goodIn_r _ [27, 18, 5, 19, 20, 21, 16, 22, 23, 28, 29, 30, 31, 32, 33, 34, 35, 36, 37, 38, 39, 40, 41, 42, 43, 44, 45, 46, 47, 48, 49, 50, 51, 52, 53, 54, 55, 56, 57, 58, 59, 60, 61, 62, 63] (by decide +kernel) (by decide +kernel)
set_option maxRecDepth 20000 in
theorem gX6_makes_X6_chosen : GoodIn wsX6_makes (wsV RX6 165 RX6 yX6_chosen wsX6_chosen) := goodIn_app (goodIn_of _ (by decide +kernel)) ggX6_makes_X6_chosen
theorem dX6_makes_0 : decode cX6_makes 0 = .ok (.aload_n 0, 1) := by decide +kernel
theorem dX6_makes_1 : decode cX6_makes 1 = .ok (.getfield 90, 3) := by decide +kernel
theorem dX6_makes_4 : decode cX6_makes 4 = .ok (.iload_n 1, 1) := by decide +kernel
theorem dX6_makes_5 : decode cX6_makes 5 = .ok (.iaload, 1) := by decide +kernel
theorem dX6_makes_6 : decode cX6_makes 6 = .ok (.istore_n 2, 1) := by decide +kernel
theorem dX6_makes_7 : decode cX6_makes 7 = .ok (.aload_n 0, 1) := by decide +kernel
theorem dX6_makes_8 : decode cX6_makes 8 = .ok (.getfield 53, 3) := by decide +kernel
theorem dX6_makes_11 : decode cX6_makes 11 = .ok (.iload_n 2, 1) := by decide +kernel
theorem dX6_makes_12 : decode cX6_makes 12 = .ok (.iaload, 1) := by decide +kernel
theorem dX6_makes_13 : decode cX6_makes 13 = .ok (.iconst (-1), 1) := by decide +kernel
theorem dX6_makes_14 : decode cX6_makes 14 = .ok (.if_icmp .eq 53, 3) := by decide +kernel
theorem dX6_makes_17 : decode cX6_makes 17 = .ok (.aload_n 0, 1) := by decide +kernel
theorem dX6_makes_18 : decode cX6_makes 18 = .ok (.getfield 121, 3) := by decide +kernel
theorem dX6_makes_21 : decode cX6_makes 21 = .ok (.aload_n 0, 1) := by decide +kernel
theorem dX6_makes_22 : decode cX6_makes 22 = .ok (.getfield 53, 3) := by decide +kernel
theorem dX6_makes_25 : decode cX6_makes 25 = .ok (.iload_n 2, 1) := by decide +kernel
theorem dX6_makes_26 : decode cX6_makes 26 = .ok (.iaload, 1) := by decide +kernel
theorem dX6_makes_27 : decode cX6_makes 27 = .ok (.isub, 1) := by decide +kernel
theorem dX6_makes_28 : decode cX6_makes 28 = .ok (.aload_n 0, 1) := by decide +kernel
theorem dX6_makes_29 : decode cX6_makes 29 = .ok (.getfield 7, 3) := by decide +kernel
theorem dX6_makes_32 : decode cX6_makes 32 = .ok (.if_icmp .gt 35, 3) := by decide +kernel
theorem dX6_makes_35 : decode cX6_makes 35 = .ok (.aload_n 0, 1) := by decide +kernel
theorem dX6_makes_36 : decode cX6_makes 36 = .ok (.iload_n 2, 1) := by decide +kernel
theorem dX6_makes_37 : decode cX6_makes 37 = .ok (.invokevirtual 162, 3) := by decide +kernel
theorem dX6_makes_40 : decode cX6_makes 40 = .ok (.ifCond .eq 31, 3) := by decide +kernel
theorem dX6_makes_43 : decode cX6_makes 43 = .ok (.aload_n 0, 1) := by decide +kernel
theorem dX6_makes_44 : decode cX6_makes 44 = .ok (.iload_n 1, 1) := by decide +kernel
theorem dX6_makes_45 : decode cX6_makes 45 = .ok (.iconst 4, 1) := by decide +kernel
theorem dX6_makes_46 : decode cX6_makes 46 = .ok (.idiv, 1) := by decide +kernel
theorem dX6_makes_47 : decode cX6_makes 47 = .ok (.aload_n 0, 1) := by decide +kernel
theorem dX6_makes_48 : decode cX6_makes 48 = .ok (.getfield 20, 3) := by decide +kernel
theorem dX6_makes_51 : decode cX6_makes 51 = .ok (.iload_n 2, 1) := by decide +kernel
theorem dX6_makes_52 : decode cX6_makes 52 = .ok (.iaload, 1) := by decide +kernel
theorem dX6_makes_53 : decode cX6_makes 53 = .ok (.iconst 4, 1) := by decide +kernel
theorem dX6_makes_54 : decode cX6_makes 54 = .ok (.idiv, 1) := by decide +kernel
theorem dX6_makes_55 : decode cX6_makes 55 = .ok (.aload_n 0, 1) := by decide +kernel
theorem dX6_makes_56 : decode cX6_makes 56 = .ok (.getfield 50, 3) := by decide +kernel
theorem dX6_makes_59 : decode cX6_makes 59 = .ok (.iload_n 2, 1) := by decide +kernel
theorem dX6_makes_60 : decode cX6_makes 60 = .ok (.iaload, 1) := by decide +kernel
theorem dX6_makes_61 : decode cX6_makes 61 = .ok (.invokevirtual 145, 3) := by decide +kernel
theorem dX6_makes_64 : decode cX6_makes 64 = .ok (.ifCond .ne 7, 3) := by decide +kernel
theorem dX6_makes_67 : decode cX6_makes 67 = .ok (.iconst 1, 1) := by decide +kernel
theorem dX6_makes_68 : decode cX6_makes 68 = .ok (.goto 4, 3) := by decide +kernel
theorem dX6_makes_71 : decode cX6_makes 71 = .ok (.iconst 0, 1) := by decide +kernel
theorem dX6_makes_72 : decode cX6_makes 72 = .ok (.istore_n 3, 1) := by decide +kernel
theorem dX6_makes_73 : decode cX6_makes 73 = .ok (.iload_n 3, 1) := by decide +kernel
theorem dX6_makes_74 : decode cX6_makes 74 = .ok (.ifCond .eq 38, 3) := by decide +kernel
theorem dX6_makes_77 : decode cX6_makes 77 = .ok (.aload_n 0, 1) := by decide +kernel
theorem dX6_makes_78 : decode cX6_makes 78 = .ok (.iload_n 2, 1) := by decide +kernel
theorem dX6_makes_79 : decode cX6_makes 79 = .ok (.invokevirtual 162, 3) := by decide +kernel
theorem dX6_makes_82 : decode cX6_makes 82 = .ok (.ifCond .eq 30, 3) := by decide +kernel
theorem dX6_makes_85 : decode cX6_makes 85 = .ok (.aload_n 0, 1) := by decide +kernel
theorem dX6_makes_86 : decode cX6_makes 86 = .ok (.getfield 50, 3) := by decide +kernel
theorem dX6_makes_89 : decode cX6_makes 89 = .ok (.iload_n 2, 1) := by decide +kernel
theorem dX6_makes_90 : decode cX6_makes 90 = .ok (.aload_n 0, 1) := by decide +kernel
theorem dX6_makes_91 : decode cX6_makes 91 = .ok (.iload_n 2, 1) := by decide +kernel
theorem dX6_makes_92 : decode cX6_makes 92 = .ok (.aload_n 0, 1) := by decide +kernel
theorem dX6_makes_93 : decode cX6_makes 93 = .ok (.getfield 47, 3) := by decide +kernel
theorem dX6_makes_96 : decode cX6_makes 96 = .ok (.iload_n 2, 1) := by decide +kernel
theorem dX6_makes_97 : decode cX6_makes 97 = .ok (.iaload, 1) := by decide +kernel
theorem dX6_makes_98 : decode cX6_makes 98 = .ok (.invokevirtual 165, 3) := by decide +kernel
theorem dX6_makes_101 : decode cX6_makes 101 = .ok (.iastore, 1) := by decide +kernel
theorem dX6_makes_102 : decode cX6_makes 102 = .ok (.aload_n 0, 1) := by decide +kernel
theorem dX6_makes_103 : decode cX6_makes 103 = .ok (.getfield 47, 3) := by decide +kernel
theorem dX6_makes_106 : decode cX6_makes 106 = .ok (.iload_n 2, 1) := by decide +kernel
theorem dX6_makes_107 : decode cX6_makes 107 = .ok (.dup2, 1) := by decide +kernel
theorem dX6_makes_108 : decode cX6_makes 108 = .ok (.iaload, 1) := by decide +kernel
theorem dX6_makes_109 : decode cX6_makes 109 = .ok (.iconst 1, 1) := by decide +kernel
theorem dX6_makes_110 : decode cX6_makes 110 = .ok (.iadd, 1) := by decide +kernel
theorem dX6_makes_111 : decode cX6_makes 111 = .ok (.iastore, 1) := by decide +kernel
theorem dX6_makes_112 : decode cX6_makes 112 = .ok (.aload_n 0, 1) := by decide +kernel
theorem dX6_makes_113 : decode cX6_makes 113 = .ok (.getfield 96, 3) := by decide +kernel
theorem dX6_makes_116 : decode cX6_makes 116 = .ok (.iload_n 1, 1) := by decide +kernel
theorem dX6_makes_117 : decode cX6_makes 117 = .ok (.iload_n 2, 1) := by decide +kernel
theorem dX6_makes_118 : decode cX6_makes 118 = .ok (.iastore, 1) := by decide +kernel
theorem dX6_makes_119 : decode cX6_makes 119 = .ok (.aload_n 0, 1) := by decide +kernel
theorem dX6_makes_120 : decode cX6_makes 120 = .ok (.getfield 99, 3) := by decide +kernel
theorem dX6_makes_123 : decode cX6_makes 123 = .ok (.iload_n 1, 1) := by decide +kernel
theorem dX6_makes_124 : decode cX6_makes 124 = .ok (.aload_n 0, 1) := by decide +kernel
theorem dX6_makes_125 : decode cX6_makes 125 = .ok (.getfield 29, 3) := by decide +kernel
theorem dX6_makes_128 : decode cX6_makes 128 = .ok (.iload_n 2, 1) := by decide +kernel
theorem dX6_makes_129 : decode cX6_makes 129 = .ok (.iaload, 1) := by decide +kernel
theorem dX6_makes_130 : decode cX6_makes 130 = .ok (.iastore, 1) := by decide +kernel
theorem dX6_makes_131 : decode cX6_makes 131 = .ok (.aload_n 0, 1) := by decide +kernel
theorem dX6_makes_132 : decode cX6_makes 132 = .ok (.getfield 102, 3) := by decide +kernel
theorem dX6_makes_135 : decode cX6_makes 135 = .ok (.iload_n 1, 1) := by decide +kernel
theorem dX6_makes_136 : decode cX6_makes 136 = .ok (.aload_n 0, 1) := by decide +kernel
theorem dX6_makes_137 : decode cX6_makes 137 = .ok (.getfield 50, 3) := by decide +kernel
theorem dX6_makes_140 : decode cX6_makes 140 = .ok (.iload_n 2, 1) := by decide +kernel
theorem dX6_makes_141 : decode cX6_makes 141 = .ok (.iaload, 1) := by decide +kernel
theorem dX6_makes_142 : decode cX6_makes 142 = .ok (.iastore, 1) := by decide +kernel
theorem dX6_makes_143 : decode cX6_makes 143 = .ok (.aload_n 0, 1) := by decide +kernel
theorem dX6_makes_144 : decode cX6_makes 144 = .ok (.getfield 105, 3) := by decide +kernel
theorem dX6_makes_147 : decode cX6_makes 147 = .ok (.iload_n 1, 1) := by decide +kernel
theorem dX6_makes_148 : decode cX6_makes 148 = .ok (.aload_n 0, 1) := by decide +kernel
theorem dX6_makes_149 : decode cX6_makes 149 = .ok (.getfield 47, 3) := by decide +kernel
theorem dX6_makes_152 : decode cX6_makes 152 = .ok (.iload_n 2, 1) := by decide +kernel
theorem dX6_makes_153 : decode cX6_makes 153 = .ok (.iaload, 1) := by decide +kernel
theorem dX6_makes_154 : decode cX6_makes 154 = .ok (.iconst 1, 1) := by decide +kernel
theorem dX6_makes_155 : decode cX6_makes 155 = .ok (.isub, 1) := by decide +kernel
theorem dX6_makes_156 : decode cX6_makes 156 = .ok (.iastore, 1) := by decide +kernel
theorem dX6_makes_157 : decode cX6_makes 157 = .ok (.aload_n 0, 1) := by decide +kernel
theorem dX6_makes_158 : decode cX6_makes 158 = .ok (.getfield 53, 3) := by decide +kernel
theorem dX6_makes_161 : decode cX6_makes 161 = .ok (.iload_n 2, 1) := by decide +kernel
theorem dX6_makes_162 : decode cX6_makes 162 = .ok (.aload_n 0, 1) := by decide +kernel
theorem dX6_makes_163 : decode cX6_makes 163 = .ok (.getfield 121, 3) := by decide +kernel
theorem dX6_makes_166 : decode cX6_makes 166 = .ok (.iastore, 1) := by decide +kernel
theorem dX6_makes_167 : decode cX6_makes 167 = .ok (.aload_n 0, 1) := by decide +kernel
theorem dX6_makes_168 : decode cX6_makes 168 = .ok (.getfield 29, 3) := by decide +kernel
theorem dX6_makes_171 : decode cX6_makes 171 = .ok (.iload_n 2, 1) := by decide +kernel
theorem dX6_makes_172 : decode cX6_makes 172 = .ok (.dup2, 1) := by decide +kernel
theorem dX6_makes_173 : decode cX6_makes 173 = .ok (.iaload, 1) := by decide +kernel
theorem dX6_makes_174 : decode cX6_makes 174 = .ok (.iconst 1, 1) := by decide +kernel
theorem dX6_makes_175 : decode cX6_makes 175 = .ok (.iadd, 1) := by decide +kernel
theorem dX6_makes_176 : decode cX6_makes 176 = .ok (.iastore, 1) := by decide +kernel
theorem dX6_makes_177 : decode cX6_makes 177 = .ok (.return_, 1) := by decide +kernel
theorem dX6_arrives_0 : decode cX6_arrives 0 = .ok (.iconst 4, 1) := by decide +kernel
theorem dX6_arrives_1 : decode cX6_arrives 1 = .ok (.iload_n 1, 1) := by decide +kernel
theorem dX6_arrives_2 : decode cX6_arrives 2 = .ok (.imul, 1) := by decide +kernel
theorem dX6_arrives_3 : decode cX6_arrives 3 = .ok (.aload_n 0, 1) := by decide +kernel
theorem dX6_arrives_4 : decode cX6_arrives 4 = .ok (.getfield 59, 3) := by decide +kernel
theorem dX6_arrives_7 : decode cX6_arrives 7 = .ok (.iload_n 1, 1) := by decide +kernel
theorem dX6_arrives_8 : decode cX6_arrives 8 = .ok (.iaload, 1) := by decide +kernel
theorem dX6_arrives_9 : decode cX6_arrives 9 = .ok (.iadd, 1) := by decide +kernel
theorem dX6_arrives_10 : decode cX6_arrives 10 = .ok (.istore_n 2, 1) := by decide +kernel
theorem dX6_arrives_11 : decode cX6_arrives 11 = .ok (.aload_n 0, 1) := by decide +kernel
theorem dX6_arrives_12 : decode cX6_arrives 12 = .ok (.getfield 71, 3) := by decide +kernel
theorem dX6_arrives_15 : decode cX6_arrives 15 = .ok (.iload_n 2, 1) := by decide +kernel
theorem dX6_arrives_16 : decode cX6_arrives 16 = .ok (.aload_n 0, 1) := by decide +kernel
theorem dX6_arrives_17 : decode cX6_arrives 17 = .ok (.getfield 96, 3) := by decide +kernel
theorem dX6_arrives_20 : decode cX6_arrives 20 = .ok (.iload_n 1, 1) := by decide +kernel
theorem dX6_arrives_21 : decode cX6_arrives 21 = .ok (.iaload, 1) := by decide +kernel
theorem dX6_arrives_22 : decode cX6_arrives 22 = .ok (.iastore, 1) := by decide +kernel
theorem dX6_arrives_23 : decode cX6_arrives 23 = .ok (.aload_n 0, 1) := by decide +kernel
theorem dX6_arrives_24 : decode cX6_arrives 24 = .ok (.getfield 74, 3) := by decide +kernel
theorem dX6_arrives_27 : decode cX6_arrives 27 = .ok (.iload_n 2, 1) := by decide +kernel
theorem dX6_arrives_28 : decode cX6_arrives 28 = .ok (.aload_n 0, 1) := by decide +kernel
theorem dX6_arrives_29 : decode cX6_arrives 29 = .ok (.getfield 99, 3) := by decide +kernel
theorem dX6_arrives_32 : decode cX6_arrives 32 = .ok (.iload_n 1, 1) := by decide +kernel
theorem dX6_arrives_33 : decode cX6_arrives 33 = .ok (.iaload, 1) := by decide +kernel
theorem dX6_arrives_34 : decode cX6_arrives 34 = .ok (.iastore, 1) := by decide +kernel
theorem dX6_arrives_35 : decode cX6_arrives 35 = .ok (.aload_n 0, 1) := by decide +kernel
theorem dX6_arrives_36 : decode cX6_arrives 36 = .ok (.getfield 77, 3) := by decide +kernel
theorem dX6_arrives_39 : decode cX6_arrives 39 = .ok (.iload_n 2, 1) := by decide +kernel
theorem dX6_arrives_40 : decode cX6_arrives 40 = .ok (.aload_n 0, 1) := by decide +kernel
theorem dX6_arrives_41 : decode cX6_arrives 41 = .ok (.getfield 102, 3) := by decide +kernel
theorem dX6_arrives_44 : decode cX6_arrives 44 = .ok (.iload_n 1, 1) := by decide +kernel
theorem dX6_arrives_45 : decode cX6_arrives 45 = .ok (.iaload, 1) := by decide +kernel
theorem dX6_arrives_46 : decode cX6_arrives 46 = .ok (.iastore, 1) := by decide +kernel
theorem dX6_arrives_47 : decode cX6_arrives 47 = .ok (.aload_n 0, 1) := by decide +kernel
theorem dX6_arrives_48 : decode cX6_arrives 48 = .ok (.getfield 80, 3) := by decide +kernel
theorem dX6_arrives_51 : decode cX6_arrives 51 = .ok (.iload_n 2, 1) := by decide +kernel
theorem dX6_arrives_52 : decode cX6_arrives 52 = .ok (.aload_n 0, 1) := by decide +kernel
theorem dX6_arrives_53 : decode cX6_arrives 53 = .ok (.getfield 105, 3) := by decide +kernel
theorem dX6_arrives_56 : decode cX6_arrives 56 = .ok (.iload_n 1, 1) := by decide +kernel
theorem dX6_arrives_57 : decode cX6_arrives 57 = .ok (.iaload, 1) := by decide +kernel
theorem dX6_arrives_58 : decode cX6_arrives 58 = .ok (.iastore, 1) := by decide +kernel
theorem dX6_arrives_59 : decode cX6_arrives 59 = .ok (.aload_n 0, 1) := by decide +kernel
theorem dX6_arrives_60 : decode cX6_arrives 60 = .ok (.getfield 59, 3) := by decide +kernel
theorem dX6_arrives_63 : decode cX6_arrives 63 = .ok (.iload_n 1, 1) := by decide +kernel
theorem dX6_arrives_64 : decode cX6_arrives 64 = .ok (.dup2, 1) := by decide +kernel
theorem dX6_arrives_65 : decode cX6_arrives 65 = .ok (.iaload, 1) := by decide +kernel
theorem dX6_arrives_66 : decode cX6_arrives 66 = .ok (.iconst 1, 1) := by decide +kernel
theorem dX6_arrives_67 : decode cX6_arrives 67 = .ok (.iadd, 1) := by decide +kernel
theorem dX6_arrives_68 : decode cX6_arrives 68 = .ok (.iastore, 1) := by decide +kernel
theorem dX6_arrives_69 : decode cX6_arrives 69 = .ok (.return_, 1) := by decide +kernel
set_option maxRecDepth 20000 in
theorem ggX6_moves_X6_takesAlong : GoodIn wsX6_moves wsX6_takesAlong := goodIn_r _ [7, 1, 8, 9, 10, 11, 12, 13, 14, 15, 52, 53, 54, 55, 56, 57, 58, 59, 60, 61, 62, 63, 64, 65, 66, 67, 68, 69, 70, 71, 72, 73, 74, 75, 76, 77, 78, 79, 80, 81, 82, 83, 84, 85, 86, 87] (by decide +kernel) (by decide +kernel)
set_option maxRecDepth 20000 in
theorem gX6_moves_X6_takesAlong : GoodIn wsX6_moves (wsV RX6 177 RX6 yX6_takesAlong wsX6_takesAlong) := goodIn_app (goodIn_of _ (by decide +kernel)) ggX6_moves_X6_takesAlong
set_option maxRecDepth 20000 in
theorem ggX6_moves_X6_leaves : GoodIn wsX6_moves wsX6_leaves := goodIn_r _ [19, 20, 9, 11, 13, 15, 21, 22, 23, 52, 53, 54, 55, 56, 57, 58, 59, 60, 61, 62, 63, 64, 65, 66, 67, 68, 69, 70, 71, 72, 73, 74, 75, 76, 77, 78, 79, 80, 81, 82, 83, 84, 85, 86, 87] (by decide +kernel) (by decide +kernel)
set_option maxRecDepth 20000 in
theorem gX6_moves_X6_leaves : GoodIn wsX6_moves (wsV RX6 152 RX6 yX6_leaves wsX6_leaves) := goodIn_app (goodIn_of _ (by decide +kernel)) ggX6_moves_X6_leaves
set_option maxRecDepth 20000 in
theorem ggX6_moves_X6_makes : GoodIn wsX6_moves wsX6_makes := goodIn_r _ [27, 2, 28, 22, 29, 30, 31, 32, 8, 10, 33, 12, 14, 34, 35, 36, 6, 37, 38, 39, 40, 41, 42, 43, 44, 45, 46, 47, 52, 53, 54, 55, 56, 57, 58, 59, 60, 61, 62, 63, 64, 65, 66, 67, 68, 69, 70, 71, 72, 73, 74, 75, 76, 77, 78, 79, 80, 81, 82, 83, 84, 85, 86, 87] (by decide +kernel) (by decide +kernel)
set_option maxRecDepth 20000 in
theorem gX6_moves_X6_makes : GoodIn wsX6_moves (wsV RX6 180 RX6 yX6_makes wsX6_makes) := goodIn_app (goodIn_of _ (by decide +kernel)) ggX6_moves_X6_makes
set_option maxRecDepth 20000 in
theorem ggX6_moves_X6_arrives : GoodIn wsX6_moves wsX6_arrives := goodIn_r _ [51, 20, 9, 8, 11, 10, 13, 12, 15, 14, 52, 53, 54, 55, 56, 57, 58, 59, 60, 61, 62, 63, 64, 65, 66, 67, 68, 69, 70, 71, 72, 73, 74, 75, 76, 77, 78, 79, 80, 81, 82, 83, 84, 85, 86, 87] (by decide +kernel) (by decide +kernel)
set_option maxRecDepth 20000 in
theorem gX6_moves_X6_arrives : GoodIn wsX6_moves (wsV RX6 183 RX6 yX6_arrives wsX6_arrives) := goodIn_app (goodIn_of _ (by decide +kernel)) ggX6_moves_X6_arrives
theorem dX6_moves_0 : decode cX6_moves 0 = .ok (.bipush 16, 2) := by decide +kernel
theorem dX6_moves_2 : decode cX6_moves 2 = .ok (.istore_n 1, 1) := by decide +kernel
theorem dX6_moves_3 : decode cX6_moves 3 = .ok (.iload_n 1, 1) := by decide +kernel
theorem dX6_moves_4 : decode cX6_moves 4 = .ok (.bipush 64, 2) := by decide +kernel
theorem dX6_moves_6 : decode cX6_moves 6 = .ok (.if_icmp .ge 34, 3) := by decide +kernel
theorem dX6_moves_9 : decode cX6_moves 9 = .ok (.aload_n 0, 1) := by decide +kernel
theorem dX6_moves_10 : decode cX6_moves 10 = .ok (.getfield 65, 3) := by decide +kernel
theorem dX6_moves_13 : decode cX6_moves 13 = .ok (.iload_n 1, 1) := by decide +kernel
theorem dX6_moves_14 : decode cX6_moves 14 = .ok (.iaload, 1) := by decide +kernel
theorem dX6_moves_15 : decode cX6_moves 15 = .ok (.iconst (-1), 1) := by decide +kernel
theorem dX6_moves_16 : decode cX6_moves 16 = .ok (.if_icmp .eq 18, 3) := by decide +kernel
theorem dX6_moves_19 : decode cX6_moves 19 = .ok (.aload_n 0, 1) := by decide +kernel
theorem dX6_moves_20 : decode cX6_moves 20 = .ok (.iload_n 1, 1) := by decide +kernel
theorem dX6_moves_21 : decode cX6_moves 21 = .ok (.invokevirtual 177, 3) := by decide +kernel
theorem dX6_moves_24 : decode cX6_moves 24 = .ok (.aload_n 0, 1) := by decide +kernel
theorem dX6_moves_25 : decode cX6_moves 25 = .ok (.aload_n 0, 1) := by decide +kernel
theorem dX6_moves_26 : decode cX6_moves 26 = .ok (.getfield 65, 3) := by decide +kernel
theorem dX6_moves_29 : decode cX6_moves 29 = .ok (.iload_n 1, 1) := by decide +kernel
theorem dX6_moves_30 : decode cX6_moves 30 = .ok (.iaload, 1) := by decide +kernel
theorem dX6_moves_31 : decode cX6_moves 31 = .ok (.invokevirtual 152, 3) := by decide +kernel
theorem dX6_moves_34 : decode cX6_moves 34 = .ok (.iinc 1 1, 3) := by decide +kernel
theorem dX6_moves_37 : decode cX6_moves 37 = .ok (.goto (-34), 3) := by decide +kernel
theorem dX6_moves_40 : decode cX6_moves 40 = .ok (.iconst 0, 1) := by decide +kernel
theorem dX6_moves_41 : decode cX6_moves 41 = .ok (.istore_n 1, 1) := by decide +kernel
theorem dX6_moves_42 : decode cX6_moves 42 = .ok (.iload_n 1, 1) := by decide +kernel
theorem dX6_moves_43 : decode cX6_moves 43 = .ok (.bipush 16, 2) := by decide +kernel
theorem dX6_moves_45 : decode cX6_moves 45 = .ok (.if_icmp .ge 29, 3) := by decide +kernel
theorem dX6_moves_48 : decode cX6_moves 48 = .ok (.aload_n 0, 1) := by decide +kernel
theorem dX6_moves_49 : decode cX6_moves 49 = .ok (.getfield 90, 3) := by decide +kernel
theorem dX6_moves_52 : decode cX6_moves 52 = .ok (.iload_n 1, 1) := by decide +kernel
theorem dX6_moves_53 : decode cX6_moves 53 = .ok (.iaload, 1) := by decide +kernel
theorem dX6_moves_54 : decode cX6_moves 54 = .ok (.iconst (-1), 1) := by decide +kernel
theorem dX6_moves_55 : decode cX6_moves 55 = .ok (.if_icmp .eq 13, 3) := by decide +kernel
theorem dX6_moves_58 : decode cX6_moves 58 = .ok (.aload_n 0, 1) := by decide +kernel
theorem dX6_moves_59 : decode cX6_moves 59 = .ok (.iload_n 1, 1) := by decide +kernel
theorem dX6_moves_60 : decode cX6_moves 60 = .ok (.invokevirtual 180, 3) := by decide +kernel
theorem dX6_moves_63 : decode cX6_moves 63 = .ok (.aload_n 0, 1) := by decide +kernel
theorem dX6_moves_64 : decode cX6_moves 64 = .ok (.iload_n 1, 1) := by decide +kernel
theorem dX6_moves_65 : decode cX6_moves 65 = .ok (.invokevirtual 183, 3) := by decide +kernel
theorem dX6_moves_68 : decode cX6_moves 68 = .ok (.iinc 1 1, 3) := by decide +kernel
theorem dX6_moves_71 : decode cX6_moves 71 = .ok (.goto (-29), 3) := by decide +kernel
theorem dX6_moves_74 : decode cX6_moves 74 = .ok (.bipush 16, 2) := by decide +kernel
theorem dX6_moves_76 : decode cX6_moves 76 = .ok (.istore_n 1, 1) := by decide +kernel
theorem dX6_moves_77 : decode cX6_moves 77 = .ok (.iload_n 1, 1) := by decide +kernel
theorem dX6_moves_78 : decode cX6_moves 78 = .ok (.bipush 64, 2) := by decide +kernel
theorem dX6_moves_80 : decode cX6_moves 80 = .ok (.if_icmp .ge 24, 3) := by decide +kernel
theorem dX6_moves_83 : decode cX6_moves 83 = .ok (.aload_n 0, 1) := by decide +kernel
theorem dX6_moves_84 : decode cX6_moves 84 = .ok (.getfield 65, 3) := by decide +kernel
theorem dX6_moves_87 : decode cX6_moves 87 = .ok (.iload_n 1, 1) := by decide +kernel
theorem dX6_moves_88 : decode cX6_moves 88 = .ok (.iaload, 1) := by decide +kernel
theorem dX6_moves_89 : decode cX6_moves 89 = .ok (.iconst (-1), 1) := by decide +kernel
theorem dX6_moves_90 : decode cX6_moves 90 = .ok (.if_icmp .eq 8, 3) := by decide +kernel
theorem dX6_moves_93 : decode cX6_moves 93 = .ok (.aload_n 0, 1) := by decide +kernel
theorem dX6_moves_94 : decode cX6_moves 94 = .ok (.iload_n 1, 1) := by decide +kernel
theorem dX6_moves_95 : decode cX6_moves 95 = .ok (.invokevirtual 183, 3) := by decide +kernel
theorem dX6_moves_98 : decode cX6_moves 98 = .ok (.iinc 1 1, 3) := by decide +kernel
theorem dX6_moves_101 : decode cX6_moves 101 = .ok (.goto (-24), 3) := by decide +kernel
theorem dX6_moves_104 : decode cX6_moves 104 = .ok (.return_, 1) := by decide +kernel
set_option maxRecDepth 20000 in
theorem ggX6_ticks_X6_creditsReturn : GoodIn wsX6_ticks wsX6_creditsReturn := goodIn_r _ [6, 1, 7, 8, 122, 123, 124, 125, 126, 127, 128, 129, 130, 131, 132, 133, 134, 135, 136, 137, 138, 139, 140, 141, 142, 143, 144, 145, 146, 147, 148, 149, 150, 151, 152, 153, 154, 155, 156, 157] (by decide +kernel) (by decide +kernel)
set_option maxRecDepth 20000 in
theorem gX6_ticks_X6_creditsReturn : GoodIn wsX6_ticks (wsV RX6 186 RX6 yX6_creditsReturn wsX6_creditsReturn) := goodIn_app (goodIn_of _ (by decide +kernel)) ggX6_ticks_X6_creditsReturn
set_option maxRecDepth 20000 in
theorem ggX6_ticks_X6_hostsTake : GoodIn wsX6_ticks wsX6_hostsTake := goodIn_r _ [12, 13, 14, 15, 16, 17, 18, 19, 20, 1, 21, 22, 23, 24, 5, 25, 26, 27, 8, 28, 122, 123, 124, 125, 126, 127, 128, 129, 130, 131, 132, 133, 134, 135, 136, 137, 138, 139, 140, 141, 142, 143, 144, 145, 146, 147, 148, 149, 150, 151, 152, 153, 154, 155, 156, 157] (by decide +kernel) (by decide +kernel)
set_option maxRecDepth 20000 in
theorem gX6_ticks_X6_hostsTake : GoodIn wsX6_ticks (wsV RX6 189 RX6 yX6_hostsTake wsX6_hostsTake) := goodIn_app (goodIn_of _ (by decide +kernel)) ggX6_ticks_X6_hostsTake
set_option maxRecDepth 20000 in
theorem ggX6_ticks_X6_spinesLose : GoodIn wsX6_ticks wsX6_spinesLose := goodIn_r _ [32, 14, 33, 21, 34, 35, 36, 5, 37, 38, 39, 40, 41, 13, 26, 42, 43, 44, 45, 46, 47, 48, 49, 50, 51, 52, 53, 54, 55, 56, 57, 22, 23, 24, 25, 15, 27, 8, 1, 28, 122, 123, 124, 125, 126, 127, 128, 129, 130, 131, 132, 133, 134, 135, 136, 137, 138, 139, 140, 141, 142, 143, 144, 145, 146, 147, 148, 149, 150, 151, 152, 153, 154, 155, 156, 157] (by decide +kernel) (by decide +kernel)
set_option maxRecDepth 20000 in
theorem gX6_ticks_X6_spinesLose : GoodIn wsX6_ticks (wsV RX6 193 RX6 yX6_spinesLose wsX6_spinesLose) := goodIn_app (goodIn_of _ (by decide +kernel)) ggX6_ticks_X6_spinesLose
set_option maxRecDepth 20000 in
theorem ggX6_ticks_X6_leavesChoose : GoodIn wsX6_ticks wsX6_leavesChoose := goodIn_r _ [61, 13, 14, 27, 26, 62, 63, 64, 5, 65, 66, 34, 38, 39, 40, 41, 42, 43, 44, 45, 46, 47, 48, 49, 50, 51, 52, 53, 35, 36, 37, 67, 68, 69, 70, 122, 123, 124, 125, 126, 127, 128, 129, 130, 131, 132, 133, 134, 135, 136, 137, 138, 139, 140, 141, 142, 143, 144, 145, 146, 147, 148, 149, 150, 151, 152, 153, 154, 155, 156, 157] (by decide +kernel) (by decide +kernel)
set_option maxRecDepth 20000 in
theorem gX6_ticks_X6_leavesChoose : GoodIn wsX6_ticks (wsV RX6 196 RX6 yX6_leavesChoose wsX6_leavesChoose) := goodIn_app (goodIn_of _ (by decide +kernel)) ggX6_ticks_X6_leavesChoose
set_option maxRecDepth 20000 in
theorem ggX6_ticks_X6_linksPick : GoodIn wsX6_ticks wsX6_linksPick := goodIn_r _ [74, 75, 7, 76, 77, 78, 5, 79, 35, 36, 37, 46, 47, 48, 38, 39, 40, 41, 13, 26, 42, 43, 44, 45, 34, 14, 49, 50, 51, 52, 53, 54, 55, 56, 57, 122, 123, 124, 125, 126, 127, 128, 129, 130, 131, 132, 133, 134, 135, 136, 137, 138, 139, 140, 141, 142, 143, 144, 145, 146, 147, 148, 149, 150, 151, 152, 153, 154, 155, 156, 157] (by decide +kernel) (by decide +kernel)
set_option maxRecDepth 20000 in
theorem gX6_ticks_X6_linksPick : GoodIn wsX6_ticks (wsV RX6 199 RX6 yX6_linksPick wsX6_linksPick) := goodIn_app (goodIn_of _ (by decide +kernel)) ggX6_ticks_X6_linksPick
set_option maxRecDepth 20000 in
theorem ggX6_ticks_X6_hostsPick : GoodIn wsX6_ticks wsX6_hostsPick := goodIn_r _ [83, 84, 85, 7, 86, 21, 34, 87, 88, 89, 5, 90, 66, 91, 1, 92, 33, 20, 93, 62, 63, 64, 65, 94, 95, 96, 97, 49, 50, 51, 52, 53, 122, 123, 124, 125, 126, 127, 128, 129, 130, 131, 132, 133, 134, 135, 136, 137, 138, 139, 140, 141, 142, 143, 144, 145, 146, 147, 148, 149, 150, 151, 152, 153, 154, 155, 156, 157] (by decide +kernel) (by decide +kernel)
set_option maxRecDepth 20000 in
theorem gX6_ticks_X6_hostsPick : GoodIn wsX6_ticks (wsV RX6 202 RX6 yX6_hostsPick wsX6_hostsPick) := goodIn_app (goodIn_of _ (by decide +kernel)) ggX6_ticks_X6_hostsPick
set_option maxRecDepth 20000 in
theorem ggX6_ticks_X6_moves : GoodIn wsX6_ticks wsX6_moves := goodIn_r _ [101, 76, 84, 102, 103, 104, 5, 105, 106, 14, 107, 15, 108, 26, 109, 27, 22, 23, 24, 25, 13, 8, 1, 28, 110, 111, 112, 113, 114, 115, 34, 116, 117, 92, 62, 63, 64, 65, 66, 49, 50, 51, 52, 53, 67, 68, 69, 70, 118, 119, 120, 121, 122, 123, 124, 125, 126, 127, 128, 129, 130, 131, 132, 133, 134, 135, 136, 137, 138, 139, 140, 141, 142, 143, 144, 145, 146, 147, 148, 149, 150, 151, 152, 153, 154, 155, 156, 157] (by decide +kernel) (by decide +kernel)
set_option maxRecDepth 20000 in
theorem gX6_ticks_X6_moves : GoodIn wsX6_ticks (wsV RX6 205 RX6 yX6_moves wsX6_moves) := goodIn_app (goodIn_of _ (by decide +kernel)) ggX6_ticks_X6_moves
theorem dX6_ticks_0 : decode cX6_ticks 0 = .ok (.aload_n 0, 1) := by decide +kernel
theorem dX6_ticks_1 : decode cX6_ticks 1 = .ok (.invokevirtual 186, 3) := by decide +kernel
theorem dX6_ticks_4 : decode cX6_ticks 4 = .ok (.aload_n 0, 1) := by decide +kernel
theorem dX6_ticks_5 : decode cX6_ticks 5 = .ok (.invokevirtual 189, 3) := by decide +kernel
theorem dX6_ticks_8 : decode cX6_ticks 8 = .ok (.istore_n 1, 1) := by decide +kernel
theorem dX6_ticks_9 : decode cX6_ticks 9 = .ok (.aload_n 0, 1) := by decide +kernel
theorem dX6_ticks_10 : decode cX6_ticks 10 = .ok (.invokevirtual 193, 3) := by decide +kernel
theorem dX6_ticks_13 : decode cX6_ticks 13 = .ok (.aload_n 0, 1) := by decide +kernel
theorem dX6_ticks_14 : decode cX6_ticks 14 = .ok (.invokevirtual 196, 3) := by decide +kernel
theorem dX6_ticks_17 : decode cX6_ticks 17 = .ok (.aload_n 0, 1) := by decide +kernel
theorem dX6_ticks_18 : decode cX6_ticks 18 = .ok (.invokevirtual 199, 3) := by decide +kernel
theorem dX6_ticks_21 : decode cX6_ticks 21 = .ok (.aload_n 0, 1) := by decide +kernel
theorem dX6_ticks_22 : decode cX6_ticks 22 = .ok (.invokevirtual 202, 3) := by decide +kernel
theorem dX6_ticks_25 : decode cX6_ticks 25 = .ok (.aload_n 0, 1) := by decide +kernel
theorem dX6_ticks_26 : decode cX6_ticks 26 = .ok (.invokevirtual 205, 3) := by decide +kernel
theorem dX6_ticks_29 : decode cX6_ticks 29 = .ok (.aload_n 0, 1) := by decide +kernel
theorem dX6_ticks_30 : decode cX6_ticks 30 = .ok (.dup, 1) := by decide +kernel
theorem dX6_ticks_31 : decode cX6_ticks 31 = .ok (.getfield 121, 3) := by decide +kernel
theorem dX6_ticks_34 : decode cX6_ticks 34 = .ok (.iconst 1, 1) := by decide +kernel
theorem dX6_ticks_35 : decode cX6_ticks 35 = .ok (.iadd, 1) := by decide +kernel
theorem dX6_ticks_36 : decode cX6_ticks 36 = .ok (.putfield 121, 3) := by decide +kernel
theorem dX6_ticks_39 : decode cX6_ticks 39 = .ok (.iload_n 1, 1) := by decide +kernel
theorem dX6_ticks_40 : decode cX6_ticks 40 = .ok (.ireturn, 1) := by decide +kernel
set_option maxRecDepth 20000 in
theorem ggX6_pass_X6_isIn : GoodIn wsX6_pass wsX6_isIn := goodIn_r _ [6] (by decide +kernel) (by decide +kernel)
set_option maxRecDepth 20000 in
theorem gX6_pass_X6_isIn : GoodIn wsX6_pass (va_wsS RX6 114 yX6_isIn wsX6_isIn) := goodIn_app (goodIn_of _ (by decide +kernel)) ggX6_pass_X6_isIn
set_option maxRecDepth 20000 in
theorem ggX6_pass_X6_goes : GoodIn wsX6_pass wsX6_goes := goodIn_r _ [10, 11, 135, 136, 137, 138, 139, 140, 141, 142, 143, 144, 145, 146, 147, 148, 149, 150, 151, 152, 153, 154, 155, 156, 157, 158, 159, 160, 161, 162, 163, 164, 165, 166, 167, 168, 169, 170] (by decide +kernel) (by decide +kernel)
set_option maxRecDepth 20000 in
theorem gX6_pass_X6_goes : GoodIn wsX6_pass (wsV RX6 124 RX6 yX6_goes wsX6_goes) := goodIn_app (goodIn_of _ (by decide +kernel)) ggX6_pass_X6_goes
set_option maxRecDepth 20000 in
theorem ggX6_pass_X6_ticks : GoodIn wsX6_pass wsX6_ticks := goodIn_r _ [15, 1, 16, 17, 18, 5, 19, 20, 21, 22, 23, 24, 25, 26, 27, 28, 29, 30, 31, 32, 33, 34, 35, 36, 37, 38, 39, 40, 41, 42, 43, 44, 45, 46, 47, 48, 49, 50, 51, 52, 53, 54, 55, 56, 57, 58, 59, 60, 61, 62, 63, 64, 65, 66, 67, 68, 69, 70, 71, 72, 73, 74, 75, 76, 77, 78, 79, 80, 81, 82, 83, 84, 85, 86, 87, 88, 89, 90, 91, 92, 93, 94, 95, 96, 97, 98, 99, 100, 101, 102, 103, 104, 105, 106, 107, 108, 109, 110, 111, 112, 113, 114, 115, 116, 117, 118, 119, 120, 121, 122, 123, 124, 125, 126, 127, 128, 129, 130, 131, 132, 133, 134, 135, 136, 137, 138, 139, 140, 141, 142, 143, 144, 145, 146, 147, 148, 149, 150, 151, 152, 153, 154, 155, 156, 157, 158, 159, 160, 161, 162, 163, 164, 165, 166, 167, 168, 169, 170] (by decide +kernel) (by decide +kernel)
set_option maxRecDepth 20000 in
theorem gX6_pass_X6_ticks : GoodIn wsX6_pass (wsV RX6 209 RX6 yX6_ticks wsX6_ticks) := goodIn_app (goodIn_of _ (by decide +kernel)) ggX6_pass_X6_ticks
theorem dX6_pass_0 : decode cX6_pass 0 = .ok (.aload_n 0, 1) := by decide +kernel
theorem dX6_pass_1 : decode cX6_pass 1 = .ok (.iload_n 1, 1) := by decide +kernel
theorem dX6_pass_2 : decode cX6_pass 2 = .ok (.iconst 1, 1) := by decide +kernel
theorem dX6_pass_3 : decode cX6_pass 3 = .ok (.sipush 200, 3) := by decide +kernel
theorem dX6_pass_6 : decode cX6_pass 6 = .ok (.invokestatic 114, 3) := by decide +kernel
theorem dX6_pass_9 : decode cX6_pass 9 = .ok (.ifCond .ne 7, 3) := by decide +kernel
theorem dX6_pass_12 : decode cX6_pass 12 = .ok (.iconst 1, 1) := by decide +kernel
theorem dX6_pass_13 : decode cX6_pass 13 = .ok (.goto 19, 3) := by decide +kernel
theorem dX6_pass_16 : decode cX6_pass 16 = .ok (.aload_n 0, 1) := by decide +kernel
theorem dX6_pass_17 : decode cX6_pass 17 = .ok (.getfield 121, 3) := by decide +kernel
theorem dX6_pass_20 : decode cX6_pass 20 = .ok (.iload_n 1, 1) := by decide +kernel
theorem dX6_pass_21 : decode cX6_pass 21 = .ok (.iadd, 1) := by decide +kernel
theorem dX6_pass_22 : decode cX6_pass 22 = .ok (.ldc 208, 2) := by decide +kernel
theorem dX6_pass_24 : decode cX6_pass 24 = .ok (.if_icmp .le 7, 3) := by decide +kernel
theorem dX6_pass_27 : decode cX6_pass 27 = .ok (.iconst 2, 1) := by decide +kernel
theorem dX6_pass_28 : decode cX6_pass 28 = .ok (.goto 4, 3) := by decide +kernel
theorem dX6_pass_31 : decode cX6_pass 31 = .ok (.iconst 0, 1) := by decide +kernel
theorem dX6_pass_32 : decode cX6_pass 32 = .ok (.invokevirtual 124, 3) := by decide +kernel
theorem dX6_pass_35 : decode cX6_pass 35 = .ok (.ifCond .ne 5, 3) := by decide +kernel
theorem dX6_pass_38 : decode cX6_pass 38 = .ok (.iconst 0, 1) := by decide +kernel
theorem dX6_pass_39 : decode cX6_pass 39 = .ok (.ireturn, 1) := by decide +kernel
theorem dX6_pass_40 : decode cX6_pass 40 = .ok (.iconst 0, 1) := by decide +kernel
theorem dX6_pass_41 : decode cX6_pass 41 = .ok (.istore_n 2, 1) := by decide +kernel
theorem dX6_pass_42 : decode cX6_pass 42 = .ok (.iconst 0, 1) := by decide +kernel
theorem dX6_pass_43 : decode cX6_pass 43 = .ok (.istore_n 3, 1) := by decide +kernel
theorem dX6_pass_44 : decode cX6_pass 44 = .ok (.iload_n 3, 1) := by decide +kernel
theorem dX6_pass_45 : decode cX6_pass 45 = .ok (.iload_n 1, 1) := by decide +kernel
theorem dX6_pass_46 : decode cX6_pass 46 = .ok (.if_icmp .ge 16, 3) := by decide +kernel
theorem dX6_pass_49 : decode cX6_pass 49 = .ok (.iload_n 2, 1) := by decide +kernel
theorem dX6_pass_50 : decode cX6_pass 50 = .ok (.aload_n 0, 1) := by decide +kernel
theorem dX6_pass_51 : decode cX6_pass 51 = .ok (.invokevirtual 209, 3) := by decide +kernel
theorem dX6_pass_54 : decode cX6_pass 54 = .ok (.iadd, 1) := by decide +kernel
theorem dX6_pass_55 : decode cX6_pass 55 = .ok (.istore_n 2, 1) := by decide +kernel
theorem dX6_pass_56 : decode cX6_pass 56 = .ok (.iinc 3 1, 3) := by decide +kernel
theorem dX6_pass_59 : decode cX6_pass 59 = .ok (.goto (-15), 3) := by decide +kernel
theorem dX6_pass_62 : decode cX6_pass 62 = .ok (.iload_n 2, 1) := by decide +kernel
theorem dX6_pass_63 : decode cX6_pass 63 = .ok (.ireturn, 1) := by decide +kernel
theorem dX6_clock_0 : decode cX6_clock 0 = .ok (.aload_n 0, 1) := by decide +kernel
theorem dX6_clock_1 : decode cX6_clock 1 = .ok (.iconst 0, 1) := by decide +kernel
theorem dX6_clock_2 : decode cX6_clock 2 = .ok (.putfield 111, 3) := by decide +kernel
theorem dX6_clock_5 : decode cX6_clock 5 = .ok (.aload_n 0, 1) := by decide +kernel
theorem dX6_clock_6 : decode cX6_clock 6 = .ok (.getfield 121, 3) := by decide +kernel
theorem dX6_clock_9 : decode cX6_clock 9 = .ok (.ireturn, 1) := by decide +kernel
theorem dX6_flows_0 : decode cX6_flows 0 = .ok (.aload_n 0, 1) := by decide +kernel
theorem dX6_flows_1 : decode cX6_flows 1 = .ok (.iconst 0, 1) := by decide +kernel
theorem dX6_flows_2 : decode cX6_flows 2 = .ok (.putfield 111, 3) := by decide +kernel
theorem dX6_flows_5 : decode cX6_flows 5 = .ok (.aload_n 0, 1) := by decide +kernel
theorem dX6_flows_6 : decode cX6_flows 6 = .ok (.getfield 118, 3) := by decide +kernel
theorem dX6_flows_9 : decode cX6_flows 9 = .ok (.ireturn, 1) := by decide +kernel
set_option maxRecDepth 20000 in
theorem ggX6_asks_X6_isFlow : GoodIn wsX6_asks wsX6_isFlow := goodIn_r _ [5, 6, 7, 8, 4, 9, 15, 16, 17, 18, 19, 20, 21, 22, 23, 24, 25, 26, 27, 28, 29, 30, 31, 32, 33, 34, 35, 36, 37, 38, 39, 40, 41, 42, 43, 44, 45, 46, 47, 48, 49, 50] (by decide +kernel) (by decide +kernel)
set_option maxRecDepth 20000 in
theorem gX6_asks_X6_isFlow : GoodIn wsX6_asks (wsV RX6 212 RX6 yX6_isFlow wsX6_isFlow) := goodIn_app (goodIn_of _ (by decide +kernel)) ggX6_asks_X6_isFlow
set_option maxRecDepth 20000 in
theorem ggX6_asks_X6_goes : GoodIn wsX6_asks wsX6_goes := goodIn_r _ [13, 14, 15, 16, 17, 18, 19, 20, 21, 22, 23, 24, 25, 26, 27, 28, 29, 30, 31, 32, 33, 34, 35, 36, 37, 38, 39, 40, 41, 42, 43, 44, 45, 46, 47, 48, 49, 50] (by decide +kernel) (by decide +kernel)
set_option maxRecDepth 20000 in
theorem gX6_asks_X6_goes : GoodIn wsX6_asks (wsV RX6 124 RX6 yX6_goes wsX6_goes) := goodIn_app (goodIn_of _ (by decide +kernel)) ggX6_asks_X6_goes
theorem dX6_asks_0 : decode cX6_asks 0 = .ok (.aload_n 0, 1) := by decide +kernel
theorem dX6_asks_1 : decode cX6_asks 1 = .ok (.aload_n 0, 1) := by decide +kernel
theorem dX6_asks_2 : decode cX6_asks 2 = .ok (.iload_n 1, 1) := by decide +kernel
theorem dX6_asks_3 : decode cX6_asks 3 = .ok (.invokevirtual 212, 3) := by decide +kernel
theorem dX6_asks_6 : decode cX6_asks 6 = .ok (.ifCond .eq 7, 3) := by decide +kernel
theorem dX6_asks_9 : decode cX6_asks 9 = .ok (.iconst 0, 1) := by decide +kernel
theorem dX6_asks_10 : decode cX6_asks 10 = .ok (.goto 4, 3) := by decide +kernel
theorem dX6_asks_13 : decode cX6_asks 13 = .ok (.iconst 1, 1) := by decide +kernel
theorem dX6_asks_14 : decode cX6_asks 14 = .ok (.invokevirtual 124, 3) := by decide +kernel
theorem dX6_asks_17 : decode cX6_asks 17 = .ok (.ireturn, 1) := by decide +kernel
set_option maxRecDepth 20000 in
theorem ggX6_sent_X6_asks : GoodIn wsX6_sent wsX6_asks := goodIn_r _ [6, 7, 8, 9, 5, 10, 11, 12, 13, 14, 15, 16, 17, 18, 19, 20, 21, 22, 23, 24, 25, 26, 27, 28, 29, 30, 31, 32, 33, 34, 35, 36, 37, 38, 39, 40, 41, 42, 43, 44, 45, 46, 47, 48, 49, 50, 51, 52, 53, 54, 55] (by decide +kernel) (by decide +kernel)
set_option maxRecDepth 20000 in
theorem gX6_sent_X6_asks : GoodIn wsX6_sent (wsV RX6 215 RX6 yX6_asks wsX6_asks) := goodIn_app (goodIn_of _ (by decide +kernel)) ggX6_sent_X6_asks
theorem dX6_sent_0 : decode cX6_sent 0 = .ok (.aload_n 0, 1) := by decide +kernel
theorem dX6_sent_1 : decode cX6_sent 1 = .ok (.iload_n 1, 1) := by decide +kernel
theorem dX6_sent_2 : decode cX6_sent 2 = .ok (.invokevirtual 215, 3) := by decide +kernel
theorem dX6_sent_5 : decode cX6_sent 5 = .ok (.ifCond .eq 12, 3) := by decide +kernel
theorem dX6_sent_8 : decode cX6_sent 8 = .ok (.aload_n 0, 1) := by decide +kernel
theorem dX6_sent_9 : decode cX6_sent 9 = .ok (.getfield 29, 3) := by decide +kernel
theorem dX6_sent_12 : decode cX6_sent 12 = .ok (.iload_n 1, 1) := by decide +kernel
theorem dX6_sent_13 : decode cX6_sent 13 = .ok (.iaload, 1) := by decide +kernel
theorem dX6_sent_14 : decode cX6_sent 14 = .ok (.goto 4, 3) := by decide +kernel
theorem dX6_sent_17 : decode cX6_sent 17 = .ok (.iconst 0, 1) := by decide +kernel
theorem dX6_sent_18 : decode cX6_sent 18 = .ok (.ireturn, 1) := by decide +kernel
set_option maxRecDepth 20000 in
theorem ggX6_delivered_X6_asks : GoodIn wsX6_delivered wsX6_asks := goodIn_r _ [6, 7, 8, 9, 5, 10, 11, 12, 13, 14, 15, 16, 17, 18, 19, 20, 21, 22, 23, 24, 25, 26, 27, 28, 29, 30, 31, 32, 33, 34, 35, 36, 37, 38, 39, 40, 41, 42, 43, 44, 45, 46, 47, 48, 49, 50, 51, 52, 53, 54, 55] (by decide +kernel) (by decide +kernel)
set_option maxRecDepth 20000 in
theorem gX6_delivered_X6_asks : GoodIn wsX6_delivered (wsV RX6 215 RX6 yX6_asks wsX6_asks) := goodIn_app (goodIn_of _ (by decide +kernel)) ggX6_delivered_X6_asks
theorem dX6_delivered_0 : decode cX6_delivered 0 = .ok (.aload_n 0, 1) := by decide +kernel
theorem dX6_delivered_1 : decode cX6_delivered 1 = .ok (.iload_n 1, 1) := by decide +kernel
theorem dX6_delivered_2 : decode cX6_delivered 2 = .ok (.invokevirtual 215, 3) := by decide +kernel
theorem dX6_delivered_5 : decode cX6_delivered 5 = .ok (.ifCond .eq 12, 3) := by decide +kernel
theorem dX6_delivered_8 : decode cX6_delivered 8 = .ok (.aload_n 0, 1) := by decide +kernel
theorem dX6_delivered_9 : decode cX6_delivered 9 = .ok (.getfield 32, 3) := by decide +kernel
theorem dX6_delivered_12 : decode cX6_delivered 12 = .ok (.iload_n 1, 1) := by decide +kernel
theorem dX6_delivered_13 : decode cX6_delivered 13 = .ok (.iaload, 1) := by decide +kernel
theorem dX6_delivered_14 : decode cX6_delivered 14 = .ok (.goto 4, 3) := by decide +kernel
theorem dX6_delivered_17 : decode cX6_delivered 17 = .ok (.iconst 0, 1) := by decide +kernel
theorem dX6_delivered_18 : decode cX6_delivered 18 = .ok (.ireturn, 1) := by decide +kernel
set_option maxRecDepth 20000 in
theorem ggX6_lost_X6_asks : GoodIn wsX6_lost wsX6_asks := goodIn_r _ [6, 7, 8, 9, 5, 10, 11, 12, 13, 14, 15, 16, 17, 18, 19, 20, 21, 22, 23, 24, 25, 26, 27, 28, 29, 30, 31, 32, 33, 34, 35, 36, 37, 38, 39, 40, 41, 42, 43, 44, 45, 46, 47, 48, 49, 50, 51, 52, 53, 54, 55] (by decide +kernel) (by decide +kernel)
set_option maxRecDepth 20000 in
theorem gX6_lost_X6_asks : GoodIn wsX6_lost (wsV RX6 215 RX6 yX6_asks wsX6_asks) := goodIn_app (goodIn_of _ (by decide +kernel)) ggX6_lost_X6_asks
theorem dX6_lost_0 : decode cX6_lost 0 = .ok (.aload_n 0, 1) := by decide +kernel
theorem dX6_lost_1 : decode cX6_lost 1 = .ok (.iload_n 1, 1) := by decide +kernel
theorem dX6_lost_2 : decode cX6_lost 2 = .ok (.invokevirtual 215, 3) := by decide +kernel
theorem dX6_lost_5 : decode cX6_lost 5 = .ok (.ifCond .eq 12, 3) := by decide +kernel
theorem dX6_lost_8 : decode cX6_lost 8 = .ok (.aload_n 0, 1) := by decide +kernel
theorem dX6_lost_9 : decode cX6_lost 9 = .ok (.getfield 35, 3) := by decide +kernel
theorem dX6_lost_12 : decode cX6_lost 12 = .ok (.iload_n 1, 1) := by decide +kernel
theorem dX6_lost_13 : decode cX6_lost 13 = .ok (.iaload, 1) := by decide +kernel
theorem dX6_lost_14 : decode cX6_lost 14 = .ok (.goto 4, 3) := by decide +kernel
theorem dX6_lost_17 : decode cX6_lost 17 = .ok (.iconst 0, 1) := by decide +kernel
theorem dX6_lost_18 : decode cX6_lost 18 = .ok (.ireturn, 1) := by decide +kernel
set_option maxRecDepth 20000 in
theorem ggX6_outOfOrder_X6_asks : GoodIn wsX6_outOfOrder wsX6_asks := goodIn_r _ [6, 7, 8, 9, 5, 10, 11, 12, 13, 14, 15, 16, 17, 18, 19, 20, 21, 22, 23, 24, 25, 26, 27, 28, 29, 30, 31, 32, 33, 34, 35, 36, 37, 38, 39, 40, 41, 42, 43, 44, 45, 46, 47, 48, 49, 50, 51, 52, 53, 54, 55] (by decide +kernel) (by decide +kernel)
set_option maxRecDepth 20000 in
theorem gX6_outOfOrder_X6_asks : GoodIn wsX6_outOfOrder (wsV RX6 215 RX6 yX6_asks wsX6_asks) := goodIn_app (goodIn_of _ (by decide +kernel)) ggX6_outOfOrder_X6_asks
theorem dX6_outOfOrder_0 : decode cX6_outOfOrder 0 = .ok (.aload_n 0, 1) := by decide +kernel
theorem dX6_outOfOrder_1 : decode cX6_outOfOrder 1 = .ok (.iload_n 1, 1) := by decide +kernel
theorem dX6_outOfOrder_2 : decode cX6_outOfOrder 2 = .ok (.invokevirtual 215, 3) := by decide +kernel
theorem dX6_outOfOrder_5 : decode cX6_outOfOrder 5 = .ok (.ifCond .eq 12, 3) := by decide +kernel
theorem dX6_outOfOrder_8 : decode cX6_outOfOrder 8 = .ok (.aload_n 0, 1) := by decide +kernel
theorem dX6_outOfOrder_9 : decode cX6_outOfOrder 9 = .ok (.getfield 38, 3) := by decide +kernel
theorem dX6_outOfOrder_12 : decode cX6_outOfOrder 12 = .ok (.iload_n 1, 1) := by decide +kernel
theorem dX6_outOfOrder_13 : decode cX6_outOfOrder 13 = .ok (.iaload, 1) := by decide +kernel
theorem dX6_outOfOrder_14 : decode cX6_outOfOrder 14 = .ok (.goto 4, 3) := by decide +kernel
theorem dX6_outOfOrder_17 : decode cX6_outOfOrder 17 = .ok (.iconst 0, 1) := by decide +kernel
theorem dX6_outOfOrder_18 : decode cX6_outOfOrder 18 = .ok (.ireturn, 1) := by decide +kernel
set_option maxRecDepth 20000 in
theorem ggX6_doneIn_X6_asks : GoodIn wsX6_doneIn wsX6_asks := goodIn_r _ [6, 7, 8, 9, 5, 10, 11, 12, 13, 14, 15, 16, 17, 18, 19, 20, 21, 22, 23, 24, 25, 26, 27, 28, 29, 30, 31, 32, 33, 34, 35, 36, 37, 38, 39, 40, 41, 42, 43, 44, 45, 46, 47, 48, 49, 50, 51, 52, 53, 54, 55] (by decide +kernel) (by decide +kernel)
set_option maxRecDepth 20000 in
theorem gX6_doneIn_X6_asks : GoodIn wsX6_doneIn (wsV RX6 215 RX6 yX6_asks wsX6_asks) := goodIn_app (goodIn_of _ (by decide +kernel)) ggX6_doneIn_X6_asks
theorem dX6_doneIn_0 : decode cX6_doneIn 0 = .ok (.aload_n 0, 1) := by decide +kernel
theorem dX6_doneIn_1 : decode cX6_doneIn 1 = .ok (.iload_n 1, 1) := by decide +kernel
theorem dX6_doneIn_2 : decode cX6_doneIn 2 = .ok (.invokevirtual 215, 3) := by decide +kernel
theorem dX6_doneIn_5 : decode cX6_doneIn 5 = .ok (.ifCond .eq 12, 3) := by decide +kernel
theorem dX6_doneIn_8 : decode cX6_doneIn 8 = .ok (.aload_n 0, 1) := by decide +kernel
theorem dX6_doneIn_9 : decode cX6_doneIn 9 = .ok (.getfield 44, 3) := by decide +kernel
theorem dX6_doneIn_12 : decode cX6_doneIn 12 = .ok (.iload_n 1, 1) := by decide +kernel
theorem dX6_doneIn_13 : decode cX6_doneIn 13 = .ok (.iaload, 1) := by decide +kernel
theorem dX6_doneIn_14 : decode cX6_doneIn 14 = .ok (.goto 4, 3) := by decide +kernel
theorem dX6_doneIn_17 : decode cX6_doneIn 17 = .ok (.iconst 0, 1) := by decide +kernel
theorem dX6_doneIn_18 : decode cX6_doneIn 18 = .ok (.ireturn, 1) := by decide +kernel
set_option maxRecDepth 20000 in
theorem ggX6_flowlets_X6_asks : GoodIn wsX6_flowlets wsX6_asks := goodIn_r _ [6, 7, 8, 9, 5, 10, 11, 12, 13, 14, 15, 16, 17, 18, 19, 20, 21, 22, 23, 24, 25, 26, 27, 28, 29, 30, 31, 32, 33, 34, 35, 36, 37, 38, 39, 40, 41, 42, 43, 44, 45, 46, 47, 48, 49, 50, 51, 52, 53, 54, 55] (by decide +kernel) (by decide +kernel)
set_option maxRecDepth 20000 in
theorem gX6_flowlets_X6_asks : GoodIn wsX6_flowlets (wsV RX6 215 RX6 yX6_asks wsX6_asks) := goodIn_app (goodIn_of _ (by decide +kernel)) ggX6_flowlets_X6_asks
theorem dX6_flowlets_0 : decode cX6_flowlets 0 = .ok (.aload_n 0, 1) := by decide +kernel
theorem dX6_flowlets_1 : decode cX6_flowlets 1 = .ok (.iload_n 1, 1) := by decide +kernel
theorem dX6_flowlets_2 : decode cX6_flowlets 2 = .ok (.invokevirtual 215, 3) := by decide +kernel
theorem dX6_flowlets_5 : decode cX6_flowlets 5 = .ok (.ifCond .eq 12, 3) := by decide +kernel
theorem dX6_flowlets_8 : decode cX6_flowlets 8 = .ok (.aload_n 0, 1) := by decide +kernel
theorem dX6_flowlets_9 : decode cX6_flowlets 9 = .ok (.getfield 47, 3) := by decide +kernel
theorem dX6_flowlets_12 : decode cX6_flowlets 12 = .ok (.iload_n 1, 1) := by decide +kernel
theorem dX6_flowlets_13 : decode cX6_flowlets 13 = .ok (.iaload, 1) := by decide +kernel
theorem dX6_flowlets_14 : decode cX6_flowlets 14 = .ok (.goto 4, 3) := by decide +kernel
theorem dX6_flowlets_17 : decode cX6_flowlets 17 = .ok (.iconst 0, 1) := by decide +kernel
theorem dX6_flowlets_18 : decode cX6_flowlets 18 = .ok (.ireturn, 1) := by decide +kernel
set_option maxRecDepth 20000 in
theorem ggX6_spineOf_X6_asks : GoodIn wsX6_spineOf wsX6_asks := goodIn_r _ [6, 7, 8, 9, 5, 10, 11, 12, 13, 14, 15, 16, 17, 18, 19, 20, 21, 22, 23, 24, 25, 26, 27, 28, 29, 30, 31, 32, 33, 34, 35, 36, 37, 38, 39, 40, 41, 42, 43, 44, 45, 46, 47, 48, 49, 50, 51, 52, 53, 54, 55] (by decide +kernel) (by decide +kernel)
set_option maxRecDepth 20000 in
theorem gX6_spineOf_X6_asks : GoodIn wsX6_spineOf (wsV RX6 215 RX6 yX6_asks wsX6_asks) := goodIn_app (goodIn_of _ (by decide +kernel)) ggX6_spineOf_X6_asks
theorem dX6_spineOf_0 : decode cX6_spineOf 0 = .ok (.aload_n 0, 1) := by decide +kernel
theorem dX6_spineOf_1 : decode cX6_spineOf 1 = .ok (.iload_n 1, 1) := by decide +kernel
theorem dX6_spineOf_2 : decode cX6_spineOf 2 = .ok (.invokevirtual 215, 3) := by decide +kernel
theorem dX6_spineOf_5 : decode cX6_spineOf 5 = .ok (.ifCond .eq 12, 3) := by decide +kernel
theorem dX6_spineOf_8 : decode cX6_spineOf 8 = .ok (.aload_n 0, 1) := by decide +kernel
theorem dX6_spineOf_9 : decode cX6_spineOf 9 = .ok (.getfield 50, 3) := by decide +kernel
theorem dX6_spineOf_12 : decode cX6_spineOf 12 = .ok (.iload_n 1, 1) := by decide +kernel
theorem dX6_spineOf_13 : decode cX6_spineOf 13 = .ok (.iaload, 1) := by decide +kernel
theorem dX6_spineOf_14 : decode cX6_spineOf 14 = .ok (.goto 4, 3) := by decide +kernel
theorem dX6_spineOf_17 : decode cX6_spineOf 17 = .ok (.iconst 0, 1) := by decide +kernel
theorem dX6_spineOf_18 : decode cX6_spineOf 18 = .ok (.ireturn, 1) := by decide +kernel
set_option maxRecDepth 20000 in
theorem ggX6_upQueue_X6_isHost : GoodIn wsX6_upQueue wsX6_isHost := goodIn_r _ [5, 6, 7, 4, 8] (by decide +kernel) (by decide +kernel)
set_option maxRecDepth 20000 in
theorem gX6_upQueue_X6_isHost : GoodIn wsX6_upQueue (va_wsS RX6 131 yX6_isHost wsX6_isHost) := goodIn_app (goodIn_of _ (by decide +kernel)) ggX6_upQueue_X6_isHost
set_option maxRecDepth 20000 in
theorem ggX6_upQueue_X6_goes : GoodIn wsX6_upQueue wsX6_goes := goodIn_r _ [12, 13, 14, 15, 16, 17, 18, 19, 20, 21, 22, 23, 24, 25, 26, 27, 28, 29, 30, 31, 32, 33, 34, 35, 36, 37, 38, 39, 40, 41, 42, 43, 44, 45, 46, 47, 48, 49] (by decide +kernel) (by decide +kernel)
set_option maxRecDepth 20000 in
theorem gX6_upQueue_X6_goes : GoodIn wsX6_upQueue (wsV RX6 124 RX6 yX6_goes wsX6_goes) := goodIn_app (goodIn_of _ (by decide +kernel)) ggX6_upQueue_X6_goes
theorem dX6_upQueue_0 : decode cX6_upQueue 0 = .ok (.aload_n 0, 1) := by decide +kernel
theorem dX6_upQueue_1 : decode cX6_upQueue 1 = .ok (.iload_n 1, 1) := by decide +kernel
theorem dX6_upQueue_2 : decode cX6_upQueue 2 = .ok (.invokestatic 131, 3) := by decide +kernel
theorem dX6_upQueue_5 : decode cX6_upQueue 5 = .ok (.ifCond .eq 7, 3) := by decide +kernel
theorem dX6_upQueue_8 : decode cX6_upQueue 8 = .ok (.iconst 0, 1) := by decide +kernel
theorem dX6_upQueue_9 : decode cX6_upQueue 9 = .ok (.goto 4, 3) := by decide +kernel
theorem dX6_upQueue_12 : decode cX6_upQueue 12 = .ok (.iconst 1, 1) := by decide +kernel
theorem dX6_upQueue_13 : decode cX6_upQueue 13 = .ok (.invokevirtual 124, 3) := by decide +kernel
theorem dX6_upQueue_16 : decode cX6_upQueue 16 = .ok (.ifCond .eq 12, 3) := by decide +kernel
theorem dX6_upQueue_19 : decode cX6_upQueue 19 = .ok (.aload_n 0, 1) := by decide +kernel
theorem dX6_upQueue_20 : decode cX6_upQueue 20 = .ok (.getfield 59, 3) := by decide +kernel
theorem dX6_upQueue_23 : decode cX6_upQueue 23 = .ok (.iload_n 1, 1) := by decide +kernel
theorem dX6_upQueue_24 : decode cX6_upQueue 24 = .ok (.iaload, 1) := by decide +kernel
theorem dX6_upQueue_25 : decode cX6_upQueue 25 = .ok (.goto 4, 3) := by decide +kernel
theorem dX6_upQueue_28 : decode cX6_upQueue 28 = .ok (.iconst 0, 1) := by decide +kernel
theorem dX6_upQueue_29 : decode cX6_upQueue 29 = .ok (.ireturn, 1) := by decide +kernel
set_option maxRecDepth 20000 in
theorem ggX6_downQueue_X6_isHost : GoodIn wsX6_downQueue wsX6_isHost := goodIn_r _ [5, 6, 7, 4, 8] (by decide +kernel) (by decide +kernel)
set_option maxRecDepth 20000 in
theorem gX6_downQueue_X6_isHost : GoodIn wsX6_downQueue (va_wsS RX6 131 yX6_isHost wsX6_isHost) := goodIn_app (goodIn_of _ (by decide +kernel)) ggX6_downQueue_X6_isHost
set_option maxRecDepth 20000 in
theorem ggX6_downQueue_X6_goes : GoodIn wsX6_downQueue wsX6_goes := goodIn_r _ [12, 13, 14, 15, 16, 17, 18, 19, 20, 21, 22, 23, 24, 25, 26, 27, 28, 29, 30, 31, 32, 33, 34, 35, 36, 37, 38, 39, 40, 41, 42, 43, 44, 45, 46, 47, 48, 49] (by decide +kernel) (by decide +kernel)
set_option maxRecDepth 20000 in
theorem gX6_downQueue_X6_goes : GoodIn wsX6_downQueue (wsV RX6 124 RX6 yX6_goes wsX6_goes) := goodIn_app (goodIn_of _ (by decide +kernel)) ggX6_downQueue_X6_goes
theorem dX6_downQueue_0 : decode cX6_downQueue 0 = .ok (.aload_n 0, 1) := by decide +kernel
theorem dX6_downQueue_1 : decode cX6_downQueue 1 = .ok (.iload_n 1, 1) := by decide +kernel
theorem dX6_downQueue_2 : decode cX6_downQueue 2 = .ok (.invokestatic 131, 3) := by decide +kernel
theorem dX6_downQueue_5 : decode cX6_downQueue 5 = .ok (.ifCond .eq 7, 3) := by decide +kernel
theorem dX6_downQueue_8 : decode cX6_downQueue 8 = .ok (.iconst 0, 1) := by decide +kernel
theorem dX6_downQueue_9 : decode cX6_downQueue 9 = .ok (.goto 4, 3) := by decide +kernel
theorem dX6_downQueue_12 : decode cX6_downQueue 12 = .ok (.iconst 1, 1) := by decide +kernel
theorem dX6_downQueue_13 : decode cX6_downQueue 13 = .ok (.invokevirtual 124, 3) := by decide +kernel
theorem dX6_downQueue_16 : decode cX6_downQueue 16 = .ok (.ifCond .eq 15, 3) := by decide +kernel
theorem dX6_downQueue_19 : decode cX6_downQueue 19 = .ok (.aload_n 0, 1) := by decide +kernel
theorem dX6_downQueue_20 : decode cX6_downQueue 20 = .ok (.getfield 59, 3) := by decide +kernel
theorem dX6_downQueue_23 : decode cX6_downQueue 23 = .ok (.bipush 16, 2) := by decide +kernel
theorem dX6_downQueue_25 : decode cX6_downQueue 25 = .ok (.iload_n 1, 1) := by decide +kernel
theorem dX6_downQueue_26 : decode cX6_downQueue 26 = .ok (.iadd, 1) := by decide +kernel
theorem dX6_downQueue_27 : decode cX6_downQueue 27 = .ok (.iaload, 1) := by decide +kernel
theorem dX6_downQueue_28 : decode cX6_downQueue 28 = .ok (.goto 4, 3) := by decide +kernel
theorem dX6_downQueue_31 : decode cX6_downQueue 31 = .ok (.iconst 0, 1) := by decide +kernel
theorem dX6_downQueue_32 : decode cX6_downQueue 32 = .ok (.ireturn, 1) := by decide +kernel
set_option maxRecDepth 20000 in
theorem ggX6_northQueue_X6_areFour : GoodIn wsX6_northQueue wsX6_areFour := goodIn_r _ [5, 6, 7, 4, 8] (by decide +kernel) (by decide +kernel)
set_option maxRecDepth 20000 in
theorem gX6_northQueue_X6_areFour : GoodIn wsX6_northQueue (va_wsS RX6 134 yX6_areFour wsX6_areFour) := goodIn_app (goodIn_of _ (by decide +kernel)) ggX6_northQueue_X6_areFour
set_option maxRecDepth 20000 in
theorem ggX6_northQueue_X6_goes : GoodIn wsX6_northQueue wsX6_goes := goodIn_r _ [12, 13, 17, 18, 19, 20, 21, 22, 23, 24, 25, 26, 27, 28, 29, 30, 31, 32, 33, 34, 35, 36, 37, 38, 39, 40, 41, 42, 43, 44, 45, 46, 47, 48, 49, 50, 51, 52] (by decide +kernel) (by decide +kernel)
set_option maxRecDepth 20000 in
theorem gX6_northQueue_X6_goes : GoodIn wsX6_northQueue (wsV RX6 124 RX6 yX6_goes wsX6_goes) := goodIn_app (goodIn_of _ (by decide +kernel)) ggX6_northQueue_X6_goes
set_option maxRecDepth 20000 in
theorem ggX6_northQueue_X6_north : GoodIn wsX6_northQueue wsX6_north := goodIn_r _ [16] (by decide +kernel) (by decide +kernel)
set_option maxRecDepth 20000 in
theorem gX6_northQueue_X6_north : GoodIn wsX6_northQueue (va_wsS RX6 138 yX6_north wsX6_north) := goodIn_app (goodIn_of _ (by decide +kernel)) ggX6_northQueue_X6_north
theorem dX6_northQueue_0 : decode cX6_northQueue 0 = .ok (.aload_n 0, 1) := by decide +kernel
theorem dX6_northQueue_1 : decode cX6_northQueue 1 = .ok (.iload_n 1, 1) := by decide +kernel
theorem dX6_northQueue_2 : decode cX6_northQueue 2 = .ok (.iload_n 2, 1) := by decide +kernel
theorem dX6_northQueue_3 : decode cX6_northQueue 3 = .ok (.invokestatic 134, 3) := by decide +kernel
theorem dX6_northQueue_6 : decode cX6_northQueue 6 = .ok (.ifCond .eq 7, 3) := by decide +kernel
theorem dX6_northQueue_9 : decode cX6_northQueue 9 = .ok (.iconst 0, 1) := by decide +kernel
theorem dX6_northQueue_10 : decode cX6_northQueue 10 = .ok (.goto 4, 3) := by decide +kernel
theorem dX6_northQueue_13 : decode cX6_northQueue 13 = .ok (.iconst 1, 1) := by decide +kernel
theorem dX6_northQueue_14 : decode cX6_northQueue 14 = .ok (.invokevirtual 124, 3) := by decide +kernel
theorem dX6_northQueue_17 : decode cX6_northQueue 17 = .ok (.ifCond .eq 16, 3) := by decide +kernel
theorem dX6_northQueue_20 : decode cX6_northQueue 20 = .ok (.aload_n 0, 1) := by decide +kernel
theorem dX6_northQueue_21 : decode cX6_northQueue 21 = .ok (.getfield 59, 3) := by decide +kernel
theorem dX6_northQueue_24 : decode cX6_northQueue 24 = .ok (.iload_n 1, 1) := by decide +kernel
theorem dX6_northQueue_25 : decode cX6_northQueue 25 = .ok (.iload_n 2, 1) := by decide +kernel
theorem dX6_northQueue_26 : decode cX6_northQueue 26 = .ok (.invokestatic 138, 3) := by decide +kernel
theorem dX6_northQueue_29 : decode cX6_northQueue 29 = .ok (.iaload, 1) := by decide +kernel
theorem dX6_northQueue_30 : decode cX6_northQueue 30 = .ok (.goto 4, 3) := by decide +kernel
theorem dX6_northQueue_33 : decode cX6_northQueue 33 = .ok (.iconst 0, 1) := by decide +kernel
theorem dX6_northQueue_34 : decode cX6_northQueue 34 = .ok (.ireturn, 1) := by decide +kernel
set_option maxRecDepth 20000 in
theorem ggX6_southQueue_X6_areFour : GoodIn wsX6_southQueue wsX6_areFour := goodIn_r _ [5, 6, 7, 4, 8] (by decide +kernel) (by decide +kernel)
set_option maxRecDepth 20000 in
theorem gX6_southQueue_X6_areFour : GoodIn wsX6_southQueue (va_wsS RX6 134 yX6_areFour wsX6_areFour) := goodIn_app (goodIn_of _ (by decide +kernel)) ggX6_southQueue_X6_areFour
set_option maxRecDepth 20000 in
theorem ggX6_southQueue_X6_goes : GoodIn wsX6_southQueue wsX6_goes := goodIn_r _ [12, 13, 17, 18, 19, 20, 21, 22, 23, 24, 25, 26, 27, 28, 29, 30, 31, 32, 33, 34, 35, 36, 37, 38, 39, 40, 41, 42, 43, 44, 45, 46, 47, 48, 49, 50, 51, 52] (by decide +kernel) (by decide +kernel)
set_option maxRecDepth 20000 in
theorem gX6_southQueue_X6_goes : GoodIn wsX6_southQueue (wsV RX6 124 RX6 yX6_goes wsX6_goes) := goodIn_app (goodIn_of _ (by decide +kernel)) ggX6_southQueue_X6_goes
set_option maxRecDepth 20000 in
theorem ggX6_southQueue_X6_south : GoodIn wsX6_southQueue wsX6_south := goodIn_r _ [16] (by decide +kernel) (by decide +kernel)
set_option maxRecDepth 20000 in
theorem gX6_southQueue_X6_south : GoodIn wsX6_southQueue (va_wsS RX6 142 yX6_south wsX6_south) := goodIn_app (goodIn_of _ (by decide +kernel)) ggX6_southQueue_X6_south
theorem dX6_southQueue_0 : decode cX6_southQueue 0 = .ok (.aload_n 0, 1) := by decide +kernel
theorem dX6_southQueue_1 : decode cX6_southQueue 1 = .ok (.iload_n 1, 1) := by decide +kernel
theorem dX6_southQueue_2 : decode cX6_southQueue 2 = .ok (.iload_n 2, 1) := by decide +kernel
theorem dX6_southQueue_3 : decode cX6_southQueue 3 = .ok (.invokestatic 134, 3) := by decide +kernel
theorem dX6_southQueue_6 : decode cX6_southQueue 6 = .ok (.ifCond .eq 7, 3) := by decide +kernel
theorem dX6_southQueue_9 : decode cX6_southQueue 9 = .ok (.iconst 0, 1) := by decide +kernel
theorem dX6_southQueue_10 : decode cX6_southQueue 10 = .ok (.goto 4, 3) := by decide +kernel
theorem dX6_southQueue_13 : decode cX6_southQueue 13 = .ok (.iconst 1, 1) := by decide +kernel
theorem dX6_southQueue_14 : decode cX6_southQueue 14 = .ok (.invokevirtual 124, 3) := by decide +kernel
theorem dX6_southQueue_17 : decode cX6_southQueue 17 = .ok (.ifCond .eq 16, 3) := by decide +kernel
theorem dX6_southQueue_20 : decode cX6_southQueue 20 = .ok (.aload_n 0, 1) := by decide +kernel
theorem dX6_southQueue_21 : decode cX6_southQueue 21 = .ok (.getfield 59, 3) := by decide +kernel
theorem dX6_southQueue_24 : decode cX6_southQueue 24 = .ok (.iload_n 1, 1) := by decide +kernel
theorem dX6_southQueue_25 : decode cX6_southQueue 25 = .ok (.iload_n 2, 1) := by decide +kernel
theorem dX6_southQueue_26 : decode cX6_southQueue 26 = .ok (.invokestatic 142, 3) := by decide +kernel
theorem dX6_southQueue_29 : decode cX6_southQueue 29 = .ok (.iaload, 1) := by decide +kernel
theorem dX6_southQueue_30 : decode cX6_southQueue 30 = .ok (.goto 4, 3) := by decide +kernel
theorem dX6_southQueue_33 : decode cX6_southQueue 33 = .ok (.iconst 0, 1) := by decide +kernel
theorem dX6_southQueue_34 : decode cX6_southQueue 34 = .ok (.ireturn, 1) := by decide +kernel
set_option maxRecDepth 20000 in
theorem ggX6_upCredits_X6_isHost : GoodIn wsX6_upCredits wsX6_isHost := goodIn_r _ [5, 6, 7, 4, 8] (by decide +kernel) (by decide +kernel)
set_option maxRecDepth 20000 in
theorem gX6_upCredits_X6_isHost : GoodIn wsX6_upCredits (va_wsS RX6 131 yX6_isHost wsX6_isHost) := goodIn_app (goodIn_of _ (by decide +kernel)) ggX6_upCredits_X6_isHost
set_option maxRecDepth 20000 in
theorem ggX6_upCredits_X6_goes : GoodIn wsX6_upCredits wsX6_goes := goodIn_r _ [12, 13, 14, 15, 16, 17, 18, 19, 20, 21, 22, 23, 24, 25, 26, 27, 28, 29, 30, 31, 32, 33, 34, 35, 36, 37, 38, 39, 40, 41, 42, 43, 44, 45, 46, 47, 48, 49] (by decide +kernel) (by decide +kernel)
set_option maxRecDepth 20000 in
theorem gX6_upCredits_X6_goes : GoodIn wsX6_upCredits (wsV RX6 124 RX6 yX6_goes wsX6_goes) := goodIn_app (goodIn_of _ (by decide +kernel)) ggX6_upCredits_X6_goes
theorem dX6_upCredits_0 : decode cX6_upCredits 0 = .ok (.aload_n 0, 1) := by decide +kernel
theorem dX6_upCredits_1 : decode cX6_upCredits 1 = .ok (.iload_n 1, 1) := by decide +kernel
theorem dX6_upCredits_2 : decode cX6_upCredits 2 = .ok (.invokestatic 131, 3) := by decide +kernel
theorem dX6_upCredits_5 : decode cX6_upCredits 5 = .ok (.ifCond .eq 7, 3) := by decide +kernel
theorem dX6_upCredits_8 : decode cX6_upCredits 8 = .ok (.iconst 0, 1) := by decide +kernel
theorem dX6_upCredits_9 : decode cX6_upCredits 9 = .ok (.goto 4, 3) := by decide +kernel
theorem dX6_upCredits_12 : decode cX6_upCredits 12 = .ok (.iconst 1, 1) := by decide +kernel
theorem dX6_upCredits_13 : decode cX6_upCredits 13 = .ok (.invokevirtual 124, 3) := by decide +kernel
theorem dX6_upCredits_16 : decode cX6_upCredits 16 = .ok (.ifCond .eq 12, 3) := by decide +kernel
theorem dX6_upCredits_19 : decode cX6_upCredits 19 = .ok (.aload_n 0, 1) := by decide +kernel
theorem dX6_upCredits_20 : decode cX6_upCredits 20 = .ok (.getfield 56, 3) := by decide +kernel
theorem dX6_upCredits_23 : decode cX6_upCredits 23 = .ok (.iload_n 1, 1) := by decide +kernel
theorem dX6_upCredits_24 : decode cX6_upCredits 24 = .ok (.iaload, 1) := by decide +kernel
theorem dX6_upCredits_25 : decode cX6_upCredits 25 = .ok (.goto 4, 3) := by decide +kernel
theorem dX6_upCredits_28 : decode cX6_upCredits 28 = .ok (.iconst 0, 1) := by decide +kernel
theorem dX6_upCredits_29 : decode cX6_upCredits 29 = .ok (.ireturn, 1) := by decide +kernel
set_option maxRecDepth 20000 in
theorem ggX6_northCredits_X6_areFour : GoodIn wsX6_northCredits wsX6_areFour := goodIn_r _ [5, 6, 7, 4, 8] (by decide +kernel) (by decide +kernel)
set_option maxRecDepth 20000 in
theorem gX6_northCredits_X6_areFour : GoodIn wsX6_northCredits (va_wsS RX6 134 yX6_areFour wsX6_areFour) := goodIn_app (goodIn_of _ (by decide +kernel)) ggX6_northCredits_X6_areFour
set_option maxRecDepth 20000 in
theorem ggX6_northCredits_X6_goes : GoodIn wsX6_northCredits wsX6_goes := goodIn_r _ [12, 13, 17, 18, 19, 20, 21, 22, 23, 24, 25, 26, 27, 28, 29, 30, 31, 32, 33, 34, 35, 36, 37, 38, 39, 40, 41, 42, 43, 44, 45, 46, 47, 48, 49, 50, 51, 52] (by decide +kernel) (by decide +kernel)
set_option maxRecDepth 20000 in
theorem gX6_northCredits_X6_goes : GoodIn wsX6_northCredits (wsV RX6 124 RX6 yX6_goes wsX6_goes) := goodIn_app (goodIn_of _ (by decide +kernel)) ggX6_northCredits_X6_goes
set_option maxRecDepth 20000 in
theorem ggX6_northCredits_X6_north : GoodIn wsX6_northCredits wsX6_north := goodIn_r _ [16] (by decide +kernel) (by decide +kernel)
set_option maxRecDepth 20000 in
theorem gX6_northCredits_X6_north : GoodIn wsX6_northCredits (va_wsS RX6 138 yX6_north wsX6_north) := goodIn_app (goodIn_of _ (by decide +kernel)) ggX6_northCredits_X6_north
theorem dX6_northCredits_0 : decode cX6_northCredits 0 = .ok (.aload_n 0, 1) := by decide +kernel
theorem dX6_northCredits_1 : decode cX6_northCredits 1 = .ok (.iload_n 1, 1) := by decide +kernel
theorem dX6_northCredits_2 : decode cX6_northCredits 2 = .ok (.iload_n 2, 1) := by decide +kernel
theorem dX6_northCredits_3 : decode cX6_northCredits 3 = .ok (.invokestatic 134, 3) := by decide +kernel
theorem dX6_northCredits_6 : decode cX6_northCredits 6 = .ok (.ifCond .eq 7, 3) := by decide +kernel
theorem dX6_northCredits_9 : decode cX6_northCredits 9 = .ok (.iconst 0, 1) := by decide +kernel
theorem dX6_northCredits_10 : decode cX6_northCredits 10 = .ok (.goto 4, 3) := by decide +kernel
theorem dX6_northCredits_13 : decode cX6_northCredits 13 = .ok (.iconst 1, 1) := by decide +kernel
theorem dX6_northCredits_14 : decode cX6_northCredits 14 = .ok (.invokevirtual 124, 3) := by decide +kernel
theorem dX6_northCredits_17 : decode cX6_northCredits 17 = .ok (.ifCond .eq 16, 3) := by decide +kernel
theorem dX6_northCredits_20 : decode cX6_northCredits 20 = .ok (.aload_n 0, 1) := by decide +kernel
theorem dX6_northCredits_21 : decode cX6_northCredits 21 = .ok (.getfield 56, 3) := by decide +kernel
theorem dX6_northCredits_24 : decode cX6_northCredits 24 = .ok (.iload_n 1, 1) := by decide +kernel
theorem dX6_northCredits_25 : decode cX6_northCredits 25 = .ok (.iload_n 2, 1) := by decide +kernel
theorem dX6_northCredits_26 : decode cX6_northCredits 26 = .ok (.invokestatic 138, 3) := by decide +kernel
theorem dX6_northCredits_29 : decode cX6_northCredits 29 = .ok (.iaload, 1) := by decide +kernel
theorem dX6_northCredits_30 : decode cX6_northCredits 30 = .ok (.goto 4, 3) := by decide +kernel
theorem dX6_northCredits_33 : decode cX6_northCredits 33 = .ok (.iconst 0, 1) := by decide +kernel
theorem dX6_northCredits_34 : decode cX6_northCredits 34 = .ok (.ireturn, 1) := by decide +kernel
theorem dX6_returning_0 : decode cX6_returning 0 = .ok (.aload_n 0, 1) := by decide +kernel
theorem dX6_returning_1 : decode cX6_returning 1 = .ok (.iconst 0, 1) := by decide +kernel
theorem dX6_returning_2 : decode cX6_returning 2 = .ok (.putfield 111, 3) := by decide +kernel
theorem dX6_returning_5 : decode cX6_returning 5 = .ok (.iconst 0, 1) := by decide +kernel
theorem dX6_returning_6 : decode cX6_returning 6 = .ok (.istore_n 1, 1) := by decide +kernel
theorem dX6_returning_7 : decode cX6_returning 7 = .ok (.iconst 0, 1) := by decide +kernel
theorem dX6_returning_8 : decode cX6_returning 8 = .ok (.istore_n 2, 1) := by decide +kernel
theorem dX6_returning_9 : decode cX6_returning 9 = .ok (.iload_n 2, 1) := by decide +kernel
theorem dX6_returning_10 : decode cX6_returning 10 = .ok (.sipush 512, 3) := by decide +kernel
theorem dX6_returning_13 : decode cX6_returning 13 = .ok (.if_icmp .ge 18, 3) := by decide +kernel
theorem dX6_returning_16 : decode cX6_returning 16 = .ok (.iload_n 1, 1) := by decide +kernel
theorem dX6_returning_17 : decode cX6_returning 17 = .ok (.aload_n 0, 1) := by decide +kernel
theorem dX6_returning_18 : decode cX6_returning 18 = .ok (.getfield 68, 3) := by decide +kernel
theorem dX6_returning_21 : decode cX6_returning 21 = .ok (.iload_n 2, 1) := by decide +kernel
theorem dX6_returning_22 : decode cX6_returning 22 = .ok (.iaload, 1) := by decide +kernel
theorem dX6_returning_23 : decode cX6_returning 23 = .ok (.iadd, 1) := by decide +kernel
theorem dX6_returning_24 : decode cX6_returning 24 = .ok (.istore_n 1, 1) := by decide +kernel
theorem dX6_returning_25 : decode cX6_returning 25 = .ok (.iinc 2 1, 3) := by decide +kernel
theorem dX6_returning_28 : decode cX6_returning 28 = .ok (.goto (-19), 3) := by decide +kernel
theorem dX6_returning_31 : decode cX6_returning 31 = .ok (.iload_n 1, 1) := by decide +kernel
theorem dX6_returning_32 : decode cX6_returning 32 = .ok (.ireturn, 1) := by decide +kernel
theorem dX6_queued_0 : decode cX6_queued 0 = .ok (.aload_n 0, 1) := by decide +kernel
theorem dX6_queued_1 : decode cX6_queued 1 = .ok (.iconst 0, 1) := by decide +kernel
theorem dX6_queued_2 : decode cX6_queued 2 = .ok (.putfield 111, 3) := by decide +kernel
theorem dX6_queued_5 : decode cX6_queued 5 = .ok (.iconst 0, 1) := by decide +kernel
theorem dX6_queued_6 : decode cX6_queued 6 = .ok (.istore_n 1, 1) := by decide +kernel
theorem dX6_queued_7 : decode cX6_queued 7 = .ok (.iconst 0, 1) := by decide +kernel
theorem dX6_queued_8 : decode cX6_queued 8 = .ok (.istore_n 2, 1) := by decide +kernel
theorem dX6_queued_9 : decode cX6_queued 9 = .ok (.iload_n 2, 1) := by decide +kernel
theorem dX6_queued_10 : decode cX6_queued 10 = .ok (.bipush 64, 2) := by decide +kernel
theorem dX6_queued_12 : decode cX6_queued 12 = .ok (.if_icmp .ge 18, 3) := by decide +kernel
theorem dX6_queued_15 : decode cX6_queued 15 = .ok (.iload_n 1, 1) := by decide +kernel
theorem dX6_queued_16 : decode cX6_queued 16 = .ok (.aload_n 0, 1) := by decide +kernel
theorem dX6_queued_17 : decode cX6_queued 17 = .ok (.getfield 59, 3) := by decide +kernel
theorem dX6_queued_20 : decode cX6_queued 20 = .ok (.iload_n 2, 1) := by decide +kernel
theorem dX6_queued_21 : decode cX6_queued 21 = .ok (.iaload, 1) := by decide +kernel
theorem dX6_queued_22 : decode cX6_queued 22 = .ok (.iadd, 1) := by decide +kernel
theorem dX6_queued_23 : decode cX6_queued 23 = .ok (.istore_n 1, 1) := by decide +kernel
theorem dX6_queued_24 : decode cX6_queued 24 = .ok (.iinc 2 1, 3) := by decide +kernel
theorem dX6_queued_27 : decode cX6_queued 27 = .ok (.goto (-18), 3) := by decide +kernel
theorem dX6_queued_30 : decode cX6_queued 30 = .ok (.iload_n 1, 1) := by decide +kernel
theorem dX6_queued_31 : decode cX6_queued 31 = .ok (.ireturn, 1) := by decide +kernel
set_option maxRecDepth 20000 in
theorem ggX6_open_X6_isHost : GoodIn wsX6_open wsX6_isHost := goodIn_r _ [5, 6, 7, 4, 8] (by decide +kernel) (by decide +kernel)
set_option maxRecDepth 20000 in
theorem gX6_open_X6_isHost : GoodIn wsX6_open (va_wsS RX6 131 yX6_isHost wsX6_isHost) := goodIn_app (goodIn_of _ (by decide +kernel)) ggX6_open_X6_isHost
set_option maxRecDepth 20000 in
theorem ggX6_open_X6_goes : GoodIn wsX6_open wsX6_goes := goodIn_r _ [12, 13, 14, 15, 16, 17, 18, 19, 20, 21, 22, 23, 24, 25, 26, 27, 28, 29, 30, 31, 32, 33, 34, 35, 36, 37, 38, 39, 40, 41, 42, 43, 44, 45, 46, 47, 48, 49] (by decide +kernel) (by decide +kernel)
set_option maxRecDepth 20000 in
theorem gX6_open_X6_goes : GoodIn wsX6_open (wsV RX6 124 RX6 yX6_goes wsX6_goes) := goodIn_app (goodIn_of _ (by decide +kernel)) ggX6_open_X6_goes
theorem dX6_open_0 : decode cX6_open 0 = .ok (.aload_n 0, 1) := by decide +kernel
theorem dX6_open_1 : decode cX6_open 1 = .ok (.iload_n 1, 1) := by decide +kernel
theorem dX6_open_2 : decode cX6_open 2 = .ok (.invokestatic 131, 3) := by decide +kernel
theorem dX6_open_5 : decode cX6_open 5 = .ok (.ifCond .eq 7, 3) := by decide +kernel
theorem dX6_open_8 : decode cX6_open 8 = .ok (.iconst 0, 1) := by decide +kernel
theorem dX6_open_9 : decode cX6_open 9 = .ok (.goto 4, 3) := by decide +kernel
theorem dX6_open_12 : decode cX6_open 12 = .ok (.iconst 1, 1) := by decide +kernel
theorem dX6_open_13 : decode cX6_open 13 = .ok (.invokevirtual 124, 3) := by decide +kernel
theorem dX6_open_16 : decode cX6_open 16 = .ok (.ifCond .eq 12, 3) := by decide +kernel
theorem dX6_open_19 : decode cX6_open 19 = .ok (.aload_n 0, 1) := by decide +kernel
theorem dX6_open_20 : decode cX6_open 20 = .ok (.getfield 93, 3) := by decide +kernel
theorem dX6_open_23 : decode cX6_open 23 = .ok (.iload_n 1, 1) := by decide +kernel
theorem dX6_open_24 : decode cX6_open 24 = .ok (.iaload, 1) := by decide +kernel
theorem dX6_open_25 : decode cX6_open 25 = .ok (.goto 4, 3) := by decide +kernel
theorem dX6_open_28 : decode cX6_open 28 = .ok (.iconst 0, 1) := by decide +kernel
theorem dX6_open_29 : decode cX6_open 29 = .ok (.ireturn, 1) := by decide +kernel
set_option maxRecDepth 20000 in
theorem ggX6_usable_X6_areFour : GoodIn wsX6_usable wsX6_areFour := goodIn_r _ [4, 5, 6, 3, 7] (by decide +kernel) (by decide +kernel)
set_option maxRecDepth 20000 in
theorem gX6_usable_X6_areFour : GoodIn wsX6_usable (va_wsS RX6 134 yX6_areFour wsX6_areFour) := goodIn_app (goodIn_of _ (by decide +kernel)) ggX6_usable_X6_areFour
set_option maxRecDepth 20000 in
theorem ggX6_usable_X6_goes : GoodIn wsX6_usable wsX6_goes := goodIn_r _ [11, 12, 22, 23, 24, 25, 26, 27, 28, 29, 30, 31, 32, 33, 34, 35, 36, 37, 38, 39, 40, 41, 42, 43, 44, 45, 46, 47, 48, 49, 50, 51, 52, 53, 54, 55, 56, 57] (by decide +kernel) (by decide +kernel)
set_option maxRecDepth 20000 in
theorem gX6_usable_X6_goes : GoodIn wsX6_usable (wsV RX6 124 RX6 yX6_goes wsX6_goes) := goodIn_app (goodIn_of _ (by decide +kernel)) ggX6_usable_X6_goes
set_option maxRecDepth 20000 in
theorem ggX6_usable_X6_usableSet : GoodIn wsX6_usable wsX6_usableSet := goodIn_r _ [16, 17, 18, 19, 3, 20, 21, 22, 23, 24, 25, 26, 27, 28, 29, 30, 31, 32, 33, 34, 35, 36, 37, 38, 39, 40, 41, 42, 43, 44, 45, 46, 47, 48, 49, 50, 51, 52, 53, 54, 55, 56, 57] (by decide +kernel) (by decide +kernel)
set_option maxRecDepth 20000 in
theorem gX6_usable_X6_usableSet : GoodIn wsX6_usable (wsV RX6 171 RX6 yX6_usableSet wsX6_usableSet) := goodIn_app (goodIn_of _ (by decide +kernel)) ggX6_usable_X6_usableSet
theorem dX6_usable_0 : decode cX6_usable 0 = .ok (.aload_n 0, 1) := by decide +kernel
theorem dX6_usable_1 : decode cX6_usable 1 = .ok (.iload_n 1, 1) := by decide +kernel
theorem dX6_usable_2 : decode cX6_usable 2 = .ok (.iload_n 2, 1) := by decide +kernel
theorem dX6_usable_3 : decode cX6_usable 3 = .ok (.invokestatic 134, 3) := by decide +kernel
theorem dX6_usable_6 : decode cX6_usable 6 = .ok (.ifCond .eq 12, 3) := by decide +kernel
theorem dX6_usable_9 : decode cX6_usable 9 = .ok (.iload_n 1, 1) := by decide +kernel
theorem dX6_usable_10 : decode cX6_usable 10 = .ok (.iload_n 2, 1) := by decide +kernel
theorem dX6_usable_11 : decode cX6_usable 11 = .ok (.if_icmp .eq 7, 3) := by decide +kernel
theorem dX6_usable_14 : decode cX6_usable 14 = .ok (.iconst 0, 1) := by decide +kernel
theorem dX6_usable_15 : decode cX6_usable 15 = .ok (.goto 4, 3) := by decide +kernel
theorem dX6_usable_18 : decode cX6_usable 18 = .ok (.iconst 1, 1) := by decide +kernel
theorem dX6_usable_19 : decode cX6_usable 19 = .ok (.invokevirtual 124, 3) := by decide +kernel
theorem dX6_usable_22 : decode cX6_usable 22 = .ok (.ifCond .eq 12, 3) := by decide +kernel
theorem dX6_usable_25 : decode cX6_usable 25 = .ok (.aload_n 0, 1) := by decide +kernel
theorem dX6_usable_26 : decode cX6_usable 26 = .ok (.iload_n 1, 1) := by decide +kernel
theorem dX6_usable_27 : decode cX6_usable 27 = .ok (.iload_n 2, 1) := by decide +kernel
theorem dX6_usable_28 : decode cX6_usable 28 = .ok (.invokevirtual 171, 3) := by decide +kernel
theorem dX6_usable_31 : decode cX6_usable 31 = .ok (.goto 4, 3) := by decide +kernel
theorem dX6_usable_34 : decode cX6_usable 34 = .ok (.iconst 0, 1) := by decide +kernel
theorem dX6_usable_35 : decode cX6_usable 35 = .ok (.ireturn, 1) := by decide +kernel
theorem dX6_toSend_0 : decode cX6_toSend 0 = .ok (.aload_n 0, 1) := by decide +kernel
theorem dX6_toSend_1 : decode cX6_toSend 1 = .ok (.getfield 23, 3) := by decide +kernel
theorem dX6_toSend_4 : decode cX6_toSend 4 = .ok (.iload_n 1, 1) := by decide +kernel
theorem dX6_toSend_5 : decode cX6_toSend 5 = .ok (.iaload, 1) := by decide +kernel
theorem dX6_toSend_6 : decode cX6_toSend 6 = .ok (.aload_n 0, 1) := by decide +kernel
theorem dX6_toSend_7 : decode cX6_toSend 7 = .ok (.getfield 29, 3) := by decide +kernel
theorem dX6_toSend_10 : decode cX6_toSend 10 = .ok (.iload_n 1, 1) := by decide +kernel
theorem dX6_toSend_11 : decode cX6_toSend 11 = .ok (.iaload, 1) := by decide +kernel
theorem dX6_toSend_12 : decode cX6_toSend 12 = .ok (.isub, 1) := by decide +kernel
theorem dX6_toSend_13 : decode cX6_toSend 13 = .ok (.aload_n 0, 1) := by decide +kernel
theorem dX6_toSend_14 : decode cX6_toSend 14 = .ok (.getfield 35, 3) := by decide +kernel
theorem dX6_toSend_17 : decode cX6_toSend 17 = .ok (.iload_n 1, 1) := by decide +kernel
theorem dX6_toSend_18 : decode cX6_toSend 18 = .ok (.iaload, 1) := by decide +kernel
theorem dX6_toSend_19 : decode cX6_toSend 19 = .ok (.iadd, 1) := by decide +kernel
theorem dX6_toSend_20 : decode cX6_toSend 20 = .ok (.ireturn, 1) := by decide +kernel
set_option maxRecDepth 20000 in
theorem ggX6_sum_X6_isFar : GoodIn wsX6_sum wsX6_isFar := goodIn_r _ [8, 2, 3, 16, 17, 18, 19, 20, 21, 22, 23, 24, 25, 26, 27, 28, 29, 30, 31, 32, 33, 34, 35, 36, 37, 38, 39, 40, 41, 42, 43, 44, 45, 46, 47, 48, 49, 50, 51] (by decide +kernel) (by decide +kernel)
set_option maxRecDepth 20000 in
theorem gX6_sum_X6_isFar : GoodIn wsX6_sum (wsV RX6 162 RX6 yX6_isFar wsX6_isFar) := goodIn_app (goodIn_of _ (by decide +kernel)) ggX6_sum_X6_isFar
set_option maxRecDepth 20000 in
theorem ggX6_sum_X6_toSend : GoodIn wsX6_sum wsX6_toSend := goodIn_r _ [12, 13, 14, 15, 16, 17, 18, 19, 20, 21, 22, 23, 24, 25, 26, 27, 28, 29, 30, 31, 32, 33, 34, 35, 36, 37, 38, 39, 40, 41, 42, 43, 44, 45, 46, 47, 48, 49, 50, 51] (by decide +kernel) (by decide +kernel)
set_option maxRecDepth 20000 in
theorem gX6_sum_X6_toSend : GoodIn wsX6_sum (wsV RX6 218 RX6 yX6_toSend wsX6_toSend) := goodIn_app (goodIn_of _ (by decide +kernel)) ggX6_sum_X6_toSend
theorem dX6_sum_0 : decode cX6_sum 0 = .ok (.iconst 0, 1) := by decide +kernel
theorem dX6_sum_1 : decode cX6_sum 1 = .ok (.istore_n 3, 1) := by decide +kernel
theorem dX6_sum_2 : decode cX6_sum 2 = .ok (.iconst 0, 1) := by decide +kernel
theorem dX6_sum_3 : decode cX6_sum 3 = .ok (.istore 4, 2) := by decide +kernel
theorem dX6_sum_5 : decode cX6_sum 5 = .ok (.iload 4, 2) := by decide +kernel
theorem dX6_sum_7 : decode cX6_sum 7 = .ok (.aload_n 0, 1) := by decide +kernel
theorem dX6_sum_8 : decode cX6_sum 8 = .ok (.getfield 118, 3) := by decide +kernel
theorem dX6_sum_11 : decode cX6_sum 11 = .ok (.if_icmp .ge 95, 3) := by decide +kernel
theorem dX6_sum_14 : decode cX6_sum 14 = .ok (.iload_n 1, 1) := by decide +kernel
theorem dX6_sum_15 : decode cX6_sum 15 = .ok (.iconst 2, 1) := by decide +kernel
theorem dX6_sum_16 : decode cX6_sum 16 = .ok (.irem, 1) := by decide +kernel
theorem dX6_sum_17 : decode cX6_sum 17 = .ok (.ifCond .ne 13, 3) := by decide +kernel
theorem dX6_sum_20 : decode cX6_sum 20 = .ok (.aload_n 0, 1) := by decide +kernel
theorem dX6_sum_21 : decode cX6_sum 21 = .ok (.getfield 16, 3) := by decide +kernel
theorem dX6_sum_24 : decode cX6_sum 24 = .ok (.iload 4, 2) := by decide +kernel
theorem dX6_sum_26 : decode cX6_sum 26 = .ok (.iaload, 1) := by decide +kernel
theorem dX6_sum_27 : decode cX6_sum 27 = .ok (.goto 10, 3) := by decide +kernel
theorem dX6_sum_30 : decode cX6_sum 30 = .ok (.aload_n 0, 1) := by decide +kernel
theorem dX6_sum_31 : decode cX6_sum 31 = .ok (.getfield 20, 3) := by decide +kernel
theorem dX6_sum_34 : decode cX6_sum 34 = .ok (.iload 4, 2) := by decide +kernel
theorem dX6_sum_36 : decode cX6_sum 36 = .ok (.iaload, 1) := by decide +kernel
theorem dX6_sum_37 : decode cX6_sum 37 = .ok (.istore 5, 2) := by decide +kernel
theorem dX6_sum_39 : decode cX6_sum 39 = .ok (.iload_n 1, 1) := by decide +kernel
theorem dX6_sum_40 : decode cX6_sum 40 = .ok (.iconst 2, 1) := by decide +kernel
theorem dX6_sum_41 : decode cX6_sum 41 = .ok (.if_icmp .ge 17, 3) := by decide +kernel
theorem dX6_sum_44 : decode cX6_sum 44 = .ok (.iload 5, 2) := by decide +kernel
theorem dX6_sum_46 : decode cX6_sum 46 = .ok (.iload_n 2, 1) := by decide +kernel
theorem dX6_sum_47 : decode cX6_sum 47 = .ok (.if_icmp .ne 7, 3) := by decide +kernel
theorem dX6_sum_50 : decode cX6_sum 50 = .ok (.iconst 1, 1) := by decide +kernel
theorem dX6_sum_51 : decode cX6_sum 51 = .ok (.goto 29, 3) := by decide +kernel
theorem dX6_sum_54 : decode cX6_sum 54 = .ok (.iconst 0, 1) := by decide +kernel
theorem dX6_sum_55 : decode cX6_sum 55 = .ok (.goto 25, 3) := by decide +kernel
theorem dX6_sum_58 : decode cX6_sum 58 = .ok (.aload_n 0, 1) := by decide +kernel
theorem dX6_sum_59 : decode cX6_sum 59 = .ok (.iload 4, 2) := by decide +kernel
theorem dX6_sum_61 : decode cX6_sum 61 = .ok (.invokevirtual 162, 3) := by decide +kernel
theorem dX6_sum_64 : decode cX6_sum 64 = .ok (.ifCond .eq 15, 3) := by decide +kernel
theorem dX6_sum_67 : decode cX6_sum 67 = .ok (.iload 5, 2) := by decide +kernel
theorem dX6_sum_69 : decode cX6_sum 69 = .ok (.iconst 4, 1) := by decide +kernel
theorem dX6_sum_70 : decode cX6_sum 70 = .ok (.idiv, 1) := by decide +kernel
theorem dX6_sum_71 : decode cX6_sum 71 = .ok (.iload_n 2, 1) := by decide +kernel
theorem dX6_sum_72 : decode cX6_sum 72 = .ok (.if_icmp .ne 7, 3) := by decide +kernel
theorem dX6_sum_75 : decode cX6_sum 75 = .ok (.iconst 1, 1) := by decide +kernel
theorem dX6_sum_76 : decode cX6_sum 76 = .ok (.goto 4, 3) := by decide +kernel
theorem dX6_sum_79 : decode cX6_sum 79 = .ok (.iconst 0, 1) := by decide +kernel
theorem dX6_sum_80 : decode cX6_sum 80 = .ok (.istore 6, 2) := by decide +kernel
theorem dX6_sum_82 : decode cX6_sum 82 = .ok (.iload_n 3, 1) := by decide +kernel
theorem dX6_sum_83 : decode cX6_sum 83 = .ok (.iload 6, 2) := by decide +kernel
theorem dX6_sum_85 : decode cX6_sum 85 = .ok (.ifCond .eq 12, 3) := by decide +kernel
theorem dX6_sum_88 : decode cX6_sum 88 = .ok (.aload_n 0, 1) := by decide +kernel
theorem dX6_sum_89 : decode cX6_sum 89 = .ok (.iload 4, 2) := by decide +kernel
theorem dX6_sum_91 : decode cX6_sum 91 = .ok (.invokevirtual 218, 3) := by decide +kernel
theorem dX6_sum_94 : decode cX6_sum 94 = .ok (.goto 4, 3) := by decide +kernel
theorem dX6_sum_97 : decode cX6_sum 97 = .ok (.iconst 0, 1) := by decide +kernel
theorem dX6_sum_98 : decode cX6_sum 98 = .ok (.iadd, 1) := by decide +kernel
theorem dX6_sum_99 : decode cX6_sum 99 = .ok (.istore_n 3, 1) := by decide +kernel
theorem dX6_sum_100 : decode cX6_sum 100 = .ok (.iinc 4 1, 3) := by decide +kernel
theorem dX6_sum_103 : decode cX6_sum 103 = .ok (.goto (-98), 3) := by decide +kernel
theorem dX6_sum_106 : decode cX6_sum 106 = .ok (.iload_n 3, 1) := by decide +kernel
theorem dX6_sum_107 : decode cX6_sum 107 = .ok (.ireturn, 1) := by decide +kernel
theorem dX6_uncut_0 : decode cX6_uncut 0 = .ok (.iconst 0, 1) := by decide +kernel
theorem dX6_uncut_1 : decode cX6_uncut 1 = .ok (.istore_n 2, 1) := by decide +kernel
theorem dX6_uncut_2 : decode cX6_uncut 2 = .ok (.iconst 0, 1) := by decide +kernel
theorem dX6_uncut_3 : decode cX6_uncut 3 = .ok (.istore_n 3, 1) := by decide +kernel
theorem dX6_uncut_4 : decode cX6_uncut 4 = .ok (.iload_n 3, 1) := by decide +kernel
theorem dX6_uncut_5 : decode cX6_uncut 5 = .ok (.iconst 4, 1) := by decide +kernel
theorem dX6_uncut_6 : decode cX6_uncut 6 = .ok (.if_icmp .ge 30, 3) := by decide +kernel
theorem dX6_uncut_9 : decode cX6_uncut 9 = .ok (.iload_n 2, 1) := by decide +kernel
theorem dX6_uncut_10 : decode cX6_uncut 10 = .ok (.aload_n 0, 1) := by decide +kernel
theorem dX6_uncut_11 : decode cX6_uncut 11 = .ok (.getfield 83, 3) := by decide +kernel
theorem dX6_uncut_14 : decode cX6_uncut 14 = .ok (.iconst 4, 1) := by decide +kernel
theorem dX6_uncut_15 : decode cX6_uncut 15 = .ok (.iload_n 1, 1) := by decide +kernel
theorem dX6_uncut_16 : decode cX6_uncut 16 = .ok (.imul, 1) := by decide +kernel
theorem dX6_uncut_17 : decode cX6_uncut 17 = .ok (.iload_n 3, 1) := by decide +kernel
theorem dX6_uncut_18 : decode cX6_uncut 18 = .ok (.iadd, 1) := by decide +kernel
theorem dX6_uncut_19 : decode cX6_uncut 19 = .ok (.baload, 1) := by decide +kernel
theorem dX6_uncut_20 : decode cX6_uncut 20 = .ok (.ifCond .eq 7, 3) := by decide +kernel
theorem dX6_uncut_23 : decode cX6_uncut 23 = .ok (.iconst 0, 1) := by decide +kernel
theorem dX6_uncut_24 : decode cX6_uncut 24 = .ok (.goto 4, 3) := by decide +kernel
theorem dX6_uncut_27 : decode cX6_uncut 27 = .ok (.iconst 1, 1) := by decide +kernel
theorem dX6_uncut_28 : decode cX6_uncut 28 = .ok (.iadd, 1) := by decide +kernel
theorem dX6_uncut_29 : decode cX6_uncut 29 = .ok (.istore_n 2, 1) := by decide +kernel
theorem dX6_uncut_30 : decode cX6_uncut 30 = .ok (.iinc 3 1, 3) := by decide +kernel
theorem dX6_uncut_33 : decode cX6_uncut 33 = .ok (.goto (-29), 3) := by decide +kernel
theorem dX6_uncut_36 : decode cX6_uncut 36 = .ok (.iload_n 2, 1) := by decide +kernel
theorem dX6_uncut_37 : decode cX6_uncut 37 = .ok (.ireturn, 1) := by decide +kernel
set_option maxRecDepth 20000 in
theorem ggX6_leastTicks_X6_sum : GoodIn wsX6_leastTicks wsX6_sum := goodIn_r _ [6, 7, 8, 9, 10, 11, 12, 5, 13, 14, 15, 16, 17, 18, 19, 20, 26, 27, 28, 29, 30, 31, 32, 33, 34, 35, 36, 37, 38, 39, 40, 41, 42, 43, 44, 45, 46, 47, 48, 49, 50, 51, 52, 53, 54, 55, 56, 57, 58, 59, 60, 61] (by decide +kernel) (by decide +kernel)
set_option maxRecDepth 20000 in
theorem gX6_leastTicks_X6_sum : GoodIn wsX6_leastTicks (wsV RX6 221 RX6 yX6_sum wsX6_sum) := goodIn_app (goodIn_of _ (by decide +kernel)) ggX6_leastTicks_X6_sum
set_option maxRecDepth 20000 in
theorem ggX6_leastTicks_X6_uncut : GoodIn wsX6_leastTicks wsX6_uncut := goodIn_r _ [24, 25, 26, 27, 28, 29, 30, 31, 32, 33, 34, 35, 36, 37, 38, 39, 40, 41, 42, 43, 44, 45, 46, 47, 48, 49, 50, 51, 52, 53, 54, 55, 56, 57, 58, 59, 60, 61] (by decide +kernel) (by decide +kernel)
set_option maxRecDepth 20000 in
theorem gX6_leastTicks_X6_uncut : GoodIn wsX6_leastTicks (wsV RX6 224 RX6 yX6_uncut wsX6_uncut) := goodIn_app (goodIn_of _ (by decide +kernel)) ggX6_leastTicks_X6_uncut
theorem dX6_leastTicks_0 : decode cX6_leastTicks 0 = .ok (.aload_n 0, 1) := by decide +kernel
theorem dX6_leastTicks_1 : decode cX6_leastTicks 1 = .ok (.iconst 0, 1) := by decide +kernel
theorem dX6_leastTicks_2 : decode cX6_leastTicks 2 = .ok (.putfield 111, 3) := by decide +kernel
theorem dX6_leastTicks_5 : decode cX6_leastTicks 5 = .ok (.iconst 0, 1) := by decide +kernel
theorem dX6_leastTicks_6 : decode cX6_leastTicks 6 = .ok (.istore_n 1, 1) := by decide +kernel
theorem dX6_leastTicks_7 : decode cX6_leastTicks 7 = .ok (.iconst 0, 1) := by decide +kernel
theorem dX6_leastTicks_8 : decode cX6_leastTicks 8 = .ok (.istore_n 2, 1) := by decide +kernel
theorem dX6_leastTicks_9 : decode cX6_leastTicks 9 = .ok (.iconst 0, 1) := by decide +kernel
theorem dX6_leastTicks_10 : decode cX6_leastTicks 10 = .ok (.istore_n 3, 1) := by decide +kernel
theorem dX6_leastTicks_11 : decode cX6_leastTicks 11 = .ok (.iload_n 3, 1) := by decide +kernel
theorem dX6_leastTicks_12 : decode cX6_leastTicks 12 = .ok (.bipush 32, 2) := by decide +kernel
theorem dX6_leastTicks_14 : decode cX6_leastTicks 14 = .ok (.if_icmp .ge 34, 3) := by decide +kernel
theorem dX6_leastTicks_17 : decode cX6_leastTicks 17 = .ok (.aload_n 0, 1) := by decide +kernel
theorem dX6_leastTicks_18 : decode cX6_leastTicks 18 = .ok (.iload_n 3, 1) := by decide +kernel
theorem dX6_leastTicks_19 : decode cX6_leastTicks 19 = .ok (.iconst 2, 1) := by decide +kernel
theorem dX6_leastTicks_20 : decode cX6_leastTicks 20 = .ok (.irem, 1) := by decide +kernel
theorem dX6_leastTicks_21 : decode cX6_leastTicks 21 = .ok (.iload_n 3, 1) := by decide +kernel
theorem dX6_leastTicks_22 : decode cX6_leastTicks 22 = .ok (.iconst 2, 1) := by decide +kernel
theorem dX6_leastTicks_23 : decode cX6_leastTicks 23 = .ok (.idiv, 1) := by decide +kernel
theorem dX6_leastTicks_24 : decode cX6_leastTicks 24 = .ok (.invokevirtual 221, 3) := by decide +kernel
theorem dX6_leastTicks_27 : decode cX6_leastTicks 27 = .ok (.istore 4, 2) := by decide +kernel
theorem dX6_leastTicks_29 : decode cX6_leastTicks 29 = .ok (.iload 4, 2) := by decide +kernel
theorem dX6_leastTicks_31 : decode cX6_leastTicks 31 = .ok (.iload_n 1, 1) := by decide +kernel
theorem dX6_leastTicks_32 : decode cX6_leastTicks 32 = .ok (.if_icmp .le 8, 3) := by decide +kernel
theorem dX6_leastTicks_35 : decode cX6_leastTicks 35 = .ok (.iload 4, 2) := by decide +kernel
theorem dX6_leastTicks_37 : decode cX6_leastTicks 37 = .ok (.goto 4, 3) := by decide +kernel
theorem dX6_leastTicks_40 : decode cX6_leastTicks 40 = .ok (.iload_n 1, 1) := by decide +kernel
theorem dX6_leastTicks_41 : decode cX6_leastTicks 41 = .ok (.istore_n 1, 1) := by decide +kernel
theorem dX6_leastTicks_42 : decode cX6_leastTicks 42 = .ok (.iinc 3 1, 3) := by decide +kernel
theorem dX6_leastTicks_45 : decode cX6_leastTicks 45 = .ok (.goto (-34), 3) := by decide +kernel
theorem dX6_leastTicks_48 : decode cX6_leastTicks 48 = .ok (.iconst 0, 1) := by decide +kernel
theorem dX6_leastTicks_49 : decode cX6_leastTicks 49 = .ok (.istore_n 3, 1) := by decide +kernel
theorem dX6_leastTicks_50 : decode cX6_leastTicks 50 = .ok (.iload_n 3, 1) := by decide +kernel
theorem dX6_leastTicks_51 : decode cX6_leastTicks 51 = .ok (.bipush 8, 2) := by decide +kernel
theorem dX6_leastTicks_53 : decode cX6_leastTicks 53 = .ok (.if_icmp .ge 86, 3) := by decide +kernel
theorem dX6_leastTicks_56 : decode cX6_leastTicks 56 = .ok (.aload_n 0, 1) := by decide +kernel
theorem dX6_leastTicks_57 : decode cX6_leastTicks 57 = .ok (.iconst 2, 1) := by decide +kernel
theorem dX6_leastTicks_58 : decode cX6_leastTicks 58 = .ok (.iload_n 3, 1) := by decide +kernel
theorem dX6_leastTicks_59 : decode cX6_leastTicks 59 = .ok (.iconst 2, 1) := by decide +kernel
theorem dX6_leastTicks_60 : decode cX6_leastTicks 60 = .ok (.irem, 1) := by decide +kernel
theorem dX6_leastTicks_61 : decode cX6_leastTicks 61 = .ok (.iadd, 1) := by decide +kernel
theorem dX6_leastTicks_62 : decode cX6_leastTicks 62 = .ok (.iload_n 3, 1) := by decide +kernel
theorem dX6_leastTicks_63 : decode cX6_leastTicks 63 = .ok (.iconst 2, 1) := by decide +kernel
theorem dX6_leastTicks_64 : decode cX6_leastTicks 64 = .ok (.idiv, 1) := by decide +kernel
theorem dX6_leastTicks_65 : decode cX6_leastTicks 65 = .ok (.invokevirtual 221, 3) := by decide +kernel
theorem dX6_leastTicks_68 : decode cX6_leastTicks 68 = .ok (.istore 4, 2) := by decide +kernel
theorem dX6_leastTicks_70 : decode cX6_leastTicks 70 = .ok (.aload_n 0, 1) := by decide +kernel
theorem dX6_leastTicks_71 : decode cX6_leastTicks 71 = .ok (.iload_n 3, 1) := by decide +kernel
theorem dX6_leastTicks_72 : decode cX6_leastTicks 72 = .ok (.iconst 2, 1) := by decide +kernel
theorem dX6_leastTicks_73 : decode cX6_leastTicks 73 = .ok (.idiv, 1) := by decide +kernel
theorem dX6_leastTicks_74 : decode cX6_leastTicks 74 = .ok (.invokevirtual 224, 3) := by decide +kernel
theorem dX6_leastTicks_77 : decode cX6_leastTicks 77 = .ok (.istore 5, 2) := by decide +kernel
theorem dX6_leastTicks_79 : decode cX6_leastTicks 79 = .ok (.iload_n 2, 1) := by decide +kernel
theorem dX6_leastTicks_80 : decode cX6_leastTicks 80 = .ok (.ifCond .ne 13, 3) := by decide +kernel
theorem dX6_leastTicks_83 : decode cX6_leastTicks 83 = .ok (.iload 5, 2) := by decide +kernel
theorem dX6_leastTicks_85 : decode cX6_leastTicks 85 = .ok (.ifCond .ne 12, 3) := by decide +kernel
theorem dX6_leastTicks_88 : decode cX6_leastTicks 88 = .ok (.iload 4, 2) := by decide +kernel
theorem dX6_leastTicks_90 : decode cX6_leastTicks 90 = .ok (.ifCond .le 7, 3) := by decide +kernel
theorem dX6_leastTicks_93 : decode cX6_leastTicks 93 = .ok (.iconst 1, 1) := by decide +kernel
theorem dX6_leastTicks_94 : decode cX6_leastTicks 94 = .ok (.goto 4, 3) := by decide +kernel
theorem dX6_leastTicks_97 : decode cX6_leastTicks 97 = .ok (.iconst 0, 1) := by decide +kernel
theorem dX6_leastTicks_98 : decode cX6_leastTicks 98 = .ok (.istore_n 2, 1) := by decide +kernel
theorem dX6_leastTicks_99 : decode cX6_leastTicks 99 = .ok (.iload 5, 2) := by decide +kernel
theorem dX6_leastTicks_101 : decode cX6_leastTicks 101 = .ok (.ifCond .ne 7, 3) := by decide +kernel
theorem dX6_leastTicks_104 : decode cX6_leastTicks 104 = .ok (.iconst 0, 1) := by decide +kernel
theorem dX6_leastTicks_105 : decode cX6_leastTicks 105 = .ok (.goto 13, 3) := by decide +kernel
theorem dX6_leastTicks_108 : decode cX6_leastTicks 108 = .ok (.iload 4, 2) := by decide +kernel
theorem dX6_leastTicks_110 : decode cX6_leastTicks 110 = .ok (.iload 5, 2) := by decide +kernel
theorem dX6_leastTicks_112 : decode cX6_leastTicks 112 = .ok (.iadd, 1) := by decide +kernel
theorem dX6_leastTicks_113 : decode cX6_leastTicks 113 = .ok (.iconst 1, 1) := by decide +kernel
theorem dX6_leastTicks_114 : decode cX6_leastTicks 114 = .ok (.isub, 1) := by decide +kernel
theorem dX6_leastTicks_115 : decode cX6_leastTicks 115 = .ok (.iload 5, 2) := by decide +kernel
theorem dX6_leastTicks_117 : decode cX6_leastTicks 117 = .ok (.idiv, 1) := by decide +kernel
theorem dX6_leastTicks_118 : decode cX6_leastTicks 118 = .ok (.istore 6, 2) := by decide +kernel
theorem dX6_leastTicks_120 : decode cX6_leastTicks 120 = .ok (.iload 6, 2) := by decide +kernel
theorem dX6_leastTicks_122 : decode cX6_leastTicks 122 = .ok (.iload_n 1, 1) := by decide +kernel
theorem dX6_leastTicks_123 : decode cX6_leastTicks 123 = .ok (.if_icmp .le 8, 3) := by decide +kernel
theorem dX6_leastTicks_126 : decode cX6_leastTicks 126 = .ok (.iload 6, 2) := by decide +kernel
theorem dX6_leastTicks_128 : decode cX6_leastTicks 128 = .ok (.goto 4, 3) := by decide +kernel
theorem dX6_leastTicks_131 : decode cX6_leastTicks 131 = .ok (.iload_n 1, 1) := by decide +kernel
theorem dX6_leastTicks_132 : decode cX6_leastTicks 132 = .ok (.istore_n 1, 1) := by decide +kernel
theorem dX6_leastTicks_133 : decode cX6_leastTicks 133 = .ok (.iinc 3 1, 3) := by decide +kernel
theorem dX6_leastTicks_136 : decode cX6_leastTicks 136 = .ok (.goto (-86), 3) := by decide +kernel
theorem dX6_leastTicks_139 : decode cX6_leastTicks 139 = .ok (.iload_n 2, 1) := by decide +kernel
theorem dX6_leastTicks_140 : decode cX6_leastTicks 140 = .ok (.ifCond .eq 7, 3) := by decide +kernel
theorem dX6_leastTicks_143 : decode cX6_leastTicks 143 = .ok (.iconst (-1), 1) := by decide +kernel
theorem dX6_leastTicks_144 : decode cX6_leastTicks 144 = .ok (.goto 4, 3) := by decide +kernel
theorem dX6_leastTicks_147 : decode cX6_leastTicks 147 = .ok (.iload_n 1, 1) := by decide +kernel
theorem dX6_leastTicks_148 : decode cX6_leastTicks 148 = .ok (.ireturn, 1) := by decide +kernel
end
section
/-! abstract values and memories: an int by its number, a reference by the kind and the place of its cell; a layout says which cells there are -/
abbrev am_V : Type := Int ⊕ (Nat × Nat)
abbrev am_M : Type := Nat → Nat → Nat → Int
abbrev am_Sh : Type := (Nat × List (Option (Nat × Nat))) ⊕ ((Nat × Nat) ⊕ (Nat × Nat × (Nat → Nat × Nat)))
abbrev am_L : Type := (Nat → Nat) × (Nat → Nat → am_Sh)
abbrev am_G : Type := va_G × (Nat → ClassId) × (Nat → Nat → Nat) × am_L
def am_tv (G : am_G) : am_V → Value
  | .inl x => .int (Int32.ofInt x)
  | .inr q => .ref (G.2.2.1 q.1 q.2)
def am_sv (g : Nat → Int) : Nat → List (Option (Nat × Nat)) → List am_V
  | _, [] => []
  | j, none :: r => .inl (g j) :: am_sv g (j + 1) r
  | j, some q :: r => .inr q :: am_sv g (j + 1) r
def am_sl (g : Nat → Int) (j : Nat) : Option (Nat × Nat) → am_V
  | none => .inl (g j)
  | some q => .inr q
theorem am_sv_get (g : Nat → Int) : ∀ (sl : List (Option (Nat × Nat))) (j k : Nat), (am_sv g j sl)[k]? = sl[k]?.map (am_sl g (j + k))
  | [], j, k => by simp [am_sv]
  | none :: r, j, 0 => by simp [am_sv, am_sl]
  | some q :: r, j, 0 => by simp [am_sv, am_sl]
  | none :: r, j, k + 1 => by simp only [am_sv, List.getElem?_cons_succ]; rw [am_sv_get g r (j + 1) k, show j + 1 + k = j + (k + 1) by omega]
  | some q :: r, j, k + 1 => by simp only [am_sv, List.getElem?_cons_succ]; rw [am_sv_get g r (j + 1) k, show j + 1 + k = j + (k + 1) by omega]
theorem am_sv_len (g : Nat → Int) : ∀ (sl : List (Option (Nat × Nat))) (j : Nat), (am_sv g j sl).length = sl.length
  | [], j => rfl
  | none :: r, j => by simp [am_sv, am_sv_len g r]
  | some q :: r, j => by simp [am_sv, am_sv_len g r]
def am_u1 (g : Nat → Int) (k : Nat) (x : Int) : Nat → Int := fun j => if j = k then x else g j
def am_up (σ : am_M) (k i j : Nat) (x : Int) : am_M := fun k' i' j' => if k' = k ∧ i' = i ∧ j' = j then x else σ k' i' j'
theorem am_up_same (σ : am_M) (k i j : Nat) (x : Int) : am_up σ k i j x k i = am_u1 (σ k i) j x := by
  funext j'; simp [am_up, am_u1]
theorem am_up_ne (σ : am_M) {k i j k' i' : Nat} (x : Int) (h : ¬ (k' = k ∧ i' = i)) : am_up σ k i j x k' i' = σ k' i' := by
  funext j'; simp only [am_up]; rw [if_neg]; intro q; exact h ⟨q.1, q.2.1⟩
theorem am_sv_set (g : Nat → Int) (x : Int) (sl : List (Option (Nat × Nat))) (k : Nat) (h : sl[k]? = some none) : (am_sv g 0 sl).set k (.inl x) = am_sv (am_u1 g k x) 0 sl := by
  apply List.ext_getElem?
  intro n
  have hk : k < sl.length := (List.getElem?_eq_some_iff.mp h).1
  rw [am_sv_get]
  by_cases hn : n = k
  · subst hn
    rw [List.getElem?_set_self (by rw [am_sv_len]; exact hk), h]
    simp [am_sl, am_u1]
  · rw [List.getElem?_set_ne (Ne.symm hn), am_sv_get]
    cases hs : sl[n]? with
    | none => rfl
    | some o => cases o <;> simp [am_sl, am_u1, hn]
def am_cell (G : am_G) (sh : am_Sh) (g : Nat → Int) : va_E := match sh with
  | .inl q => .inr (q.1, (am_sv g 0 q.2).map (am_tv G))
  | .inr (.inl q) => .inl (G.2.1 q.1, q.2, .inl (fun j => Int32.ofInt (g j)))
  | .inr (.inr q) => .inl (G.2.1 q.1, q.2.1, .inr (.inr (.inr (.inr (fun j => some (G.2.2.1 (q.2.2 j).1 (q.2.2 j).2))))))
def am_wd (G : am_G) (σ : am_M) (H : Heap) : Prop := ∀ k i, i < G.2.2.2.1 k → va_at G.1 vwCl (G.2.2.1 k i, am_cell G (G.2.2.2.2 k i) (σ k i)) H
def am_FA (G : am_G) : Nat → Prop := fun q => ∃ k i, i < G.2.2.2.1 k ∧ G.2.2.1 k i = q
def am_inj (G : am_G) : Prop := ∀ k i k' i', i < G.2.2.2.1 k → i' < G.2.2.2.1 k' → G.2.2.1 k i = G.2.2.1 k' i' → k = k' ∧ i = i'
abbrev am_tyl (tc : Nat → ClassId) : List (ClassId × FieldType) := [(tc 0, .int), (tc 1, .boolean), (tc 2, .object RX0), (tc 3, .object RX1), (tc 4, .object RX2), (tc 5, .object RX3), (tc 6, .object RX4)]
def am_nest : List Cond := [.fieldLinkNest RX5 138 "Fabricsim$Link" "waiting" "I" "Fabricsim",
  .fieldLinkNest RX5 161 "Fabricsim$Flow" "sentPackets" "I" "Fabricsim",
  .fieldLinkNest RX5 164 "Fabricsim$Flow" "deliveredPackets" "I" "Fabricsim",
  .fieldLinkNest RX5 167 "Fabricsim$Flow" "lostPackets" "I" "Fabricsim",
  .fieldLinkNest RX5 170 "Fabricsim$Flow" "latePackets" "I" "Fabricsim",
  .fieldLinkNest RX5 173 "Fabricsim$Flow" "doneTick" "I" "Fabricsim",
  .fieldLinkNest RX5 176 "Fabricsim$Flow" "flowletCount" "I" "Fabricsim",
  .fieldLinkNest RX5 179 "Fabricsim$Flow" "spine" "I" "Fabricsim",
  .fieldLinkNest RX5 182 "Fabricsim$Link" "credits" "I" "Fabricsim",
  .fieldLinkNest RX5 188 "Fabricsim$Host" "openPackets" "I" "Fabricsim",
  .fieldLinkNest RX5 214 "Fabricsim$Flow" "source" "I" "Fabricsim",
  .fieldLinkNest RX5 220 "Fabricsim$Flow" "target" "I" "Fabricsim",
  .fieldLinkNest RX5 264 "Fabricsim$Packet" "flow" "I" "Fabricsim",
  .fieldLinkNest RX5 269 "Fabricsim$Packet" "number" "I" "Fabricsim",
  .fieldLinkNest RX5 278 "Fabricsim$Node" "wanted" "[I" "Fabricsim",
  .fieldLinkNest RX5 285 "Fabricsim$Packet" "spine" "I" "Fabricsim",
  .fieldLinkNest RX5 289 "Fabricsim$Packet" "flowlet" "I" "Fabricsim",
  .fieldLinkNest RX5 304 "Fabricsim$Host" "lastFlow" "I" "Fabricsim",
  .fieldLinkNest RX5 318 "Fabricsim$Flow" "start" "I" "Fabricsim",
  .fieldLinkNest RX5 327 "Fabricsim$Flow" "lastSentTick" "I" "Fabricsim",
  .fieldLinkNest RX5 48 "Fabricsim$Host" "up" "LFabricsim$Link;" "Fabricsim",
  .fieldLinkNest RX5 52 "Fabricsim$Host" "down" "LFabricsim$Link;" "Fabricsim",
  .fieldLinkNest RX5 70 "Fabricsim$Node" "in" "[LFabricsim$Link;" "Fabricsim",
  .fieldLinkNest RX5 73 "Fabricsim$Node" "out" "[LFabricsim$Link;" "Fabricsim",
  .fieldLinkNest RX3 28 "Fabricsim$Link" "pickedPlace" "I" "Fabricsim",
  .fieldLinkNest RX3 36 "Fabricsim$Packet" "flow" "I" "Fabricsim",
  .fieldLinkNest RX3 41 "Fabricsim$Packet" "number" "I" "Fabricsim",
  .fieldLinkNest RX3 44 "Fabricsim$Packet" "flowlet" "I" "Fabricsim",
  .fieldLinkNest RX3 47 "Fabricsim$Packet" "spine" "I" "Fabricsim",
  .methodLinkNest RX5 102 yX1_clear "Fabricsim",
  .methodLinkNest RX5 126 yX0_begin "Fabricsim",
  .methodLinkNest RX5 185 yX2_onTheWayBack "Fabricsim",
  .methodLinkNest RX5 217 yX0_unsent "Fabricsim",
  .methodLinkNest RX5 223 yX0_crossesLeaves "Fabricsim",
  .methodLinkNest RX5 227 yX0_sourceLeaf "Fabricsim",
  .methodLinkNest RX5 230 yX0_targetLeaf "Fabricsim",
  .methodLinkNest RX5 257 yX2_takeBack "Fabricsim",
  .methodLinkNest RX5 260 yX2_firstPacket "Fabricsim",
  .methodLinkNest RX5 272 yX0_countDelivered "Fabricsim",
  .methodLinkNest RX5 275 yX2_drop "Fabricsim",
  .methodLinkNest RX5 298 yX3_pick "Fabricsim",
  .methodLinkNest RX5 301 yX3_move "Fabricsim",
  .methodLinkNest RX5 324 yX2_put "Fabricsim",
  .methodLinkNest RX5 46 yX0_init "Fabricsim",
  .methodLinkNest RX5 47 yX1_init "Fabricsim",
  .methodLinkNest RX5 55 yX2_init "Fabricsim",
  .methodLinkNest RX5 56 yX3_init "Fabricsim",
  .methodLinkNest RX5 99 yX2_clear "Fabricsim",
  .methodLinkNest RX1 11 yX2_init "Fabricsim",
  .methodLinkNest RX2 21 yX4_init "Fabricsim",
  .methodLinkNest RX2 38 yX4_write "Fabricsim",
  .methodLinkNest RX3 24 yX2_pick "Fabricsim",
  .methodLinkNest RX3 32 yX2_firstPacket "Fabricsim",
  .methodLinkNest RX3 50 yX2_put "Fabricsim",
  .methodLinkNest RX3 54 yX2_drop "Fabricsim"]
def am_isN : Cond → Bool
  | .fieldLinkNest _ _ _ _ _ _ => true
  | .methodLinkNest _ _ _ _ => true
  | _ => false
theorem am_nest_all : ∀ w ∈ am_nest, am_isN w = true := by decide +kernel
theorem am_nw_warm {w : Cond} (h : am_isN w = true) {s U : State} (hW : s.WarmedH U.vm) (hZ : va_Nw w s) : va_Nw w U := by
  cases w <;> first | exact va_Nw.warmF hW hZ | exact va_Nw.warmM hW hZ | exact absurd h (by simp [am_isN])
theorem am_nw_same {w : Cond} (h : am_isN w = true) {u U : State} (e : u.vm = U.vm) (hZ : va_Nw w u) : va_Nw w U := by
  cases w <;> first | exact va_Nw.same rfl e hZ | exact absurd h (by simp [am_isN])
def am_K (G : am_G) (U : State) : Prop := va_K G.1 vwCl (am_tyl G.2.1) U ∧ ∀ w ∈ am_nest, va_Nw w U
theorem am_K.warm {G : am_G} {s U : State} (hW : s.WarmedH U.vm) (h : am_K G s) : am_K G U :=
  ⟨va_K.moved hW.alike h.1, fun w hw => am_nw_warm (am_nest_all w hw) hW (h.2 w hw)⟩
theorem am_K.same {G : am_G} {u U : State} (e : u.vm = U.vm) (h : am_K G u) : am_K G U :=
  ⟨va_K.moved (by rw [← e]; exact Vm.Alike.refl _) h.1, fun w hw => am_nw_same (am_nest_all w hw) e (h.2 w hw)⟩
/-- a write to one slot of one cell -/
theorem am_wd.put {G : am_G} (hI : am_inj G) {σ : am_M} {H H1 : Heap} (h : am_wd G σ H) {k i j : Nat} {x : Int} (hi : i < G.2.2.2.1 k)
    (he : va_at G.1 vwCl (G.2.2.1 k i, am_cell G (G.2.2.2.2 k i) (am_u1 (σ k i) j x)) H1) (oq : ∀ q : Nat, q ≠ G.2.2.1 k i → H1[q]? = H[q]?) : am_wd G (am_up σ k i j x) H1 := by
  intro k' i' hi'
  by_cases hq : k' = k ∧ i' = i
  · obtain ⟨rfl, rfl⟩ := hq
    rw [am_up_same]
    exact he
  · rw [am_up_ne _ _ hq]
    exact (h k' i' hi').kept (oq _ (fun e => hq (hI _ _ _ _ hi' hi e)))
theorem am_wd.kept {G : am_G} {σ : am_M} {H H1 : Heap} (h : am_wd G σ H) (oq : ∀ q : Nat, am_FA G q → H1[q]? = H[q]?) : am_wd G σ H1 :=
  fun k i hi => (h k i hi).kept (oq _ ⟨k, i, hi, rfl⟩)
theorem am_wd.lt {G : am_G} {σ : am_M} {H : Heap} (h : am_wd G σ H) {q : Nat} (hq : am_FA G q) : q < H.size := by
  obtain ⟨k, i, hi, rfl⟩ := hq
  exact (h k i hi).lt
/-! numbers -/
theorem am_ti {x : Int} (h : -2147483648 ≤ x ∧ x < 2147483648) : (Int32.ofInt x).toInt = x := by
  rw [Int32.toInt_ofInt]
  have h2 : ((Int32.size : Nat) : Int) = 4294967296 := rfl
  exact Int.bmod_eq_of_le (by omega) (by omega)
theorem am_lt {x y : Int} (hx : -2147483648 ≤ x ∧ x < 2147483648) (hy : -2147483648 ≤ y ∧ y < 2147483648) : Int32.ofInt x < Int32.ofInt y ↔ x < y := by
  rw [Int32.lt_iff_toInt_lt, am_ti hx, am_ti hy]
theorem am_le {x y : Int} (hx : -2147483648 ≤ x ∧ x < 2147483648) (hy : -2147483648 ≤ y ∧ y < 2147483648) : Int32.ofInt x ≤ Int32.ofInt y ↔ x ≤ y := by
  rw [Int32.le_iff_toInt_le, am_ti hx, am_ti hy]
theorem am_eq {x y : Int} (hx : -2147483648 ≤ x ∧ x < 2147483648) (hy : -2147483648 ≤ y ∧ y < 2147483648) : Int32.ofInt x = Int32.ofInt y ↔ x = y := by
  rw [← Int32.toInt_inj, am_ti hx, am_ti hy]
theorem am_0 : (0 : Int32) = Int32.ofInt 0 := rfl
theorem am_cl {x : Int} (h0 : 0 ≤ x) (h : x < 2147483648) : (Int32.ofInt x).toNatClampNeg = x.toNat := by
  show (Int32.ofInt x).toInt.toNat = _
  rw [am_ti ⟨by omega, h⟩]
theorem am_in {x : Int} {n : Nat} (h0 : 0 ≤ x) (h : x < n) (hn : n < 2147483648) : vp_in (Int32.ofInt x) n := by
  rw [vp_in_iff, am_ti ⟨by omega, by omega⟩]
  exact ⟨h0, h⟩
theorem am_div {x y : Int} (h0 : 0 ≤ x) (hx : x < 2147483648) (h1 : 0 < y) (hy : y < 2147483648) : Int32.ofInt x / Int32.ofInt y = Int32.ofInt (x / y) := by
  rw [← Int32.toInt_inj, Int32.toInt_div, am_ti ⟨by omega, hx⟩, am_ti ⟨by omega, hy⟩, Int32.toInt_ofInt, Int.tdiv_eq_ediv_of_nonneg h0]
theorem am_rem {x y : Int} (h0 : 0 ≤ x) (hx : x < 2147483648) (h1 : 0 < y) (hy : y < 2147483648) : Int32.ofInt x - Int32.ofInt x / Int32.ofInt y * Int32.ofInt y = Int32.ofInt (x % y) := by
  rw [am_div h0 hx h1 hy, ← Int32.ofInt_mul, ← Int32.ofInt_sub]
  congr 1
  rw [Int.emod_def, Int.mul_comm]
theorem am_ne0 {y : Int} (h1 : 0 < y) (hy : y < 2147483648) : ¬ Int32.ofInt y = 0 := by
  rw [am_0, am_eq ⟨by omega, by omega⟩ ⟨by omega, by omega⟩]
  omega
/-! locals -/
def am_ll (G : am_G) : Nat → List (Option am_V) → List (Nat × Value)
  | _, [] => []
  | i, none :: r => am_ll G (i + 1) r
  | i, some v :: r => (i, am_tv G v) :: am_ll G (i + 1) r
theorem am_ll_mem (G : am_G) : ∀ (lv : List (Option am_V)) (i j : Nat) (w : Value), (j, w) ∈ am_ll G i lv ↔ ∃ v, i ≤ j ∧ lv[j - i]? = some (some v) ∧ w = am_tv G v
  | [], i, j, w => by simp [am_ll]
  | none :: r, i, j, w => by
    rw [am_ll, am_ll_mem G r (i + 1) j w]
    constructor
    · rintro ⟨v, h1, h2, h3⟩
      refine ⟨v, by omega, ?_, h3⟩
      rw [show j - i = (j - (i + 1)) + 1 by omega, List.getElem?_cons_succ]
      exact h2
    · rintro ⟨v, h1, h2, h3⟩
      by_cases h : j = i
      · subst h
        simp at h2
      · refine ⟨v, by omega, ?_, h3⟩
        rw [show j - i = (j - (i + 1)) + 1 by omega, List.getElem?_cons_succ] at h2
        exact h2
  | some u :: r, i, j, w => by
    rw [am_ll, List.mem_cons, am_ll_mem G r (i + 1) j w]
    constructor
    · rintro (h | ⟨v, h1, h2, h3⟩)
      · cases h
        exact ⟨u, Nat.le_refl _, by simp, rfl⟩
      · refine ⟨v, by omega, ?_, h3⟩
        rw [show j - i = (j - (i + 1)) + 1 by omega, List.getElem?_cons_succ]
        exact h2
    · rintro ⟨v, h1, h2, h3⟩
      by_cases h : j = i
      · subst h
        simp at h2
        subst h2
        exact Or.inl (by rw [h3])
      · refine Or.inr ⟨v, by omega, ?_, h3⟩
        rw [show j - i = (j - (i + 1)) + 1 by omega, List.getElem?_cons_succ] at h2
        exact h2
theorem am_cat (G : am_G) (v : am_V) : (am_tv G v).category = 1 := by cases v <;> rfl
theorem am_lget {G : am_G} {ls : Array Slot} {nL : Nat} {lv : List (Option am_V)} (h : lv_has ls nL (am_ll G 0 lv)) {i : Nat} {v : am_V} (hv : lv[i]? = some (some v)) : ls[i]? = some (.val (am_tv G v)) :=
  h.2.2 (i, am_tv G v) ((am_ll_mem G lv 0 i _).mpr ⟨v, Nat.zero_le _, hv, rfl⟩)
theorem am_lset {G : am_G} {ls : Array Slot} {nL : Nat} {lv : List (Option am_V)} {i : Nat} {v : am_V} (hi : i < lv.length)
    (h : lv_has ls nL ((i, am_tv G v) :: (am_ll G 0 lv).filter (fun q => !(q.1 == i) && !(q.1 + 1 == i && q.2.category == 2)))) : lv_has ls nL (am_ll G 0 (lv.set i (some v))) := by
  refine ⟨h.1, h.2.1, fun q hq => h.2.2 q ?_⟩
  obtain ⟨j, w⟩ := q
  obtain ⟨u, -, h2, h3⟩ := (am_ll_mem G _ 0 j w).mp hq
  rw [Nat.sub_zero] at h2
  by_cases hj : j = i
  · subst hj
    rw [List.getElem?_set_self hi] at h2
    cases h2
    rw [h3]
    exact List.mem_cons_self
  · rw [List.getElem?_set_ne (Ne.symm hj)] at h2
    refine List.mem_cons_of_mem _ (List.mem_filter.mpr ⟨(am_ll_mem G lv 0 j w).mpr ⟨u, Nat.zero_le _, h2, h3⟩, ?_⟩)
    rw [h3]
    simp [hj, am_cat]
theorem am_ll_nones (G : am_G) : ∀ (n i : Nat), am_ll G i (List.replicate n none) = []
  | 0, _ => rfl
  | n + 1, i => by rw [List.replicate_succ, am_ll, am_ll_nones G n]
theorem am_lv_args (G : am_G) (n : Nat) : ∀ (av : List am_V) (i : Nat), lv_args i (av.map (am_tv G)) = am_ll G i (av.map some ++ List.replicate n none)
  | [], i => by rw [List.map_nil, List.map_nil, List.nil_append, am_ll_nones]; rfl
  | v :: r, i => by
    rw [List.map_cons, List.map_cons, List.cons_append, am_ll, ← am_lv_args G n r (i + 1), lv_args]
    simp [am_cat]
/-! the walk in those words -/
def wk (G : am_G) (p : Program) (l : Launch) (e : Env) (R : Room) (s : State) (m : MethodId) (args : Array Value) (below : List Frame) (meth : Method) (c : Code) (cells slots : Nat) (Q : State → Prop) (A : Nat → Prop) (H0 : Heap) (nL pc : Nat) (lv : List (Option am_V)) (st : List am_V) (σ : am_M) : Prop :=
  ∀ (H : Heap) (locs : List Loc) (ls : Array Slot), am_wd G σ H → va_S A H0 H locs → lv_has ls nL (am_ll G 0 lv) → W p l e R s m args below meth c H locs cells slots Q (F0 m pc ls (st.map (am_tv G)))
/-- what a walk stands on -/
def wk_C (G : am_G) (p : Program) (s : State) (m : MethodId) (args : Array Value) (c : Code) (cc : ByteArray) (nL : Nat) (own : String) (Ts : List Cond) (A : Nat → Prop) : Prop :=
  p.tables.exec = Jvm.exec ∧ c.code = cc ∧ c.maxLocals = nL ∧ s.vm.findClass own = some m.cls ∧ (∀ w ∈ Ts, w.before args s = true) ∧ am_K G s ∧ am_inj G ∧ (∀ q, am_FA G q → A q)
section WK
variable {G : am_G} {p : Program} {l : Launch} {e : Env} {R : Room} {s : State} {m : MethodId} {args : Array Value} {below : List Frame} {meth : Method} {c : Code} {cells slots : Nat} {Q : State → Prop}
variable {A : Nat → Prop} {H0 : Heap} {nL pc : Nat} {lv : List (Option am_V)} {st : List am_V} {σ : am_M} {cc : ByteArray} {own : String} {Ts : List Cond}
theorem wk_iconst (C : wk_C G p s m args c cc nL own Ts A) {n : Int}   (hdg : decode cc pc = .ok (.iconst n, 1)) (k : wk G p l e R s m args below meth c cells slots Q A H0 nL (pc + 1) lv (.inl n :: st) σ) : wk G p l e R s m args below meth c cells slots Q A H0 nL pc lv (st) σ := by
  intro H locs ls hW hS hL
  exact lv_iconst C.1 C.2.1 hdg rfl (k H locs ls hW hS hL)
theorem wk_bipush (C : wk_C G p s m args c cc nL own Ts A) {n : Int}  (hv : (Int8.ofInt n).toInt32 = Int32.ofInt n) (hdg : decode cc pc = .ok (.bipush n, 2)) (k : wk G p l e R s m args below meth c cells slots Q A H0 nL (pc + 2) lv (.inl n :: st) σ) : wk G p l e R s m args below meth c cells slots Q A H0 nL pc lv (st) σ := by
  intro H locs ls hW hS hL
  exact lv_bipush C.1 C.2.1 hdg hv (k H locs ls hW hS hL)
theorem wk_sipush (C : wk_C G p s m args c cc nL own Ts A) {n : Int}  (hv : (Int16.ofInt n).toInt32 = Int32.ofInt n) (hdg : decode cc pc = .ok (.sipush n, 3)) (k : wk G p l e R s m args below meth c cells slots Q A H0 nL (pc + 3) lv (.inl n :: st) σ) : wk G p l e R s m args below meth c cells slots Q A H0 nL pc lv (st) σ := by
  intro H locs ls hW hS hL
  exact lv_sipush C.1 C.2.1 hdg hv (k H locs ls hW hS hL)
theorem wk_iload_n (C : wk_C G p s m args c cc nL own Ts A) {j : Fin 4} {x : Int}  (hl : lv[(j : Nat)]? = some (some (.inl x))) (hdg : decode cc pc = .ok (.iload_n j, 1)) (k : wk G p l e R s m args below meth c cells slots Q A H0 nL (pc + 1) lv (.inl x :: st) σ) : wk G p l e R s m args below meth c cells slots Q A H0 nL pc lv (st) σ := by
  intro H locs ls hW hS hL
  exact lv_iload_n C.1 C.2.1 hdg rfl (am_lget hL hl) (k H locs ls hW hS hL)
theorem wk_iload (C : wk_C G p s m args c cc nL own Ts A) {j : Nat} {x : Int}  (hl : lv[j]? = some (some (.inl x))) (hdg : decode cc pc = .ok (.iload j, 2)) (k : wk G p l e R s m args below meth c cells slots Q A H0 nL (pc + 2) lv (.inl x :: st) σ) : wk G p l e R s m args below meth c cells slots Q A H0 nL pc lv (st) σ := by
  intro H locs ls hW hS hL
  exact lv_iload C.1 C.2.1 hdg (am_lget hL hl) (k H locs ls hW hS hL)
theorem wk_aload_n (C : wk_C G p s m args c cc nL own Ts A) {j : Fin 4} {x : Nat × Nat}  (hl : lv[(j : Nat)]? = some (some (.inr x))) (hdg : decode cc pc = .ok (.aload_n j, 1)) (k : wk G p l e R s m args below meth c cells slots Q A H0 nL (pc + 1) lv (.inr x :: st) σ) : wk G p l e R s m args below meth c cells slots Q A H0 nL pc lv (st) σ := by
  intro H locs ls hW hS hL
  exact lv_aload_n C.1 C.2.1 hdg rfl (am_lget hL hl) (k H locs ls hW hS hL)
theorem wk_aload (C : wk_C G p s m args c cc nL own Ts A) {j : Nat} {x : Nat × Nat}  (hl : lv[j]? = some (some (.inr x))) (hdg : decode cc pc = .ok (.aload j, 2)) (k : wk G p l e R s m args below meth c cells slots Q A H0 nL (pc + 2) lv (.inr x :: st) σ) : wk G p l e R s m args below meth c cells slots Q A H0 nL pc lv (st) σ := by
  intro H locs ls hW hS hL
  exact lv_aload C.1 C.2.1 hdg (am_lget hL hl) (k H locs ls hW hS hL)
theorem wk_istore_n (C : wk_C G p s m args c cc nL own Ts A) {j : Fin 4} {x : Int} (hn : (j : Nat) < nL) (hi : (j : Nat) < lv.length) (hdg : decode cc pc = .ok (.istore_n j, 1)) (k : wk G p l e R s m args below meth c cells slots Q A H0 nL (pc + 1) (lv.set (j : Nat) (some (.inl x))) st σ) : wk G p l e R s m args below meth c cells slots Q A H0 nL pc lv (.inl x :: st) σ := by
  intro H locs ls hW hS hL
  exact lv_istore_n C.1 C.2.1 hdg rfl hL hn rfl (fun ls2 h2 => k H locs ls2 hW hS (am_lset hi h2))
theorem wk_istore (C : wk_C G p s m args c cc nL own Ts A) {j : Nat} {x : Int} (hn : j < nL) (hi : j < lv.length) (hdg : decode cc pc = .ok (.istore j, 2)) (k : wk G p l e R s m args below meth c cells slots Q A H0 nL (pc + 2) (lv.set j (some (.inl x))) st σ) : wk G p l e R s m args below meth c cells slots Q A H0 nL pc lv (.inl x :: st) σ := by
  intro H locs ls hW hS hL
  exact lv_istore C.1 C.2.1 hdg hL hn rfl (fun ls2 h2 => k H locs ls2 hW hS (am_lset hi h2))
theorem wk_astore_n (C : wk_C G p s m args c cc nL own Ts A) {j : Fin 4} {x : Nat × Nat} (hn : (j : Nat) < nL) (hi : (j : Nat) < lv.length) (hdg : decode cc pc = .ok (.astore_n j, 1)) (k : wk G p l e R s m args below meth c cells slots Q A H0 nL (pc + 1) (lv.set (j : Nat) (some (.inr x))) st σ) : wk G p l e R s m args below meth c cells slots Q A H0 nL pc lv (.inr x :: st) σ := by
  intro H locs ls hW hS hL
  exact lv_astore_n C.1 C.2.1 hdg rfl hL hn rfl (fun ls2 h2 => k H locs ls2 hW hS (am_lset hi h2))
theorem wk_astore (C : wk_C G p s m args c cc nL own Ts A) {j : Nat} {x : Nat × Nat} (hn : j < nL) (hi : j < lv.length) (hdg : decode cc pc = .ok (.astore j, 2)) (k : wk G p l e R s m args below meth c cells slots Q A H0 nL (pc + 2) (lv.set j (some (.inr x))) st σ) : wk G p l e R s m args below meth c cells slots Q A H0 nL pc lv (.inr x :: st) σ := by
  intro H locs ls hW hS hL
  exact lv_astore C.1 C.2.1 hdg hL hn rfl (fun ls2 h2 => k H locs ls2 hW hS (am_lset hi h2))
theorem wk_iinc (C : wk_C G p s m args c cc nL own Ts A) {j : Nat} {n x : Int} (hl : lv[j]? = some (some (.inl x))) (hn : j < nL) (hdg : decode cc pc = .ok (.iinc j n, 3)) (k : wk G p l e R s m args below meth c cells slots Q A H0 nL (pc + 3) (lv.set j (some (.inl (x + n)))) st σ) : wk G p l e R s m args below meth c cells slots Q A H0 nL pc lv st σ := by
  intro H locs ls hW hS hL
  have hm := (am_ll_mem G lv 0 j (am_tv G (.inl x))).mpr ⟨_, Nat.zero_le _, hl, rfl⟩
  obtain ⟨q, hq⟩ := List.getElem?_of_mem hm
  have hi : j < lv.length := (List.getElem?_eq_some_iff.mp hl).1
  exact lv_iinc (v := Int32.ofInt (x + n)) C.1 C.2.1 hdg hL hq (by rw [Int32.ofInt_add]) hn rfl (fun ls2 h2 => k H locs ls2 hW hS (am_lset (v := .inl (x + n)) hi h2))
theorem wk_iadd (C : wk_C G p s m args c cc nL own Ts A) {x y : Int} (hdg : decode cc pc = .ok (.iadd, 1)) (k : wk G p l e R s m args below meth c cells slots Q A H0 nL (pc + 1) lv (.inl (x + y) :: st) σ) : wk G p l e R s m args below meth c cells slots Q A H0 nL pc lv (.inl y :: .inl x :: st) σ := by
  intro H locs ls hW hS hL
  refine lv_iadd C.1 C.2.1 hdg ?_
  rw [← Int32.ofInt_add]
  exact k H locs ls hW hS hL
theorem wk_isub (C : wk_C G p s m args c cc nL own Ts A) {x y : Int} (hdg : decode cc pc = .ok (.isub, 1)) (k : wk G p l e R s m args below meth c cells slots Q A H0 nL (pc + 1) lv (.inl (x - y) :: st) σ) : wk G p l e R s m args below meth c cells slots Q A H0 nL pc lv (.inl y :: .inl x :: st) σ := by
  intro H locs ls hW hS hL
  refine lv_isub C.1 C.2.1 hdg ?_
  rw [← Int32.ofInt_sub]
  exact k H locs ls hW hS hL
theorem wk_imul (C : wk_C G p s m args c cc nL own Ts A) {x y : Int} (hdg : decode cc pc = .ok (.imul, 1)) (k : wk G p l e R s m args below meth c cells slots Q A H0 nL (pc + 1) lv (.inl (x * y) :: st) σ) : wk G p l e R s m args below meth c cells slots Q A H0 nL pc lv (.inl y :: .inl x :: st) σ := by
  intro H locs ls hW hS hL
  refine lv_imul C.1 C.2.1 hdg ?_
  rw [← Int32.ofInt_mul]
  exact k H locs ls hW hS hL
theorem wk_idiv (C : wk_C G p s m args c cc nL own Ts A) {x y : Int} (hx : 0 ≤ x ∧ x < 2147483648) (hy : 0 < y ∧ y < 2147483648) (hdg : decode cc pc = .ok (.idiv, 1)) (k : wk G p l e R s m args below meth c cells slots Q A H0 nL (pc + 1) lv (.inl (x / y) :: st) σ) : wk G p l e R s m args below meth c cells slots Q A H0 nL pc lv (.inl y :: .inl x :: st) σ := by
  intro H locs ls hW hS hL
  refine lv_idiv C.1 C.2.1 hdg (am_ne0 hy.1 hy.2) ?_
  rw [am_div hx.1 hx.2 hy.1 hy.2]
  exact k H locs ls hW hS hL
theorem wk_irem (C : wk_C G p s m args c cc nL own Ts A) {x y : Int} (hx : 0 ≤ x ∧ x < 2147483648) (hy : 0 < y ∧ y < 2147483648) (hdg : decode cc pc = .ok (.irem, 1)) (k : wk G p l e R s m args below meth c cells slots Q A H0 nL (pc + 1) lv (.inl (x % y) :: st) σ) : wk G p l e R s m args below meth c cells slots Q A H0 nL pc lv (.inl y :: .inl x :: st) σ := by
  intro H locs ls hW hS hL
  refine lv_irem C.1 C.2.1 hdg (am_ne0 hy.1 hy.2) ?_
  rw [am_rem hx.1 hx.2 hy.1 hy.2]
  exact k H locs ls hW hS hL
theorem wk_iand (C : wk_C G p s m args c cc nL own Ts A) {x y : Int} (z : Int) (hz : Int32.ofInt x &&& Int32.ofInt y = Int32.ofInt z) (hdg : decode cc pc = .ok (.iand, 1)) (k : wk G p l e R s m args below meth c cells slots Q A H0 nL (pc + 1) lv (.inl z :: st) σ) : wk G p l e R s m args below meth c cells slots Q A H0 nL pc lv (.inl y :: .inl x :: st) σ := by
  intro H locs ls hW hS hL
  refine lv_iand C.1 C.2.1 hdg ?_
  rw [hz]
  exact k H locs ls hW hS hL
theorem wk_ior (C : wk_C G p s m args c cc nL own Ts A) {x y : Int} (z : Int) (hz : Int32.ofInt x ||| Int32.ofInt y = Int32.ofInt z) (hdg : decode cc pc = .ok (.ior, 1)) (k : wk G p l e R s m args below meth c cells slots Q A H0 nL (pc + 1) lv (.inl z :: st) σ) : wk G p l e R s m args below meth c cells slots Q A H0 nL pc lv (.inl y :: .inl x :: st) σ := by
  intro H locs ls hW hS hL
  refine lv_ior C.1 C.2.1 hdg ?_
  rw [hz]
  exact k H locs ls hW hS hL
theorem wk_ixor (C : wk_C G p s m args c cc nL own Ts A) {x y : Int} (z : Int) (hz : Int32.ofInt x ^^^ Int32.ofInt y = Int32.ofInt z) (hdg : decode cc pc = .ok (.ixor, 1)) (k : wk G p l e R s m args below meth c cells slots Q A H0 nL (pc + 1) lv (.inl z :: st) σ) : wk G p l e R s m args below meth c cells slots Q A H0 nL pc lv (.inl y :: .inl x :: st) σ := by
  intro H locs ls hW hS hL
  refine lv_ixor C.1 C.2.1 hdg ?_
  rw [hz]
  exact k H locs ls hW hS hL
theorem wk_ishl (C : wk_C G p s m args c cc nL own Ts A) {x y : Int} (z : Int) (hz : Int32.ofInt x <<< (Int32.ofInt y &&& 31) = Int32.ofInt z) (hdg : decode cc pc = .ok (.ishl, 1)) (k : wk G p l e R s m args below meth c cells slots Q A H0 nL (pc + 1) lv (.inl z :: st) σ) : wk G p l e R s m args below meth c cells slots Q A H0 nL pc lv (.inl y :: .inl x :: st) σ := by
  intro H locs ls hW hS hL
  refine lv_ishl C.1 C.2.1 hdg ?_
  rw [hz]
  exact k H locs ls hW hS hL
theorem wk_ishr (C : wk_C G p s m args c cc nL own Ts A) {x y : Int} (z : Int) (hz : Int32.ofInt x >>> (Int32.ofInt y &&& 31) = Int32.ofInt z) (hdg : decode cc pc = .ok (.ishr, 1)) (k : wk G p l e R s m args below meth c cells slots Q A H0 nL (pc + 1) lv (.inl z :: st) σ) : wk G p l e R s m args below meth c cells slots Q A H0 nL pc lv (.inl y :: .inl x :: st) σ := by
  intro H locs ls hW hS hL
  refine lv_ishr C.1 C.2.1 hdg ?_
  rw [hz]
  exact k H locs ls hW hS hL
theorem wk_dup (C : wk_C G p s m args c cc nL own Ts A) {v : am_V} (hdg : decode cc pc = .ok (.dup, 1)) (k : wk G p l e R s m args below meth c cells slots Q A H0 nL (pc + 1) lv (v :: v :: st) σ) : wk G p l e R s m args below meth c cells slots Q A H0 nL pc lv (v :: st) σ := by
  intro H locs ls hW hS hL
  exact lv_dup C.1 C.2.1 hdg (am_cat G v) (k H locs ls hW hS hL)
theorem wk_dup2 (C : wk_C G p s m args c cc nL own Ts A) {v u : am_V} (hdg : decode cc pc = .ok (.dup2, 1)) (k : wk G p l e R s m args below meth c cells slots Q A H0 nL (pc + 1) lv (v :: u :: v :: u :: st) σ) : wk G p l e R s m args below meth c cells slots Q A H0 nL pc lv (v :: u :: st) σ := by
  intro H locs ls hW hS hL
  exact lv_dup2_11 C.1 C.2.1 hdg (am_cat G v) (am_cat G u) (k H locs ls hW hS hL)
theorem wk_pop (C : wk_C G p s m args c cc nL own Ts A) {v : am_V} (hdg : decode cc pc = .ok (.pop, 1)) (k : wk G p l e R s m args below meth c cells slots Q A H0 nL (pc + 1) lv st σ) : wk G p l e R s m args below meth c cells slots Q A H0 nL pc lv (v :: st) σ := by
  intro H locs ls hW hS hL
  exact lv_pop C.1 C.2.1 hdg (am_cat G v) (k H locs ls hW hS hL)
theorem wk_goto (C : wk_C G p s m args c cc nL own Ts A) {off : Int} (tgt : Nat) (ht : (pc : Int) + off = (tgt : Int)) (hdg : decode cc pc = .ok (.goto off, 3)) (k : wk G p l e R s m args below meth c cells slots Q A H0 nL tgt lv st σ) : wk G p l e R s m args below meth c cells slots Q A H0 nL pc lv st σ := by
  intro H locs ls hW hS hL
  exact lv_goto C.1 C.2.1 hdg ht (k H locs ls hW hS hL)
theorem wk_icmp_eq (C : wk_C G p s m args c cc nL own Ts A) {x y : Int} {off : Int} (tgt : Nat) (hx : -2147483648 ≤ x ∧ x < 2147483648) (hy : -2147483648 ≤ y ∧ y < 2147483648) (ht : (pc : Int) + off = (tgt : Int)) (hdg : decode cc pc = .ok (.if_icmp .eq off, 3)) (k1 : x = y → wk G p l e R s m args below meth c cells slots Q A H0 nL tgt lv st σ) (k2 : ¬ x = y → wk G p l e R s m args below meth c cells slots Q A H0 nL (pc + 3) lv st σ) : wk G p l e R s m args below meth c cells slots Q A H0 nL pc lv (.inl y :: .inl x :: st) σ := by
  intro H locs ls hW hS hL
  refine lv_icmp_eq C.1 C.2.1 hdg ht (fun h => ?_) (fun h => ?_)
  · exact k1 (by simp only [am_eq hx hy, am_lt hx hy, am_le hx hy, am_lt hy hx, am_le hy hx] at h; omega) H locs ls hW hS hL
  · exact k2 (by simp only [am_eq hx hy, am_lt hx hy, am_le hx hy, am_lt hy hx, am_le hy hx] at h; omega) H locs ls hW hS hL
theorem wk_if_eq (C : wk_C G p s m args c cc nL own Ts A) {x : Int} {off : Int} (tgt : Nat) (hx : -2147483648 ≤ x ∧ x < 2147483648) (ht : (pc : Int) + off = (tgt : Int)) (hdg : decode cc pc = .ok (.ifCond .eq off, 3)) (k1 : x = 0 → wk G p l e R s m args below meth c cells slots Q A H0 nL tgt lv st σ) (k2 : ¬ x = 0 → wk G p l e R s m args below meth c cells slots Q A H0 nL (pc + 3) lv st σ) : wk G p l e R s m args below meth c cells slots Q A H0 nL pc lv (.inl x :: st) σ := by
  intro H locs ls hW hS hL
  refine lv_if_eq C.1 C.2.1 hdg ht (fun h => ?_) (fun h => ?_)
  · exact k1 (by
      first
        | (rw [am_0] at h; simp only [am_eq hx ⟨(by omega : (-2147483648:Int) ≤ 0), (by omega : (0:Int) < 2147483648)⟩, am_lt hx ⟨(by omega : (-2147483648:Int) ≤ 0), (by omega : (0:Int) < 2147483648)⟩, am_le hx ⟨(by omega : (-2147483648:Int) ≤ 0), (by omega : (0:Int) < 2147483648)⟩, am_lt ⟨(by omega : (-2147483648:Int) ≤ 0), (by omega : (0:Int) < 2147483648)⟩ hx, am_le ⟨(by omega : (-2147483648:Int) ≤ 0), (by omega : (0:Int) < 2147483648)⟩ hx] at h; omega)) H locs ls hW hS hL
  · exact k2 (by
      first
        | (rw [am_0] at h; simp only [am_eq hx ⟨(by omega : (-2147483648:Int) ≤ 0), (by omega : (0:Int) < 2147483648)⟩, am_lt hx ⟨(by omega : (-2147483648:Int) ≤ 0), (by omega : (0:Int) < 2147483648)⟩, am_le hx ⟨(by omega : (-2147483648:Int) ≤ 0), (by omega : (0:Int) < 2147483648)⟩, am_lt ⟨(by omega : (-2147483648:Int) ≤ 0), (by omega : (0:Int) < 2147483648)⟩ hx, am_le ⟨(by omega : (-2147483648:Int) ≤ 0), (by omega : (0:Int) < 2147483648)⟩ hx] at h; omega)) H locs ls hW hS hL
theorem wk_icmp_ne (C : wk_C G p s m args c cc nL own Ts A) {x y : Int} {off : Int} (tgt : Nat) (hx : -2147483648 ≤ x ∧ x < 2147483648) (hy : -2147483648 ≤ y ∧ y < 2147483648) (ht : (pc : Int) + off = (tgt : Int)) (hdg : decode cc pc = .ok (.if_icmp .ne off, 3)) (k1 : ¬ x = y → wk G p l e R s m args below meth c cells slots Q A H0 nL tgt lv st σ) (k2 : x = y → wk G p l e R s m args below meth c cells slots Q A H0 nL (pc + 3) lv st σ) : wk G p l e R s m args below meth c cells slots Q A H0 nL pc lv (.inl y :: .inl x :: st) σ := by
  intro H locs ls hW hS hL
  refine lv_icmp_ne C.1 C.2.1 hdg ht (fun h => ?_) (fun h => ?_)
  · exact k1 (by simp only [am_eq hx hy, am_lt hx hy, am_le hx hy, am_lt hy hx, am_le hy hx] at h; omega) H locs ls hW hS hL
  · exact k2 (by simp only [am_eq hx hy, am_lt hx hy, am_le hx hy, am_lt hy hx, am_le hy hx] at h; omega) H locs ls hW hS hL
theorem wk_if_ne (C : wk_C G p s m args c cc nL own Ts A) {x : Int} {off : Int} (tgt : Nat) (hx : -2147483648 ≤ x ∧ x < 2147483648) (ht : (pc : Int) + off = (tgt : Int)) (hdg : decode cc pc = .ok (.ifCond .ne off, 3)) (k1 : ¬ x = 0 → wk G p l e R s m args below meth c cells slots Q A H0 nL tgt lv st σ) (k2 : x = 0 → wk G p l e R s m args below meth c cells slots Q A H0 nL (pc + 3) lv st σ) : wk G p l e R s m args below meth c cells slots Q A H0 nL pc lv (.inl x :: st) σ := by
  intro H locs ls hW hS hL
  refine lv_if_ne C.1 C.2.1 hdg ht (fun h => ?_) (fun h => ?_)
  · exact k1 (by
      first
        | (rw [am_0] at h; simp only [am_eq hx ⟨(by omega : (-2147483648:Int) ≤ 0), (by omega : (0:Int) < 2147483648)⟩, am_lt hx ⟨(by omega : (-2147483648:Int) ≤ 0), (by omega : (0:Int) < 2147483648)⟩, am_le hx ⟨(by omega : (-2147483648:Int) ≤ 0), (by omega : (0:Int) < 2147483648)⟩, am_lt ⟨(by omega : (-2147483648:Int) ≤ 0), (by omega : (0:Int) < 2147483648)⟩ hx, am_le ⟨(by omega : (-2147483648:Int) ≤ 0), (by omega : (0:Int) < 2147483648)⟩ hx] at h; omega)) H locs ls hW hS hL
  · exact k2 (by
      first
        | (rw [am_0] at h; simp only [am_eq hx ⟨(by omega : (-2147483648:Int) ≤ 0), (by omega : (0:Int) < 2147483648)⟩, am_lt hx ⟨(by omega : (-2147483648:Int) ≤ 0), (by omega : (0:Int) < 2147483648)⟩, am_le hx ⟨(by omega : (-2147483648:Int) ≤ 0), (by omega : (0:Int) < 2147483648)⟩, am_lt ⟨(by omega : (-2147483648:Int) ≤ 0), (by omega : (0:Int) < 2147483648)⟩ hx, am_le ⟨(by omega : (-2147483648:Int) ≤ 0), (by omega : (0:Int) < 2147483648)⟩ hx] at h; omega)) H locs ls hW hS hL
theorem wk_icmp_lt (C : wk_C G p s m args c cc nL own Ts A) {x y : Int} {off : Int} (tgt : Nat) (hx : -2147483648 ≤ x ∧ x < 2147483648) (hy : -2147483648 ≤ y ∧ y < 2147483648) (ht : (pc : Int) + off = (tgt : Int)) (hdg : decode cc pc = .ok (.if_icmp .lt off, 3)) (k1 : x < y → wk G p l e R s m args below meth c cells slots Q A H0 nL tgt lv st σ) (k2 : y ≤ x → wk G p l e R s m args below meth c cells slots Q A H0 nL (pc + 3) lv st σ) : wk G p l e R s m args below meth c cells slots Q A H0 nL pc lv (.inl y :: .inl x :: st) σ := by
  intro H locs ls hW hS hL
  refine lv_icmp_lt C.1 C.2.1 hdg ht (fun h => ?_) (fun h => ?_)
  · exact k1 (by simp only [am_eq hx hy, am_lt hx hy, am_le hx hy, am_lt hy hx, am_le hy hx] at h; omega) H locs ls hW hS hL
  · exact k2 (by simp only [am_eq hx hy, am_lt hx hy, am_le hx hy, am_lt hy hx, am_le hy hx] at h; omega) H locs ls hW hS hL
theorem wk_if_lt (C : wk_C G p s m args c cc nL own Ts A) {x : Int} {off : Int} (tgt : Nat) (hx : -2147483648 ≤ x ∧ x < 2147483648) (ht : (pc : Int) + off = (tgt : Int)) (hdg : decode cc pc = .ok (.ifCond .lt off, 3)) (k1 : x < 0 → wk G p l e R s m args below meth c cells slots Q A H0 nL tgt lv st σ) (k2 : 0 ≤ x → wk G p l e R s m args below meth c cells slots Q A H0 nL (pc + 3) lv st σ) : wk G p l e R s m args below meth c cells slots Q A H0 nL pc lv (.inl x :: st) σ := by
  intro H locs ls hW hS hL
  refine lv_if_lt C.1 C.2.1 hdg ht (fun h => ?_) (fun h => ?_)
  · exact k1 (by
      first
        | (rw [am_0] at h; simp only [am_eq hx ⟨(by omega : (-2147483648:Int) ≤ 0), (by omega : (0:Int) < 2147483648)⟩, am_lt hx ⟨(by omega : (-2147483648:Int) ≤ 0), (by omega : (0:Int) < 2147483648)⟩, am_le hx ⟨(by omega : (-2147483648:Int) ≤ 0), (by omega : (0:Int) < 2147483648)⟩, am_lt ⟨(by omega : (-2147483648:Int) ≤ 0), (by omega : (0:Int) < 2147483648)⟩ hx, am_le ⟨(by omega : (-2147483648:Int) ≤ 0), (by omega : (0:Int) < 2147483648)⟩ hx] at h; omega)) H locs ls hW hS hL
  · exact k2 (by
      first
        | (rw [am_0] at h; simp only [am_eq hx ⟨(by omega : (-2147483648:Int) ≤ 0), (by omega : (0:Int) < 2147483648)⟩, am_lt hx ⟨(by omega : (-2147483648:Int) ≤ 0), (by omega : (0:Int) < 2147483648)⟩, am_le hx ⟨(by omega : (-2147483648:Int) ≤ 0), (by omega : (0:Int) < 2147483648)⟩, am_lt ⟨(by omega : (-2147483648:Int) ≤ 0), (by omega : (0:Int) < 2147483648)⟩ hx, am_le ⟨(by omega : (-2147483648:Int) ≤ 0), (by omega : (0:Int) < 2147483648)⟩ hx] at h; omega)) H locs ls hW hS hL
theorem wk_icmp_ge (C : wk_C G p s m args c cc nL own Ts A) {x y : Int} {off : Int} (tgt : Nat) (hx : -2147483648 ≤ x ∧ x < 2147483648) (hy : -2147483648 ≤ y ∧ y < 2147483648) (ht : (pc : Int) + off = (tgt : Int)) (hdg : decode cc pc = .ok (.if_icmp .ge off, 3)) (k1 : y ≤ x → wk G p l e R s m args below meth c cells slots Q A H0 nL tgt lv st σ) (k2 : x < y → wk G p l e R s m args below meth c cells slots Q A H0 nL (pc + 3) lv st σ) : wk G p l e R s m args below meth c cells slots Q A H0 nL pc lv (.inl y :: .inl x :: st) σ := by
  intro H locs ls hW hS hL
  refine lv_icmp_ge C.1 C.2.1 hdg ht (fun h => ?_) (fun h => ?_)
  · exact k1 (by simp only [am_eq hx hy, am_lt hx hy, am_le hx hy, am_lt hy hx, am_le hy hx] at h; omega) H locs ls hW hS hL
  · exact k2 (by simp only [am_eq hx hy, am_lt hx hy, am_le hx hy, am_lt hy hx, am_le hy hx] at h; omega) H locs ls hW hS hL
theorem wk_if_ge (C : wk_C G p s m args c cc nL own Ts A) {x : Int} {off : Int} (tgt : Nat) (hx : -2147483648 ≤ x ∧ x < 2147483648) (ht : (pc : Int) + off = (tgt : Int)) (hdg : decode cc pc = .ok (.ifCond .ge off, 3)) (k1 : 0 ≤ x → wk G p l e R s m args below meth c cells slots Q A H0 nL tgt lv st σ) (k2 : x < 0 → wk G p l e R s m args below meth c cells slots Q A H0 nL (pc + 3) lv st σ) : wk G p l e R s m args below meth c cells slots Q A H0 nL pc lv (.inl x :: st) σ := by
  intro H locs ls hW hS hL
  refine lv_if_ge C.1 C.2.1 hdg ht (fun h => ?_) (fun h => ?_)
  · exact k1 (by
      first
        | (rw [am_0] at h; simp only [am_eq hx ⟨(by omega : (-2147483648:Int) ≤ 0), (by omega : (0:Int) < 2147483648)⟩, am_lt hx ⟨(by omega : (-2147483648:Int) ≤ 0), (by omega : (0:Int) < 2147483648)⟩, am_le hx ⟨(by omega : (-2147483648:Int) ≤ 0), (by omega : (0:Int) < 2147483648)⟩, am_lt ⟨(by omega : (-2147483648:Int) ≤ 0), (by omega : (0:Int) < 2147483648)⟩ hx, am_le ⟨(by omega : (-2147483648:Int) ≤ 0), (by omega : (0:Int) < 2147483648)⟩ hx] at h; omega)) H locs ls hW hS hL
  · exact k2 (by
      first
        | (rw [am_0] at h; simp only [am_eq hx ⟨(by omega : (-2147483648:Int) ≤ 0), (by omega : (0:Int) < 2147483648)⟩, am_lt hx ⟨(by omega : (-2147483648:Int) ≤ 0), (by omega : (0:Int) < 2147483648)⟩, am_le hx ⟨(by omega : (-2147483648:Int) ≤ 0), (by omega : (0:Int) < 2147483648)⟩, am_lt ⟨(by omega : (-2147483648:Int) ≤ 0), (by omega : (0:Int) < 2147483648)⟩ hx, am_le ⟨(by omega : (-2147483648:Int) ≤ 0), (by omega : (0:Int) < 2147483648)⟩ hx] at h; omega)) H locs ls hW hS hL
theorem wk_icmp_gt (C : wk_C G p s m args c cc nL own Ts A) {x y : Int} {off : Int} (tgt : Nat) (hx : -2147483648 ≤ x ∧ x < 2147483648) (hy : -2147483648 ≤ y ∧ y < 2147483648) (ht : (pc : Int) + off = (tgt : Int)) (hdg : decode cc pc = .ok (.if_icmp .gt off, 3)) (k1 : y < x → wk G p l e R s m args below meth c cells slots Q A H0 nL tgt lv st σ) (k2 : x ≤ y → wk G p l e R s m args below meth c cells slots Q A H0 nL (pc + 3) lv st σ) : wk G p l e R s m args below meth c cells slots Q A H0 nL pc lv (.inl y :: .inl x :: st) σ := by
  intro H locs ls hW hS hL
  refine lv_icmp_gt C.1 C.2.1 hdg ht (fun h => ?_) (fun h => ?_)
  · exact k1 (by simp only [am_eq hx hy, am_lt hx hy, am_le hx hy, am_lt hy hx, am_le hy hx] at h; omega) H locs ls hW hS hL
  · exact k2 (by simp only [am_eq hx hy, am_lt hx hy, am_le hx hy, am_lt hy hx, am_le hy hx] at h; omega) H locs ls hW hS hL
theorem wk_if_gt (C : wk_C G p s m args c cc nL own Ts A) {x : Int} {off : Int} (tgt : Nat) (hx : -2147483648 ≤ x ∧ x < 2147483648) (ht : (pc : Int) + off = (tgt : Int)) (hdg : decode cc pc = .ok (.ifCond .gt off, 3)) (k1 : 0 < x → wk G p l e R s m args below meth c cells slots Q A H0 nL tgt lv st σ) (k2 : x ≤ 0 → wk G p l e R s m args below meth c cells slots Q A H0 nL (pc + 3) lv st σ) : wk G p l e R s m args below meth c cells slots Q A H0 nL pc lv (.inl x :: st) σ := by
  intro H locs ls hW hS hL
  refine lv_if_gt C.1 C.2.1 hdg ht (fun h => ?_) (fun h => ?_)
  · exact k1 (by
      first
        | (rw [am_0] at h; simp only [am_eq hx ⟨(by omega : (-2147483648:Int) ≤ 0), (by omega : (0:Int) < 2147483648)⟩, am_lt hx ⟨(by omega : (-2147483648:Int) ≤ 0), (by omega : (0:Int) < 2147483648)⟩, am_le hx ⟨(by omega : (-2147483648:Int) ≤ 0), (by omega : (0:Int) < 2147483648)⟩, am_lt ⟨(by omega : (-2147483648:Int) ≤ 0), (by omega : (0:Int) < 2147483648)⟩ hx, am_le ⟨(by omega : (-2147483648:Int) ≤ 0), (by omega : (0:Int) < 2147483648)⟩ hx] at h; omega)) H locs ls hW hS hL
  · exact k2 (by
      first
        | (rw [am_0] at h; simp only [am_eq hx ⟨(by omega : (-2147483648:Int) ≤ 0), (by omega : (0:Int) < 2147483648)⟩, am_lt hx ⟨(by omega : (-2147483648:Int) ≤ 0), (by omega : (0:Int) < 2147483648)⟩, am_le hx ⟨(by omega : (-2147483648:Int) ≤ 0), (by omega : (0:Int) < 2147483648)⟩, am_lt ⟨(by omega : (-2147483648:Int) ≤ 0), (by omega : (0:Int) < 2147483648)⟩ hx, am_le ⟨(by omega : (-2147483648:Int) ≤ 0), (by omega : (0:Int) < 2147483648)⟩ hx] at h; omega)) H locs ls hW hS hL
theorem wk_icmp_le (C : wk_C G p s m args c cc nL own Ts A) {x y : Int} {off : Int} (tgt : Nat) (hx : -2147483648 ≤ x ∧ x < 2147483648) (hy : -2147483648 ≤ y ∧ y < 2147483648) (ht : (pc : Int) + off = (tgt : Int)) (hdg : decode cc pc = .ok (.if_icmp .le off, 3)) (k1 : x ≤ y → wk G p l e R s m args below meth c cells slots Q A H0 nL tgt lv st σ) (k2 : y < x → wk G p l e R s m args below meth c cells slots Q A H0 nL (pc + 3) lv st σ) : wk G p l e R s m args below meth c cells slots Q A H0 nL pc lv (.inl y :: .inl x :: st) σ := by
  intro H locs ls hW hS hL
  refine lv_icmp_le C.1 C.2.1 hdg ht (fun h => ?_) (fun h => ?_)
  · exact k1 (by simp only [am_eq hx hy, am_lt hx hy, am_le hx hy, am_lt hy hx, am_le hy hx] at h; omega) H locs ls hW hS hL
  · exact k2 (by simp only [am_eq hx hy, am_lt hx hy, am_le hx hy, am_lt hy hx, am_le hy hx] at h; omega) H locs ls hW hS hL
theorem wk_if_le (C : wk_C G p s m args c cc nL own Ts A) {x : Int} {off : Int} (tgt : Nat) (hx : -2147483648 ≤ x ∧ x < 2147483648) (ht : (pc : Int) + off = (tgt : Int)) (hdg : decode cc pc = .ok (.ifCond .le off, 3)) (k1 : x ≤ 0 → wk G p l e R s m args below meth c cells slots Q A H0 nL tgt lv st σ) (k2 : 0 < x → wk G p l e R s m args below meth c cells slots Q A H0 nL (pc + 3) lv st σ) : wk G p l e R s m args below meth c cells slots Q A H0 nL pc lv (.inl x :: st) σ := by
  intro H locs ls hW hS hL
  refine lv_if_le C.1 C.2.1 hdg ht (fun h => ?_) (fun h => ?_)
  · exact k1 (by
      first
        | (rw [am_0] at h; simp only [am_eq hx ⟨(by omega : (-2147483648:Int) ≤ 0), (by omega : (0:Int) < 2147483648)⟩, am_lt hx ⟨(by omega : (-2147483648:Int) ≤ 0), (by omega : (0:Int) < 2147483648)⟩, am_le hx ⟨(by omega : (-2147483648:Int) ≤ 0), (by omega : (0:Int) < 2147483648)⟩, am_lt ⟨(by omega : (-2147483648:Int) ≤ 0), (by omega : (0:Int) < 2147483648)⟩ hx, am_le ⟨(by omega : (-2147483648:Int) ≤ 0), (by omega : (0:Int) < 2147483648)⟩ hx] at h; omega)) H locs ls hW hS hL
  · exact k2 (by
      first
        | (rw [am_0] at h; simp only [am_eq hx ⟨(by omega : (-2147483648:Int) ≤ 0), (by omega : (0:Int) < 2147483648)⟩, am_lt hx ⟨(by omega : (-2147483648:Int) ≤ 0), (by omega : (0:Int) < 2147483648)⟩, am_le hx ⟨(by omega : (-2147483648:Int) ≤ 0), (by omega : (0:Int) < 2147483648)⟩, am_lt ⟨(by omega : (-2147483648:Int) ≤ 0), (by omega : (0:Int) < 2147483648)⟩ hx, am_le ⟨(by omega : (-2147483648:Int) ≤ 0), (by omega : (0:Int) < 2147483648)⟩ hx] at h; omega)) H locs ls hW hS hL
theorem am_one {G : am_G} {σ : am_M} {H : Heap} (h : am_wd G σ H) {k i : Nat} (hi : i < G.2.2.2.1 k) {E : va_E} (hE : am_cell G (G.2.2.2.2 k i) (σ k i) = E) : va_P G.1 vwCl [(G.2.2.1 k i, E)] H := by
  intro n q hq
  match n, hq with
  | 0, hq => cases hq; rw [← hE]; exact h k i hi
theorem wk_geti (C : wk_C G p s m args c cc nL own Ts A) {k i ci j : Nat} {sl : List (Option (Nat × Nat))} {Cn : String} {T : u_T} {N index : Nat} (hsh : G.2.2.2.2 k i = .inl (ci, sl)) (hi : i < G.2.2.2.1 k) (hc : vwCl[ci]? = some (Cn, T, N)) (hin : ∀ w ∈ u_ws Cn T N, w ∈ Ts) (hj : j < N) (hlink : (Cond.fieldLink own index (T j).1 (T j).2.1 (T j).2.2.1) ∈ Ts) (hsl : sl[j]? = some none) (hdg : decode cc pc = .ok (.getfield index, 3)) (kk : wk G p l e R s m args below meth c cells slots Q A H0 nL (pc + 3) lv (.inl (σ k i j) :: st) σ) : wk G p l e R s m args below meth c cells slots Q A H0 nL pc lv (.inr (k, i) :: st) σ := by
  intro H locs ls hW hS hL
  refine va_get (D := G.1) (cl := vwCl) (ws := [(G.2.2.1 k i, .inr (ci, (am_sv (σ k i) 0 sl).map (am_tv G)))]) (ci := ci) (C := Cn) (T := T) (N := N) (v := am_tv G (.inl (σ k i j))) C.1 C.2.1 C.2.2.2.2.1 hin C.2.2.2.1 C.2.2.2.2.2.1.1 (am_one hW hi (by rw [hsh]; rfl)) 0 rfl hc j hj (C.2.2.2.2.1 _ hlink) (fun _ h => h) ?_ hdg (kk H locs ls hW hS hL)
  rw [List.getElem?_map, am_sv_get, hsl]
  simp [am_sl]
theorem wk_getr (C : wk_C G p s m args c cc nL own Ts A) {k i ci j : Nat} {sl : List (Option (Nat × Nat))} {Cn : String} {T : u_T} {N index : Nat} {q : Nat × Nat} (hsh : G.2.2.2.2 k i = .inl (ci, sl)) (hi : i < G.2.2.2.1 k) (hc : vwCl[ci]? = some (Cn, T, N)) (hin : ∀ w ∈ u_ws Cn T N, w ∈ Ts) (hj : j < N) (hlink : (Cond.fieldLink own index (T j).1 (T j).2.1 (T j).2.2.1) ∈ Ts) (hsl : sl[j]? = some (some q)) (hdg : decode cc pc = .ok (.getfield index, 3)) (kk : wk G p l e R s m args below meth c cells slots Q A H0 nL (pc + 3) lv (.inr q :: st) σ) : wk G p l e R s m args below meth c cells slots Q A H0 nL pc lv (.inr (k, i) :: st) σ := by
  intro H locs ls hW hS hL
  refine va_get (D := G.1) (cl := vwCl) (ws := [(G.2.2.1 k i, .inr (ci, (am_sv (σ k i) 0 sl).map (am_tv G)))]) (ci := ci) (C := Cn) (T := T) (N := N) (v := am_tv G (.inr q)) C.1 C.2.1 C.2.2.2.2.1 hin C.2.2.2.1 C.2.2.2.2.2.1.1 (am_one hW hi (by rw [hsh]; rfl)) 0 rfl hc j hj (C.2.2.2.2.1 _ hlink) (fun _ h => h) ?_ hdg (kk H locs ls hW hS hL)
  rw [List.getElem?_map, am_sv_get, hsl]
  simp [am_sl]
theorem wk_getiN (C : wk_C G p s m args c cc nL own Ts A) {k i ci j : Nat} {sl : List (Option (Nat × Nat))} {Cn : String} {T : u_T} {N index : Nat} {host : String} (hsh : G.2.2.2.2 k i = .inl (ci, sl)) (hi : i < G.2.2.2.1 k) (hc : vwCl[ci]? = some (Cn, T, N)) (hin : ∀ w ∈ u_ws Cn T N, w ∈ Ts) (hj : j < N) (hlink : (Cond.fieldLinkNest own index (T j).1 (T j).2.1 (T j).2.2.1 host) ∈ am_nest) (hsl : sl[j]? = some none) (hdg : decode cc pc = .ok (.getfield index, 3)) (kk : wk G p l e R s m args below meth c cells slots Q A H0 nL (pc + 3) lv (.inl (σ k i j) :: st) σ) : wk G p l e R s m args below meth c cells slots Q A H0 nL pc lv (.inr (k, i) :: st) σ := by
  intro H locs ls hW hS hL
  refine va_getN (D := G.1) (cl := vwCl) (ws := [(G.2.2.1 k i, .inr (ci, (am_sv (σ k i) 0 sl).map (am_tv G)))]) (ci := ci) (C := Cn) (T := T) (N := N) (v := am_tv G (.inl (σ k i j))) C.1 C.2.1 C.2.2.2.2.1 hin C.2.2.2.1 C.2.2.2.2.2.1.1 (am_one hW hi (by rw [hsh]; rfl)) 0 rfl hc j hj (va_Nw.use rfl (C.2.2.2.2.2.1.2 _ hlink)) (fun _ h => h) ?_ hdg (kk H locs ls hW hS hL)
  rw [List.getElem?_map, am_sv_get, hsl]
  simp [am_sl]
theorem wk_getrN (C : wk_C G p s m args c cc nL own Ts A) {k i ci j : Nat} {sl : List (Option (Nat × Nat))} {Cn : String} {T : u_T} {N index : Nat} {host : String} {q : Nat × Nat} (hsh : G.2.2.2.2 k i = .inl (ci, sl)) (hi : i < G.2.2.2.1 k) (hc : vwCl[ci]? = some (Cn, T, N)) (hin : ∀ w ∈ u_ws Cn T N, w ∈ Ts) (hj : j < N) (hlink : (Cond.fieldLinkNest own index (T j).1 (T j).2.1 (T j).2.2.1 host) ∈ am_nest) (hsl : sl[j]? = some (some q)) (hdg : decode cc pc = .ok (.getfield index, 3)) (kk : wk G p l e R s m args below meth c cells slots Q A H0 nL (pc + 3) lv (.inr q :: st) σ) : wk G p l e R s m args below meth c cells slots Q A H0 nL pc lv (.inr (k, i) :: st) σ := by
  intro H locs ls hW hS hL
  refine va_getN (D := G.1) (cl := vwCl) (ws := [(G.2.2.1 k i, .inr (ci, (am_sv (σ k i) 0 sl).map (am_tv G)))]) (ci := ci) (C := Cn) (T := T) (N := N) (v := am_tv G (.inr q)) C.1 C.2.1 C.2.2.2.2.1 hin C.2.2.2.1 C.2.2.2.2.2.1.1 (am_one hW hi (by rw [hsh]; rfl)) 0 rfl hc j hj (va_Nw.use rfl (C.2.2.2.2.2.1.2 _ hlink)) (fun _ h => h) ?_ hdg (kk H locs ls hW hS hL)
  rw [List.getElem?_map, am_sv_get, hsl]
  simp [am_sl]
theorem wk_put (C : wk_C G p s m args c cc nL own Ts A) {k i ci j : Nat} {x : Int} {sl : List (Option (Nat × Nat))} {Cn : String} {T : u_T} {N index : Nat} (hsh : G.2.2.2.2 k i = .inl (ci, sl)) (hi : i < G.2.2.2.1 k) (hc : vwCl[ci]? = some (Cn, T, N)) (hin : ∀ w ∈ u_ws Cn T N, w ∈ Ts) (ty0 : Nat → FieldType) (hty : ∀ k, k < N → parseFieldDescriptor (T k).2.2.1 = some (ty0 k)) (hnm : ∀ a, a < N → ∀ b, b < N → a ≠ b → (T a).2.1 ≠ (T b).2.1) (hj : j < N) (hlink : (Cond.fieldLink own index (T j).1 (T j).2.1 (T j).2.2.1) ∈ Ts) (hsl : sl[j]? = some none) (hfin : (T j).2.2.2 = false) (hd : parseFieldDescriptor (T j).2.2.1 = some .int) (hdg : decode cc pc = .ok (.putfield index, 3)) (kk : wk G p l e R s m args below meth c cells slots Q A H0 nL (pc + 3) lv st (am_up σ k i j x)) : wk G p l e R s m args below meth c cells slots Q A H0 nL pc lv (.inl x :: .inr (k, i) :: st) σ := by
  intro H locs ls hW hS hL
  have hK := C.2.2.2.2.2.1.1
  have hts := C.2.2.2.2.1
  have hap := va_apart (own := own) (D := G.1) (cl := vwCl) (tys := am_tyl G.2.1) hts hin ty0 hty hnm hK hc
  have hat := hW k i hi
  have hcell : am_cell G (G.2.2.2.2 k i) (σ k i) = .inr (ci, (am_sv (σ k i) 0 sl).map (am_tv G)) := by rw [hsh]; rfl
  rw [hcell] at hat
  obtain ⟨r, h1, cell, q1, q2, q3, q4⟩ := hat
  have hr : r = (Cn, T, N) := Option.some.inj (h1.symm.trans hc)
  subst hr
  obtain ⟨hSl, hfc, kC, hkC, hkind⟩ := hK.1 ci _ hc
  obtain ⟨cf, kf, fi, f, hi2, hsl2⟩ := hSl j hj
  have hlay := hts _ (hin _ (u_in_lay hj))
  unfold u_lay at hlay
  rw [if_neg (by rw [hfin]; decide)] at hlay
  have hst := (u_facts hfc hkC (u_lays hts hin hj) hi2).1
  have h6 := u_store (v := .int (Int32.ofInt x)) hfc hkC hkind hlay hi2 hd rfl rfl
  refine W.putK C.1 C.2.1 (f := f) ⟨C.2.2.2.1, (C.2.2.2.2.1 _ hlink), ⟨_, _, _, hi2⟩, hst⟩ (by rw [q2]; exact h6) q1 q3 (by rw [hsl2]; exact k2_hasslot (q4 j hj)) rfl rfl hdg fun H' e1 e2 e3 => ?_
  rw [hsl2] at e1 ⊢
  have hl : j < ((am_sv (σ k i) 0 sl).map (am_tv G)).length := by
    rw [List.length_map, am_sv_len]; exact (List.getElem?_eq_some_iff.mp hsl).1
  refine kk H' _ ls (hW.put C.2.2.2.2.2.2.1 hi ?_ e3) (hS.put e2 e3 (C.2.2.2.2.2.2.2 _ ⟨k, i, hi, rfl⟩)) hL
  rw [hsh]
  show va_at G.1 vwCl (_, .inr (ci, (am_sv (am_u1 (σ k i) j x) 0 sl).map (am_tv G))) H'
  rw [← am_sv_set _ _ _ _ hsl, List.map_set]
  exact ⟨_, hc, t_OB.to (V := updV (vp_V ((am_sv (σ k i) 0 sl).map (am_tv G))) j (am_tv G (.inl x))) ⟨_, e1, q2, q3, t_set q4 hap hj _⟩ (fun jj _ => vp_updV_set hl (am_tv G (.inl x)) jj)⟩
theorem wk_putN (C : wk_C G p s m args c cc nL own Ts A) {k i ci j : Nat} {x : Int} {sl : List (Option (Nat × Nat))} {Cn : String} {T : u_T} {N index : Nat} {host : String} (hsh : G.2.2.2.2 k i = .inl (ci, sl)) (hi : i < G.2.2.2.1 k) (hc : vwCl[ci]? = some (Cn, T, N)) (hin : ∀ w ∈ u_ws Cn T N, w ∈ Ts) (ty0 : Nat → FieldType) (hty : ∀ k, k < N → parseFieldDescriptor (T k).2.2.1 = some (ty0 k)) (hnm : ∀ a, a < N → ∀ b, b < N → a ≠ b → (T a).2.1 ≠ (T b).2.1) (hj : j < N) (hlink : (Cond.fieldLinkNest own index (T j).1 (T j).2.1 (T j).2.2.1 host) ∈ am_nest) (hsl : sl[j]? = some none) (hfin : (T j).2.2.2 = false) (hd : parseFieldDescriptor (T j).2.2.1 = some .int) (hdg : decode cc pc = .ok (.putfield index, 3)) (kk : wk G p l e R s m args below meth c cells slots Q A H0 nL (pc + 3) lv st (am_up σ k i j x)) : wk G p l e R s m args below meth c cells slots Q A H0 nL pc lv (.inl x :: .inr (k, i) :: st) σ := by
  intro H locs ls hW hS hL
  have hK := C.2.2.2.2.2.1.1
  have hts := C.2.2.2.2.1
  have hap := va_apart (own := own) (D := G.1) (cl := vwCl) (tys := am_tyl G.2.1) hts hin ty0 hty hnm hK hc
  have hat := hW k i hi
  have hcell : am_cell G (G.2.2.2.2 k i) (σ k i) = .inr (ci, (am_sv (σ k i) 0 sl).map (am_tv G)) := by rw [hsh]; rfl
  rw [hcell] at hat
  obtain ⟨r, h1, cell, q1, q2, q3, q4⟩ := hat
  have hr : r = (Cn, T, N) := Option.some.inj (h1.symm.trans hc)
  subst hr
  obtain ⟨hSl, hfc, kC, hkC, hkind⟩ := hK.1 ci _ hc
  obtain ⟨cf, kf, fi, f, hi2, hsl2⟩ := hSl j hj
  have hlay := hts _ (hin _ (u_in_lay hj))
  unfold u_lay at hlay
  rw [if_neg (by rw [hfin]; decide)] at hlay
  have hst := (u_facts hfc hkC (u_lays hts hin hj) hi2).1
  have h6 := u_store (v := .int (Int32.ofInt x)) hfc hkC hkind hlay hi2 hd rfl rfl
  refine va_WputK C.1 C.2.1 (f := f) C.2.2.2.1 (va_Nw.use rfl (C.2.2.2.2.2.1.2 _ hlink)) hi2 hst (by rw [q2]; exact h6) q1 q3 (by rw [hsl2]; exact k2_hasslot (q4 j hj)) rfl rfl hdg fun H' e1 e2 e3 => ?_
  rw [hsl2] at e1 ⊢
  have hl : j < ((am_sv (σ k i) 0 sl).map (am_tv G)).length := by
    rw [List.length_map, am_sv_len]; exact (List.getElem?_eq_some_iff.mp hsl).1
  refine kk H' _ ls (hW.put C.2.2.2.2.2.2.1 hi ?_ e3) (hS.put e2 e3 (C.2.2.2.2.2.2.2 _ ⟨k, i, hi, rfl⟩)) hL
  rw [hsh]
  show va_at G.1 vwCl (_, .inr (ci, (am_sv (am_u1 (σ k i) j x) 0 sl).map (am_tv G))) H'
  rw [← am_sv_set _ _ _ _ hsl, List.map_set]
  exact ⟨_, hc, t_OB.to (V := updV (vp_V ((am_sv (σ k i) 0 sl).map (am_tv G))) j (am_tv G (.inl x))) ⟨_, e1, q2, q3, t_set q4 hap hj _⟩ (fun jj _ => vp_updV_set hl (am_tv G (.inl x)) jj)⟩
theorem wk_iald (C : wk_C G p s m args c cc nL own Ts A) {k i n : Nat} {a : Int} (hsh : G.2.2.2.2 k i = .inr (.inl (0, n))) (hi : i < G.2.2.2.1 k) (hn : n < 2147483648) (j : Nat) (ha : a = (j : Int)) (hj : j < n) (hdg : decode cc pc = .ok (.iaload, 1)) (kk : wk G p l e R s m args below meth c cells slots Q A H0 nL (pc + 1) lv (.inl (σ k i j) :: st) σ) : wk G p l e R s m args below meth c cells slots Q A H0 nL pc lv (.inl a :: .inr (k, i) :: st) σ := by
  intro H locs ls hW hS hL
  subst ha
  refine va_iald (D := G.1) (cl := vwCl) (tys := am_tyl G.2.1) C.1 C.2.1 C.2.2.2.2.2.1.1 (am_one hW hi (E := .inl (G.2.1 0, n, .inl (fun j => Int32.ofInt (σ k i j)))) (by rw [hsh]; rfl)) 0 0 rfl rfl (am_in (by omega) (by omega) hn) hdg ?_
  rw [am_cl (by omega) (by omega), Int.toNat_natCast]
  exact kk H locs ls hW hS hL
theorem wk_zald (C : wk_C G p s m args c cc nL own Ts A) {k i n : Nat} {a : Int} (hsh : G.2.2.2.2 k i = .inr (.inl (1, n))) (hi : i < G.2.2.2.1 k) (hn : n < 2147483648) (j : Nat) (ha : a = (j : Int)) (hj : j < n) (hdg : decode cc pc = .ok (.baload, 1)) (kk : wk G p l e R s m args below meth c cells slots Q A H0 nL (pc + 1) lv (.inl (σ k i j) :: st) σ) : wk G p l e R s m args below meth c cells slots Q A H0 nL pc lv (.inl a :: .inr (k, i) :: st) σ := by
  intro H locs ls hW hS hL
  subst ha
  refine va_zald (D := G.1) (cl := vwCl) (tys := am_tyl G.2.1) C.1 C.2.1 C.2.2.2.2.2.1.1 (am_one hW hi (E := .inl (G.2.1 1, n, .inl (fun j => Int32.ofInt (σ k i j)))) (by rw [hsh]; rfl)) 0 1 rfl rfl (am_in (by omega) (by omega) hn) hdg ?_
  rw [am_cl (by omega) (by omega), Int.toNat_natCast]
  exact kk H locs ls hW hS hL
theorem wk_aald (C : wk_C G p s m args c cc nL own Ts A) {k i n t : Nat} {C2 : String} {rf : Nat → Nat × Nat} {a : Int} (hsh : G.2.2.2.2 k i = .inr (.inr (t, n, rf))) (ht : (am_tyl G.2.1)[t]? = some (G.2.1 t, .object C2)) (hi : i < G.2.2.2.1 k) (hn : n < 2147483648) (j : Nat) (ha : a = (j : Int)) (hj : j < n) (hdg : decode cc pc = .ok (.aaload, 1)) (kk : wk G p l e R s m args below meth c cells slots Q A H0 nL (pc + 1) lv (.inr (rf j) :: st) σ) : wk G p l e R s m args below meth c cells slots Q A H0 nL pc lv (.inl a :: .inr (k, i) :: st) σ := by
  intro H locs ls hW hS hL
  subst ha
  refine va_aldq (D := G.1) (cl := vwCl) (tys := am_tyl G.2.1) C.1 C.2.1 C.2.2.2.2.2.1.1 (am_one hW hi (E := .inl (G.2.1 t, n, .inr (.inr (.inr (.inr (fun j => some (G.2.2.1 (rf j).1 (rf j).2))))))) (by rw [hsh]; rfl)) 0 t rfl ht (am_in (by omega) (by omega) hn) hdg ?_
  rw [am_cl (by omega) (by omega), Int.toNat_natCast]
  exact kk H locs ls hW hS hL
theorem wk_alenI (C : wk_C G p s m args c cc nL own Ts A) {k i n t : Nat} {ty : FieldType} (hsh : G.2.2.2.2 k i = .inr (.inl (t, n))) (ht : (am_tyl G.2.1)[t]? = some (G.2.1 t, ty)) (hi : i < G.2.2.2.1 k) (hdg : decode cc pc = .ok (.arraylength, 1)) (kk : wk G p l e R s m args below meth c cells slots Q A H0 nL (pc + 1) lv (.inl (n : Int) :: st) σ) : wk G p l e R s m args below meth c cells slots Q A H0 nL pc lv (.inr (k, i) :: st) σ := by
  intro H locs ls hW hS hL
  exact va_alen (D := G.1) (cl := vwCl) (tys := am_tyl G.2.1) C.1 C.2.1 C.2.2.2.2.2.1.1 (am_one hW hi (E := .inl (G.2.1 t, n, .inl (fun j => Int32.ofInt (σ k i j)))) (by rw [hsh]; rfl)) 0 t rfl ht (v := Int32.ofInt (n : Int)) rfl hdg (kk H locs ls hW hS hL)
theorem wk_alenR (C : wk_C G p s m args c cc nL own Ts A) {k i n t : Nat} {rf : Nat → Nat × Nat} {ty : FieldType} (hsh : G.2.2.2.2 k i = .inr (.inr (t, n, rf))) (ht : (am_tyl G.2.1)[t]? = some (G.2.1 t, ty)) (hi : i < G.2.2.2.1 k) (hdg : decode cc pc = .ok (.arraylength, 1)) (kk : wk G p l e R s m args below meth c cells slots Q A H0 nL (pc + 1) lv (.inl (n : Int) :: st) σ) : wk G p l e R s m args below meth c cells slots Q A H0 nL pc lv (.inr (k, i) :: st) σ := by
  intro H locs ls hW hS hL
  exact va_alen (D := G.1) (cl := vwCl) (tys := am_tyl G.2.1) C.1 C.2.1 C.2.2.2.2.2.1.1 (am_one hW hi (E := .inl (G.2.1 t, n, .inr (.inr (.inr (.inr (fun j => some (G.2.2.1 (rf j).1 (rf j).2))))))) (by rw [hsh]; rfl)) 0 t rfl ht (v := Int32.ofInt (n : Int)) rfl hdg (kk H locs ls hW hS hL)
theorem am_updI (f : Nat → Int) (j : Nat) (x : Int) : upd (fun j => Int32.ofInt (f j)) j (Int32.ofInt x) = fun j' => Int32.ofInt (am_u1 f j x j') := by
  funext j'
  simp only [upd, am_u1]
  split <;> rfl
theorem wk_iast (C : wk_C G p s m args c cc nL own Ts A) {k i n : Nat} {a x : Int} (hsh : G.2.2.2.2 k i = .inr (.inl (0, n))) (hi : i < G.2.2.2.1 k) (hn : n < 2147483648) (j : Nat) (ha : a = (j : Int)) (hj : j < n) (hdg : decode cc pc = .ok (.iastore, 1)) (kk : wk G p l e R s m args below meth c cells slots Q A H0 nL (pc + 1) lv st (am_up σ k i j x)) : wk G p l e R s m args below meth c cells slots Q A H0 nL pc lv (.inl x :: .inl a :: .inr (k, i) :: st) σ := by
  intro H locs ls hW hS hL
  subst ha
  have hP := am_one hW hi (E := .inl (G.2.1 0, n, .inl (fun j => Int32.ofInt (σ k i j)))) (by rw [hsh]; rfl)
  refine W.iast C.1 C.2.1 (hP 0 _ rfl) ((C.2.2.2.2.2.1.1.2 0 _ rfl).1 n (fun j => .int (Int32.ofInt (σ k i j)))) (fun q => by cases q) (by show ¬ (_ < 0 ∨ (arrV _ _ _).slots.size ≤ _); rw [arrV_size]; exact am_in (x := (j : Int)) (n := n) (by omega) (by omega) hn) rfl rfl hdg fun H1 e z oq => ?_
  refine kk H1 _ ls (hW.put C.2.2.2.2.2.2.1 hi ?_ oq) (hS.put z oq (C.2.2.2.2.2.2.2 _ ⟨k, i, hi, rfl⟩)) hL
  rw [hsh]
  show H1[_]? = some (vp_cell _ _)
  rw [e, am_cl (by omega) (by omega), Int.toNat_natCast]
  show _ = some (vp_cell (G.2.1 0) (n, .inl (fun j' => Int32.ofInt (am_u1 (σ k i) j x j'))))
  rw [← am_updI, vp_cell_i, vp_cell_i, arrV_store]
  congr 2
  funext q
  by_cases hq : q = j
  · subst hq
    simp [updV, upd]
  · simp [updV, upd, hq]
end WK
end
section
/-! contracts in those words, entry, ends, calls -/
def am_P (G : am_G) (σ : am_M) (av : List am_V) : Array Value → State → Prop := va_Pc (av.map (am_tv G)) (fun U => am_wd G σ U.heap ∧ am_K G U)
def am_QI (G : am_G) (post : Int → am_M → Prop) : Array Value → State → Outcome → State → Prop := va_Qi (S := am_M) (fun r u => ∃ x : Int, r = Int32.ofInt x ∧ post x u) (fun u t => am_wd G u t.heap) (am_FA G)
def am_QV (G : am_G) (post : am_M → Prop) : Array Value → State → Outcome → State → Prop := va_Qv (S := am_M) post (fun u t => am_wd G u t.heap) (am_FA G)
def am_QR (G : am_G) (post : Nat × Nat → am_M → Prop) : Array Value → State → Outcome → State → Prop := va_Qr (S := (Nat × Nat) × am_M) (fun u => post u.1 u.2) (fun u a t => a = G.2.2.1 u.1.1 u.1.2 ∧ am_wd G u.2 t.heap) (am_FA G)
theorem am_blind (G : am_G) (σ : am_M) (av : List am_V) : FrameBlind (am_P G σ av) := fun a U g mk h => ⟨h.1, h.2.1, am_K.same (u := U) (U := U.calling g mk a) rfl h.2.2⟩
theorem am_lgsl (G : am_G) : ∀ av : List am_V, (lg_sl (av.map (am_tv G))).length = av.length
  | [] => rfl
  | v :: r => by
    rw [List.map_cons, List.length_cons, ← am_lgsl G r]
    simp [lg_sl, am_cat]
theorem am_cats (G : am_G) : ∀ av : List am_V, ((av.map (am_tv G)).map fun v => v.category).sum = av.length
  | [] => rfl
  | v :: r => by
    rw [List.map_cons, List.map_cons, List.sum_cons, am_cats G r, am_cat, List.length_cons, Nat.add_comm]
theorem wk_start {G : am_G} {l : Launch} {y : MethodName} {ws ws' : List Cond} {rm : Room} {Qc : Array Value → State → Outcome → State → Prop} {cc : ByteArray} {nL : Nat} {ret : Option FieldType} {own : String} {av : List am_V} {σ : am_M}
    (hy : plainName y.cls = true) (hw : ws = Cond.code y cc nL ret :: ws') (hI : am_inj G) (hcls : y.cls = own) (hlen : av.length ≤ nL)
    (body : ∀ p e s m below meth c, wk_C G p s m (av.map (am_tv G)).toArray c cc nL own ws (am_FA G) → meth.sig.returnType = ret → meth.locks = false →
      wk G p l e (headSpec ws rm).room s m (av.map (am_tv G)).toArray below meth c 0 0 (MQ below Qc (av.map (am_tv G)).toArray s 0 0 (am_FA G)) (am_FA G) s.heap nL 0 (av.map some ++ List.replicate (nL - av.length) none) [] σ) :
    Met l y ws rm (am_P G σ av) Qc 0 0 (am_FA G) := by
  refine Met.ofW (cc := cc) (maxL := nL) (ret := ret) hy hw ?_
  intro p e s m args below meth c s₁ B hml hv
  obtain ⟨rfl, hW, hK⟩ := hv
  have hts := atoms_spec (ws := ws) B.pre
  have hown : s.vm.findClass own = some m.cls := hcls ▸ findClass_of_methodNamed B.named
  rw [lg_entry_eq]
  have hl := lv_entry (av.map (am_tv G)) (n := nL) (by rw [am_lgsl]; exact hlen)
  rw [am_lv_args G (nL - av.length) av 0] at hl
  exact body p e s m below meth c ⟨B.exec, B.bytes, hml, hown, hts, hK, hI, fun _ h => h⟩ B.returns B.notSynchronized s.heap [] _ hW va_S.rf hl
section WKE
variable {G : am_G} {p : Program} {l : Launch} {e : Env} {R : Room} {s : State} {m : MethodId} {args : Array Value} {below : List Frame} {meth : Method} {c : Code} {cells slots : Nat} {Q : State → Prop}
variable {A : Nat → Prop} {H0 : Heap} {nL pc : Nat} {lv : List (Option am_V)} {st : List am_V} {σ : am_M} {cc : ByteArray} {own : String} {Ts : List Cond}
theorem wk_iret (C : wk_C G p s m args c cc nL own Ts (am_FA G)) (hr : meth.sig.returnType = some .int) (hlk : meth.locks = false) {post : Int → am_M → Prop} {x : Int} (hdg : decode cc pc = .ok (.ireturn, 1)) (hp : post x σ) : wk G p l e R s m args below meth c 0 0 (MQ below (am_QI G post) args s 0 0 (am_FA G)) (am_FA G) s.heap nL pc lv [.inl x] σ := by
  intro H locs ls hW hS hL
  exact W.iret C.1 C.2.1 hr (fun t ht _ => ⟨⟨_, σ, rfl, ⟨x, rfl, hp⟩, by show am_wd G σ t.heap; rw [ht]; exact hW⟩, hS.F ht⟩) (fun q hq => hS.2.2 q hq) hdg hlk
theorem wk_zret (C : wk_C G p s m args c cc nL own Ts (am_FA G)) (hr : meth.sig.returnType = some .boolean) (hlk : meth.locks = false) {post : Int → am_M → Prop} {x : Int} (hx : x = 0 ∨ x = 1) (hdg : decode cc pc = .ok (.ireturn, 1)) (hp : post x σ) : wk G p l e R s m args below meth c 0 0 (MQ below (am_QI G post) args s 0 0 (am_FA G)) (am_FA G) s.heap nL pc lv [.inl x] σ := by
  intro H locs ls hW hS hL
  exact W.zret C.1 C.2.1 hr (by rcases hx with rfl | rfl <;> decide) (fun t ht _ => ⟨⟨_, σ, rfl, ⟨x, rfl, hp⟩, by show am_wd G σ t.heap; rw [ht]; exact hW⟩, hS.F ht⟩) (fun q hq => hS.2.2 q hq) hdg hlk
theorem wk_aret (C : wk_C G p s m args c cc nL own Ts (am_FA G)) {rn : String} (hr : meth.sig.returnType = some (.object rn)) (hlk : meth.locks = false) {post : Nat × Nat → am_M → Prop} {x : Nat × Nat} (hdg : decode cc pc = .ok (.areturn, 1)) (hp : post x σ) : wk G p l e R s m args below meth c 0 0 (MQ below (am_QR G post) args s 0 0 (am_FA G)) (am_FA G) s.heap nL pc lv [.inr x] σ := by
  intro H locs ls hW hS hL
  exact W.aret C.1 C.2.1 hr (Or.inl ⟨_, rfl⟩) (Or.inr ⟨_, rfl⟩) (fun t ht _ => ⟨⟨(x, σ), _, rfl, hp, rfl, by show am_wd G σ t.heap; rw [ht]; exact hW⟩, hS.F ht⟩) (fun q hq => hS.2.2 q hq) hdg hlk
theorem wk_vret (C : wk_C G p s m args c cc nL own Ts (am_FA G)) (hr : meth.sig.returnType = none) (hlk : meth.locks = false) {post : am_M → Prop} (hdg : decode cc pc = .ok (.return_, 1)) (hp : post σ) : wk G p l e R s m args below meth c 0 0 (MQ below (am_QV G post) args s 0 0 (am_FA G)) (am_FA G) s.heap nL pc lv [] σ := by
  intro H locs ls hW hS hL
  exact W.vret C.1 C.2.1 hr (fun t ht _ => ⟨⟨σ, rfl, hp, by show am_wd G σ t.heap; rw [ht]; exact hW⟩, hS.F ht⟩) (fun q hq => hS.2.2 q hq) hdg hlk
theorem wk_ofI (C : wk_C G p s m args c cc nL own Ts A) {stk : List am_V} {a : Array Value} {post : Int → am_M → Prop}
    (hr : ∀ (H : Heap) (locs : List Loc) (ls : Array Slot), am_wd G σ H → ls.size = nL → va_Run p l e R s m args below meth c H locs cells slots 0 0 (F0 m pc ls (stk.map (am_tv G))) (st.map (am_tv G)) (am_QI G post a) (am_FA G))
    (kk : ∀ (r : Int) (σ' : am_M), post r σ' → wk G p l e R s m args below meth c cells slots Q A H0 nL (pc + 3) lv (.inl r :: st) σ') : wk G p l e R s m args below meth c cells slots Q A H0 nL pc lv stk σ := by
  intro H locs ls hW hS hL
  refine va_calli (hr H locs ls hW hL.1) hS (fun q _ h => C.2.2.2.2.2.2.2 q h) (fun q h => C.2.2.2.2.2.2.2 q h) (fun r u t H1 locs1 ht hvm hp hB hz hk hS1 => ?_)
  obtain ⟨x, rfl, hpx⟩ := hp
  exact kk x u hpx H1 locs1 ls (by rw [← ht]; exact hB) hS1 hL
theorem wk_ofV (C : wk_C G p s m args c cc nL own Ts A) {stk : List am_V} {a : Array Value} {post : am_M → Prop}
    (hr : ∀ (H : Heap) (locs : List Loc) (ls : Array Slot), am_wd G σ H → ls.size = nL → va_Run p l e R s m args below meth c H locs cells slots 0 0 (F0 m pc ls (stk.map (am_tv G))) (st.map (am_tv G)) (am_QV G post a) (am_FA G))
    (kk : ∀ (σ' : am_M), post σ' → wk G p l e R s m args below meth c cells slots Q A H0 nL (pc + 3) lv st σ') : wk G p l e R s m args below meth c cells slots Q A H0 nL pc lv stk σ := by
  intro H locs ls hW hS hL
  refine va_callv (hr H locs ls hW hL.1) hS (fun q _ h => C.2.2.2.2.2.2.2 q h) (fun q h => C.2.2.2.2.2.2.2 q h) (fun u t H1 locs1 ht hvm hp hB hz hk hS1 => ?_)
  exact kk u hp H1 locs1 ls (by rw [← ht]; exact hB) hS1 hL
theorem wk_ofR (C : wk_C G p s m args c cc nL own Ts A) {stk : List am_V} {a : Array Value} {post : Nat × Nat → am_M → Prop}
    (hr : ∀ (H : Heap) (locs : List Loc) (ls : Array Slot), am_wd G σ H → ls.size = nL → va_Run p l e R s m args below meth c H locs cells slots 0 0 (F0 m pc ls (stk.map (am_tv G))) (st.map (am_tv G)) (am_QR G post a) (am_FA G))
    (kk : ∀ (r : Nat × Nat) (σ' : am_M), post r σ' → wk G p l e R s m args below meth c cells slots Q A H0 nL (pc + 3) lv (.inr r :: st) σ') : wk G p l e R s m args below meth c cells slots Q A H0 nL pc lv stk σ := by
  intro H locs ls hW hS hL
  refine va_callr (hr H locs ls hW hL.1) hS (fun q _ h => C.2.2.2.2.2.2.2 q h) (fun q h => C.2.2.2.2.2.2.2 q h) (fun u ra t H1 locs1 ht hvm hp hB hz hk hS1 => ?_)
  obtain ⟨rfl, hB⟩ := hB
  exact kk u.1 u.2 hp H1 locs1 ls (by rw [← ht]; exact hB) hS1 hL
theorem wk_room {ls : Array Slot} {stk : List am_V} (h : st.length ≤ 8) : 2 * (F0 m pc ls (stk.map (am_tv G))).monitorRoom + ((st.map (am_tv G)).map fun v => v.category).sum ≤ 8 := by
  exact lv_room (by rw [am_cats]; exact h)
theorem wk_stk {av stk : List am_V} {k0 i0 : Nat} (h : stk = av.reverse ++ .inr (k0, i0) :: st) : stk.map (am_tv G) = (av.map (am_tv G)).reverse ++ Value.ref (G.2.2.1 k0 i0) :: st.map (am_tv G) := by
  subst h
  rw [List.map_append, List.map_reverse]
  rfl
section VIRT
variable {y : MethodName} {ws' : List Cond} {rm : Room} {bytes : ByteArray} {maxL n index k0 i0 ci N : Nat} {ret : Option FieldType} {Cn host : String} {T : u_T} {sl : List (Option (Nat × Nat))} {av stk : List am_V} {Qc : Array Value → State → Outcome → State → Prop}
theorem wk_runV (C : wk_C G p s m args c cc nL own Ts A) (hM : Met l y ws' rm (am_P G σ (.inr (k0, i0) :: av)) Qc 0 0 (am_FA G)) (cw : CallW R s args own Cn index y bytes maxL ret ws' rm 0 0 n)
    (hsh : G.2.2.2.2 k0 i0 = .inl (ci, sl)) (hi : i0 < G.2.2.2.1 k0) (hc : vwCl[ci]? = some (Cn, T, N)) (hn : av.length = n) (hstk : stk = av.reverse ++ .inr (k0, i0) :: st) (hst : st.length ≤ 8) (hdg : decode cc pc = .ok (.invokevirtual index, 3)) (hcs : cells ≤ R.cells ∧ slots ≤ R.slots) :
    ∀ (H : Heap) (locs : List Loc) (ls : Array Slot), am_wd G σ H → ls.size = nL → va_Run p l e R s m args below meth c H locs cells slots 0 0 (F0 m pc ls (stk.map (am_tv G))) (st.map (am_tv G)) (Qc ((.inr (k0, i0) :: av).map (am_tv G)).toArray) (am_FA G) := by
  intro H locs ls hW hL
  exact va_runV (As := av.map (am_tv G)) ⟨C.1, C.2.1, C.2.2.1, C.2.2.2.1, C.2.2.2.2.1⟩ hM cw ⟨am_blind _ _ _, va_recv C.2.2.2.2.2.1.1 (am_one hW hi (by rw [hsh]; rfl)) hc (q0 := 0) rfl, fun U hU hW9 => ⟨rfl, by rw [hU]; exact hW, am_K.warm hW9 C.2.2.2.2.2.1⟩⟩ rfl (by rw [List.length_map]; exact hn) hL (wk_stk hstk) (wk_room hst) hdg hcs
theorem wk_runN (C : wk_C G p s m args c cc nL own Ts A) (hM : Met l y ws' rm (am_P G σ (.inr (k0, i0) :: av)) Qc 0 0 (am_FA G)) (cw : va_CN R s args own index y host bytes maxL ret ws' rm 0 0 n ∧ (Cond.instanceMethod y).before args s = true ∧ (Cond.selects Cn y y).before args s = true)
    (hsh : G.2.2.2.2 k0 i0 = .inl (ci, sl)) (hi : i0 < G.2.2.2.1 k0) (hc : vwCl[ci]? = some (Cn, T, N)) (hn : av.length = n) (hstk : stk = av.reverse ++ .inr (k0, i0) :: st) (hst : st.length ≤ 8) (hdg : decode cc pc = .ok (.invokevirtual index, 3)) (hcs : cells ≤ R.cells ∧ slots ≤ R.slots) :
    ∀ (H : Heap) (locs : List Loc) (ls : Array Slot), am_wd G σ H → ls.size = nL → va_Run p l e R s m args below meth c H locs cells slots 0 0 (F0 m pc ls (stk.map (am_tv G))) (st.map (am_tv G)) (Qc ((.inr (k0, i0) :: av).map (am_tv G)).toArray) (am_FA G) := by
  intro H locs ls hW hL
  exact va_runVN (As := av.map (am_tv G)) ⟨C.1, C.2.1, C.2.2.1, C.2.2.2.1, C.2.2.2.2.1⟩ hM cw ⟨am_blind _ _ _, va_recv C.2.2.2.2.2.1.1 (am_one hW hi (by rw [hsh]; rfl)) hc (q0 := 0) rfl, fun U hU hW9 => ⟨rfl, by rw [hU]; exact hW, am_K.warm hW9 C.2.2.2.2.2.1⟩⟩ rfl (by rw [List.length_map]; exact hn) hL (wk_stk hstk) (wk_room hst) hdg hcs
theorem wk_runS (C : wk_C G p s m args c cc nL own Ts A) (hM : Met l y ws' rm (am_P G σ av) Qc 0 0 (am_FA G)) (cw : CallB R s args own index y bytes maxL ret ws' rm 0 0 n ∧ (Cond.static y).before args s = true)
    (hn : av.length = n) (hstk : stk = av.reverse ++ st) (hst : st.length ≤ 8) (hdg : decode cc pc = .ok (.invokestatic index, 3)) (hcs : cells ≤ R.cells ∧ slots ≤ R.slots) :
    ∀ (H : Heap) (locs : List Loc) (ls : Array Slot), am_wd G σ H → ls.size = nL → va_Run p l e R s m args below meth c H locs cells slots 0 0 (F0 m pc ls (stk.map (am_tv G))) (st.map (am_tv G)) (Qc (av.map (am_tv G)).toArray) (am_FA G) := by
  intro H locs ls hW hL
  exact va_runS (As := av.map (am_tv G)) ⟨C.1, C.2.1, C.2.2.1, C.2.2.2.1, C.2.2.2.2.1⟩ hM cw ⟨am_blind _ _ _, fun U hU hW9 => ⟨rfl, by rw [hU]; exact hW, am_K.warm hW9 C.2.2.2.2.2.1⟩⟩ rfl (by rw [List.length_map]; exact hn) hL (by rw [hstk, List.map_append, List.map_reverse]) (wk_room hst) hdg hcs
end VIRT
end WKE
end
section
/-! the two layouts: Fabricsim's cells by kinds 0 to 18, FabricsimModel's by kinds 20 to 54 (20 + the field's slot) -/
abbrev am_g : Type := va_G × (Nat → ClassId) × (Nat → Nat → Nat)
def lc_d (n : Nat) : Nat := if n < 4 then 8 else 4
def lc_in (n j : Nat) : Nat := if n < 4 then (if j < 4 then 4 * n + j else 48 + 4 * (j - 4) + n) else 32 + 4 * j + (n - 4)
def lc_out (n j : Nat) : Nat := if n < 4 then (if j < 4 then 16 + 4 * n + j else 32 + 4 * n + (j - 4)) else 48 + 4 * (n - 4) + j
def lc_n : Nat → Nat
  | 0 => 1 | 1 => 1 | 2 => 1 | 3 => 1 | 4 => 1 | 5 => 1 | 6 => 1 | 7 => 1 | 8 => 1
  | 9 => 24 | 10 => 16 | 11 => 64 | 12 => 64 | 13 => 64 | 14 => 256 | 15 => 8 | 16 => 8 | 17 => 8 | 18 => 8
  | _ => 0
def lc_s : Nat → Nat → am_Sh
  | 0, _ => .inl (5, [some (1, 0), some (2, 0), some (3, 0), some (4, 0), some (5, 0), some (6, 0), some (7, 0), some (8, 0), none, none, none, none, none])
  | 1, _ => .inr (.inr (2, 24, fun j => (9, j)))
  | 2, _ => .inr (.inr (3, 16, fun j => (10, j)))
  | 3, _ => .inr (.inr (4, 64, fun j => (11, j)))
  | 4, _ => .inr (.inr (4, 16, fun j => (11, 32 + j)))
  | 5, _ => .inr (.inr (4, 16, fun j => (11, 48 + j)))
  | 6, _ => .inr (.inr (5, 4, fun j => (15, j)))
  | 7, _ => .inr (.inr (5, 4, fun j => (15, 4 + j)))
  | 8, _ => .inr (.inl (0, 4))
  | 9, _ => .inl (0, [none, none, none, none, none, none, none, none, none, none, none, none, none])
  | 10, h => .inl (1, [some (11, h), some (11, 16 + h), none, none])
  | 11, L => .inl (2, [some (12, L), some (13, L), none, none, none, none, none])
  | 12, L => .inr (.inr (6, 4, fun j => (14, 4 * L + j)))
  | 13, _ => .inr (.inl (0, 7))
  | 14, _ => .inl (4, [none, none, none, none])
  | 15, n => .inl (3, [some (16, n), some (17, n), some (18, n)])
  | 16, n => .inr (.inr (4, lc_d n, fun j => (11, lc_in n j)))
  | 17, n => .inr (.inr (4, lc_d n, fun j => (11, lc_out n j)))
  | 18, n => .inr (.inl (0, lc_d n))
  | _, _ => .inr (.inl (0, 0))
def lr_n (k : Nat) : Nat := if 20 ≤ k ∧ k < 55 then 1 else 0
def lr_r : List (Option (Nat × Nat)) := [none, none, none, none, none] ++ (List.range 30).map (fun j => some (25 + j, 0)) ++ [none]
def lr_a : Nat → Nat
  | 18 => 64 | 19 => 64 | 20 => 64 | 21 => 64 | 22 => 512 | 23 => 256 | 24 => 256 | 25 => 256 | 26 => 256 | 27 => 16 | 28 => 16 | 29 => 16 | 30 => 16 | 31 => 64 | 32 => 64 | 33 => 64 | 34 => 64
  | _ => 24
def lr_s (k _i : Nat) : am_Sh := if k = 20 then .inl (6, lr_r) else if k = 47 then .inr (.inl (1, 16)) else .inr (.inl (0, lr_a (k - 20)))
def gC (g : am_g) : am_G := (g.1, g.2.1, g.2.2, lc_n, lc_s)
def gR (g : am_g) : am_G := (g.1, g.2.1, g.2.2, lr_n, lr_s)
theorem am_up_app (σ : am_M) (k i j : Nat) (x : Int) (k' i' j' : Nat) : am_up σ k i j x k' i' j' = if k' = k ∧ i' = i ∧ j' = j then x else σ k' i' j' := rfl
/-! plain words: a sum, a search -/
def am_sum (f : Nat → Int) : Nat → Int
  | 0 => 0
  | n + 1 => am_sum f n + f n
/-- the first of the d steps from s on that is true -/
def ab_scan (t : Nat → Bool) : Nat → Nat → Option Nat
  | _, 0 => none
  | s, d + 1 => if t s then some s else ab_scan t (s + 1) d
/-- Link.clear -/
def lk_clear (σ : am_M) (L : Nat) : am_M := fun k i j =>
  if k = 13 ∧ i = L ∧ j < 7 then 0
  else if k = 11 ∧ i = L ∧ j = 2 then 0
  else if k = 11 ∧ i = L ∧ j = 3 then 0
  else if k = 11 ∧ i = L ∧ j = 4 then 4
  else if k = 11 ∧ i = L ∧ j = 5 then -1
  else if k = 11 ∧ i = L ∧ j = 6 then -1
  else σ k i j
/-- Link.put -/
def lk_put (σ : am_M) (L : Nat) (a b c d : Int) : am_M :=
  let q := 4 * L + ((σ 11 L 2 + σ 11 L 3) % 4).toNat
  am_up (am_up (am_up (am_up (am_up (am_up σ 11 L 4 (σ 11 L 4 - 1)) 14 q 0 a) 14 q 1 b) 14 q 2 c) 14 q 3 d) 11 L 3 (σ 11 L 3 + 1)
/-- Link.drop -/
def lk_drop (σ : am_M) (L sl : Nat) : am_M := am_up (am_up (am_up σ 11 L 2 ((σ 11 L 2 + 1) % 4)) 11 L 3 (σ 11 L 3 - 1)) 13 L sl (σ 13 L sl + 1)
/-- the place that Link.pick finds among the n queues of node w; none: it picks none -/
def lk_find (σ : am_M) (L w n : Nat) (self : Int) : Option Nat :=
  if σ 11 L 4 = 0 then none else (ab_scan (fun s => decide (σ 18 w ((σ 11 L 5 + (s : Int)) % (n : Int)).toNat = self)) 1 n).map (fun s => ((σ 11 L 5 + (s : Int)) % (n : Int)).toNat)
def lk_pick (σ : am_M) (L w n : Nat) (self : Int) : am_M := match lk_find σ L w n self with
  | none => am_up σ 11 L 6 (-1)
  | some j => am_up (am_up (am_up σ 11 L 6 (-1)) 11 L 5 (j : Int)) 11 L 6 (j : Int)
/-- fewer locals, other words for the same ones -/
theorem am_ll_of (G : am_G) {ls : Array Slot} {nL : Nat} {lv lw : List (Option am_V)} (h : ∀ (j : Nat) (v : am_V), lw[j]? = some (some v) → lv[j]? = some (some v)) (hL : lv_has ls nL (am_ll G 0 lv)) : lv_has ls nL (am_ll G 0 lw) := by
  refine ⟨hL.1, hL.2.1, fun q hq => hL.2.2 q ?_⟩
  obtain ⟨j, w⟩ := q
  obtain ⟨v, h1, h2, h3⟩ := (am_ll_mem G lw 0 j w).mp hq
  exact (am_ll_mem G lv 0 j w).mpr ⟨v, h1, h _ _ h2, h3⟩
theorem wk_lw {G : am_G} {p : Program} {l : Launch} {e : Env} {R : Room} {s : State} {m : MethodId} {args : Array Value} {below : List Frame} {meth : Method} {c : Code} {cells slots : Nat} {Q : State → Prop} {A : Nat → Prop} {H0 : Heap} {nL pc : Nat} {lv lw : List (Option am_V)} {st : List am_V} {σ : am_M}
    (h : ∀ (j : Nat) (v : am_V), lw[j]? = some (some v) → lv[j]? = some (some v)) (k : wk G p l e R s m args below meth c cells slots Q A H0 nL pc lw st σ) : wk G p l e R s m args below meth c cells slots Q A H0 nL pc lv st σ :=
  fun H locs ls hW hS hL => k H locs ls hW hS (am_ll_of G h hL)
end
section
theorem in_c_X4_write_X4 : ∀ w ∈ u_ws RX4 TX4 4, w ∈ wsX4_write := by decide +kernel
set_option maxRecDepth 100000 in
set_option maxHeartbeats 4000000 in
/-- Packet.write -/
theorem c_X4_write (l : Launch) (g : am_g) (hI : am_inj (gC g)) (σ : am_M) (q : Nat) (hq : q < 256) (a b c2 d2 : Int)  : Met l yX4_write wsX4_write ({ frames := 0, cells := 0, slots := 0, locals := 0 }) (am_P (gC g) σ [.inr (14, q), .inl (a), .inl (b), .inl (c2), .inl (d2)]) (am_QV (gC g) (fun σ' => σ' = am_up (am_up (am_up (am_up σ 14 q 0 a) 14 q 1 b) 14 q 2 c2) 14 q 3 d2)) 0 0 (am_FA (gC g)) := by
  refine wk_start (cc := cX4_write) (nL := 5) (ret := none) (own := RX4) (by decide) rfl hI rfl (Nat.le_of_ble_eq_true rfl) ?_
  intro p e s m below meth c C hr hlk
  change wk _ p l e _ s m _ below meth c 0 0 _ _ _ _ 0 [some (.inr (14, q)), some (.inl (a)), some (.inl (b)), some (.inl (c2)), some (.inl (d2))] [] σ
  refine wk_aload_n C rfl dX4_write_0 ?_
  refine wk_iload_n C rfl dX4_write_1 ?_
  refine wk_put C (k := 14) (ci := 4) (j := 0) (T := TX4) rfl (show _ < (256:Nat) by omega) rfl in_c_X4_write_X4 tyX4 tyX4_ok nmX4 (by decide) (by decide +kernel) rfl rfl (by decide +kernel) dX4_write_2 ?_
  refine wk_aload_n C rfl dX4_write_5 ?_
  refine wk_iload_n C rfl dX4_write_6 ?_
  refine wk_put C (k := 14) (ci := 4) (j := 1) (T := TX4) rfl (show _ < (256:Nat) by omega) rfl in_c_X4_write_X4 tyX4 tyX4_ok nmX4 (by decide) (by decide +kernel) rfl rfl (by decide +kernel) dX4_write_7 ?_
  refine wk_aload_n C rfl dX4_write_10 ?_
  refine wk_iload_n C rfl dX4_write_11 ?_
  refine wk_put C (k := 14) (ci := 4) (j := 2) (T := TX4) rfl (show _ < (256:Nat) by omega) rfl in_c_X4_write_X4 tyX4 tyX4_ok nmX4 (by decide) (by decide +kernel) rfl rfl (by decide +kernel) dX4_write_12 ?_
  refine wk_aload_n C rfl dX4_write_15 ?_
  refine wk_iload C rfl dX4_write_16 ?_
  refine wk_put C (k := 14) (ci := 4) (j := 3) (T := TX4) rfl (show _ < (256:Nat) by omega) rfl in_c_X4_write_X4 tyX4 tyX4_ok nmX4 (by decide) (by decide +kernel) rfl rfl (by decide +kernel) dX4_write_18 ?_
  refine wk_vret C hr hlk dX4_write_21 ?_
  exact (by first | rfl | simp [am_up_app])

theorem in_c_X2_firstPacket_X2 : ∀ w ∈ u_ws RX2 TX2 7, w ∈ wsX2_firstPacket := by decide +kernel
set_option maxRecDepth 100000 in
set_option maxHeartbeats 4000000 in
/-- Link.firstPacket -/
theorem c_X2_firstPacket (l : Launch) (g : am_g) (hI : am_inj (gC g)) (σ : am_M) (L : Nat) (hL : L < 64) (h1 : 0 ≤ σ 11 L 2 ∧ σ 11 L 2 < 4) : Met l yX2_firstPacket wsX2_firstPacket ({ frames := 0, cells := 0, slots := 0, locals := 0 }) (am_P (gC g) σ [.inr (11, L)]) (am_QR (gC g) (fun r σ' => σ' = σ ∧ r = (14, 4 * L + (σ 11 L 2).toNat))) 0 0 (am_FA (gC g)) := by
  refine wk_start (cc := cX2_firstPacket) (nL := 1) (ret := (some (.object "Fabricsim$Packet"))) (own := RX2) (by decide) rfl hI rfl (Nat.le_of_ble_eq_true rfl) ?_
  intro p e s m below meth c C hr hlk
  change wk _ p l e _ s m _ below meth c 0 0 _ _ _ _ 0 [some (.inr (11, L))] [] σ
  refine wk_aload_n C rfl dX2_firstPacket_0 ?_
  refine wk_getr C (k := 11) (ci := 2) (j := 0) (T := TX2) rfl (show _ < (64:Nat) by omega) rfl in_c_X2_firstPacket_X2 (by decide) (by decide +kernel) rfl dX2_firstPacket_1 ?_
  refine wk_aload_n C rfl dX2_firstPacket_4 ?_
  refine wk_geti C (k := 11) (ci := 2) (j := 2) (T := TX2) rfl (show _ < (64:Nat) by omega) rfl in_c_X2_firstPacket_X2 (by decide) (by decide +kernel) rfl dX2_firstPacket_5 ?_
  refine wk_aald C (k := 12) rfl rfl (show _ < (64:Nat) by omega) (Nat.le_of_ble_eq_true rfl) _ (Int.toNat_of_nonneg (by omega)).symm (show _ < (4:Nat) by omega) dX2_firstPacket_8 ?_
  refine wk_aret C hr hlk dX2_firstPacket_9 ?_
  exact ⟨rfl, rfl⟩

theorem in_c_X2_drop_X2 : ∀ w ∈ u_ws RX2 TX2 7, w ∈ wsX2_drop := by decide +kernel
set_option maxRecDepth 100000 in
set_option maxHeartbeats 4000000 in
/-- Link.drop -/
theorem c_X2_drop (l : Launch) (g : am_g) (hI : am_inj (gC g)) (σ : am_M) (L : Nat) (hL : L < 64) (sl : Nat) (hs : sl < 7) (h1 : 0 ≤ σ 11 L 2 ∧ σ 11 L 2 < 4) : Met l yX2_drop wsX2_drop ({ frames := 0, cells := 0, slots := 0, locals := 0 }) (am_P (gC g) σ [.inr (11, L), .inl ((sl : Nat) : Int)]) (am_QV (gC g) (fun σ' => σ' = lk_drop σ L sl)) 0 0 (am_FA (gC g)) := by
  refine wk_start (cc := cX2_drop) (nL := 2) (ret := none) (own := RX2) (by decide) rfl hI rfl (Nat.le_of_ble_eq_true rfl) ?_
  intro p e s m below meth c C hr hlk
  change wk _ p l e _ s m _ below meth c 0 0 _ _ _ _ 0 [some (.inr (11, L)), some (.inl ((sl : Nat) : Int))] [] σ
  refine wk_aload_n C rfl dX2_drop_0 ?_
  refine wk_aload_n C rfl dX2_drop_1 ?_
  refine wk_geti C (k := 11) (ci := 2) (j := 2) (T := TX2) rfl (show _ < (64:Nat) by omega) rfl in_c_X2_drop_X2 (by decide) (by decide +kernel) rfl dX2_drop_2 ?_
  refine wk_iconst C dX2_drop_5 ?_
  refine wk_iadd C dX2_drop_6 ?_
  refine wk_iconst C dX2_drop_7 ?_
  refine wk_irem C (by omega) (by omega) dX2_drop_8 ?_
  refine wk_put C (k := 11) (ci := 2) (j := 2) (T := TX2) rfl (show _ < (64:Nat) by omega) rfl in_c_X2_drop_X2 tyX2 tyX2_ok nmX2 (by decide) (by decide +kernel) rfl rfl (by decide +kernel) dX2_drop_9 ?_
  refine wk_aload_n C rfl dX2_drop_12 ?_
  refine wk_dup C dX2_drop_13 ?_
  refine wk_geti C (k := 11) (ci := 2) (j := 3) (T := TX2) rfl (show _ < (64:Nat) by omega) rfl in_c_X2_drop_X2 (by decide) (by decide +kernel) rfl dX2_drop_14 ?_
  refine wk_iconst C dX2_drop_17 ?_
  refine wk_isub C dX2_drop_18 ?_
  refine wk_put C (k := 11) (ci := 2) (j := 3) (T := TX2) rfl (show _ < (64:Nat) by omega) rfl in_c_X2_drop_X2 tyX2 tyX2_ok nmX2 (by decide) (by decide +kernel) rfl rfl (by decide +kernel) dX2_drop_19 ?_
  refine wk_aload_n C rfl dX2_drop_22 ?_
  refine wk_getr C (k := 11) (ci := 2) (j := 1) (T := TX2) rfl (show _ < (64:Nat) by omega) rfl in_c_X2_drop_X2 (by decide) (by decide +kernel) rfl dX2_drop_23 ?_
  refine wk_iload_n C rfl dX2_drop_26 ?_
  refine wk_dup2 C dX2_drop_27 ?_
  refine wk_iald C (k := 13) rfl (show _ < (64:Nat) by omega) (Nat.le_of_ble_eq_true rfl) (sl) (by omega) (show _ < (7:Nat) by omega) dX2_drop_28 ?_
  refine wk_iconst C dX2_drop_29 ?_
  refine wk_iadd C dX2_drop_30 ?_
  refine wk_iast C (k := 13) rfl (show _ < (64:Nat) by omega) (Nat.le_of_ble_eq_true rfl) (sl) (by omega) (show _ < (7:Nat) by omega) dX2_drop_31 ?_
  refine wk_vret C hr hlk dX2_drop_32 ?_
  exact (by simp [lk_drop, am_up_app])

theorem in_c_X2_takeBack_X2 : ∀ w ∈ u_ws RX2 TX2 7, w ∈ wsX2_takeBack := by decide +kernel
set_option maxRecDepth 100000 in
set_option maxHeartbeats 4000000 in
/-- Link.takeBack -/
theorem c_X2_takeBack (l : Launch) (g : am_g) (hI : am_inj (gC g)) (σ : am_M) (L : Nat) (hL : L < 64) (sl : Nat) (hs : sl < 7)  : Met l yX2_takeBack wsX2_takeBack ({ frames := 0, cells := 0, slots := 0, locals := 0 }) (am_P (gC g) σ [.inr (11, L), .inl ((sl : Nat) : Int)]) (am_QV (gC g) (fun σ' => σ' = am_up (am_up σ 11 L 4 (σ 11 L 4 + σ 13 L sl)) 13 L sl 0)) 0 0 (am_FA (gC g)) := by
  refine wk_start (cc := cX2_takeBack) (nL := 2) (ret := none) (own := RX2) (by decide) rfl hI rfl (Nat.le_of_ble_eq_true rfl) ?_
  intro p e s m below meth c C hr hlk
  change wk _ p l e _ s m _ below meth c 0 0 _ _ _ _ 0 [some (.inr (11, L)), some (.inl ((sl : Nat) : Int))] [] σ
  refine wk_aload_n C rfl dX2_takeBack_0 ?_
  refine wk_dup C dX2_takeBack_1 ?_
  refine wk_geti C (k := 11) (ci := 2) (j := 4) (T := TX2) rfl (show _ < (64:Nat) by omega) rfl in_c_X2_takeBack_X2 (by decide) (by decide +kernel) rfl dX2_takeBack_2 ?_
  refine wk_aload_n C rfl dX2_takeBack_5 ?_
  refine wk_getr C (k := 11) (ci := 2) (j := 1) (T := TX2) rfl (show _ < (64:Nat) by omega) rfl in_c_X2_takeBack_X2 (by decide) (by decide +kernel) rfl dX2_takeBack_6 ?_
  refine wk_iload_n C rfl dX2_takeBack_9 ?_
  refine wk_iald C (k := 13) rfl (show _ < (64:Nat) by omega) (Nat.le_of_ble_eq_true rfl) (sl) (by omega) (show _ < (7:Nat) by omega) dX2_takeBack_10 ?_
  refine wk_iadd C dX2_takeBack_11 ?_
  refine wk_put C (k := 11) (ci := 2) (j := 4) (T := TX2) rfl (show _ < (64:Nat) by omega) rfl in_c_X2_takeBack_X2 tyX2 tyX2_ok nmX2 (by decide) (by decide +kernel) rfl rfl (by decide +kernel) dX2_takeBack_12 ?_
  refine wk_aload_n C rfl dX2_takeBack_15 ?_
  refine wk_getr C (k := 11) (ci := 2) (j := 1) (T := TX2) rfl (show _ < (64:Nat) by omega) rfl in_c_X2_takeBack_X2 (by decide) (by decide +kernel) rfl dX2_takeBack_16 ?_
  refine wk_iload_n C rfl dX2_takeBack_19 ?_
  refine wk_iconst C dX2_takeBack_20 ?_
  refine wk_iast C (k := 13) rfl (show _ < (64:Nat) by omega) (Nat.le_of_ble_eq_true rfl) (sl) (by omega) (show _ < (7:Nat) by omega) dX2_takeBack_21 ?_
  refine wk_vret C hr hlk dX2_takeBack_22 ?_
  exact (by first | rfl | simp [am_up_app])

theorem in_c_X2_put_X2 : ∀ w ∈ u_ws RX2 TX2 7, w ∈ wsX2_put := by decide +kernel
set_option maxRecDepth 100000 in
set_option maxHeartbeats 4000000 in
/-- Link.put -/
theorem c_X2_put (l : Launch) (g : am_g) (hI : am_inj (gC g)) (σ : am_M) (L : Nat) (hL : L < 64) (a b c2 d2 : Int) (h1 : 0 ≤ σ 11 L 2 ∧ σ 11 L 2 < 4) (h2 : 0 ≤ σ 11 L 3 ∧ σ 11 L 3 ≤ 4) : Met l yX2_put wsX2_put ({ frames := 1, cells := 0, slots := 0, locals := 24 }) (am_P (gC g) σ [.inr (11, L), .inl (a), .inl (b), .inl (c2), .inl (d2)]) (am_QV (gC g) (fun σ' => σ' = lk_put σ L a b c2 d2)) 0 0 (am_FA (gC g)) := by
  refine wk_start (cc := cX2_put) (nL := 5) (ret := none) (own := RX2) (by decide) rfl hI rfl (Nat.le_of_ble_eq_true rfl) ?_
  intro p e s m below meth c C hr hlk
  change wk _ p l e _ s m _ below meth c 0 0 _ _ _ _ 0 [some (.inr (11, L)), some (.inl (a)), some (.inl (b)), some (.inl (c2)), some (.inl (d2))] [] σ
  refine wk_aload_n C rfl dX2_put_0 ?_
  refine wk_dup C dX2_put_1 ?_
  refine wk_geti C (k := 11) (ci := 2) (j := 4) (T := TX2) rfl (show _ < (64:Nat) by omega) rfl in_c_X2_put_X2 (by decide) (by decide +kernel) rfl dX2_put_2 ?_
  refine wk_iconst C dX2_put_5 ?_
  refine wk_isub C dX2_put_6 ?_
  refine wk_put C (k := 11) (ci := 2) (j := 4) (T := TX2) rfl (show _ < (64:Nat) by omega) rfl in_c_X2_put_X2 tyX2 tyX2_ok nmX2 (by decide) (by decide +kernel) rfl rfl (by decide +kernel) dX2_put_7 ?_
  refine wk_aload_n C rfl dX2_put_10 ?_
  refine wk_getr C (k := 11) (ci := 2) (j := 0) (T := TX2) rfl (show _ < (64:Nat) by omega) rfl in_c_X2_put_X2 (by decide) (by decide +kernel) rfl dX2_put_11 ?_
  refine wk_aload_n C rfl dX2_put_14 ?_
  refine wk_geti C (k := 11) (ci := 2) (j := 2) (T := TX2) rfl (show _ < (64:Nat) by omega) rfl in_c_X2_put_X2 (by decide) (by decide +kernel) rfl dX2_put_15 ?_
  refine wk_aload_n C rfl dX2_put_18 ?_
  refine wk_geti C (k := 11) (ci := 2) (j := 3) (T := TX2) rfl (show _ < (64:Nat) by omega) rfl in_c_X2_put_X2 (by decide) (by decide +kernel) rfl dX2_put_19 ?_
  refine wk_iadd C dX2_put_22 ?_
  refine wk_iconst C dX2_put_23 ?_
  simp only [am_up_app]
  simp only [show ¬((2:Nat) = 4) by decide, show ¬((3:Nat) = 4) by decide, and_false, if_false]
  refine wk_irem C (by omega) (by omega) dX2_put_24 ?_
  refine wk_aald C (k := 12) rfl rfl (show _ < (64:Nat) by omega) (Nat.le_of_ble_eq_true rfl) _ (Int.toNat_of_nonneg (by omega)).symm (show _ < (4:Nat) by omega) dX2_put_25 ?_
  refine wk_iload_n C rfl dX2_put_26 ?_
  refine wk_iload_n C rfl dX2_put_27 ?_
  refine wk_iload_n C rfl dX2_put_28 ?_
  refine wk_iload C rfl dX2_put_29 ?_
  refine wk_ofV C (wk_runN (host := RX5) (index := 38) (ci := 4) (st := []) C (c_X4_write l g hI _ (4 * L + ((σ 11 L 2 + σ 11 L 3) % 4).toNat) (by omega) a b c2 d2) ⟨va_cnB 4 C.2.2.2.2.1 gX2_put_X4_write_n38 rfl rfl rfl (C.2.2.2.2.2.1.2 _ (by decide +kernel)) (C.2.2.2.2.1 (.initialized RX4) (by decide +kernel)) (by decide +kernel) ⟨Nat.le_of_ble_eq_true rfl, Nat.le_of_ble_eq_true rfl⟩, C.2.2.2.2.1 (.instanceMethod yX4_write) (by decide +kernel), C.2.2.2.2.1 (.selects RX4 yX4_write yX4_write) (by decide +kernel)⟩ rfl (show _ < (256:Nat) by omega) rfl rfl rfl (by decide) dX2_put_31 ⟨Nat.zero_le _, Nat.zero_le _⟩) (fun σ31 hp31 => ?_)
  subst hp31
  refine wk_aload_n C rfl dX2_put_34 ?_
  refine wk_dup C dX2_put_35 ?_
  refine wk_geti C (k := 11) (ci := 2) (j := 3) (T := TX2) rfl (show _ < (64:Nat) by omega) rfl in_c_X2_put_X2 (by decide) (by decide +kernel) rfl dX2_put_36 ?_
  refine wk_iconst C dX2_put_39 ?_
  refine wk_iadd C dX2_put_40 ?_
  refine wk_put C (k := 11) (ci := 2) (j := 3) (T := TX2) rfl (show _ < (64:Nat) by omega) rfl in_c_X2_put_X2 tyX2 tyX2_ok nmX2 (by decide) (by decide +kernel) rfl rfl (by decide +kernel) dX2_put_41 ?_
  refine wk_vret C hr hlk dX2_put_44 ?_
  exact (by simp [lk_put, am_up_app])

theorem in_c_X2_clear_X2 : ∀ w ∈ u_ws RX2 TX2 7, w ∈ wsX2_clear := by decide +kernel
set_option maxRecDepth 100000 in
set_option maxHeartbeats 4000000 in
/-- Link.clear -/
theorem c_X2_clear (l : Launch) (g : am_g) (hI : am_inj (gC g)) (σ : am_M) (L : Nat) (hL : L < 64)  : Met l yX2_clear wsX2_clear ({ frames := 0, cells := 0, slots := 0, locals := 0 }) (am_P (gC g) σ [.inr (11, L)]) (am_QV (gC g) (fun σ' => σ' = lk_clear σ L)) 0 0 (am_FA (gC g)) := by
  refine wk_start (cc := cX2_clear) (nL := 2) (ret := none) (own := RX2) (by decide) rfl hI rfl (Nat.le_of_ble_eq_true rfl) ?_
  intro p e s m below meth c C hr hlk
  change wk _ p l e _ s m _ below meth c 0 0 _ _ _ _ 0 [some (.inr (11, L)), none] [] σ
  refine wk_iconst C dX2_clear_0 ?_
  refine wk_istore_n C (by decide) (Nat.le_of_ble_eq_true rfl) dX2_clear_1 ?_
  have hl2 : ∀ (d i : Nat) (σ1 : am_M), 8 ≤ i + d → i ≤ 7 → (∀ k x j, σ1 k x j = if k = 13 ∧ x = L ∧ j < i then 0 else σ k x j) → wk (gC g) p l e (headSpec wsX2_clear ({ frames := 0, cells := 0, slots := 0, locals := 0 })).room s m ([.inr (11, L)].map (am_tv (gC g))).toArray below meth c 0 0 (MQ below (am_QV (gC g) (fun σ' => σ' = lk_clear σ L)) ([.inr (11, L)].map (am_tv (gC g))).toArray s 0 0 (am_FA (gC g))) (am_FA (gC g)) s.heap 2 2 [some (.inr (11, L)), some (.inl ((i : Nat) : Int))] [] σ1 := by
    intro d
    induction d with
    | zero => intro i σ1 h1 h2 h3; omega
    | succ d ih =>
      intro i σ1 h1 h2 h3
      refine wk_iload_n C rfl dX2_clear_2 ?_
      refine wk_aload_n C rfl dX2_clear_3 ?_
      refine wk_getr C (k := 11) (ci := 2) (j := 1) (T := TX2) rfl (show _ < (64:Nat) by omega) rfl in_c_X2_clear_X2 (by decide) (by decide +kernel) rfl dX2_clear_4 ?_
      refine wk_alenI C (k := 13) rfl rfl (show _ < (64:Nat) by omega) dX2_clear_7 ?_
      refine wk_icmp_ge C 24 (by omega) (by omega) (by decide) dX2_clear_8 (fun hc8 => ?_) (fun hc8 => ?_)
      · skip
        refine wk_aload_n C rfl dX2_clear_24 ?_
        refine wk_iconst C dX2_clear_25 ?_
        refine wk_put C (k := 11) (ci := 2) (j := 2) (T := TX2) rfl (show _ < (64:Nat) by omega) rfl in_c_X2_clear_X2 tyX2 tyX2_ok nmX2 (by decide) (by decide +kernel) rfl rfl (by decide +kernel) dX2_clear_26 ?_
        refine wk_aload_n C rfl dX2_clear_29 ?_
        refine wk_iconst C dX2_clear_30 ?_
        refine wk_put C (k := 11) (ci := 2) (j := 3) (T := TX2) rfl (show _ < (64:Nat) by omega) rfl in_c_X2_clear_X2 tyX2 tyX2_ok nmX2 (by decide) (by decide +kernel) rfl rfl (by decide +kernel) dX2_clear_31 ?_
        refine wk_aload_n C rfl dX2_clear_34 ?_
        refine wk_iconst C dX2_clear_35 ?_
        refine wk_put C (k := 11) (ci := 2) (j := 4) (T := TX2) rfl (show _ < (64:Nat) by omega) rfl in_c_X2_clear_X2 tyX2 tyX2_ok nmX2 (by decide) (by decide +kernel) rfl rfl (by decide +kernel) dX2_clear_36 ?_
        refine wk_aload_n C rfl dX2_clear_39 ?_
        refine wk_iconst C dX2_clear_40 ?_
        refine wk_put C (k := 11) (ci := 2) (j := 5) (T := TX2) rfl (show _ < (64:Nat) by omega) rfl in_c_X2_clear_X2 tyX2 tyX2_ok nmX2 (by decide) (by decide +kernel) rfl rfl (by decide +kernel) dX2_clear_41 ?_
        refine wk_aload_n C rfl dX2_clear_44 ?_
        refine wk_iconst C dX2_clear_45 ?_
        refine wk_put C (k := 11) (ci := 2) (j := 6) (T := TX2) rfl (show _ < (64:Nat) by omega) rfl in_c_X2_clear_X2 tyX2 tyX2_ok nmX2 (by decide) (by decide +kernel) rfl rfl (by decide +kernel) dX2_clear_46 ?_
        refine wk_vret C hr hlk dX2_clear_49 ?_
        funext k x j
        simp only [am_up_app, h3, lk_clear]
        have h4 : i = 7 := by omega
        subst h4
        by_cases q1 : k = 13 ∧ x = L ∧ j < 7
        · simp [q1]
        · simp only [if_neg q1]
          by_cases q2 : k = 11 ∧ x = L
          · obtain ⟨rfl, rfl⟩ := q2
            by_cases e2 : j = 2
            · subst e2; simp
            · by_cases e3 : j = 3
              · subst e3; simp
              · by_cases e4 : j = 4
                · subst e4; simp
                · by_cases e5 : j = 5
                  · subst e5; simp
                  · simp [e2, e3, e4, e5]
          · have h6 : ∀ z, ¬ (k = 11 ∧ x = L ∧ j = z) := fun z hz => q2 ⟨hz.1, hz.2.1⟩
            simp [h6]
      · skip
        refine wk_aload_n C rfl dX2_clear_11 ?_
        refine wk_getr C (k := 11) (ci := 2) (j := 1) (T := TX2) rfl (show _ < (64:Nat) by omega) rfl in_c_X2_clear_X2 (by decide) (by decide +kernel) rfl dX2_clear_12 ?_
        refine wk_iload_n C rfl dX2_clear_15 ?_
        refine wk_iconst C dX2_clear_16 ?_
        refine wk_iast C (k := 13) rfl (show _ < (64:Nat) by omega) (Nat.le_of_ble_eq_true rfl) (i) (by omega) (show _ < (7:Nat) by omega) dX2_clear_17 ?_
        refine wk_iinc C rfl (by decide) dX2_clear_18 ?_
        refine wk_goto C 2 (by decide) dX2_clear_21 ?_
        refine ih (i + 1) _ (by omega) (by omega) (fun k x j => ?_)
        rw [am_up_app, h3]
        by_cases q1 : k = 13 ∧ x = L ∧ j = i
        · rw [if_pos q1, if_pos ⟨q1.1, q1.2.1, by omega⟩]
        · rw [if_neg q1]
          by_cases q2 : k = 13 ∧ x = L ∧ j < i
          · rw [if_pos q2, if_pos ⟨q2.1, q2.2.1, by omega⟩]
          · rw [if_neg q2, if_neg (by omega)]
  exact hl2 8 0 σ (by omega) (by omega) (fun k x j => by simp)

theorem in_c_X2_onTheWayBack_X2 : ∀ w ∈ u_ws RX2 TX2 7, w ∈ wsX2_onTheWayBack := by decide +kernel
set_option maxRecDepth 100000 in
set_option maxHeartbeats 4000000 in
/-- Link.onTheWayBack -/
theorem c_X2_onTheWayBack (l : Launch) (g : am_g) (hI : am_inj (gC g)) (σ : am_M) (L : Nat) (hL : L < 64)  : Met l yX2_onTheWayBack wsX2_onTheWayBack ({ frames := 0, cells := 0, slots := 0, locals := 0 }) (am_P (gC g) σ [.inr (11, L)]) (am_QI (gC g) (fun r σ' => σ' = σ ∧ r = am_sum (σ 13 L) 7)) 0 0 (am_FA (gC g)) := by
  refine wk_start (cc := cX2_onTheWayBack) (nL := 3) (ret := (some .int)) (own := RX2) (by decide) rfl hI rfl (Nat.le_of_ble_eq_true rfl) ?_
  intro p e s m below meth c C hr hlk
  change wk _ p l e _ s m _ below meth c 0 0 _ _ _ _ 0 [some (.inr (11, L)), none, none] [] σ
  refine wk_iconst C dX2_onTheWayBack_0 ?_
  refine wk_istore_n C (by decide) (Nat.le_of_ble_eq_true rfl) dX2_onTheWayBack_1 ?_
  refine wk_iconst C dX2_onTheWayBack_2 ?_
  refine wk_istore_n C (by decide) (Nat.le_of_ble_eq_true rfl) dX2_onTheWayBack_3 ?_
  have hl4 : ∀ (d i : Nat), 8 ≤ i + d → i ≤ 7 → wk (gC g) p l e (headSpec wsX2_onTheWayBack ({ frames := 0, cells := 0, slots := 0, locals := 0 })).room s m ([.inr (11, L)].map (am_tv (gC g))).toArray below meth c 0 0 (MQ below (am_QI (gC g) (fun r σ' => σ' = σ ∧ r = am_sum (σ 13 L) 7)) ([.inr (11, L)].map (am_tv (gC g))).toArray s 0 0 (am_FA (gC g))) (am_FA (gC g)) s.heap 3 4 [some (.inr (11, L)), some (.inl (am_sum (σ 13 L) i)), some (.inl ((i : Nat) : Int))] [] σ := by
    intro d
    induction d with
    | zero => intro i h1 h2; omega
    | succ d ih =>
      intro i h1 h2
      refine wk_iload_n C rfl dX2_onTheWayBack_4 ?_
      refine wk_aload_n C rfl dX2_onTheWayBack_5 ?_
      refine wk_getr C (k := 11) (ci := 2) (j := 1) (T := TX2) rfl (show _ < (64:Nat) by omega) rfl in_c_X2_onTheWayBack_X2 (by decide) (by decide +kernel) rfl dX2_onTheWayBack_6 ?_
      refine wk_alenI C (k := 13) rfl rfl (show _ < (64:Nat) by omega) dX2_onTheWayBack_9 ?_
      refine wk_icmp_ge C 28 (by omega) (by omega) (by decide) dX2_onTheWayBack_10 (fun hc10 => ?_) (fun hc10 => ?_)
      · skip
        refine wk_iload_n C rfl dX2_onTheWayBack_28 ?_
        refine wk_iret C hr hlk dX2_onTheWayBack_29 ?_
        have h4 : i = 7 := by omega
        subst h4
        exact ⟨rfl, rfl⟩
      · skip
        refine wk_iload_n C rfl dX2_onTheWayBack_13 ?_
        refine wk_aload_n C rfl dX2_onTheWayBack_14 ?_
        refine wk_getr C (k := 11) (ci := 2) (j := 1) (T := TX2) rfl (show _ < (64:Nat) by omega) rfl in_c_X2_onTheWayBack_X2 (by decide) (by decide +kernel) rfl dX2_onTheWayBack_15 ?_
        refine wk_iload_n C rfl dX2_onTheWayBack_18 ?_
        refine wk_iald C (k := 13) rfl (show _ < (64:Nat) by omega) (Nat.le_of_ble_eq_true rfl) (i) (by omega) (show _ < (7:Nat) by omega) dX2_onTheWayBack_19 ?_
        refine wk_iadd C dX2_onTheWayBack_20 ?_
        refine wk_istore_n C (by decide) (Nat.le_of_ble_eq_true rfl) dX2_onTheWayBack_21 ?_
        refine wk_iinc C rfl (by decide) dX2_onTheWayBack_22 ?_
        refine wk_goto C 4 (by decide) dX2_onTheWayBack_25 ?_
        exact ih (i + 1) (by omega) (by omega)
  exact hl4 8 0 (by omega) (by omega)

theorem in_c_X2_pick_X2 : ∀ w ∈ u_ws RX2 TX2 7, w ∈ wsX2_pick := by decide +kernel
set_option maxRecDepth 100000 in
set_option maxHeartbeats 4000000 in
/-- Link.pick -/
theorem c_X2_pick (l : Launch) (g : am_g) (hI : am_inj (gC g)) (σ : am_M) (L : Nat) (hL : L < 64) (w n : Nat) (hw : w < 8) (hn : n = lc_d w) (self : Int) (hself : -1000 ≤ self ∧ self ≤ 1000) (h1 : 0 ≤ σ 11 L 4 ∧ σ 11 L 4 ≤ 4) (h2 : -1 ≤ σ 11 L 5 ∧ σ 11 L 5 < 8) (h3 : ∀ j, j < n → -1000 ≤ σ 18 w j ∧ σ 18 w j ≤ 1000) : Met l yX2_pick wsX2_pick ({ frames := 0, cells := 0, slots := 0, locals := 0 }) (am_P (gC g) σ [.inr (11, L), .inr (18, w), .inl (self)]) (am_QV (gC g) (fun σ' => σ' = lk_pick σ L w n self)) 0 0 (am_FA (gC g)) := by
  refine wk_start (cc := cX2_pick) (nL := 5) (ret := none) (own := RX2) (by decide) rfl hI rfl (Nat.le_of_ble_eq_true rfl) ?_
  intro p e s m below meth c C hr hlk
  change wk _ p l e _ s m _ below meth c 0 0 _ _ _ _ 0 [some (.inr (11, L)), some (.inr (18, w)), some (.inl (self)), none, none] [] σ
  have hd : lc_d w = n := hn.symm
  have hn4 : n = 4 ∨ n = 8 := by rw [hn]; unfold lc_d; split <;> simp
  refine wk_aload_n C rfl dX2_pick_0 ?_
  refine wk_iconst C dX2_pick_1 ?_
  refine wk_put C (k := 11) (ci := 2) (j := 6) (T := TX2) rfl (show _ < (64:Nat) by omega) rfl in_c_X2_pick_X2 tyX2 tyX2_ok nmX2 (by decide) (by decide +kernel) rfl rfl (by decide +kernel) dX2_pick_2 ?_
  refine wk_aload_n C rfl dX2_pick_5 ?_
  refine wk_geti C (k := 11) (ci := 2) (j := 4) (T := TX2) rfl (show _ < (64:Nat) by omega) rfl in_c_X2_pick_X2 (by decide) (by decide +kernel) rfl dX2_pick_6 ?_
  simp only [am_up_app, show ¬((4:Nat) = 6) by decide, and_false, if_false]
  refine wk_if_ne C 13 (by omega) (by decide) dX2_pick_9 (fun hc9 => ?_) (fun hc9 => ?_)
  · skip
    refine wk_iconst C dX2_pick_13 ?_
    refine wk_istore_n C (by decide) (Nat.le_of_ble_eq_true rfl) dX2_pick_14 ?_
    have hl15 : ∀ (d i : Nat), n + 2 ≤ i + d → 1 ≤ i → i ≤ n + 1 → lk_find σ L w n self = (ab_scan (fun s => decide (σ 18 w ((σ 11 L 5 + (s : Int)) % (n : Int)).toNat = self)) i (n + 1 - i)).map (fun s => ((σ 11 L 5 + (s : Int)) % (n : Int)).toNat) → wk (gC g) p l e (headSpec wsX2_pick ({ frames := 0, cells := 0, slots := 0, locals := 0 })).room s m ([.inr (11, L), .inr (18, w), .inl (self)].map (am_tv (gC g))).toArray below meth c 0 0 (MQ below (am_QV (gC g) (fun σ' => σ' = lk_pick σ L w n self)) ([.inr (11, L), .inr (18, w), .inl (self)].map (am_tv (gC g))).toArray s 0 0 (am_FA (gC g))) (am_FA (gC g)) s.heap 5 15 [some (.inr (11, L)), some (.inr (18, w)), some (.inl (self)), some (.inl ((i : Nat) : Int)), none] [] (am_up σ 11 L 6 (-1)) := by
      intro d
      induction d with
      | zero => intro i hid hi1 hi2 hf; omega
      | succ d ih =>
        intro i hid hi1 hi2 hf
        refine wk_iload_n C rfl dX2_pick_15 ?_
        refine wk_aload_n C rfl dX2_pick_16 ?_
        refine wk_alenI C (k := 18) rfl rfl (show _ < (8:Nat) by omega) dX2_pick_17 ?_
        simp only [hd]
        refine wk_icmp_gt C 59 (by omega) (by omega) (by decide) dX2_pick_18 (fun hc18 => ?_) (fun hc18 => ?_)
        · skip
          refine wk_vret C hr hlk dX2_pick_59 ?_
          unfold lk_pick
          rw [hf, show n + 1 - i = 0 by omega]
          rfl
        · skip
          refine wk_aload_n C rfl dX2_pick_21 ?_
          refine wk_geti C (k := 11) (ci := 2) (j := 5) (T := TX2) rfl (show _ < (64:Nat) by omega) rfl in_c_X2_pick_X2 (by decide) (by decide +kernel) rfl dX2_pick_22 ?_
          simp only [am_up_app, show ¬((5:Nat) = 6) by decide, and_false, if_false]
          refine wk_iload_n C rfl dX2_pick_25 ?_
          refine wk_iadd C dX2_pick_26 ?_
          refine wk_aload_n C rfl dX2_pick_27 ?_
          refine wk_alenI C (k := 18) rfl rfl (show _ < (8:Nat) by omega) dX2_pick_28 ?_
          simp only [hd]
          refine wk_irem C (by omega) (by omega) dX2_pick_29 ?_
          have hm1 := Int.emod_nonneg (σ 11 L 5 + (i : Int)) (b := (n : Int)) (by omega)
          have hm2 := Int.emod_lt_of_pos (σ 11 L 5 + (i : Int)) (b := (n : Int)) (by omega)
          refine wk_istore C (by decide) (Nat.le_of_ble_eq_true rfl) dX2_pick_30 ?_
          refine wk_aload_n C rfl dX2_pick_32 ?_
          refine wk_iload C rfl dX2_pick_33 ?_
          refine wk_iald C (k := 18) rfl (show _ < (8:Nat) by omega) (by omega) _ (Int.toNat_of_nonneg (by omega)).symm (by omega) dX2_pick_35 ?_
          simp only [am_up_app, show ¬((18:Nat) = 11) by decide, false_and, if_false]
          refine wk_iload_n C rfl dX2_pick_36 ?_
          have hj := h3 ((σ 11 L 5 + (i : Int)) % (n : Int)).toNat (by omega)
          refine wk_icmp_ne C 53 (by omega) (by omega) (by decide) dX2_pick_37 (fun hc37 => ?_) (fun hc37 => ?_)
          · skip
            refine wk_iinc C rfl (by decide) dX2_pick_53 ?_
            refine wk_goto C 15 (by decide) dX2_pick_56 ?_
            refine wk_lw (lw := [some (.inr (11, L)), some (.inr (18, w)), some (.inl self), some (.inl (((i + 1 : Nat) : Nat) : Int)), none]) ?_ (ih (i + 1) (by omega) (by omega) (by omega) ?_)
            · intro j v hv; match j, hv with | 0, hv => exact hv | 1, hv => exact hv | 2, hv => exact hv | 3, hv => exact hv | 4, hv => cases hv | j + 5, hv => exact absurd hv (by simp)
            · rw [hf, show n + 1 - i = (n - i) + 1 by omega, ab_scan, if_neg (by simpa using hc37), show n - i = n + 1 - (i + 1) by omega]
          · skip
            refine wk_aload_n C rfl dX2_pick_40 ?_
            refine wk_iload C rfl dX2_pick_41 ?_
            refine wk_put C (k := 11) (ci := 2) (j := 5) (T := TX2) rfl (show _ < (64:Nat) by omega) rfl in_c_X2_pick_X2 tyX2 tyX2_ok nmX2 (by decide) (by decide +kernel) rfl rfl (by decide +kernel) dX2_pick_43 ?_
            refine wk_aload_n C rfl dX2_pick_46 ?_
            refine wk_iload C rfl dX2_pick_47 ?_
            refine wk_put C (k := 11) (ci := 2) (j := 6) (T := TX2) rfl (show _ < (64:Nat) by omega) rfl in_c_X2_pick_X2 tyX2 tyX2_ok nmX2 (by decide) (by decide +kernel) rfl rfl (by decide +kernel) dX2_pick_49 ?_
            refine wk_vret C hr hlk dX2_pick_52 ?_
            unfold lk_pick
            rw [hf, show n + 1 - i = (n - i) + 1 by omega, ab_scan, if_pos (by simpa using hc37)]
            show _ = am_up (am_up (am_up σ 11 L 6 (-1)) 11 L 5 ((((σ 11 L 5 + (i : Int)) % (n : Int)).toNat : Nat) : Int)) 11 L 6 ((((σ 11 L 5 + (i : Int)) % (n : Int)).toNat : Nat) : Int)
            rw [Int.toNat_of_nonneg (by omega)]
    refine hl15 (n + 1) 1 (by omega) (by omega) (by omega) ?_
    have h4 : ¬ σ 11 L 4 = 0 := hc9
    rw [lk_find, if_neg h4]
    rfl
  · skip
    refine wk_vret C hr hlk dX2_pick_12 ?_
    have h4 : σ 11 L 4 = 0 := by omega
    simp [lk_pick, lk_find, h4]
end
section
/-! the mathematical state: S f i. Fields: 0 source, 1 target, 2 packets, 3 start, 4 sent, 5 delivered, 6 lost, 7 late, 8 greatest, 9 done, 10 flowlets, 11 spine, 12 latest (by flow);
13 credits, 14 size, 15 last queue (by link); 16 open, 17 last flow (by host); 18 cut (4 leaf + spine); 19 delay, gap, window, clock, flows; 20 flow, 21 number, 22 flowlet, 23 spine of the packet at place j of the queue of link L (4 L + j); 24 credits of link L that return in tick t (64 t + L) -/
abbrev ab_S : Type := Nat → Nat → Int
def ab_u (S : ab_S) (f i : Nat) (x : Int) : ab_S := fun g j => if g = f ∧ j = i then x else S g j
theorem ab_u_app (S : ab_S) (f i : Nat) (x : Int) (g j : Nat) : ab_u S f i x g j = if g = f ∧ j = i then x else S g j := rfl
def ab_fl (S : ab_S) (q : Nat) : Nat := (S 20 (4 * q)).toNat
def ab_la (S : ab_S) (f : Nat) : Nat := (S 0 f / 4).toNat
def ab_lb (S : ab_S) (f : Nat) : Nat := (S 1 f / 4).toNat
def ab_far (S : ab_S) (f : Nat) : Bool := decide (S 0 f / 4 ≠ S 1 f / 4)
def ab_us (S : ab_S) (a b s : Nat) : Bool := decide (S 18 (4 * a + s) = 0) && decide (S 18 (4 * b + s) = 0)
def ab_1 (b : Bool) : Int := if b then 1 else 0
def ab_many (S : ab_S) (a b : Nat) : Int := ab_1 (ab_us S a b 0) + ab_1 (ab_us S a b 1) + ab_1 (ab_us S a b 2) + ab_1 (ab_us S a b 3)
def ab_nth (u0 u1 u2 u3 : Bool) (p : Int) : Int :=
  if u0 = true ∧ p = 0 then 0 else if u1 = true ∧ p = ab_1 u0 then 1 else if u2 = true ∧ p = ab_1 u0 + ab_1 u1 then 2 else if u3 = true ∧ p = ab_1 u0 + ab_1 u1 + ab_1 u2 then 3 else -1
def ab_chosen (S : ab_S) (f : Nat) (k : Int) : Int :=
  if ab_many S (ab_la S f) (ab_lb S f) = 0 then -1 else
  ab_nth (ab_us S (ab_la S f) (ab_lb S f) 0) (ab_us S (ab_la S f) (ab_lb S f) 1) (ab_us S (ab_la S f) (ab_lb S f) 2) (ab_us S (ab_la S f) (ab_lb S f) 3) ((7 * (f : Int) + 13 * k + 3 * S 0 f + 5 * S 1 f) % ab_many S (ab_la S f) (ab_lb S f))
/-- the tick in which a credit comes back that is freed now -/
def ab_T (S : ab_S) : Nat := (S 19 3).toNat + 1 + (S 19 0).toNat
def ab_mask (S : ab_S) (a : Nat) : Int := (1 - S 18 (4 * a)) + 2 * (1 - S 18 (4 * a + 1)) + 4 * (1 - S 18 (4 * a + 2)) + 8 * (1 - S 18 (4 * a + 3))
def ab_um (S : ab_S) (a b : Nat) : Int := ab_1 (ab_us S a b 0) + 2 * ab_1 (ab_us S a b 1) + 4 * ab_1 (ab_us S a b 2) + 8 * ab_1 (ab_us S a b 3)
/-- the steps of a tick -/
def ab_back (S : ab_S) (k : Nat) : ab_S := fun f i =>
  if f = 13 ∧ i < k then S 13 i + S 24 (64 * (S 19 3).toNat + i)
  else if f = 24 ∧ i / 64 = (S 19 3).toNat ∧ i % 64 < k then 0 else S f i
def ab_drop (S : ab_S) (L : Nat) : ab_S := fun f i =>
  if f = 14 ∧ i = L then S 14 L - 1
  else if 20 ≤ f ∧ f ≤ 23 ∧ i / 4 = L ∧ i % 4 < 3 then S f (i + 1)
  else if f = 24 ∧ i = 64 * ab_T S + L then S 24 i + 1 else S f i
def ab_put (S : ab_S) (L : Nat) (a b c d : Int) : ab_S := fun f i =>
  if f = 14 ∧ i = L then S 14 L + 1
  else if f = 20 ∧ i = 4 * L + (S 14 L).toNat then a
  else if f = 21 ∧ i = 4 * L + (S 14 L).toNat then b
  else if f = 22 ∧ i = 4 * L + (S 14 L).toNat then c
  else if f = 23 ∧ i = 4 * L + (S 14 L).toNat then d else S f i
/-- a packet of the flow f with the number x is delivered -/
def ab_got (S : ab_S) (f : Nat) (x : Int) : ab_S := fun g i =>
  if g = 5 ∧ i = f then S 5 f + 1
  else if g = 7 ∧ i = f then S 7 f + (if x < S 8 f then 1 else 0)
  else if g = 8 ∧ i = f then (if x < S 8 f then S 8 f else x)
  else if g = 9 ∧ i = f then (if S 5 f + 1 = S 2 f then S 19 3 else S 9 f) else S g i
def ab_dlv (S : ab_S) (h : Nat) : ab_S := if 0 < S 14 (16 + h) then ab_drop (ab_u (ab_got S (ab_fl S (16 + h)) (S 21 (4 * (16 + h)))) 16 h (S 16 h - 1)) (16 + h) else S
def ab_dlvN (S : ab_S) : Nat → ab_S
  | 0 => S
  | k + 1 => ab_dlv (ab_dlvN S k) k
def ab_dlvC (S : ab_S) : Nat → Int
  | 0 => 0
  | k + 1 => ab_dlvC S k + (if 0 < ab_dlvN S k 14 (16 + k) then 1 else 0)
def ab_lose (S : ab_S) (sp lf : Nat) : ab_S :=
  if 0 < S 14 (32 + 4 * lf + sp) ∧ ¬ S 18 (4 * ab_lb S (ab_fl S (32 + 4 * lf + sp)) + sp) = 0 then
    ab_drop (ab_u (ab_u S 6 (ab_fl S (32 + 4 * lf + sp)) (S 6 (ab_fl S (32 + 4 * lf + sp)) + 1)) 16 (S 1 (ab_fl S (32 + 4 * lf + sp))).toNat (S 16 (S 1 (ab_fl S (32 + 4 * lf + sp))).toNat - 1)) (32 + 4 * lf + sp)
  else S
def ab_loseN (S : ab_S) : Nat → ab_S
  | 0 => S
  | k + 1 => ab_lose (ab_loseN S k) (k / 4) (k % 4)
def ab_cho (S : ab_S) (L : Nat) : ab_S :=
  if 0 < S 14 L ∧ ab_far S (ab_fl S L) = true ∧ ab_us S (L / 4) (ab_lb S (ab_fl S L)) (S 23 (4 * L)).toNat = false ∧ ¬ ab_chosen S (ab_fl S L) (S 22 (4 * L)) = -1 then ab_u S 23 (4 * L) (ab_chosen S (ab_fl S L) (S 22 (4 * L))) else S
def ab_choN (S : ab_S) : Nat → ab_S
  | 0 => S
  | k + 1 => ab_cho (ab_choN S k) k
/-- the link that the first packet of a queue wants -/
def ab_w (S : ab_S) (q : Nat) : Int :=
  if S 14 q = 0 ∨ (16 ≤ q ∧ q < 32) then -1
  else if 48 ≤ q then 16 + S 1 (ab_fl S q)
  else if 32 ≤ q then 48 + 4 * (((q - 32) % 4 : Nat) : Int) + S 1 (ab_fl S q) / 4
  else if ((q / 4 : Nat) : Int) = S 1 (ab_fl S q) / 4 then 16 + S 1 (ab_fl S q)
  else if ab_us S (q / 4) (ab_lb S (ab_fl S q)) (S 23 (4 * q)).toNat = true then 32 + 4 * ((q / 4 : Nat) : Int) + S 23 (4 * q) else -1
def ab_qat (L j : Nat) : Nat := if 48 ≤ L then 32 + 4 * j + (L - 48) / 4 else if 32 ≤ L then (if j < 4 then 4 * ((L - 32) / 4) + j else 48 + 4 * (j - 4) + (L - 32) / 4) else (if j < 4 then 4 * ((L - 16) / 4) + j else 48 + 4 * (j - 4) + (L - 16) / 4)
def ab_m (L : Nat) : Nat := if 48 ≤ L then 4 else 8
def ab_shut (S : ab_S) (L : Nat) : Bool := if 48 ≤ L then decide (¬ S 18 (4 * ((L - 48) % 4) + (L - 48) / 4) = 0) else decide (32 ≤ L) && decide (¬ S 18 (L - 32) = 0)
def ab_plc (S : ab_S) (L s : Nat) : Nat := ((S 15 L + (s : Int)) % ((ab_m L : Nat) : Int)).toNat
def ab_pick (S : ab_S) (L : Nat) : Int :=
  if 0 < S 13 L ∧ ab_shut S L = false then (match ab_scan (fun s => decide (ab_w S (ab_qat L (ab_plc S L s)) = (L : Int))) 1 (ab_m L) with
    | none => -1
    | some s => (ab_plc S L s : Int)) else -1
def ab_may (S : ab_S) (op : Nat → Int) (f h : Nat) : Bool := decide (S 0 f = (h : Int)) && decide (S 3 f ≤ S 19 3) && decide (S 4 f - S 6 f < S 2 f) && (!ab_far S f || decide (¬ ab_many S (ab_la S f) (ab_lb S f) = 0)) && decide (op (S 1 f).toNat < S 19 2)
def ab_self (S : ab_S) (op : Nat → Int) (h : Nat) : Int :=
  if 0 < S 13 h then (match ab_scan (fun s => ab_may S op ((S 17 h + (s : Int)) % S 19 4).toNat h) 1 (S 19 4).toNat with
    | none => -1
    | some s => (S 17 h + (s : Int)) % S 19 4) else -1
/-- the open packets when the hosts below k have picked -/
def ab_op (S : ab_S) : Nat → Nat → Int
  | 0 => S 16
  | k + 1 => fun t => ab_op S k t + (if ¬ ab_self S (ab_op S k) k = -1 ∧ (S 1 (ab_self S (ab_op S k) k).toNat).toNat = t then 1 else 0)
/-- the flow that the host h picks -/
def ab_F (S : ab_S) (h : Nat) : Int := ab_self S (ab_op S h) h
def ab_new (S : ab_S) (f : Nat) : Bool := ab_far S f && (decide (S 10 f = 0) || decide (S 19 1 < S 19 3 - S 12 f) || !ab_us S (ab_la S f) (ab_lb S f) (S 11 f).toNat)
/-- what the host h sends: of its flow f, the field x of the packet -/
def ab_pk (S : ab_S) (f x : Nat) : Int :=
  if x = 0 then (f : Int) else if x = 1 then S 4 f else if x = 2 then S 10 f + ab_1 (ab_new S f) - 1 else if ab_new S f = true then ab_chosen S f (S 10 f) else S 11 f
/-- between picking and the end of the tick: the links of XQ have noted what they picked, credits are taken by the links of XC and the hosts below K, packets are put by the links of X and the hosts below M, the queues of D have lost their first -/
def ab_Z (S : ab_S) (XQ XC X D : Nat → Bool) (K M : Nat) : ab_S := fun f i =>
  if f = 4 then S 4 i + (if S 0 i < (M : Int) ∧ ab_F S (S 0 i).toNat = (i : Int) then 1 else 0)
  else if f = 12 then (if S 0 i < (M : Int) ∧ ab_F S (S 0 i).toNat = (i : Int) then S 19 3 else S 12 i)
  else if f = 10 then S 10 i + (if S 0 i < (M : Int) ∧ ab_F S (S 0 i).toNat = (i : Int) then ab_1 (ab_new S i) else 0)
  else if f = 11 then (if S 0 i < (M : Int) ∧ ab_F S (S 0 i).toNat = (i : Int) ∧ ab_new S i = true then ab_chosen S i (S 10 i) else S 11 i)
  else if f = 13 then S 13 i - (if i < 16 then (if i < K ∧ ¬ ab_F S i = -1 then 1 else 0) else ab_1 (XC i))
  else if f = 14 then S 14 i - ab_1 (D i) + (if i < 16 then (if i < M ∧ ¬ ab_F S i = -1 then 1 else 0) else ab_1 (X i))
  else if f = 15 then (if 16 ≤ i ∧ XQ i = true ∧ ¬ ab_pick S i = -1 then ab_pick S i else S 15 i)
  else if f = 16 then ab_op S K i
  else if f = 17 then (if i < K ∧ ¬ ab_F S i = -1 then ab_F S i else S 17 i)
  else if f = 24 then S 24 i + (if i / 64 = ab_T S then ab_1 (D (i % 64)) else 0)
  else if 20 ≤ f ∧ f ≤ 23 then
    (if i / 4 < 16 ∧ i / 4 < M ∧ ¬ ab_F S (i / 4) = -1 ∧ ((i % 4 : Nat) : Int) = S 14 (i / 4) - ab_1 (D (i / 4)) then ab_pk S (ab_F S (i / 4)).toNat (f - 20)
     else if 16 ≤ i / 4 ∧ X (i / 4) = true ∧ ((i % 4 : Nat) : Int) = S 14 (i / 4) - ab_1 (D (i / 4)) then S f (4 * ab_qat (i / 4) (ab_pick S (i / 4)).toNat)
     else if D (i / 4) = true then S f (i + 1) else S f i)
  else S f i
/-! the two representations -/
def ab_C (S : ab_S) (σ : am_M) : Prop :=
  (σ 0 0 8 = S 19 4 ∧ σ 0 0 9 = S 19 3 ∧ σ 0 0 10 = S 19 0 ∧ σ 0 0 11 = S 19 1 ∧ σ 0 0 12 = S 19 2) ∧
  (∀ f j : Nat, (f : Int) < S 19 4 → j < 13 → σ 9 f j = S j f) ∧
  (∀ h : Nat, h < 16 → σ 10 h 2 = S 16 h ∧ σ 10 h 3 = S 17 h) ∧
  (∀ L : Nat, L < 64 → σ 11 L 3 = S 14 L ∧ σ 11 L 4 = S 13 L ∧ (0 ≤ σ 11 L 2 ∧ σ 11 L 2 < 4) ∧ σ 11 L 5 = S 15 L) ∧
  (∀ L j x : Nat, L < 64 → (j : Int) < S 14 L → x < 4 → σ 14 (4 * L + ((σ 11 L 2 + (j : Int)) % 4).toNat) x = S (20 + x) (4 * L + j)) ∧
  (∀ L t : Nat, L < 64 → S 19 3 ≤ (t : Int) → (t : Int) < S 19 3 + 7 → σ 13 L (t % 7) = S 24 (64 * t + L)) ∧
  (∀ a : Nat, a < 4 → σ 8 0 a = ab_mask S a)
def ab_R (S : ab_S) (ρ : am_M) : Prop :=
  (ρ 20 0 4 = S 19 4 ∧ ρ 20 0 3 = S 19 3 ∧ ρ 20 0 0 = S 19 0 ∧ ρ 20 0 1 = S 19 1 ∧ ρ 20 0 2 = S 19 2) ∧
  (∀ f j : Nat, (f : Int) < S 19 4 → j < 13 → ρ (25 + j) 0 f = S j f) ∧
  (∀ h : Nat, h < 16 → ρ 50 0 h = S 16 h ∧ ρ 48 0 h = S 17 h) ∧
  (∀ L : Nat, L < 64 → ρ 39 0 L = S 14 L ∧ ρ 38 0 L = S 13 L ∧ ρ 40 0 L = S 15 L) ∧
  (∀ L j : Nat, L < 64 → (j : Int) < S 14 L → ρ 43 0 (4 * L + j) = S 20 (4 * L + j) ∧ ρ 44 0 (4 * L + j) = S 21 (4 * L + j) ∧ ρ 46 0 (4 * L + j) = S 22 (4 * L + j) ∧ ρ 45 0 (4 * L + j) = S 23 (4 * L + j)) ∧
  (∀ L t : Nat, L < 64 → S 19 3 ≤ (t : Int) → (t : Int) < S 19 3 + 8 → ρ 42 0 (8 * L + t % 8) = S 24 (64 * t + L)) ∧
  (∀ q : Nat, q < 16 → ρ 47 0 q = S 18 q)
/-- what holds of the state between the steps; b: how far the counters may have come -/
def ab_rs (S : ab_S) (L : Nat) : Int := am_sum (fun d => S 24 (64 * ((S 19 3).toNat + d) + L)) 7
def ab_If (S : ab_S) (b : Int) (f : Nat) : Prop :=
  (0 ≤ S 0 f ∧ S 0 f < 16) ∧ (0 ≤ S 1 f ∧ S 1 f < 16) ∧ (1 ≤ S 2 f ∧ S 2 f ≤ 100) ∧ (0 ≤ S 3 f ∧ S 3 f ≤ 100200) ∧
  (0 ≤ S 4 f ∧ S 4 f ≤ b) ∧ (0 ≤ S 5 f ∧ S 5 f ≤ b) ∧ (0 ≤ S 6 f ∧ S 6 f ≤ b) ∧ (0 ≤ S 7 f ∧ S 7 f ≤ b) ∧ (-1 ≤ S 8 f ∧ S 8 f ≤ b) ∧ (-1 ≤ S 9 f ∧ S 9 f ≤ 100000) ∧ (0 ≤ S 10 f ∧ S 10 f ≤ b) ∧ (-1 ≤ S 11 f ∧ S 11 f ≤ 3) ∧ (-1 ≤ S 12 f ∧ S 12 f ≤ 100000) ∧
  (ab_far S f = true → (S 12 f = -1 ↔ S 10 f = 0) ∧ (0 < S 10 f → 0 ≤ S 11 f)) ∧ (ab_far S f = false → S 10 f = 0 ∧ S 11 f = -1)
def ab_Iq (S : ab_S) (b : Int) (L j : Nat) : Prop :=
  (0 ≤ S 20 (4 * L + j) ∧ S 20 (4 * L + j) < S 19 4) ∧ (0 ≤ S 21 (4 * L + j) ∧ S 21 (4 * L + j) ≤ b) ∧ (-1 ≤ S 22 (4 * L + j) ∧ S 22 (4 * L + j) ≤ b) ∧ (-1 ≤ S 23 (4 * L + j) ∧ S 23 (4 * L + j) ≤ 3) ∧
  (L < 16 → S 0 (S 20 (4 * L + j)).toNat = (L : Int) ∧ (ab_far S (S 20 (4 * L + j)).toNat = true → 0 ≤ S 22 (4 * L + j) ∧ 0 ≤ S 23 (4 * L + j))) ∧
  (16 ≤ L → L < 32 → S 1 (S 20 (4 * L + j)).toNat = (L : Int) - 16) ∧
  (48 ≤ L → S 1 (S 20 (4 * L + j)).toNat / 4 = (((L - 48) % 4 : Nat) : Int))
def ab_I (S : ab_S) (b : Int) : Prop :=
  (0 ≤ b ∧ b ≤ 100000000) ∧ ((0 ≤ S 19 0 ∧ S 19 0 ≤ 5) ∧ (1 ≤ S 19 1 ∧ S 19 1 ≤ 50) ∧ (1 ≤ S 19 2 ∧ S 19 2 ≤ 16) ∧ (0 ≤ S 19 3 ∧ S 19 3 ≤ 100000) ∧ (0 ≤ S 19 4 ∧ S 19 4 ≤ 24)) ∧
  (∀ f : Nat, (f : Int) < S 19 4 → ab_If S b f) ∧
  (∀ L : Nat, L < 64 → 0 ≤ S 13 L ∧ 0 ≤ S 14 L ∧ S 13 L + S 14 L + ab_rs S L = 4 ∧ -1 ≤ S 15 L ∧ S 15 L < 8 ∧ (48 ≤ L → S 15 L < 4)) ∧
  (∀ L t : Nat, L < 64 → 0 ≤ S 24 (64 * t + L) ∧ (S 19 3 + 7 ≤ (t : Int) → S 24 (64 * t + L) = 0)) ∧
  (∀ h : Nat, h < 16 → (-b ≤ S 16 h ∧ S 16 h ≤ b) ∧ (-1 ≤ S 17 h ∧ S 17 h < 24)) ∧
  (∀ q : Nat, q < 16 → S 18 q = 0 ∨ S 18 q = 1) ∧
  (∀ L j : Nat, L < 64 → (j : Int) < S 14 L → ab_Iq S b L j)
/-- two states that differ at most behind the ends of the queues -/
def ab_eq (S T : ab_S) : Prop := (∀ f i : Nat, (f < 20 ∨ 23 < f) → S f i = T f i) ∧ ∀ L j x : Nat, L < 64 → (j : Int) < S 14 L → x < 4 → S (20 + x) (4 * L + j) = T (20 + x) (4 * L + j)
end
section
/-! Fabricsim's representation under the single writes -/
theorem ab_mask_cg {S T : ab_S} (h : ∀ q, S 18 q = T 18 q) (a : Nat) : ab_mask S a = ab_mask T a := by simp only [ab_mask, h]
theorem ab_C_eq {S T : ab_S} {σ : am_M} (e : ab_eq S T) (h : ab_C S σ) : ab_C T σ := by
  obtain ⟨h1, h2, h3, h4, h5, h6, h7⟩ := h
  have e0 : ∀ f i : Nat, (f < 20 ∨ 23 < f) → T f i = S f i := fun f i q => (e.1 f i q).symm
  refine ⟨?_, ?_, ?_, ?_, ?_, ?_, ?_⟩
  · simp only [e0 19 _ (by omega)]; exact h1
  · intro f j hf hj; rw [e0 19 _ (by omega)] at hf; rw [e0 j _ (by omega)]; exact h2 f j hf hj
  · intro k hk; simp only [e0 16 _ (by omega), e0 17 _ (by omega)]; exact h3 k hk
  · intro L hL; simp only [e0 13 _ (by omega), e0 14 _ (by omega), e0 15 _ (by omega)]; exact h4 L hL
  · intro L j x hL hj hx
    rw [e0 14 _ (by omega)] at hj
    rw [← e.2 L j x hL hj hx]
    exact h5 L j x hL hj hx
  · intro L t hL ha hb
    rw [e0 19 _ (by omega)] at ha hb
    rw [e0 24 _ (by omega)]
    exact h6 L t hL ha hb
  · intro a ha
    rw [ab_mask_cg (S := T) (T := S) (fun q => e0 18 q (by omega))]
    exact h7 a ha
theorem C_fl {S : ab_S} {σ : am_M} (h : ab_C S σ) {f j : Nat} (hj : j < 13) (x : Int) : ab_C (ab_u S j f x) (am_up σ 9 f j x) := by
  obtain ⟨h1, h2, h3, h4, h5, h6, h7⟩ := h
  have e0 : ∀ g i : Nat, 13 ≤ g → ab_u S j f x g i = S g i := fun g i q => by rw [ab_u_app, if_neg (by omega)]
  have e1 : ∀ k i n : Nat, ¬ k = 9 → am_up σ 9 f j x k i n = σ k i n := fun k i n q => by rw [am_up_app, if_neg (by omega)]
  refine ⟨?_, ?_, ?_, ?_, ?_, ?_, ?_⟩
  · simp only [e0 19 _ (by omega), e1 0 _ _ (by omega)]; exact h1
  · intro f' j' hf hj'
    rw [e0 19 _ (by omega)] at hf
    rw [am_up_app, ab_u_app]
    by_cases q : f' = f ∧ j' = j
    · obtain ⟨rfl, rfl⟩ := q; simp
    · rw [if_neg (by omega), if_neg (by omega)]; exact h2 f' j' hf hj'
  · intro k hk; simp only [e0 16 _ (by omega), e0 17 _ (by omega), e1 10 _ _ (by omega)]; exact h3 k hk
  · intro L hL; simp only [e0 13 _ (by omega), e0 14 _ (by omega), e0 15 _ (by omega), e1 11 _ _ (by omega)]; exact h4 L hL
  · intro L j' x' hL hj' hx
    rw [e0 14 _ (by omega)] at hj'
    rw [e0 _ _ (by omega), e1 14 _ _ (by omega), e1 11 _ _ (by omega)]
    exact h5 L j' x' hL hj' hx
  · intro L t hL ha hb
    rw [e0 19 _ (by omega)] at ha hb
    rw [e0 24 _ (by omega), e1 13 _ _ (by omega)]
    exact h6 L t hL ha hb
  · intro a ha
    rw [ab_mask_cg (S := ab_u S j f x) (T := S) (fun q => e0 18 q (by omega)), e1 8 _ _ (by omega)]
    exact h7 a ha
/-- a write to a slot that the state has under a name of its own, for hosts (16, 17) -/
theorem C_host {S : ab_S} {σ : am_M} (h : ab_C S σ) {k j : Nat} (hj : j = 2 ∨ j = 3) (x : Int) : ab_C (ab_u S (14 + j) k x) (am_up σ 10 k j x) := by
  obtain ⟨h1, h2, h3, h4, h5, h6, h7⟩ := h
  have e0 : ∀ g i : Nat, ¬ (g = 16 ∨ g = 17) → ab_u S (14 + j) k x g i = S g i := fun g i q => by rw [ab_u_app, if_neg (by omega)]
  have e1 : ∀ k' i n : Nat, ¬ k' = 10 → am_up σ 10 k j x k' i n = σ k' i n := fun k' i n q => by rw [am_up_app, if_neg (by omega)]
  refine ⟨?_, ?_, ?_, ?_, ?_, ?_, ?_⟩
  · simp only [e0 19 _ (by omega), e1 0 _ _ (by omega)]; exact h1
  · intro f' j' hf hj'
    rw [e0 19 _ (by omega)] at hf
    rw [e0 j' _ (by omega), e1 9 _ _ (by omega)]
    exact h2 f' j' hf hj'
  · intro k' hk
    obtain ⟨a1, a2⟩ := h3 k' hk
    simp only [am_up_app, ab_u_app]
    rcases hj with rfl | rfl
    · by_cases q : k' = k
      · subst q; simp; exact a2
      · simp [q]; exact ⟨a1, a2⟩
    · by_cases q : k' = k
      · subst q; simp; exact a1
      · simp [q]; exact ⟨a1, a2⟩
  · intro L hL; simp only [e0 13 _ (by omega), e0 14 _ (by omega), e0 15 _ (by omega), e1 11 _ _ (by omega)]; exact h4 L hL
  · intro L j' x' hL hj' hx
    rw [e0 14 _ (by omega)] at hj'
    rw [e0 _ _ (by omega), e1 14 _ _ (by omega), e1 11 _ _ (by omega)]
    exact h5 L j' x' hL hj' hx
  · intro L t hL ha hb
    rw [e0 19 _ (by omega)] at ha hb
    rw [e0 24 _ (by omega), e1 13 _ _ (by omega)]
    exact h6 L t hL ha hb
  · intro a ha
    rw [ab_mask_cg (S := ab_u S (14 + j) k x) (T := S) (fun q => e0 18 q (by omega)), e1 8 _ _ (by omega)]
    exact h7 a ha
/-- what the state has no word for: what a link picked, what a node's queues want -/
theorem C_tmp {S : ab_S} {σ σ' : am_M} (h : ab_C S σ) (hs : ∀ k i j : Nat, ¬ (k = 18 ∨ (k = 11 ∧ j = 6)) → σ' k i j = σ k i j) : ab_C S σ' := by
  obtain ⟨h1, h2, h3, h4, h5, h6, h7⟩ := h
  refine ⟨?_, ?_, ?_, ?_, ?_, ?_, ?_⟩
  · rw [hs 0 0 8 (by omega), hs 0 0 9 (by omega), hs 0 0 10 (by omega), hs 0 0 11 (by omega), hs 0 0 12 (by omega)]; exact h1
  · intro f' j' hf hj'; rw [hs 9 _ _ (by omega)]; exact h2 f' j' hf hj'
  · intro k hk; rw [hs 10 k 2 (by omega), hs 10 k 3 (by omega)]; exact h3 k hk
  · intro L hL; rw [hs 11 L 3 (by omega), hs 11 L 4 (by omega), hs 11 L 2 (by omega), hs 11 L 5 (by omega)]; exact h4 L hL
  · intro L j' x' hL hj' hx; rw [hs 14 _ _ (by omega), hs 11 _ 2 (by omega)]; exact h5 L j' x' hL hj' hx
  · intro L t hL ha hb; rw [hs 13 _ _ (by omega)]; exact h6 L t hL ha hb
  · intro a ha; rw [hs 8 _ _ (by omega)]; exact h7 a ha
theorem C_lastQ {S : ab_S} {σ : am_M} (h : ab_C S σ) {L : Nat} (x : Int) : ab_C (ab_u S 15 L x) (am_up σ 11 L 5 x) := by
  obtain ⟨h1, h2, h3, h4, h5, h6, h7⟩ := h
  have e0 : ∀ g i : Nat, ¬ g = 15 → ab_u S 15 L x g i = S g i := fun g i q => by rw [ab_u_app, if_neg (by omega)]
  have e1 : ∀ k' i n : Nat, ¬ (k' = 11 ∧ n = 5) → am_up σ 11 L 5 x k' i n = σ k' i n := fun k' i n q => by rw [am_up_app, if_neg (by omega)]
  refine ⟨?_, ?_, ?_, ?_, ?_, ?_, ?_⟩
  · simp only [e0 19 _ (by omega), e1 0 _ _ (by omega)]; exact h1
  · intro f' j' hf hj'; rw [e0 19 _ (by omega)] at hf; rw [e0 j' _ (by omega), e1 9 _ _ (by omega)]; exact h2 f' j' hf hj'
  · intro k hk; simp only [e0 16 _ (by omega), e0 17 _ (by omega), e1 10 _ _ (by omega)]; exact h3 k hk
  · intro L' hL'
    obtain ⟨a1, a2, a3, a4⟩ := h4 L' hL'
    simp only [e0 13 _ (by omega), e0 14 _ (by omega), e1 11 _ 3 (by omega), e1 11 _ 4 (by omega), e1 11 _ 2 (by omega)]
    refine ⟨a1, a2, a3, ?_⟩
    rw [am_up_app, ab_u_app]
    by_cases q : L' = L
    · subst q; simp
    · simp [q]; exact a4
  · intro L' j' x' hL hj' hx
    rw [e0 14 _ (by omega)] at hj'
    rw [e0 _ _ (by omega), e1 14 _ _ (by omega), e1 11 _ 2 (by omega)]
    exact h5 L' j' x' hL hj' hx
  · intro L' t hL ha hb
    rw [e0 19 _ (by omega)] at ha hb
    rw [e0 24 _ (by omega), e1 13 _ _ (by omega)]
    exact h6 L' t hL ha hb
  · intro a ha
    rw [ab_mask_cg (S := ab_u S 15 L x) (T := S) (fun q => e0 18 q (by omega)), e1 8 _ _ (by omega)]
    exact h7 a ha
theorem C_spine {S : ab_S} {σ : am_M} (h : ab_C S σ) {L : Nat} (hL : L < 64) (hn : 0 < S 14 L) (h4n : ∀ L', L' < 64 → S 14 L' ≤ 4) (x : Int) : ab_C (ab_u S 23 (4 * L) x) (am_up σ 14 (4 * L + (σ 11 L 2).toNat) 3 x) := by
  obtain ⟨h1, h2, h3, h4, h5, h6, h7⟩ := h
  have e0 : ∀ g i : Nat, ¬ g = 23 → ab_u S 23 (4 * L) x g i = S g i := fun g i q => by rw [ab_u_app, if_neg (by omega)]
  have e1 : ∀ k' i n : Nat, ¬ k' = 14 → am_up σ 14 (4 * L + (σ 11 L 2).toNat) 3 x k' i n = σ k' i n := fun k' i n q => by rw [am_up_app, if_neg (by omega)]
  refine ⟨?_, ?_, ?_, ?_, ?_, ?_, ?_⟩
  · simp only [e0 19 _ (by omega), e1 0 _ _ (by omega)]; exact h1
  · intro f' j' hf hj'; rw [e0 19 _ (by omega)] at hf; rw [e0 j' _ (by omega), e1 9 _ _ (by omega)]; exact h2 f' j' hf hj'
  · intro k hk; simp only [e0 16 _ (by omega), e0 17 _ (by omega), e1 10 _ _ (by omega)]; exact h3 k hk
  · intro L' hL'; simp only [e0 13 _ (by omega), e0 14 _ (by omega), e0 15 _ (by omega), e1 11 _ _ (by omega)]; exact h4 L' hL'
  · intro L' j' x' hL' hj' hx
    rw [e0 14 _ (by omega)] at hj'
    have hr := (h4 L' hL').2.2.1
    have hrL := (h4 L hL).2.2.1
    have h44 := h4n L' hL'
    rw [am_up_app, ab_u_app, e1 11 _ 2 (by omega)]
    by_cases q : L' = L ∧ j' = 0 ∧ x' = 3
    · obtain ⟨rfl, rfl, rfl⟩ := q
      rw [if_pos (by omega), if_pos (by omega)]
    · rw [if_neg, if_neg (by omega)]
      · exact h5 L' j' x' hL' hj' hx
      · intro z
        apply q
        have : L' = L := by omega
        subst this
        refine ⟨rfl, ?_, z.2.2⟩
        have := z.2.1
        omega
  · intro L' t hL' ha hb
    rw [e0 19 _ (by omega)] at ha hb
    rw [e0 24 _ (by omega), e1 13 _ _ (by omega)]
    exact h6 L' t hL' ha hb
  · intro a ha
    rw [ab_mask_cg (S := ab_u S 23 (4 * L) x) (T := S) (fun q => e0 18 q (by omega)), e1 8 _ _ (by omega)]
    exact h7 a ha
theorem C_drop {S : ab_S} {σ : am_M} (h : ab_C S σ) {L sl : Nat} (hL : L < 64) (hn : 0 < S 14 L) (h4n : ∀ L', L' < 64 → S 14 L' ≤ 4) (hc : 0 ≤ S 19 3) (hd : 0 ≤ S 19 0 ∧ S 19 0 ≤ 5) (hsl : sl = ab_T S % 7) : ab_C (ab_drop S L) (lk_drop σ L sl) := by
  obtain ⟨h1, h2, h3, h4, h5, h6, h7⟩ := h
  have e0 : ∀ g i : Nat, ¬ (g = 14 ∨ (20 ≤ g ∧ g ≤ 23) ∨ g = 24) → ab_drop S L g i = S g i := fun g i q => by
    simp only [ab_drop]; rw [if_neg (by omega), if_neg (by omega), if_neg (by omega)]
  have e1 : ∀ k' i n : Nat, ¬ (k' = 11 ∧ (n = 2 ∨ n = 3) ∨ k' = 13) → lk_drop σ L sl k' i n = σ k' i n := fun k' i n q => by
    simp only [lk_drop, am_up_app]; rw [if_neg (by omega), if_neg (by omega), if_neg (by omega)]
  have e14 : ∀ i, ab_drop S L 14 i = if i = L then S 14 L - 1 else S 14 i := fun i => by simp [ab_drop]
  have x2 : ∀ i, lk_drop σ L sl 11 i 2 = if i = L then (σ 11 L 2 + 1) % 4 else σ 11 i 2 := fun i => by simp [lk_drop, am_up_app]
  have x3 : ∀ i, lk_drop σ L sl 11 i 3 = if i = L then σ 11 L 3 - 1 else σ 11 i 3 := fun i => by simp [lk_drop, am_up_app]
  have x13 : ∀ i n, lk_drop σ L sl 13 i n = if i = L ∧ n = sl then σ 13 L sl + 1 else σ 13 i n := fun i n => by simp [lk_drop, am_up_app]
  refine ⟨?_, ?_, ?_, ?_, ?_, ?_, ?_⟩
  · simp only [e0 19 _ (by omega), e1 0 _ _ (by omega)]; exact h1
  · intro f' j' hf hj'; rw [e0 19 _ (by omega)] at hf; rw [e0 j' _ (by omega), e1 9 _ _ (by omega)]; exact h2 f' j' hf hj'
  · intro k hk; simp only [e0 16 _ (by omega), e0 17 _ (by omega), e1 10 _ _ (by omega)]; exact h3 k hk
  · intro L' hL'
    obtain ⟨a1, a2, a3, a4⟩ := h4 L' hL'
    rw [x3, x2, e14, e1 11 _ 4 (by omega), e1 11 _ 5 (by omega), e0 13 _ (by omega), e0 15 _ (by omega)]
    by_cases q : L' = L
    · subst q; simp only [if_true]; exact ⟨by rw [a1], a2, by omega, a4⟩
    · simp only [if_neg q]; exact ⟨a1, a2, a3, a4⟩
  · intro L' j' x' hL' hj' hx
    have h44 := h4n L' hL'
    have hr := (h4 L' hL').2.2.1
    rw [e14] at hj'
    rw [x2, e1 14 _ _ (by omega)]
    by_cases q : L' = L
    · subst q
      rw [if_pos rfl] at hj' ⊢
      have hk := h5 L' (j' + 1) x' hL' (by omega) hx
      have ea : ((σ 11 L' 2 + 1) % 4 + (j' : Int)) % 4 = (σ 11 L' 2 + ((j' + 1 : Nat) : Int)) % 4 := by omega
      rw [ea, hk]
      simp only [ab_drop]
      rw [if_neg (by omega), if_pos (by omega)]
      rfl
    · rw [if_neg q] at hj' ⊢
      rw [h5 L' j' x' hL' hj' hx]
      simp only [ab_drop]
      rw [if_neg (by omega), if_neg (by omega), if_neg (by omega)]
  · intro L' t hL' ha hb
    rw [e0 19 _ (by omega)] at ha hb
    rw [x13]
    have hT : ab_T S = (S 19 3).toNat + 1 + (S 19 0).toNat := rfl
    have h6' := h6 L' t hL' ha hb
    have eD : ab_drop S L 24 (64 * t + L') = if L' = L ∧ t = ab_T S then S 24 (64 * t + L') + 1 else S 24 (64 * t + L') := by
      simp only [ab_drop]
      rw [if_neg (show ¬ (24 = 14 ∧ _) by omega), if_neg (show ¬ (20 ≤ 24 ∧ 24 ≤ 23 ∧ _) by omega)]
      by_cases q : L' = L ∧ t = ab_T S
      · rw [if_pos q, if_pos ⟨trivial, by omega⟩]
      · rw [if_neg q, if_neg (by omega)]
    rw [eD]
    by_cases q : L' = L ∧ t = ab_T S
    · obtain ⟨rfl, rfl⟩ := q
      rw [if_pos ⟨rfl, hsl.symm⟩, if_pos ⟨rfl, rfl⟩, hsl, h6']
    · rw [if_neg, if_neg q, h6']
      rintro ⟨rfl, z⟩
      apply q
      refine ⟨rfl, ?_⟩
      rw [hsl] at z
      omega
  · intro a ha
    rw [ab_mask_cg (S := ab_drop S L) (T := S) (fun q => e0 18 q (by omega)), e1 8 _ _ (by omega)]
    exact h7 a ha
theorem C_put {S : ab_S} {σ : am_M} (h : ab_C S σ) {L : Nat} (hL : L < 64) (hn : 0 ≤ S 14 L ∧ S 14 L < 4) (h4n : ∀ L', L' < 64 → S 14 L' ≤ 4) (a b c d : Int) : ab_C (ab_put (ab_u S 13 L (S 13 L - 1)) L a b c d) (lk_put σ L a b c d) := by
  obtain ⟨h1, h2, h3, h4, h5, h6, h7⟩ := h
  have e0 : ∀ g i : Nat, ¬ (g = 13 ∨ g = 14 ∨ (20 ≤ g ∧ g ≤ 23)) → ab_put (ab_u S 13 L (S 13 L - 1)) L a b c d g i = S g i := fun g i q => by
    simp only [ab_put, ab_u_app]
    rw [if_neg (by omega), if_neg (by omega), if_neg (by omega), if_neg (by omega), if_neg (by omega), if_neg (by omega)]
  have e13 : ∀ i, ab_put (ab_u S 13 L (S 13 L - 1)) L a b c d 13 i = if i = L then S 13 L - 1 else S 13 i := fun i => by simp [ab_put, ab_u_app]
  have e14 : ∀ i, ab_put (ab_u S 13 L (S 13 L - 1)) L a b c d 14 i = if i = L then S 14 L + 1 else S 14 i := fun i => by simp [ab_put, ab_u_app]
  have e1 : ∀ k' i n : Nat, ¬ (k' = 11 ∧ (n = 3 ∨ n = 4) ∨ k' = 14) → lk_put σ L a b c d k' i n = σ k' i n := fun k' i n q => by
    simp only [lk_put, am_up_app]; rw [if_neg (by omega), if_neg (by omega), if_neg (by omega), if_neg (by omega), if_neg (by omega), if_neg (by omega)]
  have x3 : ∀ i, lk_put σ L a b c d 11 i 3 = if i = L then σ 11 L 3 + 1 else σ 11 i 3 := fun i => by simp [lk_put, am_up_app]
  have x4 : ∀ i, lk_put σ L a b c d 11 i 4 = if i = L then σ 11 L 4 - 1 else σ 11 i 4 := fun i => by simp [lk_put, am_up_app]
  refine ⟨?_, ?_, ?_, ?_, ?_, ?_, ?_⟩
  · simp only [e0 19 _ (by omega), e1 0 _ _ (by omega)]; exact h1
  · intro f' j' hf hj'; rw [e0 19 _ (by omega)] at hf; rw [e0 j' _ (by omega), e1 9 _ _ (by omega)]; exact h2 f' j' hf hj'
  · intro k hk; simp only [e0 16 _ (by omega), e0 17 _ (by omega), e1 10 _ _ (by omega)]; exact h3 k hk
  · intro L' hL'
    obtain ⟨a1, a2, a3, a4⟩ := h4 L' hL'
    rw [x3, x4, e13, e14, e1 11 _ 2 (by omega), e1 11 _ 5 (by omega), e0 15 _ (by omega)]
    by_cases q : L' = L
    · subst q; simp only [if_true]; exact ⟨by rw [a1], by rw [a2], a3, a4⟩
    · simp only [if_neg q]; exact ⟨a1, a2, a3, a4⟩
  · intro L' j' x' hL' hj' hx
    have h44 := h4n L' hL'
    have hr := (h4 L' hL').2.2.1
    have hrL := (h4 L hL).2.2.1
    have hsz := (h4 L hL).1
    rw [e14] at hj'
    rw [e1 11 _ 2 (by omega)]
    by_cases q : L' = L ∧ (j' : Int) = S 14 L
    · obtain ⟨rfl, q2⟩ := q
      have ep : ((σ 11 L' 2 + (j' : Int)) % 4).toNat = ((σ 11 L' 2 + σ 11 L' 3) % 4).toNat := by rw [hsz, q2]
      have ej : j' = (S 14 L').toNat := by omega
      rw [ep]
      simp only [lk_put, am_up_app, ab_put, ab_u_app]
      match x', hx with
      | 0, _ => simp [ej]
      | 1, _ => simp [ej]
      | 2, _ => simp [ej]
      | 3, _ => simp [ej]
    · have hj2 : (j' : Int) < S 14 L' := by
        by_cases q3 : L' = L
        · subst q3; rw [if_pos rfl] at hj'; have : ¬ (j' : Int) = S 14 L' := fun z => q ⟨rfl, z⟩; omega
        · rw [if_neg q3] at hj'; exact hj'
      have h5' := h5 L' j' x' hL' hj2 hx
      have hne : ¬ (4 * L' + ((σ 11 L' 2 + (j' : Int)) % 4).toNat = 4 * L + ((σ 11 L 2 + σ 11 L 3) % 4).toNat) := by
        intro z
        have z1 : L' = L := by omega
        subst z1
        rw [hsz] at z
        omega
      have hne2 : ¬ (4 * L' + j' = 4 * L + (S 14 L).toNat) := by
        intro z
        have z1 : L' = L := by omega
        subst z1
        apply q
        exact ⟨rfl, by omega⟩
      simp only [lk_put, am_up_app, ab_put, ab_u_app, if_neg (show ¬ (14 = 11 ∧ L' = L ∧ x' = 3) by omega), hne, false_and, and_false, if_false, show ¬ (14 = 13) by decide]
      rw [if_neg (by omega), if_neg (by omega), if_neg (by omega), if_neg (by omega), if_neg (by omega), if_neg (by omega), if_neg (by omega), if_neg (by omega)]
      exact h5'
  · intro L' t hL' ha hb
    rw [e0 19 _ (by omega)] at ha hb
    rw [e0 24 _ (by omega), e1 13 _ _ (by omega)]
    exact h6 L' t hL' ha hb
  · intro a' ha
    rw [ab_mask_cg (S := ab_put (ab_u S 13 L (S 13 L - 1)) L a b c d) (T := S) (fun q => e0 18 q (by omega)), e1 8 _ _ (by omega)]
    exact h7 a' ha
theorem ab_back13 (S : ab_S) (k i : Nat) : ab_back S k 13 i = if i < k then S 13 i + S 24 (64 * (S 19 3).toNat + i) else S 13 i := by simp [ab_back]
theorem ab_back24 (S : ab_S) (k i : Nat) : ab_back S k 24 i = if i / 64 = (S 19 3).toNat ∧ i % 64 < k then 0 else S 24 i := by simp [ab_back]
theorem ab_back_o (S : ab_S) (n g i : Nat) (q : ¬ (g = 13 ∨ g = 24)) : ab_back S n g i = S g i := by
  simp only [ab_back]; rw [if_neg (by omega), if_neg (by omega)]
theorem C_back {S : ab_S} {σ : am_M} {k sl : Nat} (h : ab_C (ab_back S k) σ) (hk : k < 64) (hc : 0 ≤ S 19 3) (hsl : sl = (S 19 3).toNat % 7) : ab_C (ab_back S (k + 1)) (am_up (am_up σ 11 k 4 (σ 11 k 4 + σ 13 k sl)) 13 k sl 0) := by
  obtain ⟨h1, h2, h3, h4, h5, h6, h7⟩ := h
  have e0 := ab_back_o S
  have e1 : ∀ k' i n : Nat, ¬ (k' = 11 ∧ n = 4 ∨ k' = 13) → am_up (am_up σ 11 k 4 (σ 11 k 4 + σ 13 k sl)) 13 k sl 0 k' i n = σ k' i n := fun k' i n q => by
    simp only [am_up_app]; rw [if_neg (by omega), if_neg (by omega)]
  have x4 : ∀ i, am_up (am_up σ 11 k 4 (σ 11 k 4 + σ 13 k sl)) 13 k sl 0 11 i 4 = if i = k then σ 11 k 4 + σ 13 k sl else σ 11 i 4 := fun i => by simp [am_up_app]
  have x13 : ∀ i n, am_up (am_up σ 11 k 4 (σ 11 k 4 + σ 13 k sl)) 13 k sl 0 13 i n = if i = k ∧ n = sl then 0 else σ 13 i n := fun i n => by simp [am_up_app]
  have hsk : σ 13 k sl = S 24 (64 * (S 19 3).toNat + k) := by
    have := h6 k (S 19 3).toNat hk (by rw [e0 _ 19 _ (by omega)]; omega) (by rw [e0 _ 19 _ (by omega)]; omega)
    rw [hsl, this, ab_back24, if_neg (by omega)]
  refine ⟨?_, ?_, ?_, ?_, ?_, ?_, ?_⟩
  · rw [e0 _ 19 _ (by omega), e0 _ 19 _ (by omega), e0 _ 19 _ (by omega), e0 _ 19 _ (by omega), e0 _ 19 _ (by omega)] at h1 ⊢
    rw [e1 0 0 8 (by omega), e1 0 0 9 (by omega), e1 0 0 10 (by omega), e1 0 0 11 (by omega), e1 0 0 12 (by omega)]
    exact h1
  · intro f' j' hf hj'; rw [e0 _ 19 _ (by omega)] at hf; rw [e1 9 _ _ (by omega)]
    have := h2 f' j' (by rw [e0 _ 19 _ (by omega)]; exact hf) hj'
    rw [e0 _ j' _ (by omega)] at this ⊢
    exact this
  · intro i hi
    have := h3 i hi
    rw [e0 _ 16 _ (by omega), e0 _ 17 _ (by omega)] at this ⊢
    rw [e1 10 _ _ (by omega), e1 10 _ _ (by omega)]
    exact this
  · intro L' hL'
    obtain ⟨a1, a2, a3, a4⟩ := h4 L' hL'
    rw [e0 _ 14 _ (by omega)] at a1 ⊢
    rw [e0 _ 15 _ (by omega)] at a4 ⊢
    rw [e1 11 _ 3 (by omega), e1 11 _ 2 (by omega), e1 11 _ 5 (by omega)]
    refine ⟨a1, ?_, a3, a4⟩
    rw [ab_back13] at a2
    rw [x4, ab_back13]
    by_cases q : L' = k
    · subst q
      rw [if_neg (by omega)] at a2
      rw [if_pos rfl, if_pos (by omega), a2, hsk]
    · rw [if_neg q, a2]
      by_cases q2 : L' < k
      · rw [if_pos q2, if_pos (by omega)]
      · rw [if_neg q2, if_neg (by omega)]
  · intro L' j' x' hL' hj' hx
    rw [e0 _ 14 _ (by omega)] at hj'
    have := h5 L' j' x' hL' (by rw [e0 _ 14 _ (by omega)]; exact hj') hx
    rw [e0 _ _ _ (by omega)] at this ⊢
    rw [e1 14 _ _ (by omega), e1 11 _ 2 (by omega)]
    exact this
  · intro L' t hL' ha hb
    rw [e0 _ 19 _ (by omega)] at ha hb
    have h6' := h6 L' t hL' (by rw [e0 _ 19 _ (by omega)]; exact ha) (by rw [e0 _ 19 _ (by omega)]; exact hb)
    rw [ab_back24, show (64 * t + L') / 64 = t by omega, show (64 * t + L') % 64 = L' by omega] at h6'
    rw [x13, ab_back24, show (64 * t + L') / 64 = t by omega, show (64 * t + L') % 64 = L' by omega]
    by_cases q : L' = k ∧ t = (S 19 3).toNat
    · obtain ⟨rfl, rfl⟩ := q
      rw [if_pos ⟨rfl, hsl.symm⟩, if_pos ⟨rfl, by omega⟩]
    · rw [if_neg (show ¬ (L' = k ∧ t % 7 = sl) by
        rintro ⟨rfl, z⟩
        apply q
        refine ⟨rfl, ?_⟩
        rw [hsl] at z
        omega), h6']
      by_cases q2 : t = (S 19 3).toNat ∧ L' < k
      · rw [if_pos q2, if_pos (by omega)]
      · rw [if_neg q2, if_neg (by omega)]
  · intro a ha
    have := h7 a ha
    rw [ab_mask_cg (S := ab_back S k) (T := S) (fun q => e0 _ 18 q (by omega))] at this
    rw [ab_mask_cg (S := ab_back S (k + 1)) (T := S) (fun q => e0 _ 18 q (by omega)), e1 8 _ _ (by omega)]
    exact this
theorem C_tick {S : ab_S} {σ : am_M} (h : ab_C S σ) (hc : 0 ≤ S 19 3) (h0 : ∀ L, L < 64 → S 24 (64 * (S 19 3).toNat + L) = 0) (h7 : ∀ L, L < 64 → S 24 (64 * ((S 19 3).toNat + 7) + L) = 0) : ab_C (ab_u S 19 3 (S 19 3 + 1)) (am_up σ 0 0 9 (S 19 3 + 1)) := by
  obtain ⟨h1, h2, h3, h4, h5, h6, h8⟩ := h
  have e0 : ∀ g i : Nat, ¬ (g = 19 ∧ i = 3) → ab_u S 19 3 (S 19 3 + 1) g i = S g i := fun g i q => by rw [ab_u_app, if_neg q]
  have e1 : ∀ k' i n : Nat, ¬ k' = 0 → am_up σ 0 0 9 (S 19 3 + 1) k' i n = σ k' i n := fun k' i n q => by rw [am_up_app, if_neg (by omega)]
  have e3 : ab_u S 19 3 (S 19 3 + 1) 19 3 = S 19 3 + 1 := by simp [ab_u_app]
  refine ⟨?_, ?_, ?_, ?_, ?_, ?_, ?_⟩
  · rw [e0 19 4 (by omega), e3, e0 19 0 (by omega), e0 19 1 (by omega), e0 19 2 (by omega)]
    obtain ⟨a1, a2, a3, a4, a5⟩ := h1
    exact ⟨by simpa [am_up_app] using a1, by simp [am_up_app], by simpa [am_up_app] using a3, by simpa [am_up_app] using a4, by simpa [am_up_app] using a5⟩
  · intro f' j' hf hj'; rw [e0 19 4 (by omega)] at hf; rw [e0 j' _ (by omega), e1 9 _ _ (by omega)]; exact h2 f' j' hf hj'
  · intro k hk; simp only [e0 16 k (by omega), e0 17 k (by omega), e1 10 _ _ (by omega)]; exact h3 k hk
  · intro L' hL'; simp only [e0 13 L' (by omega), e0 14 L' (by omega), e0 15 L' (by omega), e1 11 _ _ (by omega)]; exact h4 L' hL'
  · intro L' j' x' hL hj' hx
    rw [e0 14 _ (by omega)] at hj'
    rw [e0 _ _ (by omega), e1 14 _ _ (by omega), e1 11 _ 2 (by omega)]
    exact h5 L' j' x' hL hj' hx
  · intro L' t hL ha hb
    rw [e3] at ha hb
    rw [e0 24 _ (by omega), e1 13 _ _ (by omega)]
    by_cases q : (t : Int) < S 19 3 + 7
    · exact h6 L' t hL (by omega) q
    · have et : t = (S 19 3).toNat + 7 := by omega
      have := h6 L' (S 19 3).toNat hL (by omega) (by omega)
      rw [et, h7 L' hL, show ((S 19 3).toNat + 7) % 7 = (S 19 3).toNat % 7 by omega, this, h0 L' hL]
  · intro a ha
    rw [ab_mask_cg (S := ab_u S 19 3 (S 19 3 + 1)) (T := S) (fun q => e0 18 q (by omega)), e1 8 _ _ (by omega)]
    exact h8 a ha
end
section
theorem zz_last : True := trivial
end
