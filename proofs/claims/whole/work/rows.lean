section
-- ===== PART A: goes FIRST, ahead of the names: the tables' words, and 'selects' of the private methods out of them =====
/-- a private method of a class that the tables say can be made, by its rows of tables_1 -/
def lw_okq (q : MethodName × Nat) : Prop := (q.1.cls ≠ "java/lang/invoke/MethodHandle" ∧ q.1.cls ≠ "java/lang/invoke/VarHandle") ∧ Cond.instantiable q.1.cls q.2 ∈ tables_1 ∧ Cond.privateMethod q.1 ∈ tables_1 ∧ Cond.instanceMethod q.1 ∈ tables_1
theorem lw_p0 : lw_okq (⟨"PluggedBus", "isThere", "(I)Z"⟩, 8) := ⟨⟨by decide +kernel, by decide +kernel⟩, List.mem_of_getElem? (i := 10) (by decide +kernel), List.mem_of_getElem? (i := 266) (by decide +kernel), List.mem_of_getElem? (i := 267) (by decide +kernel)⟩
theorem lw_p1 : lw_okq (⟨"PluggedBus", "markChanged", "(I)V"⟩, 8) := ⟨⟨by decide +kernel, by decide +kernel⟩, List.mem_of_getElem? (i := 10) (by decide +kernel), List.mem_of_getElem? (i := 299) (by decide +kernel), List.mem_of_getElem? (i := 300) (by decide +kernel)⟩
theorem lw_p2 : lw_okq (⟨"PluggedBus", "placeOrder", "(IIIZI)I"⟩, 8) := ⟨⟨by decide +kernel, by decide +kernel⟩, List.mem_of_getElem? (i := 10) (by decide +kernel), List.mem_of_getElem? (i := 334) (by decide +kernel), List.mem_of_getElem? (i := 335) (by decide +kernel)⟩
theorem lw_p3 : lw_okq (⟨"PluggedBus", "hearOwnPorts", "()V"⟩, 8) := ⟨⟨by decide +kernel, by decide +kernel⟩, List.mem_of_getElem? (i := 10) (by decide +kernel), List.mem_of_getElem? (i := 354) (by decide +kernel), List.mem_of_getElem? (i := 355) (by decide +kernel)⟩
theorem lw_p4 : lw_okq (⟨"PluggedBus", "tellChange", "(I)I"⟩, 8) := ⟨⟨by decide +kernel, by decide +kernel⟩, List.mem_of_getElem? (i := 10) (by decide +kernel), List.mem_of_getElem? (i := 358) (by decide +kernel), List.mem_of_getElem? (i := 359) (by decide +kernel)⟩
theorem lw_p5 : lw_okq (⟨"PluggedBus", "hear", "(II)V"⟩, 8) := ⟨⟨by decide +kernel, by decide +kernel⟩, List.mem_of_getElem? (i := 10) (by decide +kernel), List.mem_of_getElem? (i := 362) (by decide +kernel), List.mem_of_getElem? (i := 363) (by decide +kernel)⟩
theorem lw_p6 : lw_okq (⟨"PluggedBus", "detach", "(I)V"⟩, 8) := ⟨⟨by decide +kernel, by decide +kernel⟩, List.mem_of_getElem? (i := 10) (by decide +kernel), List.mem_of_getElem? (i := 366) (by decide +kernel), List.mem_of_getElem? (i := 367) (by decide +kernel)⟩
theorem lw_p7 : lw_okq (⟨"PluggedBus", "release", "(I)V"⟩, 8) := ⟨⟨by decide +kernel, by decide +kernel⟩, List.mem_of_getElem? (i := 10) (by decide +kernel), List.mem_of_getElem? (i := 370) (by decide +kernel), List.mem_of_getElem? (i := 371) (by decide +kernel)⟩
theorem lw_p8 : lw_okq (⟨"PluggedBus", "pollDuePorts", "()I"⟩, 8) := ⟨⟨by decide +kernel, by decide +kernel⟩, List.mem_of_getElem? (i := 10) (by decide +kernel), List.mem_of_getElem? (i := 378) (by decide +kernel), List.mem_of_getElem? (i := 379) (by decide +kernel)⟩
theorem lw_p9 : lw_okq (⟨"PluggedBus", "isDue", "(LPluggedBus$Port;)Z"⟩, 8) := ⟨⟨by decide +kernel, by decide +kernel⟩, List.mem_of_getElem? (i := 10) (by decide +kernel), List.mem_of_getElem? (i := 382) (by decide +kernel), List.mem_of_getElem? (i := 383) (by decide +kernel)⟩
theorem lw_p10 : lw_okq (⟨"PluggedBus", "poll", "(I)V"⟩, 8) := ⟨⟨by decide +kernel, by decide +kernel⟩, List.mem_of_getElem? (i := 10) (by decide +kernel), List.mem_of_getElem? (i := 386) (by decide +kernel), List.mem_of_getElem? (i := 387) (by decide +kernel)⟩
theorem lw_p11 : lw_okq (⟨"PluggedBus", "askIn", "(LPluggedBus$Port;)I"⟩, 8) := ⟨⟨by decide +kernel, by decide +kernel⟩, List.mem_of_getElem? (i := 10) (by decide +kernel), List.mem_of_getElem? (i := 390) (by decide +kernel), List.mem_of_getElem? (i := 391) (by decide +kernel)⟩
theorem lw_p12 : lw_okq (⟨"PluggedBus", "meantPort", "(II)I"⟩, 8) := ⟨⟨by decide +kernel, by decide +kernel⟩, List.mem_of_getElem? (i := 10) (by decide +kernel), List.mem_of_getElem? (i := 398) (by decide +kernel), List.mem_of_getElem? (i := 399) (by decide +kernel)⟩
theorem lw_p13 : lw_okq (⟨"PluggedBus", "hears", "(I)Z"⟩, 8) := ⟨⟨by decide +kernel, by decide +kernel⟩, List.mem_of_getElem? (i := 10) (by decide +kernel), List.mem_of_getElem? (i := 402) (by decide +kernel), List.mem_of_getElem? (i := 403) (by decide +kernel)⟩
theorem lw_p14 : lw_okq (⟨"PluggedBus", "makePacket", "(I)V"⟩, 8) := ⟨⟨by decide +kernel, by decide +kernel⟩, List.mem_of_getElem? (i := 10) (by decide +kernel), List.mem_of_getElem? (i := 410) (by decide +kernel), List.mem_of_getElem? (i := 411) (by decide +kernel)⟩
theorem lw_p15 : lw_okq (⟨"PluggedBus", "detachWithFaults", "(I)V"⟩, 8) := ⟨⟨by decide +kernel, by decide +kernel⟩, List.mem_of_getElem? (i := 10) (by decide +kernel), List.mem_of_getElem? (i := 443) (by decide +kernel), List.mem_of_getElem? (i := 444) (by decide +kernel)⟩
def lw_privs_1 : List (MethodName × Nat) := [(⟨"PluggedBus", "isThere", "(I)Z"⟩, 8), (⟨"PluggedBus", "markChanged", "(I)V"⟩, 8), (⟨"PluggedBus", "placeOrder", "(IIIZI)I"⟩, 8), (⟨"PluggedBus", "hearOwnPorts", "()V"⟩, 8), (⟨"PluggedBus", "tellChange", "(I)I"⟩, 8), (⟨"PluggedBus", "hear", "(II)V"⟩, 8), (⟨"PluggedBus", "detach", "(I)V"⟩, 8), (⟨"PluggedBus", "release", "(I)V"⟩, 8), (⟨"PluggedBus", "pollDuePorts", "()I"⟩, 8), (⟨"PluggedBus", "isDue", "(LPluggedBus$Port;)Z"⟩, 8), (⟨"PluggedBus", "poll", "(I)V"⟩, 8), (⟨"PluggedBus", "askIn", "(LPluggedBus$Port;)I"⟩, 8), (⟨"PluggedBus", "meantPort", "(II)I"⟩, 8), (⟨"PluggedBus", "hears", "(I)Z"⟩, 8), (⟨"PluggedBus", "makePacket", "(I)V"⟩, 8), (⟨"PluggedBus", "detachWithFaults", "(I)V"⟩, 8)]
theorem lw_r1 : ∀ q ∈ lw_privs_1, lw_okq q := List.forall_mem_cons.mpr ⟨lw_p0, List.forall_mem_cons.mpr ⟨lw_p1, List.forall_mem_cons.mpr ⟨lw_p2, List.forall_mem_cons.mpr ⟨lw_p3, List.forall_mem_cons.mpr ⟨lw_p4, List.forall_mem_cons.mpr ⟨lw_p5, List.forall_mem_cons.mpr ⟨lw_p6, List.forall_mem_cons.mpr ⟨lw_p7, List.forall_mem_cons.mpr ⟨lw_p8, List.forall_mem_cons.mpr ⟨lw_p9, List.forall_mem_cons.mpr ⟨lw_p10, List.forall_mem_cons.mpr ⟨lw_p11, List.forall_mem_cons.mpr ⟨lw_p12, List.forall_mem_cons.mpr ⟨lw_p13, List.forall_mem_cons.mpr ⟨lw_p14, List.forall_mem_cons.mpr ⟨lw_p15, fun _ h => absurd h List.not_mem_nil⟩⟩⟩⟩⟩⟩⟩⟩⟩⟩⟩⟩⟩⟩⟩⟩
theorem lw_p16 : lw_okq (⟨"PluggedBus", "enumeratePorts", "(I)I"⟩, 8) := ⟨⟨by decide +kernel, by decide +kernel⟩, List.mem_of_getElem? (i := 10) (by decide +kernel), List.mem_of_getElem? (i := 451) (by decide +kernel), List.mem_of_getElem? (i := 452) (by decide +kernel)⟩
theorem lw_p17 : lw_okq (⟨"PluggedBus", "goingPort", "()I"⟩, 8) := ⟨⟨by decide +kernel, by decide +kernel⟩, List.mem_of_getElem? (i := 10) (by decide +kernel), List.mem_of_getElem? (i := 455) (by decide +kernel), List.mem_of_getElem? (i := 456) (by decide +kernel)⟩
theorem lw_p18 : lw_okq (⟨"PluggedBus", "begin", "(LPluggedBus$Port;)Z"⟩, 8) := ⟨⟨by decide +kernel, by decide +kernel⟩, List.mem_of_getElem? (i := 10) (by decide +kernel), List.mem_of_getElem? (i := 459) (by decide +kernel), List.mem_of_getElem? (i := 460) (by decide +kernel)⟩
theorem lw_p19 : lw_okq (⟨"PluggedBus", "isTaken", "(I)Z"⟩, 8) := ⟨⟨by decide +kernel, by decide +kernel⟩, List.mem_of_getElem? (i := 10) (by decide +kernel), List.mem_of_getElem? (i := 463) (by decide +kernel), List.mem_of_getElem? (i := 464) (by decide +kernel)⟩
theorem lw_p20 : lw_okq (⟨"PluggedBus", "enumerateOnce", "(I)V"⟩, 8) := ⟨⟨by decide +kernel, by decide +kernel⟩, List.mem_of_getElem? (i := 10) (by decide +kernel), List.mem_of_getElem? (i := 472) (by decide +kernel), List.mem_of_getElem? (i := 473) (by decide +kernel)⟩
theorem lw_p21 : lw_okq (⟨"PluggedBus", "sendSetup", "(LPluggedBus$Port;I)Z"⟩, 8) := ⟨⟨by decide +kernel, by decide +kernel⟩, List.mem_of_getElem? (i := 10) (by decide +kernel), List.mem_of_getElem? (i := 476) (by decide +kernel), List.mem_of_getElem? (i := 477) (by decide +kernel)⟩
theorem lw_p22 : lw_okq (⟨"PluggedBus", "configure", "(I)V"⟩, 8) := ⟨⟨by decide +kernel, by decide +kernel⟩, List.mem_of_getElem? (i := 10) (by decide +kernel), List.mem_of_getElem? (i := 480) (by decide +kernel), List.mem_of_getElem? (i := 481) (by decide +kernel)⟩
theorem lw_p23 : lw_okq (⟨"PluggedBus", "askAnswer", "(LPluggedBus$Port;I)Z"⟩, 8) := ⟨⟨by decide +kernel, by decide +kernel⟩, List.mem_of_getElem? (i := 10) (by decide +kernel), List.mem_of_getElem? (i := 484) (by decide +kernel), List.mem_of_getElem? (i := 485) (by decide +kernel)⟩
theorem lw_p24 : lw_okq (⟨"PluggedBus", "goOnEnumerating", "(I)V"⟩, 8) := ⟨⟨by decide +kernel, by decide +kernel⟩, List.mem_of_getElem? (i := 10) (by decide +kernel), List.mem_of_getElem? (i := 492) (by decide +kernel), List.mem_of_getElem? (i := 493) (by decide +kernel)⟩
theorem lw_p25 : lw_okq (⟨"PluggedBus", "readyCost", "()I"⟩, 8) := ⟨⟨by decide +kernel, by decide +kernel⟩, List.mem_of_getElem? (i := 10) (by decide +kernel), List.mem_of_getElem? (i := 496) (by decide +kernel), List.mem_of_getElem? (i := 497) (by decide +kernel)⟩
theorem lw_p26 : lw_okq (⟨"PluggedBus", "serveDisks", "(I)V"⟩, 8) := ⟨⟨by decide +kernel, by decide +kernel⟩, List.mem_of_getElem? (i := 10) (by decide +kernel), List.mem_of_getElem? (i := 500) (by decide +kernel), List.mem_of_getElem? (i := 501) (by decide +kernel)⟩
theorem lw_p27 : lw_okq (⟨"PluggedBus", "nextOrder", "()I"⟩, 8) := ⟨⟨by decide +kernel, by decide +kernel⟩, List.mem_of_getElem? (i := 10) (by decide +kernel), List.mem_of_getElem? (i := 504) (by decide +kernel), List.mem_of_getElem? (i := 505) (by decide +kernel)⟩
theorem lw_p28 : lw_okq (⟨"PluggedBus", "orderInHand", "(I)I"⟩, 8) := ⟨⟨by decide +kernel, by decide +kernel⟩, List.mem_of_getElem? (i := 10) (by decide +kernel), List.mem_of_getElem? (i := 508) (by decide +kernel), List.mem_of_getElem? (i := 509) (by decide +kernel)⟩
theorem lw_p29 : lw_okq (⟨"PluggedBus", "serve", "(LPluggedBus$Order;)V"⟩, 8) := ⟨⟨by decide +kernel, by decide +kernel⟩, List.mem_of_getElem? (i := 10) (by decide +kernel), List.mem_of_getElem? (i := 512) (by decide +kernel), List.mem_of_getElem? (i := 513) (by decide +kernel)⟩
theorem lw_p30 : lw_okq (⟨"PluggedBus", "sendOut", "(LPluggedBus$Port;I)I"⟩, 8) := ⟨⟨by decide +kernel, by decide +kernel⟩, List.mem_of_getElem? (i := 10) (by decide +kernel), List.mem_of_getElem? (i := 524) (by decide +kernel), List.mem_of_getElem? (i := 525) (by decide +kernel)⟩
theorem lw_p31 : lw_okq (⟨"PluggedBus", "goOnWithOrder", "(LPluggedBus$Port;LPluggedBus$Order;)V"⟩, 8) := ⟨⟨by decide +kernel, by decide +kernel⟩, List.mem_of_getElem? (i := 10) (by decide +kernel), List.mem_of_getElem? (i := 545) (by decide +kernel), List.mem_of_getElem? (i := 546) (by decide +kernel)⟩
def lw_privs_2 : List (MethodName × Nat) := [(⟨"PluggedBus", "enumeratePorts", "(I)I"⟩, 8), (⟨"PluggedBus", "goingPort", "()I"⟩, 8), (⟨"PluggedBus", "begin", "(LPluggedBus$Port;)Z"⟩, 8), (⟨"PluggedBus", "isTaken", "(I)Z"⟩, 8), (⟨"PluggedBus", "enumerateOnce", "(I)V"⟩, 8), (⟨"PluggedBus", "sendSetup", "(LPluggedBus$Port;I)Z"⟩, 8), (⟨"PluggedBus", "configure", "(I)V"⟩, 8), (⟨"PluggedBus", "askAnswer", "(LPluggedBus$Port;I)Z"⟩, 8), (⟨"PluggedBus", "goOnEnumerating", "(I)V"⟩, 8), (⟨"PluggedBus", "readyCost", "()I"⟩, 8), (⟨"PluggedBus", "serveDisks", "(I)V"⟩, 8), (⟨"PluggedBus", "nextOrder", "()I"⟩, 8), (⟨"PluggedBus", "orderInHand", "(I)I"⟩, 8), (⟨"PluggedBus", "serve", "(LPluggedBus$Order;)V"⟩, 8), (⟨"PluggedBus", "sendOut", "(LPluggedBus$Port;I)I"⟩, 8), (⟨"PluggedBus", "goOnWithOrder", "(LPluggedBus$Port;LPluggedBus$Order;)V"⟩, 8)]
theorem lw_r2 : ∀ q ∈ lw_privs_2, lw_okq q := List.forall_mem_cons.mpr ⟨lw_p16, List.forall_mem_cons.mpr ⟨lw_p17, List.forall_mem_cons.mpr ⟨lw_p18, List.forall_mem_cons.mpr ⟨lw_p19, List.forall_mem_cons.mpr ⟨lw_p20, List.forall_mem_cons.mpr ⟨lw_p21, List.forall_mem_cons.mpr ⟨lw_p22, List.forall_mem_cons.mpr ⟨lw_p23, List.forall_mem_cons.mpr ⟨lw_p24, List.forall_mem_cons.mpr ⟨lw_p25, List.forall_mem_cons.mpr ⟨lw_p26, List.forall_mem_cons.mpr ⟨lw_p27, List.forall_mem_cons.mpr ⟨lw_p28, List.forall_mem_cons.mpr ⟨lw_p29, List.forall_mem_cons.mpr ⟨lw_p30, List.forall_mem_cons.mpr ⟨lw_p31, fun _ h => absurd h List.not_mem_nil⟩⟩⟩⟩⟩⟩⟩⟩⟩⟩⟩⟩⟩⟩⟩⟩
theorem lw_p32 : lw_okq (⟨"PluggedBus", "isOrder", "(I)Z"⟩, 8) := ⟨⟨by decide +kernel, by decide +kernel⟩, List.mem_of_getElem? (i := 10) (by decide +kernel), List.mem_of_getElem? (i := 565) (by decide +kernel), List.mem_of_getElem? (i := 566) (by decide +kernel)⟩
theorem lw_p33 : lw_okq (⟨"PluggedBusModel", "marks", "(I)V"⟩, 47) := ⟨⟨by decide +kernel, by decide +kernel⟩, List.mem_of_getElem? (i := 605) (by decide +kernel), List.mem_of_getElem? (i := 767) (by decide +kernel), List.mem_of_getElem? (i := 768) (by decide +kernel)⟩
theorem lw_p34 : lw_okq (⟨"PluggedBusModel", "out", "(I)V"⟩, 47) := ⟨⟨by decide +kernel, by decide +kernel⟩, List.mem_of_getElem? (i := 605) (by decide +kernel), List.mem_of_getElem? (i := 775) (by decide +kernel), List.mem_of_getElem? (i := 776) (by decide +kernel)⟩
theorem lw_p35 : lw_okq (⟨"PluggedBusModel", "takes", "(IIIZI)I"⟩, 47) := ⟨⟨by decide +kernel, by decide +kernel⟩, List.mem_of_getElem? (i := 605) (by decide +kernel), List.mem_of_getElem? (i := 795) (by decide +kernel), List.mem_of_getElem? (i := 796) (by decide +kernel)⟩
theorem lw_p36 : lw_okq (⟨"PluggedBusModel", "one", "()V"⟩, 47) := ⟨⟨by decide +kernel, by decide +kernel⟩, List.mem_of_getElem? (i := 605) (by decide +kernel), List.mem_of_getElem? (i := 807) (by decide +kernel), List.mem_of_getElem? (i := 808) (by decide +kernel)⟩
theorem lw_p37 : lw_okq (⟨"PluggedBusModel", "hears", "(IZ)V"⟩, 47) := ⟨⟨by decide +kernel, by decide +kernel⟩, List.mem_of_getElem? (i := 605) (by decide +kernel), List.mem_of_getElem? (i := 811) (by decide +kernel), List.mem_of_getElem? (i := 812) (by decide +kernel)⟩
theorem lw_p38 : lw_okq (⟨"PluggedBusModel", "detach", "(I)V"⟩, 47) := ⟨⟨by decide +kernel, by decide +kernel⟩, List.mem_of_getElem? (i := 605) (by decide +kernel), List.mem_of_getElem? (i := 815) (by decide +kernel), List.mem_of_getElem? (i := 816) (by decide +kernel)⟩
theorem lw_p39 : lw_okq (⟨"PluggedBusModel", "leaf", "(I)V"⟩, 47) := ⟨⟨by decide +kernel, by decide +kernel⟩, List.mem_of_getElem? (i := 605) (by decide +kernel), List.mem_of_getElem? (i := 819) (by decide +kernel), List.mem_of_getElem? (i := 820) (by decide +kernel)⟩
theorem lw_p40 : lw_okq (⟨"PluggedBusModel", "poll", "(I)V"⟩, 47) := ⟨⟨by decide +kernel, by decide +kernel⟩, List.mem_of_getElem? (i := 605) (by decide +kernel), List.mem_of_getElem? (i := 823) (by decide +kernel), List.mem_of_getElem? (i := 824) (by decide +kernel)⟩
theorem lw_p41 : lw_okq (⟨"PluggedBusModel", "in", "(I)I"⟩, 47) := ⟨⟨by decide +kernel, by decide +kernel⟩, List.mem_of_getElem? (i := 605) (by decide +kernel), List.mem_of_getElem? (i := 827) (by decide +kernel), List.mem_of_getElem? (i := 828) (by decide +kernel)⟩
theorem lw_p42 : lw_okq (⟨"PluggedBusModel", "token", "(I)I"⟩, 47) := ⟨⟨by decide +kernel, by decide +kernel⟩, List.mem_of_getElem? (i := 605) (by decide +kernel), List.mem_of_getElem? (i := 831) (by decide +kernel), List.mem_of_getElem? (i := 832) (by decide +kernel)⟩
theorem lw_p43 : lw_okq (⟨"PluggedBusModel", "make", "(I)V"⟩, 47) := ⟨⟨by decide +kernel, by decide +kernel⟩, List.mem_of_getElem? (i := 605) (by decide +kernel), List.mem_of_getElem? (i := 835) (by decide +kernel), List.mem_of_getElem? (i := 836) (by decide +kernel)⟩
theorem lw_p44 : lw_okq (⟨"PluggedBusModel", "tells", "(I)V"⟩, 47) := ⟨⟨by decide +kernel, by decide +kernel⟩, List.mem_of_getElem? (i := 605) (by decide +kernel), List.mem_of_getElem? (i := 839) (by decide +kernel), List.mem_of_getElem? (i := 840) (by decide +kernel)⟩
theorem lw_p45 : lw_okq (⟨"PluggedBusModel", "fails", "(II)V"⟩, 47) := ⟨⟨by decide +kernel, by decide +kernel⟩, List.mem_of_getElem? (i := 605) (by decide +kernel), List.mem_of_getElem? (i := 843) (by decide +kernel), List.mem_of_getElem? (i := 844) (by decide +kernel)⟩
theorem lw_p46 : lw_okq (⟨"PluggedBusModel", "going", "()I"⟩, 47) := ⟨⟨by decide +kernel, by decide +kernel⟩, List.mem_of_getElem? (i := 605) (by decide +kernel), List.mem_of_getElem? (i := 847) (by decide +kernel), List.mem_of_getElem? (i := 848) (by decide +kernel)⟩
theorem lw_p47 : lw_okq (⟨"PluggedBusModel", "begin", "()I"⟩, 47) := ⟨⟨by decide +kernel, by decide +kernel⟩, List.mem_of_getElem? (i := 605) (by decide +kernel), List.mem_of_getElem? (i := 851) (by decide +kernel), List.mem_of_getElem? (i := 852) (by decide +kernel)⟩
def lw_privs_3 : List (MethodName × Nat) := [(⟨"PluggedBus", "isOrder", "(I)Z"⟩, 8), (⟨"PluggedBusModel", "marks", "(I)V"⟩, 47), (⟨"PluggedBusModel", "out", "(I)V"⟩, 47), (⟨"PluggedBusModel", "takes", "(IIIZI)I"⟩, 47), (⟨"PluggedBusModel", "one", "()V"⟩, 47), (⟨"PluggedBusModel", "hears", "(IZ)V"⟩, 47), (⟨"PluggedBusModel", "detach", "(I)V"⟩, 47), (⟨"PluggedBusModel", "leaf", "(I)V"⟩, 47), (⟨"PluggedBusModel", "poll", "(I)V"⟩, 47), (⟨"PluggedBusModel", "in", "(I)I"⟩, 47), (⟨"PluggedBusModel", "token", "(I)I"⟩, 47), (⟨"PluggedBusModel", "make", "(I)V"⟩, 47), (⟨"PluggedBusModel", "tells", "(I)V"⟩, 47), (⟨"PluggedBusModel", "fails", "(II)V"⟩, 47), (⟨"PluggedBusModel", "going", "()I"⟩, 47), (⟨"PluggedBusModel", "begin", "()I"⟩, 47)]
theorem lw_r3 : ∀ q ∈ lw_privs_3, lw_okq q := List.forall_mem_cons.mpr ⟨lw_p32, List.forall_mem_cons.mpr ⟨lw_p33, List.forall_mem_cons.mpr ⟨lw_p34, List.forall_mem_cons.mpr ⟨lw_p35, List.forall_mem_cons.mpr ⟨lw_p36, List.forall_mem_cons.mpr ⟨lw_p37, List.forall_mem_cons.mpr ⟨lw_p38, List.forall_mem_cons.mpr ⟨lw_p39, List.forall_mem_cons.mpr ⟨lw_p40, List.forall_mem_cons.mpr ⟨lw_p41, List.forall_mem_cons.mpr ⟨lw_p42, List.forall_mem_cons.mpr ⟨lw_p43, List.forall_mem_cons.mpr ⟨lw_p44, List.forall_mem_cons.mpr ⟨lw_p45, List.forall_mem_cons.mpr ⟨lw_p46, List.forall_mem_cons.mpr ⟨lw_p47, fun _ h => absurd h List.not_mem_nil⟩⟩⟩⟩⟩⟩⟩⟩⟩⟩⟩⟩⟩⟩⟩⟩
theorem lw_p48 : lw_okq (⟨"PluggedBusModel", "reset", "(II)V"⟩, 47) := ⟨⟨by decide +kernel, by decide +kernel⟩, List.mem_of_getElem? (i := 605) (by decide +kernel), List.mem_of_getElem? (i := 855) (by decide +kernel), List.mem_of_getElem? (i := 856) (by decide +kernel)⟩
theorem lw_p49 : lw_okq (⟨"PluggedBusModel", "enumerate", "(I)V"⟩, 47) := ⟨⟨by decide +kernel, by decide +kernel⟩, List.mem_of_getElem? (i := 605) (by decide +kernel), List.mem_of_getElem? (i := 859) (by decide +kernel), List.mem_of_getElem? (i := 860) (by decide +kernel)⟩
theorem lw_p50 : lw_okq (⟨"PluggedBusModel", "setup", "(III)Z"⟩, 47) := ⟨⟨by decide +kernel, by decide +kernel⟩, List.mem_of_getElem? (i := 605) (by decide +kernel), List.mem_of_getElem? (i := 863) (by decide +kernel), List.mem_of_getElem? (i := 864) (by decide +kernel)⟩
theorem lw_p51 : lw_okq (⟨"PluggedBusModel", "described", "(II)V"⟩, 47) := ⟨⟨by decide +kernel, by decide +kernel⟩, List.mem_of_getElem? (i := 605) (by decide +kernel), List.mem_of_getElem? (i := 867) (by decide +kernel), List.mem_of_getElem? (i := 868) (by decide +kernel)⟩
theorem lw_p52 : lw_okq (⟨"PluggedBusModel", "turn", "()I"⟩, 47) := ⟨⟨by decide +kernel, by decide +kernel⟩, List.mem_of_getElem? (i := 605) (by decide +kernel), List.mem_of_getElem? (i := 872) (by decide +kernel), List.mem_of_getElem? (i := 873) (by decide +kernel)⟩
theorem lw_p53 : lw_okq (⟨"PluggedBusModel", "inHand", "(I)I"⟩, 47) := ⟨⟨by decide +kernel, by decide +kernel⟩, List.mem_of_getElem? (i := 605) (by decide +kernel), List.mem_of_getElem? (i := 876) (by decide +kernel), List.mem_of_getElem? (i := 877) (by decide +kernel)⟩
theorem lw_p54 : lw_okq (⟨"PluggedBusModel", "serve", "(I)V"⟩, 47) := ⟨⟨by decide +kernel, by decide +kernel⟩, List.mem_of_getElem? (i := 605) (by decide +kernel), List.mem_of_getElem? (i := 880) (by decide +kernel), List.mem_of_getElem? (i := 881) (by decide +kernel)⟩
theorem lw_p55 : lw_okq (⟨"PluggedBusModel", "give", "(IIZI)I"⟩, 47) := ⟨⟨by decide +kernel, by decide +kernel⟩, List.mem_of_getElem? (i := 605) (by decide +kernel), List.mem_of_getElem? (i := 884) (by decide +kernel), List.mem_of_getElem? (i := 885) (by decide +kernel)⟩
def lw_privs_4 : List (MethodName × Nat) := [(⟨"PluggedBusModel", "reset", "(II)V"⟩, 47), (⟨"PluggedBusModel", "enumerate", "(I)V"⟩, 47), (⟨"PluggedBusModel", "setup", "(III)Z"⟩, 47), (⟨"PluggedBusModel", "described", "(II)V"⟩, 47), (⟨"PluggedBusModel", "turn", "()I"⟩, 47), (⟨"PluggedBusModel", "inHand", "(I)I"⟩, 47), (⟨"PluggedBusModel", "serve", "(I)V"⟩, 47), (⟨"PluggedBusModel", "give", "(IIZI)I"⟩, 47)]
theorem lw_r4 : ∀ q ∈ lw_privs_4, lw_okq q := List.forall_mem_cons.mpr ⟨lw_p48, List.forall_mem_cons.mpr ⟨lw_p49, List.forall_mem_cons.mpr ⟨lw_p50, List.forall_mem_cons.mpr ⟨lw_p51, List.forall_mem_cons.mpr ⟨lw_p52, List.forall_mem_cons.mpr ⟨lw_p53, List.forall_mem_cons.mpr ⟨lw_p54, List.forall_mem_cons.mpr ⟨lw_p55, fun _ h => absurd h List.not_mem_nil⟩⟩⟩⟩⟩⟩⟩⟩
def lw_privs : List (MethodName × Nat) := lw_privs_1 ++ (lw_privs_2 ++ (lw_privs_3 ++ (lw_privs_4)))
def lw_tbl : List Cond := k2_sels lw_privs ++ tables_1
theorem lw_privs_ok : ∀ q ∈ lw_privs, lw_okq q := by
  show ∀ q ∈ lw_privs_1 ++ (lw_privs_2 ++ (lw_privs_3 ++ (lw_privs_4))), lw_okq q
  exact List.forall_mem_append.mpr ⟨lw_r1, List.forall_mem_append.mpr ⟨lw_r2, List.forall_mem_append.mpr ⟨lw_r3, lw_r4⟩⟩⟩
-- ===== end of PART A; then your names; then what follows =====
end
section
/-! THE ENGINE, first part: a small machine of numbers. A value is an int or a cell (kind, place); a state is two tables of ints (kinds below 16: the class; the others: the reference). -/
abbrev en_V : Type := Int32 ⊕ (Nat × Nat)
abbrev en_F : Type := Nat → Nat → Nat → Int32
abbrev en_T : Type := en_F × en_F
abbrev en_L : Type := List (Option en_V)
/-- scripts that are there (0 or 1), the script's length, its ints -/
abbrev en_S : Type := Nat × Nat × (Nat → Int32)
def en_s0 : en_S := (0, 0, fun _ => 0)
def en_up (f : en_F) (k i j : Nat) (x : Int32) : en_F := fun k' i' j' => if k' = k ∧ i' = i ∧ j' = j then x else f k' i' j'
def en_gt (f : en_T) (k i j : Nat) : Int32 := if k < 16 then f.1 k i j else f.2 k i j
def en_st (f : en_T) (k i j : Nat) (x : Int32) : en_T := if k < 16 then (en_up f.1 k i j x, f.2) else (f.1, en_up f.2 k i j x)
/-- what a step gives: the next point; an answer; a call (method, arguments, rest of the stack, where it goes on) -/
abbrev en_Rs : Type := (Nat × en_L × List en_V × en_T) ⊕ (Option en_V ⊕ (Nat × List en_V × List en_V × Nat))
def en_isz (x : Int32) : Bool := x == 0 || x == 1
def en_inr (x : Int32) (n : Nat) : Bool := !(decide (x < 0)) && !(decide (n ≤ x.toNatClampNeg))

def en_g (len L : Nat) (x : Option en_Rs) : Option en_Rs := if len = L then x else none
def en_nx (pc : Nat) (lo : en_L) (st : List en_V) (f : en_T) : Option en_Rs := some (.inl (pc, lo, st, f))
def en_jp (pc : Nat) (off : Int) (lo : en_L) (st : List en_V) (f : en_T) : Option en_Rs :=
  if 0 ≤ (pc : Int) + off then some (.inl (((pc : Int) + off).toNat, lo, st, f)) else none
def en_ild (pc : Nat) (lo : en_L) (st : List en_V) (f : en_T) (i : Nat) : Option en_Rs := match lo[i]? with
  | some (some (.inl x)) => some (.inl (pc, lo, .inl x :: st, f))
  | _ => none
def en_ald (pc : Nat) (lo : en_L) (st : List en_V) (f : en_T) (i : Nat) : Option en_Rs := match lo[i]? with
  | some (some (.inr q)) => some (.inl (pc, lo, .inr q :: st, f))
  | _ => none
def en_ist (pc : Nat) (lo : en_L) (st : List en_V) (f : en_T) (i : Nat) : Option en_Rs := match st with
  | .inl x :: r => if i < lo.length then some (.inl (pc, lo.set i (some (.inl x)), r, f)) else none
  | _ => none
def en_ast (pc : Nat) (lo : en_L) (st : List en_V) (f : en_T) (i : Nat) : Option en_Rs := match st with
  | .inr q :: r => if i < lo.length then some (.inl (pc, lo.set i (some (.inr q)), r, f)) else none
  | _ => none
def en_inc (pc : Nat) (lo : en_L) (st : List en_V) (f : en_T) (i : Nat) (n : Int) : Option en_Rs := match lo[i]? with
  | some (some (.inl x)) => some (.inl (pc, lo.set i (some (.inl (x + Int32.ofInt n))), st, f))
  | _ => none
def en_b2 (pc : Nat) (lo : en_L) (st : List en_V) (f : en_T) (op : Int32 → Int32 → Int32) : Option en_Rs := match st with
  | .inl b :: .inl a :: r => some (.inl (pc, lo, .inl (op a b) :: r, f))
  | _ => none
def en_bd (pc : Nat) (lo : en_L) (st : List en_V) (f : en_T) (op : Int32 → Int32 → Int32) : Option en_Rs := match st with
  | .inl b :: .inl a :: r => if b = 0 then none else some (.inl (pc, lo, .inl (op a b) :: r, f))
  | _ => none
def en_u1 (pc : Nat) (lo : en_L) (st : List en_V) (f : en_T) (op : Int32 → Int32) : Option en_Rs := match st with
  | .inl a :: r => some (.inl (pc, lo, .inl (op a) :: r, f))
  | _ => none
def en_if (pc : Nat) (off : Int) (lo : en_L) (st : List en_V) (f : en_T) (q : Int32 → Option en_Rs → Option en_Rs → Option en_Rs) : Option en_Rs := match st with
  | .inl a :: r => if 0 ≤ (pc : Int) + off then q a (en_nx ((pc : Int) + off).toNat lo r f) (en_nx (pc + 3) lo r f) else none
  | _ => none
def en_ic (pc : Nat) (off : Int) (lo : en_L) (st : List en_V) (f : en_T) (q : Int32 → Int32 → Option en_Rs → Option en_Rs → Option en_Rs) : Option en_Rs := match st with
  | .inl b :: .inl a :: r => if 0 ≤ (pc : Int) + off then q a b (en_nx ((pc : Int) + off).toNat lo r f) (en_nx (pc + 3) lo r f) else none
  | _ => none
def en_dup (pc : Nat) (lo : en_L) (st : List en_V) (f : en_T) : Option en_Rs := match st with
  | a :: r => some (.inl (pc, lo, a :: a :: r, f))
  | _ => none
def en_dupx (pc : Nat) (lo : en_L) (st : List en_V) (f : en_T) : Option en_Rs := match st with
  | a :: b :: r => some (.inl (pc, lo, a :: b :: a :: r, f))
  | _ => none
def en_dup2 (pc : Nat) (lo : en_L) (st : List en_V) (f : en_T) : Option en_Rs := match st with
  | a :: b :: r => some (.inl (pc, lo, a :: b :: a :: b :: r, f))
  | _ => none
def en_pop (pc : Nat) (lo : en_L) (st : List en_V) (f : en_T) : Option en_Rs := match st with
  | _ :: r => some (.inl (pc, lo, r, f))
  | _ => none

/-! THE TABLES (by program out of the listing): classes, fields, kinds of cells, methods and their code, and the places of the words in lw_tbl -/
abbrev en_I : Type := Instr × Nat × Nat × Nat
def en_cn : Nat → String := fun o => ["PluggedBus", "PluggedBus$Port", "PluggedBus$Device", "PluggedBus$Disk", "PluggedBus$Order", "PluggedBus$Line", "PluggedBus$KeyLog", "PluggedBusModel", "PluggedBusLaw"].getD o ""
def en_Ft0 : u_T := fun k => [("PluggedBus", "ports", "[LPluggedBus$Port;", true), ("PluggedBus", "orders", "[LPluggedBus$Order;", true), ("PluggedBus", "line", "LPluggedBus$Line;", true), ("PluggedBus", "keyLog", "LPluggedBus$KeyLog;", true), ("PluggedBus", "orderCount", "I", false), ("PluggedBus", "frameNumber", "I", false), ("PluggedBus", "servedLast", "I", false), ("PluggedBus", "heardPacket", "I", false)].getD k ("", "", "", true)
def en_ty0 : Nat → FieldType := fun k => [.array (.object "PluggedBus$Port"), .array (.object "PluggedBus$Order"), .object "PluggedBus$Line", .object "PluggedBus$KeyLog", .int, .int, .int, .int].getD k .int
def en_Ft1 : u_T := fun k => [("PluggedBus$Port", "device", "LPluggedBus$Device;", true), ("PluggedBus$Port", "open", "Z", false), ("PluggedBus$Port", "changed", "Z", false), ("PluggedBus$Port", "view", "I", false), ("PluggedBus$Port", "address", "I", false), ("PluggedBus$Port", "inToggle", "I", false), ("PluggedBus$Port", "outToggle", "I", false), ("PluggedBus$Port", "faults", "I", false), ("PluggedBus$Port", "step", "I", false), ("PluggedBus$Port", "kind", "I", false), ("PluggedBus$Port", "blocks", "I", false), ("PluggedBus$Port", "interval", "I", false), ("PluggedBus$Port", "cost", "I", false)].getD k ("", "", "", true)
def en_ty1 : Nat → FieldType := fun k => [.object "PluggedBus$Device", .boolean, .boolean, .int, .int, .int, .int, .int, .int, .int, .int, .int, .int].getD k .int
def en_Ft2 : u_T := fun k => [("PluggedBus$Device", "disk", "LPluggedBus$Disk;", true), ("PluggedBus$Device", "codes", "[I", true), ("PluggedBus$Device", "codeCount", "I", false), ("PluggedBus$Device", "kind", "I", false), ("PluggedBus$Device", "interval", "I", false), ("PluggedBus$Device", "cost", "I", false), ("PluggedBus$Device", "ownAddress", "I", false), ("PluggedBus$Device", "setupAddress", "I", false), ("PluggedBus$Device", "configured", "Z", false), ("PluggedBus$Device", "inToggle", "I", false), ("PluggedBus$Device", "outToggle", "I", false), ("PluggedBus$Device", "holds", "Z", false), ("PluggedBus$Device", "packet", "I", false)].getD k ("", "", "", true)
def en_ty2 : Nat → FieldType := fun k => [.object "PluggedBus$Disk", .array .int, .int, .int, .int, .int, .int, .int, .boolean, .int, .int, .boolean, .int].getD k .int
def en_Ft3 : u_T := fun k => [("PluggedBus$Disk", "content", "[I", true), ("PluggedBus$Disk", "size", "I", false), ("PluggedBus$Disk", "delay", "I", false), ("PluggedBus$Disk", "busy", "I", false), ("PluggedBus$Disk", "work", "I", false), ("PluggedBus$Disk", "at", "I", false), ("PluggedBus$Disk", "left", "I", false)].getD k ("", "", "", true)
def en_ty3 : Nat → FieldType := fun k => [.array .int, .int, .int, .int, .int, .int, .int].getD k .int
def en_Ft4 : u_T := fun k => [("PluggedBus$Order", "numbers", "[I", true), ("PluggedBus$Order", "taken", "I", false), ("PluggedBus$Order", "port", "I", false), ("PluggedBus$Order", "block", "I", false), ("PluggedBus$Order", "count", "I", false), ("PluggedBus$Order", "writes", "Z", false), ("PluggedBus$Order", "value", "I", false), ("PluggedBus$Order", "state", "I", false)].getD k ("", "", "", true)
def en_ty4 : Nat → FieldType := fun k => [.array .int, .int, .int, .int, .int, .boolean, .int, .int].getD k .int
def en_Ft5 : u_T := fun k => [("PluggedBus$Line", "losses", "[I", true), ("PluggedBus$Line", "nextAt", "I", false), ("PluggedBus$Line", "made", "I", false)].getD k ("", "", "", true)
def en_ty5 : Nat → FieldType := fun k => [.array .int, .int, .int].getD k .int
def en_Ft6 : u_T := fun k => [("PluggedBus$KeyLog", "recentKeys", "[I", true), ("PluggedBus$KeyLog", "nextAt", "I", false), ("PluggedBus$KeyLog", "count", "I", false)].getD k ("", "", "", true)
def en_ty6 : Nat → FieldType := fun k => [.array .int, .int, .int].getD k .int
def en_Ft7 : u_T := fun k => [("PluggedBusModel", "kind", "[I", true), ("PluggedBusModel", "first", "[I", true), ("PluggedBusModel", "second", "[I", true), ("PluggedBusModel", "open", "[Z", true), ("PluggedBusModel", "changed", "[Z", true), ("PluggedBusModel", "listens", "[I", true), ("PluggedBusModel", "setupAt", "[I", true), ("PluggedBusModel", "configured", "[Z", true), ("PluggedBusModel", "inSide", "[I", true), ("PluggedBusModel", "outSide", "[I", true), ("PluggedBusModel", "busy", "[I", true), ("PluggedBusModel", "holds", "[Z", true), ("PluggedBusModel", "held", "[I", true), ("PluggedBusModel", "doing", "[I", true), ("PluggedBusModel", "next", "[I", true), ("PluggedBusModel", "left", "[I", true), ("PluggedBusModel", "block", "[I", true), ("PluggedBusModel", "codes", "[I", true), ("PluggedBusModel", "code", "[I", true), ("PluggedBusModel", "view", "[I", true), ("PluggedBusModel", "number", "[I", true), ("PluggedBusModel", "known", "[I", true), ("PluggedBusModel", "blocks", "[I", true), ("PluggedBusModel", "interval", "[I", true), ("PluggedBusModel", "cost", "[I", true), ("PluggedBusModel", "hostIn", "[I", true), ("PluggedBusModel", "hostOut", "[I", true), ("PluggedBusModel", "faults", "[I", true), ("PluggedBusModel", "step", "I", false), ("PluggedBusModel", "served", "I", false), ("PluggedBusModel", "frame", "I", false), ("PluggedBusModel", "orders", "I", false), ("PluggedBusModel", "orderPort", "[I", true), ("PluggedBusModel", "writes", "[Z", true), ("PluggedBusModel", "orderBlock", "[I", true), ("PluggedBusModel", "orderCount", "[I", true), ("PluggedBusModel", "orderValue", "[I", true), ("PluggedBusModel", "orderEnd", "[I", true), ("PluggedBusModel", "orderStep", "[I", true), ("PluggedBusModel", "taken", "[I", true), ("PluggedBusModel", "numbers", "[I", true), ("PluggedBusModel", "keys", "I", false), ("PluggedBusModel", "latest", "[I", true), ("PluggedBusModel", "losses", "[I", true), ("PluggedBusModel", "transactions", "I", false), ("PluggedBusModel", "lost", "I", false), ("PluggedBusModel", "packet", "I", false)].getD k ("", "", "", true)
def en_ty7 : Nat → FieldType := fun k => [.array .int, .array .int, .array .int, .array .boolean, .array .boolean, .array .int, .array .int, .array .boolean, .array .int, .array .int, .array .int, .array .boolean, .array .int, .array .int, .array .int, .array .int, .array .int, .array .int, .array .int, .array .int, .array .int, .array .int, .array .int, .array .int, .array .int, .array .int, .array .int, .array .int, .int, .int, .int, .int, .array .int, .array .boolean, .array .int, .array .int, .array .int, .array .int, .array .int, .array .int, .array .int, .int, .array .int, .array .int, .int, .int, .int].getD k .int
def en_Ft : Nat → u_T := fun c => [en_Ft0, en_Ft1, en_Ft2, en_Ft3, en_Ft4, en_Ft5, en_Ft6, en_Ft7].getD c (fun _ => ("", "", "", true))
def en_ty : Nat → Nat → FieldType := fun c => [en_ty0, en_ty1, en_ty2, en_ty3, en_ty4, en_ty5, en_ty6, en_ty7].getD c (fun _ => .int)
def en_N : Nat → Nat := fun c => [8, 13, 13, 7, 8, 3, 3, 47].getD c 0
def en_cl : List vw_C := [(en_cn 0, en_Ft 0, en_N 0), (en_cn 1, en_Ft 1, en_N 1), (en_cn 2, en_Ft 2, en_N 2), (en_cn 3, en_Ft 3, en_N 3), (en_cn 4, en_Ft 4, en_N 4), (en_cn 5, en_Ft 5, en_N 5), (en_cn 6, en_Ft 6, en_N 6), (en_cn 7, en_Ft 7, en_N 7)]
def en_kt : Nat → Nat := fun k => [0, 3, 3, 0, 0, 0, 1, 1, 0, 1, 0, 1, 0, 1, 9, 9, 0, 1, 1, 1, 2, 2, 1, 1, 2, 1, 1, 1, 2, 1, 1, 1, 1, 1, 1, 1, 1, 1, 1, 1, 1, 1, 1, 1, 1, 9, 9, 9, 9, 1, 2, 1, 1, 1, 1, 1, 1, 1, 9, 1, 1].getD k 9
def en_cntL : List Nat := [1, 1, 1, 6, 6, 6, 6, 6, 16, 16, 1, 1, 1, 1, 0, 0, 1, 1, 1, 1, 1, 1, 1, 1, 1, 1, 1, 1, 1, 1, 1, 1, 1, 1, 1, 1, 1, 1, 1, 1, 1, 1, 1, 1, 1, 0, 0, 0, 0, 1, 1, 1, 1, 1, 1, 1, 1, 1, 0, 1, 1]
def en_cnt : Nat → Nat := fun k => en_cntL.getD k 0
def en_ln : Nat → Nat := fun k => [0, 6, 16, 0, 0, 0, 8, 4, 0, 4, 0, 40, 0, 8, 0, 0, 0, 6, 6, 6, 6, 6, 6, 6, 6, 6, 6, 6, 6, 6, 6, 6, 6, 48, 6, 24, 6, 6, 6, 6, 6, 6, 6, 6, 6, 0, 0, 0, 0, 16, 16, 16, 16, 16, 16, 16, 16, 64, 0, 8, 64].getD k 0
def en_kc : Nat → Nat := fun k => [0, 0, 0, 1, 2, 3, 0, 0, 4, 0, 5, 0, 6, 0, 0, 0, 7].getD k 0
def en_tk : Nat → Nat := fun k => [0, 3, 8].getD k 0
def en_to : Nat → String := fun k => ["", "PluggedBus$Port", "PluggedBus$Order"].getD k ""
def en_frL : List (List (Option Nat)) := [[some 1, some 2, some 10, some 12, none, none, none, none], [], [], [some 4, none, none, none, none, none, none, none, none, none, none, none, none], [some 5, some 7, none, none, none, none, none, none, none, none, none, none, none], [some 6, none, none, none, none, none, none], [], [], [some 9, none, none, none, none, none, none, none], [], [some 11, none, none], [], [some 13, none, none], [], [], [], [some 17, some 18, some 19, some 20, some 21, some 22, some 23, some 24, some 25, some 26, some 27, some 28, some 29, some 30, some 31, some 32, some 33, some 34, some 35, some 36, some 37, some 38, some 39, some 40, some 41, some 42, some 43, some 44, none, none, none, none, some 49, some 50, some 51, some 52, some 53, some 54, some 55, some 56, some 57, none, some 59, some 60, none, none, none]]
def en_fr (k j : Nat) : Option Nat := ((en_frL.getD k []).getD j none)
def en_pwL : List (List Nat) := [[0, 0, 0, 0, 1, 1, 1, 1], [], [], [0, 2, 2, 1, 1, 1, 1, 1, 1, 1, 1, 1, 1], [0, 0, 1, 1, 1, 1, 1, 1, 2, 1, 1, 2, 1], [0, 1, 1, 1, 1, 1, 1], [], [], [0, 1, 1, 1, 1, 2, 1, 1], [], [0, 1, 1], [], [0, 1, 1], [], [], [], [0, 0, 0, 0, 0, 0, 0, 0, 0, 0, 0, 0, 0, 0, 0, 0, 0, 0, 0, 0, 0, 0, 0, 0, 0, 0, 0, 0, 1, 1, 1, 1, 0, 0, 0, 0, 0, 0, 0, 0, 0, 1, 0, 0, 1, 1, 1]]
def en_pw (k j : Nat) : Nat := (en_pwL.getD k []).getD j 0
def en_allc : List (Nat × Nat) := (List.range 63).flatMap fun k => (List.range (en_cnt k)).map fun i => (k, i)
abbrev en_Me : Type := MethodName × ByteArray × (Nat × Nat × Nat × Bool × Nat × Nat) × List (Nat × en_I)
end
section
/-! THE CODE OF EACH METHOD: (place, instruction, length, kind or method, slot) -/
/-- PluggedBus$Disk.becomeNew (II)V -/
def en_t0 : List (Nat × en_I) := [(0, .aload_n 0, 1, 0, 0), (1, .iload_n 1, 1, 0, 0), (2, .putfield 19, 3, 5, 1), (5, .aload_n 0, 1, 0, 0), (6, .iload_n 2, 1, 0, 0), (7, .putfield 22, 3, 5, 2), (10, .iconst 0, 1, 0, 0), (11, .istore_n 3, 1, 0, 0), (12, .iload_n 3, 1, 0, 0), (13, .bipush 8, 2, 0, 0), (15, .if_icmp .ge 16, 3, 0, 0), (18, .aload_n 0, 1, 0, 0), (19, .getfield 9, 3, 5, 0), (22, .iload_n 3, 1, 0, 0), (23, .iconst 0, 1, 0, 0), (24, .iastore, 1, 0, 0), (25, .iinc 3 1, 3, 0, 0), (28, .goto (-16), 3, 0, 0), (31, .return_, 1, 0, 0)]
def en_m0 : en_Me := (⟨"PluggedBus$Disk", "becomeNew", "(II)V"⟩, prog_3_method_2_code, (4, 0, 3, false, 2, 5), en_t0)
/-- PluggedBus$Disk.rest ()V -/
def en_t1 : List (Nat × en_I) := [(0, .aload_n 0, 1, 0, 0), (1, .iconst 0, 1, 0, 0), (2, .putfield 25, 3, 5, 3), (5, .aload_n 0, 1, 0, 0), (6, .iconst 0, 1, 0, 0), (7, .putfield 15, 3, 5, 4), (10, .aload_n 0, 1, 0, 0), (11, .iconst 0, 1, 0, 0), (12, .putfield 28, 3, 5, 6), (15, .return_, 1, 0, 0)]
def en_m1 : en_Me := (⟨"PluggedBus$Disk", "rest", "()V"⟩, prog_3_method_3_code, (1, 0, 3, false, 0, 5), en_t1)
/-- PluggedBus$Disk.blockAt (I)I -/
def en_t2 : List (Nat × en_I) := [(0, .iload_n 1, 1, 0, 0), (1, .ifCond .lt 26, 3, 0, 0), (4, .iload_n 1, 1, 0, 0), (5, .aload_n 0, 1, 0, 0), (6, .getfield 19, 3, 5, 1), (9, .if_icmp .ge 18, 3, 0, 0), (12, .iload_n 1, 1, 0, 0), (13, .bipush 8, 2, 0, 0), (15, .if_icmp .ge 12, 3, 0, 0), (18, .aload_n 0, 1, 0, 0), (19, .getfield 9, 3, 5, 0), (22, .iload_n 1, 1, 0, 0), (23, .iaload, 1, 0, 0), (24, .goto 4, 3, 0, 0), (27, .iconst 0, 1, 0, 0), (28, .ireturn, 1, 0, 0)]
def en_m2 : en_Me := (⟨"PluggedBus$Disk", "blockAt", "(I)I"⟩, prog_3_method_4_code, (2, 1, 3, false, 1, 5), en_t2)
/-- PluggedBus$Disk.mustTakeData ()Z -/
def en_t3 : List (Nat × en_I) := [(0, .aload_n 0, 1, 0, 0), (1, .getfield 15, 3, 5, 4), (4, .iconst 2, 1, 0, 0), (5, .if_icmp .ne 14, 3, 0, 0), (8, .aload_n 0, 1, 0, 0), (9, .getfield 28, 3, 5, 6), (12, .ifCond .le 7, 3, 0, 0), (15, .iconst 1, 1, 0, 0), (16, .goto 4, 3, 0, 0), (19, .iconst 0, 1, 0, 0), (20, .ireturn, 1, 0, 0)]
def en_m3 : en_Me := (⟨"PluggedBus$Disk", "mustTakeData", "()Z"⟩, prog_3_method_5_code, (1, 2, 3, false, 0, 5), en_t3)
/-- PluggedBus$Disk.mustMakePacket ()Z -/
def en_t4 : List (Nat × en_I) := [(0, .aload_n 0, 1, 0, 0), (1, .getfield 15, 3, 5, 4), (4, .iconst 1, 1, 0, 0), (5, .if_icmp .eq 18, 3, 0, 0), (8, .aload_n 0, 1, 0, 0), (9, .getfield 15, 3, 5, 4), (12, .iconst 2, 1, 0, 0), (13, .if_icmp .ne 14, 3, 0, 0), (16, .aload_n 0, 1, 0, 0), (17, .getfield 28, 3, 5, 6), (20, .ifCond .ne 7, 3, 0, 0), (23, .iconst 1, 1, 0, 0), (24, .goto 4, 3, 0, 0), (27, .iconst 0, 1, 0, 0), (28, .ireturn, 1, 0, 0)]
def en_m4 : en_Me := (⟨"PluggedBus$Disk", "mustMakePacket", "()Z"⟩, prog_3_method_6_code, (1, 2, 3, false, 0, 5), en_t4)
/-- PluggedBus$Disk.take (I)V -/
def en_t5 : List (Nat × en_I) := [(0, .aload_n 0, 1, 0, 0), (1, .getfield 15, 3, 5, 4), (4, .ifCond .ne 11, 3, 0, 0), (7, .aload_n 0, 1, 0, 0), (8, .iload_n 1, 1, 0, 0), (9, .invokevirtual 31, 3, 6, 0), (12, .goto 56, 3, 0, 0), (15, .aload_n 0, 1, 0, 0), (16, .invokevirtual 35, 3, 3, 0), (19, .ifCond .eq 49, 3, 0, 0), (22, .aload_n 0, 1, 0, 0), (23, .getfield 39, 3, 5, 5), (26, .ifCond .lt 42, 3, 0, 0), (29, .aload_n 0, 1, 0, 0), (30, .getfield 39, 3, 5, 5), (33, .bipush 8, 2, 0, 0), (35, .if_icmp .ge 33, 3, 0, 0), (38, .aload_n 0, 1, 0, 0), (39, .getfield 9, 3, 5, 0), (42, .aload_n 0, 1, 0, 0), (43, .getfield 39, 3, 5, 5), (46, .iload_n 1, 1, 0, 0), (47, .iastore, 1, 0, 0), (48, .aload_n 0, 1, 0, 0), (49, .dup, 1, 0, 0), (50, .getfield 39, 3, 5, 5), (53, .iconst 1, 1, 0, 0), (54, .iadd, 1, 0, 0), (55, .putfield 39, 3, 5, 5), (58, .aload_n 0, 1, 0, 0), (59, .dup, 1, 0, 0), (60, .getfield 28, 3, 5, 6), (63, .iconst 1, 1, 0, 0), (64, .isub, 1, 0, 0), (65, .putfield 28, 3, 5, 6), (68, .return_, 1, 0, 0)]
def en_m5 : en_Me := (⟨"PluggedBus$Disk", "take", "(I)V"⟩, prog_3_method_7_code, (2, 0, 3, false, 1, 5), en_t5)
/-- PluggedBus$Disk.takeCommand (I)V -/
def en_t6 : List (Nat × en_I) := [(0, .aload_n 0, 1, 0, 0), (1, .aload_n 0, 1, 0, 0), (2, .getfield 22, 3, 5, 2), (5, .putfield 25, 3, 5, 3), (8, .aload_n 0, 1, 0, 0), (9, .iload_n 1, 1, 0, 0), (10, .bipush 64, 2, 0, 0), (12, .iand, 1, 0, 0), (13, .ifCond .eq 7, 3, 0, 0), (16, .iconst 2, 1, 0, 0), (17, .goto 4, 3, 0, 0), (20, .iconst 1, 1, 0, 0), (21, .putfield 15, 3, 5, 4), (24, .aload_n 0, 1, 0, 0), (25, .iload_n 1, 1, 0, 0), (26, .iconst 3, 1, 0, 0), (27, .ishr, 1, 0, 0), (28, .bipush 7, 2, 0, 0), (30, .iand, 1, 0, 0), (31, .putfield 39, 3, 5, 5), (34, .aload_n 0, 1, 0, 0), (35, .iload_n 1, 1, 0, 0), (36, .bipush 7, 2, 0, 0), (38, .iand, 1, 0, 0), (39, .putfield 28, 3, 5, 6), (42, .return_, 1, 0, 0)]
def en_m6 : en_Me := (⟨"PluggedBus$Disk", "takeCommand", "(I)V"⟩, prog_3_method_8_code, (2, 0, 3, false, 1, 5), en_t6)
/-- PluggedBus$Disk.make ()I -/
def en_t7 : List (Nat × en_I) := [(0, .aload_n 0, 1, 0, 0), (1, .getfield 28, 3, 5, 6), (4, .ifCond .ne 10, 3, 0, 0), (7, .aload_n 0, 1, 0, 0), (8, .iconst 0, 1, 0, 0), (9, .putfield 15, 3, 5, 4), (12, .iconst 0, 1, 0, 0), (13, .ireturn, 1, 0, 0), (14, .aload_n 0, 1, 0, 0), (15, .getfield 39, 3, 5, 5), (18, .ifCond .lt 24, 3, 0, 0), (21, .aload_n 0, 1, 0, 0), (22, .getfield 39, 3, 5, 5), (25, .bipush 8, 2, 0, 0), (27, .if_icmp .ge 15, 3, 0, 0), (30, .aload_n 0, 1, 0, 0), (31, .getfield 9, 3, 5, 0), (34, .aload_n 0, 1, 0, 0), (35, .getfield 39, 3, 5, 5), (38, .iaload, 1, 0, 0), (39, .goto 4, 3, 0, 0), (42, .iconst 0, 1, 0, 0), (43, .istore_n 1, 1, 0, 0), (44, .aload_n 0, 1, 0, 0), (45, .dup, 1, 0, 0), (46, .getfield 39, 3, 5, 5), (49, .iconst 1, 1, 0, 0), (50, .iadd, 1, 0, 0), (51, .putfield 39, 3, 5, 5), (54, .aload_n 0, 1, 0, 0), (55, .dup, 1, 0, 0), (56, .getfield 28, 3, 5, 6), (59, .iconst 1, 1, 0, 0), (60, .isub, 1, 0, 0), (61, .putfield 28, 3, 5, 6), (64, .iload_n 1, 1, 0, 0), (65, .ireturn, 1, 0, 0)]
def en_m7 : en_Me := (⟨"PluggedBus$Disk", "make", "()I"⟩, prog_3_method_9_code, (2, 1, 3, false, 0, 5), en_t7)
/-- PluggedBus$Order.goesOut (I)Z -/
def en_t8 : List (Nat × en_I) := [(0, .iload_n 1, 1, 0, 0), (1, .ifCond .eq 18, 3, 0, 0), (4, .aload_n 0, 1, 0, 0), (5, .getfield 19, 3, 8, 5), (8, .ifCond .eq 15, 3, 0, 0), (11, .iload_n 1, 1, 0, 0), (12, .aload_n 0, 1, 0, 0), (13, .getfield 23, 3, 8, 4), (16, .if_icmp .gt 7, 3, 0, 0), (19, .iconst 1, 1, 0, 0), (20, .goto 4, 3, 0, 0), (23, .iconst 0, 1, 0, 0), (24, .ireturn, 1, 0, 0)]
def en_m8 : en_Me := (⟨"PluggedBus$Order", "goesOut", "(I)Z"⟩, prog_6_method_2_code, (2, 2, 4, false, 1, 8), en_t8)
/-- PluggedBus$Order.packetAt (I)I -/
def en_t9 : List (Nat × en_I) := [(0, .iload_n 1, 1, 0, 0), (1, .ifCond .le 12, 3, 0, 0), (4, .aload_n 0, 1, 0, 0), (5, .getfield 26, 3, 8, 6), (8, .iload_n 1, 1, 0, 0), (9, .iadd, 1, 0, 0), (10, .iconst 1, 1, 0, 0), (11, .isub, 1, 0, 0), (12, .ireturn, 1, 0, 0), (13, .aload_n 0, 1, 0, 0), (14, .getfield 23, 3, 8, 4), (17, .aload_n 0, 1, 0, 0), (18, .getfield 29, 3, 8, 3), (21, .iconst 3, 1, 0, 0), (22, .ishl, 1, 0, 0), (23, .ior, 1, 0, 0), (24, .aload_n 0, 1, 0, 0), (25, .getfield 19, 3, 8, 5), (28, .ifCond .eq 8, 3, 0, 0), (31, .bipush 64, 2, 0, 0), (33, .goto 4, 3, 0, 0), (36, .iconst 0, 1, 0, 0), (37, .ior, 1, 0, 0), (38, .ireturn, 1, 0, 0)]
def en_m9 : en_Me := (⟨"PluggedBus$Order", "packetAt", "(I)I"⟩, prog_6_method_3_code, (2, 1, 4, false, 1, 8), en_t9)
/-- PluggedBus$Order.keep (I)V -/
def en_t10 : List (Nat × en_I) := [(0, .aload_n 0, 1, 0, 0), (1, .getfield 32, 3, 8, 1), (4, .iconst 4, 1, 0, 0), (5, .if_icmp .ge 23, 3, 0, 0), (8, .aload_n 0, 1, 0, 0), (9, .getfield 9, 3, 8, 0), (12, .aload_n 0, 1, 0, 0), (13, .getfield 32, 3, 8, 1), (16, .iload_n 1, 1, 0, 0), (17, .iastore, 1, 0, 0), (18, .aload_n 0, 1, 0, 0), (19, .dup, 1, 0, 0), (20, .getfield 32, 3, 8, 1), (23, .iconst 1, 1, 0, 0), (24, .iadd, 1, 0, 0), (25, .putfield 32, 3, 8, 1), (28, .return_, 1, 0, 0)]
def en_m10 : en_Me := (⟨"PluggedBus$Order", "keep", "(I)V"⟩, prog_6_method_4_code, (2, 0, 4, false, 1, 8), en_t10)
/-- PluggedBus$Order.takenNumber (I)I -/
def en_t11 : List (Nat × en_I) := [(0, .iload_n 1, 1, 0, 0), (1, .ifCond .lt 20, 3, 0, 0), (4, .iload_n 1, 1, 0, 0), (5, .aload_n 0, 1, 0, 0), (6, .getfield 32, 3, 8, 1), (9, .if_icmp .ge 12, 3, 0, 0), (12, .aload_n 0, 1, 0, 0), (13, .getfield 9, 3, 8, 0), (16, .iload_n 1, 1, 0, 0), (17, .iaload, 1, 0, 0), (18, .goto 4, 3, 0, 0), (21, .iconst 0, 1, 0, 0), (22, .ireturn, 1, 0, 0)]
def en_m11 : en_Me := (⟨"PluggedBus$Order", "takenNumber", "(I)I"⟩, prog_6_method_5_code, (2, 1, 4, false, 1, 8), en_t11)
/-- PluggedBus$Order.endUnlessOver (I)V -/
def en_t12 : List (Nat × en_I) := [(0, .aload_n 0, 1, 0, 0), (1, .getfield 15, 3, 8, 7), (4, .ifCond .ne 8, 3, 0, 0), (7, .aload_n 0, 1, 0, 0), (8, .iload_n 1, 1, 0, 0), (9, .putfield 15, 3, 8, 7), (12, .return_, 1, 0, 0)]
def en_m12 : en_Me := (⟨"PluggedBus$Order", "endUnlessOver", "(I)V"⟩, prog_6_method_6_code, (2, 0, 4, false, 1, 8), en_t12)
/-- PluggedBus$Line.plan (II)V -/
def en_t13 : List (Nat × en_I) := [(0, .aload_n 0, 1, 0, 0), (1, .getfield 9, 3, 10, 0), (4, .aload_n 0, 1, 0, 0), (5, .getfield 15, 3, 10, 1), (8, .iload_n 1, 1, 0, 0), (9, .iadd, 1, 0, 0), (10, .iconst 1, 1, 0, 0), (11, .isub, 1, 0, 0), (12, .bipush 40, 2, 0, 0), (14, .irem, 1, 0, 0), (15, .iload_n 2, 1, 0, 0), (16, .iconst 3, 1, 0, 0), (17, .if_icmp .ne 7, 3, 0, 0), (20, .iconst 0, 1, 0, 0), (21, .goto 6, 3, 0, 0), (24, .iload_n 2, 1, 0, 0), (25, .iconst 1, 1, 0, 0), (26, .iadd, 1, 0, 0), (27, .iastore, 1, 0, 0), (28, .return_, 1, 0, 0)]
def en_m13 : en_Me := (⟨"PluggedBus$Line", "plan", "(II)V"⟩, prog_5_method_2_code, (3, 0, 5, false, 2, 10), en_t13)
/-- PluggedBus$Line.next ()I -/
def en_t14 : List (Nat × en_I) := [(0, .aload_n 0, 1, 0, 0), (1, .getfield 9, 3, 10, 0), (4, .aload_n 0, 1, 0, 0), (5, .getfield 15, 3, 10, 1), (8, .iaload, 1, 0, 0), (9, .istore_n 1, 1, 0, 0), (10, .aload_n 0, 1, 0, 0), (11, .getfield 9, 3, 10, 0), (14, .aload_n 0, 1, 0, 0), (15, .getfield 15, 3, 10, 1), (18, .iconst 0, 1, 0, 0), (19, .iastore, 1, 0, 0), (20, .aload_n 0, 1, 0, 0), (21, .aload_n 0, 1, 0, 0), (22, .getfield 15, 3, 10, 1), (25, .iconst 1, 1, 0, 0), (26, .iadd, 1, 0, 0), (27, .bipush 40, 2, 0, 0), (29, .irem, 1, 0, 0), (30, .putfield 15, 3, 10, 1), (33, .aload_n 0, 1, 0, 0), (34, .dup, 1, 0, 0), (35, .getfield 19, 3, 10, 2), (38, .iconst 1, 1, 0, 0), (39, .iadd, 1, 0, 0), (40, .putfield 19, 3, 10, 2), (43, .iload_n 1, 1, 0, 0), (44, .ifCond .ne 7, 3, 0, 0), (47, .iconst 3, 1, 0, 0), (48, .goto 6, 3, 0, 0), (51, .iload_n 1, 1, 0, 0), (52, .iconst 1, 1, 0, 0), (53, .isub, 1, 0, 0), (54, .ireturn, 1, 0, 0)]
def en_m14 : en_Me := (⟨"PluggedBus$Line", "next", "()I"⟩, prog_5_method_3_code, (2, 1, 5, false, 0, 10), en_t14)
/-- PluggedBus$KeyLog.add (I)V -/
def en_t15 : List (Nat × en_I) := [(0, .aload_n 0, 1, 0, 0), (1, .getfield 9, 3, 12, 0), (4, .aload_n 0, 1, 0, 0), (5, .getfield 15, 3, 12, 1), (8, .iload_n 1, 1, 0, 0), (9, .iastore, 1, 0, 0), (10, .aload_n 0, 1, 0, 0), (11, .aload_n 0, 1, 0, 0), (12, .getfield 15, 3, 12, 1), (15, .iconst 1, 1, 0, 0), (16, .iadd, 1, 0, 0), (17, .bipush 8, 2, 0, 0), (19, .irem, 1, 0, 0), (20, .putfield 15, 3, 12, 1), (23, .aload_n 0, 1, 0, 0), (24, .dup, 1, 0, 0), (25, .getfield 19, 3, 12, 2), (28, .iconst 1, 1, 0, 0), (29, .iadd, 1, 0, 0), (30, .putfield 19, 3, 12, 2), (33, .return_, 1, 0, 0)]
def en_m15 : en_Me := (⟨"PluggedBus$KeyLog", "add", "(I)V"⟩, prog_4_method_2_code, (2, 0, 6, false, 1, 12), en_t15)
/-- PluggedBus$KeyLog.recent (I)I -/
def en_t16 : List (Nat × en_I) := [(0, .iload_n 1, 1, 0, 0), (1, .ifCond .lt 17, 3, 0, 0), (4, .iload_n 1, 1, 0, 0), (5, .bipush 8, 2, 0, 0), (7, .if_icmp .ge 11, 3, 0, 0), (10, .iload_n 1, 1, 0, 0), (11, .aload_n 0, 1, 0, 0), (12, .getfield 19, 3, 12, 2), (15, .if_icmp .lt 5, 3, 0, 0), (18, .iconst (-1), 1, 0, 0), (19, .ireturn, 1, 0, 0), (20, .aload_n 0, 1, 0, 0), (21, .getfield 9, 3, 12, 0), (24, .aload_n 0, 1, 0, 0), (25, .getfield 15, 3, 12, 1), (28, .bipush 8, 2, 0, 0), (30, .iadd, 1, 0, 0), (31, .iconst 1, 1, 0, 0), (32, .isub, 1, 0, 0), (33, .iload_n 1, 1, 0, 0), (34, .isub, 1, 0, 0), (35, .bipush 8, 2, 0, 0), (37, .irem, 1, 0, 0), (38, .iaload, 1, 0, 0), (39, .ireturn, 1, 0, 0)]
def en_m16 : en_Me := (⟨"PluggedBus$KeyLog", "recent", "(I)I"⟩, prog_4_method_3_code, (2, 1, 6, false, 1, 12), en_t16)
/-- PluggedBus$Device.becomeNew (III)V -/
def en_t17 : List (Nat × en_I) := [(0, .aload_n 0, 1, 0, 0), (1, .iload_n 1, 1, 0, 0), (2, .putfield 22, 3, 4, 3), (5, .aload_n 0, 1, 0, 0), (6, .iload_n 1, 1, 0, 0), (7, .iconst 2, 1, 0, 0), (8, .if_icmp .ne 7, 3, 0, 0), (11, .iload_n 2, 1, 0, 0), (12, .goto 4, 3, 0, 0), (15, .iconst 0, 1, 0, 0), (16, .putfield 26, 3, 4, 4), (19, .aload_n 0, 1, 0, 0), (20, .iload_n 1, 1, 0, 0), (21, .iconst 2, 1, 0, 0), (22, .if_icmp .ne 7, 3, 0, 0), (25, .iload_n 3, 1, 0, 0), (26, .goto 13, 3, 0, 0), (29, .iload_n 1, 1, 0, 0), (30, .iconst 3, 1, 0, 0), (31, .if_icmp .ne 7, 3, 0, 0), (34, .iconst 4, 1, 0, 0), (35, .goto 4, 3, 0, 0), (38, .iconst 0, 1, 0, 0), (39, .putfield 29, 3, 4, 5), (42, .aload_n 0, 1, 0, 0), (43, .iconst 0, 1, 0, 0), (44, .putfield 32, 3, 4, 2), (47, .aload_n 0, 1, 0, 0), (48, .getfield 12, 3, 4, 0), (51, .iload_n 1, 1, 0, 0), (52, .iconst 1, 1, 0, 0), (53, .if_icmp .ne 7, 3, 0, 0), (56, .iload_n 2, 1, 0, 0), (57, .goto 4, 3, 0, 0), (60, .iconst 0, 1, 0, 0), (61, .iload_n 1, 1, 0, 0), (62, .iconst 1, 1, 0, 0), (63, .if_icmp .ne 7, 3, 0, 0), (66, .iload_n 3, 1, 0, 0), (67, .goto 4, 3, 0, 0), (70, .iconst 0, 1, 0, 0), (71, .invokevirtual 35, 3, 0, 0), (74, .aload_n 0, 1, 0, 0), (75, .invokevirtual 39, 3, 18, 0), (78, .return_, 1, 0, 0)]
def en_m17 : en_Me := (⟨"PluggedBus$Device", "becomeNew", "(III)V"⟩, prog_2_method_2_code, (4, 0, 2, false, 3, 4), en_t17)
/-- PluggedBus$Device.reset ()V -/
def en_t18 : List (Nat × en_I) := [(0, .aload_n 0, 1, 0, 0), (1, .iconst 0, 1, 0, 0), (2, .putfield 42, 3, 4, 6), (5, .aload_n 0, 1, 0, 0), (6, .iconst 0, 1, 0, 0), (7, .putfield 45, 3, 4, 7), (10, .aload_n 0, 1, 0, 0), (11, .iconst 0, 1, 0, 0), (12, .putfield 48, 3, 4, 8), (15, .aload_n 0, 1, 0, 0), (16, .iconst 0, 1, 0, 0), (17, .putfield 52, 3, 4, 9), (20, .aload_n 0, 1, 0, 0), (21, .iconst 0, 1, 0, 0), (22, .putfield 55, 3, 4, 10), (25, .aload_n 0, 1, 0, 0), (26, .iconst 0, 1, 0, 0), (27, .putfield 58, 3, 4, 11), (30, .aload_n 0, 1, 0, 0), (31, .getfield 12, 3, 4, 0), (34, .invokevirtual 61, 3, 1, 0), (37, .return_, 1, 0, 0)]
def en_m18 : en_Me := (⟨"PluggedBus$Device", "reset", "()V"⟩, prog_2_method_3_code, (1, 0, 2, false, 0, 4), en_t18)
/-- PluggedBus$Device.listensTo (I)Z -/
def en_t19 : List (Nat × en_I) := [(0, .iload_n 1, 1, 0, 0), (1, .aload_n 0, 1, 0, 0), (2, .getfield 42, 3, 4, 6), (5, .if_icmp .eq 11, 3, 0, 0), (8, .iload_n 1, 1, 0, 0), (9, .aload_n 0, 1, 0, 0), (10, .getfield 45, 3, 4, 7), (13, .if_icmp .ne 7, 3, 0, 0), (16, .iconst 1, 1, 0, 0), (17, .goto 4, 3, 0, 0), (20, .iconst 0, 1, 0, 0), (21, .ireturn, 1, 0, 0)]
def en_m19 : en_Me := (⟨"PluggedBus$Device", "listensTo", "(I)Z"⟩, prog_2_method_4_code, (2, 2, 2, false, 1, 4), en_t19)
/-- PluggedBus$Device.addCode (I)Z -/
def en_t20 : List (Nat × en_I) := [(0, .aload_n 0, 1, 0, 0), (1, .getfield 22, 3, 4, 3), (4, .iconst 2, 1, 0, 0), (5, .if_icmp .ne 11, 3, 0, 0), (8, .aload_n 0, 1, 0, 0), (9, .getfield 32, 3, 4, 2), (12, .iconst 4, 1, 0, 0), (13, .if_icmp .lt 5, 3, 0, 0), (16, .iconst 0, 1, 0, 0), (17, .ireturn, 1, 0, 0), (18, .aload_n 0, 1, 0, 0), (19, .getfield 18, 3, 4, 1), (22, .aload_n 0, 1, 0, 0), (23, .getfield 32, 3, 4, 2), (26, .iload_n 1, 1, 0, 0), (27, .iastore, 1, 0, 0), (28, .aload_n 0, 1, 0, 0), (29, .dup, 1, 0, 0), (30, .getfield 32, 3, 4, 2), (33, .iconst 1, 1, 0, 0), (34, .iadd, 1, 0, 0), (35, .putfield 32, 3, 4, 2), (38, .iconst 1, 1, 0, 0), (39, .ireturn, 1, 0, 0)]
def en_m20 : en_Me := (⟨"PluggedBus$Device", "addCode", "(I)Z"⟩, prog_2_method_5_code, (2, 2, 2, false, 1, 4), en_t20)
/-- PluggedBus$Device.agreesTo (II)Z -/
def en_t21 : List (Nat × en_I) := [(0, .iload_n 1, 1, 0, 0), (1, .aload_n 0, 1, 0, 0), (2, .getfield 55, 3, 4, 10), (5, .if_icmp .eq 5, 3, 0, 0), (8, .iconst 1, 1, 0, 0), (9, .ireturn, 1, 0, 0), (10, .aload_n 0, 1, 0, 0), (11, .getfield 12, 3, 4, 0), (14, .invokevirtual 64, 3, 3, 0), (17, .ifCond .eq 28, 3, 0, 0), (20, .aload_n 0, 1, 0, 0), (21, .getfield 12, 3, 4, 0), (24, .getfield 68, 3, 5, 3), (27, .ifCond .eq 18, 3, 0, 0), (30, .aload_n 0, 1, 0, 0), (31, .getfield 12, 3, 4, 0), (34, .dup, 1, 0, 0), (35, .getfield 68, 3, 5, 3), (38, .iconst 1, 1, 0, 0), (39, .isub, 1, 0, 0), (40, .putfield 68, 3, 5, 3), (43, .iconst 0, 1, 0, 0), (44, .ireturn, 1, 0, 0), (45, .aload_n 0, 1, 0, 0), (46, .getfield 12, 3, 4, 0), (49, .iload_n 2, 1, 0, 0), (50, .invokevirtual 71, 3, 5, 0), (53, .aload_n 0, 1, 0, 0), (54, .dup, 1, 0, 0), (55, .getfield 55, 3, 4, 10), (58, .iconst 1, 1, 0, 0), (59, .ixor, 1, 0, 0), (60, .putfield 55, 3, 4, 10), (63, .iconst 1, 1, 0, 0), (64, .ireturn, 1, 0, 0)]
def en_m21 : en_Me := (⟨"PluggedBus$Device", "agreesTo", "(II)Z"⟩, prog_2_method_6_code, (3, 2, 2, false, 2, 4), en_t21)
/-- PluggedBus$Device.hold (I)V -/
def en_t22 : List (Nat × en_I) := [(0, .aload_n 0, 1, 0, 0), (1, .iload_n 1, 1, 0, 0), (2, .putfield 75, 3, 4, 12), (5, .aload_n 0, 1, 0, 0), (6, .iconst 1, 1, 0, 0), (7, .putfield 58, 3, 4, 11), (10, .return_, 1, 0, 0)]
def en_m22 : en_Me := (⟨"PluggedBus$Device", "hold", "(I)V"⟩, prog_2_method_7_code, (2, 0, 2, false, 1, 4), en_t22)
/-- PluggedBus$Device.letGo ()V -/
def en_t23 : List (Nat × en_I) := [(0, .aload_n 0, 1, 0, 0), (1, .iconst 0, 1, 0, 0), (2, .putfield 58, 3, 4, 11), (5, .aload_n 0, 1, 0, 0), (6, .dup, 1, 0, 0), (7, .getfield 52, 3, 4, 9), (10, .iconst 1, 1, 0, 0), (11, .ixor, 1, 0, 0), (12, .putfield 52, 3, 4, 9), (15, .return_, 1, 0, 0)]
def en_m23 : en_Me := (⟨"PluggedBus$Device", "letGo", "()V"⟩, prog_2_method_8_code, (1, 0, 2, false, 0, 4), en_t23)
/-- PluggedBus$Device.holdOldestCode ()V -/
def en_t24 : List (Nat × en_I) := [(0, .aload_n 0, 1, 0, 0), (1, .getfield 32, 3, 4, 2), (4, .ifCond .ne 4, 3, 0, 0), (7, .return_, 1, 0, 0), (8, .aload_n 0, 1, 0, 0), (9, .aload_n 0, 1, 0, 0), (10, .getfield 18, 3, 4, 1), (13, .iconst 0, 1, 0, 0), (14, .iaload, 1, 0, 0), (15, .invokevirtual 78, 3, 22, 0), (18, .aload_n 0, 1, 0, 0), (19, .dup, 1, 0, 0), (20, .getfield 32, 3, 4, 2), (23, .iconst 1, 1, 0, 0), (24, .isub, 1, 0, 0), (25, .putfield 32, 3, 4, 2), (28, .iconst 0, 1, 0, 0), (29, .istore_n 1, 1, 0, 0), (30, .iload_n 1, 1, 0, 0), (31, .aload_n 0, 1, 0, 0), (32, .getfield 32, 3, 4, 2), (35, .if_icmp .ge 23, 3, 0, 0), (38, .aload_n 0, 1, 0, 0), (39, .getfield 18, 3, 4, 1), (42, .iload_n 1, 1, 0, 0), (43, .aload_n 0, 1, 0, 0), (44, .getfield 18, 3, 4, 1), (47, .iload_n 1, 1, 0, 0), (48, .iconst 1, 1, 0, 0), (49, .iadd, 1, 0, 0), (50, .iaload, 1, 0, 0), (51, .iastore, 1, 0, 0), (52, .iinc 1 1, 3, 0, 0), (55, .goto (-25), 3, 0, 0), (58, .return_, 1, 0, 0)]
def en_m24 : en_Me := (⟨"PluggedBus$Device", "holdOldestCode", "()V"⟩, prog_2_method_9_code, (2, 0, 2, false, 0, 4), en_t24)
/-- PluggedBus$Device.holdDiskPacket ()V -/
def en_t25 : List (Nat × en_I) := [(0, .aload_n 0, 1, 0, 0), (1, .getfield 12, 3, 4, 0), (4, .invokevirtual 81, 3, 4, 0), (7, .ifCond .ne 4, 3, 0, 0), (10, .return_, 1, 0, 0), (11, .aload_n 0, 1, 0, 0), (12, .getfield 12, 3, 4, 0), (15, .getfield 68, 3, 5, 3), (18, .ifCond .eq 19, 3, 0, 0), (21, .aload_n 0, 1, 0, 0), (22, .getfield 12, 3, 4, 0), (25, .dup, 1, 0, 0), (26, .getfield 68, 3, 5, 3), (29, .iconst 1, 1, 0, 0), (30, .isub, 1, 0, 0), (31, .putfield 68, 3, 5, 3), (34, .goto 14, 3, 0, 0), (37, .aload_n 0, 1, 0, 0), (38, .aload_n 0, 1, 0, 0), (39, .getfield 12, 3, 4, 0), (42, .invokevirtual 84, 3, 7, 0), (45, .invokevirtual 78, 3, 22, 0), (48, .return_, 1, 0, 0)]
def en_m25 : en_Me := (⟨"PluggedBus$Device", "holdDiskPacket", "()V"⟩, prog_2_method_10_code, (1, 0, 2, false, 0, 4), en_t25)
/-- PluggedBus$Port.isFull ()Z -/
def en_t26 : List (Nat × en_I) := [(0, .aload_n 0, 1, 0, 0), (1, .getfield 12, 3, 3, 0), (4, .getfield 22, 3, 4, 3), (7, .ifCond .eq 7, 3, 0, 0), (10, .iconst 1, 1, 0, 0), (11, .goto 4, 3, 0, 0), (14, .iconst 0, 1, 0, 0), (15, .ireturn, 1, 0, 0)]
def en_m26 : en_Me := (⟨"PluggedBus$Port", "isFull", "()Z"⟩, prog_7_method_2_code, (1, 2, 1, false, 0, 3), en_t26)
/-- PluggedBus$Port.isReadyAs (I)Z -/
def en_t27 : List (Nat × en_I) := [(0, .aload_n 0, 1, 0, 0), (1, .getfield 18, 3, 3, 3), (4, .iconst 3, 1, 0, 0), (5, .if_icmp .ne 15, 3, 0, 0), (8, .aload_n 0, 1, 0, 0), (9, .getfield 25, 3, 3, 9), (12, .iload_n 1, 1, 0, 0), (13, .if_icmp .ne 7, 3, 0, 0), (16, .iconst 1, 1, 0, 0), (17, .goto 4, 3, 0, 0), (20, .iconst 0, 1, 0, 0), (21, .ireturn, 1, 0, 0)]
def en_m27 : en_Me := (⟨"PluggedBus$Port", "isReadyAs", "(I)Z"⟩, prog_7_method_3_code, (2, 2, 1, false, 1, 3), en_t27)
/-- PluggedBus$Port.lose ()V -/
def en_t28 : List (Nat × en_I) := [(0, .aload_n 0, 1, 0, 0), (1, .getfield 12, 3, 3, 0), (4, .iconst 0, 1, 0, 0), (5, .putfield 22, 3, 4, 3), (8, .aload_n 0, 1, 0, 0), (9, .getfield 12, 3, 3, 0), (12, .iconst 0, 1, 0, 0), (13, .putfield 26, 3, 4, 8), (16, .aload_n 0, 1, 0, 0), (17, .iconst 0, 1, 0, 0), (18, .putfield 30, 3, 3, 1), (21, .return_, 1, 0, 0)]
def en_m28 : en_Me := (⟨"PluggedBus$Port", "lose", "()V"⟩, prog_7_method_4_code, (1, 0, 1, false, 0, 3), en_t28)
/-- PluggedBus$Port.leave (I)V -/
def en_t29 : List (Nat × en_I) := [(0, .aload_n 0, 1, 0, 0), (1, .iload_n 1, 1, 0, 0), (2, .putfield 18, 3, 3, 3), (5, .aload_n 0, 1, 0, 0), (6, .iconst 0, 1, 0, 0), (7, .putfield 30, 3, 3, 1), (10, .aload_n 0, 1, 0, 0), (11, .iconst 0, 1, 0, 0), (12, .putfield 33, 3, 3, 4), (15, .return_, 1, 0, 0)]
def en_m29 : en_Me := (⟨"PluggedBus$Port", "leave", "(I)V"⟩, prog_7_method_5_code, (2, 0, 1, false, 1, 3), en_t29)
/-- PluggedBus$Port.reset (I)V -/
def en_t30 : List (Nat × en_I) := [(0, .aload_n 0, 1, 0, 0), (1, .iconst 1, 1, 0, 0), (2, .putfield 30, 3, 3, 1), (5, .aload_n 0, 1, 0, 0), (6, .getfield 12, 3, 3, 0), (9, .invokevirtual 36, 3, 18, 0), (12, .aload_n 0, 1, 0, 0), (13, .iconst 0, 1, 0, 0), (14, .putfield 39, 3, 3, 5), (17, .aload_n 0, 1, 0, 0), (18, .iconst 0, 1, 0, 0), (19, .putfield 42, 3, 3, 6), (22, .aload_n 0, 1, 0, 0), (23, .iconst 0, 1, 0, 0), (24, .putfield 45, 3, 3, 7), (27, .aload_n 0, 1, 0, 0), (28, .iconst 0, 1, 0, 0), (29, .putfield 48, 3, 3, 8), (32, .aload_n 0, 1, 0, 0), (33, .iload_n 1, 1, 0, 0), (34, .putfield 33, 3, 3, 4), (37, .aload_n 0, 1, 0, 0), (38, .iconst 2, 1, 0, 0), (39, .putfield 18, 3, 3, 3), (42, .return_, 1, 0, 0)]
def en_m30 : en_Me := (⟨"PluggedBus$Port", "reset", "(I)V"⟩, prog_7_method_6_code, (2, 0, 1, false, 1, 3), en_t30)
/-- PluggedBus$Port.learn (LPluggedBus$Device;)V -/
def en_t31 : List (Nat × en_I) := [(0, .aload_n 0, 1, 0, 0), (1, .aload_n 1, 1, 0, 0), (2, .getfield 22, 3, 4, 3), (5, .putfield 25, 3, 3, 9), (8, .aload_n 0, 1, 0, 0), (9, .aload_n 1, 1, 0, 0), (10, .getfield 51, 3, 4, 0), (13, .getfield 55, 3, 5, 1), (16, .putfield 60, 3, 3, 10), (19, .aload_n 0, 1, 0, 0), (20, .aload_n 1, 1, 0, 0), (21, .getfield 63, 3, 4, 4), (24, .putfield 66, 3, 3, 11), (27, .aload_n 0, 1, 0, 0), (28, .aload_n 1, 1, 0, 0), (29, .getfield 67, 3, 4, 5), (32, .putfield 70, 3, 3, 12), (35, .return_, 1, 0, 0)]
def en_m31 : en_Me := (⟨"PluggedBus$Port", "learn", "(LPluggedBus$Device;)V"⟩, prog_7_method_7_code, (2, 0, 1, false, 1, 3), en_t31)
/-- PluggedBus$Port.countFault (Z)Z -/
def en_t32 : List (Nat × en_I) := [(0, .aload_n 0, 1, 0, 0), (1, .iload_n 1, 1, 0, 0), (2, .ifCond .eq 12, 3, 0, 0), (5, .aload_n 0, 1, 0, 0), (6, .getfield 45, 3, 3, 7), (9, .iconst 1, 1, 0, 0), (10, .iadd, 1, 0, 0), (11, .goto 4, 3, 0, 0), (14, .iconst 0, 1, 0, 0), (15, .putfield 45, 3, 3, 7), (18, .aload_n 0, 1, 0, 0), (19, .getfield 45, 3, 3, 7), (22, .iconst 3, 1, 0, 0), (23, .if_icmp .lt 7, 3, 0, 0), (26, .iconst 1, 1, 0, 0), (27, .goto 4, 3, 0, 0), (30, .iconst 0, 1, 0, 0), (31, .ireturn, 1, 0, 0)]
def en_m32 : en_Me := (⟨"PluggedBus$Port", "countFault", "(Z)Z"⟩, prog_7_method_8_code, (2, 2, 1, false, 1, 3), en_t32)
/-- PluggedBus.plug (IIII)Z -/
def en_t33 : List (Nat × en_I) := [(0, .aload_n 0, 1, 0, 0), (1, .iload_n 1, 1, 0, 0), (2, .invokevirtual 41, 3, 52, 0), (5, .ifCond .eq 25, 3, 0, 0), (8, .aload_n 0, 1, 0, 0), (9, .getfield 11, 3, 0, 0), (12, .iload_n 1, 1, 0, 0), (13, .aaload, 1, 0, 0), (14, .invokevirtual 45, 3, 26, 0), (17, .ifCond .ne 13, 3, 0, 0), (20, .iload_n 2, 1, 0, 0), (21, .iload_n 3, 1, 0, 0), (22, .iload 4, 2, 0, 0), (24, .invokestatic 49, 3, 53, 0), (27, .ifCond .ne 5, 3, 0, 0), (30, .iconst 0, 1, 0, 0), (31, .ireturn, 1, 0, 0), (32, .aload_n 0, 1, 0, 0), (33, .getfield 11, 3, 0, 0), (36, .iload_n 1, 1, 0, 0), (37, .aaload, 1, 0, 0), (38, .iconst 0, 1, 0, 0), (39, .putfield 53, 3, 3, 1), (42, .aload_n 0, 1, 0, 0), (43, .getfield 11, 3, 0, 0), (46, .iload_n 1, 1, 0, 0), (47, .aaload, 1, 0, 0), (48, .getfield 57, 3, 3, 0), (51, .iload_n 2, 1, 0, 0), (52, .iload_n 3, 1, 0, 0), (53, .iload 4, 2, 0, 0), (55, .invokevirtual 61, 3, 17, 0), (58, .aload_n 0, 1, 0, 0), (59, .iload_n 1, 1, 0, 0), (60, .invokevirtual 67, 3, 54, 0), (63, .iconst 1, 1, 0, 0), (64, .ireturn, 1, 0, 0)]
def en_m33 : en_Me := (⟨"PluggedBus", "plug", "(IIII)Z"⟩, prog_1_method_2_code, (5, 2, 0, false, 4, 0), en_t33)
/-- PluggedBus.unplug (I)Z -/
def en_t34 : List (Nat × en_I) := [(0, .iload_n 1, 1, 0, 0), (1, .invokestatic 71, 3, 49, 0), (4, .ifCond .eq 15, 3, 0, 0), (7, .aload_n 0, 1, 0, 0), (8, .getfield 11, 3, 0, 0), (11, .iload_n 1, 1, 0, 0), (12, .aaload, 1, 0, 0), (13, .invokevirtual 45, 3, 26, 0), (16, .ifCond .ne 5, 3, 0, 0), (19, .iconst 0, 1, 0, 0), (20, .ireturn, 1, 0, 0), (21, .aload_n 0, 1, 0, 0), (22, .getfield 11, 3, 0, 0), (25, .iload_n 1, 1, 0, 0), (26, .aaload, 1, 0, 0), (27, .getfield 57, 3, 3, 0), (30, .getfield 74, 3, 4, 3), (33, .iconst 3, 1, 0, 0), (34, .if_icmp .ne 7, 3, 0, 0), (37, .iconst 1, 1, 0, 0), (38, .goto 4, 3, 0, 0), (41, .iconst 0, 1, 0, 0), (42, .istore_n 2, 1, 0, 0), (43, .aload_n 0, 1, 0, 0), (44, .getfield 11, 3, 0, 0), (47, .iload_n 1, 1, 0, 0), (48, .aaload, 1, 0, 0), (49, .invokevirtual 77, 3, 28, 0), (52, .iload_n 2, 1, 0, 0), (53, .ifCond .eq 51, 3, 0, 0), (56, .iload_n 1, 1, 0, 0), (57, .iconst 2, 1, 0, 0), (58, .if_icmp .ge 46, 3, 0, 0), (61, .iload_n 1, 1, 0, 0), (62, .invokestatic 80, 3, 51, 0), (65, .istore_n 3, 1, 0, 0), (66, .iload_n 3, 1, 0, 0), (67, .istore 4, 2, 0, 0), (69, .iload 4, 2, 0, 0), (71, .iload_n 3, 1, 0, 0), (72, .iconst 2, 1, 0, 0), (73, .iadd, 1, 0, 0), (74, .if_icmp .ge 30, 3, 0, 0), (77, .aload_n 0, 1, 0, 0), (78, .getfield 11, 3, 0, 0), (81, .iload 4, 2, 0, 0), (83, .aaload, 1, 0, 0), (84, .invokevirtual 77, 3, 28, 0), (87, .aload_n 0, 1, 0, 0), (88, .getfield 11, 3, 0, 0), (91, .iload 4, 2, 0, 0), (93, .aaload, 1, 0, 0), (94, .iconst 0, 1, 0, 0), (95, .putfield 84, 3, 3, 2), (98, .iinc 4 1, 3, 0, 0), (101, .goto (-32), 3, 0, 0), (104, .aload_n 0, 1, 0, 0), (105, .iload_n 1, 1, 0, 0), (106, .invokevirtual 67, 3, 54, 0), (109, .iconst 1, 1, 0, 0), (110, .ireturn, 1, 0, 0)]
def en_m34 : en_Me := (⟨"PluggedBus", "unplug", "(I)Z"⟩, prog_1_method_3_code, (5, 2, 0, false, 1, 0), en_t34)
/-- PluggedBus.press (II)Z -/
def en_t35 : List (Nat × en_I) := [(0, .iload_n 1, 1, 0, 0), (1, .invokestatic 71, 3, 49, 0), (4, .ifCond .eq 14, 3, 0, 0), (7, .iload_n 2, 1, 0, 0), (8, .ifCond .lt 10, 3, 0, 0), (11, .iload_n 2, 1, 0, 0), (12, .sipush 256, 3, 0, 0), (15, .if_icmp .lt 5, 3, 0, 0), (18, .iconst 0, 1, 0, 0), (19, .ireturn, 1, 0, 0), (20, .aload_n 0, 1, 0, 0), (21, .getfield 11, 3, 0, 0), (24, .iload_n 1, 1, 0, 0), (25, .aaload, 1, 0, 0), (26, .getfield 57, 3, 3, 0), (29, .iload_n 2, 1, 0, 0), (30, .invokevirtual 87, 3, 20, 0), (33, .ireturn, 1, 0, 0)]
def en_m35 : en_Me := (⟨"PluggedBus", "press", "(II)Z"⟩, prog_1_method_4_code, (3, 2, 0, false, 2, 0), en_t35)
/-- PluggedBus.spoil (II)Z -/
def en_t36 : List (Nat × en_I) := [(0, .iload_n 1, 1, 0, 0), (1, .iconst 1, 1, 0, 0), (2, .if_icmp .lt 18, 3, 0, 0), (5, .iload_n 1, 1, 0, 0), (6, .bipush 40, 2, 0, 0), (8, .if_icmp .gt 12, 3, 0, 0), (11, .iload_n 2, 1, 0, 0), (12, .ifCond .lt 8, 3, 0, 0), (15, .iload_n 2, 1, 0, 0), (16, .iconst 3, 1, 0, 0), (17, .if_icmp .le 5, 3, 0, 0), (20, .iconst 0, 1, 0, 0), (21, .ireturn, 1, 0, 0), (22, .aload_n 0, 1, 0, 0), (23, .getfield 24, 3, 0, 2), (26, .iload_n 1, 1, 0, 0), (27, .iload_n 2, 1, 0, 0), (28, .invokevirtual 90, 3, 13, 0), (31, .iconst 1, 1, 0, 0), (32, .ireturn, 1, 0, 0)]
def en_m36 : en_Me := (⟨"PluggedBus", "spoil", "(II)Z"⟩, prog_1_method_5_code, (3, 2, 0, false, 2, 0), en_t36)
/-- PluggedBus.read (III)I -/
def en_t37 : List (Nat × en_I) := [(0, .aload_n 0, 1, 0, 0), (1, .iload_n 1, 1, 0, 0), (2, .iload_n 2, 1, 0, 0), (3, .iload_n 3, 1, 0, 0), (4, .iconst 0, 1, 0, 0), (5, .iconst 0, 1, 0, 0), (6, .invokevirtual 94, 3, 84, 0), (9, .ireturn, 1, 0, 0)]
def en_m37 : en_Me := (⟨"PluggedBus", "read", "(III)I"⟩, prog_1_method_6_code, (4, 1, 0, false, 3, 0), en_t37)
/-- PluggedBus.write (IIII)I -/
def en_t38 : List (Nat × en_I) := [(0, .aload_n 0, 1, 0, 0), (1, .iload_n 1, 1, 0, 0), (2, .iload_n 2, 1, 0, 0), (3, .iload_n 3, 1, 0, 0), (4, .iconst 1, 1, 0, 0), (5, .iload 4, 2, 0, 0), (7, .invokevirtual 94, 3, 84, 0), (10, .ireturn, 1, 0, 0)]
def en_m38 : en_Me := (⟨"PluggedBus", "write", "(IIII)I"⟩, prog_1_method_7_code, (5, 1, 0, false, 4, 0), en_t38)
/-- PluggedBus.run (I)I -/
def en_t39 : List (Nat × en_I) := [(0, .iload_n 1, 1, 0, 0), (1, .iconst 1, 1, 0, 0), (2, .if_icmp .lt 9, 3, 0, 0), (5, .iload_n 1, 1, 0, 0), (6, .bipush 40, 2, 0, 0), (8, .if_icmp .le 5, 3, 0, 0), (11, .iconst (-1), 1, 0, 0), (12, .ireturn, 1, 0, 0), (13, .aload_n 0, 1, 0, 0), (14, .getfield 24, 3, 0, 2), (17, .getfield 98, 3, 10, 2), (20, .istore_n 2, 1, 0, 0), (21, .iconst 0, 1, 0, 0), (22, .istore_n 3, 1, 0, 0), (23, .iload_n 3, 1, 0, 0), (24, .iload_n 1, 1, 0, 0), (25, .if_icmp .ge 49, 3, 0, 0), (28, .aload_n 0, 1, 0, 0), (29, .invokevirtual 101, 3, 55, 0), (32, .bipush 100, 2, 0, 0), (34, .aload_n 0, 1, 0, 0), (35, .invokevirtual 104, 3, 70, 0), (38, .isub, 1, 0, 0), (39, .istore 4, 2, 0, 0), (41, .iload 4, 2, 0, 0), (43, .aload_n 0, 1, 0, 0), (44, .iload 4, 2, 0, 0), (46, .invokevirtual 108, 3, 73, 0), (49, .isub, 1, 0, 0), (50, .istore 4, 2, 0, 0), (52, .aload_n 0, 1, 0, 0), (53, .iload 4, 2, 0, 0), (55, .invokevirtual 111, 3, 79, 0), (58, .aload_n 0, 1, 0, 0), (59, .dup, 1, 0, 0), (60, .getfield 114, 3, 0, 5), (63, .iconst 1, 1, 0, 0), (64, .iadd, 1, 0, 0), (65, .putfield 114, 3, 0, 5), (68, .iinc 3 1, 3, 0, 0), (71, .goto (-48), 3, 0, 0), (74, .aload_n 0, 1, 0, 0), (75, .getfield 24, 3, 0, 2), (78, .getfield 98, 3, 10, 2), (81, .iload_n 2, 1, 0, 0), (82, .isub, 1, 0, 0), (83, .ireturn, 1, 0, 0)]
def en_m39 : en_Me := (⟨"PluggedBus", "run", "(I)I"⟩, prog_1_method_8_code, (5, 1, 0, false, 1, 0), en_t39)
/-- PluggedBus.view (I)I -/
def en_t40 : List (Nat × en_I) := [(0, .iload_n 1, 1, 0, 0), (1, .invokestatic 71, 3, 49, 0), (4, .ifCond .eq 15, 3, 0, 0), (7, .aload_n 0, 1, 0, 0), (8, .getfield 11, 3, 0, 0), (11, .iload_n 1, 1, 0, 0), (12, .aaload, 1, 0, 0), (13, .getfield 117, 3, 3, 3), (16, .goto 4, 3, 0, 0), (19, .iconst (-1), 1, 0, 0), (20, .ireturn, 1, 0, 0)]
def en_m40 : en_Me := (⟨"PluggedBus", "view", "(I)I"⟩, prog_1_method_9_code, (2, 1, 0, false, 1, 0), en_t40)
/-- PluggedBus.address (I)I -/
def en_t41 : List (Nat × en_I) := [(0, .iload_n 1, 1, 0, 0), (1, .invokestatic 71, 3, 49, 0), (4, .ifCond .eq 15, 3, 0, 0), (7, .aload_n 0, 1, 0, 0), (8, .getfield 11, 3, 0, 0), (11, .iload_n 1, 1, 0, 0), (12, .aaload, 1, 0, 0), (13, .getfield 120, 3, 3, 4), (16, .goto 4, 3, 0, 0), (19, .iconst (-1), 1, 0, 0), (20, .ireturn, 1, 0, 0)]
def en_m41 : en_Me := (⟨"PluggedBus", "address", "(I)I"⟩, prog_1_method_10_code, (2, 1, 0, false, 1, 0), en_t41)
/-- PluggedBus.order (I)I -/
def en_t42 : List (Nat × en_I) := [(0, .aload_n 0, 1, 0, 0), (1, .iload_n 1, 1, 0, 0), (2, .invokevirtual 123, 3, 83, 0), (5, .ifCond .eq 15, 3, 0, 0), (8, .aload_n 0, 1, 0, 0), (9, .getfield 17, 3, 0, 1), (12, .iload_n 1, 1, 0, 0), (13, .aaload, 1, 0, 0), (14, .getfield 126, 3, 8, 7), (17, .goto 4, 3, 0, 0), (20, .iconst (-1), 1, 0, 0), (21, .ireturn, 1, 0, 0)]
def en_m42 : en_Me := (⟨"PluggedBus", "order", "(I)I"⟩, prog_1_method_11_code, (2, 1, 0, false, 1, 0), en_t42)
/-- PluggedBus.got (II)I -/
def en_t43 : List (Nat × en_I) := [(0, .aload_n 0, 1, 0, 0), (1, .iload_n 1, 1, 0, 0), (2, .invokevirtual 123, 3, 83, 0), (5, .ifCond .eq 16, 3, 0, 0), (8, .aload_n 0, 1, 0, 0), (9, .getfield 17, 3, 0, 1), (12, .iload_n 1, 1, 0, 0), (13, .aaload, 1, 0, 0), (14, .iload_n 2, 1, 0, 0), (15, .invokevirtual 129, 3, 11, 0), (18, .goto 4, 3, 0, 0), (21, .iconst (-1), 1, 0, 0), (22, .ireturn, 1, 0, 0)]
def en_m43 : en_Me := (⟨"PluggedBus", "got", "(II)I"⟩, prog_1_method_12_code, (3, 1, 0, false, 2, 0), en_t43)
/-- PluggedBus.image (II)I -/
def en_t44 : List (Nat × en_I) := [(0, .iload_n 1, 1, 0, 0), (1, .invokestatic 71, 3, 49, 0), (4, .ifCond .eq 19, 3, 0, 0), (7, .aload_n 0, 1, 0, 0), (8, .getfield 11, 3, 0, 0), (11, .iload_n 1, 1, 0, 0), (12, .aaload, 1, 0, 0), (13, .getfield 57, 3, 3, 0), (16, .getfield 74, 3, 4, 3), (19, .iconst 1, 1, 0, 0), (20, .if_icmp .eq 5, 3, 0, 0), (23, .iconst 0, 1, 0, 0), (24, .ireturn, 1, 0, 0), (25, .aload_n 0, 1, 0, 0), (26, .getfield 11, 3, 0, 0), (29, .iload_n 1, 1, 0, 0), (30, .aaload, 1, 0, 0), (31, .getfield 57, 3, 3, 0), (34, .getfield 132, 3, 4, 0), (37, .iload_n 2, 1, 0, 0), (38, .invokevirtual 136, 3, 2, 0), (41, .ireturn, 1, 0, 0)]
def en_m44 : en_Me := (⟨"PluggedBus", "image", "(II)I"⟩, prog_1_method_13_code, (3, 1, 0, false, 2, 0), en_t44)
/-- PluggedBus.keys ()I -/
def en_t45 : List (Nat × en_I) := [(0, .aload_n 0, 1, 0, 0), (1, .getfield 31, 3, 0, 3), (4, .getfield 141, 3, 12, 2), (7, .ireturn, 1, 0, 0)]
def en_m45 : en_Me := (⟨"PluggedBus", "keys", "()I"⟩, prog_1_method_14_code, (1, 1, 0, false, 0, 0), en_t45)
/-- PluggedBus.key (I)I -/
def en_t46 : List (Nat × en_I) := [(0, .aload_n 0, 1, 0, 0), (1, .getfield 31, 3, 0, 3), (4, .iload_n 1, 1, 0, 0), (5, .invokevirtual 144, 3, 16, 0), (8, .ireturn, 1, 0, 0)]
def en_m46 : en_Me := (⟨"PluggedBus", "key", "(I)I"⟩, prog_1_method_15_code, (2, 1, 0, false, 1, 0), en_t46)
/-- PluggedBus.load ()I -/
def en_t47 : List (Nat × en_I) := [(0, .aload_n 0, 1, 0, 0), (1, .invokevirtual 147, 3, 61, 0), (4, .ireturn, 1, 0, 0)]
def en_m47 : en_Me := (⟨"PluggedBus", "load", "()I"⟩, prog_1_method_16_code, (1, 1, 0, false, 0, 0), en_t47)
/-- PluggedBus.transactions ()I -/
def en_t48 : List (Nat × en_I) := [(0, .aload_n 0, 1, 0, 0), (1, .getfield 24, 3, 0, 2), (4, .getfield 98, 3, 10, 2), (7, .ireturn, 1, 0, 0)]
def en_m48 : en_Me := (⟨"PluggedBus", "transactions", "()I"⟩, prog_1_method_17_code, (1, 1, 0, false, 0, 0), en_t48)
/-- PluggedBus.isPort (I)Z -/
def en_t49 : List (Nat × en_I) := [(0, .iload_n 0, 1, 0, 0), (1, .ifCond .lt 13, 3, 0, 0), (4, .iload_n 0, 1, 0, 0), (5, .bipush 6, 2, 0, 0), (7, .if_icmp .ge 7, 3, 0, 0), (10, .iconst 1, 1, 0, 0), (11, .goto 4, 3, 0, 0), (14, .iconst 0, 1, 0, 0), (15, .ireturn, 1, 0, 0)]
def en_m49 : en_Me := (⟨"PluggedBus", "isPort", "(I)Z"⟩, prog_1_method_18_code, (1, 2, 0, true, 1, 0), en_t49)
/-- PluggedBus.hubPortOf (I)I -/
def en_t50 : List (Nat × en_I) := [(0, .iload_n 0, 1, 0, 0), (1, .iconst 2, 1, 0, 0), (2, .idiv, 1, 0, 0), (3, .iconst 1, 1, 0, 0), (4, .isub, 1, 0, 0), (5, .ireturn, 1, 0, 0)]
def en_m50 : en_Me := (⟨"PluggedBus", "hubPortOf", "(I)I"⟩, prog_1_method_19_code, (1, 1, 0, true, 1, 0), en_t50)
/-- PluggedBus.firstBehind (I)I -/
def en_t51 : List (Nat × en_I) := [(0, .iconst 2, 1, 0, 0), (1, .iload_n 0, 1, 0, 0), (2, .imul, 1, 0, 0), (3, .iconst 2, 1, 0, 0), (4, .iadd, 1, 0, 0), (5, .ireturn, 1, 0, 0)]
def en_m51 : en_Me := (⟨"PluggedBus", "firstBehind", "(I)I"⟩, prog_1_method_20_code, (1, 1, 0, true, 1, 0), en_t51)
/-- PluggedBus.isThere (I)Z -/
def en_t52 : List (Nat × en_I) := [(0, .iload_n 1, 1, 0, 0), (1, .invokestatic 71, 3, 49, 0), (4, .ifCond .eq 31, 3, 0, 0), (7, .iload_n 1, 1, 0, 0), (8, .iconst 2, 1, 0, 0), (9, .if_icmp .lt 22, 3, 0, 0), (12, .aload_n 0, 1, 0, 0), (13, .getfield 11, 3, 0, 0), (16, .iload_n 1, 1, 0, 0), (17, .invokestatic 150, 3, 50, 0), (20, .aaload, 1, 0, 0), (21, .getfield 57, 3, 3, 0), (24, .getfield 74, 3, 4, 3), (27, .iconst 3, 1, 0, 0), (28, .if_icmp .ne 7, 3, 0, 0), (31, .iconst 1, 1, 0, 0), (32, .goto 4, 3, 0, 0), (35, .iconst 0, 1, 0, 0), (36, .ireturn, 1, 0, 0)]
def en_m52 : en_Me := (⟨"PluggedBus", "isThere", "(I)Z"⟩, prog_1_method_21_code, (2, 2, 0, false, 1, 0), en_t52)
/-- PluggedBus.isDevice (III)Z -/
def en_t53 : List (Nat × en_I) := [(0, .iload_n 0, 1, 0, 0), (1, .tableswitch 95 1 3 #[27, 53, 81], 27, 0, 0), (28, .iload_n 1, 1, 0, 0), (29, .iconst 1, 1, 0, 0), (30, .if_icmp .lt 22, 3, 0, 0), (33, .iload_n 1, 1, 0, 0), (34, .bipush 8, 2, 0, 0), (36, .if_icmp .gt 16, 3, 0, 0), (39, .iload_n 2, 1, 0, 0), (40, .ifCond .lt 12, 3, 0, 0), (43, .iload_n 2, 1, 0, 0), (44, .iconst 3, 1, 0, 0), (45, .if_icmp .gt 7, 3, 0, 0), (48, .iconst 1, 1, 0, 0), (49, .goto 4, 3, 0, 0), (52, .iconst 0, 1, 0, 0), (53, .ireturn, 1, 0, 0), (54, .iload_n 1, 1, 0, 0), (55, .iconst 1, 1, 0, 0), (56, .if_icmp .lt 24, 3, 0, 0), (59, .iload_n 1, 1, 0, 0), (60, .bipush 8, 2, 0, 0), (62, .if_icmp .gt 18, 3, 0, 0), (65, .iload_n 2, 1, 0, 0), (66, .iconst 1, 1, 0, 0), (67, .if_icmp .lt 13, 3, 0, 0), (70, .iload_n 2, 1, 0, 0), (71, .bipush 60, 2, 0, 0), (73, .if_icmp .gt 7, 3, 0, 0), (76, .iconst 1, 1, 0, 0), (77, .goto 4, 3, 0, 0), (80, .iconst 0, 1, 0, 0), (81, .ireturn, 1, 0, 0), (82, .iload_n 1, 1, 0, 0), (83, .ifCond .ne 11, 3, 0, 0), (86, .iload_n 2, 1, 0, 0), (87, .ifCond .ne 7, 3, 0, 0), (90, .iconst 1, 1, 0, 0), (91, .goto 4, 3, 0, 0), (94, .iconst 0, 1, 0, 0), (95, .ireturn, 1, 0, 0), (96, .iconst 0, 1, 0, 0), (97, .ireturn, 1, 0, 0)]
def en_m53 : en_Me := (⟨"PluggedBus", "isDevice", "(III)Z"⟩, prog_1_method_22_code, (3, 2, 0, true, 3, 0), en_t53)
/-- PluggedBus.markChanged (I)V -/
def en_t54 : List (Nat × en_I) := [(0, .iload_n 1, 1, 0, 0), (1, .iconst 2, 1, 0, 0), (2, .if_icmp .lt 21, 3, 0, 0), (5, .aload_n 0, 1, 0, 0), (6, .getfield 11, 3, 0, 0), (9, .iload_n 1, 1, 0, 0), (10, .invokestatic 150, 3, 50, 0), (13, .aaload, 1, 0, 0), (14, .getfield 57, 3, 3, 0), (17, .getfield 153, 3, 4, 8), (20, .ifCond .eq 13, 3, 0, 0), (23, .aload_n 0, 1, 0, 0), (24, .getfield 11, 3, 0, 0), (27, .iload_n 1, 1, 0, 0), (28, .aaload, 1, 0, 0), (29, .iconst 1, 1, 0, 0), (30, .putfield 84, 3, 3, 2), (33, .return_, 1, 0, 0)]
def en_m54 : en_Me := (⟨"PluggedBus", "markChanged", "(I)V"⟩, prog_1_method_23_code, (2, 0, 0, false, 1, 0), en_t54)
/-- PluggedBus.hearOwnPorts ()V -/
def en_t55 : List (Nat × en_I) := [(0, .iconst 0, 1, 0, 0), (1, .istore_n 1, 1, 0, 0), (2, .iload_n 1, 1, 0, 0), (3, .iconst 2, 1, 0, 0), (4, .if_icmp .ge 19, 3, 0, 0), (7, .aload_n 0, 1, 0, 0), (8, .iload_n 1, 1, 0, 0), (9, .aload_n 0, 1, 0, 0), (10, .iload_n 1, 1, 0, 0), (11, .invokevirtual 156, 3, 56, 0), (14, .invokevirtual 159, 3, 57, 0), (17, .iinc 1 1, 3, 0, 0), (20, .goto (-18), 3, 0, 0), (23, .return_, 1, 0, 0)]
def en_m55 : en_Me := (⟨"PluggedBus", "hearOwnPorts", "()V"⟩, prog_1_method_24_code, (2, 0, 0, false, 0, 0), en_t55)
/-- PluggedBus.tellChange (I)I -/
def en_t56 : List (Nat × en_I) := [(0, .aload_n 0, 1, 0, 0), (1, .getfield 11, 3, 0, 0), (4, .iload_n 1, 1, 0, 0), (5, .aaload, 1, 0, 0), (6, .astore_n 2, 1, 0, 0), (7, .aload_n 2, 1, 0, 0), (8, .getfield 84, 3, 3, 2), (11, .ifCond .ne 5, 3, 0, 0), (14, .iconst 0, 1, 0, 0), (15, .ireturn, 1, 0, 0), (16, .aload_n 2, 1, 0, 0), (17, .iconst 0, 1, 0, 0), (18, .putfield 84, 3, 3, 2), (21, .aload_n 2, 1, 0, 0), (22, .invokevirtual 45, 3, 26, 0), (25, .ifCond .eq 7, 3, 0, 0), (28, .iconst 3, 1, 0, 0), (29, .goto 4, 3, 0, 0), (32, .iconst 1, 1, 0, 0), (33, .ireturn, 1, 0, 0)]
def en_m56 : en_Me := (⟨"PluggedBus", "tellChange", "(I)I"⟩, prog_1_method_25_code, (3, 1, 0, false, 1, 0), en_t56)
/-- PluggedBus.hear (II)V -/
def en_t57 : List (Nat × en_I) := [(0, .iload_n 2, 1, 0, 0), (1, .iconst 1, 1, 0, 0), (2, .iand, 1, 0, 0), (3, .ifCond .ne 4, 3, 0, 0), (6, .return_, 1, 0, 0), (7, .aload_n 0, 1, 0, 0), (8, .iload_n 1, 1, 0, 0), (9, .invokevirtual 162, 3, 58, 0), (12, .iload_n 2, 1, 0, 0), (13, .iconst 2, 1, 0, 0), (14, .iand, 1, 0, 0), (15, .ifCond .eq 13, 3, 0, 0), (18, .aload_n 0, 1, 0, 0), (19, .getfield 11, 3, 0, 0), (22, .iload_n 1, 1, 0, 0), (23, .aaload, 1, 0, 0), (24, .iconst 1, 1, 0, 0), (25, .putfield 117, 3, 3, 3), (28, .return_, 1, 0, 0)]
def en_m57 : en_Me := (⟨"PluggedBus", "hear", "(II)V"⟩, prog_1_method_26_code, (3, 0, 0, false, 2, 0), en_t57)
/-- PluggedBus.detach (I)V -/
def en_t58 : List (Nat × en_I) := [(0, .aload_n 0, 1, 0, 0), (1, .getfield 11, 3, 0, 0), (4, .iload_n 1, 1, 0, 0), (5, .aaload, 1, 0, 0), (6, .iconst 3, 1, 0, 0), (7, .invokevirtual 165, 3, 27, 0), (10, .istore_n 2, 1, 0, 0), (11, .aload_n 0, 1, 0, 0), (12, .iload_n 1, 1, 0, 0), (13, .invokevirtual 168, 3, 59, 0), (16, .iload_n 2, 1, 0, 0), (17, .ifCond .eq 26, 3, 0, 0), (20, .iload_n 1, 1, 0, 0), (21, .iconst 2, 1, 0, 0), (22, .if_icmp .ge 21, 3, 0, 0), (25, .aload_n 0, 1, 0, 0), (26, .iload_n 1, 1, 0, 0), (27, .invokestatic 80, 3, 51, 0), (30, .invokevirtual 168, 3, 59, 0), (33, .aload_n 0, 1, 0, 0), (34, .iload_n 1, 1, 0, 0), (35, .invokestatic 80, 3, 51, 0), (38, .iconst 1, 1, 0, 0), (39, .iadd, 1, 0, 0), (40, .invokevirtual 168, 3, 59, 0), (43, .return_, 1, 0, 0)]
def en_m58 : en_Me := (⟨"PluggedBus", "detach", "(I)V"⟩, prog_1_method_27_code, (3, 0, 0, false, 1, 0), en_t58)
/-- PluggedBus.release (I)V -/
def en_t59 : List (Nat × en_I) := [(0, .aload_n 0, 1, 0, 0), (1, .getfield 11, 3, 0, 0), (4, .iload_n 1, 1, 0, 0), (5, .aaload, 1, 0, 0), (6, .iconst 0, 1, 0, 0), (7, .invokevirtual 171, 3, 29, 0), (10, .iconst 0, 1, 0, 0), (11, .istore_n 2, 1, 0, 0), (12, .iload_n 2, 1, 0, 0), (13, .aload_n 0, 1, 0, 0), (14, .getfield 174, 3, 0, 4), (17, .if_icmp .ge 32, 3, 0, 0), (20, .aload_n 0, 1, 0, 0), (21, .getfield 17, 3, 0, 1), (24, .iload_n 2, 1, 0, 0), (25, .aaload, 1, 0, 0), (26, .getfield 177, 3, 8, 2), (29, .iload_n 1, 1, 0, 0), (30, .if_icmp .ne 13, 3, 0, 0), (33, .aload_n 0, 1, 0, 0), (34, .getfield 17, 3, 0, 1), (37, .iload_n 2, 1, 0, 0), (38, .aaload, 1, 0, 0), (39, .iconst 3, 1, 0, 0), (40, .invokevirtual 180, 3, 12, 0), (43, .iinc 2 1, 3, 0, 0), (46, .goto (-34), 3, 0, 0), (49, .return_, 1, 0, 0)]
def en_m59 : en_Me := (⟨"PluggedBus", "release", "(I)V"⟩, prog_1_method_28_code, (3, 0, 0, false, 1, 0), en_t59)
/-- PluggedBus.detachWithFaults (I)V -/
def en_t60 : List (Nat × en_I) := [(0, .aload_n 0, 1, 0, 0), (1, .iload_n 1, 1, 0, 0), (2, .invokevirtual 162, 3, 58, 0), (5, .aload_n 0, 1, 0, 0), (6, .getfield 11, 3, 0, 0), (9, .iload_n 1, 1, 0, 0), (10, .aaload, 1, 0, 0), (11, .iconst 4, 1, 0, 0), (12, .putfield 117, 3, 3, 3), (15, .return_, 1, 0, 0)]
def en_m60 : en_Me := (⟨"PluggedBus", "detachWithFaults", "(I)V"⟩, prog_1_method_29_code, (2, 0, 0, false, 1, 0), en_t60)
/-- PluggedBus.readyCost ()I -/
def en_t61 : List (Nat × en_I) := [(0, .iconst 0, 1, 0, 0), (1, .istore_n 1, 1, 0, 0), (2, .iconst 0, 1, 0, 0), (3, .istore_n 2, 1, 0, 0), (4, .iload_n 2, 1, 0, 0), (5, .bipush 6, 2, 0, 0), (7, .if_icmp .ge 47, 3, 0, 0), (10, .aload_n 0, 1, 0, 0), (11, .getfield 11, 3, 0, 0), (14, .iload_n 2, 1, 0, 0), (15, .aaload, 1, 0, 0), (16, .iconst 2, 1, 0, 0), (17, .invokevirtual 165, 3, 27, 0), (20, .ifCond .ne 16, 3, 0, 0), (23, .aload_n 0, 1, 0, 0), (24, .getfield 11, 3, 0, 0), (27, .iload_n 2, 1, 0, 0), (28, .aaload, 1, 0, 0), (29, .iconst 3, 1, 0, 0), (30, .invokevirtual 165, 3, 27, 0), (33, .ifCond .eq 15, 3, 0, 0), (36, .iload_n 1, 1, 0, 0), (37, .aload_n 0, 1, 0, 0), (38, .getfield 11, 3, 0, 0), (41, .iload_n 2, 1, 0, 0), (42, .aaload, 1, 0, 0), (43, .getfield 183, 3, 3, 12), (46, .iadd, 1, 0, 0), (47, .istore_n 1, 1, 0, 0), (48, .iinc 2 1, 3, 0, 0), (51, .goto (-47), 3, 0, 0), (54, .iload_n 1, 1, 0, 0), (55, .ireturn, 1, 0, 0)]
def en_m61 : en_Me := (⟨"PluggedBus", "readyCost", "()I"⟩, prog_1_method_30_code, (3, 1, 0, false, 0, 0), en_t61)
/-- PluggedBus.meantPort (II)I -/
def en_t62 : List (Nat × en_I) := [(0, .iload_n 2, 1, 0, 0), (1, .ifCond .ne 5, 3, 0, 0), (4, .iconst (-1), 1, 0, 0), (5, .ireturn, 1, 0, 0), (6, .iconst 0, 1, 0, 0), (7, .istore_n 3, 1, 0, 0), (8, .iload_n 3, 1, 0, 0), (9, .bipush 6, 2, 0, 0), (11, .if_icmp .ge 35, 3, 0, 0), (14, .aload_n 0, 1, 0, 0), (15, .iload_n 3, 1, 0, 0), (16, .invokevirtual 186, 3, 63, 0), (19, .ifCond .eq 21, 3, 0, 0), (22, .aload_n 0, 1, 0, 0), (23, .getfield 11, 3, 0, 0), (26, .iload_n 3, 1, 0, 0), (27, .aaload, 1, 0, 0), (28, .getfield 57, 3, 3, 0), (31, .iload_n 1, 1, 0, 0), (32, .invokevirtual 189, 3, 19, 0), (35, .ifCond .eq 5, 3, 0, 0), (38, .iload_n 3, 1, 0, 0), (39, .ireturn, 1, 0, 0), (40, .iinc 3 1, 3, 0, 0), (43, .goto (-35), 3, 0, 0), (46, .iconst (-1), 1, 0, 0), (47, .ireturn, 1, 0, 0)]
def en_m62 : en_Me := (⟨"PluggedBus", "meantPort", "(II)I"⟩, prog_1_method_31_code, (4, 1, 0, false, 2, 0), en_t62)
/-- PluggedBus.hears (I)Z -/
def en_t63 : List (Nat × en_I) := [(0, .aload_n 0, 1, 0, 0), (1, .getfield 11, 3, 0, 0), (4, .iload_n 1, 1, 0, 0), (5, .aaload, 1, 0, 0), (6, .invokevirtual 45, 3, 26, 0), (9, .ifCond .eq 39, 3, 0, 0), (12, .aload_n 0, 1, 0, 0), (13, .getfield 11, 3, 0, 0), (16, .iload_n 1, 1, 0, 0), (17, .aaload, 1, 0, 0), (18, .getfield 53, 3, 3, 1), (21, .ifCond .eq 27, 3, 0, 0), (24, .iload_n 1, 1, 0, 0), (25, .iconst 2, 1, 0, 0), (26, .if_icmp .lt 18, 3, 0, 0), (29, .aload_n 0, 1, 0, 0), (30, .getfield 11, 3, 0, 0), (33, .iload_n 1, 1, 0, 0), (34, .invokestatic 150, 3, 50, 0), (37, .aaload, 1, 0, 0), (38, .getfield 53, 3, 3, 1), (41, .ifCond .eq 7, 3, 0, 0), (44, .iconst 1, 1, 0, 0), (45, .goto 4, 3, 0, 0), (48, .iconst 0, 1, 0, 0), (49, .ireturn, 1, 0, 0)]
def en_m63 : en_Me := (⟨"PluggedBus", "hears", "(I)Z"⟩, prog_1_method_32_code, (2, 2, 0, false, 1, 0), en_t63)
/-- PluggedBus.sendSetup (LPluggedBus$Port;I)Z -/
def en_t64 : List (Nat × en_I) := [(0, .aload_n 0, 1, 0, 0), (1, .getfield 24, 3, 0, 2), (4, .invokevirtual 192, 3, 14, 0), (7, .istore_n 3, 1, 0, 0), (8, .aload_n 0, 1, 0, 0), (9, .iload_n 2, 1, 0, 0), (10, .iload_n 3, 1, 0, 0), (11, .invokevirtual 195, 3, 62, 0), (14, .istore 4, 2, 0, 0), (16, .iload 4, 2, 0, 0), (18, .ifCond .lt 8, 3, 0, 0), (21, .iload_n 3, 1, 0, 0), (22, .iconst 1, 1, 0, 0), (23, .if_icmp .ne 5, 3, 0, 0), (26, .iconst 0, 1, 0, 0), (27, .ireturn, 1, 0, 0), (28, .aload_n 0, 1, 0, 0), (29, .getfield 11, 3, 0, 0), (32, .iload 4, 2, 0, 0), (34, .aaload, 1, 0, 0), (35, .getfield 57, 3, 3, 0), (38, .astore 5, 2, 0, 0), (40, .aload 5, 2, 0, 0), (42, .iload_n 2, 1, 0, 0), (43, .putfield 199, 3, 4, 7), (46, .aload_n 1, 1, 0, 0), (47, .getfield 202, 3, 3, 8), (50, .ifCond .ne 15, 3, 0, 0), (53, .aload 5, 2, 0, 0), (55, .aload_n 1, 1, 0, 0), (56, .getfield 120, 3, 3, 4), (59, .putfield 205, 3, 4, 6), (62, .goto 17, 3, 0, 0), (65, .aload_n 1, 1, 0, 0), (66, .getfield 202, 3, 3, 8), (69, .iconst 4, 1, 0, 0), (70, .if_icmp .ne 9, 3, 0, 0), (73, .aload_n 0, 1, 0, 0), (74, .iload 4, 2, 0, 0), (76, .invokevirtual 208, 3, 65, 0), (79, .iload_n 3, 1, 0, 0), (80, .iconst 2, 1, 0, 0), (81, .if_icmp .eq 7, 3, 0, 0), (84, .iconst 1, 1, 0, 0), (85, .goto 4, 3, 0, 0), (88, .iconst 0, 1, 0, 0), (89, .ireturn, 1, 0, 0)]
def en_m64 : en_Me := (⟨"PluggedBus", "sendSetup", "(LPluggedBus$Port;I)Z"⟩, prog_1_method_33_code, (6, 2, 0, false, 2, 0), en_t64)
/-- PluggedBus.configure (I)V -/
def en_t65 : List (Nat × en_I) := [(0, .aload_n 0, 1, 0, 0), (1, .getfield 11, 3, 0, 0), (4, .iload_n 1, 1, 0, 0), (5, .aaload, 1, 0, 0), (6, .getfield 57, 3, 3, 0), (9, .iconst 1, 1, 0, 0), (10, .putfield 153, 3, 4, 8), (13, .aload_n 0, 1, 0, 0), (14, .getfield 11, 3, 0, 0), (17, .iload_n 1, 1, 0, 0), (18, .aaload, 1, 0, 0), (19, .getfield 57, 3, 3, 0), (22, .getfield 74, 3, 4, 3), (25, .iconst 3, 1, 0, 0), (26, .if_icmp .ne 53, 3, 0, 0), (29, .iload_n 1, 1, 0, 0), (30, .iconst 2, 1, 0, 0), (31, .if_icmp .ge 48, 3, 0, 0), (34, .iload_n 1, 1, 0, 0), (35, .invokestatic 80, 3, 51, 0), (38, .istore_n 2, 1, 0, 0), (39, .aload_n 0, 1, 0, 0), (40, .getfield 11, 3, 0, 0), (43, .iload_n 2, 1, 0, 0), (44, .aaload, 1, 0, 0), (45, .aload_n 0, 1, 0, 0), (46, .getfield 11, 3, 0, 0), (49, .iload_n 2, 1, 0, 0), (50, .aaload, 1, 0, 0), (51, .invokevirtual 45, 3, 26, 0), (54, .putfield 84, 3, 3, 2), (57, .aload_n 0, 1, 0, 0), (58, .getfield 11, 3, 0, 0), (61, .iload_n 2, 1, 0, 0), (62, .iconst 1, 1, 0, 0), (63, .iadd, 1, 0, 0), (64, .aaload, 1, 0, 0), (65, .aload_n 0, 1, 0, 0), (66, .getfield 11, 3, 0, 0), (69, .iload_n 2, 1, 0, 0), (70, .iconst 1, 1, 0, 0), (71, .iadd, 1, 0, 0), (72, .aaload, 1, 0, 0), (73, .invokevirtual 45, 3, 26, 0), (76, .putfield 84, 3, 3, 2), (79, .return_, 1, 0, 0)]
def en_m65 : en_Me := (⟨"PluggedBus", "configure", "(I)V"⟩, prog_1_method_34_code, (3, 0, 0, false, 1, 0), en_t65)
/-- PluggedBus.askAnswer (LPluggedBus$Port;I)Z -/
def en_t66 : List (Nat × en_I) := [(0, .aload_n 0, 1, 0, 0), (1, .getfield 24, 3, 0, 2), (4, .invokevirtual 192, 3, 14, 0), (7, .istore_n 3, 1, 0, 0), (8, .aload_n 0, 1, 0, 0), (9, .iload_n 2, 1, 0, 0), (10, .iload_n 3, 1, 0, 0), (11, .invokevirtual 195, 3, 62, 0), (14, .istore 4, 2, 0, 0), (16, .iload 4, 2, 0, 0), (18, .ifCond .lt 8, 3, 0, 0), (21, .iload_n 3, 1, 0, 0), (22, .iconst 1, 1, 0, 0), (23, .if_icmp .ne 5, 3, 0, 0), (26, .iconst 0, 1, 0, 0), (27, .ireturn, 1, 0, 0), (28, .aload_n 1, 1, 0, 0), (29, .getfield 202, 3, 3, 8), (32, .iconst 3, 1, 0, 0), (33, .if_icmp .ne 17, 3, 0, 0), (36, .aload_n 1, 1, 0, 0), (37, .aload_n 0, 1, 0, 0), (38, .getfield 11, 3, 0, 0), (41, .iload 4, 2, 0, 0), (43, .aaload, 1, 0, 0), (44, .getfield 57, 3, 3, 0), (47, .invokevirtual 211, 3, 31, 0), (50, .iconst 1, 1, 0, 0), (51, .ireturn, 1, 0, 0)]
def en_m66 : en_Me := (⟨"PluggedBus", "askAnswer", "(LPluggedBus$Port;I)Z"⟩, prog_1_method_35_code, (5, 2, 0, false, 2, 0), en_t66)
/-- PluggedBus.sendOut (LPluggedBus$Port;I)I -/
def en_t67 : List (Nat × en_I) := [(0, .aload_n 0, 1, 0, 0), (1, .getfield 24, 3, 0, 2), (4, .invokevirtual 192, 3, 14, 0), (7, .istore_n 3, 1, 0, 0), (8, .aload_n 0, 1, 0, 0), (9, .aload_n 1, 1, 0, 0), (10, .getfield 120, 3, 3, 4), (13, .iload_n 3, 1, 0, 0), (14, .invokevirtual 195, 3, 62, 0), (17, .istore 4, 2, 0, 0), (19, .iload 4, 2, 0, 0), (21, .ifCond .lt 8, 3, 0, 0), (24, .iload_n 3, 1, 0, 0), (25, .iconst 1, 1, 0, 0), (26, .if_icmp .ne 5, 3, 0, 0), (29, .iconst 0, 1, 0, 0), (30, .ireturn, 1, 0, 0), (31, .aload_n 0, 1, 0, 0), (32, .getfield 11, 3, 0, 0), (35, .iload 4, 2, 0, 0), (37, .aaload, 1, 0, 0), (38, .getfield 57, 3, 3, 0), (41, .aload_n 1, 1, 0, 0), (42, .getfield 215, 3, 3, 6), (45, .iload_n 2, 1, 0, 0), (46, .invokevirtual 218, 3, 21, 0), (49, .istore 5, 2, 0, 0), (51, .iload_n 3, 1, 0, 0), (52, .iconst 2, 1, 0, 0), (53, .if_icmp .ne 5, 3, 0, 0), (56, .iconst 0, 1, 0, 0), (57, .ireturn, 1, 0, 0), (58, .iload 5, 2, 0, 0), (60, .ifCond .ne 5, 3, 0, 0), (63, .iconst 1, 1, 0, 0), (64, .ireturn, 1, 0, 0), (65, .aload_n 1, 1, 0, 0), (66, .dup, 1, 0, 0), (67, .getfield 215, 3, 3, 6), (70, .iconst 1, 1, 0, 0), (71, .ixor, 1, 0, 0), (72, .putfield 215, 3, 3, 6), (75, .iconst 3, 1, 0, 0), (76, .ireturn, 1, 0, 0)]
def en_m67 : en_Me := (⟨"PluggedBus", "sendOut", "(LPluggedBus$Port;I)I"⟩, prog_1_method_36_code, (6, 1, 0, false, 2, 0), en_t67)
/-- PluggedBus.askIn (LPluggedBus$Port;)I -/
def en_t68 : List (Nat × en_I) := [(0, .aload_n 0, 1, 0, 0), (1, .getfield 24, 3, 0, 2), (4, .invokevirtual 192, 3, 14, 0), (7, .istore_n 2, 1, 0, 0), (8, .aload_n 0, 1, 0, 0), (9, .aload_n 1, 1, 0, 0), (10, .getfield 120, 3, 3, 4), (13, .iload_n 2, 1, 0, 0), (14, .invokevirtual 195, 3, 62, 0), (17, .istore_n 3, 1, 0, 0), (18, .iload_n 3, 1, 0, 0), (19, .ifCond .ge 5, 3, 0, 0), (22, .iconst 0, 1, 0, 0), (23, .ireturn, 1, 0, 0), (24, .aload_n 0, 1, 0, 0), (25, .getfield 11, 3, 0, 0), (28, .iload_n 3, 1, 0, 0), (29, .aaload, 1, 0, 0), (30, .getfield 57, 3, 3, 0), (33, .astore 4, 2, 0, 0), (35, .aload 4, 2, 0, 0), (37, .getfield 222, 3, 4, 11), (40, .ifCond .ne 8, 3, 0, 0), (43, .aload_n 0, 1, 0, 0), (44, .iload_n 3, 1, 0, 0), (45, .invokevirtual 225, 3, 69, 0), (48, .iload_n 2, 1, 0, 0), (49, .iconst 1, 1, 0, 0), (50, .if_icmp .ne 5, 3, 0, 0), (53, .iconst 0, 1, 0, 0), (54, .ireturn, 1, 0, 0), (55, .aload 4, 2, 0, 0), (57, .getfield 222, 3, 4, 11), (60, .ifCond .ne 5, 3, 0, 0), (63, .iconst 1, 1, 0, 0), (64, .ireturn, 1, 0, 0), (65, .aload_n 0, 1, 0, 0), (66, .aload 4, 2, 0, 0), (68, .getfield 228, 3, 4, 12), (71, .putfield 231, 3, 0, 7), (74, .aload 4, 2, 0, 0), (76, .getfield 234, 3, 4, 9), (79, .aload_n 1, 1, 0, 0), (80, .getfield 237, 3, 3, 5), (83, .if_icmp .ne 7, 3, 0, 0), (86, .iconst 1, 1, 0, 0), (87, .goto 4, 3, 0, 0), (90, .iconst 0, 1, 0, 0), (91, .istore 5, 2, 0, 0), (93, .iload_n 2, 1, 0, 0), (94, .iconst 2, 1, 0, 0), (95, .if_icmp .eq 8, 3, 0, 0), (98, .aload 4, 2, 0, 0), (100, .invokevirtual 238, 3, 23, 0), (103, .iload 5, 2, 0, 0), (105, .ifCond .ne 5, 3, 0, 0), (108, .iconst 2, 1, 0, 0), (109, .ireturn, 1, 0, 0), (110, .aload_n 1, 1, 0, 0), (111, .dup, 1, 0, 0), (112, .getfield 237, 3, 3, 5), (115, .iconst 1, 1, 0, 0), (116, .ixor, 1, 0, 0), (117, .putfield 237, 3, 3, 5), (120, .iconst 3, 1, 0, 0), (121, .ireturn, 1, 0, 0)]
def en_m68 : en_Me := (⟨"PluggedBus", "askIn", "(LPluggedBus$Port;)I"⟩, prog_1_method_37_code, (6, 1, 0, false, 1, 0), en_t68)
/-- PluggedBus.makePacket (I)V -/
def en_t69 : List (Nat × en_I) := [(0, .aload_n 0, 1, 0, 0), (1, .getfield 11, 3, 0, 0), (4, .iload_n 1, 1, 0, 0), (5, .aaload, 1, 0, 0), (6, .getfield 57, 3, 3, 0), (9, .astore_n 2, 1, 0, 0), (10, .aload_n 2, 1, 0, 0), (11, .getfield 74, 3, 4, 3), (14, .iconst 2, 1, 0, 0), (15, .if_icmp .ne 10, 3, 0, 0), (18, .aload_n 2, 1, 0, 0), (19, .invokevirtual 241, 3, 24, 0), (22, .goto 56, 3, 0, 0), (25, .aload_n 2, 1, 0, 0), (26, .getfield 74, 3, 4, 3), (29, .iconst 1, 1, 0, 0), (30, .if_icmp .ne 10, 3, 0, 0), (33, .aload_n 2, 1, 0, 0), (34, .invokevirtual 244, 3, 25, 0), (37, .goto 41, 3, 0, 0), (40, .iload_n 1, 1, 0, 0), (41, .iconst 2, 1, 0, 0), (42, .if_icmp .ge 36, 3, 0, 0), (45, .iload_n 1, 1, 0, 0), (46, .invokestatic 80, 3, 51, 0), (49, .istore_n 3, 1, 0, 0), (50, .aload_n 0, 1, 0, 0), (51, .iload_n 3, 1, 0, 0), (52, .invokevirtual 156, 3, 56, 0), (55, .aload_n 0, 1, 0, 0), (56, .iload_n 3, 1, 0, 0), (57, .iconst 1, 1, 0, 0), (58, .iadd, 1, 0, 0), (59, .invokevirtual 156, 3, 56, 0), (62, .iconst 2, 1, 0, 0), (63, .ishl, 1, 0, 0), (64, .ior, 1, 0, 0), (65, .istore 4, 2, 0, 0), (67, .iload 4, 2, 0, 0), (69, .ifCond .eq 9, 3, 0, 0), (72, .aload_n 2, 1, 0, 0), (73, .iload 4, 2, 0, 0), (75, .invokevirtual 247, 3, 22, 0), (78, .return_, 1, 0, 0)]
def en_m69 : en_Me := (⟨"PluggedBus", "makePacket", "(I)V"⟩, prog_1_method_38_code, (5, 0, 0, false, 1, 0), en_t69)
/-- PluggedBus.pollDuePorts ()I -/
def en_t70 : List (Nat × en_I) := [(0, .iconst 0, 1, 0, 0), (1, .istore_n 1, 1, 0, 0), (2, .iconst 0, 1, 0, 0), (3, .istore_n 2, 1, 0, 0), (4, .iload_n 2, 1, 0, 0), (5, .bipush 6, 2, 0, 0), (7, .if_icmp .ge 39, 3, 0, 0), (10, .aload_n 0, 1, 0, 0), (11, .aload_n 0, 1, 0, 0), (12, .getfield 11, 3, 0, 0), (15, .iload_n 2, 1, 0, 0), (16, .aaload, 1, 0, 0), (17, .invokevirtual 250, 3, 71, 0), (20, .ifCond .eq 20, 3, 0, 0), (23, .iload_n 1, 1, 0, 0), (24, .aload_n 0, 1, 0, 0), (25, .getfield 11, 3, 0, 0), (28, .iload_n 2, 1, 0, 0), (29, .aaload, 1, 0, 0), (30, .getfield 183, 3, 3, 12), (33, .iadd, 1, 0, 0), (34, .istore_n 1, 1, 0, 0), (35, .aload_n 0, 1, 0, 0), (36, .iload_n 2, 1, 0, 0), (37, .invokevirtual 254, 3, 72, 0), (40, .iinc 2 1, 3, 0, 0), (43, .goto (-39), 3, 0, 0), (46, .iload_n 1, 1, 0, 0), (47, .ireturn, 1, 0, 0)]
def en_m70 : en_Me := (⟨"PluggedBus", "pollDuePorts", "()I"⟩, prog_1_method_39_code, (3, 1, 0, false, 0, 0), en_t70)
/-- PluggedBus.isDue (LPluggedBus$Port;)Z -/
def en_t71 : List (Nat × en_I) := [(0, .aload_n 1, 1, 0, 0), (1, .iconst 3, 1, 0, 0), (2, .invokevirtual 165, 3, 27, 0), (5, .ifCond .eq 5, 3, 0, 0), (8, .iconst 1, 1, 0, 0), (9, .ireturn, 1, 0, 0), (10, .aload_n 1, 1, 0, 0), (11, .iconst 2, 1, 0, 0), (12, .invokevirtual 165, 3, 27, 0), (15, .ifCond .eq 26, 3, 0, 0), (18, .aload_n 1, 1, 0, 0), (19, .getfield 257, 3, 3, 11), (22, .ifCond .le 19, 3, 0, 0), (25, .aload_n 0, 1, 0, 0), (26, .getfield 114, 3, 0, 5), (29, .aload_n 1, 1, 0, 0), (30, .getfield 257, 3, 3, 11), (33, .irem, 1, 0, 0), (34, .ifCond .ne 7, 3, 0, 0), (37, .iconst 1, 1, 0, 0), (38, .goto 4, 3, 0, 0), (41, .iconst 0, 1, 0, 0), (42, .ireturn, 1, 0, 0)]
def en_m71 : en_Me := (⟨"PluggedBus", "isDue", "(LPluggedBus$Port;)Z"⟩, prog_1_method_40_code, (2, 2, 0, false, 1, 0), en_t71)
/-- PluggedBus.poll (I)V -/
def en_t72 : List (Nat × en_I) := [(0, .aload_n 0, 1, 0, 0), (1, .getfield 11, 3, 0, 0), (4, .iload_n 1, 1, 0, 0), (5, .aaload, 1, 0, 0), (6, .astore_n 2, 1, 0, 0), (7, .aload_n 0, 1, 0, 0), (8, .aload_n 2, 1, 0, 0), (9, .invokevirtual 260, 3, 68, 0), (12, .istore_n 3, 1, 0, 0), (13, .aload_n 2, 1, 0, 0), (14, .iload_n 3, 1, 0, 0), (15, .ifCond .ne 7, 3, 0, 0), (18, .iconst 1, 1, 0, 0), (19, .goto 4, 3, 0, 0), (22, .iconst 0, 1, 0, 0), (23, .invokevirtual 264, 3, 32, 0), (26, .ifCond .eq 11, 3, 0, 0), (29, .aload_n 0, 1, 0, 0), (30, .iload_n 1, 1, 0, 0), (31, .invokevirtual 268, 3, 60, 0), (34, .goto 76, 3, 0, 0), (37, .iload_n 3, 1, 0, 0), (38, .iconst 3, 1, 0, 0), (39, .if_icmp .ne 31, 3, 0, 0), (42, .aload_n 2, 1, 0, 0), (43, .getfield 271, 3, 3, 9), (46, .iconst 2, 1, 0, 0), (47, .if_icmp .ne 23, 3, 0, 0), (50, .aload_n 0, 1, 0, 0), (51, .getfield 31, 3, 0, 3), (54, .aload_n 0, 1, 0, 0), (55, .getfield 231, 3, 0, 7), (58, .sipush 256, 3, 0, 0), (61, .iload_n 1, 1, 0, 0), (62, .imul, 1, 0, 0), (63, .iadd, 1, 0, 0), (64, .invokevirtual 272, 3, 15, 0), (67, .goto 43, 3, 0, 0), (70, .iload_n 3, 1, 0, 0), (71, .iconst 3, 1, 0, 0), (72, .if_icmp .ne 38, 3, 0, 0), (75, .iload_n 1, 1, 0, 0), (76, .iconst 2, 1, 0, 0), (77, .if_icmp .ge 33, 3, 0, 0), (80, .aload_n 0, 1, 0, 0), (81, .iload_n 1, 1, 0, 0), (82, .invokestatic 80, 3, 51, 0), (85, .aload_n 0, 1, 0, 0), (86, .getfield 231, 3, 0, 7), (89, .iconst 3, 1, 0, 0), (90, .iand, 1, 0, 0), (91, .invokevirtual 159, 3, 57, 0), (94, .aload_n 0, 1, 0, 0), (95, .iload_n 1, 1, 0, 0), (96, .invokestatic 80, 3, 51, 0), (99, .iconst 1, 1, 0, 0), (100, .iadd, 1, 0, 0), (101, .aload_n 0, 1, 0, 0), (102, .getfield 231, 3, 0, 7), (105, .iconst 2, 1, 0, 0), (106, .ishr, 1, 0, 0), (107, .invokevirtual 159, 3, 57, 0), (110, .return_, 1, 0, 0)]
def en_m72 : en_Me := (⟨"PluggedBus", "poll", "(I)V"⟩, prog_1_method_41_code, (4, 0, 0, false, 1, 0), en_t72)
/-- PluggedBus.enumeratePorts (I)I -/
def en_t73 : List (Nat × en_I) := [(0, .iconst 0, 1, 0, 0), (1, .istore_n 2, 1, 0, 0), (2, .iload_n 1, 1, 0, 0), (3, .iload_n 2, 1, 0, 0), (4, .isub, 1, 0, 0), (5, .bipush 10, 2, 0, 0), (7, .if_icmp .lt 25, 3, 0, 0), (10, .aload_n 0, 1, 0, 0), (11, .invokevirtual 275, 3, 74, 0), (14, .istore_n 3, 1, 0, 0), (15, .iload_n 3, 1, 0, 0), (16, .ifCond .ge 5, 3, 0, 0), (19, .iload_n 2, 1, 0, 0), (20, .ireturn, 1, 0, 0), (21, .aload_n 0, 1, 0, 0), (22, .iload_n 3, 1, 0, 0), (23, .invokevirtual 278, 3, 77, 0), (26, .iinc 2 10, 3, 0, 0), (29, .goto (-27), 3, 0, 0), (32, .iload_n 2, 1, 0, 0), (33, .ireturn, 1, 0, 0)]
def en_m73 : en_Me := (⟨"PluggedBus", "enumeratePorts", "(I)I"⟩, prog_1_method_42_code, (4, 1, 0, false, 1, 0), en_t73)
/-- PluggedBus.goingPort ()I -/
def en_t74 : List (Nat × en_I) := [(0, .iconst 0, 1, 0, 0), (1, .istore_n 1, 1, 0, 0), (2, .iload_n 1, 1, 0, 0), (3, .bipush 6, 2, 0, 0), (5, .if_icmp .ge 24, 3, 0, 0), (8, .aload_n 0, 1, 0, 0), (9, .getfield 11, 3, 0, 0), (12, .iload_n 1, 1, 0, 0), (13, .aaload, 1, 0, 0), (14, .getfield 117, 3, 3, 3), (17, .iconst 2, 1, 0, 0), (18, .if_icmp .ne 5, 3, 0, 0), (21, .iload_n 1, 1, 0, 0), (22, .ireturn, 1, 0, 0), (23, .iinc 1 1, 3, 0, 0), (26, .goto (-24), 3, 0, 0), (29, .iconst 0, 1, 0, 0), (30, .istore_n 1, 1, 0, 0), (31, .iload_n 1, 1, 0, 0), (32, .bipush 6, 2, 0, 0), (34, .if_icmp .ge 37, 3, 0, 0), (37, .aload_n 0, 1, 0, 0), (38, .getfield 11, 3, 0, 0), (41, .iload_n 1, 1, 0, 0), (42, .aaload, 1, 0, 0), (43, .getfield 117, 3, 3, 3), (46, .iconst 1, 1, 0, 0), (47, .if_icmp .ne 18, 3, 0, 0), (50, .aload_n 0, 1, 0, 0), (51, .aload_n 0, 1, 0, 0), (52, .getfield 11, 3, 0, 0), (55, .iload_n 1, 1, 0, 0), (56, .aaload, 1, 0, 0), (57, .invokevirtual 281, 3, 75, 0), (60, .ifCond .eq 5, 3, 0, 0), (63, .iload_n 1, 1, 0, 0), (64, .ireturn, 1, 0, 0), (65, .iinc 1 1, 3, 0, 0), (68, .goto (-37), 3, 0, 0), (71, .iconst (-1), 1, 0, 0), (72, .ireturn, 1, 0, 0)]
def en_m74 : en_Me := (⟨"PluggedBus", "goingPort", "()I"⟩, prog_1_method_43_code, (2, 1, 0, false, 0, 0), en_t74)
/-- PluggedBus.begin (LPluggedBus$Port;)Z -/
def en_t75 : List (Nat × en_I) := [(0, .iconst 1, 1, 0, 0), (1, .istore_n 2, 1, 0, 0), (2, .iload_n 2, 1, 0, 0), (3, .iconst 4, 1, 0, 0), (4, .if_icmp .gt 24, 3, 0, 0), (7, .aload_n 0, 1, 0, 0), (8, .iload_n 2, 1, 0, 0), (9, .invokevirtual 284, 3, 76, 0), (12, .ifCond .ne 10, 3, 0, 0), (15, .aload_n 1, 1, 0, 0), (16, .iload_n 2, 1, 0, 0), (17, .invokevirtual 287, 3, 30, 0), (20, .iconst 1, 1, 0, 0), (21, .ireturn, 1, 0, 0), (22, .iinc 2 1, 3, 0, 0), (25, .goto (-23), 3, 0, 0), (28, .aload_n 1, 1, 0, 0), (29, .bipush 6, 2, 0, 0), (31, .invokevirtual 171, 3, 29, 0), (34, .iconst 0, 1, 0, 0), (35, .ireturn, 1, 0, 0)]
def en_m75 : en_Me := (⟨"PluggedBus", "begin", "(LPluggedBus$Port;)Z"⟩, prog_1_method_44_code, (3, 2, 0, false, 1, 0), en_t75)
/-- PluggedBus.isTaken (I)Z -/
def en_t76 : List (Nat × en_I) := [(0, .iconst 0, 1, 0, 0), (1, .istore_n 2, 1, 0, 0), (2, .iload_n 2, 1, 0, 0), (3, .bipush 6, 2, 0, 0), (5, .if_icmp .ge 24, 3, 0, 0), (8, .aload_n 0, 1, 0, 0), (9, .getfield 11, 3, 0, 0), (12, .iload_n 2, 1, 0, 0), (13, .aaload, 1, 0, 0), (14, .getfield 120, 3, 3, 4), (17, .iload_n 1, 1, 0, 0), (18, .if_icmp .ne 5, 3, 0, 0), (21, .iconst 1, 1, 0, 0), (22, .ireturn, 1, 0, 0), (23, .iinc 2 1, 3, 0, 0), (26, .goto (-24), 3, 0, 0), (29, .iconst 0, 1, 0, 0), (30, .ireturn, 1, 0, 0)]
def en_m76 : en_Me := (⟨"PluggedBus", "isTaken", "(I)Z"⟩, prog_1_method_45_code, (3, 2, 0, false, 1, 0), en_t76)
/-- PluggedBus.enumerateOnce (I)V -/
def en_t77 : List (Nat × en_I) := [(0, .aload_n 0, 1, 0, 0), (1, .getfield 11, 3, 0, 0), (4, .iload_n 1, 1, 0, 0), (5, .aaload, 1, 0, 0), (6, .astore_n 2, 1, 0, 0), (7, .aload_n 2, 1, 0, 0), (8, .getfield 202, 3, 3, 8), (11, .iconst 2, 1, 0, 0), (12, .if_icmp .ge 7, 3, 0, 0), (15, .iconst 0, 1, 0, 0), (16, .goto 7, 3, 0, 0), (19, .aload_n 2, 1, 0, 0), (20, .getfield 120, 3, 3, 4), (23, .istore_n 3, 1, 0, 0), (24, .aload_n 2, 1, 0, 0), (25, .getfield 202, 3, 3, 8), (28, .iconst 2, 1, 0, 0), (29, .irem, 1, 0, 0), (30, .ifCond .ne 7, 3, 0, 0), (33, .iconst 1, 1, 0, 0), (34, .goto 4, 3, 0, 0), (37, .iconst 0, 1, 0, 0), (38, .istore 4, 2, 0, 0), (40, .iload 4, 2, 0, 0), (42, .ifCond .eq 12, 3, 0, 0), (45, .aload_n 0, 1, 0, 0), (46, .aload_n 2, 1, 0, 0), (47, .iload_n 3, 1, 0, 0), (48, .invokevirtual 290, 3, 64, 0), (51, .goto 9, 3, 0, 0), (54, .aload_n 0, 1, 0, 0), (55, .aload_n 2, 1, 0, 0), (56, .iload_n 3, 1, 0, 0), (57, .invokevirtual 294, 3, 66, 0), (60, .istore 5, 2, 0, 0), (62, .aload_n 2, 1, 0, 0), (63, .iload 5, 2, 0, 0), (65, .ifCond .ne 7, 3, 0, 0), (68, .iconst 1, 1, 0, 0), (69, .goto 4, 3, 0, 0), (72, .iconst 0, 1, 0, 0), (73, .invokevirtual 264, 3, 32, 0), (76, .ifCond .eq 11, 3, 0, 0), (79, .aload_n 2, 1, 0, 0), (80, .iconst 4, 1, 0, 0), (81, .invokevirtual 171, 3, 29, 0), (84, .goto 13, 3, 0, 0), (87, .iload 5, 2, 0, 0), (89, .ifCond .eq 8, 3, 0, 0), (92, .aload_n 0, 1, 0, 0), (93, .iload_n 1, 1, 0, 0), (94, .invokevirtual 297, 3, 78, 0), (97, .return_, 1, 0, 0)]
def en_m77 : en_Me := (⟨"PluggedBus", "enumerateOnce", "(I)V"⟩, prog_1_method_46_code, (6, 0, 0, false, 1, 0), en_t77)
/-- PluggedBus.goOnEnumerating (I)V -/
def en_t78 : List (Nat × en_I) := [(0, .aload_n 0, 1, 0, 0), (1, .getfield 11, 3, 0, 0), (4, .iload_n 1, 1, 0, 0), (5, .aaload, 1, 0, 0), (6, .astore_n 2, 1, 0, 0), (7, .aload_n 2, 1, 0, 0), (8, .getfield 202, 3, 3, 8), (11, .iconst 5, 1, 0, 0), (12, .if_icmp .ne 16, 3, 0, 0), (15, .aload_n 2, 1, 0, 0), (16, .iconst 3, 1, 0, 0), (17, .putfield 117, 3, 3, 3), (20, .aload_n 2, 1, 0, 0), (21, .iconst 0, 1, 0, 0), (22, .putfield 202, 3, 3, 8), (25, .goto 81, 3, 0, 0), (28, .aload_n 2, 1, 0, 0), (29, .getfield 202, 3, 3, 8), (32, .iconst 3, 1, 0, 0), (33, .if_icmp .ne 24, 3, 0, 0), (36, .aload_n 2, 1, 0, 0), (37, .getfield 271, 3, 3, 9), (40, .iconst 3, 1, 0, 0), (41, .if_icmp .ne 16, 3, 0, 0), (44, .iload_n 1, 1, 0, 0), (45, .iconst 2, 1, 0, 0), (46, .if_icmp .lt 11, 3, 0, 0), (49, .aload_n 2, 1, 0, 0), (50, .iconst 5, 1, 0, 0), (51, .invokevirtual 171, 3, 29, 0), (54, .goto 52, 3, 0, 0), (57, .aload_n 2, 1, 0, 0), (58, .getfield 202, 3, 3, 8), (61, .iconst 3, 1, 0, 0), (62, .if_icmp .ne 34, 3, 0, 0), (65, .aload_n 2, 1, 0, 0), (66, .getfield 271, 3, 3, 9), (69, .iconst 1, 1, 0, 0), (70, .if_icmp .eq 26, 3, 0, 0), (73, .aload_n 2, 1, 0, 0), (74, .getfield 183, 3, 3, 12), (77, .aload_n 0, 1, 0, 0), (78, .invokevirtual 147, 3, 61, 0), (81, .iadd, 1, 0, 0), (82, .bipush 90, 2, 0, 0), (84, .if_icmp .le 12, 3, 0, 0), (87, .aload_n 2, 1, 0, 0), (88, .bipush 7, 2, 0, 0), (90, .invokevirtual 171, 3, 29, 0), (93, .goto 13, 3, 0, 0), (96, .aload_n 2, 1, 0, 0), (97, .dup, 1, 0, 0), (98, .getfield 202, 3, 3, 8), (101, .iconst 1, 1, 0, 0), (102, .iadd, 1, 0, 0), (103, .putfield 202, 3, 3, 8), (106, .return_, 1, 0, 0)]
def en_m78 : en_Me := (⟨"PluggedBus", "goOnEnumerating", "(I)V"⟩, prog_1_method_47_code, (3, 0, 0, false, 1, 0), en_t78)
/-- PluggedBus.serveDisks (I)V -/
def en_t79 : List (Nat × en_I) := [(0, .iload_n 1, 1, 0, 0), (1, .istore_n 2, 1, 0, 0), (2, .iload_n 2, 1, 0, 0), (3, .bipush 8, 2, 0, 0), (5, .if_icmp .lt 29, 3, 0, 0), (8, .aload_n 0, 1, 0, 0), (9, .invokevirtual 300, 3, 80, 0), (12, .istore_n 3, 1, 0, 0), (13, .iload_n 3, 1, 0, 0), (14, .ifCond .ge 4, 3, 0, 0), (17, .return_, 1, 0, 0), (18, .aload_n 0, 1, 0, 0), (19, .aload_n 0, 1, 0, 0), (20, .getfield 17, 3, 0, 1), (23, .iload_n 3, 1, 0, 0), (24, .aaload, 1, 0, 0), (25, .invokevirtual 303, 3, 81, 0), (28, .iinc 2 (-8), 3, 0, 0), (31, .goto (-29), 3, 0, 0), (34, .return_, 1, 0, 0)]
def en_m79 : en_Me := (⟨"PluggedBus", "serveDisks", "(I)V"⟩, prog_1_method_48_code, (4, 0, 0, false, 1, 0), en_t79)
/-- PluggedBus.nextOrder ()I -/
def en_t80 : List (Nat × en_I) := [(0, .iconst 1, 1, 0, 0), (1, .istore_n 1, 1, 0, 0), (2, .iload_n 1, 1, 0, 0), (3, .bipush 6, 2, 0, 0), (5, .if_icmp .gt 48, 3, 0, 0), (8, .aload_n 0, 1, 0, 0), (9, .getfield 35, 3, 0, 6), (12, .iload_n 1, 1, 0, 0), (13, .iadd, 1, 0, 0), (14, .bipush 6, 2, 0, 0), (16, .irem, 1, 0, 0), (17, .istore_n 2, 1, 0, 0), (18, .aload_n 0, 1, 0, 0), (19, .getfield 11, 3, 0, 0), (22, .iload_n 2, 1, 0, 0), (23, .aaload, 1, 0, 0), (24, .iconst 1, 1, 0, 0), (25, .invokevirtual 165, 3, 27, 0), (28, .ifCond .eq 11, 3, 0, 0), (31, .aload_n 0, 1, 0, 0), (32, .iload_n 2, 1, 0, 0), (33, .invokevirtual 307, 3, 85, 0), (36, .goto 4, 3, 0, 0), (39, .iconst (-1), 1, 0, 0), (40, .istore_n 3, 1, 0, 0), (41, .iload_n 3, 1, 0, 0), (42, .ifCond .lt 5, 3, 0, 0), (45, .iload_n 3, 1, 0, 0), (46, .ireturn, 1, 0, 0), (47, .iinc 1 1, 3, 0, 0), (50, .goto (-48), 3, 0, 0), (53, .iconst (-1), 1, 0, 0), (54, .ireturn, 1, 0, 0)]
def en_m80 : en_Me := (⟨"PluggedBus", "nextOrder", "()I"⟩, prog_1_method_49_code, (4, 1, 0, false, 0, 0), en_t80)
/-- PluggedBus.serve (LPluggedBus$Order;)V -/
def en_t81 : List (Nat × en_I) := [(0, .aload_n 1, 1, 0, 0), (1, .getfield 177, 3, 8, 2), (4, .istore_n 2, 1, 0, 0), (5, .aload_n 0, 1, 0, 0), (6, .getfield 11, 3, 0, 0), (9, .iload_n 2, 1, 0, 0), (10, .aaload, 1, 0, 0), (11, .astore_n 3, 1, 0, 0), (12, .aload_n 0, 1, 0, 0), (13, .iload_n 2, 1, 0, 0), (14, .putfield 35, 3, 0, 6), (17, .aload_n 1, 1, 0, 0), (18, .aload_n 3, 1, 0, 0), (19, .getfield 202, 3, 3, 8), (22, .invokevirtual 310, 3, 8, 0), (25, .ifCond .eq 19, 3, 0, 0), (28, .aload_n 0, 1, 0, 0), (29, .aload_n 3, 1, 0, 0), (30, .aload_n 1, 1, 0, 0), (31, .aload_n 3, 1, 0, 0), (32, .getfield 202, 3, 3, 8), (35, .invokevirtual 313, 3, 9, 0), (38, .invokevirtual 316, 3, 67, 0), (41, .goto 8, 3, 0, 0), (44, .aload_n 0, 1, 0, 0), (45, .aload_n 3, 1, 0, 0), (46, .invokevirtual 260, 3, 68, 0), (49, .istore 4, 2, 0, 0), (51, .aload_n 3, 1, 0, 0), (52, .iload 4, 2, 0, 0), (54, .ifCond .ne 7, 3, 0, 0), (57, .iconst 1, 1, 0, 0), (58, .goto 4, 3, 0, 0), (61, .iconst 0, 1, 0, 0), (62, .invokevirtual 264, 3, 32, 0), (65, .ifCond .eq 16, 3, 0, 0), (68, .aload_n 1, 1, 0, 0), (69, .iconst 2, 1, 0, 0), (70, .invokevirtual 180, 3, 12, 0), (73, .aload_n 0, 1, 0, 0), (74, .iload_n 2, 1, 0, 0), (75, .invokevirtual 268, 3, 60, 0), (78, .goto 15, 3, 0, 0), (81, .iload 4, 2, 0, 0), (83, .iconst 3, 1, 0, 0), (84, .if_icmp .ne 9, 3, 0, 0), (87, .aload_n 0, 1, 0, 0), (88, .aload_n 3, 1, 0, 0), (89, .aload_n 1, 1, 0, 0), (90, .invokevirtual 320, 3, 82, 0), (93, .return_, 1, 0, 0)]
def en_m81 : en_Me := (⟨"PluggedBus", "serve", "(LPluggedBus$Order;)V"⟩, prog_1_method_50_code, (5, 0, 0, false, 1, 0), en_t81)
/-- PluggedBus.goOnWithOrder (LPluggedBus$Port;LPluggedBus$Order;)V -/
def en_t82 : List (Nat × en_I) := [(0, .aload_n 1, 1, 0, 0), (1, .getfield 202, 3, 3, 8), (4, .aload_n 2, 1, 0, 0), (5, .getfield 324, 3, 8, 4), (8, .if_icmp .le 14, 3, 0, 0), (11, .aload_n 2, 1, 0, 0), (12, .iconst 1, 1, 0, 0), (13, .invokevirtual 180, 3, 12, 0), (16, .aload_n 1, 1, 0, 0), (17, .iconst 0, 1, 0, 0), (18, .putfield 202, 3, 3, 8), (21, .return_, 1, 0, 0), (22, .aload_n 2, 1, 0, 0), (23, .aload_n 1, 1, 0, 0), (24, .getfield 202, 3, 3, 8), (27, .invokevirtual 310, 3, 8, 0), (30, .ifCond .ne 11, 3, 0, 0), (33, .aload_n 2, 1, 0, 0), (34, .aload_n 0, 1, 0, 0), (35, .getfield 231, 3, 0, 7), (38, .invokevirtual 325, 3, 10, 0), (41, .aload_n 1, 1, 0, 0), (42, .dup, 1, 0, 0), (43, .getfield 202, 3, 3, 8), (46, .iconst 1, 1, 0, 0), (47, .iadd, 1, 0, 0), (48, .putfield 202, 3, 3, 8), (51, .return_, 1, 0, 0)]
def en_m82 : en_Me := (⟨"PluggedBus", "goOnWithOrder", "(LPluggedBus$Port;LPluggedBus$Order;)V"⟩, prog_1_method_51_code, (3, 0, 0, false, 2, 0), en_t82)
/-- PluggedBus.isOrder (I)Z -/
def en_t83 : List (Nat × en_I) := [(0, .iload_n 1, 1, 0, 0), (1, .ifCond .lt 15, 3, 0, 0), (4, .iload_n 1, 1, 0, 0), (5, .aload_n 0, 1, 0, 0), (6, .getfield 174, 3, 0, 4), (9, .if_icmp .ge 7, 3, 0, 0), (12, .iconst 1, 1, 0, 0), (13, .goto 4, 3, 0, 0), (16, .iconst 0, 1, 0, 0), (17, .ireturn, 1, 0, 0)]
def en_m83 : en_Me := (⟨"PluggedBus", "isOrder", "(I)Z"⟩, prog_1_method_52_code, (2, 2, 0, false, 1, 0), en_t83)
/-- PluggedBus.placeOrder (IIIZI)I -/
def en_t84 : List (Nat × en_I) := [(0, .iload_n 1, 1, 0, 0), (1, .invokestatic 71, 3, 49, 0), (4, .ifCond .eq 23, 3, 0, 0), (7, .iload_n 2, 1, 0, 0), (8, .ifCond .lt 19, 3, 0, 0), (11, .iload_n 2, 1, 0, 0), (12, .bipush 8, 2, 0, 0), (14, .if_icmp .ge 13, 3, 0, 0), (17, .iload_n 3, 1, 0, 0), (18, .iconst 1, 1, 0, 0), (19, .if_icmp .lt 8, 3, 0, 0), (22, .iload_n 3, 1, 0, 0), (23, .iconst 4, 1, 0, 0), (24, .if_icmp .le 5, 3, 0, 0), (27, .iconst (-1), 1, 0, 0), (28, .ireturn, 1, 0, 0), (29, .aload_n 0, 1, 0, 0), (30, .getfield 174, 3, 0, 4), (33, .bipush 16, 2, 0, 0), (35, .if_icmp .ge 16, 3, 0, 0), (38, .aload_n 0, 1, 0, 0), (39, .getfield 11, 3, 0, 0), (42, .iload_n 1, 1, 0, 0), (43, .aaload, 1, 0, 0), (44, .iconst 1, 1, 0, 0), (45, .invokevirtual 165, 3, 27, 0), (48, .ifCond .ne 5, 3, 0, 0), (51, .iconst (-1), 1, 0, 0), (52, .ireturn, 1, 0, 0), (53, .aload_n 0, 1, 0, 0), (54, .getfield 17, 3, 0, 1), (57, .aload_n 0, 1, 0, 0), (58, .getfield 174, 3, 0, 4), (61, .aaload, 1, 0, 0), (62, .astore 6, 2, 0, 0), (64, .aload 6, 2, 0, 0), (66, .iload_n 1, 1, 0, 0), (67, .putfield 177, 3, 8, 2), (70, .aload 6, 2, 0, 0), (72, .iload_n 2, 1, 0, 0), (73, .putfield 328, 3, 8, 3), (76, .aload 6, 2, 0, 0), (78, .iload_n 3, 1, 0, 0), (79, .putfield 324, 3, 8, 4), (82, .aload 6, 2, 0, 0), (84, .iload 4, 2, 0, 0), (86, .putfield 331, 3, 8, 5), (89, .aload 6, 2, 0, 0), (91, .iload 5, 2, 0, 0), (93, .putfield 334, 3, 8, 6), (96, .iload_n 2, 1, 0, 0), (97, .iload_n 3, 1, 0, 0), (98, .iadd, 1, 0, 0), (99, .aload_n 0, 1, 0, 0), (100, .getfield 11, 3, 0, 0), (103, .iload_n 1, 1, 0, 0), (104, .aaload, 1, 0, 0), (105, .getfield 337, 3, 3, 10), (108, .if_icmp .le 9, 3, 0, 0), (111, .aload 6, 2, 0, 0), (113, .iconst 4, 1, 0, 0), (114, .invokevirtual 180, 3, 12, 0), (117, .aload_n 0, 1, 0, 0), (118, .dup, 1, 0, 0), (119, .getfield 174, 3, 0, 4), (122, .dup_x1, 1, 0, 0), (123, .iconst 1, 1, 0, 0), (124, .iadd, 1, 0, 0), (125, .putfield 174, 3, 0, 4), (128, .ireturn, 1, 0, 0)]
def en_m84 : en_Me := (⟨"PluggedBus", "placeOrder", "(IIIZI)I"⟩, prog_1_method_53_code, (7, 1, 0, false, 5, 0), en_t84)
/-- PluggedBus.orderInHand (I)I -/
def en_t85 : List (Nat × en_I) := [(0, .iconst 0, 1, 0, 0), (1, .istore_n 2, 1, 0, 0), (2, .iload_n 2, 1, 0, 0), (3, .aload_n 0, 1, 0, 0), (4, .getfield 174, 3, 0, 4), (7, .if_icmp .ge 36, 3, 0, 0), (10, .aload_n 0, 1, 0, 0), (11, .getfield 17, 3, 0, 1), (14, .iload_n 2, 1, 0, 0), (15, .aaload, 1, 0, 0), (16, .getfield 177, 3, 8, 2), (19, .iload_n 1, 1, 0, 0), (20, .if_icmp .ne 17, 3, 0, 0), (23, .aload_n 0, 1, 0, 0), (24, .getfield 17, 3, 0, 1), (27, .iload_n 2, 1, 0, 0), (28, .aaload, 1, 0, 0), (29, .getfield 126, 3, 8, 7), (32, .ifCond .ne 5, 3, 0, 0), (35, .iload_n 2, 1, 0, 0), (36, .ireturn, 1, 0, 0), (37, .iinc 2 1, 3, 0, 0), (40, .goto (-38), 3, 0, 0), (43, .iconst (-1), 1, 0, 0), (44, .ireturn, 1, 0, 0)]
def en_m85 : en_Me := (⟨"PluggedBus", "orderInHand", "(I)I"⟩, prog_1_method_54_code, (3, 1, 0, false, 1, 0), en_t85)
/-- PluggedBusModel.isPort (I)Z -/
def en_t86 : List (Nat × en_I) := [(0, .iload_n 0, 1, 0, 0), (1, .ifCond .lt 12, 3, 0, 0), (4, .iload_n 0, 1, 0, 0), (5, .iconst 5, 1, 0, 0), (6, .if_icmp .gt 7, 3, 0, 0), (9, .iconst 1, 1, 0, 0), (10, .goto 4, 3, 0, 0), (13, .iconst 0, 1, 0, 0), (14, .ireturn, 1, 0, 0)]
def en_m86 : en_Me := (⟨"PluggedBusModel", "isPort", "(I)Z"⟩, prog_9_method_2_code, (1, 2, 7, true, 1, 16), en_t86)
/-- PluggedBusModel.hubOf (I)I -/
def en_t87 : List (Nat × en_I) := [(0, .iload_n 0, 1, 0, 0), (1, .iconst 2, 1, 0, 0), (2, .if_icmp .ge 7, 3, 0, 0), (5, .iconst (-1), 1, 0, 0), (6, .goto 13, 3, 0, 0), (9, .iload_n 0, 1, 0, 0), (10, .iconst 4, 1, 0, 0), (11, .if_icmp .ge 7, 3, 0, 0), (14, .iconst 0, 1, 0, 0), (15, .goto 4, 3, 0, 0), (18, .iconst 1, 1, 0, 0), (19, .ireturn, 1, 0, 0)]
def en_m87 : en_Me := (⟨"PluggedBusModel", "hubOf", "(I)I"⟩, prog_9_method_3_code, (1, 1, 7, true, 1, 16), en_t87)
/-- PluggedBusModel.outside (III)Z -/
def en_t88 : List (Nat × en_I) := [(0, .iload_n 0, 1, 0, 0), (1, .iload_n 1, 1, 0, 0), (2, .if_icmp .lt 8, 3, 0, 0), (5, .iload_n 0, 1, 0, 0), (6, .iload_n 2, 1, 0, 0), (7, .if_icmp .le 7, 3, 0, 0), (10, .iconst 1, 1, 0, 0), (11, .goto 4, 3, 0, 0), (14, .iconst 0, 1, 0, 0), (15, .ireturn, 1, 0, 0)]
def en_m88 : en_Me := (⟨"PluggedBusModel", "outside", "(III)Z"⟩, prog_9_method_4_code, (3, 2, 7, true, 3, 16), en_t88)
/-- PluggedBusModel.marks (I)V -/
def en_t89 : List (Nat × en_I) := [(0, .iload_n 1, 1, 0, 0), (1, .invokestatic 132, 3, 87, 0), (4, .istore_n 2, 1, 0, 0), (5, .aload_n 0, 1, 0, 0), (6, .getfield 23, 3, 16, 4), (9, .iload_n 1, 1, 0, 0), (10, .aload_n 0, 1, 0, 0), (11, .getfield 23, 3, 16, 4), (14, .iload_n 1, 1, 0, 0), (15, .baload, 1, 0, 0), (16, .ifCond .ne 16, 3, 0, 0), (19, .iload_n 2, 1, 0, 0), (20, .ifCond .lt 12, 3, 0, 0), (23, .aload_n 0, 1, 0, 0), (24, .getfield 32, 3, 16, 7), (27, .iload_n 2, 1, 0, 0), (28, .baload, 1, 0, 0), (29, .ifCond .eq 7, 3, 0, 0), (32, .iconst 1, 1, 0, 0), (33, .goto 4, 3, 0, 0), (36, .iconst 0, 1, 0, 0), (37, .bastore, 1, 0, 0), (38, .return_, 1, 0, 0)]
def en_m89 : en_Me := (⟨"PluggedBusModel", "marks", "(I)V"⟩, prog_9_method_5_code, (3, 0, 7, false, 1, 16), en_t89)
/-- PluggedBusModel.plug (IIII)Z -/
def en_t90 : List (Nat × en_I) := [(0, .iload_n 1, 1, 0, 0), (1, .invokestatic 136, 3, 86, 0), (4, .ifCond .eq 30, 3, 0, 0), (7, .aload_n 0, 1, 0, 0), (8, .getfield 7, 3, 16, 0), (11, .iload_n 1, 1, 0, 0), (12, .iaload, 1, 0, 0), (13, .ifCond .ne 21, 3, 0, 0), (16, .iload_n 1, 1, 0, 0), (17, .iconst 1, 1, 0, 0), (18, .if_icmp .le 18, 3, 0, 0), (21, .aload_n 0, 1, 0, 0), (22, .getfield 7, 3, 16, 0), (25, .iload_n 1, 1, 0, 0), (26, .invokestatic 132, 3, 87, 0), (29, .iaload, 1, 0, 0), (30, .iconst 3, 1, 0, 0), (31, .if_icmp .eq 5, 3, 0, 0), (34, .iconst 0, 1, 0, 0), (35, .ireturn, 1, 0, 0), (36, .iload_n 2, 1, 0, 0), (37, .iconst 1, 1, 0, 0), (38, .if_icmp .ne 31, 3, 0, 0), (41, .iload_n 3, 1, 0, 0), (42, .iconst 1, 1, 0, 0), (43, .bipush 8, 2, 0, 0), (45, .invokestatic 140, 3, 88, 0), (48, .ifCond .ne 17, 3, 0, 0), (51, .iload 4, 2, 0, 0), (53, .iconst 0, 1, 0, 0), (54, .iconst 3, 1, 0, 0), (55, .invokestatic 140, 3, 88, 0), (58, .ifCond .ne 7, 3, 0, 0), (61, .iconst 1, 1, 0, 0), (62, .goto 60, 3, 0, 0), (65, .iconst 0, 1, 0, 0), (66, .goto 56, 3, 0, 0), (69, .iload_n 2, 1, 0, 0), (70, .iconst 2, 1, 0, 0), (71, .if_icmp .ne 32, 3, 0, 0), (74, .iload_n 3, 1, 0, 0), (75, .iconst 1, 1, 0, 0), (76, .bipush 8, 2, 0, 0), (78, .invokestatic 140, 3, 88, 0), (81, .ifCond .ne 18, 3, 0, 0), (84, .iload 4, 2, 0, 0), (86, .iconst 1, 1, 0, 0), (87, .bipush 60, 2, 0, 0), (89, .invokestatic 140, 3, 88, 0), (92, .ifCond .ne 7, 3, 0, 0), (95, .iconst 1, 1, 0, 0), (96, .goto 26, 3, 0, 0), (99, .iconst 0, 1, 0, 0), (100, .goto 22, 3, 0, 0), (103, .iload_n 2, 1, 0, 0), (104, .iconst 3, 1, 0, 0), (105, .if_icmp .ne 16, 3, 0, 0), (108, .iload_n 3, 1, 0, 0), (109, .ifCond .ne 12, 3, 0, 0), (112, .iload 4, 2, 0, 0), (114, .ifCond .ne 7, 3, 0, 0), (117, .iconst 1, 1, 0, 0), (118, .goto 4, 3, 0, 0), (121, .iconst 0, 1, 0, 0), (122, .istore 5, 2, 0, 0), (124, .iload 5, 2, 0, 0), (126, .ifCond .ne 5, 3, 0, 0), (129, .iconst 0, 1, 0, 0), (130, .ireturn, 1, 0, 0), (131, .aload_n 0, 1, 0, 0), (132, .getfield 7, 3, 16, 0), (135, .iload_n 1, 1, 0, 0), (136, .iload_n 2, 1, 0, 0), (137, .iastore, 1, 0, 0), (138, .aload_n 0, 1, 0, 0), (139, .getfield 13, 3, 16, 1), (142, .iload_n 1, 1, 0, 0), (143, .iload_n 3, 1, 0, 0), (144, .iastore, 1, 0, 0), (145, .aload_n 0, 1, 0, 0), (146, .getfield 16, 3, 16, 2), (149, .iload_n 1, 1, 0, 0), (150, .iload 4, 2, 0, 0), (152, .iastore, 1, 0, 0), (153, .aload_n 0, 1, 0, 0), (154, .getfield 62, 3, 16, 17), (157, .iload_n 1, 1, 0, 0), (158, .iconst 0, 1, 0, 0), (159, .iastore, 1, 0, 0), (160, .iconst 0, 1, 0, 0), (161, .istore 6, 2, 0, 0), (163, .iload 6, 2, 0, 0), (165, .bipush 8, 2, 0, 0), (167, .if_icmp .ge 22, 3, 0, 0), (170, .aload_n 0, 1, 0, 0), (171, .getfield 59, 3, 16, 16), (174, .bipush 8, 2, 0, 0), (176, .iload_n 1, 1, 0, 0), (177, .imul, 1, 0, 0), (178, .iload 6, 2, 0, 0), (180, .iadd, 1, 0, 0), (181, .iconst 0, 1, 0, 0), (182, .iastore, 1, 0, 0), (183, .iinc 6 1, 3, 0, 0), (186, .goto (-23), 3, 0, 0), (189, .aload_n 0, 1, 0, 0), (190, .getfield 19, 3, 16, 3), (193, .iload_n 1, 1, 0, 0), (194, .iconst 0, 1, 0, 0), (195, .bastore, 1, 0, 0), (196, .aload_n 0, 1, 0, 0), (197, .getfield 32, 3, 16, 7), (200, .iload_n 1, 1, 0, 0), (201, .iconst 0, 1, 0, 0), (202, .bastore, 1, 0, 0), (203, .aload_n 0, 1, 0, 0), (204, .iload_n 1, 1, 0, 0), (205, .invokevirtual 144, 3, 89, 0), (208, .iconst 1, 1, 0, 0), (209, .ireturn, 1, 0, 0)]
def en_m90 : en_Me := (⟨"PluggedBusModel", "plug", "(IIII)Z"⟩, prog_9_method_6_code, (7, 2, 7, false, 4, 16), en_t90)
/-- PluggedBusModel.out (I)V -/
def en_t91 : List (Nat × en_I) := [(0, .aload_n 0, 1, 0, 0), (1, .getfield 7, 3, 16, 0), (4, .iload_n 1, 1, 0, 0), (5, .iconst 0, 1, 0, 0), (6, .iastore, 1, 0, 0), (7, .aload_n 0, 1, 0, 0), (8, .getfield 19, 3, 16, 3), (11, .iload_n 1, 1, 0, 0), (12, .iconst 0, 1, 0, 0), (13, .bastore, 1, 0, 0), (14, .aload_n 0, 1, 0, 0), (15, .getfield 32, 3, 16, 7), (18, .iload_n 1, 1, 0, 0), (19, .iconst 0, 1, 0, 0), (20, .bastore, 1, 0, 0), (21, .return_, 1, 0, 0)]
def en_m91 : en_Me := (⟨"PluggedBusModel", "out", "(I)V"⟩, prog_9_method_7_code, (2, 0, 7, false, 1, 16), en_t91)
/-- PluggedBusModel.unplug (I)Z -/
def en_t92 : List (Nat × en_I) := [(0, .iload_n 1, 1, 0, 0), (1, .invokestatic 136, 3, 86, 0), (4, .ifCond .eq 12, 3, 0, 0), (7, .aload_n 0, 1, 0, 0), (8, .getfield 7, 3, 16, 0), (11, .iload_n 1, 1, 0, 0), (12, .iaload, 1, 0, 0), (13, .ifCond .ne 5, 3, 0, 0), (16, .iconst 0, 1, 0, 0), (17, .ireturn, 1, 0, 0), (18, .iconst 2, 1, 0, 0), (19, .istore_n 2, 1, 0, 0), (20, .iload_n 2, 1, 0, 0), (21, .bipush 6, 2, 0, 0), (23, .if_icmp .ge 39, 3, 0, 0), (26, .iload_n 2, 1, 0, 0), (27, .invokestatic 132, 3, 87, 0), (30, .iload_n 1, 1, 0, 0), (31, .if_icmp .ne 25, 3, 0, 0), (34, .aload_n 0, 1, 0, 0), (35, .getfield 7, 3, 16, 0), (38, .iload_n 1, 1, 0, 0), (39, .iaload, 1, 0, 0), (40, .iconst 3, 1, 0, 0), (41, .if_icmp .ne 15, 3, 0, 0), (44, .aload_n 0, 1, 0, 0), (45, .iload_n 2, 1, 0, 0), (46, .invokevirtual 148, 3, 91, 0), (49, .aload_n 0, 1, 0, 0), (50, .getfield 23, 3, 16, 4), (53, .iload_n 2, 1, 0, 0), (54, .iconst 0, 1, 0, 0), (55, .bastore, 1, 0, 0), (56, .iinc 2 1, 3, 0, 0), (59, .goto (-39), 3, 0, 0), (62, .aload_n 0, 1, 0, 0), (63, .iload_n 1, 1, 0, 0), (64, .invokevirtual 148, 3, 91, 0), (67, .aload_n 0, 1, 0, 0), (68, .iload_n 1, 1, 0, 0), (69, .invokevirtual 144, 3, 89, 0), (72, .iconst 1, 1, 0, 0), (73, .ireturn, 1, 0, 0)]
def en_m92 : en_Me := (⟨"PluggedBusModel", "unplug", "(I)Z"⟩, prog_9_method_8_code, (3, 2, 7, false, 1, 16), en_t92)
/-- PluggedBusModel.press (II)Z -/
def en_t93 : List (Nat × en_I) := [(0, .iload_n 1, 1, 0, 0), (1, .invokestatic 136, 3, 86, 0), (4, .ifCond .eq 34, 3, 0, 0), (7, .aload_n 0, 1, 0, 0), (8, .getfield 7, 3, 16, 0), (11, .iload_n 1, 1, 0, 0), (12, .iaload, 1, 0, 0), (13, .iconst 2, 1, 0, 0), (14, .if_icmp .ne 24, 3, 0, 0), (17, .aload_n 0, 1, 0, 0), (18, .getfield 62, 3, 16, 17), (21, .iload_n 1, 1, 0, 0), (22, .iaload, 1, 0, 0), (23, .iconst 4, 1, 0, 0), (24, .if_icmp .eq 14, 3, 0, 0), (27, .iload_n 2, 1, 0, 0), (28, .iconst 0, 1, 0, 0), (29, .sipush 255, 3, 0, 0), (32, .invokestatic 140, 3, 88, 0), (35, .ifCond .eq 5, 3, 0, 0), (38, .iconst 0, 1, 0, 0), (39, .ireturn, 1, 0, 0), (40, .aload_n 0, 1, 0, 0), (41, .getfield 65, 3, 16, 18), (44, .iconst 4, 1, 0, 0), (45, .iload_n 1, 1, 0, 0), (46, .imul, 1, 0, 0), (47, .aload_n 0, 1, 0, 0), (48, .getfield 62, 3, 16, 17), (51, .iload_n 1, 1, 0, 0), (52, .iaload, 1, 0, 0), (53, .iadd, 1, 0, 0), (54, .iload_n 2, 1, 0, 0), (55, .iastore, 1, 0, 0), (56, .aload_n 0, 1, 0, 0), (57, .getfield 62, 3, 16, 17), (60, .iload_n 1, 1, 0, 0), (61, .dup2, 1, 0, 0), (62, .iaload, 1, 0, 0), (63, .iconst 1, 1, 0, 0), (64, .iadd, 1, 0, 0), (65, .iastore, 1, 0, 0), (66, .iconst 1, 1, 0, 0), (67, .ireturn, 1, 0, 0)]
def en_m93 : en_Me := (⟨"PluggedBusModel", "press", "(II)Z"⟩, prog_9_method_9_code, (3, 2, 7, false, 2, 16), en_t93)
/-- PluggedBusModel.spoil (II)Z -/
def en_t94 : List (Nat × en_I) := [(0, .iload_n 1, 1, 0, 0), (1, .iconst 1, 1, 0, 0), (2, .bipush 40, 2, 0, 0), (4, .invokestatic 140, 3, 88, 0), (7, .ifCond .ne 12, 3, 0, 0), (10, .iload_n 2, 1, 0, 0), (11, .iconst 0, 1, 0, 0), (12, .iconst 3, 1, 0, 0), (13, .invokestatic 140, 3, 88, 0), (16, .ifCond .eq 5, 3, 0, 0), (19, .iconst 0, 1, 0, 0), (20, .ireturn, 1, 0, 0), (21, .aload_n 0, 1, 0, 0), (22, .getfield 129, 3, 16, 43), (25, .aload_n 0, 1, 0, 0), (26, .getfield 151, 3, 16, 44), (29, .iload_n 1, 1, 0, 0), (30, .iadd, 1, 0, 0), (31, .bipush 63, 2, 0, 0), (33, .iand, 1, 0, 0), (34, .iload_n 2, 1, 0, 0), (35, .iconst 3, 1, 0, 0), (36, .if_icmp .ne 7, 3, 0, 0), (39, .iconst 0, 1, 0, 0), (40, .goto 6, 3, 0, 0), (43, .iconst 1, 1, 0, 0), (44, .iload_n 2, 1, 0, 0), (45, .iadd, 1, 0, 0), (46, .iastore, 1, 0, 0), (47, .iconst 1, 1, 0, 0), (48, .ireturn, 1, 0, 0)]
def en_m94 : en_Me := (⟨"PluggedBusModel", "spoil", "(II)Z"⟩, prog_9_method_10_code, (3, 2, 7, false, 2, 16), en_t94)
/-- PluggedBusModel.token (I)I -/
def en_t95 : List (Nat × en_I) := [(0, .aload_n 0, 1, 0, 0), (1, .dup, 1, 0, 0), (2, .getfield 151, 3, 16, 44), (5, .iconst 1, 1, 0, 0), (6, .iadd, 1, 0, 0), (7, .putfield 151, 3, 16, 44), (10, .aload_n 0, 1, 0, 0), (11, .aload_n 0, 1, 0, 0), (12, .getfield 129, 3, 16, 43), (15, .aload_n 0, 1, 0, 0), (16, .getfield 151, 3, 16, 44), (19, .bipush 63, 2, 0, 0), (21, .iand, 1, 0, 0), (22, .iaload, 1, 0, 0), (23, .iconst 1, 1, 0, 0), (24, .isub, 1, 0, 0), (25, .putfield 154, 3, 16, 45), (28, .aload_n 0, 1, 0, 0), (29, .getfield 129, 3, 16, 43), (32, .aload_n 0, 1, 0, 0), (33, .getfield 151, 3, 16, 44), (36, .bipush 63, 2, 0, 0), (38, .iand, 1, 0, 0), (39, .iconst 0, 1, 0, 0), (40, .iastore, 1, 0, 0), (41, .aload_n 0, 1, 0, 0), (42, .getfield 154, 3, 16, 45), (45, .ifCond .ne 5, 3, 0, 0), (48, .iconst (-1), 1, 0, 0), (49, .ireturn, 1, 0, 0), (50, .iconst 0, 1, 0, 0), (51, .istore_n 2, 1, 0, 0), (52, .iload_n 2, 1, 0, 0), (53, .bipush 6, 2, 0, 0), (55, .if_icmp .ge 76, 3, 0, 0), (58, .aload_n 0, 1, 0, 0), (59, .getfield 7, 3, 16, 0), (62, .iload_n 2, 1, 0, 0), (63, .iaload, 1, 0, 0), (64, .ifCond .eq 33, 3, 0, 0), (67, .aload_n 0, 1, 0, 0), (68, .getfield 19, 3, 16, 3), (71, .iload_n 2, 1, 0, 0), (72, .baload, 1, 0, 0), (73, .ifCond .eq 24, 3, 0, 0), (76, .iload_n 2, 1, 0, 0), (77, .iconst 2, 1, 0, 0), (78, .if_icmp .lt 15, 3, 0, 0), (81, .aload_n 0, 1, 0, 0), (82, .getfield 19, 3, 16, 3), (85, .iload_n 2, 1, 0, 0), (86, .invokestatic 132, 3, 87, 0), (89, .baload, 1, 0, 0), (90, .ifCond .eq 7, 3, 0, 0), (93, .iconst 1, 1, 0, 0), (94, .goto 4, 3, 0, 0), (97, .iconst 0, 1, 0, 0), (98, .istore_n 3, 1, 0, 0), (99, .iload_n 3, 1, 0, 0), (100, .ifCond .eq 25, 3, 0, 0), (103, .aload_n 0, 1, 0, 0), (104, .getfield 26, 3, 16, 5), (107, .iload_n 2, 1, 0, 0), (108, .iaload, 1, 0, 0), (109, .iload_n 1, 1, 0, 0), (110, .if_icmp .eq 13, 3, 0, 0), (113, .aload_n 0, 1, 0, 0), (114, .getfield 29, 3, 16, 6), (117, .iload_n 2, 1, 0, 0), (118, .iaload, 1, 0, 0), (119, .iload_n 1, 1, 0, 0), (120, .if_icmp .ne 5, 3, 0, 0), (123, .iload_n 2, 1, 0, 0), (124, .ireturn, 1, 0, 0), (125, .iinc 2 1, 3, 0, 0), (128, .goto (-76), 3, 0, 0), (131, .iconst (-1), 1, 0, 0), (132, .ireturn, 1, 0, 0)]
def en_m95 : en_Me := (⟨"PluggedBusModel", "token", "(I)I"⟩, prog_9_method_11_code, (4, 1, 7, false, 1, 16), en_t95)
/-- PluggedBusModel.setup (III)Z -/
def en_t96 : List (Nat × en_I) := [(0, .aload_n 0, 1, 0, 0), (1, .iload_n 1, 1, 0, 0), (2, .invokevirtual 157, 3, 95, 0), (5, .istore 4, 2, 0, 0), (7, .iload 4, 2, 0, 0), (9, .ifCond .lt 11, 3, 0, 0), (12, .aload_n 0, 1, 0, 0), (13, .getfield 154, 3, 16, 45), (16, .iconst 1, 1, 0, 0), (17, .if_icmp .ne 5, 3, 0, 0), (20, .iconst 0, 1, 0, 0), (21, .ireturn, 1, 0, 0), (22, .aload_n 0, 1, 0, 0), (23, .getfield 29, 3, 16, 6), (26, .iload 4, 2, 0, 0), (28, .iload_n 1, 1, 0, 0), (29, .iastore, 1, 0, 0), (30, .iload_n 2, 1, 0, 0), (31, .ifCond .ne 11, 3, 0, 0), (34, .aload_n 0, 1, 0, 0), (35, .getfield 26, 3, 16, 5), (38, .iload 4, 2, 0, 0), (40, .iload_n 3, 1, 0, 0), (41, .iastore, 1, 0, 0), (42, .iload_n 2, 1, 0, 0), (43, .iconst 2, 1, 0, 0), (44, .if_icmp .ne 70, 3, 0, 0), (47, .aload_n 0, 1, 0, 0), (48, .getfield 32, 3, 16, 7), (51, .iload 4, 2, 0, 0), (53, .iconst 1, 1, 0, 0), (54, .bastore, 1, 0, 0), (55, .iconst 2, 1, 0, 0), (56, .istore 5, 2, 0, 0), (58, .iload 5, 2, 0, 0), (60, .bipush 6, 2, 0, 0), (62, .if_icmp .ge 52, 3, 0, 0), (65, .iload 5, 2, 0, 0), (67, .invokestatic 132, 3, 87, 0), (70, .iload 4, 2, 0, 0), (72, .if_icmp .ne 36, 3, 0, 0), (75, .aload_n 0, 1, 0, 0), (76, .getfield 7, 3, 16, 0), (79, .iload 4, 2, 0, 0), (81, .iaload, 1, 0, 0), (82, .iconst 3, 1, 0, 0), (83, .if_icmp .ne 25, 3, 0, 0), (86, .aload_n 0, 1, 0, 0), (87, .getfield 23, 3, 16, 4), (90, .iload 5, 2, 0, 0), (92, .aload_n 0, 1, 0, 0), (93, .getfield 7, 3, 16, 0), (96, .iload 5, 2, 0, 0), (98, .iaload, 1, 0, 0), (99, .ifCond .eq 7, 3, 0, 0), (102, .iconst 1, 1, 0, 0), (103, .goto 4, 3, 0, 0), (106, .iconst 0, 1, 0, 0), (107, .bastore, 1, 0, 0), (108, .iinc 5 1, 3, 0, 0), (111, .goto (-53), 3, 0, 0), (114, .aload_n 0, 1, 0, 0), (115, .getfield 154, 3, 16, 45), (118, .iconst 2, 1, 0, 0), (119, .if_icmp .eq 7, 3, 0, 0), (122, .iconst 1, 1, 0, 0), (123, .goto 4, 3, 0, 0), (126, .iconst 0, 1, 0, 0), (127, .ireturn, 1, 0, 0)]
def en_m96 : en_Me := (⟨"PluggedBusModel", "setup", "(III)Z"⟩, prog_9_method_12_code, (6, 2, 7, false, 3, 16), en_t96)
/-- PluggedBusModel.make (I)V -/
def en_t97 : List (Nat × en_I) := [(0, .aload_n 0, 1, 0, 0), (1, .getfield 50, 3, 16, 13), (4, .iload_n 1, 1, 0, 0), (5, .iaload, 1, 0, 0), (6, .iconst 1, 1, 0, 0), (7, .if_icmp .eq 22, 3, 0, 0), (10, .aload_n 0, 1, 0, 0), (11, .getfield 50, 3, 16, 13), (14, .iload_n 1, 1, 0, 0), (15, .iaload, 1, 0, 0), (16, .iconst 2, 1, 0, 0), (17, .if_icmp .ne 16, 3, 0, 0), (20, .aload_n 0, 1, 0, 0), (21, .getfield 56, 3, 16, 15), (24, .iload_n 1, 1, 0, 0), (25, .iaload, 1, 0, 0), (26, .ifCond .ne 7, 3, 0, 0), (29, .iconst 1, 1, 0, 0), (30, .goto 4, 3, 0, 0), (33, .iconst 0, 1, 0, 0), (34, .istore_n 2, 1, 0, 0), (35, .aload_n 0, 1, 0, 0), (36, .getfield 7, 3, 16, 0), (39, .iload_n 1, 1, 0, 0), (40, .iaload, 1, 0, 0), (41, .iconst 1, 1, 0, 0), (42, .if_icmp .ne 100, 3, 0, 0), (45, .iload_n 2, 1, 0, 0), (46, .ifCond .eq 96, 3, 0, 0), (49, .aload_n 0, 1, 0, 0), (50, .getfield 41, 3, 16, 10), (53, .iload_n 1, 1, 0, 0), (54, .iaload, 1, 0, 0), (55, .ifCond .le 14, 3, 0, 0), (58, .aload_n 0, 1, 0, 0), (59, .getfield 41, 3, 16, 10), (62, .iload_n 1, 1, 0, 0), (63, .dup2, 1, 0, 0), (64, .iaload, 1, 0, 0), (65, .iconst 1, 1, 0, 0), (66, .isub, 1, 0, 0), (67, .iastore, 1, 0, 0), (68, .return_, 1, 0, 0), (69, .aload_n 0, 1, 0, 0), (70, .getfield 44, 3, 16, 11), (73, .iload_n 1, 1, 0, 0), (74, .iconst 1, 1, 0, 0), (75, .bastore, 1, 0, 0), (76, .aload_n 0, 1, 0, 0), (77, .getfield 56, 3, 16, 15), (80, .iload_n 1, 1, 0, 0), (81, .iaload, 1, 0, 0), (82, .ifCond .ne 18, 3, 0, 0), (85, .aload_n 0, 1, 0, 0), (86, .getfield 47, 3, 16, 12), (89, .iload_n 1, 1, 0, 0), (90, .iconst 0, 1, 0, 0), (91, .iastore, 1, 0, 0), (92, .aload_n 0, 1, 0, 0), (93, .getfield 50, 3, 16, 13), (96, .iload_n 1, 1, 0, 0), (97, .iconst 0, 1, 0, 0), (98, .iastore, 1, 0, 0), (99, .return_, 1, 0, 0), (100, .aload_n 0, 1, 0, 0), (101, .getfield 47, 3, 16, 12), (104, .iload_n 1, 1, 0, 0), (105, .aload_n 0, 1, 0, 0), (106, .getfield 59, 3, 16, 16), (109, .bipush 8, 2, 0, 0), (111, .iload_n 1, 1, 0, 0), (112, .imul, 1, 0, 0), (113, .aload_n 0, 1, 0, 0), (114, .getfield 53, 3, 16, 14), (117, .iload_n 1, 1, 0, 0), (118, .iaload, 1, 0, 0), (119, .iadd, 1, 0, 0), (120, .iaload, 1, 0, 0), (121, .iastore, 1, 0, 0), (122, .aload_n 0, 1, 0, 0), (123, .getfield 53, 3, 16, 14), (126, .iload_n 1, 1, 0, 0), (127, .dup2, 1, 0, 0), (128, .iaload, 1, 0, 0), (129, .iconst 1, 1, 0, 0), (130, .iadd, 1, 0, 0), (131, .iastore, 1, 0, 0), (132, .aload_n 0, 1, 0, 0), (133, .getfield 56, 3, 16, 15), (136, .iload_n 1, 1, 0, 0), (137, .dup2, 1, 0, 0), (138, .iaload, 1, 0, 0), (139, .iconst 1, 1, 0, 0), (140, .isub, 1, 0, 0), (141, .iastore, 1, 0, 0), (142, .aload_n 0, 1, 0, 0), (143, .getfield 7, 3, 16, 0), (146, .iload_n 1, 1, 0, 0), (147, .iaload, 1, 0, 0), (148, .iconst 2, 1, 0, 0), (149, .if_icmp .ne 83, 3, 0, 0), (152, .aload_n 0, 1, 0, 0), (153, .getfield 62, 3, 16, 17), (156, .iload_n 1, 1, 0, 0), (157, .iaload, 1, 0, 0), (158, .ifCond .le 74, 3, 0, 0), (161, .aload_n 0, 1, 0, 0), (162, .getfield 44, 3, 16, 11), (165, .iload_n 1, 1, 0, 0), (166, .iconst 1, 1, 0, 0), (167, .bastore, 1, 0, 0), (168, .aload_n 0, 1, 0, 0), (169, .getfield 47, 3, 16, 12), (172, .iload_n 1, 1, 0, 0), (173, .aload_n 0, 1, 0, 0), (174, .getfield 65, 3, 16, 18), (177, .iconst 4, 1, 0, 0), (178, .iload_n 1, 1, 0, 0), (179, .imul, 1, 0, 0), (180, .iaload, 1, 0, 0), (181, .iastore, 1, 0, 0), (182, .aload_n 0, 1, 0, 0), (183, .getfield 62, 3, 16, 17), (186, .iload_n 1, 1, 0, 0), (187, .dup2, 1, 0, 0), (188, .iaload, 1, 0, 0), (189, .iconst 1, 1, 0, 0), (190, .isub, 1, 0, 0), (191, .iastore, 1, 0, 0), (192, .iconst 0, 1, 0, 0), (193, .istore_n 3, 1, 0, 0), (194, .iload_n 3, 1, 0, 0), (195, .aload_n 0, 1, 0, 0), (196, .getfield 62, 3, 16, 17), (199, .iload_n 1, 1, 0, 0), (200, .iaload, 1, 0, 0), (201, .if_icmp .ge 31, 3, 0, 0), (204, .aload_n 0, 1, 0, 0), (205, .getfield 65, 3, 16, 18), (208, .iconst 4, 1, 0, 0), (209, .iload_n 1, 1, 0, 0), (210, .imul, 1, 0, 0), (211, .iload_n 3, 1, 0, 0), (212, .iadd, 1, 0, 0), (213, .aload_n 0, 1, 0, 0), (214, .getfield 65, 3, 16, 18), (217, .iconst 4, 1, 0, 0), (218, .iload_n 1, 1, 0, 0), (219, .imul, 1, 0, 0), (220, .iload_n 3, 1, 0, 0), (221, .iadd, 1, 0, 0), (222, .iconst 1, 1, 0, 0), (223, .iadd, 1, 0, 0), (224, .iaload, 1, 0, 0), (225, .iastore, 1, 0, 0), (226, .iinc 3 1, 3, 0, 0), (229, .goto (-35), 3, 0, 0), (232, .aload_n 0, 1, 0, 0), (233, .getfield 7, 3, 16, 0), (236, .iload_n 1, 1, 0, 0), (237, .iaload, 1, 0, 0), (238, .iconst 3, 1, 0, 0), (239, .if_icmp .ne 13, 3, 0, 0), (242, .iload_n 1, 1, 0, 0), (243, .iconst 2, 1, 0, 0), (244, .if_icmp .ge 8, 3, 0, 0), (247, .aload_n 0, 1, 0, 0), (248, .iload_n 1, 1, 0, 0), (249, .invokevirtual 160, 3, 98, 0), (252, .return_, 1, 0, 0)]
def en_m97 : en_Me := (⟨"PluggedBusModel", "make", "(I)V"⟩, prog_9_method_13_code, (4, 0, 7, false, 1, 16), en_t97)
/-- PluggedBusModel.tells (I)V -/
def en_t98 : List (Nat × en_I) := [(0, .iconst 0, 1, 0, 0), (1, .istore_n 2, 1, 0, 0), (2, .iconst 2, 1, 0, 0), (3, .istore_n 3, 1, 0, 0), (4, .iload_n 3, 1, 0, 0), (5, .bipush 6, 2, 0, 0), (7, .if_icmp .ge 56, 3, 0, 0), (10, .iload_n 3, 1, 0, 0), (11, .invokestatic 132, 3, 87, 0), (14, .iload_n 1, 1, 0, 0), (15, .if_icmp .ne 42, 3, 0, 0), (18, .aload_n 0, 1, 0, 0), (19, .getfield 23, 3, 16, 4), (22, .iload_n 3, 1, 0, 0), (23, .baload, 1, 0, 0), (24, .ifCond .eq 33, 3, 0, 0), (27, .iload_n 2, 1, 0, 0), (28, .aload_n 0, 1, 0, 0), (29, .getfield 7, 3, 16, 0), (32, .iload_n 3, 1, 0, 0), (33, .iaload, 1, 0, 0), (34, .ifCond .eq 7, 3, 0, 0), (37, .iconst 3, 1, 0, 0), (38, .goto 4, 3, 0, 0), (41, .iconst 1, 1, 0, 0), (42, .iconst 2, 1, 0, 0), (43, .iload_n 3, 1, 0, 0), (44, .iconst 1, 1, 0, 0), (45, .iand, 1, 0, 0), (46, .imul, 1, 0, 0), (47, .ishl, 1, 0, 0), (48, .ior, 1, 0, 0), (49, .istore_n 2, 1, 0, 0), (50, .aload_n 0, 1, 0, 0), (51, .getfield 23, 3, 16, 4), (54, .iload_n 3, 1, 0, 0), (55, .iconst 0, 1, 0, 0), (56, .bastore, 1, 0, 0), (57, .iinc 3 1, 3, 0, 0), (60, .goto (-56), 3, 0, 0), (63, .iload_n 2, 1, 0, 0), (64, .ifCond .ne 4, 3, 0, 0), (67, .return_, 1, 0, 0), (68, .aload_n 0, 1, 0, 0), (69, .getfield 44, 3, 16, 11), (72, .iload_n 1, 1, 0, 0), (73, .iconst 1, 1, 0, 0), (74, .bastore, 1, 0, 0), (75, .aload_n 0, 1, 0, 0), (76, .getfield 47, 3, 16, 12), (79, .iload_n 1, 1, 0, 0), (80, .iload_n 2, 1, 0, 0), (81, .iastore, 1, 0, 0), (82, .return_, 1, 0, 0)]
def en_m98 : en_Me := (⟨"PluggedBusModel", "tells", "(I)V"⟩, prog_9_method_14_code, (4, 0, 7, false, 1, 16), en_t98)
/-- PluggedBusModel.in (I)I -/
def en_t99 : List (Nat × en_I) := [(0, .aload_n 0, 1, 0, 0), (1, .aload_n 0, 1, 0, 0), (2, .getfield 71, 3, 16, 20), (5, .iload_n 1, 1, 0, 0), (6, .iaload, 1, 0, 0), (7, .invokevirtual 157, 3, 95, 0), (10, .istore_n 2, 1, 0, 0), (11, .iload_n 2, 1, 0, 0), (12, .ifCond .ge 6, 3, 0, 0), (15, .bipush (-2), 2, 0, 0), (17, .ireturn, 1, 0, 0), (18, .aload_n 0, 1, 0, 0), (19, .getfield 44, 3, 16, 11), (22, .iload_n 2, 1, 0, 0), (23, .baload, 1, 0, 0), (24, .ifCond .ne 8, 3, 0, 0), (27, .aload_n 0, 1, 0, 0), (28, .iload_n 2, 1, 0, 0), (29, .invokevirtual 163, 3, 97, 0), (32, .aload_n 0, 1, 0, 0), (33, .getfield 154, 3, 16, 45), (36, .iconst 1, 1, 0, 0), (37, .if_icmp .ne 6, 3, 0, 0), (40, .bipush (-2), 2, 0, 0), (42, .ireturn, 1, 0, 0), (43, .aload_n 0, 1, 0, 0), (44, .getfield 44, 3, 16, 11), (47, .iload_n 2, 1, 0, 0), (48, .baload, 1, 0, 0), (49, .ifCond .ne 5, 3, 0, 0), (52, .iconst (-1), 1, 0, 0), (53, .ireturn, 1, 0, 0), (54, .aload_n 0, 1, 0, 0), (55, .aload_n 0, 1, 0, 0), (56, .getfield 47, 3, 16, 12), (59, .iload_n 2, 1, 0, 0), (60, .iaload, 1, 0, 0), (61, .putfield 166, 3, 16, 46), (64, .aload_n 0, 1, 0, 0), (65, .getfield 35, 3, 16, 8), (68, .iload_n 2, 1, 0, 0), (69, .iaload, 1, 0, 0), (70, .aload_n 0, 1, 0, 0), (71, .getfield 86, 3, 16, 25), (74, .iload_n 1, 1, 0, 0), (75, .iaload, 1, 0, 0), (76, .if_icmp .ne 7, 3, 0, 0), (79, .iconst 1, 1, 0, 0), (80, .goto 4, 3, 0, 0), (83, .iconst 0, 1, 0, 0), (84, .istore_n 3, 1, 0, 0), (85, .aload_n 0, 1, 0, 0), (86, .getfield 154, 3, 16, 45), (89, .iconst 2, 1, 0, 0), (90, .if_icmp .eq 24, 3, 0, 0), (93, .aload_n 0, 1, 0, 0), (94, .getfield 44, 3, 16, 11), (97, .iload_n 2, 1, 0, 0), (98, .iconst 0, 1, 0, 0), (99, .bastore, 1, 0, 0), (100, .aload_n 0, 1, 0, 0), (101, .getfield 35, 3, 16, 8), (104, .iload_n 2, 1, 0, 0), (105, .iconst 1, 1, 0, 0), (106, .aload_n 0, 1, 0, 0), (107, .getfield 35, 3, 16, 8), (110, .iload_n 2, 1, 0, 0), (111, .iaload, 1, 0, 0), (112, .isub, 1, 0, 0), (113, .iastore, 1, 0, 0), (114, .iload_n 3, 1, 0, 0), (115, .ifCond .eq 17, 3, 0, 0), (118, .aload_n 0, 1, 0, 0), (119, .getfield 86, 3, 16, 25), (122, .iload_n 1, 1, 0, 0), (123, .iconst 1, 1, 0, 0), (124, .aload_n 0, 1, 0, 0), (125, .getfield 86, 3, 16, 25), (128, .iload_n 1, 1, 0, 0), (129, .iaload, 1, 0, 0), (130, .isub, 1, 0, 0), (131, .iastore, 1, 0, 0), (132, .iload_n 3, 1, 0, 0), (133, .ifCond .eq 7, 3, 0, 0), (136, .iconst 1, 1, 0, 0), (137, .goto 4, 3, 0, 0), (140, .iconst 0, 1, 0, 0), (141, .ireturn, 1, 0, 0)]
def en_m99 : en_Me := (⟨"PluggedBusModel", "in", "(I)I"⟩, prog_9_method_15_code, (4, 1, 7, false, 1, 16), en_t99)
/-- PluggedBusModel.give (IIZI)I -/
def en_t100 : List (Nat × en_I) := [(0, .aload_n 0, 1, 0, 0), (1, .aload_n 0, 1, 0, 0), (2, .getfield 71, 3, 16, 20), (5, .iload_n 1, 1, 0, 0), (6, .iaload, 1, 0, 0), (7, .invokevirtual 157, 3, 95, 0), (10, .istore 5, 2, 0, 0), (12, .iload 5, 2, 0, 0), (14, .ifCond .lt 11, 3, 0, 0), (17, .aload_n 0, 1, 0, 0), (18, .getfield 154, 3, 16, 45), (21, .iconst 1, 1, 0, 0), (22, .if_icmp .ne 6, 3, 0, 0), (25, .bipush (-2), 2, 0, 0), (27, .ireturn, 1, 0, 0), (28, .iconst 1, 1, 0, 0), (29, .istore 6, 2, 0, 0), (31, .aload_n 0, 1, 0, 0), (32, .getfield 89, 3, 16, 26), (35, .iload_n 1, 1, 0, 0), (36, .iaload, 1, 0, 0), (37, .aload_n 0, 1, 0, 0), (38, .getfield 38, 3, 16, 9), (41, .iload 5, 2, 0, 0), (43, .iaload, 1, 0, 0), (44, .if_icmp .ne 204, 3, 0, 0), (47, .aload_n 0, 1, 0, 0), (48, .getfield 50, 3, 16, 13), (51, .iload 5, 2, 0, 0), (53, .iaload, 1, 0, 0), (54, .iconst 2, 1, 0, 0), (55, .if_icmp .ne 17, 3, 0, 0), (58, .aload_n 0, 1, 0, 0), (59, .getfield 56, 3, 16, 15), (62, .iload 5, 2, 0, 0), (64, .iaload, 1, 0, 0), (65, .ifCond .le 7, 3, 0, 0), (68, .iconst 1, 1, 0, 0), (69, .goto 4, 3, 0, 0), (72, .iconst 0, 1, 0, 0), (73, .istore 7, 2, 0, 0), (75, .iload 7, 2, 0, 0), (77, .ifCond .eq 30, 3, 0, 0), (80, .aload_n 0, 1, 0, 0), (81, .getfield 41, 3, 16, 10), (84, .iload 5, 2, 0, 0), (86, .iaload, 1, 0, 0), (87, .ifCond .le 20, 3, 0, 0), (90, .aload_n 0, 1, 0, 0), (91, .getfield 41, 3, 16, 10), (94, .iload 5, 2, 0, 0), (96, .dup2, 1, 0, 0), (97, .iaload, 1, 0, 0), (98, .iconst 1, 1, 0, 0), (99, .isub, 1, 0, 0), (100, .iastore, 1, 0, 0), (101, .iconst (-1), 1, 0, 0), (102, .istore 6, 2, 0, 0), (104, .goto 144, 3, 0, 0), (107, .aload_n 0, 1, 0, 0), (108, .getfield 38, 3, 16, 9), (111, .iload 5, 2, 0, 0), (113, .iconst 1, 1, 0, 0), (114, .aload_n 0, 1, 0, 0), (115, .getfield 38, 3, 16, 9), (118, .iload 5, 2, 0, 0), (120, .iaload, 1, 0, 0), (121, .isub, 1, 0, 0), (122, .iastore, 1, 0, 0), (123, .iload 7, 2, 0, 0), (125, .ifCond .eq 48, 3, 0, 0), (128, .aload_n 0, 1, 0, 0), (129, .getfield 59, 3, 16, 16), (132, .bipush 8, 2, 0, 0), (134, .iload 5, 2, 0, 0), (136, .imul, 1, 0, 0), (137, .aload_n 0, 1, 0, 0), (138, .getfield 53, 3, 16, 14), (141, .iload 5, 2, 0, 0), (143, .iaload, 1, 0, 0), (144, .iadd, 1, 0, 0), (145, .iload 4, 2, 0, 0), (147, .iastore, 1, 0, 0), (148, .aload_n 0, 1, 0, 0), (149, .getfield 53, 3, 16, 14), (152, .iload 5, 2, 0, 0), (154, .dup2, 1, 0, 0), (155, .iaload, 1, 0, 0), (156, .iconst 1, 1, 0, 0), (157, .iadd, 1, 0, 0), (158, .iastore, 1, 0, 0), (159, .aload_n 0, 1, 0, 0), (160, .getfield 56, 3, 16, 15), (163, .iload 5, 2, 0, 0), (165, .dup2, 1, 0, 0), (166, .iaload, 1, 0, 0), (167, .iconst 1, 1, 0, 0), (168, .isub, 1, 0, 0), (169, .iastore, 1, 0, 0), (170, .goto 78, 3, 0, 0), (173, .iload_n 3, 1, 0, 0), (174, .ifCond .eq 74, 3, 0, 0), (177, .aload_n 0, 1, 0, 0), (178, .getfield 50, 3, 16, 13), (181, .iload 5, 2, 0, 0), (183, .iaload, 1, 0, 0), (184, .ifCond .ne 64, 3, 0, 0), (187, .aload_n 0, 1, 0, 0), (188, .getfield 50, 3, 16, 13), (191, .iload 5, 2, 0, 0), (193, .aload_n 0, 1, 0, 0), (194, .getfield 102, 3, 16, 33), (197, .iload_n 2, 1, 0, 0), (198, .baload, 1, 0, 0), (199, .ifCond .eq 7, 3, 0, 0), (202, .iconst 2, 1, 0, 0), (203, .goto 4, 3, 0, 0), (206, .iconst 1, 1, 0, 0), (207, .iastore, 1, 0, 0), (208, .aload_n 0, 1, 0, 0), (209, .getfield 53, 3, 16, 14), (212, .iload 5, 2, 0, 0), (214, .aload_n 0, 1, 0, 0), (215, .getfield 105, 3, 16, 34), (218, .iload_n 2, 1, 0, 0), (219, .iaload, 1, 0, 0), (220, .iastore, 1, 0, 0), (221, .aload_n 0, 1, 0, 0), (222, .getfield 56, 3, 16, 15), (225, .iload 5, 2, 0, 0), (227, .aload_n 0, 1, 0, 0), (228, .getfield 108, 3, 16, 35), (231, .iload_n 2, 1, 0, 0), (232, .iaload, 1, 0, 0), (233, .iastore, 1, 0, 0), (234, .aload_n 0, 1, 0, 0), (235, .getfield 41, 3, 16, 10), (238, .iload 5, 2, 0, 0), (240, .aload_n 0, 1, 0, 0), (241, .getfield 16, 3, 16, 2), (244, .iload 5, 2, 0, 0), (246, .iaload, 1, 0, 0), (247, .iastore, 1, 0, 0), (248, .aload_n 0, 1, 0, 0), (249, .getfield 154, 3, 16, 45), (252, .iconst 2, 1, 0, 0), (253, .if_icmp .ne 6, 3, 0, 0), (256, .bipush (-2), 2, 0, 0), (258, .ireturn, 1, 0, 0), (259, .iload 6, 2, 0, 0), (261, .iconst 1, 1, 0, 0), (262, .if_icmp .ne 17, 3, 0, 0), (265, .aload_n 0, 1, 0, 0), (266, .getfield 89, 3, 16, 26), (269, .iload_n 1, 1, 0, 0), (270, .iconst 1, 1, 0, 0), (271, .aload_n 0, 1, 0, 0), (272, .getfield 89, 3, 16, 26), (275, .iload_n 1, 1, 0, 0), (276, .iaload, 1, 0, 0), (277, .isub, 1, 0, 0), (278, .iastore, 1, 0, 0), (279, .iload 6, 2, 0, 0), (281, .ireturn, 1, 0, 0)]
def en_m100 : en_Me := (⟨"PluggedBusModel", "give", "(IIZI)I"⟩, prog_9_method_16_code, (8, 1, 7, false, 4, 16), en_t100)
/-- PluggedBusModel.detach (I)V -/
def en_t101 : List (Nat × en_I) := [(0, .aload_n 0, 1, 0, 0), (1, .getfield 68, 3, 16, 19), (4, .iload_n 1, 1, 0, 0), (5, .iaload, 1, 0, 0), (6, .iconst 3, 1, 0, 0), (7, .if_icmp .ne 17, 3, 0, 0), (10, .aload_n 0, 1, 0, 0), (11, .getfield 74, 3, 16, 21), (14, .iload_n 1, 1, 0, 0), (15, .iaload, 1, 0, 0), (16, .iconst 3, 1, 0, 0), (17, .if_icmp .ne 7, 3, 0, 0), (20, .iconst 1, 1, 0, 0), (21, .goto 4, 3, 0, 0), (24, .iconst 0, 1, 0, 0), (25, .istore_n 2, 1, 0, 0), (26, .aload_n 0, 1, 0, 0), (27, .getfield 68, 3, 16, 19), (30, .iload_n 1, 1, 0, 0), (31, .iconst 0, 1, 0, 0), (32, .iastore, 1, 0, 0), (33, .aload_n 0, 1, 0, 0), (34, .getfield 19, 3, 16, 3), (37, .iload_n 1, 1, 0, 0), (38, .iconst 0, 1, 0, 0), (39, .bastore, 1, 0, 0), (40, .iconst 0, 1, 0, 0), (41, .istore_n 3, 1, 0, 0), (42, .iload_n 3, 1, 0, 0), (43, .aload_n 0, 1, 0, 0), (44, .getfield 169, 3, 16, 31), (47, .if_icmp .ge 35, 3, 0, 0), (50, .aload_n 0, 1, 0, 0), (51, .getfield 99, 3, 16, 32), (54, .iload_n 3, 1, 0, 0), (55, .iaload, 1, 0, 0), (56, .iload_n 1, 1, 0, 0), (57, .if_icmp .ne 19, 3, 0, 0), (60, .aload_n 0, 1, 0, 0), (61, .getfield 114, 3, 16, 37), (64, .iload_n 3, 1, 0, 0), (65, .iaload, 1, 0, 0), (66, .ifCond .ne 10, 3, 0, 0), (69, .aload_n 0, 1, 0, 0), (70, .getfield 114, 3, 16, 37), (73, .iload_n 3, 1, 0, 0), (74, .iconst 3, 1, 0, 0), (75, .iastore, 1, 0, 0), (76, .iinc 3 1, 3, 0, 0), (79, .goto (-37), 3, 0, 0), (82, .iconst 2, 1, 0, 0), (83, .istore_n 3, 1, 0, 0), (84, .iload_n 3, 1, 0, 0), (85, .bipush 6, 2, 0, 0), (87, .if_icmp .ge 26, 3, 0, 0), (90, .iload_n 2, 1, 0, 0), (91, .ifCond .eq 22, 3, 0, 0), (94, .iload_n 3, 1, 0, 0), (95, .invokestatic 132, 3, 87, 0), (98, .iload_n 1, 1, 0, 0), (99, .if_icmp .ne 8, 3, 0, 0), (102, .aload_n 0, 1, 0, 0), (103, .iload_n 3, 1, 0, 0), (104, .invokevirtual 172, 3, 102, 0), (107, .iinc 3 1, 3, 0, 0), (110, .goto (-26), 3, 0, 0), (113, .return_, 1, 0, 0)]
def en_m101 : en_Me := (⟨"PluggedBusModel", "detach", "(I)V"⟩, prog_9_method_17_code, (4, 0, 7, false, 1, 16), en_t101)
/-- PluggedBusModel.leaf (I)V -/
def en_t102 : List (Nat × en_I) := [(0, .aload_n 0, 1, 0, 0), (1, .getfield 68, 3, 16, 19), (4, .iload_n 1, 1, 0, 0), (5, .iconst 0, 1, 0, 0), (6, .iastore, 1, 0, 0), (7, .aload_n 0, 1, 0, 0), (8, .getfield 19, 3, 16, 3), (11, .iload_n 1, 1, 0, 0), (12, .iconst 0, 1, 0, 0), (13, .bastore, 1, 0, 0), (14, .iconst 0, 1, 0, 0), (15, .istore_n 2, 1, 0, 0), (16, .iload_n 2, 1, 0, 0), (17, .aload_n 0, 1, 0, 0), (18, .getfield 169, 3, 16, 31), (21, .if_icmp .ge 35, 3, 0, 0), (24, .aload_n 0, 1, 0, 0), (25, .getfield 99, 3, 16, 32), (28, .iload_n 2, 1, 0, 0), (29, .iaload, 1, 0, 0), (30, .iload_n 1, 1, 0, 0), (31, .if_icmp .ne 19, 3, 0, 0), (34, .aload_n 0, 1, 0, 0), (35, .getfield 114, 3, 16, 37), (38, .iload_n 2, 1, 0, 0), (39, .iaload, 1, 0, 0), (40, .ifCond .ne 10, 3, 0, 0), (43, .aload_n 0, 1, 0, 0), (44, .getfield 114, 3, 16, 37), (47, .iload_n 2, 1, 0, 0), (48, .iconst 3, 1, 0, 0), (49, .iastore, 1, 0, 0), (50, .iinc 2 1, 3, 0, 0), (53, .goto (-37), 3, 0, 0), (56, .return_, 1, 0, 0)]
def en_m102 : en_Me := (⟨"PluggedBusModel", "leaf", "(I)V"⟩, prog_9_method_18_code, (3, 0, 7, false, 1, 16), en_t102)
/-- PluggedBusModel.hears (IZ)V -/
def en_t103 : List (Nat × en_I) := [(0, .aload_n 0, 1, 0, 0), (1, .getfield 68, 3, 16, 19), (4, .iload_n 1, 1, 0, 0), (5, .iaload, 1, 0, 0), (6, .ifCond .eq 8, 3, 0, 0), (9, .aload_n 0, 1, 0, 0), (10, .iload_n 1, 1, 0, 0), (11, .invokevirtual 175, 3, 101, 0), (14, .iload_n 2, 1, 0, 0), (15, .ifCond .eq 10, 3, 0, 0), (18, .aload_n 0, 1, 0, 0), (19, .getfield 68, 3, 16, 19), (22, .iload_n 1, 1, 0, 0), (23, .iconst 1, 1, 0, 0), (24, .iastore, 1, 0, 0), (25, .return_, 1, 0, 0)]
def en_m103 : en_Me := (⟨"PluggedBusModel", "hears", "(IZ)V"⟩, prog_9_method_19_code, (3, 0, 7, false, 2, 16), en_t103)
/-- PluggedBusModel.fails (II)V -/
def en_t104 : List (Nat × en_I) := [(0, .aload_n 0, 1, 0, 0), (1, .getfield 68, 3, 16, 19), (4, .iload_n 1, 1, 0, 0), (5, .iload_n 2, 1, 0, 0), (6, .iastore, 1, 0, 0), (7, .aload_n 0, 1, 0, 0), (8, .getfield 19, 3, 16, 3), (11, .iload_n 1, 1, 0, 0), (12, .iconst 0, 1, 0, 0), (13, .bastore, 1, 0, 0), (14, .return_, 1, 0, 0)]
def en_m104 : en_Me := (⟨"PluggedBusModel", "fails", "(II)V"⟩, prog_9_method_20_code, (3, 0, 7, false, 2, 16), en_t104)
/-- PluggedBusModel.going ()I -/
def en_t105 : List (Nat × en_I) := [(0, .iconst 0, 1, 0, 0), (1, .istore_n 1, 1, 0, 0), (2, .iload_n 1, 1, 0, 0), (3, .bipush 6, 2, 0, 0), (5, .if_icmp .ge 21, 3, 0, 0), (8, .aload_n 0, 1, 0, 0), (9, .getfield 68, 3, 16, 19), (12, .iload_n 1, 1, 0, 0), (13, .iaload, 1, 0, 0), (14, .iconst 2, 1, 0, 0), (15, .if_icmp .ne 5, 3, 0, 0), (18, .iload_n 1, 1, 0, 0), (19, .ireturn, 1, 0, 0), (20, .iinc 1 1, 3, 0, 0), (23, .goto (-21), 3, 0, 0), (26, .iconst (-1), 1, 0, 0), (27, .ireturn, 1, 0, 0)]
def en_m105 : en_Me := (⟨"PluggedBusModel", "going", "()I"⟩, prog_9_method_21_code, (2, 1, 7, false, 0, 16), en_t105)
/-- PluggedBusModel.begin ()I -/
def en_t106 : List (Nat × en_I) := [(0, .iconst 0, 1, 0, 0), (1, .istore_n 1, 1, 0, 0), (2, .iload_n 1, 1, 0, 0), (3, .bipush 6, 2, 0, 0), (5, .if_icmp .ge 109, 3, 0, 0), (8, .aload_n 0, 1, 0, 0), (9, .getfield 68, 3, 16, 19), (12, .iload_n 1, 1, 0, 0), (13, .iaload, 1, 0, 0), (14, .iconst 1, 1, 0, 0), (15, .if_icmp .ne 93, 3, 0, 0), (18, .iconst 1, 1, 0, 0), (19, .istore_n 2, 1, 0, 0), (20, .iconst 0, 1, 0, 0), (21, .istore_n 3, 1, 0, 0), (22, .iload_n 3, 1, 0, 0), (23, .bipush 24, 2, 0, 0), (25, .if_icmp .ge 63, 3, 0, 0), (28, .aload_n 0, 1, 0, 0), (29, .getfield 68, 3, 16, 19), (32, .iload_n 3, 1, 0, 0), (33, .bipush 6, 2, 0, 0), (35, .irem, 1, 0, 0), (36, .iaload, 1, 0, 0), (37, .iconst 2, 1, 0, 0), (38, .if_icmp .eq 16, 3, 0, 0), (41, .aload_n 0, 1, 0, 0), (42, .getfield 68, 3, 16, 19), (45, .iload_n 3, 1, 0, 0), (46, .bipush 6, 2, 0, 0), (48, .irem, 1, 0, 0), (49, .iaload, 1, 0, 0), (50, .iconst 3, 1, 0, 0), (51, .if_icmp .ne 7, 3, 0, 0), (54, .iconst 1, 1, 0, 0), (55, .goto 4, 3, 0, 0), (58, .iconst 0, 1, 0, 0), (59, .istore 4, 2, 0, 0), (61, .iload 4, 2, 0, 0), (63, .ifCond .eq 19, 3, 0, 0), (66, .aload_n 0, 1, 0, 0), (67, .getfield 71, 3, 16, 20), (70, .iload_n 3, 1, 0, 0), (71, .bipush 6, 2, 0, 0), (73, .irem, 1, 0, 0), (74, .iaload, 1, 0, 0), (75, .iload_n 2, 1, 0, 0), (76, .if_icmp .ne 6, 3, 0, 0), (79, .iinc 2 1, 3, 0, 0), (82, .iinc 3 1, 3, 0, 0), (85, .goto (-63), 3, 0, 0), (88, .iload_n 2, 1, 0, 0), (89, .iconst 4, 1, 0, 0), (90, .if_icmp .gt 11, 3, 0, 0), (93, .aload_n 0, 1, 0, 0), (94, .iload_n 1, 1, 0, 0), (95, .iload_n 2, 1, 0, 0), (96, .invokevirtual 178, 3, 107, 0), (99, .iload_n 1, 1, 0, 0), (100, .ireturn, 1, 0, 0), (101, .aload_n 0, 1, 0, 0), (102, .iload_n 1, 1, 0, 0), (103, .bipush 6, 2, 0, 0), (105, .invokevirtual 182, 3, 104, 0), (108, .iinc 1 1, 3, 0, 0), (111, .goto (-109), 3, 0, 0), (114, .iconst (-1), 1, 0, 0), (115, .ireturn, 1, 0, 0)]
def en_m106 : en_Me := (⟨"PluggedBusModel", "begin", "()I"⟩, prog_9_method_22_code, (5, 1, 7, false, 0, 16), en_t106)
/-- PluggedBusModel.reset (II)V -/
def en_t107 : List (Nat × en_I) := [(0, .aload_n 0, 1, 0, 0), (1, .getfield 68, 3, 16, 19), (4, .iload_n 1, 1, 0, 0), (5, .iconst 2, 1, 0, 0), (6, .iastore, 1, 0, 0), (7, .aload_n 0, 1, 0, 0), (8, .getfield 71, 3, 16, 20), (11, .iload_n 1, 1, 0, 0), (12, .iload_n 2, 1, 0, 0), (13, .iastore, 1, 0, 0), (14, .aload_n 0, 1, 0, 0), (15, .iconst 0, 1, 0, 0), (16, .putfield 185, 3, 16, 28), (19, .aload_n 0, 1, 0, 0), (20, .getfield 92, 3, 16, 27), (23, .iload_n 1, 1, 0, 0), (24, .iconst 0, 1, 0, 0), (25, .iastore, 1, 0, 0), (26, .aload_n 0, 1, 0, 0), (27, .getfield 86, 3, 16, 25), (30, .iload_n 1, 1, 0, 0), (31, .iconst 0, 1, 0, 0), (32, .iastore, 1, 0, 0), (33, .aload_n 0, 1, 0, 0), (34, .getfield 89, 3, 16, 26), (37, .iload_n 1, 1, 0, 0), (38, .iconst 0, 1, 0, 0), (39, .iastore, 1, 0, 0), (40, .aload_n 0, 1, 0, 0), (41, .getfield 19, 3, 16, 3), (44, .iload_n 1, 1, 0, 0), (45, .iconst 1, 1, 0, 0), (46, .bastore, 1, 0, 0), (47, .aload_n 0, 1, 0, 0), (48, .getfield 26, 3, 16, 5), (51, .iload_n 1, 1, 0, 0), (52, .iconst 0, 1, 0, 0), (53, .iastore, 1, 0, 0), (54, .aload_n 0, 1, 0, 0), (55, .getfield 29, 3, 16, 6), (58, .iload_n 1, 1, 0, 0), (59, .iconst (-1), 1, 0, 0), (60, .iastore, 1, 0, 0), (61, .aload_n 0, 1, 0, 0), (62, .getfield 32, 3, 16, 7), (65, .iload_n 1, 1, 0, 0), (66, .iconst 0, 1, 0, 0), (67, .bastore, 1, 0, 0), (68, .aload_n 0, 1, 0, 0), (69, .getfield 35, 3, 16, 8), (72, .iload_n 1, 1, 0, 0), (73, .iconst 0, 1, 0, 0), (74, .iastore, 1, 0, 0), (75, .aload_n 0, 1, 0, 0), (76, .getfield 38, 3, 16, 9), (79, .iload_n 1, 1, 0, 0), (80, .iconst 0, 1, 0, 0), (81, .iastore, 1, 0, 0), (82, .aload_n 0, 1, 0, 0), (83, .getfield 41, 3, 16, 10), (86, .iload_n 1, 1, 0, 0), (87, .iconst 0, 1, 0, 0), (88, .iastore, 1, 0, 0), (89, .aload_n 0, 1, 0, 0), (90, .getfield 44, 3, 16, 11), (93, .iload_n 1, 1, 0, 0), (94, .iconst 0, 1, 0, 0), (95, .bastore, 1, 0, 0), (96, .aload_n 0, 1, 0, 0), (97, .getfield 50, 3, 16, 13), (100, .iload_n 1, 1, 0, 0), (101, .iconst 0, 1, 0, 0), (102, .iastore, 1, 0, 0), (103, .return_, 1, 0, 0)]
def en_m107 : en_Me := (⟨"PluggedBusModel", "reset", "(II)V"⟩, prog_9_method_23_code, (3, 0, 7, false, 2, 16), en_t107)
/-- PluggedBusModel.enumerate (I)V -/
def en_t108 : List (Nat × en_I) := [(0, .aload_n 0, 1, 0, 0), (1, .getfield 185, 3, 16, 28), (4, .iconst 2, 1, 0, 0), (5, .irem, 1, 0, 0), (6, .ifCond .ne 40, 3, 0, 0), (9, .aload_n 0, 1, 0, 0), (10, .aload_n 0, 1, 0, 0), (11, .getfield 185, 3, 16, 28), (14, .ifCond .ne 7, 3, 0, 0), (17, .iconst 0, 1, 0, 0), (18, .goto 9, 3, 0, 0), (21, .aload_n 0, 1, 0, 0), (22, .getfield 71, 3, 16, 20), (25, .iload_n 1, 1, 0, 0), (26, .iaload, 1, 0, 0), (27, .aload_n 0, 1, 0, 0), (28, .getfield 185, 3, 16, 28), (31, .iconst 2, 1, 0, 0), (32, .idiv, 1, 0, 0), (33, .aload_n 0, 1, 0, 0), (34, .getfield 71, 3, 16, 20), (37, .iload_n 1, 1, 0, 0), (38, .iaload, 1, 0, 0), (39, .invokevirtual 188, 3, 96, 0), (42, .istore_n 2, 1, 0, 0), (43, .goto 62, 3, 0, 0), (46, .aload_n 0, 1, 0, 0), (47, .aload_n 0, 1, 0, 0), (48, .getfield 185, 3, 16, 28), (51, .iconst 1, 1, 0, 0), (52, .if_icmp .ne 7, 3, 0, 0), (55, .iconst 0, 1, 0, 0), (56, .goto 9, 3, 0, 0), (59, .aload_n 0, 1, 0, 0), (60, .getfield 71, 3, 16, 20), (63, .iload_n 1, 1, 0, 0), (64, .iaload, 1, 0, 0), (65, .invokevirtual 157, 3, 95, 0), (68, .istore_n 3, 1, 0, 0), (69, .iload_n 3, 1, 0, 0), (70, .ifCond .lt 15, 3, 0, 0), (73, .aload_n 0, 1, 0, 0), (74, .getfield 154, 3, 16, 45), (77, .iconst 1, 1, 0, 0), (78, .if_icmp .eq 7, 3, 0, 0), (81, .iconst 1, 1, 0, 0), (82, .goto 4, 3, 0, 0), (85, .iconst 0, 1, 0, 0), (86, .istore_n 2, 1, 0, 0), (87, .iload_n 2, 1, 0, 0), (88, .ifCond .eq 17, 3, 0, 0), (91, .aload_n 0, 1, 0, 0), (92, .getfield 185, 3, 16, 28), (95, .iconst 3, 1, 0, 0), (96, .if_icmp .ne 9, 3, 0, 0), (99, .aload_n 0, 1, 0, 0), (100, .iload_n 1, 1, 0, 0), (101, .iload_n 3, 1, 0, 0), (102, .invokevirtual 191, 3, 109, 0), (105, .iload_n 2, 1, 0, 0), (106, .ifCond .ne 30, 3, 0, 0), (109, .aload_n 0, 1, 0, 0), (110, .getfield 92, 3, 16, 27), (113, .iload_n 1, 1, 0, 0), (114, .dup2, 1, 0, 0), (115, .iaload, 1, 0, 0), (116, .iconst 1, 1, 0, 0), (117, .iadd, 1, 0, 0), (118, .iastore, 1, 0, 0), (119, .aload_n 0, 1, 0, 0), (120, .getfield 92, 3, 16, 27), (123, .iload_n 1, 1, 0, 0), (124, .iaload, 1, 0, 0), (125, .iconst 3, 1, 0, 0), (126, .if_icmp .ne 9, 3, 0, 0), (129, .aload_n 0, 1, 0, 0), (130, .iload_n 1, 1, 0, 0), (131, .iconst 4, 1, 0, 0), (132, .invokevirtual 182, 3, 104, 0), (135, .return_, 1, 0, 0), (136, .aload_n 0, 1, 0, 0), (137, .getfield 92, 3, 16, 27), (140, .iload_n 1, 1, 0, 0), (141, .iconst 0, 1, 0, 0), (142, .iastore, 1, 0, 0), (143, .aload_n 0, 1, 0, 0), (144, .dup, 1, 0, 0), (145, .getfield 185, 3, 16, 28), (148, .iconst 1, 1, 0, 0), (149, .iadd, 1, 0, 0), (150, .putfield 185, 3, 16, 28), (153, .aload_n 0, 1, 0, 0), (154, .getfield 185, 3, 16, 28), (157, .bipush 6, 2, 0, 0), (159, .if_icmp .ne 10, 3, 0, 0), (162, .aload_n 0, 1, 0, 0), (163, .getfield 68, 3, 16, 19), (166, .iload_n 1, 1, 0, 0), (167, .iconst 3, 1, 0, 0), (168, .iastore, 1, 0, 0), (169, .return_, 1, 0, 0)]
def en_m108 : en_Me := (⟨"PluggedBusModel", "enumerate", "(I)V"⟩, prog_9_method_24_code, (4, 0, 7, false, 1, 16), en_t108)
/-- PluggedBusModel.described (II)V -/
def en_t109 : List (Nat × en_I) := [(0, .aload_n 0, 1, 0, 0), (1, .getfield 74, 3, 16, 21), (4, .iload_n 1, 1, 0, 0), (5, .aload_n 0, 1, 0, 0), (6, .getfield 7, 3, 16, 0), (9, .iload_n 2, 1, 0, 0), (10, .iaload, 1, 0, 0), (11, .iastore, 1, 0, 0), (12, .aload_n 0, 1, 0, 0), (13, .getfield 77, 3, 16, 22), (16, .iload_n 1, 1, 0, 0), (17, .aload_n 0, 1, 0, 0), (18, .getfield 7, 3, 16, 0), (21, .iload_n 2, 1, 0, 0), (22, .iaload, 1, 0, 0), (23, .iconst 1, 1, 0, 0), (24, .if_icmp .ne 12, 3, 0, 0), (27, .aload_n 0, 1, 0, 0), (28, .getfield 13, 3, 16, 1), (31, .iload_n 2, 1, 0, 0), (32, .iaload, 1, 0, 0), (33, .goto 4, 3, 0, 0), (36, .iconst 0, 1, 0, 0), (37, .iastore, 1, 0, 0), (38, .aload_n 0, 1, 0, 0), (39, .getfield 80, 3, 16, 23), (42, .iload_n 1, 1, 0, 0), (43, .aload_n 0, 1, 0, 0), (44, .getfield 7, 3, 16, 0), (47, .iload_n 2, 1, 0, 0), (48, .iaload, 1, 0, 0), (49, .iconst 2, 1, 0, 0), (50, .if_icmp .ne 12, 3, 0, 0), (53, .aload_n 0, 1, 0, 0), (54, .getfield 13, 3, 16, 1), (57, .iload_n 2, 1, 0, 0), (58, .iaload, 1, 0, 0), (59, .goto 4, 3, 0, 0), (62, .iconst 1, 1, 0, 0), (63, .iastore, 1, 0, 0), (64, .aload_n 0, 1, 0, 0), (65, .getfield 83, 3, 16, 24), (68, .iload_n 1, 1, 0, 0), (69, .aload_n 0, 1, 0, 0), (70, .getfield 7, 3, 16, 0), (73, .iload_n 2, 1, 0, 0), (74, .iaload, 1, 0, 0), (75, .iconst 2, 1, 0, 0), (76, .if_icmp .ne 12, 3, 0, 0), (79, .aload_n 0, 1, 0, 0), (80, .getfield 16, 3, 16, 2), (83, .iload_n 2, 1, 0, 0), (84, .iaload, 1, 0, 0), (85, .goto 18, 3, 0, 0), (88, .aload_n 0, 1, 0, 0), (89, .getfield 7, 3, 16, 0), (92, .iload_n 2, 1, 0, 0), (93, .iaload, 1, 0, 0), (94, .iconst 3, 1, 0, 0), (95, .if_icmp .ne 7, 3, 0, 0), (98, .iconst 4, 1, 0, 0), (99, .goto 4, 3, 0, 0), (102, .iconst 0, 1, 0, 0), (103, .iastore, 1, 0, 0), (104, .aload_n 0, 1, 0, 0), (105, .getfield 7, 3, 16, 0), (108, .iload_n 2, 1, 0, 0), (109, .iaload, 1, 0, 0), (110, .iconst 3, 1, 0, 0), (111, .if_icmp .ne 17, 3, 0, 0), (114, .iload_n 1, 1, 0, 0), (115, .iconst 1, 1, 0, 0), (116, .if_icmp .le 12, 3, 0, 0), (119, .aload_n 0, 1, 0, 0), (120, .iload_n 1, 1, 0, 0), (121, .iconst 5, 1, 0, 0), (122, .invokevirtual 182, 3, 104, 0), (125, .goto 35, 3, 0, 0), (128, .aload_n 0, 1, 0, 0), (129, .getfield 83, 3, 16, 24), (132, .iload_n 1, 1, 0, 0), (133, .iaload, 1, 0, 0), (134, .ifCond .le 26, 3, 0, 0), (137, .aload_n 0, 1, 0, 0), (138, .getfield 83, 3, 16, 24), (141, .iload_n 1, 1, 0, 0), (142, .iaload, 1, 0, 0), (143, .aload_n 0, 1, 0, 0), (144, .invokevirtual 194, 3, 110, 0), (147, .iadd, 1, 0, 0), (148, .bipush 90, 2, 0, 0), (150, .if_icmp .le 10, 3, 0, 0), (153, .aload_n 0, 1, 0, 0), (154, .iload_n 1, 1, 0, 0), (155, .bipush 7, 2, 0, 0), (157, .invokevirtual 182, 3, 104, 0), (160, .return_, 1, 0, 0)]
def en_m109 : en_Me := (⟨"PluggedBusModel", "described", "(II)V"⟩, prog_9_method_25_code, (3, 0, 7, false, 2, 16), en_t109)
/-- PluggedBusModel.load ()I -/
def en_t110 : List (Nat × en_I) := [(0, .iconst 0, 1, 0, 0), (1, .istore_n 1, 1, 0, 0), (2, .iconst 0, 1, 0, 0), (3, .istore_n 2, 1, 0, 0), (4, .iload_n 2, 1, 0, 0), (5, .bipush 6, 2, 0, 0), (7, .if_icmp .ge 32, 3, 0, 0), (10, .iload_n 1, 1, 0, 0), (11, .aload_n 0, 1, 0, 0), (12, .getfield 68, 3, 16, 19), (15, .iload_n 2, 1, 0, 0), (16, .iaload, 1, 0, 0), (17, .iconst 3, 1, 0, 0), (18, .if_icmp .ne 12, 3, 0, 0), (21, .aload_n 0, 1, 0, 0), (22, .getfield 83, 3, 16, 24), (25, .iload_n 2, 1, 0, 0), (26, .iaload, 1, 0, 0), (27, .goto 4, 3, 0, 0), (30, .iconst 0, 1, 0, 0), (31, .iadd, 1, 0, 0), (32, .istore_n 1, 1, 0, 0), (33, .iinc 2 1, 3, 0, 0), (36, .goto (-32), 3, 0, 0), (39, .iload_n 1, 1, 0, 0), (40, .ireturn, 1, 0, 0)]
def en_m110 : en_Me := (⟨"PluggedBusModel", "load", "()I"⟩, prog_9_method_26_code, (3, 1, 7, false, 0, 16), en_t110)
/-- PluggedBusModel.poll (I)V -/
def en_t111 : List (Nat × en_I) := [(0, .aload_n 0, 1, 0, 0), (1, .iload_n 1, 1, 0, 0), (2, .invokevirtual 198, 3, 99, 0), (5, .istore_n 2, 1, 0, 0), (6, .iload_n 2, 1, 0, 0), (7, .bipush (-2), 2, 0, 0), (9, .if_icmp .ne 35, 3, 0, 0), (12, .aload_n 0, 1, 0, 0), (13, .getfield 92, 3, 16, 27), (16, .iload_n 1, 1, 0, 0), (17, .dup2, 1, 0, 0), (18, .iaload, 1, 0, 0), (19, .iconst 1, 1, 0, 0), (20, .iadd, 1, 0, 0), (21, .iastore, 1, 0, 0), (22, .aload_n 0, 1, 0, 0), (23, .getfield 92, 3, 16, 27), (26, .iload_n 1, 1, 0, 0), (27, .iaload, 1, 0, 0), (28, .iconst 3, 1, 0, 0), (29, .if_icmp .ne 14, 3, 0, 0), (32, .aload_n 0, 1, 0, 0), (33, .iload_n 1, 1, 0, 0), (34, .invokevirtual 175, 3, 101, 0), (37, .aload_n 0, 1, 0, 0), (38, .iload_n 1, 1, 0, 0), (39, .iconst 4, 1, 0, 0), (40, .invokevirtual 182, 3, 104, 0), (43, .return_, 1, 0, 0), (44, .aload_n 0, 1, 0, 0), (45, .getfield 92, 3, 16, 27), (48, .iload_n 1, 1, 0, 0), (49, .iconst 0, 1, 0, 0), (50, .iastore, 1, 0, 0), (51, .iload_n 2, 1, 0, 0), (52, .iconst 1, 1, 0, 0), (53, .if_icmp .eq 4, 3, 0, 0), (56, .return_, 1, 0, 0), (57, .aload_n 0, 1, 0, 0), (58, .getfield 74, 3, 16, 21), (61, .iload_n 1, 1, 0, 0), (62, .iaload, 1, 0, 0), (63, .iconst 2, 1, 0, 0), (64, .if_icmp .ne 36, 3, 0, 0), (67, .aload_n 0, 1, 0, 0), (68, .getfield 126, 3, 16, 42), (71, .aload_n 0, 1, 0, 0), (72, .getfield 201, 3, 16, 41), (75, .bipush 7, 2, 0, 0), (77, .iand, 1, 0, 0), (78, .aload_n 0, 1, 0, 0), (79, .getfield 166, 3, 16, 46), (82, .sipush 256, 3, 0, 0), (85, .iload_n 1, 1, 0, 0), (86, .imul, 1, 0, 0), (87, .iadd, 1, 0, 0), (88, .iastore, 1, 0, 0), (89, .aload_n 0, 1, 0, 0), (90, .dup, 1, 0, 0), (91, .getfield 201, 3, 16, 41), (94, .iconst 1, 1, 0, 0), (95, .iadd, 1, 0, 0), (96, .putfield 201, 3, 16, 41), (99, .return_, 1, 0, 0), (100, .aload_n 0, 1, 0, 0), (101, .getfield 166, 3, 16, 46), (104, .istore_n 3, 1, 0, 0), (105, .iconst 2, 1, 0, 0), (106, .istore 4, 2, 0, 0), (108, .iload 4, 2, 0, 0), (110, .bipush 6, 2, 0, 0), (112, .if_icmp .ge 52, 3, 0, 0), (115, .iload_n 3, 1, 0, 0), (116, .iconst 2, 1, 0, 0), (117, .iload 4, 2, 0, 0), (119, .iconst 1, 1, 0, 0), (120, .iand, 1, 0, 0), (121, .imul, 1, 0, 0), (122, .ishr, 1, 0, 0), (123, .iconst 3, 1, 0, 0), (124, .iand, 1, 0, 0), (125, .istore 5, 2, 0, 0), (127, .iload 4, 2, 0, 0), (129, .invokestatic 132, 3, 87, 0), (132, .iload_n 1, 1, 0, 0), (133, .if_icmp .ne 25, 3, 0, 0), (136, .iload 5, 2, 0, 0), (138, .ifCond .eq 20, 3, 0, 0), (141, .aload_n 0, 1, 0, 0), (142, .iload 4, 2, 0, 0), (144, .iload 5, 2, 0, 0), (146, .iconst 3, 1, 0, 0), (147, .if_icmp .ne 7, 3, 0, 0), (150, .iconst 1, 1, 0, 0), (151, .goto 4, 3, 0, 0), (154, .iconst 0, 1, 0, 0), (155, .invokevirtual 204, 3, 103, 0), (158, .iinc 4 1, 3, 0, 0), (161, .goto (-53), 3, 0, 0), (164, .return_, 1, 0, 0)]
def en_m111 : en_Me := (⟨"PluggedBusModel", "poll", "(I)V"⟩, prog_9_method_27_code, (6, 0, 7, false, 1, 16), en_t111)
/-- PluggedBusModel.inHand (I)I -/
def en_t112 : List (Nat × en_I) := [(0, .iconst 0, 1, 0, 0), (1, .istore_n 2, 1, 0, 0), (2, .iload_n 2, 1, 0, 0), (3, .aload_n 0, 1, 0, 0), (4, .getfield 169, 3, 16, 31), (7, .if_icmp .ge 30, 3, 0, 0), (10, .aload_n 0, 1, 0, 0), (11, .getfield 99, 3, 16, 32), (14, .iload_n 2, 1, 0, 0), (15, .iaload, 1, 0, 0), (16, .iload_n 1, 1, 0, 0), (17, .if_icmp .ne 14, 3, 0, 0), (20, .aload_n 0, 1, 0, 0), (21, .getfield 114, 3, 16, 37), (24, .iload_n 2, 1, 0, 0), (25, .iaload, 1, 0, 0), (26, .ifCond .ne 5, 3, 0, 0), (29, .iload_n 2, 1, 0, 0), (30, .ireturn, 1, 0, 0), (31, .iinc 2 1, 3, 0, 0), (34, .goto (-32), 3, 0, 0), (37, .iconst (-1), 1, 0, 0), (38, .ireturn, 1, 0, 0)]
def en_m112 : en_Me := (⟨"PluggedBusModel", "inHand", "(I)I"⟩, prog_9_method_28_code, (3, 1, 7, false, 1, 16), en_t112)
/-- PluggedBusModel.takes (IIIZI)I -/
def en_t113 : List (Nat × en_I) := [(0, .iload_n 1, 1, 0, 0), (1, .invokestatic 136, 3, 86, 0), (4, .ifCond .eq 35, 3, 0, 0), (7, .iload_n 2, 1, 0, 0), (8, .iconst 0, 1, 0, 0), (9, .bipush 7, 2, 0, 0), (11, .invokestatic 140, 3, 88, 0), (14, .ifCond .ne 25, 3, 0, 0), (17, .iload_n 3, 1, 0, 0), (18, .iconst 1, 1, 0, 0), (19, .iconst 4, 1, 0, 0), (20, .invokestatic 140, 3, 88, 0), (23, .ifCond .ne 16, 3, 0, 0), (26, .aload_n 0, 1, 0, 0), (27, .getfield 169, 3, 16, 31), (30, .bipush 16, 2, 0, 0), (32, .if_icmp .ge 7, 3, 0, 0), (35, .iconst 1, 1, 0, 0), (36, .goto 4, 3, 0, 0), (39, .iconst 0, 1, 0, 0), (40, .istore 6, 2, 0, 0), (42, .iload 6, 2, 0, 0), (44, .ifCond .eq 23, 3, 0, 0), (47, .aload_n 0, 1, 0, 0), (48, .getfield 68, 3, 16, 19), (51, .iload_n 1, 1, 0, 0), (52, .iaload, 1, 0, 0), (53, .iconst 3, 1, 0, 0), (54, .if_icmp .ne 13, 3, 0, 0), (57, .aload_n 0, 1, 0, 0), (58, .getfield 74, 3, 16, 21), (61, .iload_n 1, 1, 0, 0), (62, .iaload, 1, 0, 0), (63, .iconst 1, 1, 0, 0), (64, .if_icmp .eq 5, 3, 0, 0), (67, .iconst (-1), 1, 0, 0), (68, .ireturn, 1, 0, 0), (69, .aload_n 0, 1, 0, 0), (70, .getfield 99, 3, 16, 32), (73, .aload_n 0, 1, 0, 0), (74, .getfield 169, 3, 16, 31), (77, .iload_n 1, 1, 0, 0), (78, .iastore, 1, 0, 0), (79, .aload_n 0, 1, 0, 0), (80, .getfield 102, 3, 16, 33), (83, .aload_n 0, 1, 0, 0), (84, .getfield 169, 3, 16, 31), (87, .iload 4, 2, 0, 0), (89, .bastore, 1, 0, 0), (90, .aload_n 0, 1, 0, 0), (91, .getfield 105, 3, 16, 34), (94, .aload_n 0, 1, 0, 0), (95, .getfield 169, 3, 16, 31), (98, .iload_n 2, 1, 0, 0), (99, .iastore, 1, 0, 0), (100, .aload_n 0, 1, 0, 0), (101, .getfield 108, 3, 16, 35), (104, .aload_n 0, 1, 0, 0), (105, .getfield 169, 3, 16, 31), (108, .iload_n 3, 1, 0, 0), (109, .iastore, 1, 0, 0), (110, .aload_n 0, 1, 0, 0), (111, .getfield 111, 3, 16, 36), (114, .aload_n 0, 1, 0, 0), (115, .getfield 169, 3, 16, 31), (118, .iload 5, 2, 0, 0), (120, .iastore, 1, 0, 0), (121, .aload_n 0, 1, 0, 0), (122, .getfield 114, 3, 16, 37), (125, .aload_n 0, 1, 0, 0), (126, .getfield 169, 3, 16, 31), (129, .iload_n 2, 1, 0, 0), (130, .iload_n 3, 1, 0, 0), (131, .iadd, 1, 0, 0), (132, .aload_n 0, 1, 0, 0), (133, .getfield 77, 3, 16, 22), (136, .iload_n 1, 1, 0, 0), (137, .iaload, 1, 0, 0), (138, .if_icmp .le 7, 3, 0, 0), (141, .iconst 4, 1, 0, 0), (142, .goto 4, 3, 0, 0), (145, .iconst 0, 1, 0, 0), (146, .iastore, 1, 0, 0), (147, .aload_n 0, 1, 0, 0), (148, .dup, 1, 0, 0), (149, .getfield 169, 3, 16, 31), (152, .iconst 1, 1, 0, 0), (153, .iadd, 1, 0, 0), (154, .putfield 169, 3, 16, 31), (157, .aload_n 0, 1, 0, 0), (158, .getfield 169, 3, 16, 31), (161, .iconst 1, 1, 0, 0), (162, .isub, 1, 0, 0), (163, .ireturn, 1, 0, 0)]
def en_m113 : en_Me := (⟨"PluggedBusModel", "takes", "(IIIZI)I"⟩, prog_9_method_29_code, (7, 1, 7, false, 5, 16), en_t113)
/-- PluggedBusModel.read (III)I -/
def en_t114 : List (Nat × en_I) := [(0, .aload_n 0, 1, 0, 0), (1, .iload_n 1, 1, 0, 0), (2, .iload_n 2, 1, 0, 0), (3, .iload_n 3, 1, 0, 0), (4, .iconst 0, 1, 0, 0), (5, .iconst 0, 1, 0, 0), (6, .invokevirtual 208, 3, 113, 0), (9, .ireturn, 1, 0, 0)]
def en_m114 : en_Me := (⟨"PluggedBusModel", "read", "(III)I"⟩, prog_9_method_30_code, (4, 1, 7, false, 3, 16), en_t114)
/-- PluggedBusModel.write (IIII)I -/
def en_t115 : List (Nat × en_I) := [(0, .aload_n 0, 1, 0, 0), (1, .iload_n 1, 1, 0, 0), (2, .iload_n 2, 1, 0, 0), (3, .iload_n 3, 1, 0, 0), (4, .iconst 1, 1, 0, 0), (5, .iload 4, 2, 0, 0), (7, .invokevirtual 208, 3, 113, 0), (10, .ireturn, 1, 0, 0)]
def en_m115 : en_Me := (⟨"PluggedBusModel", "write", "(IIII)I"⟩, prog_9_method_31_code, (5, 1, 7, false, 4, 16), en_t115)
/-- PluggedBusModel.serve (I)V -/
def en_t116 : List (Nat × en_I) := [(0, .aload_n 0, 1, 0, 0), (1, .iload_n 1, 1, 0, 0), (2, .invokevirtual 212, 3, 112, 0), (5, .istore_n 2, 1, 0, 0), (6, .aload_n 0, 1, 0, 0), (7, .getfield 117, 3, 16, 38), (10, .iload_n 2, 1, 0, 0), (11, .iaload, 1, 0, 0), (12, .istore_n 3, 1, 0, 0), (13, .iload_n 3, 1, 0, 0), (14, .ifCond .le 17, 3, 0, 0), (17, .iload_n 3, 1, 0, 0), (18, .aload_n 0, 1, 0, 0), (19, .getfield 108, 3, 16, 35), (22, .iload_n 2, 1, 0, 0), (23, .iaload, 1, 0, 0), (24, .if_icmp .gt 7, 3, 0, 0), (27, .iconst 1, 1, 0, 0), (28, .goto 4, 3, 0, 0), (31, .iconst 0, 1, 0, 0), (32, .istore 4, 2, 0, 0), (34, .iload_n 3, 1, 0, 0), (35, .ifCond .eq 17, 3, 0, 0), (38, .iload 4, 2, 0, 0), (40, .ifCond .eq 16, 3, 0, 0), (43, .aload_n 0, 1, 0, 0), (44, .getfield 102, 3, 16, 33), (47, .iload_n 2, 1, 0, 0), (48, .baload, 1, 0, 0), (49, .ifCond .eq 7, 3, 0, 0), (52, .iconst 1, 1, 0, 0), (53, .goto 4, 3, 0, 0), (56, .iconst 0, 1, 0, 0), (57, .istore 5, 2, 0, 0), (59, .iload 5, 2, 0, 0), (61, .ifCond .eq 31, 3, 0, 0), (64, .aload_n 0, 1, 0, 0), (65, .iload_n 1, 1, 0, 0), (66, .iload_n 2, 1, 0, 0), (67, .iload_n 3, 1, 0, 0), (68, .ifCond .ne 7, 3, 0, 0), (71, .iconst 1, 1, 0, 0), (72, .goto 4, 3, 0, 0), (75, .iconst 0, 1, 0, 0), (76, .aload_n 0, 1, 0, 0), (77, .getfield 111, 3, 16, 36), (80, .iload_n 2, 1, 0, 0), (81, .iaload, 1, 0, 0), (82, .iload_n 3, 1, 0, 0), (83, .iadd, 1, 0, 0), (84, .iconst 1, 1, 0, 0), (85, .isub, 1, 0, 0), (86, .invokevirtual 215, 3, 100, 0), (89, .goto 8, 3, 0, 0), (92, .aload_n 0, 1, 0, 0), (93, .iload_n 1, 1, 0, 0), (94, .invokevirtual 198, 3, 99, 0), (97, .istore 6, 2, 0, 0), (99, .iload 6, 2, 0, 0), (101, .bipush (-2), 2, 0, 0), (103, .if_icmp .ne 43, 3, 0, 0), (106, .aload_n 0, 1, 0, 0), (107, .getfield 92, 3, 16, 27), (110, .iload_n 1, 1, 0, 0), (111, .dup2, 1, 0, 0), (112, .iaload, 1, 0, 0), (113, .iconst 1, 1, 0, 0), (114, .iadd, 1, 0, 0), (115, .iastore, 1, 0, 0), (116, .aload_n 0, 1, 0, 0), (117, .getfield 92, 3, 16, 27), (120, .iload_n 1, 1, 0, 0), (121, .iaload, 1, 0, 0), (122, .iconst 3, 1, 0, 0), (123, .if_icmp .ge 4, 3, 0, 0), (126, .return_, 1, 0, 0), (127, .aload_n 0, 1, 0, 0), (128, .getfield 114, 3, 16, 37), (131, .iload_n 2, 1, 0, 0), (132, .iconst 2, 1, 0, 0), (133, .iastore, 1, 0, 0), (134, .aload_n 0, 1, 0, 0), (135, .iload_n 1, 1, 0, 0), (136, .invokevirtual 175, 3, 101, 0), (139, .aload_n 0, 1, 0, 0), (140, .iload_n 1, 1, 0, 0), (141, .iconst 4, 1, 0, 0), (142, .invokevirtual 182, 3, 104, 0), (145, .return_, 1, 0, 0), (146, .aload_n 0, 1, 0, 0), (147, .getfield 92, 3, 16, 27), (150, .iload_n 1, 1, 0, 0), (151, .iconst 0, 1, 0, 0), (152, .iastore, 1, 0, 0), (153, .iload 6, 2, 0, 0), (155, .iconst 1, 1, 0, 0), (156, .if_icmp .eq 4, 3, 0, 0), (159, .return_, 1, 0, 0), (160, .iload 4, 2, 0, 0), (162, .ifCond .eq 41, 3, 0, 0), (165, .aload_n 0, 1, 0, 0), (166, .getfield 102, 3, 16, 33), (169, .iload_n 2, 1, 0, 0), (170, .baload, 1, 0, 0), (171, .ifCond .ne 32, 3, 0, 0), (174, .aload_n 0, 1, 0, 0), (175, .getfield 123, 3, 16, 40), (178, .iconst 4, 1, 0, 0), (179, .iload_n 2, 1, 0, 0), (180, .imul, 1, 0, 0), (181, .aload_n 0, 1, 0, 0), (182, .getfield 120, 3, 16, 39), (185, .iload_n 2, 1, 0, 0), (186, .iaload, 1, 0, 0), (187, .iadd, 1, 0, 0), (188, .aload_n 0, 1, 0, 0), (189, .getfield 166, 3, 16, 46), (192, .iastore, 1, 0, 0), (193, .aload_n 0, 1, 0, 0), (194, .getfield 120, 3, 16, 39), (197, .iload_n 2, 1, 0, 0), (198, .dup2, 1, 0, 0), (199, .iaload, 1, 0, 0), (200, .iconst 1, 1, 0, 0), (201, .iadd, 1, 0, 0), (202, .iastore, 1, 0, 0), (203, .aload_n 0, 1, 0, 0), (204, .getfield 117, 3, 16, 38), (207, .iload_n 2, 1, 0, 0), (208, .dup2, 1, 0, 0), (209, .iaload, 1, 0, 0), (210, .iconst 1, 1, 0, 0), (211, .iadd, 1, 0, 0), (212, .iastore, 1, 0, 0), (213, .iload_n 3, 1, 0, 0), (214, .aload_n 0, 1, 0, 0), (215, .getfield 108, 3, 16, 35), (218, .iload_n 2, 1, 0, 0), (219, .iaload, 1, 0, 0), (220, .if_icmp .le 10, 3, 0, 0), (223, .aload_n 0, 1, 0, 0), (224, .getfield 114, 3, 16, 37), (227, .iload_n 2, 1, 0, 0), (228, .iconst 1, 1, 0, 0), (229, .iastore, 1, 0, 0), (230, .return_, 1, 0, 0)]
def en_m116 : en_Me := (⟨"PluggedBusModel", "serve", "(I)V"⟩, prog_9_method_32_code, (7, 0, 7, false, 1, 16), en_t116)
/-- PluggedBusModel.turn ()I -/
def en_t117 : List (Nat × en_I) := [(0, .iconst 1, 1, 0, 0), (1, .istore_n 1, 1, 0, 0), (2, .iload_n 1, 1, 0, 0), (3, .bipush 6, 2, 0, 0), (5, .if_icmp .gt 49, 3, 0, 0), (8, .aload_n 0, 1, 0, 0), (9, .getfield 95, 3, 16, 29), (12, .iload_n 1, 1, 0, 0), (13, .iadd, 1, 0, 0), (14, .bipush 6, 2, 0, 0), (16, .irem, 1, 0, 0), (17, .istore_n 2, 1, 0, 0), (18, .aload_n 0, 1, 0, 0), (19, .getfield 68, 3, 16, 19), (22, .iload_n 2, 1, 0, 0), (23, .iaload, 1, 0, 0), (24, .iconst 3, 1, 0, 0), (25, .if_icmp .ne 23, 3, 0, 0), (28, .aload_n 0, 1, 0, 0), (29, .getfield 74, 3, 16, 21), (32, .iload_n 2, 1, 0, 0), (33, .iaload, 1, 0, 0), (34, .iconst 1, 1, 0, 0), (35, .if_icmp .ne 13, 3, 0, 0), (38, .aload_n 0, 1, 0, 0), (39, .iload_n 2, 1, 0, 0), (40, .invokevirtual 212, 3, 112, 0), (43, .ifCond .lt 5, 3, 0, 0), (46, .iload_n 2, 1, 0, 0), (47, .ireturn, 1, 0, 0), (48, .iinc 1 1, 3, 0, 0), (51, .goto (-49), 3, 0, 0), (54, .iconst (-1), 1, 0, 0), (55, .ireturn, 1, 0, 0)]
def en_m117 : en_Me := (⟨"PluggedBusModel", "turn", "()I"⟩, prog_9_method_33_code, (3, 1, 7, false, 0, 16), en_t117)
/-- PluggedBusModel.one ()V -/
def en_t118 : List (Nat × en_I) := [(0, .bipush 100, 2, 0, 0), (2, .istore_n 1, 1, 0, 0), (3, .iconst 0, 1, 0, 0), (4, .istore_n 2, 1, 0, 0), (5, .iload_n 2, 1, 0, 0), (6, .iconst 2, 1, 0, 0), (7, .if_icmp .ge 44, 3, 0, 0), (10, .aload_n 0, 1, 0, 0), (11, .getfield 23, 3, 16, 4), (14, .iload_n 2, 1, 0, 0), (15, .baload, 1, 0, 0), (16, .ifCond .eq 29, 3, 0, 0), (19, .aload_n 0, 1, 0, 0), (20, .getfield 23, 3, 16, 4), (23, .iload_n 2, 1, 0, 0), (24, .iconst 0, 1, 0, 0), (25, .bastore, 1, 0, 0), (26, .aload_n 0, 1, 0, 0), (27, .iload_n 2, 1, 0, 0), (28, .aload_n 0, 1, 0, 0), (29, .getfield 7, 3, 16, 0), (32, .iload_n 2, 1, 0, 0), (33, .iaload, 1, 0, 0), (34, .ifCond .eq 7, 3, 0, 0), (37, .iconst 1, 1, 0, 0), (38, .goto 4, 3, 0, 0), (41, .iconst 0, 1, 0, 0), (42, .invokevirtual 204, 3, 103, 0), (45, .iinc 2 1, 3, 0, 0), (48, .goto (-43), 3, 0, 0), (51, .iconst 0, 1, 0, 0), (52, .istore_n 2, 1, 0, 0), (53, .iload_n 2, 1, 0, 0), (54, .bipush 6, 2, 0, 0), (56, .if_icmp .ge 77, 3, 0, 0), (59, .aload_n 0, 1, 0, 0), (60, .getfield 68, 3, 16, 19), (63, .iload_n 2, 1, 0, 0), (64, .iaload, 1, 0, 0), (65, .iconst 3, 1, 0, 0), (66, .if_icmp .ne 41, 3, 0, 0), (69, .aload_n 0, 1, 0, 0), (70, .getfield 74, 3, 16, 21), (73, .iload_n 2, 1, 0, 0), (74, .iaload, 1, 0, 0), (75, .iconst 3, 1, 0, 0), (76, .if_icmp .eq 27, 3, 0, 0), (79, .aload_n 0, 1, 0, 0), (80, .getfield 74, 3, 16, 21), (83, .iload_n 2, 1, 0, 0), (84, .iaload, 1, 0, 0), (85, .iconst 2, 1, 0, 0), (86, .if_icmp .ne 21, 3, 0, 0), (89, .aload_n 0, 1, 0, 0), (90, .getfield 219, 3, 16, 30), (93, .aload_n 0, 1, 0, 0), (94, .getfield 80, 3, 16, 23), (97, .iload_n 2, 1, 0, 0), (98, .iaload, 1, 0, 0), (99, .irem, 1, 0, 0), (100, .ifCond .ne 7, 3, 0, 0), (103, .iconst 1, 1, 0, 0), (104, .goto 4, 3, 0, 0), (107, .iconst 0, 1, 0, 0), (108, .istore_n 3, 1, 0, 0), (109, .iload_n 3, 1, 0, 0), (110, .ifCond .eq 17, 3, 0, 0), (113, .iload_n 1, 1, 0, 0), (114, .aload_n 0, 1, 0, 0), (115, .getfield 83, 3, 16, 24), (118, .iload_n 2, 1, 0, 0), (119, .iaload, 1, 0, 0), (120, .isub, 1, 0, 0), (121, .istore_n 1, 1, 0, 0), (122, .aload_n 0, 1, 0, 0), (123, .iload_n 2, 1, 0, 0), (124, .invokevirtual 222, 3, 111, 0), (127, .iinc 2 1, 3, 0, 0), (130, .goto (-77), 3, 0, 0), (133, .iconst 1, 1, 0, 0), (134, .istore_n 2, 1, 0, 0), (135, .iload_n 1, 1, 0, 0), (136, .bipush 10, 2, 0, 0), (138, .if_icmp .lt 50, 3, 0, 0), (141, .iload_n 2, 1, 0, 0), (142, .ifCond .eq 46, 3, 0, 0), (145, .aload_n 0, 1, 0, 0), (146, .invokevirtual 225, 3, 105, 0), (149, .istore_n 3, 1, 0, 0), (150, .iload_n 3, 1, 0, 0), (151, .ifCond .ge 10, 3, 0, 0), (154, .aload_n 0, 1, 0, 0), (155, .invokevirtual 228, 3, 106, 0), (158, .goto 4, 3, 0, 0), (161, .iload_n 3, 1, 0, 0), (162, .istore_n 3, 1, 0, 0), (163, .iload_n 3, 1, 0, 0), (164, .ifCond .lt 7, 3, 0, 0), (167, .iconst 1, 1, 0, 0), (168, .goto 4, 3, 0, 0), (171, .iconst 0, 1, 0, 0), (172, .istore_n 2, 1, 0, 0), (173, .iload_n 2, 1, 0, 0), (174, .ifCond .eq 11, 3, 0, 0), (177, .iinc 1 (-10), 3, 0, 0), (180, .aload_n 0, 1, 0, 0), (181, .iload_n 3, 1, 0, 0), (182, .invokevirtual 231, 3, 108, 0), (185, .goto (-50), 3, 0, 0), (188, .aload_n 0, 1, 0, 0), (189, .invokevirtual 234, 3, 117, 0), (192, .istore_n 3, 1, 0, 0), (193, .iload_n 1, 1, 0, 0), (194, .bipush 8, 2, 0, 0), (196, .if_icmp .lt 28, 3, 0, 0), (199, .iload_n 3, 1, 0, 0), (200, .ifCond .lt 24, 3, 0, 0), (203, .iinc 1 (-8), 3, 0, 0), (206, .aload_n 0, 1, 0, 0), (207, .iload_n 3, 1, 0, 0), (208, .putfield 95, 3, 16, 29), (211, .aload_n 0, 1, 0, 0), (212, .iload_n 3, 1, 0, 0), (213, .invokevirtual 237, 3, 116, 0), (216, .aload_n 0, 1, 0, 0), (217, .invokevirtual 234, 3, 117, 0), (220, .istore_n 3, 1, 0, 0), (221, .goto (-28), 3, 0, 0), (224, .aload_n 0, 1, 0, 0), (225, .dup, 1, 0, 0), (226, .getfield 219, 3, 16, 30), (229, .iconst 1, 1, 0, 0), (230, .iadd, 1, 0, 0), (231, .putfield 219, 3, 16, 30), (234, .return_, 1, 0, 0)]
def en_m118 : en_Me := (⟨"PluggedBusModel", "one", "()V"⟩, prog_9_method_34_code, (4, 0, 7, false, 0, 16), en_t118)
/-- PluggedBusModel.run (I)I -/
def en_t119 : List (Nat × en_I) := [(0, .iload_n 1, 1, 0, 0), (1, .iconst 1, 1, 0, 0), (2, .bipush 40, 2, 0, 0), (4, .invokestatic 140, 3, 88, 0), (7, .ifCond .eq 5, 3, 0, 0), (10, .iconst (-1), 1, 0, 0), (11, .ireturn, 1, 0, 0), (12, .aload_n 0, 1, 0, 0), (13, .getfield 151, 3, 16, 44), (16, .istore_n 2, 1, 0, 0), (17, .iconst 0, 1, 0, 0), (18, .istore_n 3, 1, 0, 0), (19, .iload_n 3, 1, 0, 0), (20, .iload_n 1, 1, 0, 0), (21, .if_icmp .ge 13, 3, 0, 0), (24, .aload_n 0, 1, 0, 0), (25, .invokevirtual 240, 3, 118, 0), (28, .iinc 3 1, 3, 0, 0), (31, .goto (-12), 3, 0, 0), (34, .aload_n 0, 1, 0, 0), (35, .getfield 151, 3, 16, 44), (38, .iload_n 2, 1, 0, 0), (39, .isub, 1, 0, 0), (40, .ireturn, 1, 0, 0)]
def en_m119 : en_Me := (⟨"PluggedBusModel", "run", "(I)I"⟩, prog_9_method_35_code, (4, 1, 7, false, 1, 16), en_t119)
/-- PluggedBusModel.view (I)I -/
def en_t120 : List (Nat × en_I) := [(0, .iload_n 1, 1, 0, 0), (1, .invokestatic 136, 3, 86, 0), (4, .ifCond .eq 12, 3, 0, 0), (7, .aload_n 0, 1, 0, 0), (8, .getfield 68, 3, 16, 19), (11, .iload_n 1, 1, 0, 0), (12, .iaload, 1, 0, 0), (13, .goto 4, 3, 0, 0), (16, .iconst (-1), 1, 0, 0), (17, .ireturn, 1, 0, 0)]
def en_m120 : en_Me := (⟨"PluggedBusModel", "view", "(I)I"⟩, prog_9_method_36_code, (2, 1, 7, false, 1, 16), en_t120)
/-- PluggedBusModel.address (I)I -/
def en_t121 : List (Nat × en_I) := [(0, .iload_n 1, 1, 0, 0), (1, .invokestatic 136, 3, 86, 0), (4, .ifCond .ne 5, 3, 0, 0), (7, .iconst (-1), 1, 0, 0), (8, .ireturn, 1, 0, 0), (9, .aload_n 0, 1, 0, 0), (10, .getfield 68, 3, 16, 19), (13, .iload_n 1, 1, 0, 0), (14, .iaload, 1, 0, 0), (15, .iconst 2, 1, 0, 0), (16, .if_icmp .eq 13, 3, 0, 0), (19, .aload_n 0, 1, 0, 0), (20, .getfield 68, 3, 16, 19), (23, .iload_n 1, 1, 0, 0), (24, .iaload, 1, 0, 0), (25, .iconst 3, 1, 0, 0), (26, .if_icmp .ne 12, 3, 0, 0), (29, .aload_n 0, 1, 0, 0), (30, .getfield 71, 3, 16, 20), (33, .iload_n 1, 1, 0, 0), (34, .iaload, 1, 0, 0), (35, .goto 4, 3, 0, 0), (38, .iconst 0, 1, 0, 0), (39, .ireturn, 1, 0, 0)]
def en_m121 : en_Me := (⟨"PluggedBusModel", "address", "(I)I"⟩, prog_9_method_37_code, (2, 1, 7, false, 1, 16), en_t121)
/-- PluggedBusModel.order (I)I -/
def en_t122 : List (Nat × en_I) := [(0, .iload_n 1, 1, 0, 0), (1, .ifCond .lt 11, 3, 0, 0), (4, .iload_n 1, 1, 0, 0), (5, .aload_n 0, 1, 0, 0), (6, .getfield 169, 3, 16, 31), (9, .if_icmp .lt 7, 3, 0, 0), (12, .iconst (-1), 1, 0, 0), (13, .goto 9, 3, 0, 0), (16, .aload_n 0, 1, 0, 0), (17, .getfield 114, 3, 16, 37), (20, .iload_n 1, 1, 0, 0), (21, .iaload, 1, 0, 0), (22, .ireturn, 1, 0, 0)]
def en_m122 : en_Me := (⟨"PluggedBusModel", "order", "(I)I"⟩, prog_9_method_38_code, (2, 1, 7, false, 1, 16), en_t122)
/-- PluggedBusModel.got (II)I -/
def en_t123 : List (Nat × en_I) := [(0, .iload_n 1, 1, 0, 0), (1, .ifCond .lt 11, 3, 0, 0), (4, .iload_n 1, 1, 0, 0), (5, .aload_n 0, 1, 0, 0), (6, .getfield 169, 3, 16, 31), (9, .if_icmp .lt 5, 3, 0, 0), (12, .iconst (-1), 1, 0, 0), (13, .ireturn, 1, 0, 0), (14, .iload_n 2, 1, 0, 0), (15, .ifCond .lt 13, 3, 0, 0), (18, .iload_n 2, 1, 0, 0), (19, .aload_n 0, 1, 0, 0), (20, .getfield 120, 3, 16, 39), (23, .iload_n 1, 1, 0, 0), (24, .iaload, 1, 0, 0), (25, .if_icmp .lt 7, 3, 0, 0), (28, .iconst 0, 1, 0, 0), (29, .goto 13, 3, 0, 0), (32, .aload_n 0, 1, 0, 0), (33, .getfield 123, 3, 16, 40), (36, .iconst 4, 1, 0, 0), (37, .iload_n 1, 1, 0, 0), (38, .imul, 1, 0, 0), (39, .iload_n 2, 1, 0, 0), (40, .iadd, 1, 0, 0), (41, .iaload, 1, 0, 0), (42, .ireturn, 1, 0, 0)]
def en_m123 : en_Me := (⟨"PluggedBusModel", "got", "(II)I"⟩, prog_9_method_39_code, (3, 1, 7, false, 2, 16), en_t123)
/-- PluggedBusModel.image (II)I -/
def en_t124 : List (Nat × en_I) := [(0, .iload_n 1, 1, 0, 0), (1, .invokestatic 136, 3, 86, 0), (4, .ifCond .eq 29, 3, 0, 0), (7, .aload_n 0, 1, 0, 0), (8, .getfield 7, 3, 16, 0), (11, .iload_n 1, 1, 0, 0), (12, .iaload, 1, 0, 0), (13, .iconst 1, 1, 0, 0), (14, .if_icmp .ne 19, 3, 0, 0), (17, .iload_n 2, 1, 0, 0), (18, .iconst 0, 1, 0, 0), (19, .aload_n 0, 1, 0, 0), (20, .getfield 13, 3, 16, 1), (23, .iload_n 1, 1, 0, 0), (24, .iaload, 1, 0, 0), (25, .iconst 1, 1, 0, 0), (26, .isub, 1, 0, 0), (27, .invokestatic 140, 3, 88, 0), (30, .ifCond .eq 7, 3, 0, 0), (33, .iconst 0, 1, 0, 0), (34, .goto 14, 3, 0, 0), (37, .aload_n 0, 1, 0, 0), (38, .getfield 59, 3, 16, 16), (41, .bipush 8, 2, 0, 0), (43, .iload_n 1, 1, 0, 0), (44, .imul, 1, 0, 0), (45, .iload_n 2, 1, 0, 0), (46, .iadd, 1, 0, 0), (47, .iaload, 1, 0, 0), (48, .ireturn, 1, 0, 0)]
def en_m124 : en_Me := (⟨"PluggedBusModel", "image", "(II)I"⟩, prog_9_method_40_code, (3, 1, 7, false, 2, 16), en_t124)
/-- PluggedBusModel.keys ()I -/
def en_t125 : List (Nat × en_I) := [(0, .aload_n 0, 1, 0, 0), (1, .getfield 201, 3, 16, 41), (4, .ireturn, 1, 0, 0)]
def en_m125 : en_Me := (⟨"PluggedBusModel", "keys", "()I"⟩, prog_9_method_41_code, (1, 1, 7, false, 0, 16), en_t125)
/-- PluggedBusModel.key (I)I -/
def en_t126 : List (Nat × en_I) := [(0, .iload_n 1, 1, 0, 0), (1, .iconst 0, 1, 0, 0), (2, .bipush 7, 2, 0, 0), (4, .invokestatic 140, 3, 88, 0), (7, .ifCond .ne 11, 3, 0, 0), (10, .iload_n 1, 1, 0, 0), (11, .aload_n 0, 1, 0, 0), (12, .getfield 201, 3, 16, 41), (15, .if_icmp .lt 7, 3, 0, 0), (18, .iconst (-1), 1, 0, 0), (19, .goto 19, 3, 0, 0), (22, .aload_n 0, 1, 0, 0), (23, .getfield 126, 3, 16, 42), (26, .aload_n 0, 1, 0, 0), (27, .getfield 201, 3, 16, 41), (30, .iconst 1, 1, 0, 0), (31, .isub, 1, 0, 0), (32, .iload_n 1, 1, 0, 0), (33, .isub, 1, 0, 0), (34, .bipush 7, 2, 0, 0), (36, .iand, 1, 0, 0), (37, .iaload, 1, 0, 0), (38, .ireturn, 1, 0, 0)]
def en_m126 : en_Me := (⟨"PluggedBusModel", "key", "(I)I"⟩, prog_9_method_42_code, (2, 1, 7, false, 1, 16), en_t126)
/-- PluggedBusModel.transactions ()I -/
def en_t127 : List (Nat × en_I) := [(0, .aload_n 0, 1, 0, 0), (1, .getfield 151, 3, 16, 44), (4, .ireturn, 1, 0, 0)]
def en_m127 : en_Me := (⟨"PluggedBusModel", "transactions", "()I"⟩, prog_9_method_43_code, (1, 1, 7, false, 0, 16), en_t127)
/-- PluggedBusLaw.law ([I)Z -/
def en_t128 : List (Nat × en_I) := [(3, .dup, 1, 0, 0), (7, .astore_n 1, 1, 0, 0), (11, .dup, 1, 0, 0), (15, .astore_n 2, 1, 0, 0), (16, .iconst 0, 1, 0, 0), (17, .istore_n 3, 1, 0, 0), (18, .iload_n 3, 1, 0, 0), (19, .aload_n 0, 1, 0, 0), (20, .arraylength, 1, 0, 0), (21, .iconst 5, 1, 0, 0), (22, .isub, 1, 0, 0), (23, .if_icmp .gt 553, 3, 0, 0), (26, .aload_n 0, 1, 0, 0), (27, .iload_n 3, 1, 0, 0), (28, .iaload, 1, 0, 0), (29, .bipush 15, 2, 0, 0), (31, .iand, 1, 0, 0), (32, .tableswitch 538 0 15 #[80, 133, 156, 189, 222, 265, 318, 341, 364, 387, 410, 443, 476, 489, 512, 525], 80, 0, 0), (112, .aload_n 1, 1, 0, 0), (113, .aload_n 0, 1, 0, 0), (114, .iload_n 3, 1, 0, 0), (115, .iconst 1, 1, 0, 0), (116, .iadd, 1, 0, 0), (117, .iaload, 1, 0, 0), (118, .aload_n 0, 1, 0, 0), (119, .iload_n 3, 1, 0, 0), (120, .iconst 2, 1, 0, 0), (121, .iadd, 1, 0, 0), (122, .iaload, 1, 0, 0), (123, .aload_n 0, 1, 0, 0), (124, .iload_n 3, 1, 0, 0), (125, .iconst 3, 1, 0, 0), (126, .iadd, 1, 0, 0), (127, .iaload, 1, 0, 0), (128, .aload_n 0, 1, 0, 0), (129, .iload_n 3, 1, 0, 0), (130, .iconst 4, 1, 0, 0), (131, .iadd, 1, 0, 0), (132, .iaload, 1, 0, 0), (133, .invokevirtual 13, 3, 33, 0), (136, .aload_n 2, 1, 0, 0), (137, .aload_n 0, 1, 0, 0), (138, .iload_n 3, 1, 0, 0), (139, .iconst 1, 1, 0, 0), (140, .iadd, 1, 0, 0), (141, .iaload, 1, 0, 0), (142, .aload_n 0, 1, 0, 0), (143, .iload_n 3, 1, 0, 0), (144, .iconst 2, 1, 0, 0), (145, .iadd, 1, 0, 0), (146, .iaload, 1, 0, 0), (147, .aload_n 0, 1, 0, 0), (148, .iload_n 3, 1, 0, 0), (149, .iconst 3, 1, 0, 0), (150, .iadd, 1, 0, 0), (151, .iaload, 1, 0, 0), (152, .aload_n 0, 1, 0, 0), (153, .iload_n 3, 1, 0, 0), (154, .iconst 4, 1, 0, 0), (155, .iadd, 1, 0, 0), (156, .iaload, 1, 0, 0), (157, .invokevirtual 17, 3, 90, 0), (160, .if_icmp .eq 410, 3, 0, 0), (163, .iconst 0, 1, 0, 0), (164, .ireturn, 1, 0, 0), (165, .aload_n 1, 1, 0, 0), (166, .aload_n 0, 1, 0, 0), (167, .iload_n 3, 1, 0, 0), (168, .iconst 1, 1, 0, 0), (169, .iadd, 1, 0, 0), (170, .iaload, 1, 0, 0), (171, .invokevirtual 18, 3, 34, 0), (174, .aload_n 2, 1, 0, 0), (175, .aload_n 0, 1, 0, 0), (176, .iload_n 3, 1, 0, 0), (177, .iconst 1, 1, 0, 0), (178, .iadd, 1, 0, 0), (179, .iaload, 1, 0, 0), (180, .invokevirtual 22, 3, 92, 0), (183, .if_icmp .eq 387, 3, 0, 0), (186, .iconst 0, 1, 0, 0), (187, .ireturn, 1, 0, 0), (188, .aload_n 1, 1, 0, 0), (189, .aload_n 0, 1, 0, 0), (190, .iload_n 3, 1, 0, 0), (191, .iconst 1, 1, 0, 0), (192, .iadd, 1, 0, 0), (193, .iaload, 1, 0, 0), (194, .aload_n 0, 1, 0, 0), (195, .iload_n 3, 1, 0, 0), (196, .iconst 2, 1, 0, 0), (197, .iadd, 1, 0, 0), (198, .iaload, 1, 0, 0), (199, .invokevirtual 23, 3, 35, 0), (202, .aload_n 2, 1, 0, 0), (203, .aload_n 0, 1, 0, 0), (204, .iload_n 3, 1, 0, 0), (205, .iconst 1, 1, 0, 0), (206, .iadd, 1, 0, 0), (207, .iaload, 1, 0, 0), (208, .aload_n 0, 1, 0, 0), (209, .iload_n 3, 1, 0, 0), (210, .iconst 2, 1, 0, 0), (211, .iadd, 1, 0, 0), (212, .iaload, 1, 0, 0), (213, .invokevirtual 27, 3, 93, 0), (216, .if_icmp .eq 354, 3, 0, 0), (219, .iconst 0, 1, 0, 0), (220, .ireturn, 1, 0, 0), (221, .aload_n 1, 1, 0, 0), (222, .aload_n 0, 1, 0, 0), (223, .iload_n 3, 1, 0, 0), (224, .iconst 1, 1, 0, 0), (225, .iadd, 1, 0, 0), (226, .iaload, 1, 0, 0), (227, .aload_n 0, 1, 0, 0), (228, .iload_n 3, 1, 0, 0), (229, .iconst 2, 1, 0, 0), (230, .iadd, 1, 0, 0), (231, .iaload, 1, 0, 0), (232, .invokevirtual 28, 3, 36, 0), (235, .aload_n 2, 1, 0, 0), (236, .aload_n 0, 1, 0, 0), (237, .iload_n 3, 1, 0, 0), (238, .iconst 1, 1, 0, 0), (239, .iadd, 1, 0, 0), (240, .iaload, 1, 0, 0), (241, .aload_n 0, 1, 0, 0), (242, .iload_n 3, 1, 0, 0), (243, .iconst 2, 1, 0, 0), (244, .iadd, 1, 0, 0), (245, .iaload, 1, 0, 0), (246, .invokevirtual 31, 3, 94, 0), (249, .if_icmp .eq 321, 3, 0, 0), (252, .iconst 0, 1, 0, 0), (253, .ireturn, 1, 0, 0), (254, .aload_n 1, 1, 0, 0), (255, .aload_n 0, 1, 0, 0), (256, .iload_n 3, 1, 0, 0), (257, .iconst 1, 1, 0, 0), (258, .iadd, 1, 0, 0), (259, .iaload, 1, 0, 0), (260, .aload_n 0, 1, 0, 0), (261, .iload_n 3, 1, 0, 0), (262, .iconst 2, 1, 0, 0), (263, .iadd, 1, 0, 0), (264, .iaload, 1, 0, 0), (265, .aload_n 0, 1, 0, 0), (266, .iload_n 3, 1, 0, 0), (267, .iconst 3, 1, 0, 0), (268, .iadd, 1, 0, 0), (269, .iaload, 1, 0, 0), (270, .invokevirtual 32, 3, 37, 0), (273, .aload_n 2, 1, 0, 0), (274, .aload_n 0, 1, 0, 0), (275, .iload_n 3, 1, 0, 0), (276, .iconst 1, 1, 0, 0), (277, .iadd, 1, 0, 0), (278, .iaload, 1, 0, 0), (279, .aload_n 0, 1, 0, 0), (280, .iload_n 3, 1, 0, 0), (281, .iconst 2, 1, 0, 0), (282, .iadd, 1, 0, 0), (283, .iaload, 1, 0, 0), (284, .aload_n 0, 1, 0, 0), (285, .iload_n 3, 1, 0, 0), (286, .iconst 3, 1, 0, 0), (287, .iadd, 1, 0, 0), (288, .iaload, 1, 0, 0), (289, .invokevirtual 36, 3, 114, 0), (292, .if_icmp .eq 278, 3, 0, 0), (295, .iconst 0, 1, 0, 0), (296, .ireturn, 1, 0, 0), (297, .aload_n 1, 1, 0, 0), (298, .aload_n 0, 1, 0, 0), (299, .iload_n 3, 1, 0, 0), (300, .iconst 1, 1, 0, 0), (301, .iadd, 1, 0, 0), (302, .iaload, 1, 0, 0), (303, .aload_n 0, 1, 0, 0), (304, .iload_n 3, 1, 0, 0), (305, .iconst 2, 1, 0, 0), (306, .iadd, 1, 0, 0), (307, .iaload, 1, 0, 0), (308, .aload_n 0, 1, 0, 0), (309, .iload_n 3, 1, 0, 0), (310, .iconst 3, 1, 0, 0), (311, .iadd, 1, 0, 0), (312, .iaload, 1, 0, 0), (313, .aload_n 0, 1, 0, 0), (314, .iload_n 3, 1, 0, 0), (315, .iconst 4, 1, 0, 0), (316, .iadd, 1, 0, 0), (317, .iaload, 1, 0, 0), (318, .invokevirtual 37, 3, 38, 0), (321, .aload_n 2, 1, 0, 0), (322, .aload_n 0, 1, 0, 0), (323, .iload_n 3, 1, 0, 0), (324, .iconst 1, 1, 0, 0), (325, .iadd, 1, 0, 0), (326, .iaload, 1, 0, 0), (327, .aload_n 0, 1, 0, 0), (328, .iload_n 3, 1, 0, 0), (329, .iconst 2, 1, 0, 0), (330, .iadd, 1, 0, 0), (331, .iaload, 1, 0, 0), (332, .aload_n 0, 1, 0, 0), (333, .iload_n 3, 1, 0, 0), (334, .iconst 3, 1, 0, 0), (335, .iadd, 1, 0, 0), (336, .iaload, 1, 0, 0), (337, .aload_n 0, 1, 0, 0), (338, .iload_n 3, 1, 0, 0), (339, .iconst 4, 1, 0, 0), (340, .iadd, 1, 0, 0), (341, .iaload, 1, 0, 0), (342, .invokevirtual 41, 3, 115, 0), (345, .if_icmp .eq 225, 3, 0, 0), (348, .iconst 0, 1, 0, 0), (349, .ireturn, 1, 0, 0), (350, .aload_n 1, 1, 0, 0), (351, .aload_n 0, 1, 0, 0), (352, .iload_n 3, 1, 0, 0), (353, .iconst 1, 1, 0, 0), (354, .iadd, 1, 0, 0), (355, .iaload, 1, 0, 0), (356, .invokevirtual 42, 3, 39, 0), (359, .aload_n 2, 1, 0, 0), (360, .aload_n 0, 1, 0, 0), (361, .iload_n 3, 1, 0, 0), (362, .iconst 1, 1, 0, 0), (363, .iadd, 1, 0, 0), (364, .iaload, 1, 0, 0), (365, .invokevirtual 46, 3, 119, 0), (368, .if_icmp .eq 202, 3, 0, 0), (371, .iconst 0, 1, 0, 0), (372, .ireturn, 1, 0, 0), (373, .aload_n 1, 1, 0, 0), (374, .aload_n 0, 1, 0, 0), (375, .iload_n 3, 1, 0, 0), (376, .iconst 1, 1, 0, 0), (377, .iadd, 1, 0, 0), (378, .iaload, 1, 0, 0), (379, .invokevirtual 47, 3, 40, 0), (382, .aload_n 2, 1, 0, 0), (383, .aload_n 0, 1, 0, 0), (384, .iload_n 3, 1, 0, 0), (385, .iconst 1, 1, 0, 0), (386, .iadd, 1, 0, 0), (387, .iaload, 1, 0, 0), (388, .invokevirtual 50, 3, 120, 0), (391, .if_icmp .eq 179, 3, 0, 0), (394, .iconst 0, 1, 0, 0), (395, .ireturn, 1, 0, 0), (396, .aload_n 1, 1, 0, 0), (397, .aload_n 0, 1, 0, 0), (398, .iload_n 3, 1, 0, 0), (399, .iconst 1, 1, 0, 0), (400, .iadd, 1, 0, 0), (401, .iaload, 1, 0, 0), (402, .invokevirtual 51, 3, 41, 0), (405, .aload_n 2, 1, 0, 0), (406, .aload_n 0, 1, 0, 0), (407, .iload_n 3, 1, 0, 0), (408, .iconst 1, 1, 0, 0), (409, .iadd, 1, 0, 0), (410, .iaload, 1, 0, 0), (411, .invokevirtual 54, 3, 121, 0), (414, .if_icmp .eq 156, 3, 0, 0), (417, .iconst 0, 1, 0, 0), (418, .ireturn, 1, 0, 0), (419, .aload_n 1, 1, 0, 0), (420, .aload_n 0, 1, 0, 0), (421, .iload_n 3, 1, 0, 0), (422, .iconst 1, 1, 0, 0), (423, .iadd, 1, 0, 0), (424, .iaload, 1, 0, 0), (425, .invokevirtual 55, 3, 42, 0), (428, .aload_n 2, 1, 0, 0), (429, .aload_n 0, 1, 0, 0), (430, .iload_n 3, 1, 0, 0), (431, .iconst 1, 1, 0, 0), (432, .iadd, 1, 0, 0), (433, .iaload, 1, 0, 0), (434, .invokevirtual 58, 3, 122, 0), (437, .if_icmp .eq 133, 3, 0, 0), (440, .iconst 0, 1, 0, 0), (441, .ireturn, 1, 0, 0), (442, .aload_n 1, 1, 0, 0), (443, .aload_n 0, 1, 0, 0), (444, .iload_n 3, 1, 0, 0), (445, .iconst 1, 1, 0, 0), (446, .iadd, 1, 0, 0), (447, .iaload, 1, 0, 0), (448, .aload_n 0, 1, 0, 0), (449, .iload_n 3, 1, 0, 0), (450, .iconst 2, 1, 0, 0), (451, .iadd, 1, 0, 0), (452, .iaload, 1, 0, 0), (453, .invokevirtual 59, 3, 43, 0), (456, .aload_n 2, 1, 0, 0), (457, .aload_n 0, 1, 0, 0), (458, .iload_n 3, 1, 0, 0), (459, .iconst 1, 1, 0, 0), (460, .iadd, 1, 0, 0), (461, .iaload, 1, 0, 0), (462, .aload_n 0, 1, 0, 0), (463, .iload_n 3, 1, 0, 0), (464, .iconst 2, 1, 0, 0), (465, .iadd, 1, 0, 0), (466, .iaload, 1, 0, 0), (467, .invokevirtual 63, 3, 123, 0), (470, .if_icmp .eq 100, 3, 0, 0), (473, .iconst 0, 1, 0, 0), (474, .ireturn, 1, 0, 0), (475, .aload_n 1, 1, 0, 0), (476, .aload_n 0, 1, 0, 0), (477, .iload_n 3, 1, 0, 0), (478, .iconst 1, 1, 0, 0), (479, .iadd, 1, 0, 0), (480, .iaload, 1, 0, 0), (481, .aload_n 0, 1, 0, 0), (482, .iload_n 3, 1, 0, 0), (483, .iconst 2, 1, 0, 0), (484, .iadd, 1, 0, 0), (485, .iaload, 1, 0, 0), (486, .invokevirtual 64, 3, 44, 0), (489, .aload_n 2, 1, 0, 0), (490, .aload_n 0, 1, 0, 0), (491, .iload_n 3, 1, 0, 0), (492, .iconst 1, 1, 0, 0), (493, .iadd, 1, 0, 0), (494, .iaload, 1, 0, 0), (495, .aload_n 0, 1, 0, 0), (496, .iload_n 3, 1, 0, 0), (497, .iconst 2, 1, 0, 0), (498, .iadd, 1, 0, 0), (499, .iaload, 1, 0, 0), (500, .invokevirtual 67, 3, 124, 0), (503, .if_icmp .eq 67, 3, 0, 0), (506, .iconst 0, 1, 0, 0), (507, .ireturn, 1, 0, 0), (508, .aload_n 1, 1, 0, 0), (509, .invokevirtual 68, 3, 45, 0), (512, .aload_n 2, 1, 0, 0), (513, .invokevirtual 72, 3, 125, 0), (516, .if_icmp .eq 54, 3, 0, 0), (519, .iconst 0, 1, 0, 0), (520, .ireturn, 1, 0, 0), (521, .aload_n 1, 1, 0, 0), (522, .aload_n 0, 1, 0, 0), (523, .iload_n 3, 1, 0, 0), (524, .iconst 1, 1, 0, 0), (525, .iadd, 1, 0, 0), (526, .iaload, 1, 0, 0), (527, .invokevirtual 73, 3, 46, 0), (530, .aload_n 2, 1, 0, 0), (531, .aload_n 0, 1, 0, 0), (532, .iload_n 3, 1, 0, 0), (533, .iconst 1, 1, 0, 0), (534, .iadd, 1, 0, 0), (535, .iaload, 1, 0, 0), (536, .invokevirtual 76, 3, 126, 0), (539, .if_icmp .eq 31, 3, 0, 0), (542, .iconst 0, 1, 0, 0), (543, .ireturn, 1, 0, 0), (544, .aload_n 1, 1, 0, 0), (545, .invokevirtual 77, 3, 47, 0), (548, .aload_n 2, 1, 0, 0), (549, .invokevirtual 80, 3, 110, 0), (552, .if_icmp .eq 18, 3, 0, 0), (555, .iconst 0, 1, 0, 0), (556, .ireturn, 1, 0, 0), (557, .aload_n 1, 1, 0, 0), (558, .invokevirtual 81, 3, 48, 0), (561, .aload_n 2, 1, 0, 0), (562, .invokevirtual 84, 3, 127, 0), (565, .if_icmp .eq 5, 3, 0, 0), (568, .iconst 0, 1, 0, 0), (569, .ireturn, 1, 0, 0), (570, .iinc 3 5, 3, 0, 0), (573, .goto (-555), 3, 0, 0), (576, .iconst 1, 1, 0, 0), (577, .ireturn, 1, 0, 0)]
def en_m128 : en_Me := (⟨"PluggedBusLaw", "law", "([I)Z"⟩, code, (4, 2, 8, true, 1, 0), en_t128)
def en_M : List en_Me := [en_m0, en_m1, en_m2, en_m3, en_m4, en_m5, en_m6, en_m7, en_m8, en_m9, en_m10, en_m11, en_m12, en_m13, en_m14, en_m15, en_m16, en_m17, en_m18, en_m19, en_m20, en_m21, en_m22, en_m23, en_m24, en_m25, en_m26, en_m27, en_m28, en_m29, en_m30, en_m31, en_m32, en_m33, en_m34, en_m35, en_m36, en_m37, en_m38, en_m39, en_m40, en_m41, en_m42, en_m43, en_m44, en_m45, en_m46, en_m47, en_m48, en_m49, en_m50, en_m51, en_m52, en_m53, en_m54, en_m55, en_m56, en_m57, en_m58, en_m59, en_m60, en_m61, en_m62, en_m63, en_m64, en_m65, en_m66, en_m67, en_m68, en_m69, en_m70, en_m71, en_m72, en_m73, en_m74, en_m75, en_m76, en_m77, en_m78, en_m79, en_m80, en_m81, en_m82, en_m83, en_m84, en_m85, en_m86, en_m87, en_m88, en_m89, en_m90, en_m91, en_m92, en_m93, en_m94, en_m95, en_m96, en_m97, en_m98, en_m99, en_m100, en_m101, en_m102, en_m103, en_m104, en_m105, en_m106, en_m107, en_m108, en_m109, en_m110, en_m111, en_m112, en_m113, en_m114, en_m115, en_m116, en_m117, en_m118, en_m119, en_m120, en_m121, en_m122, en_m123, en_m124, en_m125, en_m126, en_m127, en_m128]
def en_me (y : Nat) : en_Me := en_M.getD y (⟨"", "", ""⟩, ⟨#[]⟩, (0, 0, 0, false, 0, 0), [])
def en_my (y : Nat) : MethodName := (en_me y).1
def en_mb (y : Nat) : ByteArray := (en_me y).2.1
def en_mL (y : Nat) : Nat := (en_me y).2.2.1.1
def en_rt (y : Nat) : Nat := (en_me y).2.2.1.2.1
def en_mo (y : Nat) : Nat := (en_me y).2.2.1.2.2.1
def en_ms (y : Nat) : Bool := (en_me y).2.2.1.2.2.2.1
def en_np (y : Nat) : Nat := (en_me y).2.2.1.2.2.2.2.1
def en_mk (y : Nat) : Nat := (en_me y).2.2.1.2.2.2.2.2
def en_mr (y : Nat) : Option FieldType := match en_rt y with
  | 0 => none
  | 1 => some .int
  | _ => some .boolean
def en_cd (y pc : Nat) : Option en_I := ((en_me y).2.2.2.find? (fun e => e.1 == pc)).map (·.2)
def en_va (y : Nat) : Bool := decide (y < 128)
def en_all : List Cond := lw_tbl.filter goodWord
theorem en_all_m {w : Cond} (i : Nat) (h : lw_tbl[i]? = some w) (hg : goodWord w = true) : w ∈ en_all := List.mem_filter.mpr ⟨List.mem_of_getElem? h, hg⟩
theorem en_good (w : Cond) (h : w ∈ en_all) : (w.onTables && w.keeps) = true ∨ ∃ ty, w = .arrayClass ty := good_of_word (List.mem_filter.mp h).2
theorem en_all_good : GoodIn lw_tbl en_all := fun w h => ⟨(List.mem_filter.mp h).1, en_good w h⟩
def en_flF : List ((Nat × Nat × Nat × Nat) × Nat) := [((0, 11, 0, 0), 292), ((0, 17, 0, 1), 293), ((0, 24, 0, 2), 294), ((0, 31, 0, 3), 295), ((0, 35, 0, 6), 298), ((0, 53, 3, 1), 208), ((0, 57, 3, 0), 207), ((0, 74, 4, 3), 160), ((0, 84, 3, 2), 210), ((0, 98, 10, 2), 86), ((0, 114, 0, 5), 297), ((0, 117, 3, 3), 212), ((0, 120, 3, 4), 214), ((0, 126, 8, 7), 274), ((0, 132, 4, 0), 155), ((0, 141, 12, 2), 104), ((0, 153, 4, 8), 171), ((0, 174, 0, 4), 296), ((0, 177, 8, 2), 264), ((0, 183, 3, 12), 229), ((0, 199, 4, 7), 168), ((0, 202, 3, 8), 221), ((0, 205, 4, 6), 166), ((0, 215, 3, 6), 218), ((0, 222, 4, 11), 176), ((0, 228, 4, 12), 178), ((0, 231, 0, 7), 299), ((0, 234, 4, 9), 173), ((0, 237, 3, 5), 216), ((0, 257, 3, 11), 227), ((0, 271, 3, 9), 223), ((0, 324, 8, 4), 268), ((0, 328, 8, 3), 266), ((0, 331, 8, 5), 270), ((0, 334, 8, 6), 272), ((0, 337, 3, 10), 225), ((1, 12, 3, 0), 206), ((1, 18, 3, 3), 211), ((1, 22, 4, 3), 159), ((1, 25, 3, 9), 222), ((1, 26, 4, 8), 170), ((1, 30, 3, 1), 209), ((1, 33, 3, 4), 213), ((1, 39, 3, 5), 215), ((1, 42, 3, 6), 217), ((1, 45, 3, 7), 219), ((1, 48, 3, 8), 220), ((1, 51, 4, 0), 154), ((1, 55, 5, 1), 131), ((1, 60, 3, 10), 224), ((1, 63, 4, 4), 162), ((1, 66, 3, 11), 226), ((1, 67, 4, 5), 164), ((1, 70, 3, 12), 228), ((2, 12, 4, 0), 153), ((2, 18, 4, 1), 156), ((2, 22, 4, 3), 158), ((2, 26, 4, 4), 161), ((2, 29, 4, 5), 163), ((2, 32, 4, 2), 157), ((2, 42, 4, 6), 165), ((2, 45, 4, 7), 167), ((2, 48, 4, 8), 169), ((2, 52, 4, 9), 172), ((2, 55, 4, 10), 174), ((2, 58, 4, 11), 175), ((2, 68, 5, 3), 134), ((2, 75, 4, 12), 177), ((3, 9, 5, 0), 129), ((3, 15, 5, 4), 135), ((3, 19, 5, 1), 130), ((3, 22, 5, 2), 132), ((3, 25, 5, 3), 133), ((3, 28, 5, 6), 137), ((3, 39, 5, 5), 136), ((4, 9, 8, 0), 262), ((4, 15, 8, 7), 273), ((4, 19, 8, 5), 269), ((4, 23, 8, 4), 267), ((4, 26, 8, 6), 271), ((4, 29, 8, 3), 265), ((4, 32, 8, 1), 263), ((5, 9, 10, 0), 83), ((5, 15, 10, 1), 84), ((5, 19, 10, 2), 85), ((6, 9, 12, 0), 101), ((6, 15, 12, 1), 102), ((6, 19, 12, 2), 103), ((7, 7, 16, 0), 666), ((7, 13, 16, 1), 667), ((7, 16, 16, 2), 668), ((7, 19, 16, 3), 669), ((7, 23, 16, 4), 670), ((7, 26, 16, 5), 671), ((7, 29, 16, 6), 672), ((7, 32, 16, 7), 673), ((7, 35, 16, 8), 674), ((7, 38, 16, 9), 675), ((7, 41, 16, 10), 676), ((7, 44, 16, 11), 677), ((7, 47, 16, 12), 678), ((7, 50, 16, 13), 679), ((7, 53, 16, 14), 680), ((7, 56, 16, 15), 681), ((7, 59, 16, 16), 682), ((7, 62, 16, 17), 683), ((7, 65, 16, 18), 684), ((7, 68, 16, 19), 685), ((7, 71, 16, 20), 686), ((7, 74, 16, 21), 687), ((7, 77, 16, 22), 688), ((7, 80, 16, 23), 689), ((7, 83, 16, 24), 690), ((7, 86, 16, 25), 691), ((7, 89, 16, 26), 692), ((7, 92, 16, 27), 693), ((7, 95, 16, 29), 695), ((7, 99, 16, 32), 698), ((7, 102, 16, 33), 699), ((7, 105, 16, 34), 700), ((7, 108, 16, 35), 701), ((7, 111, 16, 36), 702), ((7, 114, 16, 37), 703), ((7, 117, 16, 38), 704), ((7, 120, 16, 39), 705), ((7, 123, 16, 40), 706), ((7, 126, 16, 42), 708), ((7, 129, 16, 43), 709), ((7, 151, 16, 44), 710), ((7, 154, 16, 45), 711), ((7, 166, 16, 46), 712), ((7, 169, 16, 31), 697), ((7, 185, 16, 28), 694), ((7, 201, 16, 41), 707), ((7, 219, 16, 30), 696)]
def en_mlF : List ((Nat × Nat × Nat) × (Nat × Nat × Nat × Nat)) := [((0, 41, 52), (321, 323, 0, 57)), ((0, 45, 26), (331, 332, 333, 60)), ((0, 49, 53), (335, 336, 0, 57)), ((0, 61, 17), (338, 339, 340, 61)), ((0, 67, 54), (354, 356, 1, 57)), ((0, 71, 49), (325, 326, 0, 57)), ((0, 77, 28), (362, 363, 364, 60)), ((0, 80, 51), (366, 367, 0, 57)), ((0, 87, 20), (373, 374, 375, 61)), ((0, 90, 13), (381, 382, 383, 58)), ((0, 94, 84), (389, 391, 2, 57)), ((0, 101, 55), (409, 411, 3, 57)), ((0, 104, 70), (433, 435, 8, 57)), ((0, 108, 73), (506, 508, 16, 57)), ((0, 111, 79), (555, 557, 26, 57)), ((0, 123, 83), (620, 622, 32, 57)), ((0, 129, 11), (628, 629, 630, 63)), ((0, 136, 2), (636, 637, 638, 62)), ((0, 144, 16), (648, 649, 650, 59)), ((0, 147, 61), (551, 553, 25, 57)), ((0, 150, 50), (328, 329, 0, 57)), ((0, 156, 56), (413, 415, 4, 57)), ((0, 159, 57), (417, 419, 5, 57)), ((0, 162, 58), (421, 423, 6, 57)), ((0, 165, 27), (393, 394, 395, 60)), ((0, 168, 59), (425, 427, 7, 57)), ((0, 171, 29), (429, 430, 431, 60)), ((0, 180, 12), (397, 398, 399, 63)), ((0, 186, 63), (457, 459, 13, 57)), ((0, 189, 19), (461, 462, 463, 61)), ((0, 192, 14), (449, 450, 451, 58)), ((0, 195, 62), (453, 455, 12, 57)), ((0, 208, 65), (535, 537, 22, 57)), ((0, 211, 31), (543, 544, 545, 60)), ((0, 218, 21), (583, 584, 585, 61)), ((0, 225, 69), (465, 467, 14, 57)), ((0, 238, 23), (490, 491, 492, 61)), ((0, 241, 24), (469, 470, 471, 61)), ((0, 244, 25), (477, 478, 479, 61)), ((0, 247, 22), (489, 474, 475, 61)), ((0, 250, 71), (437, 439, 9, 57)), ((0, 254, 72), (441, 443, 10, 57)), ((0, 260, 68), (445, 447, 11, 57)), ((0, 264, 32), (494, 495, 496, 60)), ((0, 268, 60), (498, 500, 15, 57)), ((0, 272, 15), (502, 503, 504, 59)), ((0, 275, 74), (510, 512, 17, 57)), ((0, 278, 77), (527, 529, 20, 57)), ((0, 281, 75), (514, 516, 18, 57)), ((0, 284, 76), (518, 520, 19, 57)), ((0, 287, 30), (522, 523, 524, 60)), ((0, 290, 64), (531, 533, 21, 57)), ((0, 294, 66), (539, 541, 23, 57)), ((0, 297, 78), (547, 549, 24, 57)), ((0, 300, 80), (559, 561, 27, 57)), ((0, 303, 81), (567, 569, 29, 57)), ((0, 307, 85), (563, 565, 28, 57)), ((0, 310, 8), (571, 572, 573, 63)), ((0, 313, 9), (575, 576, 577, 63)), ((0, 316, 67), (579, 581, 30, 57)), ((0, 320, 82), (600, 602, 31, 57)), ((0, 325, 10), (604, 605, 606, 63)), ((1, 36, 18), (526, 347, 348, 61)), ((2, 35, 0), (342, 343, 344, 62)), ((2, 39, 18), (346, 347, 348, 61)), ((2, 61, 1), (350, 351, 352, 62)), ((2, 64, 3), (587, 588, 589, 62)), ((2, 71, 5), (591, 592, 593, 62)), ((2, 78, 22), (473, 474, 475, 61)), ((2, 81, 4), (481, 482, 483, 62)), ((2, 84, 7), (485, 486, 487, 62)), ((3, 31, 6), (595, 596, 597, 62)), ((3, 35, 3), (599, 588, 589, 62)), ((7, 132, 87), (816, 817, 0, 64)), ((7, 136, 86), (813, 814, 0, 64)), ((7, 140, 88), (819, 820, 0, 64)), ((7, 144, 89), (822, 824, 33, 64)), ((7, 148, 91), (830, 832, 34, 64)), ((7, 157, 95), (886, 888, 42, 64)), ((7, 160, 98), (894, 896, 44, 64)), ((7, 163, 97), (890, 892, 43, 64)), ((7, 172, 102), (874, 876, 39, 64)), ((7, 175, 101), (870, 872, 38, 64)), ((7, 178, 107), (910, 912, 48, 64)), ((7, 182, 104), (898, 900, 45, 64)), ((7, 188, 96), (918, 920, 50, 64)), ((7, 191, 109), (922, 924, 51, 64)), ((7, 194, 110), (926, 843, 844, 64)), ((7, 198, 99), (882, 884, 41, 64)), ((7, 204, 103), (866, 868, 37, 64)), ((7, 208, 113), (850, 852, 35, 64)), ((7, 212, 112), (931, 933, 53, 64)), ((7, 215, 100), (939, 941, 55, 64)), ((7, 222, 111), (878, 880, 40, 64)), ((7, 225, 105), (902, 904, 46, 64)), ((7, 228, 106), (906, 908, 47, 64)), ((7, 231, 108), (914, 916, 49, 64)), ((7, 234, 117), (927, 929, 52, 64)), ((7, 237, 116), (935, 937, 54, 64)), ((7, 240, 118), (862, 864, 36, 64)), ((8, 13, 33), (317, 318, 319, 57)), ((8, 17, 90), (809, 810, 811, 64)), ((8, 18, 34), (358, 359, 360, 57)), ((8, 22, 92), (826, 827, 828, 64)), ((8, 23, 35), (369, 370, 371, 57)), ((8, 27, 93), (834, 835, 836, 64)), ((8, 28, 36), (377, 378, 379, 57)), ((8, 31, 94), (838, 839, 840, 64)), ((8, 32, 37), (385, 386, 387, 57)), ((8, 36, 114), (846, 847, 848, 64)), ((8, 37, 38), (401, 402, 403, 57)), ((8, 41, 115), (854, 855, 856, 64)), ((8, 42, 39), (405, 406, 407, 57)), ((8, 46, 119), (858, 859, 860, 64)), ((8, 47, 40), (608, 609, 610, 57)), ((8, 50, 120), (943, 944, 945, 64)), ((8, 51, 41), (612, 613, 614, 57)), ((8, 54, 121), (947, 948, 949, 64)), ((8, 55, 42), (616, 617, 618, 57)), ((8, 58, 122), (951, 952, 953, 64)), ((8, 59, 43), (624, 625, 626, 57)), ((8, 63, 123), (955, 956, 957, 64)), ((8, 64, 44), (632, 633, 634, 57)), ((8, 67, 124), (959, 960, 961, 64)), ((8, 68, 45), (640, 641, 642, 57)), ((8, 72, 125), (963, 964, 965, 64)), ((8, 73, 46), (644, 645, 646, 57)), ((8, 76, 126), (967, 968, 969, 64)), ((8, 77, 47), (652, 653, 654, 57)), ((8, 80, 110), (842, 843, 844, 64)), ((8, 81, 48), (656, 657, 658, 57)), ((8, 84, 127), (971, 972, 973, 64))]
def en_fit (o : Nat) (q : en_I) : Bool := match q.1 with
  | .getfield i => (en_flF.map (·.1)).contains (o, i, q.2.2.1, q.2.2.2)
  | .putfield i => (en_flF.map (·.1)).contains (o, i, q.2.2.1, q.2.2.2)
  | .invokevirtual i => (en_mlF.map (·.1)).contains (o, i, q.2.2.1)
  | .invokestatic i => (en_mlF.map (·.1)).contains (o, i, q.2.2.1)
  | _ => true
def en_okm (m : en_Me) : Prop := ∀ e ∈ m.2.2.2, decode m.2.1 e.1 = .ok (e.2.1, e.2.2.1) ∧ en_fit m.2.2.1.2.2.1 e.2 = true
end
section
/-! THE CODE TABLES AGAINST THE CLASS FILES, 1 -/
set_option maxRecDepth 100000 in
theorem en_k0 : en_okm en_m0 := by unfold en_okm; decide +kernel
set_option maxRecDepth 100000 in
theorem en_k1 : en_okm en_m1 := by unfold en_okm; decide +kernel
set_option maxRecDepth 100000 in
theorem en_k2 : en_okm en_m2 := by unfold en_okm; decide +kernel
set_option maxRecDepth 100000 in
theorem en_k3 : en_okm en_m3 := by unfold en_okm; decide +kernel
set_option maxRecDepth 100000 in
theorem en_k4 : en_okm en_m4 := by unfold en_okm; decide +kernel
set_option maxRecDepth 100000 in
theorem en_k5 : en_okm en_m5 := by unfold en_okm; decide +kernel
set_option maxRecDepth 100000 in
theorem en_k6 : en_okm en_m6 := by unfold en_okm; decide +kernel
set_option maxRecDepth 100000 in
theorem en_k7 : en_okm en_m7 := by unfold en_okm; decide +kernel
set_option maxRecDepth 100000 in
theorem en_k8 : en_okm en_m8 := by unfold en_okm; decide +kernel
set_option maxRecDepth 100000 in
theorem en_k9 : en_okm en_m9 := by unfold en_okm; decide +kernel
set_option maxRecDepth 100000 in
theorem en_k10 : en_okm en_m10 := by unfold en_okm; decide +kernel
set_option maxRecDepth 100000 in
theorem en_k11 : en_okm en_m11 := by unfold en_okm; decide +kernel
set_option maxRecDepth 100000 in
theorem en_k12 : en_okm en_m12 := by unfold en_okm; decide +kernel
set_option maxRecDepth 100000 in
theorem en_k13 : en_okm en_m13 := by unfold en_okm; decide +kernel
set_option maxRecDepth 100000 in
theorem en_k14 : en_okm en_m14 := by unfold en_okm; decide +kernel
set_option maxRecDepth 100000 in
theorem en_k15 : en_okm en_m15 := by unfold en_okm; decide +kernel
set_option maxRecDepth 100000 in
theorem en_k16 : en_okm en_m16 := by unfold en_okm; decide +kernel
set_option maxRecDepth 100000 in
theorem en_k17 : en_okm en_m17 := by unfold en_okm; decide +kernel
set_option maxRecDepth 100000 in
theorem en_k18 : en_okm en_m18 := by unfold en_okm; decide +kernel
set_option maxRecDepth 100000 in
theorem en_k19 : en_okm en_m19 := by unfold en_okm; decide +kernel
set_option maxRecDepth 100000 in
theorem en_k20 : en_okm en_m20 := by unfold en_okm; decide +kernel
set_option maxRecDepth 100000 in
theorem en_k21 : en_okm en_m21 := by unfold en_okm; decide +kernel
set_option maxRecDepth 100000 in
theorem en_k22 : en_okm en_m22 := by unfold en_okm; decide +kernel
set_option maxRecDepth 100000 in
theorem en_k23 : en_okm en_m23 := by unfold en_okm; decide +kernel
set_option maxRecDepth 100000 in
theorem en_k24 : en_okm en_m24 := by unfold en_okm; decide +kernel
set_option maxRecDepth 100000 in
theorem en_k25 : en_okm en_m25 := by unfold en_okm; decide +kernel
set_option maxRecDepth 100000 in
theorem en_k26 : en_okm en_m26 := by unfold en_okm; decide +kernel
set_option maxRecDepth 100000 in
theorem en_k27 : en_okm en_m27 := by unfold en_okm; decide +kernel
set_option maxRecDepth 100000 in
theorem en_k28 : en_okm en_m28 := by unfold en_okm; decide +kernel
set_option maxRecDepth 100000 in
theorem en_k29 : en_okm en_m29 := by unfold en_okm; decide +kernel
set_option maxRecDepth 100000 in
theorem en_k30 : en_okm en_m30 := by unfold en_okm; decide +kernel
set_option maxRecDepth 100000 in
theorem en_k31 : en_okm en_m31 := by unfold en_okm; decide +kernel
set_option maxRecDepth 100000 in
theorem en_k32 : en_okm en_m32 := by unfold en_okm; decide +kernel
set_option maxRecDepth 100000 in
theorem en_k33 : en_okm en_m33 := by unfold en_okm; decide +kernel
set_option maxRecDepth 100000 in
theorem en_k34 : en_okm en_m34 := by unfold en_okm; decide +kernel
set_option maxRecDepth 100000 in
theorem en_k35 : en_okm en_m35 := by unfold en_okm; decide +kernel
set_option maxRecDepth 100000 in
theorem en_k36 : en_okm en_m36 := by unfold en_okm; decide +kernel
set_option maxRecDepth 100000 in
theorem en_k37 : en_okm en_m37 := by unfold en_okm; decide +kernel
set_option maxRecDepth 100000 in
theorem en_k38 : en_okm en_m38 := by unfold en_okm; decide +kernel
set_option maxRecDepth 100000 in
theorem en_k39 : en_okm en_m39 := by unfold en_okm; decide +kernel
set_option maxRecDepth 100000 in
theorem en_k40 : en_okm en_m40 := by unfold en_okm; decide +kernel
set_option maxRecDepth 100000 in
theorem en_k41 : en_okm en_m41 := by unfold en_okm; decide +kernel
set_option maxRecDepth 100000 in
theorem en_k42 : en_okm en_m42 := by unfold en_okm; decide +kernel
set_option maxRecDepth 100000 in
theorem en_k43 : en_okm en_m43 := by unfold en_okm; decide +kernel
set_option maxRecDepth 100000 in
theorem en_k44 : en_okm en_m44 := by unfold en_okm; decide +kernel
set_option maxRecDepth 100000 in
theorem en_k45 : en_okm en_m45 := by unfold en_okm; decide +kernel
set_option maxRecDepth 100000 in
theorem en_k46 : en_okm en_m46 := by unfold en_okm; decide +kernel
set_option maxRecDepth 100000 in
theorem en_k47 : en_okm en_m47 := by unfold en_okm; decide +kernel
set_option maxRecDepth 100000 in
theorem en_k48 : en_okm en_m48 := by unfold en_okm; decide +kernel
set_option maxRecDepth 100000 in
theorem en_k49 : en_okm en_m49 := by unfold en_okm; decide +kernel
set_option maxRecDepth 100000 in
theorem en_k50 : en_okm en_m50 := by unfold en_okm; decide +kernel
set_option maxRecDepth 100000 in
theorem en_k51 : en_okm en_m51 := by unfold en_okm; decide +kernel
set_option maxRecDepth 100000 in
theorem en_k52 : en_okm en_m52 := by unfold en_okm; decide +kernel
set_option maxRecDepth 100000 in
theorem en_k53 : en_okm en_m53 := by unfold en_okm; decide +kernel
set_option maxRecDepth 100000 in
theorem en_k54 : en_okm en_m54 := by unfold en_okm; decide +kernel
set_option maxRecDepth 100000 in
theorem en_k55 : en_okm en_m55 := by unfold en_okm; decide +kernel
set_option maxRecDepth 100000 in
theorem en_k56 : en_okm en_m56 := by unfold en_okm; decide +kernel
set_option maxRecDepth 100000 in
theorem en_k57 : en_okm en_m57 := by unfold en_okm; decide +kernel
set_option maxRecDepth 100000 in
theorem en_k58 : en_okm en_m58 := by unfold en_okm; decide +kernel
set_option maxRecDepth 100000 in
theorem en_k59 : en_okm en_m59 := by unfold en_okm; decide +kernel
set_option maxRecDepth 100000 in
theorem en_k60 : en_okm en_m60 := by unfold en_okm; decide +kernel
end
section
/-! THE CODE TABLES AGAINST THE CLASS FILES, 2 -/
set_option maxRecDepth 100000 in
theorem en_k61 : en_okm en_m61 := by unfold en_okm; decide +kernel
set_option maxRecDepth 100000 in
theorem en_k62 : en_okm en_m62 := by unfold en_okm; decide +kernel
set_option maxRecDepth 100000 in
theorem en_k63 : en_okm en_m63 := by unfold en_okm; decide +kernel
set_option maxRecDepth 100000 in
theorem en_k64 : en_okm en_m64 := by unfold en_okm; decide +kernel
set_option maxRecDepth 100000 in
theorem en_k65 : en_okm en_m65 := by unfold en_okm; decide +kernel
set_option maxRecDepth 100000 in
theorem en_k66 : en_okm en_m66 := by unfold en_okm; decide +kernel
set_option maxRecDepth 100000 in
theorem en_k67 : en_okm en_m67 := by unfold en_okm; decide +kernel
set_option maxRecDepth 100000 in
theorem en_k68 : en_okm en_m68 := by unfold en_okm; decide +kernel
set_option maxRecDepth 100000 in
theorem en_k69 : en_okm en_m69 := by unfold en_okm; decide +kernel
set_option maxRecDepth 100000 in
theorem en_k70 : en_okm en_m70 := by unfold en_okm; decide +kernel
set_option maxRecDepth 100000 in
theorem en_k71 : en_okm en_m71 := by unfold en_okm; decide +kernel
set_option maxRecDepth 100000 in
theorem en_k72 : en_okm en_m72 := by unfold en_okm; decide +kernel
set_option maxRecDepth 100000 in
theorem en_k73 : en_okm en_m73 := by unfold en_okm; decide +kernel
set_option maxRecDepth 100000 in
theorem en_k74 : en_okm en_m74 := by unfold en_okm; decide +kernel
set_option maxRecDepth 100000 in
theorem en_k75 : en_okm en_m75 := by unfold en_okm; decide +kernel
set_option maxRecDepth 100000 in
theorem en_k76 : en_okm en_m76 := by unfold en_okm; decide +kernel
set_option maxRecDepth 100000 in
theorem en_k77 : en_okm en_m77 := by unfold en_okm; decide +kernel
set_option maxRecDepth 100000 in
theorem en_k78 : en_okm en_m78 := by unfold en_okm; decide +kernel
set_option maxRecDepth 100000 in
theorem en_k79 : en_okm en_m79 := by unfold en_okm; decide +kernel
set_option maxRecDepth 100000 in
theorem en_k80 : en_okm en_m80 := by unfold en_okm; decide +kernel
set_option maxRecDepth 100000 in
theorem en_k81 : en_okm en_m81 := by unfold en_okm; decide +kernel
set_option maxRecDepth 100000 in
theorem en_k82 : en_okm en_m82 := by unfold en_okm; decide +kernel
set_option maxRecDepth 100000 in
theorem en_k83 : en_okm en_m83 := by unfold en_okm; decide +kernel
set_option maxRecDepth 100000 in
theorem en_k84 : en_okm en_m84 := by unfold en_okm; decide +kernel
set_option maxRecDepth 100000 in
theorem en_k85 : en_okm en_m85 := by unfold en_okm; decide +kernel
set_option maxRecDepth 100000 in
theorem en_k86 : en_okm en_m86 := by unfold en_okm; decide +kernel
set_option maxRecDepth 100000 in
theorem en_k87 : en_okm en_m87 := by unfold en_okm; decide +kernel
set_option maxRecDepth 100000 in
theorem en_k88 : en_okm en_m88 := by unfold en_okm; decide +kernel
set_option maxRecDepth 100000 in
theorem en_k89 : en_okm en_m89 := by unfold en_okm; decide +kernel
set_option maxRecDepth 100000 in
theorem en_k90 : en_okm en_m90 := by unfold en_okm; decide +kernel
set_option maxRecDepth 100000 in
theorem en_k91 : en_okm en_m91 := by unfold en_okm; decide +kernel
set_option maxRecDepth 100000 in
theorem en_k92 : en_okm en_m92 := by unfold en_okm; decide +kernel
end
section
/-! THE CODE TABLES AGAINST THE CLASS FILES, 3 -/
set_option maxRecDepth 100000 in
theorem en_k93 : en_okm en_m93 := by unfold en_okm; decide +kernel
set_option maxRecDepth 100000 in
theorem en_k94 : en_okm en_m94 := by unfold en_okm; decide +kernel
set_option maxRecDepth 100000 in
theorem en_k95 : en_okm en_m95 := by unfold en_okm; decide +kernel
set_option maxRecDepth 100000 in
theorem en_k96 : en_okm en_m96 := by unfold en_okm; decide +kernel
set_option maxRecDepth 100000 in
theorem en_k97 : en_okm en_m97 := by unfold en_okm; decide +kernel
set_option maxRecDepth 100000 in
theorem en_k98 : en_okm en_m98 := by unfold en_okm; decide +kernel
set_option maxRecDepth 100000 in
theorem en_k99 : en_okm en_m99 := by unfold en_okm; decide +kernel
set_option maxRecDepth 100000 in
theorem en_k100 : en_okm en_m100 := by unfold en_okm; decide +kernel
set_option maxRecDepth 100000 in
theorem en_k101 : en_okm en_m101 := by unfold en_okm; decide +kernel
set_option maxRecDepth 100000 in
theorem en_k102 : en_okm en_m102 := by unfold en_okm; decide +kernel
set_option maxRecDepth 100000 in
theorem en_k103 : en_okm en_m103 := by unfold en_okm; decide +kernel
set_option maxRecDepth 100000 in
theorem en_k104 : en_okm en_m104 := by unfold en_okm; decide +kernel
set_option maxRecDepth 100000 in
theorem en_k105 : en_okm en_m105 := by unfold en_okm; decide +kernel
set_option maxRecDepth 100000 in
theorem en_k106 : en_okm en_m106 := by unfold en_okm; decide +kernel
set_option maxRecDepth 100000 in
theorem en_k107 : en_okm en_m107 := by unfold en_okm; decide +kernel
set_option maxRecDepth 100000 in
theorem en_k108 : en_okm en_m108 := by unfold en_okm; decide +kernel
set_option maxRecDepth 100000 in
theorem en_k109 : en_okm en_m109 := by unfold en_okm; decide +kernel
end
section
/-! THE CODE TABLES AGAINST THE CLASS FILES, 4 -/
set_option maxRecDepth 100000 in
theorem en_k110 : en_okm en_m110 := by unfold en_okm; decide +kernel
set_option maxRecDepth 100000 in
theorem en_k111 : en_okm en_m111 := by unfold en_okm; decide +kernel
set_option maxRecDepth 100000 in
theorem en_k112 : en_okm en_m112 := by unfold en_okm; decide +kernel
set_option maxRecDepth 100000 in
theorem en_k113 : en_okm en_m113 := by unfold en_okm; decide +kernel
set_option maxRecDepth 100000 in
theorem en_k114 : en_okm en_m114 := by unfold en_okm; decide +kernel
set_option maxRecDepth 100000 in
theorem en_k115 : en_okm en_m115 := by unfold en_okm; decide +kernel
set_option maxRecDepth 100000 in
theorem en_k116 : en_okm en_m116 := by unfold en_okm; decide +kernel
set_option maxRecDepth 100000 in
theorem en_k117 : en_okm en_m117 := by unfold en_okm; decide +kernel
set_option maxRecDepth 100000 in
theorem en_k118 : en_okm en_m118 := by unfold en_okm; decide +kernel
set_option maxRecDepth 100000 in
theorem en_k119 : en_okm en_m119 := by unfold en_okm; decide +kernel
set_option maxRecDepth 100000 in
theorem en_k120 : en_okm en_m120 := by unfold en_okm; decide +kernel
set_option maxRecDepth 100000 in
theorem en_k121 : en_okm en_m121 := by unfold en_okm; decide +kernel
set_option maxRecDepth 100000 in
theorem en_k122 : en_okm en_m122 := by unfold en_okm; decide +kernel
set_option maxRecDepth 100000 in
theorem en_k123 : en_okm en_m123 := by unfold en_okm; decide +kernel
set_option maxRecDepth 100000 in
theorem en_k124 : en_okm en_m124 := by unfold en_okm; decide +kernel
set_option maxRecDepth 100000 in
theorem en_k125 : en_okm en_m125 := by unfold en_okm; decide +kernel
set_option maxRecDepth 100000 in
theorem en_k126 : en_okm en_m126 := by unfold en_okm; decide +kernel
set_option maxRecDepth 100000 in
theorem en_k127 : en_okm en_m127 := by unfold en_okm; decide +kernel
set_option maxRecDepth 100000 in
theorem en_k128 : en_okm en_m128 := by unfold en_okm; decide +kernel
end
section
/-! FACTS OF THE TABLES -/
theorem en_getD_m {α : Type} {l : List α} {n : Nat} {x : α} (h : n < l.length) : l.getD n x ∈ l := by
  rw [List.getD_eq_getElem?_getD, List.getElem?_eq_getElem h]
  exact List.getElem_mem h
theorem en_getD_d {α : Type} {l : List α} {n : Nat} {x : α} (h : l.length ≤ n) : l.getD n x = x := by
  rw [List.getD_eq_getElem?_getD, List.getElem?_eq_none h]
  rfl
theorem en_kk0 : ∀ m ∈ [en_m0, en_m1, en_m2, en_m3, en_m4, en_m5, en_m6, en_m7, en_m8, en_m9, en_m10, en_m11, en_m12, en_m13, en_m14, en_m15], en_okm m := List.forall_mem_cons.mpr ⟨en_k0, List.forall_mem_cons.mpr ⟨en_k1, List.forall_mem_cons.mpr ⟨en_k2, List.forall_mem_cons.mpr ⟨en_k3, List.forall_mem_cons.mpr ⟨en_k4, List.forall_mem_cons.mpr ⟨en_k5, List.forall_mem_cons.mpr ⟨en_k6, List.forall_mem_cons.mpr ⟨en_k7, List.forall_mem_cons.mpr ⟨en_k8, List.forall_mem_cons.mpr ⟨en_k9, List.forall_mem_cons.mpr ⟨en_k10, List.forall_mem_cons.mpr ⟨en_k11, List.forall_mem_cons.mpr ⟨en_k12, List.forall_mem_cons.mpr ⟨en_k13, List.forall_mem_cons.mpr ⟨en_k14, List.forall_mem_cons.mpr ⟨en_k15, fun _ h => absurd h List.not_mem_nil⟩⟩⟩⟩⟩⟩⟩⟩⟩⟩⟩⟩⟩⟩⟩⟩
theorem en_kk1 : ∀ m ∈ [en_m16, en_m17, en_m18, en_m19, en_m20, en_m21, en_m22, en_m23, en_m24, en_m25, en_m26, en_m27, en_m28, en_m29, en_m30, en_m31], en_okm m := List.forall_mem_cons.mpr ⟨en_k16, List.forall_mem_cons.mpr ⟨en_k17, List.forall_mem_cons.mpr ⟨en_k18, List.forall_mem_cons.mpr ⟨en_k19, List.forall_mem_cons.mpr ⟨en_k20, List.forall_mem_cons.mpr ⟨en_k21, List.forall_mem_cons.mpr ⟨en_k22, List.forall_mem_cons.mpr ⟨en_k23, List.forall_mem_cons.mpr ⟨en_k24, List.forall_mem_cons.mpr ⟨en_k25, List.forall_mem_cons.mpr ⟨en_k26, List.forall_mem_cons.mpr ⟨en_k27, List.forall_mem_cons.mpr ⟨en_k28, List.forall_mem_cons.mpr ⟨en_k29, List.forall_mem_cons.mpr ⟨en_k30, List.forall_mem_cons.mpr ⟨en_k31, fun _ h => absurd h List.not_mem_nil⟩⟩⟩⟩⟩⟩⟩⟩⟩⟩⟩⟩⟩⟩⟩⟩
theorem en_kk2 : ∀ m ∈ [en_m32, en_m33, en_m34, en_m35, en_m36, en_m37, en_m38, en_m39, en_m40, en_m41, en_m42, en_m43, en_m44, en_m45, en_m46, en_m47], en_okm m := List.forall_mem_cons.mpr ⟨en_k32, List.forall_mem_cons.mpr ⟨en_k33, List.forall_mem_cons.mpr ⟨en_k34, List.forall_mem_cons.mpr ⟨en_k35, List.forall_mem_cons.mpr ⟨en_k36, List.forall_mem_cons.mpr ⟨en_k37, List.forall_mem_cons.mpr ⟨en_k38, List.forall_mem_cons.mpr ⟨en_k39, List.forall_mem_cons.mpr ⟨en_k40, List.forall_mem_cons.mpr ⟨en_k41, List.forall_mem_cons.mpr ⟨en_k42, List.forall_mem_cons.mpr ⟨en_k43, List.forall_mem_cons.mpr ⟨en_k44, List.forall_mem_cons.mpr ⟨en_k45, List.forall_mem_cons.mpr ⟨en_k46, List.forall_mem_cons.mpr ⟨en_k47, fun _ h => absurd h List.not_mem_nil⟩⟩⟩⟩⟩⟩⟩⟩⟩⟩⟩⟩⟩⟩⟩⟩
theorem en_kk3 : ∀ m ∈ [en_m48, en_m49, en_m50, en_m51, en_m52, en_m53, en_m54, en_m55, en_m56, en_m57, en_m58, en_m59, en_m60, en_m61, en_m62, en_m63], en_okm m := List.forall_mem_cons.mpr ⟨en_k48, List.forall_mem_cons.mpr ⟨en_k49, List.forall_mem_cons.mpr ⟨en_k50, List.forall_mem_cons.mpr ⟨en_k51, List.forall_mem_cons.mpr ⟨en_k52, List.forall_mem_cons.mpr ⟨en_k53, List.forall_mem_cons.mpr ⟨en_k54, List.forall_mem_cons.mpr ⟨en_k55, List.forall_mem_cons.mpr ⟨en_k56, List.forall_mem_cons.mpr ⟨en_k57, List.forall_mem_cons.mpr ⟨en_k58, List.forall_mem_cons.mpr ⟨en_k59, List.forall_mem_cons.mpr ⟨en_k60, List.forall_mem_cons.mpr ⟨en_k61, List.forall_mem_cons.mpr ⟨en_k62, List.forall_mem_cons.mpr ⟨en_k63, fun _ h => absurd h List.not_mem_nil⟩⟩⟩⟩⟩⟩⟩⟩⟩⟩⟩⟩⟩⟩⟩⟩
theorem en_kk4 : ∀ m ∈ [en_m64, en_m65, en_m66, en_m67, en_m68, en_m69, en_m70, en_m71, en_m72, en_m73, en_m74, en_m75, en_m76, en_m77, en_m78, en_m79], en_okm m := List.forall_mem_cons.mpr ⟨en_k64, List.forall_mem_cons.mpr ⟨en_k65, List.forall_mem_cons.mpr ⟨en_k66, List.forall_mem_cons.mpr ⟨en_k67, List.forall_mem_cons.mpr ⟨en_k68, List.forall_mem_cons.mpr ⟨en_k69, List.forall_mem_cons.mpr ⟨en_k70, List.forall_mem_cons.mpr ⟨en_k71, List.forall_mem_cons.mpr ⟨en_k72, List.forall_mem_cons.mpr ⟨en_k73, List.forall_mem_cons.mpr ⟨en_k74, List.forall_mem_cons.mpr ⟨en_k75, List.forall_mem_cons.mpr ⟨en_k76, List.forall_mem_cons.mpr ⟨en_k77, List.forall_mem_cons.mpr ⟨en_k78, List.forall_mem_cons.mpr ⟨en_k79, fun _ h => absurd h List.not_mem_nil⟩⟩⟩⟩⟩⟩⟩⟩⟩⟩⟩⟩⟩⟩⟩⟩
theorem en_kk5 : ∀ m ∈ [en_m80, en_m81, en_m82, en_m83, en_m84, en_m85, en_m86, en_m87, en_m88, en_m89, en_m90, en_m91, en_m92, en_m93, en_m94, en_m95], en_okm m := List.forall_mem_cons.mpr ⟨en_k80, List.forall_mem_cons.mpr ⟨en_k81, List.forall_mem_cons.mpr ⟨en_k82, List.forall_mem_cons.mpr ⟨en_k83, List.forall_mem_cons.mpr ⟨en_k84, List.forall_mem_cons.mpr ⟨en_k85, List.forall_mem_cons.mpr ⟨en_k86, List.forall_mem_cons.mpr ⟨en_k87, List.forall_mem_cons.mpr ⟨en_k88, List.forall_mem_cons.mpr ⟨en_k89, List.forall_mem_cons.mpr ⟨en_k90, List.forall_mem_cons.mpr ⟨en_k91, List.forall_mem_cons.mpr ⟨en_k92, List.forall_mem_cons.mpr ⟨en_k93, List.forall_mem_cons.mpr ⟨en_k94, List.forall_mem_cons.mpr ⟨en_k95, fun _ h => absurd h List.not_mem_nil⟩⟩⟩⟩⟩⟩⟩⟩⟩⟩⟩⟩⟩⟩⟩⟩
theorem en_kk6 : ∀ m ∈ [en_m96, en_m97, en_m98, en_m99, en_m100, en_m101, en_m102, en_m103, en_m104, en_m105, en_m106, en_m107, en_m108, en_m109, en_m110, en_m111], en_okm m := List.forall_mem_cons.mpr ⟨en_k96, List.forall_mem_cons.mpr ⟨en_k97, List.forall_mem_cons.mpr ⟨en_k98, List.forall_mem_cons.mpr ⟨en_k99, List.forall_mem_cons.mpr ⟨en_k100, List.forall_mem_cons.mpr ⟨en_k101, List.forall_mem_cons.mpr ⟨en_k102, List.forall_mem_cons.mpr ⟨en_k103, List.forall_mem_cons.mpr ⟨en_k104, List.forall_mem_cons.mpr ⟨en_k105, List.forall_mem_cons.mpr ⟨en_k106, List.forall_mem_cons.mpr ⟨en_k107, List.forall_mem_cons.mpr ⟨en_k108, List.forall_mem_cons.mpr ⟨en_k109, List.forall_mem_cons.mpr ⟨en_k110, List.forall_mem_cons.mpr ⟨en_k111, fun _ h => absurd h List.not_mem_nil⟩⟩⟩⟩⟩⟩⟩⟩⟩⟩⟩⟩⟩⟩⟩⟩
theorem en_kk7 : ∀ m ∈ [en_m112, en_m113, en_m114, en_m115, en_m116, en_m117, en_m118, en_m119, en_m120, en_m121, en_m122, en_m123, en_m124, en_m125, en_m126, en_m127], en_okm m := List.forall_mem_cons.mpr ⟨en_k112, List.forall_mem_cons.mpr ⟨en_k113, List.forall_mem_cons.mpr ⟨en_k114, List.forall_mem_cons.mpr ⟨en_k115, List.forall_mem_cons.mpr ⟨en_k116, List.forall_mem_cons.mpr ⟨en_k117, List.forall_mem_cons.mpr ⟨en_k118, List.forall_mem_cons.mpr ⟨en_k119, List.forall_mem_cons.mpr ⟨en_k120, List.forall_mem_cons.mpr ⟨en_k121, List.forall_mem_cons.mpr ⟨en_k122, List.forall_mem_cons.mpr ⟨en_k123, List.forall_mem_cons.mpr ⟨en_k124, List.forall_mem_cons.mpr ⟨en_k125, List.forall_mem_cons.mpr ⟨en_k126, List.forall_mem_cons.mpr ⟨en_k127, fun _ h => absurd h List.not_mem_nil⟩⟩⟩⟩⟩⟩⟩⟩⟩⟩⟩⟩⟩⟩⟩⟩
theorem en_kk8 : ∀ m ∈ [en_m128], en_okm m := List.forall_mem_cons.mpr ⟨en_k128, fun _ h => absurd h List.not_mem_nil⟩
set_option maxRecDepth 100000 in
theorem en_M_ok : ∀ m ∈ en_M, en_okm m := by
  show ∀ m ∈ [en_m0, en_m1, en_m2, en_m3, en_m4, en_m5, en_m6, en_m7, en_m8, en_m9, en_m10, en_m11, en_m12, en_m13, en_m14, en_m15] ++ ([en_m16, en_m17, en_m18, en_m19, en_m20, en_m21, en_m22, en_m23, en_m24, en_m25, en_m26, en_m27, en_m28, en_m29, en_m30, en_m31] ++ ([en_m32, en_m33, en_m34, en_m35, en_m36, en_m37, en_m38, en_m39, en_m40, en_m41, en_m42, en_m43, en_m44, en_m45, en_m46, en_m47] ++ ([en_m48, en_m49, en_m50, en_m51, en_m52, en_m53, en_m54, en_m55, en_m56, en_m57, en_m58, en_m59, en_m60, en_m61, en_m62, en_m63] ++ ([en_m64, en_m65, en_m66, en_m67, en_m68, en_m69, en_m70, en_m71, en_m72, en_m73, en_m74, en_m75, en_m76, en_m77, en_m78, en_m79] ++ ([en_m80, en_m81, en_m82, en_m83, en_m84, en_m85, en_m86, en_m87, en_m88, en_m89, en_m90, en_m91, en_m92, en_m93, en_m94, en_m95] ++ ([en_m96, en_m97, en_m98, en_m99, en_m100, en_m101, en_m102, en_m103, en_m104, en_m105, en_m106, en_m107, en_m108, en_m109, en_m110, en_m111] ++ ([en_m112, en_m113, en_m114, en_m115, en_m116, en_m117, en_m118, en_m119, en_m120, en_m121, en_m122, en_m123, en_m124, en_m125, en_m126, en_m127] ++ ([en_m128])))))))), en_okm m
  exact List.forall_mem_append.mpr ⟨en_kk0, List.forall_mem_append.mpr ⟨en_kk1, List.forall_mem_append.mpr ⟨en_kk2, List.forall_mem_append.mpr ⟨en_kk3, List.forall_mem_append.mpr ⟨en_kk4, List.forall_mem_append.mpr ⟨en_kk5, List.forall_mem_append.mpr ⟨en_kk6, List.forall_mem_append.mpr ⟨en_kk7, en_kk8⟩⟩⟩⟩⟩⟩⟩⟩
theorem en_cd_all {y pc : Nat} {q : en_I} (h : en_cd y pc = some q) : decode (en_mb y) pc = .ok (q.1, q.2.1) ∧ en_fit (en_mo y) q = true := by
  unfold en_cd at h
  cases hf : (en_me y).2.2.2.find? (fun e => e.1 == pc) with
  | none => rw [hf] at h; cases h
  | some e =>
    rw [hf] at h
    cases h
    have h1 := List.mem_of_find?_eq_some hf
    have h2 : e.1 = pc := by simpa using List.find?_some hf
    subst h2
    have hm : en_me y ∈ en_M := by
      unfold en_me at h1 ⊢
      by_cases hy : y < en_M.length
      · exact en_getD_m hy
      · rw [en_getD_d (Nat.le_of_not_lt hy)] at h1
        cases h1
    exact en_M_ok _ hm e h1
theorem en_cd_ok {y pc : Nat} {q : en_I} (h : en_cd y pc = some q) : decode (en_mb y) pc = .ok (q.1, q.2.1) := (en_cd_all h).1
def en_flw (e : Nat × Nat × Nat × Nat) : Cond := .fieldLink (en_cn e.1) e.2.1 (en_Ft (en_kc e.2.2.1) e.2.2.2).1 (en_Ft (en_kc e.2.2.1) e.2.2.2).2.1 (en_Ft (en_kc e.2.2.1) e.2.2.2).2.2.1
set_option maxRecDepth 100000 in
theorem en_flF_ok : ∀ q ∈ en_flF, lw_tbl[q.2]? = some (en_flw q.1) ∧ en_kt q.1.2.2.1 = 0 ∧ q.1.2.2.2 < en_N (en_kc q.1.2.2.1) := by decide +kernel
theorem en_fl_ok {o i k j : Nat} (h : (en_flF.map (·.1)).contains (o, i, k, j) = true) : en_kt k = 0 ∧ j < en_N (en_kc k) ∧ Cond.fieldLink (en_cn o) i (en_Ft (en_kc k) j).1 (en_Ft (en_kc k) j).2.1 (en_Ft (en_kc k) j).2.2.1 ∈ en_all := by
  have h1 : (o, i, k, j) ∈ en_flF.map (·.1) := by simpa using h
  obtain ⟨q, hq, e⟩ := List.mem_map.mp h1
  obtain ⟨a1, a2, a3⟩ := en_flF_ok q hq
  rw [e] at a1 a2 a3
  exact ⟨a2, a3, en_all_m q.2 a1 rfl⟩
def en_mlc (q : (Nat × Nat × Nat) × (Nat × Nat × Nat × Nat)) : Prop := q.1.2.2 < 128 ∧ lw_tbl[q.2.1]? = some (.methodLink (en_cn q.1.1) q.1.2.1 (en_my q.1.2.2)) ∧
  (en_ms q.1.2.2 = false → lw_tbl[q.2.2.1]? = some (.instanceMethod (en_my q.1.2.2)) ∧ lw_tbl[q.2.2.2.1]? = some (.selects (en_my q.1.2.2).cls (en_my q.1.2.2) (en_my q.1.2.2)) ∧ lw_tbl[q.2.2.2.2]? = some (.initialized (en_my q.1.2.2).cls) ∧ en_kt (en_mk q.1.2.2) = 0 ∧ en_cn (en_kc (en_mk q.1.2.2)) = (en_my q.1.2.2).cls) ∧
  (en_ms q.1.2.2 = true → lw_tbl[q.2.2.1]? = some (.static (en_my q.1.2.2)) ∧ lw_tbl[q.2.2.2.2]? = some (.initialized (en_my q.1.2.2).cls) ∧ (en_my q.1.2.2).cls = en_cn q.1.1)
set_option maxRecDepth 100000 in
theorem en_mlF_ok : ∀ q ∈ en_mlF, en_mlc q := by unfold en_mlc; decide +kernel
theorem en_ml_ok {o i y : Nat} (h : (en_mlF.map (·.1)).contains (o, i, y) = true) : en_va y = true ∧ Cond.methodLink (en_cn o) i (en_my y) ∈ en_all ∧
    (en_ms y = false → Cond.instanceMethod (en_my y) ∈ en_all ∧ Cond.selects (en_my y).cls (en_my y) (en_my y) ∈ en_all ∧ Cond.initialized (en_my y).cls ∈ en_all ∧ en_kt (en_mk y) = 0 ∧ en_cn (en_kc (en_mk y)) = (en_my y).cls) ∧
    (en_ms y = true → Cond.static (en_my y) ∈ en_all ∧ Cond.initialized (en_my y).cls ∈ en_all ∧ (en_my y).cls = en_cn o) := by
  have h1 : (o, i, y) ∈ en_mlF.map (·.1) := by simpa using h
  obtain ⟨q, hq, e⟩ := List.mem_map.mp h1
  obtain ⟨a1, a2, a3, a4⟩ := en_mlF_ok q hq
  rw [e] at a1 a2 a3 a4
  refine ⟨by unfold en_va; exact decide_eq_true a1, en_all_m _ a2 rfl, fun z => ?_, fun z => ?_⟩
  · obtain ⟨b1, b2, b3, b4, b5⟩ := a3 z
    exact ⟨en_all_m _ b1 rfl, en_all_m _ b2 rfl, en_all_m _ b3 rfl, b4, b5⟩
  · obtain ⟨b1, b2, b3⟩ := a4 z
    exact ⟨en_all_m _ b1 rfl, en_all_m _ b2 rfl, b3⟩
set_option maxRecDepth 100000 in
theorem en_lays_ok : ∀ c, c < 8 → ∀ w ∈ u_ws (en_cn c) (en_Ft c) (en_N c), w ∈ lw_tbl ∧ goodWord w = true := by decide +kernel
set_option maxRecDepth 100000 in
theorem en_kc_ok : ∀ k, k < 61 → en_kt k = 0 → en_kc k < 8 := by decide +kernel
theorem en_kt_lt {k : Nat} (h : en_kt k = 0) : k < 61 := by
  by_cases hk : k < 61
  · exact hk
  · unfold en_kt at h
    rw [en_getD_d (by simpa using Nat.le_of_not_lt hk)] at h
    cases h
theorem en_c8 {k : Nat} (h : en_kt k = 0) : en_kc k < 8 := en_kc_ok k (en_kt_lt h) h
theorem en_lay_ok {k : Nat} (h : en_kt k = 0) (w : Cond) (hw : w ∈ u_ws (en_cn (en_kc k)) (en_Ft (en_kc k)) (en_N (en_kc k))) : w ∈ en_all := by
  obtain ⟨a, b⟩ := en_lays_ok _ (en_c8 h) w hw
  exact List.mem_filter.mpr ⟨a, b⟩
theorem en_cl_all : ∀ c, c < 8 → en_cl[c]? = some (en_cn c, en_Ft c, en_N c) := by
  intro c hc
  match c, hc with
  | 0, _ => rfl
  | 1, _ => rfl
  | 2, _ => rfl
  | 3, _ => rfl
  | 4, _ => rfl
  | 5, _ => rfl
  | 6, _ => rfl
  | 7, _ => rfl
theorem en_cl_ok {k : Nat} (h : en_kt k = 0) : en_cl[en_kc k]? = some (en_cn (en_kc k), en_Ft (en_kc k), en_N (en_kc k)) := en_cl_all _ (en_c8 h)
set_option maxRecDepth 100000 in
theorem en_ty_all : ∀ c, c < 8 → ∀ k, k < en_N c → parseFieldDescriptor (en_Ft c k).2.2.1 = some (en_ty c k) := by decide +kernel
theorem en_ty_ok {k : Nat} (h : en_kt k = 0) : ∀ j, j < en_N (en_kc k) → parseFieldDescriptor (en_Ft (en_kc k) j).2.2.1 = some (en_ty (en_kc k) j) := en_ty_all _ (en_c8 h)
set_option maxRecDepth 100000 in
theorem en_nm_all : ∀ c, c < 8 → ∀ a, a < en_N c → ∀ b, b < en_N c → a ≠ b → (en_Ft c a).2.1 ≠ (en_Ft c b).2.1 := by decide +kernel
theorem en_nm_ok {k : Nat} (h : en_kt k = 0) : ∀ a, a < en_N (en_kc k) → ∀ b, b < en_N (en_kc k) → a ≠ b → (en_Ft (en_kc k) a).2.1 ≠ (en_Ft (en_kc k) b).2.1 := en_nm_all _ (en_c8 h)
set_option maxRecDepth 100000 in
theorem en_pw_all : ∀ k, k < 17 → ∀ j, j < 47 → (en_pw k j = 1 → en_fr k j = none ∧ (en_Ft (en_kc k) j).2.2.2 = false ∧ parseFieldDescriptor (en_Ft (en_kc k) j).2.2.1 = some .int) ∧ (en_pw k j = 2 → en_fr k j = none ∧ (en_Ft (en_kc k) j).2.2.2 = false ∧ parseFieldDescriptor (en_Ft (en_kc k) j).2.2.1 = some .boolean) := by decide +kernel
theorem en_pw_lt {k j : Nat} (h : en_pw k j ≠ 0) : k < 17 ∧ j < 47 := by
  unfold en_pw at h
  constructor
  · by_cases hk : k < 17
    · exact hk
    · rw [en_getD_d (l := en_pwL) (Nat.le_of_not_lt (show ¬ k < en_pwL.length from hk))] at h
      exact absurd rfl h
  · by_cases hj : j < 47
    · exact hj
    · exfalso
      apply h
      apply en_getD_d
      by_cases hk : k < en_pwL.length
      · have hh : ∀ l ∈ en_pwL, l.length ≤ 47 := by decide +kernel
        exact Nat.le_trans (hh _ (en_getD_m hk)) (Nat.le_of_not_lt hj)
      · rw [en_getD_d (Nat.le_of_not_lt hk)]
        exact Nat.zero_le _
theorem en_pw_1 {k j : Nat} (h : en_pw k j = 1) : en_fr k j = none ∧ (en_Ft (en_kc k) j).2.2.2 = false ∧ parseFieldDescriptor (en_Ft (en_kc k) j).2.2.1 = some .int := by
  obtain ⟨a, b⟩ := en_pw_lt (k := k) (j := j) (by rw [h]; decide)
  exact (en_pw_all k a j b).1 h
theorem en_pw_2 {k j : Nat} (h : en_pw k j = 2) : en_fr k j = none ∧ (en_Ft (en_kc k) j).2.2.2 = false ∧ parseFieldDescriptor (en_Ft (en_kc k) j).2.2.1 = some .boolean := by
  obtain ⟨a, b⟩ := en_pw_lt (k := k) (j := j) (by rw [h]; decide)
  exact (en_pw_all k a j b).2 h
theorem en_cnt_lt {k i : Nat} (h : i < en_cnt k) : k < 63 := by
  by_cases hk : k < 63
  · exact hk
  · unfold en_cnt at h
    have hl : en_cntL.length ≤ 63 := by decide +kernel
    rw [en_getD_d (Nat.le_trans hl (Nat.le_of_not_lt hk))] at h
    exact absurd h (Nat.not_lt_zero i)
set_option maxRecDepth 100000 in
theorem en_allc_nd : en_allc.Nodup := by decide +kernel
def en_ret (n : Nat) : Option FieldType := match n with
  | 0 => none
  | 1 => some .int
  | _ => some .boolean
def en_cwm (m : en_Me) : Prop := Cond.code m.1 m.2.1 m.2.2.1.1 (en_ret m.2.2.1.2.1) ∈ lw_tbl
set_option maxRecDepth 100000 in
theorem en_cw0 : en_cwm en_m0 := List.mem_of_getElem? (i := 345) rfl
set_option maxRecDepth 100000 in
theorem en_cw1 : en_cwm en_m1 := List.mem_of_getElem? (i := 353) rfl
set_option maxRecDepth 100000 in
theorem en_cw2 : en_cwm en_m2 := List.mem_of_getElem? (i := 639) rfl
set_option maxRecDepth 100000 in
theorem en_cw3 : en_cwm en_m3 := List.mem_of_getElem? (i := 590) rfl
set_option maxRecDepth 100000 in
theorem en_cw4 : en_cwm en_m4 := List.mem_of_getElem? (i := 484) rfl
set_option maxRecDepth 100000 in
theorem en_cw5 : en_cwm en_m5 := List.mem_of_getElem? (i := 594) rfl
set_option maxRecDepth 100000 in
theorem en_cw6 : en_cwm en_m6 := List.mem_of_getElem? (i := 598) rfl
set_option maxRecDepth 100000 in
theorem en_cw7 : en_cwm en_m7 := List.mem_of_getElem? (i := 488) rfl
set_option maxRecDepth 100000 in
theorem en_cw8 : en_cwm en_m8 := List.mem_of_getElem? (i := 574) rfl
set_option maxRecDepth 100000 in
theorem en_cw9 : en_cwm en_m9 := List.mem_of_getElem? (i := 578) rfl
set_option maxRecDepth 100000 in
theorem en_cw10 : en_cwm en_m10 := List.mem_of_getElem? (i := 607) rfl
set_option maxRecDepth 100000 in
theorem en_cw11 : en_cwm en_m11 := List.mem_of_getElem? (i := 631) rfl
set_option maxRecDepth 100000 in
theorem en_cw12 : en_cwm en_m12 := List.mem_of_getElem? (i := 400) rfl
set_option maxRecDepth 100000 in
theorem en_cw13 : en_cwm en_m13 := List.mem_of_getElem? (i := 384) rfl
set_option maxRecDepth 100000 in
theorem en_cw14 : en_cwm en_m14 := List.mem_of_getElem? (i := 452) rfl
set_option maxRecDepth 100000 in
theorem en_cw15 : en_cwm en_m15 := List.mem_of_getElem? (i := 505) rfl
set_option maxRecDepth 100000 in
theorem en_cw16 : en_cwm en_m16 := List.mem_of_getElem? (i := 651) rfl
set_option maxRecDepth 100000 in
theorem en_cw17 : en_cwm en_m17 := List.mem_of_getElem? (i := 341) rfl
set_option maxRecDepth 100000 in
theorem en_cw18 : en_cwm en_m18 := List.mem_of_getElem? (i := 349) rfl
set_option maxRecDepth 100000 in
theorem en_cw19 : en_cwm en_m19 := List.mem_of_getElem? (i := 464) rfl
set_option maxRecDepth 100000 in
theorem en_cw20 : en_cwm en_m20 := List.mem_of_getElem? (i := 376) rfl
set_option maxRecDepth 100000 in
theorem en_cw21 : en_cwm en_m21 := List.mem_of_getElem? (i := 586) rfl
set_option maxRecDepth 100000 in
theorem en_cw22 : en_cwm en_m22 := List.mem_of_getElem? (i := 476) rfl
set_option maxRecDepth 100000 in
theorem en_cw23 : en_cwm en_m23 := List.mem_of_getElem? (i := 493) rfl
set_option maxRecDepth 100000 in
theorem en_cw24 : en_cwm en_m24 := List.mem_of_getElem? (i := 472) rfl
set_option maxRecDepth 100000 in
theorem en_cw25 : en_cwm en_m25 := List.mem_of_getElem? (i := 480) rfl
set_option maxRecDepth 100000 in
theorem en_cw26 : en_cwm en_m26 := List.mem_of_getElem? (i := 334) rfl
set_option maxRecDepth 100000 in
theorem en_cw27 : en_cwm en_m27 := List.mem_of_getElem? (i := 396) rfl
set_option maxRecDepth 100000 in
theorem en_cw28 : en_cwm en_m28 := List.mem_of_getElem? (i := 365) rfl
set_option maxRecDepth 100000 in
theorem en_cw29 : en_cwm en_m29 := List.mem_of_getElem? (i := 432) rfl
set_option maxRecDepth 100000 in
theorem en_cw30 : en_cwm en_m30 := List.mem_of_getElem? (i := 525) rfl
set_option maxRecDepth 100000 in
theorem en_cw31 : en_cwm en_m31 := List.mem_of_getElem? (i := 546) rfl
set_option maxRecDepth 100000 in
theorem en_cw32 : en_cwm en_m32 := List.mem_of_getElem? (i := 497) rfl
set_option maxRecDepth 100000 in
theorem en_cw33 : en_cwm en_m33 := List.mem_of_getElem? (i := 320) rfl
set_option maxRecDepth 100000 in
theorem en_cw34 : en_cwm en_m34 := List.mem_of_getElem? (i := 361) rfl
set_option maxRecDepth 100000 in
theorem en_cw35 : en_cwm en_m35 := List.mem_of_getElem? (i := 372) rfl
set_option maxRecDepth 100000 in
theorem en_cw36 : en_cwm en_m36 := List.mem_of_getElem? (i := 380) rfl
set_option maxRecDepth 100000 in
theorem en_cw37 : en_cwm en_m37 := List.mem_of_getElem? (i := 388) rfl
set_option maxRecDepth 100000 in
theorem en_cw38 : en_cwm en_m38 := List.mem_of_getElem? (i := 404) rfl
set_option maxRecDepth 100000 in
theorem en_cw39 : en_cwm en_m39 := List.mem_of_getElem? (i := 408) rfl
set_option maxRecDepth 100000 in
theorem en_cw40 : en_cwm en_m40 := List.mem_of_getElem? (i := 611) rfl
set_option maxRecDepth 100000 in
theorem en_cw41 : en_cwm en_m41 := List.mem_of_getElem? (i := 615) rfl
set_option maxRecDepth 100000 in
theorem en_cw42 : en_cwm en_m42 := List.mem_of_getElem? (i := 619) rfl
set_option maxRecDepth 100000 in
theorem en_cw43 : en_cwm en_m43 := List.mem_of_getElem? (i := 627) rfl
set_option maxRecDepth 100000 in
theorem en_cw44 : en_cwm en_m44 := List.mem_of_getElem? (i := 635) rfl
set_option maxRecDepth 100000 in
theorem en_cw45 : en_cwm en_m45 := List.mem_of_getElem? (i := 643) rfl
set_option maxRecDepth 100000 in
theorem en_cw46 : en_cwm en_m46 := List.mem_of_getElem? (i := 647) rfl
set_option maxRecDepth 100000 in
theorem en_cw47 : en_cwm en_m47 := List.mem_of_getElem? (i := 655) rfl
set_option maxRecDepth 100000 in
theorem en_cw48 : en_cwm en_m48 := List.mem_of_getElem? (i := 659) rfl
set_option maxRecDepth 100000 in
theorem en_cw49 : en_cwm en_m49 := List.mem_of_getElem? (i := 327) rfl
set_option maxRecDepth 100000 in
theorem en_cw50 : en_cwm en_m50 := List.mem_of_getElem? (i := 330) rfl
set_option maxRecDepth 100000 in
theorem en_cw51 : en_cwm en_m51 := List.mem_of_getElem? (i := 368) rfl
set_option maxRecDepth 100000 in
theorem en_cw52 : en_cwm en_m52 := List.mem_of_getElem? (i := 324) rfl
set_option maxRecDepth 100000 in
theorem en_cw53 : en_cwm en_m53 := List.mem_of_getElem? (i := 337) rfl
set_option maxRecDepth 100000 in
theorem en_cw54 : en_cwm en_m54 := List.mem_of_getElem? (i := 357) rfl
set_option maxRecDepth 100000 in
theorem en_cw55 : en_cwm en_m55 := List.mem_of_getElem? (i := 412) rfl
set_option maxRecDepth 100000 in
theorem en_cw56 : en_cwm en_m56 := List.mem_of_getElem? (i := 416) rfl
set_option maxRecDepth 100000 in
theorem en_cw57 : en_cwm en_m57 := List.mem_of_getElem? (i := 420) rfl
set_option maxRecDepth 100000 in
theorem en_cw58 : en_cwm en_m58 := List.mem_of_getElem? (i := 424) rfl
set_option maxRecDepth 100000 in
theorem en_cw59 : en_cwm en_m59 := List.mem_of_getElem? (i := 428) rfl
set_option maxRecDepth 100000 in
theorem en_cw60 : en_cwm en_m60 := List.mem_of_getElem? (i := 501) rfl
set_option maxRecDepth 100000 in
theorem en_cw61 : en_cwm en_m61 := List.mem_of_getElem? (i := 554) rfl
set_option maxRecDepth 100000 in
theorem en_cw62 : en_cwm en_m62 := List.mem_of_getElem? (i := 456) rfl
set_option maxRecDepth 100000 in
theorem en_cw63 : en_cwm en_m63 := List.mem_of_getElem? (i := 460) rfl
set_option maxRecDepth 100000 in
theorem en_cw64 : en_cwm en_m64 := List.mem_of_getElem? (i := 534) rfl
set_option maxRecDepth 100000 in
theorem en_cw65 : en_cwm en_m65 := List.mem_of_getElem? (i := 538) rfl
set_option maxRecDepth 100000 in
theorem en_cw66 : en_cwm en_m66 := List.mem_of_getElem? (i := 542) rfl
set_option maxRecDepth 100000 in
theorem en_cw67 : en_cwm en_m67 := List.mem_of_getElem? (i := 582) rfl
set_option maxRecDepth 100000 in
theorem en_cw68 : en_cwm en_m68 := List.mem_of_getElem? (i := 448) rfl
set_option maxRecDepth 100000 in
theorem en_cw69 : en_cwm en_m69 := List.mem_of_getElem? (i := 468) rfl
set_option maxRecDepth 100000 in
theorem en_cw70 : en_cwm en_m70 := List.mem_of_getElem? (i := 436) rfl
set_option maxRecDepth 100000 in
theorem en_cw71 : en_cwm en_m71 := List.mem_of_getElem? (i := 440) rfl
set_option maxRecDepth 100000 in
theorem en_cw72 : en_cwm en_m72 := List.mem_of_getElem? (i := 444) rfl
set_option maxRecDepth 100000 in
theorem en_cw73 : en_cwm en_m73 := List.mem_of_getElem? (i := 509) rfl
set_option maxRecDepth 100000 in
theorem en_cw74 : en_cwm en_m74 := List.mem_of_getElem? (i := 513) rfl
set_option maxRecDepth 100000 in
theorem en_cw75 : en_cwm en_m75 := List.mem_of_getElem? (i := 517) rfl
set_option maxRecDepth 100000 in
theorem en_cw76 : en_cwm en_m76 := List.mem_of_getElem? (i := 521) rfl
set_option maxRecDepth 100000 in
theorem en_cw77 : en_cwm en_m77 := List.mem_of_getElem? (i := 530) rfl
set_option maxRecDepth 100000 in
theorem en_cw78 : en_cwm en_m78 := List.mem_of_getElem? (i := 550) rfl
set_option maxRecDepth 100000 in
theorem en_cw79 : en_cwm en_m79 := List.mem_of_getElem? (i := 558) rfl
set_option maxRecDepth 100000 in
theorem en_cw80 : en_cwm en_m80 := List.mem_of_getElem? (i := 562) rfl
set_option maxRecDepth 100000 in
theorem en_cw81 : en_cwm en_m81 := List.mem_of_getElem? (i := 570) rfl
set_option maxRecDepth 100000 in
theorem en_cw82 : en_cwm en_m82 := List.mem_of_getElem? (i := 603) rfl
set_option maxRecDepth 100000 in
theorem en_cw83 : en_cwm en_m83 := List.mem_of_getElem? (i := 623) rfl
set_option maxRecDepth 100000 in
theorem en_cw84 : en_cwm en_m84 := List.mem_of_getElem? (i := 392) rfl
set_option maxRecDepth 100000 in
theorem en_cw85 : en_cwm en_m85 := List.mem_of_getElem? (i := 566) rfl
set_option maxRecDepth 100000 in
theorem en_cw86 : en_cwm en_m86 := List.mem_of_getElem? (i := 815) rfl
set_option maxRecDepth 100000 in
theorem en_cw87 : en_cwm en_m87 := List.mem_of_getElem? (i := 818) rfl
set_option maxRecDepth 100000 in
theorem en_cw88 : en_cwm en_m88 := List.mem_of_getElem? (i := 821) rfl
set_option maxRecDepth 100000 in
theorem en_cw89 : en_cwm en_m89 := List.mem_of_getElem? (i := 825) rfl
set_option maxRecDepth 100000 in
theorem en_cw90 : en_cwm en_m90 := List.mem_of_getElem? (i := 812) rfl
set_option maxRecDepth 100000 in
theorem en_cw91 : en_cwm en_m91 := List.mem_of_getElem? (i := 833) rfl
set_option maxRecDepth 100000 in
theorem en_cw92 : en_cwm en_m92 := List.mem_of_getElem? (i := 829) rfl
set_option maxRecDepth 100000 in
theorem en_cw93 : en_cwm en_m93 := List.mem_of_getElem? (i := 837) rfl
set_option maxRecDepth 100000 in
theorem en_cw94 : en_cwm en_m94 := List.mem_of_getElem? (i := 841) rfl
set_option maxRecDepth 100000 in
theorem en_cw95 : en_cwm en_m95 := List.mem_of_getElem? (i := 889) rfl
set_option maxRecDepth 100000 in
theorem en_cw96 : en_cwm en_m96 := List.mem_of_getElem? (i := 921) rfl
set_option maxRecDepth 100000 in
theorem en_cw97 : en_cwm en_m97 := List.mem_of_getElem? (i := 893) rfl
set_option maxRecDepth 100000 in
theorem en_cw98 : en_cwm en_m98 := List.mem_of_getElem? (i := 897) rfl
set_option maxRecDepth 100000 in
theorem en_cw99 : en_cwm en_m99 := List.mem_of_getElem? (i := 885) rfl
set_option maxRecDepth 100000 in
theorem en_cw100 : en_cwm en_m100 := List.mem_of_getElem? (i := 942) rfl
set_option maxRecDepth 100000 in
theorem en_cw101 : en_cwm en_m101 := List.mem_of_getElem? (i := 873) rfl
set_option maxRecDepth 100000 in
theorem en_cw102 : en_cwm en_m102 := List.mem_of_getElem? (i := 877) rfl
set_option maxRecDepth 100000 in
theorem en_cw103 : en_cwm en_m103 := List.mem_of_getElem? (i := 869) rfl
set_option maxRecDepth 100000 in
theorem en_cw104 : en_cwm en_m104 := List.mem_of_getElem? (i := 901) rfl
set_option maxRecDepth 100000 in
theorem en_cw105 : en_cwm en_m105 := List.mem_of_getElem? (i := 905) rfl
set_option maxRecDepth 100000 in
theorem en_cw106 : en_cwm en_m106 := List.mem_of_getElem? (i := 909) rfl
set_option maxRecDepth 100000 in
theorem en_cw107 : en_cwm en_m107 := List.mem_of_getElem? (i := 913) rfl
set_option maxRecDepth 100000 in
theorem en_cw108 : en_cwm en_m108 := List.mem_of_getElem? (i := 917) rfl
set_option maxRecDepth 100000 in
theorem en_cw109 : en_cwm en_m109 := List.mem_of_getElem? (i := 925) rfl
set_option maxRecDepth 100000 in
theorem en_cw110 : en_cwm en_m110 := List.mem_of_getElem? (i := 845) rfl
set_option maxRecDepth 100000 in
theorem en_cw111 : en_cwm en_m111 := List.mem_of_getElem? (i := 881) rfl
set_option maxRecDepth 100000 in
theorem en_cw112 : en_cwm en_m112 := List.mem_of_getElem? (i := 934) rfl
set_option maxRecDepth 100000 in
theorem en_cw113 : en_cwm en_m113 := List.mem_of_getElem? (i := 853) rfl
set_option maxRecDepth 100000 in
theorem en_cw114 : en_cwm en_m114 := List.mem_of_getElem? (i := 849) rfl
set_option maxRecDepth 100000 in
theorem en_cw115 : en_cwm en_m115 := List.mem_of_getElem? (i := 857) rfl
set_option maxRecDepth 100000 in
theorem en_cw116 : en_cwm en_m116 := List.mem_of_getElem? (i := 938) rfl
set_option maxRecDepth 100000 in
theorem en_cw117 : en_cwm en_m117 := List.mem_of_getElem? (i := 930) rfl
set_option maxRecDepth 100000 in
theorem en_cw118 : en_cwm en_m118 := List.mem_of_getElem? (i := 865) rfl
set_option maxRecDepth 100000 in
theorem en_cw119 : en_cwm en_m119 := List.mem_of_getElem? (i := 861) rfl
set_option maxRecDepth 100000 in
theorem en_cw120 : en_cwm en_m120 := List.mem_of_getElem? (i := 946) rfl
set_option maxRecDepth 100000 in
theorem en_cw121 : en_cwm en_m121 := List.mem_of_getElem? (i := 950) rfl
set_option maxRecDepth 100000 in
theorem en_cw122 : en_cwm en_m122 := List.mem_of_getElem? (i := 954) rfl
set_option maxRecDepth 100000 in
theorem en_cw123 : en_cwm en_m123 := List.mem_of_getElem? (i := 958) rfl
set_option maxRecDepth 100000 in
theorem en_cw124 : en_cwm en_m124 := List.mem_of_getElem? (i := 962) rfl
set_option maxRecDepth 100000 in
theorem en_cw125 : en_cwm en_m125 := List.mem_of_getElem? (i := 966) rfl
set_option maxRecDepth 100000 in
theorem en_cw126 : en_cwm en_m126 := List.mem_of_getElem? (i := 970) rfl
set_option maxRecDepth 100000 in
theorem en_cw127 : en_cwm en_m127 := List.mem_of_getElem? (i := 974) rfl
theorem en_cww0 : ∀ m ∈ [en_m0, en_m1, en_m2, en_m3, en_m4, en_m5, en_m6, en_m7, en_m8, en_m9, en_m10, en_m11, en_m12, en_m13, en_m14, en_m15], en_cwm m := List.forall_mem_cons.mpr ⟨en_cw0, List.forall_mem_cons.mpr ⟨en_cw1, List.forall_mem_cons.mpr ⟨en_cw2, List.forall_mem_cons.mpr ⟨en_cw3, List.forall_mem_cons.mpr ⟨en_cw4, List.forall_mem_cons.mpr ⟨en_cw5, List.forall_mem_cons.mpr ⟨en_cw6, List.forall_mem_cons.mpr ⟨en_cw7, List.forall_mem_cons.mpr ⟨en_cw8, List.forall_mem_cons.mpr ⟨en_cw9, List.forall_mem_cons.mpr ⟨en_cw10, List.forall_mem_cons.mpr ⟨en_cw11, List.forall_mem_cons.mpr ⟨en_cw12, List.forall_mem_cons.mpr ⟨en_cw13, List.forall_mem_cons.mpr ⟨en_cw14, List.forall_mem_cons.mpr ⟨en_cw15, fun _ h => absurd h List.not_mem_nil⟩⟩⟩⟩⟩⟩⟩⟩⟩⟩⟩⟩⟩⟩⟩⟩
theorem en_cww1 : ∀ m ∈ [en_m16, en_m17, en_m18, en_m19, en_m20, en_m21, en_m22, en_m23, en_m24, en_m25, en_m26, en_m27, en_m28, en_m29, en_m30, en_m31], en_cwm m := List.forall_mem_cons.mpr ⟨en_cw16, List.forall_mem_cons.mpr ⟨en_cw17, List.forall_mem_cons.mpr ⟨en_cw18, List.forall_mem_cons.mpr ⟨en_cw19, List.forall_mem_cons.mpr ⟨en_cw20, List.forall_mem_cons.mpr ⟨en_cw21, List.forall_mem_cons.mpr ⟨en_cw22, List.forall_mem_cons.mpr ⟨en_cw23, List.forall_mem_cons.mpr ⟨en_cw24, List.forall_mem_cons.mpr ⟨en_cw25, List.forall_mem_cons.mpr ⟨en_cw26, List.forall_mem_cons.mpr ⟨en_cw27, List.forall_mem_cons.mpr ⟨en_cw28, List.forall_mem_cons.mpr ⟨en_cw29, List.forall_mem_cons.mpr ⟨en_cw30, List.forall_mem_cons.mpr ⟨en_cw31, fun _ h => absurd h List.not_mem_nil⟩⟩⟩⟩⟩⟩⟩⟩⟩⟩⟩⟩⟩⟩⟩⟩
theorem en_cww2 : ∀ m ∈ [en_m32, en_m33, en_m34, en_m35, en_m36, en_m37, en_m38, en_m39, en_m40, en_m41, en_m42, en_m43, en_m44, en_m45, en_m46, en_m47], en_cwm m := List.forall_mem_cons.mpr ⟨en_cw32, List.forall_mem_cons.mpr ⟨en_cw33, List.forall_mem_cons.mpr ⟨en_cw34, List.forall_mem_cons.mpr ⟨en_cw35, List.forall_mem_cons.mpr ⟨en_cw36, List.forall_mem_cons.mpr ⟨en_cw37, List.forall_mem_cons.mpr ⟨en_cw38, List.forall_mem_cons.mpr ⟨en_cw39, List.forall_mem_cons.mpr ⟨en_cw40, List.forall_mem_cons.mpr ⟨en_cw41, List.forall_mem_cons.mpr ⟨en_cw42, List.forall_mem_cons.mpr ⟨en_cw43, List.forall_mem_cons.mpr ⟨en_cw44, List.forall_mem_cons.mpr ⟨en_cw45, List.forall_mem_cons.mpr ⟨en_cw46, List.forall_mem_cons.mpr ⟨en_cw47, fun _ h => absurd h List.not_mem_nil⟩⟩⟩⟩⟩⟩⟩⟩⟩⟩⟩⟩⟩⟩⟩⟩
theorem en_cww3 : ∀ m ∈ [en_m48, en_m49, en_m50, en_m51, en_m52, en_m53, en_m54, en_m55, en_m56, en_m57, en_m58, en_m59, en_m60, en_m61, en_m62, en_m63], en_cwm m := List.forall_mem_cons.mpr ⟨en_cw48, List.forall_mem_cons.mpr ⟨en_cw49, List.forall_mem_cons.mpr ⟨en_cw50, List.forall_mem_cons.mpr ⟨en_cw51, List.forall_mem_cons.mpr ⟨en_cw52, List.forall_mem_cons.mpr ⟨en_cw53, List.forall_mem_cons.mpr ⟨en_cw54, List.forall_mem_cons.mpr ⟨en_cw55, List.forall_mem_cons.mpr ⟨en_cw56, List.forall_mem_cons.mpr ⟨en_cw57, List.forall_mem_cons.mpr ⟨en_cw58, List.forall_mem_cons.mpr ⟨en_cw59, List.forall_mem_cons.mpr ⟨en_cw60, List.forall_mem_cons.mpr ⟨en_cw61, List.forall_mem_cons.mpr ⟨en_cw62, List.forall_mem_cons.mpr ⟨en_cw63, fun _ h => absurd h List.not_mem_nil⟩⟩⟩⟩⟩⟩⟩⟩⟩⟩⟩⟩⟩⟩⟩⟩
theorem en_cww4 : ∀ m ∈ [en_m64, en_m65, en_m66, en_m67, en_m68, en_m69, en_m70, en_m71, en_m72, en_m73, en_m74, en_m75, en_m76, en_m77, en_m78, en_m79], en_cwm m := List.forall_mem_cons.mpr ⟨en_cw64, List.forall_mem_cons.mpr ⟨en_cw65, List.forall_mem_cons.mpr ⟨en_cw66, List.forall_mem_cons.mpr ⟨en_cw67, List.forall_mem_cons.mpr ⟨en_cw68, List.forall_mem_cons.mpr ⟨en_cw69, List.forall_mem_cons.mpr ⟨en_cw70, List.forall_mem_cons.mpr ⟨en_cw71, List.forall_mem_cons.mpr ⟨en_cw72, List.forall_mem_cons.mpr ⟨en_cw73, List.forall_mem_cons.mpr ⟨en_cw74, List.forall_mem_cons.mpr ⟨en_cw75, List.forall_mem_cons.mpr ⟨en_cw76, List.forall_mem_cons.mpr ⟨en_cw77, List.forall_mem_cons.mpr ⟨en_cw78, List.forall_mem_cons.mpr ⟨en_cw79, fun _ h => absurd h List.not_mem_nil⟩⟩⟩⟩⟩⟩⟩⟩⟩⟩⟩⟩⟩⟩⟩⟩
theorem en_cww5 : ∀ m ∈ [en_m80, en_m81, en_m82, en_m83, en_m84, en_m85, en_m86, en_m87, en_m88, en_m89, en_m90, en_m91, en_m92, en_m93, en_m94, en_m95], en_cwm m := List.forall_mem_cons.mpr ⟨en_cw80, List.forall_mem_cons.mpr ⟨en_cw81, List.forall_mem_cons.mpr ⟨en_cw82, List.forall_mem_cons.mpr ⟨en_cw83, List.forall_mem_cons.mpr ⟨en_cw84, List.forall_mem_cons.mpr ⟨en_cw85, List.forall_mem_cons.mpr ⟨en_cw86, List.forall_mem_cons.mpr ⟨en_cw87, List.forall_mem_cons.mpr ⟨en_cw88, List.forall_mem_cons.mpr ⟨en_cw89, List.forall_mem_cons.mpr ⟨en_cw90, List.forall_mem_cons.mpr ⟨en_cw91, List.forall_mem_cons.mpr ⟨en_cw92, List.forall_mem_cons.mpr ⟨en_cw93, List.forall_mem_cons.mpr ⟨en_cw94, List.forall_mem_cons.mpr ⟨en_cw95, fun _ h => absurd h List.not_mem_nil⟩⟩⟩⟩⟩⟩⟩⟩⟩⟩⟩⟩⟩⟩⟩⟩
theorem en_cww6 : ∀ m ∈ [en_m96, en_m97, en_m98, en_m99, en_m100, en_m101, en_m102, en_m103, en_m104, en_m105, en_m106, en_m107, en_m108, en_m109, en_m110, en_m111], en_cwm m := List.forall_mem_cons.mpr ⟨en_cw96, List.forall_mem_cons.mpr ⟨en_cw97, List.forall_mem_cons.mpr ⟨en_cw98, List.forall_mem_cons.mpr ⟨en_cw99, List.forall_mem_cons.mpr ⟨en_cw100, List.forall_mem_cons.mpr ⟨en_cw101, List.forall_mem_cons.mpr ⟨en_cw102, List.forall_mem_cons.mpr ⟨en_cw103, List.forall_mem_cons.mpr ⟨en_cw104, List.forall_mem_cons.mpr ⟨en_cw105, List.forall_mem_cons.mpr ⟨en_cw106, List.forall_mem_cons.mpr ⟨en_cw107, List.forall_mem_cons.mpr ⟨en_cw108, List.forall_mem_cons.mpr ⟨en_cw109, List.forall_mem_cons.mpr ⟨en_cw110, List.forall_mem_cons.mpr ⟨en_cw111, fun _ h => absurd h List.not_mem_nil⟩⟩⟩⟩⟩⟩⟩⟩⟩⟩⟩⟩⟩⟩⟩⟩
theorem en_cww7 : ∀ m ∈ [en_m112, en_m113, en_m114, en_m115, en_m116, en_m117, en_m118, en_m119, en_m120, en_m121, en_m122, en_m123, en_m124, en_m125, en_m126, en_m127], en_cwm m := List.forall_mem_cons.mpr ⟨en_cw112, List.forall_mem_cons.mpr ⟨en_cw113, List.forall_mem_cons.mpr ⟨en_cw114, List.forall_mem_cons.mpr ⟨en_cw115, List.forall_mem_cons.mpr ⟨en_cw116, List.forall_mem_cons.mpr ⟨en_cw117, List.forall_mem_cons.mpr ⟨en_cw118, List.forall_mem_cons.mpr ⟨en_cw119, List.forall_mem_cons.mpr ⟨en_cw120, List.forall_mem_cons.mpr ⟨en_cw121, List.forall_mem_cons.mpr ⟨en_cw122, List.forall_mem_cons.mpr ⟨en_cw123, List.forall_mem_cons.mpr ⟨en_cw124, List.forall_mem_cons.mpr ⟨en_cw125, List.forall_mem_cons.mpr ⟨en_cw126, List.forall_mem_cons.mpr ⟨en_cw127, fun _ h => absurd h List.not_mem_nil⟩⟩⟩⟩⟩⟩⟩⟩⟩⟩⟩⟩⟩⟩⟩⟩
set_option maxRecDepth 100000 in
theorem en_Mc_ok : ∀ m ∈ en_M.take 128, en_cwm m := by
  show ∀ m ∈ [en_m0, en_m1, en_m2, en_m3, en_m4, en_m5, en_m6, en_m7, en_m8, en_m9, en_m10, en_m11, en_m12, en_m13, en_m14, en_m15] ++ ([en_m16, en_m17, en_m18, en_m19, en_m20, en_m21, en_m22, en_m23, en_m24, en_m25, en_m26, en_m27, en_m28, en_m29, en_m30, en_m31] ++ ([en_m32, en_m33, en_m34, en_m35, en_m36, en_m37, en_m38, en_m39, en_m40, en_m41, en_m42, en_m43, en_m44, en_m45, en_m46, en_m47] ++ ([en_m48, en_m49, en_m50, en_m51, en_m52, en_m53, en_m54, en_m55, en_m56, en_m57, en_m58, en_m59, en_m60, en_m61, en_m62, en_m63] ++ ([en_m64, en_m65, en_m66, en_m67, en_m68, en_m69, en_m70, en_m71, en_m72, en_m73, en_m74, en_m75, en_m76, en_m77, en_m78, en_m79] ++ ([en_m80, en_m81, en_m82, en_m83, en_m84, en_m85, en_m86, en_m87, en_m88, en_m89, en_m90, en_m91, en_m92, en_m93, en_m94, en_m95] ++ ([en_m96, en_m97, en_m98, en_m99, en_m100, en_m101, en_m102, en_m103, en_m104, en_m105, en_m106, en_m107, en_m108, en_m109, en_m110, en_m111] ++ ([en_m112, en_m113, en_m114, en_m115, en_m116, en_m117, en_m118, en_m119, en_m120, en_m121, en_m122, en_m123, en_m124, en_m125, en_m126, en_m127]))))))), en_cwm m
  exact List.forall_mem_append.mpr ⟨en_cww0, List.forall_mem_append.mpr ⟨en_cww1, List.forall_mem_append.mpr ⟨en_cww2, List.forall_mem_append.mpr ⟨en_cww3, List.forall_mem_append.mpr ⟨en_cww4, List.forall_mem_append.mpr ⟨en_cww5, List.forall_mem_append.mpr ⟨en_cww6, en_cww7⟩⟩⟩⟩⟩⟩⟩
theorem en_me_t {y : Nat} (h : y < 128) : en_me y ∈ en_M.take 128 := by
  have hl : 128 ≤ en_M.length := by decide +kernel
  unfold en_me
  rw [List.getD_eq_getElem?_getD, List.getElem?_eq_getElem (Nat.lt_of_lt_of_le h hl)]
  exact List.mem_take_iff_getElem.mpr ⟨y, by omega, rfl⟩
set_option maxRecDepth 100000 in
theorem en_my_all : ∀ y, y < 128 → (en_my y).cls = en_cn (en_mo y) ∧ en_mL y ≤ 8 ∧ ((en_my y).cls ≠ "java/lang/invoke/MethodHandle" ∧ (en_my y).cls ≠ "java/lang/invoke/VarHandle") ∧ (parseMethodDescriptor (en_my y).desc).map (fun d => d.parameters.length) = some (en_np y) ∧ plainName (en_my y).cls = true := by decide +kernel
theorem en_my_ok {y : Nat} (h : en_va y = true) : (en_my y).cls = en_cn (en_mo y) ∧ en_mL y ≤ 8 ∧ (en_my y).cls ≠ "java/lang/invoke/MethodHandle" ∧ (en_my y).cls ≠ "java/lang/invoke/VarHandle" ∧ (parseMethodDescriptor (en_my y).desc).map (fun d => d.parameters.length) = some (en_np y) ∧ plainName (en_my y).cls = true ∧ Cond.code (en_my y) (en_mb y) (en_mL y) (en_mr y) ∈ en_all := by
  have hy : y < 128 := by simpa [en_va] using h
  obtain ⟨a1, a2, a3, a4, a5⟩ := en_my_all y hy
  exact ⟨a1, a2, a3.1, a3.2, a4, a5, List.mem_filter.mpr ⟨en_Mc_ok _ (en_me_t hy), rfl⟩⟩
end
section
/-! THE ENGINE, second part: a step of a method, its runs, its calls; it speaks of the tables of the part before -/
def en_rd (f : en_T) (k i j : Nat) : en_V := match en_fr k j with
  | some k' => .inr (k', i)
  | none => .inl (en_gt f k i j)
def en_gf (pc : Nat) (lo : en_L) (st : List en_V) (f : en_T) (k j : Nat) : Option en_Rs := match st with
  | .inr c :: r => if c.1 = k then if c.2 < en_cnt k then some (.inl (pc, lo, en_rd f k c.2 j :: r, f)) else none else none
  | _ => none
def en_pf (pc : Nat) (lo : en_L) (st : List en_V) (f : en_T) (k j : Nat) : Option en_Rs := match st with
  | .inl x :: .inr c :: r => if c.1 = k then if c.2 < en_cnt k then
      if en_pw k j = 1 then some (.inl (pc, lo, r, en_st f k c.2 j x)) else if en_pw k j = 2 then if en_isz x = true then some (.inl (pc, lo, r, en_st f k c.2 j x)) else none else none
    else none else none
  | _ => none
def en_iald (cs : en_S) (pc : Nat) (lo : en_L) (st : List en_V) (f : en_T) : Option en_Rs := match st with
  | .inl x :: .inr c :: r => if c.1 = 63 then if c.2 < cs.1 then if en_inr x cs.2.1 = true then some (.inl (pc, lo, .inl (cs.2.2 x.toNatClampNeg) :: r, f)) else none else none else
    if en_kt c.1 = 1 then if c.2 < en_cnt c.1 then if en_inr x (en_ln c.1) = true then some (.inl (pc, lo, .inl (en_gt f c.1 c.2 x.toNatClampNeg) :: r, f)) else none else none else none
  | _ => none
def en_zald (pc : Nat) (lo : en_L) (st : List en_V) (f : en_T) : Option en_Rs := match st with
  | .inl x :: .inr c :: r => if en_kt c.1 = 2 then if c.2 < en_cnt c.1 then if en_inr x (en_ln c.1) = true then some (.inl (pc, lo, .inl (en_gt f c.1 c.2 x.toNatClampNeg) :: r, f)) else none else none else none
  | _ => none
def en_iast (pc : Nat) (lo : en_L) (st : List en_V) (f : en_T) : Option en_Rs := match st with
  | .inl v :: .inl x :: .inr c :: r => if en_kt c.1 = 1 then if c.2 < en_cnt c.1 then if en_inr x (en_ln c.1) = true then some (.inl (pc, lo, r, en_st f c.1 c.2 x.toNatClampNeg v)) else none else none else none
  | _ => none
def en_zast (pc : Nat) (lo : en_L) (st : List en_V) (f : en_T) : Option en_Rs := match st with
  | .inl v :: .inl x :: .inr c :: r => if en_kt c.1 = 2 then if c.2 < en_cnt c.1 then if en_inr x (en_ln c.1) = true then if en_isz v = true then some (.inl (pc, lo, r, en_st f c.1 c.2 x.toNatClampNeg v)) else none else none else none else none
  | _ => none
def en_aald (pc : Nat) (lo : en_L) (st : List en_V) (f : en_T) : Option en_Rs := match st with
  | .inl x :: .inr c :: r => if en_kt c.1 = 3 then if c.2 < en_cnt c.1 then if en_inr x (en_ln c.1) = true then some (.inl (pc, lo, .inr (en_tk c.1, x.toNatClampNeg) :: r, f)) else none else none else none
  | _ => none
def en_alen (cs : en_S) (pc : Nat) (lo : en_L) (st : List en_V) (f : en_T) : Option en_Rs := match st with
  | .inr c :: r => if c.1 = 63 then if c.2 < cs.1 then some (.inl (pc, lo, .inl (Int32.ofNat cs.2.1) :: r, f)) else none else none
  | _ => none
def en_iv (pc : Nat) (st : List en_V) (y' : Nat) : Option en_Rs := if en_ms y' = false then if en_np y' + 1 ≤ st.length then if (st.drop (en_np y' + 1)).length ≤ 8 then
      match (st.take (en_np y' + 1)).reverse with
      | .inr c :: a => if c.1 = en_mk y' then if c.2 < en_cnt c.1 then some (.inr (.inr (y', .inr c :: a, st.drop (en_np y' + 1), pc))) else none else none
      | _ => none
      else none else none else none
def en_is (pc : Nat) (st : List en_V) (y' : Nat) : Option en_Rs := if en_ms y' = true then if en_np y' ≤ st.length then if (st.drop (en_np y')).length ≤ 8 then
      some (.inr (.inr (y', (st.take (en_np y')).reverse, st.drop (en_np y'), pc))) else none else none else none
def en_ire (y : Nat) (st : List en_V) : Option en_Rs := match st with
  | .inl x :: r => if r.length = 0 then if en_rt y = 1 then some (.inr (.inl (some (.inl x)))) else if en_rt y = 2 then if en_isz x = true then some (.inr (.inl (some (.inl x)))) else none else none else none
  | _ => none
def en_vre (y : Nat) (st : List en_V) : Option en_Rs := match st with
  | [] => if en_rt y = 0 then some (.inr (.inl none)) else none
  | _ => none
def en_tsw (pc : Nat) (lo : en_L) (st : List en_V) (f : en_T) (dflt low high : Int) (offs : Array Int) : Option en_Rs := match st with
  | .inl x :: r => if x.toInt < low then en_jp pc dflt lo r f else if high < x.toInt then en_jp pc dflt lo r f else match offs[(x.toInt - low).toNat]? with
    | some o => en_jp pc o lo r f
    | none => none
  | _ => none

def en_ex (cs : en_S) (y : Nat) (ins : Instr) (len ka kb pc : Nat) (lo : en_L) (st : List en_V) (f : en_T) : Option en_Rs := match ins with
  | .iconst n => en_g len 1 (en_nx (pc + 1) lo (.inl (Int32.ofInt n) :: st) f)
  | .bipush n => en_g len 2 (en_nx (pc + 2) lo (.inl (Int8.ofInt n).toInt32 :: st) f)
  | .sipush n => en_g len 3 (en_nx (pc + 3) lo (.inl (Int16.ofInt n).toInt32 :: st) f)
  | .iload_n k => en_g len 1 (en_ild (pc + 1) lo st f k)
  | .iload k => en_g len 2 (en_ild (pc + 2) lo st f k)
  | .aload_n k => en_g len 1 (en_ald (pc + 1) lo st f k)
  | .aload k => en_g len 2 (en_ald (pc + 2) lo st f k)
  | .istore_n k => en_g len 1 (en_ist (pc + 1) lo st f k)
  | .istore k => en_g len 2 (en_ist (pc + 2) lo st f k)
  | .astore_n k => en_g len 1 (en_ast (pc + 1) lo st f k)
  | .astore k => en_g len 2 (en_ast (pc + 2) lo st f k)
  | .iinc k n => en_g len 3 (en_inc (pc + 3) lo st f k n)
  | .iadd => en_g len 1 (en_b2 (pc + 1) lo st f (fun a b => a + b))
  | .isub => en_g len 1 (en_b2 (pc + 1) lo st f (fun a b => a - b))
  | .imul => en_g len 1 (en_b2 (pc + 1) lo st f (fun a b => a * b))
  | .iand => en_g len 1 (en_b2 (pc + 1) lo st f (fun a b => a &&& b))
  | .ior => en_g len 1 (en_b2 (pc + 1) lo st f (fun a b => a ||| b))
  | .ixor => en_g len 1 (en_b2 (pc + 1) lo st f (fun a b => a ^^^ b))
  | .ishl => en_g len 1 (en_b2 (pc + 1) lo st f (fun a b => a <<< (b &&& 31)))
  | .ishr => en_g len 1 (en_b2 (pc + 1) lo st f (fun a b => a >>> (b &&& 31)))
  | .idiv => en_g len 1 (en_bd (pc + 1) lo st f (fun a b => a / b))
  | .irem => en_g len 1 (en_bd (pc + 1) lo st f (fun a b => a - a / b * b))
  | .dup => en_g len 1 (en_dup (pc + 1) lo st f)
  | .dup_x1 => en_g len 1 (en_dupx (pc + 1) lo st f)
  | .dup2 => en_g len 1 (en_dup2 (pc + 1) lo st f)
  | .pop => en_g len 1 (en_pop (pc + 1) lo st f)
  | .ifCond .eq o => en_g len 3 (en_if pc o lo st f (fun a x z => if a = 0 then x else z))
  | .ifCond .ne o => en_g len 3 (en_if pc o lo st f (fun a x z => if a = 0 then z else x))
  | .ifCond .lt o => en_g len 3 (en_if pc o lo st f (fun a x z => if a < 0 then x else z))
  | .ifCond .ge o => en_g len 3 (en_if pc o lo st f (fun a x z => if 0 ≤ a then x else z))
  | .ifCond .gt o => en_g len 3 (en_if pc o lo st f (fun a x z => if 0 < a then x else z))
  | .ifCond .le o => en_g len 3 (en_if pc o lo st f (fun a x z => if a ≤ 0 then x else z))
  | .if_icmp .eq o => en_g len 3 (en_ic pc o lo st f (fun a b x z => if a = b then x else z))
  | .if_icmp .ne o => en_g len 3 (en_ic pc o lo st f (fun a b x z => if a = b then z else x))
  | .if_icmp .lt o => en_g len 3 (en_ic pc o lo st f (fun a b x z => if a < b then x else z))
  | .if_icmp .ge o => en_g len 3 (en_ic pc o lo st f (fun a b x z => if b ≤ a then x else z))
  | .if_icmp .gt o => en_g len 3 (en_ic pc o lo st f (fun a b x z => if b < a then x else z))
  | .if_icmp .le o => en_g len 3 (en_ic pc o lo st f (fun a b x z => if a ≤ b then x else z))
  | .goto o => en_g len 3 (en_jp pc o lo st f)
  | .getfield _ => en_g len 3 (en_gf (pc + 3) lo st f ka kb)
  | .putfield _ => en_g len 3 (en_pf (pc + 3) lo st f ka kb)
  | .iaload => en_g len 1 (en_iald cs (pc + 1) lo st f)
  | .baload => en_g len 1 (en_zald (pc + 1) lo st f)
  | .iastore => en_g len 1 (en_iast (pc + 1) lo st f)
  | .bastore => en_g len 1 (en_zast (pc + 1) lo st f)
  | .aaload => en_g len 1 (en_aald (pc + 1) lo st f)
  | .arraylength => en_g len 1 (en_alen cs (pc + 1) lo st f)
  | .invokevirtual _ => en_g len 3 (en_iv (pc + 3) st ka)
  | .invokestatic _ => en_g len 3 (en_is (pc + 3) st ka)
  | .ireturn => en_g len 1 (en_ire y st)
  | .return_ => en_g len 1 (en_vre y st)
  | .tableswitch d lw hg os => en_tsw pc lo st f d lw hg os
  | _ => none
def en_stp (cs : en_S) (y pc : Nat) (lo : en_L) (st : List en_V) (f : en_T) : Option en_Rs := match en_cd y pc with
  | some q => en_ex cs y q.1 q.2.1 q.2.2.1 q.2.2.2 pc lo st f
  | none => none

abbrev en_Q : Type := Option en_V → en_T → Prop
abbrev en_C : Type := Nat → List en_V → en_T → en_Q → Prop
abbrev en_K : Type := Nat → en_L → List en_V → en_T → Prop
def en_Sx (cs : en_S) (y : Nat) (call : en_C) (K : en_K) (post : en_Q) (pc : Nat) (lo : en_L) (st : List en_V) (f : en_T) : Prop := match en_stp cs y pc lo st f with
  | none => False
  | some (.inl q) => K q.1 q.2.1 q.2.2.1 q.2.2.2
  | some (.inr (.inl r)) => post r f
  | some (.inr (.inr q)) => call q.1 q.2.1 f (fun r g => K q.2.2.2 lo (r.toList ++ q.2.2.1) g)
/-- the least K that a step leads into: the run ends, with post -/
def en_Go (cs : en_S) (y : Nat) (call : en_C) (post : en_Q) (pc : Nat) (lo : en_L) (st : List en_V) (f : en_T) : Prop :=
  ∀ P : en_K, (∀ pc lo st f, en_Sx cs y call P post pc lo st f → P pc lo st f) → P pc lo st f
def en_Ev : Nat → en_C
  | 0 => fun _ _ _ _ => False
  | d + 1 => fun y a f Q => a.length ≤ en_mL y ∧ en_Go en_s0 y (en_Ev d) Q 0 (a.map some ++ List.replicate (en_mL y - a.length) none) [] f
def en_mono (call : en_C) : Prop := ∀ (y : Nat) (a : List en_V) (f : en_T) (Q Q' : en_Q), (∀ r g, Q r g → Q' r g) → call y a f Q → call y a f Q'
def en_det (call : en_C) : Prop := ∀ (y : Nat) (a : List en_V) (f : en_T) (Q Q' : en_Q), call y a f Q → call y a f Q' → ∃ r g, Q r g ∧ Q' r g
theorem en_Sx_mono {cs : en_S} {y : Nat} {call : en_C} (hc : en_mono call) {K K' : en_K} {post post' : en_Q} (hK : ∀ pc lo st f, K pc lo st f → K' pc lo st f) (hp : ∀ r g, post r g → post' r g) {pc : Nat} {lo : en_L} {st : List en_V} {f : en_T}
    (h : en_Sx cs y call K post pc lo st f) : en_Sx cs y call K' post' pc lo st f := by
  unfold en_Sx at h ⊢
  cases hs : en_stp cs y pc lo st f with
  | none => rw [hs] at h; exact h
  | some q =>
    rw [hs] at h
    cases q with
    | inl q => exact hK _ _ _ _ h
    | inr q =>
      cases q with
      | inl r => exact hp _ _ h
      | inr q => exact hc _ _ _ _ _ (fun r g => hK _ _ _ _) h
theorem en_Go_fold {cs : en_S} {y : Nat} {call : en_C} (hc : en_mono call) {post : en_Q} {pc : Nat} {lo : en_L} {st : List en_V} {f : en_T}
    (h : en_Sx cs y call (en_Go cs y call post) post pc lo st f) : en_Go cs y call post pc lo st f :=
  fun P hP => hP _ _ _ _ (en_Sx_mono hc (fun _ _ _ _ hg => hg P hP) (fun _ _ q => q) h)
theorem en_Go_unfold {cs : en_S} {y : Nat} {call : en_C} (hc : en_mono call) {post : en_Q} {pc : Nat} {lo : en_L} {st : List en_V} {f : en_T}
    (h : en_Go cs y call post pc lo st f) : en_Sx cs y call (en_Go cs y call post) post pc lo st f :=
  h (fun pc lo st f => en_Sx cs y call (en_Go cs y call post) post pc lo st f) (fun _ _ _ _ hs => en_Sx_mono hc (fun _ _ _ _ hg => en_Go_fold hc hg) (fun _ _ q => q) hs)
theorem en_Go_mono {cs : en_S} {y : Nat} {call : en_C} (hc : en_mono call) {post post' : en_Q} (hp : ∀ r g, post r g → post' r g) {pc : Nat} {lo : en_L} {st : List en_V} {f : en_T}
    (h : en_Go cs y call post pc lo st f) : en_Go cs y call post' pc lo st f :=
  fun P hP => h P (fun _ _ _ _ hs => hP _ _ _ _ (en_Sx_mono hc (fun _ _ _ _ q => q) hp hs))
theorem en_Ev_mono (d : Nat) : en_mono (en_Ev d) := by
  induction d with
  | zero => intro y a f Q Q' _ h; exact h
  | succ d ih => intro y a f Q Q' hq h; exact ⟨h.1, en_Go_mono ih hq h.2⟩
theorem en_Go_det {cs : en_S} {y : Nat} {call : en_C} (hc : en_mono call) (hd : en_det call) {post post' : en_Q} {pc : Nat} {lo : en_L} {st : List en_V} {f : en_T}
    (h : en_Go cs y call post pc lo st f) : en_Go cs y call post' pc lo st f → ∃ r g, post r g ∧ post' r g := by
  refine h (fun pc lo st f => en_Go cs y call post' pc lo st f → ∃ r g, post r g ∧ post' r g) ?_
  intro pc lo st f h1 h2
  have h3 := en_Go_unfold hc h2
  unfold en_Sx at h1 h3
  cases hs : en_stp cs y pc lo st f with
  | none => rw [hs] at h1; exact h1.elim
  | some q =>
    rw [hs] at h1 h3
    cases q with
    | inl q => exact h1 h3
    | inr q =>
      cases q with
      | inl r => exact ⟨r, f, h1, h3⟩
      | inr q =>
        obtain ⟨r, g, k1, k2⟩ := hd _ _ _ _ _ h1 h3
        exact k1 k2
theorem en_Ev_det (d : Nat) : en_det (en_Ev d) := by
  induction d with
  | zero => intro y a f Q Q' h; exact h.elim
  | succ d ih => intro y a f Q Q' h h'; exact en_Go_det (en_Ev_mono d) ih h.2 h'.2
/-- a method's runs are all alike: an answer for every Q says what the method is -/
theorem en_ev_eq {d y : Nat} {a : List en_V} {f g : en_T} {r : Option en_V} (h : ∀ Q : en_Q, Q r g → en_Ev d y a f Q) (Q : en_Q) : en_Ev d y a f Q = Q r g := by
  apply propext
  constructor
  · intro h1
    obtain ⟨r', g', k1, k2⟩ := en_Ev_det d y a f Q (fun r' g' => r' = r ∧ g' = g) h1 (h _ ⟨rfl, rfl⟩)
    rw [k2.1, k2.2] at k1
    exact k1
  · exact h Q
/-- a run at depth d -/
def en_R (cs : en_S) (y d : Nat) (post : en_Q) (pc : Nat) (lo : en_L) (st : List en_V) (f : en_T) : Prop := en_Go cs y (en_Ev d) post pc lo st f
theorem en_R_sx {cs : en_S} {y d : Nat} {post : en_Q} {pc : Nat} {lo : en_L} {st : List en_V} {f : en_T} : en_R cs y d post pc lo st f = en_Sx cs y (en_Ev d) (en_R cs y d post) post pc lo st f :=
  propext ⟨fun h => en_Go_unfold (en_Ev_mono d) h, fun h => en_Go_fold (en_Ev_mono d) h⟩
theorem en_R_n {cs : en_S} {y d : Nat} {post : en_Q} {pc pc' : Nat} {lo lo' : en_L} {st st' : List en_V} {f f' : en_T} (h : en_stp cs y pc lo st f = some (.inl (pc', lo', st', f'))) : en_R cs y d post pc lo st f = en_R cs y d post pc' lo' st' f' := by
  rw [en_R_sx, en_Sx, h]
theorem en_R_b {cs : en_S} {y d : Nat} {post : en_Q} {pc p1 p2 : Nat} {lo : en_L} {st st' : List en_V} {f : en_T} {c : Prop} {hc : Decidable c} (h : en_stp cs y pc lo st f = @ite _ c hc (some (.inl (p1, lo, st', f))) (some (.inl (p2, lo, st', f)))) : en_R cs y d post pc lo st f = @ite _ c hc (en_R cs y d post p1 lo st' f) (en_R cs y d post p2 lo st' f) := by
  rw [en_R_sx, en_Sx, h]
  by_cases hx : c
  · rw [if_pos hx, if_pos hx]
  · rw [if_neg hx, if_neg hx]
theorem en_R_r {cs : en_S} {y d : Nat} {post : en_Q} {pc : Nat} {lo : en_L} {st : List en_V} {f : en_T} {r : Option en_V} (h : en_stp cs y pc lo st f = some (.inr (.inl r))) : en_R cs y d post pc lo st f = post r f := by
  rw [en_R_sx, en_Sx, h]
theorem en_R_c {cs : en_S} {y d : Nat} {post : en_Q} {pc y' nx : Nat} {lo : en_L} {st rest a : List en_V} {f : en_T} (h : en_stp cs y pc lo st f = some (.inr (.inr (y', a, rest, nx)))) : en_R cs y d post pc lo st f = en_Ev d y' a f (fun r g => en_R cs y d post nx lo (r.toList ++ rest) g) := by
  rw [en_R_sx, en_Sx, h]
/-- a method, begun -/
theorem en_Ev_s {d y : Nat} {a : List en_V} {f : en_T} {Q : en_Q} (h : a.length ≤ en_mL y) : en_Ev (d + 1) y a f Q = en_R en_s0 y d Q 0 (a.map some ++ List.replicate (en_mL y - a.length) none) [] f :=
  propext ⟨fun q => q.2, fun q => ⟨h, q⟩⟩
end
section
/-! THE ENGINE, third part: what a step's result says of the step -/
section EnInv
variable {pc pc' len L : Nat} {lo lo' : en_L} {st st' : List en_V} {f f' : en_T} {i y : Nat} {X : en_Rs}
theorem en_g_i {x : Option en_Rs} (h : en_g len L x = some X) : len = L ∧ x = some X := by
  unfold en_g at h
  split at h
  · exact ⟨by assumption, h⟩
  · cases h
theorem en_nx_i (h : en_nx pc lo st f = some (.inl (pc', lo', st', f'))) : pc' = pc ∧ lo' = lo ∧ st' = st ∧ f' = f := by
  unfold en_nx at h
  cases h
  exact ⟨rfl, rfl, rfl, rfl⟩
theorem en_jp_i {off : Int} (h : en_jp pc off lo st f = some (.inl (pc', lo', st', f'))) : (pc : Int) + off = (pc' : Int) ∧ lo' = lo ∧ st' = st ∧ f' = f := by
  unfold en_jp at h
  split at h
  next hx =>
    cases h
    exact ⟨(Int.toNat_of_nonneg hx).symm, rfl, rfl, rfl⟩
  next => cases h
theorem en_ild_i (h : en_ild pc lo st f i = some (.inl (pc', lo', st', f'))) : ∃ x : Int32, lo[i]? = some (some (.inl x)) ∧ pc' = pc ∧ lo' = lo ∧ st' = .inl x :: st ∧ f' = f := by
  unfold en_ild at h
  split at h
  next x hx => cases h; exact ⟨x, hx, rfl, rfl, rfl, rfl⟩
  next => cases h
theorem en_ald_i (h : en_ald pc lo st f i = some (.inl (pc', lo', st', f'))) : ∃ q : Nat × Nat, lo[i]? = some (some (.inr q)) ∧ pc' = pc ∧ lo' = lo ∧ st' = .inr q :: st ∧ f' = f := by
  unfold en_ald at h
  split at h
  next x hx => cases h; exact ⟨x, hx, rfl, rfl, rfl, rfl⟩
  next => cases h
theorem en_ist_i (h : en_ist pc lo st f i = some (.inl (pc', lo', st', f'))) : ∃ (x : Int32) (r : List en_V), st = .inl x :: r ∧ i < lo.length ∧ pc' = pc ∧ lo' = lo.set i (some (.inl x)) ∧ st' = r ∧ f' = f := by
  unfold en_ist at h
  split at h
  next x r =>
    split at h
    next hx => cases h; exact ⟨x, _, rfl, hx, rfl, rfl, rfl, rfl⟩
    next => cases h
  next => cases h
theorem en_ast_i (h : en_ast pc lo st f i = some (.inl (pc', lo', st', f'))) : ∃ (x : Nat × Nat) (r : List en_V), st = .inr x :: r ∧ i < lo.length ∧ pc' = pc ∧ lo' = lo.set i (some (.inr x)) ∧ st' = r ∧ f' = f := by
  unfold en_ast at h
  split at h
  next x r =>
    split at h
    next hx => cases h; exact ⟨x, _, rfl, hx, rfl, rfl, rfl, rfl⟩
    next => cases h
  next => cases h
theorem en_inc_i {n : Int} (h : en_inc pc lo st f i n = some (.inl (pc', lo', st', f'))) : ∃ x : Int32, lo[i]? = some (some (.inl x)) ∧ pc' = pc ∧ lo' = lo.set i (some (.inl (x + Int32.ofInt n))) ∧ st' = st ∧ f' = f := by
  unfold en_inc at h
  split at h
  next x hx => cases h; exact ⟨x, hx, rfl, rfl, rfl, rfl⟩
  next => cases h
theorem en_b2_i {op : Int32 → Int32 → Int32} (h : en_b2 pc lo st f op = some (.inl (pc', lo', st', f'))) : ∃ (a b : Int32) (r : List en_V), st = .inl b :: .inl a :: r ∧ pc' = pc ∧ lo' = lo ∧ st' = .inl (op a b) :: r ∧ f' = f := by
  unfold en_b2 at h
  split at h
  next b a r => cases h; exact ⟨a, b, _, rfl, rfl, rfl, rfl, rfl⟩
  next => cases h
theorem en_bd_i {op : Int32 → Int32 → Int32} (h : en_bd pc lo st f op = some (.inl (pc', lo', st', f'))) : ∃ (a b : Int32) (r : List en_V), st = .inl b :: .inl a :: r ∧ ¬ b = 0 ∧ pc' = pc ∧ lo' = lo ∧ st' = .inl (op a b) :: r ∧ f' = f := by
  unfold en_bd at h
  split at h
  next b a r =>
    split at h
    next => cases h
    next hx => cases h; exact ⟨a, b, _, rfl, hx, rfl, rfl, rfl, rfl⟩
  next => cases h
theorem en_if_i {off : Int} {q : Int32 → Option en_Rs → Option en_Rs → Option en_Rs} (h : en_if pc off lo st f q = some X) : ∃ (a : Int32) (r : List en_V) (t : Nat), st = .inl a :: r ∧ (pc : Int) + off = (t : Int) ∧ q a (en_nx t lo r f) (en_nx (pc + 3) lo r f) = some X := by
  unfold en_if at h
  split at h
  next a r =>
    split at h
    next hx => exact ⟨a, r, _, rfl, (Int.toNat_of_nonneg hx).symm, h⟩
    next => cases h
  next => cases h
theorem en_ic_i {off : Int} {q : Int32 → Int32 → Option en_Rs → Option en_Rs → Option en_Rs} (h : en_ic pc off lo st f q = some X) : ∃ (a b : Int32) (r : List en_V) (t : Nat), st = .inl b :: .inl a :: r ∧ (pc : Int) + off = (t : Int) ∧ q a b (en_nx t lo r f) (en_nx (pc + 3) lo r f) = some X := by
  unfold en_ic at h
  split at h
  next b a r =>
    split at h
    next hx => exact ⟨a, b, r, _, rfl, (Int.toNat_of_nonneg hx).symm, h⟩
    next => cases h
  next => cases h
theorem en_dup_i (h : en_dup pc lo st f = some (.inl (pc', lo', st', f'))) : ∃ (a : en_V) (r : List en_V), st = a :: r ∧ pc' = pc ∧ lo' = lo ∧ st' = a :: a :: r ∧ f' = f := by
  unfold en_dup at h
  split at h
  next a r => cases h; exact ⟨a, _, rfl, rfl, rfl, rfl, rfl⟩
  next => cases h
theorem en_dupx_i (h : en_dupx pc lo st f = some (.inl (pc', lo', st', f'))) : ∃ (a b : en_V) (r : List en_V), st = a :: b :: r ∧ pc' = pc ∧ lo' = lo ∧ st' = a :: b :: a :: r ∧ f' = f := by
  unfold en_dupx at h
  split at h
  next a b r => cases h; exact ⟨a, b, _, rfl, rfl, rfl, rfl, rfl⟩
  next => cases h
theorem en_dup2_i (h : en_dup2 pc lo st f = some (.inl (pc', lo', st', f'))) : ∃ (a b : en_V) (r : List en_V), st = a :: b :: r ∧ pc' = pc ∧ lo' = lo ∧ st' = a :: b :: a :: b :: r ∧ f' = f := by
  unfold en_dup2 at h
  split at h
  next a b r => cases h; exact ⟨a, b, _, rfl, rfl, rfl, rfl, rfl⟩
  next => cases h
theorem en_pop_i (h : en_pop pc lo st f = some (.inl (pc', lo', st', f'))) : ∃ (a : en_V) (r : List en_V), st = a :: r ∧ pc' = pc ∧ lo' = lo ∧ st' = r ∧ f' = f := by
  unfold en_pop at h
  split at h
  next a r => cases h; exact ⟨a, _, rfl, rfl, rfl, rfl, rfl⟩
  next => cases h
theorem en_gf_i {k j : Nat} (h : en_gf pc lo st f k j = some (.inl (pc', lo', st', f'))) : ∃ (n : Nat) (r : List en_V), st = .inr (k, n) :: r ∧ n < en_cnt k ∧ pc' = pc ∧ lo' = lo ∧ st' = en_rd f k n j :: r ∧ f' = f := by
  unfold en_gf at h
  split at h
  next c r =>
    obtain ⟨k2, n⟩ := c
    dsimp only at h
    split at h
    next hx =>
      split at h
      next hy =>
        cases h
        subst hx
        exact ⟨n, r, rfl, hy, rfl, rfl, rfl, rfl⟩
      next => cases h
    next => cases h
  next => cases h
theorem en_pf_i {k j : Nat} (h : en_pf pc lo st f k j = some (.inl (pc', lo', st', f'))) : ∃ (n : Nat) (x : Int32) (r : List en_V), st = .inl x :: .inr (k, n) :: r ∧ n < en_cnt k ∧ (en_pw k j = 1 ∨ en_pw k j = 2 ∧ en_isz x = true) ∧ pc' = pc ∧ lo' = lo ∧ st' = r ∧ f' = en_st f k n j x := by
  unfold en_pf at h
  split at h
  next x c r =>
    obtain ⟨k2, n⟩ := c
    dsimp only at h
    split at h
    next hx =>
      subst hx
      split at h
      next hy =>
        split at h
        next hz => cases h; exact ⟨n, x, _, rfl, hy, Or.inl hz, rfl, rfl, rfl, rfl⟩
        next =>
          split at h
          next hz =>
            split at h
            next hv => cases h; exact ⟨n, x, _, rfl, hy, Or.inr ⟨hz, hv⟩, rfl, rfl, rfl, rfl⟩
            next => cases h
          next => cases h
      next => cases h
    next => cases h
  next => cases h
theorem en_iald_i {cs : en_S} (h : en_iald cs pc lo st f = some (.inl (pc', lo', st', f'))) : ∃ (k n : Nat) (x v : Int32) (r : List en_V), st = .inl x :: .inr (k, n) :: r ∧ pc' = pc ∧ lo' = lo ∧ st' = .inl v :: r ∧ f' = f ∧
    ((k = 63 ∧ n < cs.1 ∧ en_inr x cs.2.1 = true ∧ v = cs.2.2 x.toNatClampNeg) ∨ (en_kt k = 1 ∧ n < en_cnt k ∧ en_inr x (en_ln k) = true ∧ v = en_gt f k n x.toNatClampNeg)) := by
  unfold en_iald at h
  split at h
  next x c r =>
    obtain ⟨k, n⟩ := c
    dsimp only at h
    split at h
    next h1 =>
      split at h
      next h2 =>
        split at h
        next h3 => cases h; exact ⟨k, n, x, _, _, rfl, rfl, rfl, rfl, rfl, Or.inl ⟨h1, h2, h3, rfl⟩⟩
        next => cases h
      next => cases h
    next =>
      split at h
      next h1 =>
        split at h
        next h2 =>
          split at h
          next h3 => cases h; exact ⟨k, n, x, _, _, rfl, rfl, rfl, rfl, rfl, Or.inr ⟨h1, h2, h3, rfl⟩⟩
          next => cases h
        next => cases h
      next => cases h
  next => cases h
theorem en_zald_i (h : en_zald pc lo st f = some (.inl (pc', lo', st', f'))) : ∃ (k n : Nat) (x : Int32) (r : List en_V), st = .inl x :: .inr (k, n) :: r ∧ pc' = pc ∧ lo' = lo ∧ st' = .inl (en_gt f k n x.toNatClampNeg) :: r ∧ f' = f ∧ en_kt k = 2 ∧ n < en_cnt k ∧ en_inr x (en_ln k) = true := by
  unfold en_zald at h
  split at h
  next x c r =>
    obtain ⟨k, n⟩ := c
    dsimp only at h
    split at h
    next h1 =>
      split at h
      next h2 =>
        split at h
        next h3 => cases h; exact ⟨k, n, x, _, rfl, rfl, rfl, rfl, rfl, h1, h2, h3⟩
        next => cases h
      next => cases h
    next => cases h
  next => cases h
theorem en_aald_i (h : en_aald pc lo st f = some (.inl (pc', lo', st', f'))) : ∃ (k n : Nat) (x : Int32) (r : List en_V), st = .inl x :: .inr (k, n) :: r ∧ pc' = pc ∧ lo' = lo ∧ st' = .inr (en_tk k, x.toNatClampNeg) :: r ∧ f' = f ∧ en_kt k = 3 ∧ n < en_cnt k ∧ en_inr x (en_ln k) = true := by
  unfold en_aald at h
  split at h
  next x c r =>
    obtain ⟨k, n⟩ := c
    dsimp only at h
    split at h
    next h1 =>
      split at h
      next h2 =>
        split at h
        next h3 => cases h; exact ⟨k, n, x, _, rfl, rfl, rfl, rfl, rfl, h1, h2, h3⟩
        next => cases h
      next => cases h
    next => cases h
  next => cases h
theorem en_iast_i (h : en_iast pc lo st f = some (.inl (pc', lo', st', f'))) : ∃ (k n : Nat) (x v : Int32) (r : List en_V), st = .inl v :: .inl x :: .inr (k, n) :: r ∧ pc' = pc ∧ lo' = lo ∧ st' = r ∧ f' = en_st f k n x.toNatClampNeg v ∧ en_kt k = 1 ∧ n < en_cnt k ∧ en_inr x (en_ln k) = true := by
  unfold en_iast at h
  split at h
  next v x c r =>
    obtain ⟨k, n⟩ := c
    dsimp only at h
    split at h
    next h1 =>
      split at h
      next h2 =>
        split at h
        next h3 => cases h; exact ⟨k, n, x, v, _, rfl, rfl, rfl, rfl, rfl, h1, h2, h3⟩
        next => cases h
      next => cases h
    next => cases h
  next => cases h
theorem en_zast_i (h : en_zast pc lo st f = some (.inl (pc', lo', st', f'))) : ∃ (k n : Nat) (x v : Int32) (r : List en_V), st = .inl v :: .inl x :: .inr (k, n) :: r ∧ pc' = pc ∧ lo' = lo ∧ st' = r ∧ f' = en_st f k n x.toNatClampNeg v ∧ en_kt k = 2 ∧ n < en_cnt k ∧ en_inr x (en_ln k) = true ∧ en_isz v = true := by
  unfold en_zast at h
  split at h
  next v x c r =>
    obtain ⟨k, n⟩ := c
    dsimp only at h
    split at h
    next h1 =>
      split at h
      next h2 =>
        split at h
        next h3 =>
          split at h
          next h4 => cases h; exact ⟨k, n, x, v, _, rfl, rfl, rfl, rfl, rfl, h1, h2, h3, h4⟩
          next => cases h
        next => cases h
      next => cases h
    next => cases h
  next => cases h
theorem en_alen_i {cs : en_S} (h : en_alen cs pc lo st f = some (.inl (pc', lo', st', f'))) : ∃ (n : Nat) (r : List en_V), st = .inr (63, n) :: r ∧ pc' = pc ∧ lo' = lo ∧ st' = .inl (Int32.ofNat cs.2.1) :: r ∧ f' = f ∧ n < cs.1 := by
  unfold en_alen at h
  split at h
  next c r =>
    obtain ⟨k, n⟩ := c
    dsimp only at h
    split at h
    next h1 =>
      split at h
      next h2 => cases h; subst h1; exact ⟨n, _, rfl, rfl, rfl, rfl, rfl, h2⟩
      next => cases h
    next => cases h
  next => cases h
theorem en_iv_n (h : en_iv pc st y = some (.inl (pc', lo', st', f'))) : False := by
  unfold en_iv at h
  repeat' split at h
  all_goals cases h
theorem en_is_n (h : en_is pc st y = some (.inl (pc', lo', st', f'))) : False := by
  unfold en_is at h
  repeat' split at h
  all_goals cases h
theorem en_ire_n (h : en_ire y st = some (.inl (pc', lo', st', f'))) : False := by
  unfold en_ire at h
  repeat' split at h
  all_goals cases h
theorem en_vre_n (h : en_vre y st = some (.inl (pc', lo', st', f'))) : False := by
  unfold en_vre at h
  repeat' split at h
  all_goals cases h
end EnInv
end
section
/-! THE ENGINE, fourth part: the cells of a heap that hold a state, and the locals -/
/-- where the cells lie; the classes' numbers and slots; the array classes (100: int, 101: boolean, else by kind) -/
abbrev en_Gg : Type := (Nat → Nat → Nat) × va_G × (Nat → ClassId)
def en_c (G : en_Gg) : en_V → Value
  | .inl x => .int x
  | .inr q => .ref (G.1 q.1 q.2)
theorem en_c1 (G : en_Gg) (v : en_V) : (en_c G v).category = 1 := by cases v <;> rfl
def en_fs (G : en_Gg) (k i : Nat) (f : en_T) : List Value := (List.range (en_N (en_kc k))).map fun j => en_c G (en_rd f k i j)
def en_cell (G : en_Gg) (k i : Nat) (f : en_T) : va_E := match en_kt k with
  | 0 => .inr (en_kc k, en_fs G k i f)
  | 1 => .inl (G.2.2 100, en_ln k, .inl (fun j => en_gt f k i j))
  | 2 => .inl (G.2.2 101, en_ln k, .inl (fun j => en_gt f k i j))
  | _ => .inl (G.2.2 k, en_ln k, .inr (.inr (.inr (.inr (fun j => some (G.1 (en_tk k) j))))))
def en_tys (G : en_Gg) : List (ClassId × FieldType) := [(G.2.2 100, .int), (G.2.2 101, .boolean), (G.2.2 1, .object (en_to 1)), (G.2.2 2, .object (en_to 2))]
theorem en_kt_3 : ∀ k, k < 61 → en_kt k = 3 → k = 1 ∨ k = 2 := by decide +kernel
theorem en_tys_at (G : en_Gg) {k : Nat} (h : en_kt k = 3) : ∃ (t0 : Nat) (C : String), (en_tys G)[t0]? = some (G.2.2 k, .object C) := by
  have hk : k < 61 := by
    by_cases hk : k < 61
    · exact hk
    · unfold en_kt at h
      rw [en_getD_d (by simpa using Nat.le_of_not_lt hk)] at h
      cases h
  rcases en_kt_3 k hk h with rfl | rfl
  · exact ⟨2, _, rfl⟩
  · exact ⟨3, _, rfl⟩
def en_wl (G : en_Gg) (f : en_T) : va_W := en_allc.map fun c => (G.1 c.1 c.2, en_cell G c.1 c.2 f)
def en_A (G : en_Gg) : Nat → Prop := fun q => ∃ c ∈ en_allc, G.1 c.1 c.2 = q
section EnWorld
variable {G : en_Gg} {f : en_T} {k i j q0 : Nat} {x : Int32}
theorem en_pos (h : i < en_cnt k) : ∃ q0 : Nat, en_allc[q0]? = some (k, i) :=
  List.getElem?_of_mem (List.mem_flatMap.mpr ⟨k, List.mem_range.mpr (en_cnt_lt h), List.mem_map.mpr ⟨i, List.mem_range.mpr h, rfl⟩⟩)
theorem en_nd {a b : Nat} {c : Nat × Nat} (h1 : en_allc[a]? = some c) (h2 : en_allc[b]? = some c) : a = b :=
  (List.getElem?_inj (List.getElem?_eq_some_iff.mp h1).1 en_allc_nd).mp (h1.trans h2.symm)
theorem en_wl_at (h : en_allc[q0]? = some (k, i)) : (en_wl G f)[q0]? = some (G.1 k i, en_cell G k i f) := by
  simp [en_wl, List.getElem?_map, h]
theorem en_gt_ne {k' i' j' : Nat} (h : (k', i') ≠ (k, i)) : en_gt (en_st f k i j x) k' i' j' = en_gt f k' i' j' := by
  have h2 : ¬ (k' = k ∧ i' = i ∧ j' = j) := fun q => h (by rw [q.1, q.2.1])
  unfold en_gt en_st
  by_cases h1 : k < 16 <;> by_cases h3 : k' < 16 <;> simp [h1, h3, en_up, h2]
theorem en_gt_st {j' : Nat} : en_gt (en_st f k i j x) k i j' = if j' = j then x else en_gt f k i j' := by
  unfold en_gt en_st
  by_cases h1 : k < 16 <;> simp [h1, en_up]
theorem en_rd_ne {k' i' j' : Nat} (h : (k', i') ≠ (k, i)) : en_rd (en_st f k i j x) k' i' j' = en_rd f k' i' j' := by
  unfold en_rd
  split
  · rfl
  · rw [en_gt_ne h]
theorem en_cell_ne {k' i' : Nat} (h : (k', i') ≠ (k, i)) : en_cell G k' i' (en_st f k i j x) = en_cell G k' i' f := by
  unfold en_cell en_fs
  simp only [en_gt_ne h, en_rd_ne h]
theorem en_wl_set (h : en_allc[q0]? = some (k, i)) : (en_wl G f).set q0 (G.1 k i, en_cell G k i (en_st f k i j x)) = en_wl G (en_st f k i j x) := by
  have hl : q0 < (en_wl G f).length := (List.getElem?_eq_some_iff.mp (en_wl_at (G := G) (f := f) h)).1
  apply List.ext_getElem?
  intro q
  by_cases hq : q = q0
  · subst hq
    rw [List.getElem?_set_self hl, en_wl_at h]
  · rw [List.getElem?_set_ne (Ne.symm hq)]
    cases hc : en_allc[q]? with
    | none => simp [en_wl, hc]
    | some c =>
      obtain ⟨k', i'⟩ := c
      have hne : (k', i') ≠ (k, i) := fun z => hq (en_nd (z ▸ hc) h)
      rw [en_wl_at hc, en_wl_at hc, en_cell_ne hne]
theorem en_cell_o (h : en_kt k = 0) : en_cell G k i f = .inr (en_kc k, en_fs G k i f) := by unfold en_cell; rw [h]; rfl
theorem en_cell_i (h : en_kt k = 1) : en_cell G k i f = .inl (G.2.2 100, en_ln k, .inl (fun j => en_gt f k i j)) := by unfold en_cell; rw [h]; rfl
theorem en_cell_z (h : en_kt k = 2) : en_cell G k i f = .inl (G.2.2 101, en_ln k, .inl (fun j => en_gt f k i j)) := by unfold en_cell; rw [h]; rfl
theorem en_cell_q (h : en_kt k = 3) : en_cell G k i f = .inl (G.2.2 k, en_ln k, .inr (.inr (.inr (.inr (fun j => some (G.1 (en_tk k) j)))))) := by unfold en_cell; rw [h]; rfl
theorem en_fs_at (h : j < en_N (en_kc k)) : (en_fs G k i f)[j]? = some (en_c G (en_rd f k i j)) := by simp [en_fs, h]
theorem en_fs_len : (en_fs G k i f).length = en_N (en_kc k) := by simp [en_fs]
theorem en_fs_set (h : j < en_N (en_kc k)) (hr : en_fr k j = none) : (en_fs G k i f).set j (.int x) = en_fs G k i (en_st f k i j x) := by
  apply List.ext_getElem?
  intro q
  by_cases hq : q = j
  · subst hq
    rw [List.getElem?_set_self (by rw [en_fs_len]; exact h), en_fs_at h]
    unfold en_rd
    rw [hr, en_gt_st, if_pos rfl]
    rfl
  · rw [List.getElem?_set_ne (Ne.symm hq)]
    by_cases hn : q < en_N (en_kc k)
    · rw [en_fs_at hn, en_fs_at hn]
      unfold en_rd
      rw [en_gt_st, if_neg hq]
    · rw [List.getElem?_eq_none (by rw [en_fs_len]; omega), List.getElem?_eq_none (by rw [en_fs_len]; omega)]
theorem en_ar_set {n : Nat} : (upd (fun j => en_gt f k i j) n x) = fun j => en_gt (en_st f k i n x) k i j := by
  funext j
  rw [en_gt_st]
  rfl
theorem en_in {n : Nat} (h : en_inr x n = true) : vp_in x n := by
  unfold en_inr at h
  unfold vp_in
  simp only [Bool.and_eq_true, Bool.not_eq_true', decide_eq_false_iff_not] at h
  intro q
  rcases q with q | q
  · exact h.1 q
  · exact h.2 q
theorem en_isz_or (h : en_isz x = true) : x = 0 ∨ x = 1 := by
  unfold en_isz at h
  simpa using h
theorem en_isz_nar (h : en_isz x = true) : narrow .boolean (.int x) = .int x := by
  rcases en_isz_or h with rfl | rfl <;> rfl
theorem en_isz_fit (h : en_isz x = true) : fits .boolean (.int x) = true := by
  rcases en_isz_or h with rfl | rfl <;> rfl
theorem en_isz_vp (h : en_isz x = true) : vp_nar .boolean x = x := by
  rcases en_isz_or h with rfl | rfl <;> rfl
end EnWorld
def en_loc (G : en_Gg) (ls : Array Slot) (nL : Nat) (lo : en_L) : Prop := ls.size = nL ∧ lv_wf ls ∧ lo.length = nL ∧ ∀ (i : Nat) (v : en_V), lo[i]? = some (some v) → ls[i]? = some (.val (en_c G v))
def en_lv (G : en_Gg) (lo : en_L) : List (Nat × Value) := (List.range lo.length).filterMap fun i => match lo[i]? with
  | some (some v) => some (i, en_c G v)
  | _ => none
section EnLoc
variable {G : en_Gg} {ls : Array Slot} {nL : Nat} {lo : en_L} {i : Nat} {v : en_V}
theorem en_lv_mem (h : lo[i]? = some (some v)) : (i, en_c G v) ∈ en_lv G lo :=
  List.mem_filterMap.mpr ⟨i, List.mem_range.mpr (List.getElem?_eq_some_iff.mp h).1, by rw [h]⟩
theorem en_lv_of {q : Nat × Value} (h : q ∈ en_lv G lo) : ∃ v, lo[q.1]? = some (some v) ∧ q.2 = en_c G v := by
  obtain ⟨i, -, hi⟩ := List.mem_filterMap.mp h
  split at hi
  next v hv => cases hi; exact ⟨v, hv, rfl⟩
  next => cases hi
theorem en_has (h : en_loc G ls nL lo) : lv_has ls nL (en_lv G lo) := ⟨h.1, h.2.1, fun q hq => by
  obtain ⟨v, h1, h2⟩ := en_lv_of hq
  rw [h2]
  exact h.2.2.2 q.1 v h1⟩
theorem en_loc_set {ls' : Array Slot} (h : en_loc G ls nL lo) (h' : lv_has ls' nL ((i, en_c G v) :: (en_lv G lo).filter (fun q => !(q.1 == i) && !(q.1 + 1 == i && q.2.category == 2)))) : en_loc G ls' nL (lo.set i (some v)) := by
  refine ⟨h'.1, h'.2.1, by rw [List.length_set]; exact h.2.2.1, fun j w hj => ?_⟩
  by_cases hij : j = i
  · subst hij
    have hlt : j < lo.length := by
      have := (List.getElem?_eq_some_iff.mp hj).1
      rwa [List.length_set] at this
    rw [List.getElem?_set_self hlt] at hj
    cases hj
    exact h'.2.2 (j, en_c G v) List.mem_cons_self
  · rw [List.getElem?_set_ne (fun z => hij z.symm)] at hj
    refine h'.2.2 (j, en_c G w) (List.mem_cons_of_mem _ (List.mem_filter.mpr ⟨en_lv_mem hj, ?_⟩))
    simp [hij, en_c1]
end EnLoc
theorem en_cat (G : en_Gg) (r : List en_V) : ((r.map (en_c G)).map fun v => v.category).sum = r.length := by
  induction r with
  | nil => rfl
  | cons a t ih =>
    simp only [List.map_cons, List.sum_cons, List.length_cons, ih, en_c1]
    omega
theorem en_app (G : en_Gg) (r : Option en_V) (rest : List en_V) : (r.toList ++ rest).map (en_c G) = (r.map (en_c G)).toList ++ rest.map (en_c G) := by
  cases r <;> rfl
theorem en_sl (G : en_Gg) (a : List en_V) : lg_sl (a.map (en_c G)) = a.map fun v => Slot.val (en_c G v) := by
  induction a with
  | nil => rfl
  | cons v t ih =>
    have e : lg_sl ((v :: t).map (en_c G)) = (if (en_c G v).category = 2 then [Slot.val (en_c G v), .second] else [.val (en_c G v)]) ++ lg_sl (t.map (en_c G)) := rfl
    rw [e, ih, en_c1]
    rfl
theorem en_loc_entry (G : en_Gg) (a : List en_V) (n : Nat) (h : a.length ≤ n) : en_loc G ((lg_sl (a.map (en_c G)) ++ List.replicate (n - (lg_sl (a.map (en_c G))).length) Slot.unset).toArray) n (a.map some ++ List.replicate (n - a.length) none) := by
  have hl : (lg_sl (a.map (en_c G))).length = a.length := by rw [en_sl]; simp
  have h1 := lv_entry (a.map (en_c G)) (n := n) (by rw [hl]; exact h)
  refine ⟨h1.1, h1.2.1, by simp; omega, fun i v hi => ?_⟩
  by_cases hx : i < a.length
  · rw [List.getElem?_append_left (by simpa using hx)] at hi
    have hv : a[i]? = some v := by
      rw [List.getElem?_map] at hi
      cases hq : a[i]? with
      | none => rw [hq] at hi; cases hi
      | some w => rw [hq] at hi; cases hi; rfl
    rw [List.getElem?_toArray, List.getElem?_append_left (by rw [hl]; exact hx), en_sl, List.getElem?_map, hv]
    rfl
  · rw [List.getElem?_append_right (by simpa using Nat.le_of_not_lt hx)] at hi
    rw [List.getElem?_replicate] at hi
    split at hi <;> cases hi
end
section
/-! THE ENGINE, fifth part: a step of the small machine is a step of the machine -/
def en_w (y : Nat) : List Cond := .code (en_my y) (en_mb y) (en_mL y) (en_mr y) :: en_all
def en_rm (d : Nat) : Room := { frames := d, cells := 0, slots := 0, locals := 28 * d }
def en_Pc (G : en_Gg) (a : List en_V) (f : en_T) : Array Value → State → Prop := va_Pc (a.map (en_c G)) (fun U => va_P G.2.1 en_cl (en_wl G f) U.heap ∧ va_K G.2.1 en_cl (en_tys G) U ∧ va_D (en_A G) (en_wl G f))
def en_Qc (G : en_Gg) (Q : en_Q) : Array Value → State → Outcome → State → Prop := fun _ st oc t => (∃ (r : Option en_V) (g : en_T), oc = .returned (r.map (en_c G)) ∧ Q r g ∧ va_P G.2.1 en_cl (en_wl G g) t.heap) ∧ va_F (en_A G) st t
theorem en_D_any {G : en_Gg} {A : Nat → Prop} {f g : en_T} (h : va_D A (en_wl G f)) : va_D A (en_wl G g) := by
  have key : ∀ (k : Nat) (q : Nat × va_E), (en_wl G g)[k]? = some q → ∃ q', (en_wl G f)[k]? = some q' ∧ q'.1 = q.1 := by
    intro k q hk
    cases hc : en_allc[k]? with
    | none => rw [en_wl, List.getElem?_map, hc] at hk; cases hk
    | some c =>
      rw [en_wl_at (k := c.1) (i := c.2) hc] at hk
      cases hk
      exact ⟨_, en_wl_at (k := c.1) (i := c.2) hc, rfl⟩
  refine ⟨fun i j x y hx hy hxy => ?_, fun k q hk => ?_⟩
  · obtain ⟨x', a1, a2⟩ := key i x hx
    obtain ⟨y', b1, b2⟩ := key j y hy
    exact h.1 i j x' y' a1 b1 (by rw [a2, b2, hxy])
  · obtain ⟨q', a1, a2⟩ := key k q hk
    rw [← a2]
    exact h.2 k q' a1
theorem en_D_in {G : en_Gg} {A : Nat → Prop} {f : en_T} (h : va_D A (en_wl G f)) {q : Nat} (hq : en_A G q) : A q := by
  obtain ⟨c, hc, rfl⟩ := hq
  obtain ⟨i, hi⟩ := List.getElem?_of_mem hc
  exact h.2 i _ (en_wl_at (k := c.1) (i := c.2) hi)
section EnStep
variable {p : Program} {l : Launch} {e : Env} {R : Room} {s : State} {m : MethodId} {args : Array Value} {below : List Frame} {meth : Method} {c : Code} {cells slots : Nat} {Q : State → Prop}
def en_P (p : Program) (l : Launch) (e : Env) (R : Room) (s : State) (m : MethodId) (args : Array Value) (below : List Frame) (meth : Method) (c : Code) (cells slots : Nat) (Q : State → Prop) (G : en_Gg) (A : Nat → Prop) (H0 : Heap) (nL : Nat) : en_K := fun pc lo st f =>
  ∀ (H : Heap) (locs : List Loc) (ls : Array Slot), va_P G.2.1 en_cl (en_wl G f) H → va_D A (en_wl G f) → va_S A H0 H locs → en_loc G ls nL lo → W p l e R s m args below meth c H locs cells slots Q (F0 m pc ls (st.map (en_c G)))
def en_Fx (p : Program) (s : State) (m : MethodId) (args : Array Value) (c : Code) (Ts : List Cond) (cs : en_S) (y : Nat) (G : en_Gg) (A : Nat → Prop) (H0 : Heap) : Prop :=
  p.tables.exec = Jvm.exec ∧ c.code = en_mb y ∧ c.maxLocals = en_mL y ∧ s.vm.findClass (en_cn (en_mo y)) = some m.cls ∧ (∀ w ∈ Ts, w.before args s = true) ∧ GoodIn Ts en_all ∧ va_K G.2.1 en_cl (en_tys G) s ∧
  ∀ i, i < cs.1 → va_X (G.1 63 i) cs.2.1 cs.2.2 s H0 ∧ G.1 63 i < H0.size ∧ ¬ A (G.1 63 i)
variable {Ts : List Cond} {cs : en_S} {y : Nat} {G : en_Gg} {A : Nat → Prop} {H0 : Heap}
set_option maxHeartbeats 4000000 in
set_option maxRecDepth 100000 in
theorem en_step_n (F : en_Fx p s m args c Ts cs y G A H0) {pc pc' : Nat} {lo lo' : en_L} {st st' : List en_V} {f f' : en_T} (h : en_stp cs y pc lo st f = some (.inl (pc', lo', st', f')))
    (k : en_P p l e R s m args below meth c cells slots Q G A H0 (en_mL y) pc' lo' st' f') : en_P p l e R s m args below meth c cells slots Q G A H0 (en_mL y) pc lo st f := by
  obtain ⟨hx, hb, hml, hown, hts, hall, hK, hX⟩ := F
  have hmem : ∀ {w : Cond}, w ∈ en_all → w.before args s = true := fun hw => hts _ (hall _ hw).1
  unfold en_stp at h
  cases hcd : en_cd y pc with
  | none => rw [hcd] at h; cases h
  | some q =>
    rw [hcd] at h
    obtain ⟨ins, len, ka, kb⟩ := q
    obtain ⟨hdg, hft⟩ := en_cd_all hcd
    replace hdg : decode (en_mb y) pc = .ok (ins, len) := hdg
    replace h : en_ex cs y ins len ka kb pc lo st f = some (.inl (pc', lo', st', f')) := h
    intro H locs ls hP hD hS hl
    cases ins with
    | iconst n =>
      have hh := h
      clear h
      obtain ⟨rfl, h⟩ := en_g_i (show en_g len 1 _ = _ from hh)
      clear hh
      obtain ⟨rfl, rfl, rfl, rfl⟩ := en_nx_i h
      exact lv_iconst hx hb hdg rfl (k H locs ls hP hD hS hl)
    | bipush n =>
      have hh := h
      clear h
      obtain ⟨rfl, h⟩ := en_g_i (show en_g len 2 _ = _ from hh)
      clear hh
      obtain ⟨rfl, rfl, rfl, rfl⟩ := en_nx_i h
      exact lv_bipush hx hb hdg rfl (k H locs ls hP hD hS hl)
    | sipush n =>
      have hh := h
      clear h
      obtain ⟨rfl, h⟩ := en_g_i (show en_g len 3 _ = _ from hh)
      clear hh
      obtain ⟨rfl, rfl, rfl, rfl⟩ := en_nx_i h
      exact lv_sipush hx hb hdg rfl (k H locs ls hP hD hS hl)
    | iload_n n =>
      have hh := h
      clear h
      obtain ⟨rfl, h⟩ := en_g_i (show en_g len 1 _ = _ from hh)
      clear hh
      obtain ⟨x, hv, rfl, rfl, rfl, rfl⟩ := en_ild_i h
      exact lv_iload_n hx hb hdg rfl (hl.2.2.2 _ _ hv) (k H locs ls hP hD hS hl)
    | iload n =>
      have hh := h
      clear h
      obtain ⟨rfl, h⟩ := en_g_i (show en_g len 2 _ = _ from hh)
      clear hh
      obtain ⟨x, hv, rfl, rfl, rfl, rfl⟩ := en_ild_i h
      exact lv_iload hx hb hdg (hl.2.2.2 _ _ hv) (k H locs ls hP hD hS hl)
    | aload_n n =>
      have hh := h
      clear h
      obtain ⟨rfl, h⟩ := en_g_i (show en_g len 1 _ = _ from hh)
      clear hh
      obtain ⟨x, hv, rfl, rfl, rfl, rfl⟩ := en_ald_i h
      exact lv_aload_n hx hb hdg rfl (hl.2.2.2 _ _ hv) (k H locs ls hP hD hS hl)
    | aload n =>
      have hh := h
      clear h
      obtain ⟨rfl, h⟩ := en_g_i (show en_g len 2 _ = _ from hh)
      clear hh
      obtain ⟨x, hv, rfl, rfl, rfl, rfl⟩ := en_ald_i h
      exact lv_aload hx hb hdg (hl.2.2.2 _ _ hv) (k H locs ls hP hD hS hl)
    | istore_n n =>
      have hh := h
      clear h
      obtain ⟨rfl, h⟩ := en_g_i (show en_g len 1 _ = _ from hh)
      clear hh
      obtain ⟨x, r, rfl, hi, rfl, rfl, rfl, rfl⟩ := en_ist_i h
      exact lv_istore_n hx hb hdg rfl (en_has hl) (by rw [← hl.2.2.1]; exact hi) rfl (fun ls' h' => k H locs ls' hP hD hS (en_loc_set (v := .inl x) hl h'))
    | istore n =>
      have hh := h
      clear h
      obtain ⟨rfl, h⟩ := en_g_i (show en_g len 2 _ = _ from hh)
      clear hh
      obtain ⟨x, r, rfl, hi, rfl, rfl, rfl, rfl⟩ := en_ist_i h
      exact lv_istore hx hb hdg (en_has hl) (by rw [← hl.2.2.1]; exact hi) rfl (fun ls' h' => k H locs ls' hP hD hS (en_loc_set (v := .inl x) hl h'))
    | astore_n n =>
      have hh := h
      clear h
      obtain ⟨rfl, h⟩ := en_g_i (show en_g len 1 _ = _ from hh)
      clear hh
      obtain ⟨x, r, rfl, hi, rfl, rfl, rfl, rfl⟩ := en_ast_i h
      exact lv_astore_n hx hb hdg rfl (en_has hl) (by rw [← hl.2.2.1]; exact hi) rfl (fun ls' h' => k H locs ls' hP hD hS (en_loc_set (v := .inr x) hl h'))
    | astore n =>
      have hh := h
      clear h
      obtain ⟨rfl, h⟩ := en_g_i (show en_g len 2 _ = _ from hh)
      clear hh
      obtain ⟨x, r, rfl, hi, rfl, rfl, rfl, rfl⟩ := en_ast_i h
      exact lv_astore hx hb hdg (en_has hl) (by rw [← hl.2.2.1]; exact hi) rfl (fun ls' h' => k H locs ls' hP hD hS (en_loc_set (v := .inr x) hl h'))
    | iinc n v =>
      have hh := h
      clear h
      obtain ⟨rfl, h⟩ := en_g_i (show en_g len 3 _ = _ from hh)
      clear hh
      obtain ⟨x, hv, rfl, rfl, rfl, rfl⟩ := en_inc_i h
      obtain ⟨q1, hq1⟩ := List.getElem?_of_mem (en_lv_mem (G := G) hv)
      exact lv_iinc hx hb hdg (en_has hl) hq1 rfl (by rw [← hl.2.2.1]; exact (List.getElem?_eq_some_iff.mp hv).1) rfl (fun ls' h' => k H locs ls' hP hD hS (en_loc_set (v := .inl (x + Int32.ofInt v)) hl h'))
    | iadd =>
      have hh := h
      clear h
      obtain ⟨rfl, h⟩ := en_g_i (show en_g len 1 _ = _ from hh)
      clear hh
      obtain ⟨a, b, r, rfl, rfl, rfl, rfl, rfl⟩ := en_b2_i h
      exact lv_iadd hx hb hdg (k H locs ls hP hD hS hl)
    | isub =>
      have hh := h
      clear h
      obtain ⟨rfl, h⟩ := en_g_i (show en_g len 1 _ = _ from hh)
      clear hh
      obtain ⟨a, b, r, rfl, rfl, rfl, rfl, rfl⟩ := en_b2_i h
      exact lv_isub hx hb hdg (k H locs ls hP hD hS hl)
    | imul =>
      have hh := h
      clear h
      obtain ⟨rfl, h⟩ := en_g_i (show en_g len 1 _ = _ from hh)
      clear hh
      obtain ⟨a, b, r, rfl, rfl, rfl, rfl, rfl⟩ := en_b2_i h
      exact lv_imul hx hb hdg (k H locs ls hP hD hS hl)
    | iand =>
      have hh := h
      clear h
      obtain ⟨rfl, h⟩ := en_g_i (show en_g len 1 _ = _ from hh)
      clear hh
      obtain ⟨a, b, r, rfl, rfl, rfl, rfl, rfl⟩ := en_b2_i h
      exact lv_iand hx hb hdg (k H locs ls hP hD hS hl)
    | ior =>
      have hh := h
      clear h
      obtain ⟨rfl, h⟩ := en_g_i (show en_g len 1 _ = _ from hh)
      clear hh
      obtain ⟨a, b, r, rfl, rfl, rfl, rfl, rfl⟩ := en_b2_i h
      exact lv_ior hx hb hdg (k H locs ls hP hD hS hl)
    | ixor =>
      have hh := h
      clear h
      obtain ⟨rfl, h⟩ := en_g_i (show en_g len 1 _ = _ from hh)
      clear hh
      obtain ⟨a, b, r, rfl, rfl, rfl, rfl, rfl⟩ := en_b2_i h
      exact lv_ixor hx hb hdg (k H locs ls hP hD hS hl)
    | ishl =>
      have hh := h
      clear h
      obtain ⟨rfl, h⟩ := en_g_i (show en_g len 1 _ = _ from hh)
      clear hh
      obtain ⟨a, b, r, rfl, rfl, rfl, rfl, rfl⟩ := en_b2_i h
      exact lv_ishl hx hb hdg (k H locs ls hP hD hS hl)
    | ishr =>
      have hh := h
      clear h
      obtain ⟨rfl, h⟩ := en_g_i (show en_g len 1 _ = _ from hh)
      clear hh
      obtain ⟨a, b, r, rfl, rfl, rfl, rfl, rfl⟩ := en_b2_i h
      exact lv_ishr hx hb hdg (k H locs ls hP hD hS hl)
    | idiv =>
      have hh := h
      clear h
      obtain ⟨rfl, h⟩ := en_g_i (show en_g len 1 _ = _ from hh)
      clear hh
      obtain ⟨a, b, r, rfl, hne, rfl, rfl, rfl, rfl⟩ := en_bd_i h
      exact lv_idiv hx hb hdg hne (k H locs ls hP hD hS hl)
    | irem =>
      have hh := h
      clear h
      obtain ⟨rfl, h⟩ := en_g_i (show en_g len 1 _ = _ from hh)
      clear hh
      obtain ⟨a, b, r, rfl, hne, rfl, rfl, rfl, rfl⟩ := en_bd_i h
      exact lv_irem hx hb hdg hne (k H locs ls hP hD hS hl)
    | dup =>
      have hh := h
      clear h
      obtain ⟨rfl, h⟩ := en_g_i (show en_g len 1 _ = _ from hh)
      clear hh
      obtain ⟨a, r, rfl, rfl, rfl, rfl, rfl⟩ := en_dup_i h
      exact lv_dup hx hb hdg (en_c1 G a) (k H locs ls hP hD hS hl)
    | dup_x1 =>
      have hh := h
      clear h
      obtain ⟨rfl, h⟩ := en_g_i (show en_g len 1 _ = _ from hh)
      clear hh
      obtain ⟨a, b, r, rfl, rfl, rfl, rfl, rfl⟩ := en_dupx_i h
      exact lv_dup_x1 hx hb hdg (en_c1 G a) (en_c1 G b) (k H locs ls hP hD hS hl)
    | dup2 =>
      have hh := h
      clear h
      obtain ⟨rfl, h⟩ := en_g_i (show en_g len 1 _ = _ from hh)
      clear hh
      obtain ⟨a, b, r, rfl, rfl, rfl, rfl, rfl⟩ := en_dup2_i h
      exact lv_dup2_11 hx hb hdg (en_c1 G a) (en_c1 G b) (k H locs ls hP hD hS hl)
    | pop =>
      have hh := h
      clear h
      obtain ⟨rfl, h⟩ := en_g_i (show en_g len 1 _ = _ from hh)
      clear hh
      obtain ⟨a, r, rfl, rfl, rfl, rfl, rfl⟩ := en_pop_i h
      exact lv_pop hx hb hdg (en_c1 G a) (k H locs ls hP hD hS hl)
    | goto o =>
      have hh := h
      clear h
      obtain ⟨rfl, h⟩ := en_g_i (show en_g len 3 _ = _ from hh)
      clear hh
      obtain ⟨ht, rfl, rfl, rfl⟩ := en_jp_i h
      exact lv_goto hx hb hdg ht (k H locs ls hP hD hS hl)
    | ifCond cn o =>
      cases cn with
      | eq =>
        have hh := h
        clear h
        obtain ⟨rfl, h⟩ := en_g_i (show en_g len 3 _ = _ from hh)
        clear hh
        obtain ⟨a, r, t, rfl, ht, h⟩ := en_if_i h
        exact lv_if_eq hx hb hdg ht (fun q => by
          (try dsimp only at h); rw [if_pos q] at h; obtain ⟨rfl, rfl, rfl, rfl⟩ := en_nx_i h; exact k H locs ls hP hD hS hl) (fun q => by
          (try dsimp only at h); rw [if_neg q] at h; obtain ⟨rfl, rfl, rfl, rfl⟩ := en_nx_i h; exact k H locs ls hP hD hS hl)
      | ne =>
        have hh := h
        clear h
        obtain ⟨rfl, h⟩ := en_g_i (show en_g len 3 _ = _ from hh)
        clear hh
        obtain ⟨a, r, t, rfl, ht, h⟩ := en_if_i h
        exact lv_if_ne hx hb hdg ht (fun q => by
          (try dsimp only at h); rw [if_neg q] at h; obtain ⟨rfl, rfl, rfl, rfl⟩ := en_nx_i h; exact k H locs ls hP hD hS hl) (fun q => by
          (try dsimp only at h); rw [if_pos q] at h; obtain ⟨rfl, rfl, rfl, rfl⟩ := en_nx_i h; exact k H locs ls hP hD hS hl)
      | lt =>
        have hh := h
        clear h
        obtain ⟨rfl, h⟩ := en_g_i (show en_g len 3 _ = _ from hh)
        clear hh
        obtain ⟨a, r, t, rfl, ht, h⟩ := en_if_i h
        exact lv_if_lt hx hb hdg ht (fun q => by
          (try dsimp only at h); rw [if_pos q] at h; obtain ⟨rfl, rfl, rfl, rfl⟩ := en_nx_i h; exact k H locs ls hP hD hS hl) (fun q => by
          (try dsimp only at h); rw [if_neg q] at h; obtain ⟨rfl, rfl, rfl, rfl⟩ := en_nx_i h; exact k H locs ls hP hD hS hl)
      | ge =>
        have hh := h
        clear h
        obtain ⟨rfl, h⟩ := en_g_i (show en_g len 3 _ = _ from hh)
        clear hh
        obtain ⟨a, r, t, rfl, ht, h⟩ := en_if_i h
        exact lv_if_ge hx hb hdg ht (fun q => by
          (try dsimp only at h); rw [if_pos q] at h; obtain ⟨rfl, rfl, rfl, rfl⟩ := en_nx_i h; exact k H locs ls hP hD hS hl) (fun q => by
          (try dsimp only at h); rw [if_neg q] at h; obtain ⟨rfl, rfl, rfl, rfl⟩ := en_nx_i h; exact k H locs ls hP hD hS hl)
      | gt =>
        have hh := h
        clear h
        obtain ⟨rfl, h⟩ := en_g_i (show en_g len 3 _ = _ from hh)
        clear hh
        obtain ⟨a, r, t, rfl, ht, h⟩ := en_if_i h
        exact lv_if_gt hx hb hdg ht (fun q => by
          (try dsimp only at h); rw [if_pos q] at h; obtain ⟨rfl, rfl, rfl, rfl⟩ := en_nx_i h; exact k H locs ls hP hD hS hl) (fun q => by
          (try dsimp only at h); rw [if_neg q] at h; obtain ⟨rfl, rfl, rfl, rfl⟩ := en_nx_i h; exact k H locs ls hP hD hS hl)
      | le =>
        have hh := h
        clear h
        obtain ⟨rfl, h⟩ := en_g_i (show en_g len 3 _ = _ from hh)
        clear hh
        obtain ⟨a, r, t, rfl, ht, h⟩ := en_if_i h
        exact lv_if_le hx hb hdg ht (fun q => by
          (try dsimp only at h); rw [if_pos q] at h; obtain ⟨rfl, rfl, rfl, rfl⟩ := en_nx_i h; exact k H locs ls hP hD hS hl) (fun q => by
          (try dsimp only at h); rw [if_neg q] at h; obtain ⟨rfl, rfl, rfl, rfl⟩ := en_nx_i h; exact k H locs ls hP hD hS hl)
    | if_icmp cn o =>
      cases cn with
      | eq =>
        have hh := h
        clear h
        obtain ⟨rfl, h⟩ := en_g_i (show en_g len 3 _ = _ from hh)
        clear hh
        obtain ⟨a, b, r, t, rfl, ht, h⟩ := en_ic_i h
        exact lv_icmp_eq hx hb hdg ht (fun q => by
          (try dsimp only at h); rw [if_pos q] at h; obtain ⟨rfl, rfl, rfl, rfl⟩ := en_nx_i h; exact k H locs ls hP hD hS hl) (fun q => by
          (try dsimp only at h); rw [if_neg q] at h; obtain ⟨rfl, rfl, rfl, rfl⟩ := en_nx_i h; exact k H locs ls hP hD hS hl)
      | ne =>
        have hh := h
        clear h
        obtain ⟨rfl, h⟩ := en_g_i (show en_g len 3 _ = _ from hh)
        clear hh
        obtain ⟨a, b, r, t, rfl, ht, h⟩ := en_ic_i h
        exact lv_icmp_ne hx hb hdg ht (fun q => by
          (try dsimp only at h); rw [if_neg q] at h; obtain ⟨rfl, rfl, rfl, rfl⟩ := en_nx_i h; exact k H locs ls hP hD hS hl) (fun q => by
          (try dsimp only at h); rw [if_pos q] at h; obtain ⟨rfl, rfl, rfl, rfl⟩ := en_nx_i h; exact k H locs ls hP hD hS hl)
      | lt =>
        have hh := h
        clear h
        obtain ⟨rfl, h⟩ := en_g_i (show en_g len 3 _ = _ from hh)
        clear hh
        obtain ⟨a, b, r, t, rfl, ht, h⟩ := en_ic_i h
        exact lv_icmp_lt hx hb hdg ht (fun q => by
          (try dsimp only at h); rw [if_pos q] at h; obtain ⟨rfl, rfl, rfl, rfl⟩ := en_nx_i h; exact k H locs ls hP hD hS hl) (fun q => by
          (try dsimp only at h); rw [if_neg q] at h; obtain ⟨rfl, rfl, rfl, rfl⟩ := en_nx_i h; exact k H locs ls hP hD hS hl)
      | ge =>
        have hh := h
        clear h
        obtain ⟨rfl, h⟩ := en_g_i (show en_g len 3 _ = _ from hh)
        clear hh
        obtain ⟨a, b, r, t, rfl, ht, h⟩ := en_ic_i h
        exact lv_icmp_ge hx hb hdg ht (fun q => by
          (try dsimp only at h); rw [if_pos q] at h; obtain ⟨rfl, rfl, rfl, rfl⟩ := en_nx_i h; exact k H locs ls hP hD hS hl) (fun q => by
          (try dsimp only at h); rw [if_neg q] at h; obtain ⟨rfl, rfl, rfl, rfl⟩ := en_nx_i h; exact k H locs ls hP hD hS hl)
      | gt =>
        have hh := h
        clear h
        obtain ⟨rfl, h⟩ := en_g_i (show en_g len 3 _ = _ from hh)
        clear hh
        obtain ⟨a, b, r, t, rfl, ht, h⟩ := en_ic_i h
        exact lv_icmp_gt hx hb hdg ht (fun q => by
          (try dsimp only at h); rw [if_pos q] at h; obtain ⟨rfl, rfl, rfl, rfl⟩ := en_nx_i h; exact k H locs ls hP hD hS hl) (fun q => by
          (try dsimp only at h); rw [if_neg q] at h; obtain ⟨rfl, rfl, rfl, rfl⟩ := en_nx_i h; exact k H locs ls hP hD hS hl)
      | le =>
        have hh := h
        clear h
        obtain ⟨rfl, h⟩ := en_g_i (show en_g len 3 _ = _ from hh)
        clear hh
        obtain ⟨a, b, r, t, rfl, ht, h⟩ := en_ic_i h
        exact lv_icmp_le hx hb hdg ht (fun q => by
          (try dsimp only at h); rw [if_pos q] at h; obtain ⟨rfl, rfl, rfl, rfl⟩ := en_nx_i h; exact k H locs ls hP hD hS hl) (fun q => by
          (try dsimp only at h); rw [if_neg q] at h; obtain ⟨rfl, rfl, rfl, rfl⟩ := en_nx_i h; exact k H locs ls hP hD hS hl)
    | getfield idx =>
      have hh := h
      clear h
      obtain ⟨rfl, h⟩ := en_g_i (show en_g len 3 _ = _ from hh)
      clear hh
      obtain ⟨n, r, rfl, hn, rfl, rfl, rfl, rfl⟩ := en_gf_i h
      obtain ⟨ho, hj, hw⟩ := en_fl_ok (show (en_flF.map (·.1)).contains (en_mo y, idx, ka, kb) = true from hft)
      obtain ⟨q0, hq0⟩ := en_pos hn
      have he := en_wl_at (G := G) (f := f') hq0
      rw [en_cell_o ho] at he
      exact va_get (D := G.2.1) hx hb hts (fun w hw => (hall w (en_lay_ok ho w hw)).1) hown hK hP q0 he (en_cl_ok ho) kb hj (hmem hw) (fun _ h9 => h9) (en_fs_at hj) hdg (k H locs ls hP hD hS hl)
    | putfield idx =>
      have hh := h
      clear h
      obtain ⟨rfl, h⟩ := en_g_i (show en_g len 3 _ = _ from hh)
      clear hh
      obtain ⟨n, x, r, rfl, hn, hpw, rfl, rfl, rfl, rfl⟩ := en_pf_i h
      obtain ⟨ho, hj, hw⟩ := en_fl_ok (show (en_flF.map (·.1)).contains (en_mo y, idx, ka, kb) = true from hft)
      obtain ⟨q0, hq0⟩ := en_pos hn
      have he := en_wl_at (G := G) (f := f) hq0
      rw [en_cell_o ho] at he
      obtain ⟨hfr, hfin, ty, hty, hnar, hfit⟩ : en_fr ka kb = none ∧ (en_Ft (en_kc ka) kb).2.2.2 = false ∧ ∃ ty : FieldType, parseFieldDescriptor (en_Ft (en_kc ka) kb).2.2.1 = some ty ∧ narrow ty (.int x) = .int x ∧ fits ty (.int x) = true := by
        rcases hpw with hp1 | ⟨hp2, hz⟩
        · obtain ⟨a1, a2, a3⟩ := en_pw_1 hp1
          exact ⟨a1, a2, .int, a3, rfl, rfl⟩
        · obtain ⟨a1, a2, a3⟩ := en_pw_2 hp2
          exact ⟨a1, a2, .boolean, a3, en_isz_nar hz, en_isz_fit hz⟩
      refine va_put (D := G.2.1) hx hb hts (fun w hw => (hall w (en_lay_ok ho w hw)).1) (en_ty (en_kc ka)) (en_ty_ok ho) (en_nm_ok ho) hown hK hP hD hS q0 he (en_cl_ok ho) kb hj (hmem hw) (fun _ h9 => h9) hfin hty hnar hfit (by rw [en_fs_len]; exact hj) hdg (fun H1 locs1 hP1 hD1 hS1 => ?_)
      have e1 : (en_wl G f).set q0 (G.1 ka n, .inr (en_kc ka, (en_fs G ka n f).set kb (.int x))) = en_wl G (en_st f ka n kb x) := by
        rw [en_fs_set hj hfr, ← en_cell_o ho]
        exact en_wl_set hq0
      replace hP1 := e1 ▸ (show va_P G.2.1 en_cl ((en_wl G f).set q0 (G.1 ka n, .inr (en_kc ka, (en_fs G ka n f).set kb (.int x)))) H1 from hP1)
      replace hD1 := e1 ▸ (show va_D A ((en_wl G f).set q0 (G.1 ka n, .inr (en_kc ka, (en_fs G ka n f).set kb (.int x)))) from hD1)
      exact k H1 locs1 ls hP1 hD1 hS1 hl
    | iaload =>
      have hh := h
      clear h
      obtain ⟨rfl, h⟩ := en_g_i (show en_g len 1 _ = _ from hh)
      clear hh
      obtain ⟨kd, n, x, v, r, rfl, rfl, rfl, rfl, rfl, h | h⟩ := en_iald_i h
      · obtain ⟨rfl, hn, hin, rfl⟩ := h
        obtain ⟨x1, x2, x3⟩ := hX n hn
        exact va_sld hx hb x1 x2 x3 hS (en_in hin) hdg (k H locs ls hP hD hS hl)
      · obtain ⟨hk, hn, hin, rfl⟩ := h
        obtain ⟨q0, hq0⟩ := en_pos hn
        have he := en_wl_at (G := G) (f := f') hq0
        rw [en_cell_i hk] at he
        exact va_iald hx hb hK hP q0 0 he rfl (en_in hin) hdg (k H locs ls hP hD hS hl)
    | baload =>
      have hh := h
      clear h
      obtain ⟨rfl, h⟩ := en_g_i (show en_g len 1 _ = _ from hh)
      clear hh
      obtain ⟨kd, n, x, r, rfl, rfl, rfl, rfl, rfl, hk, hn, hin⟩ := en_zald_i h
      obtain ⟨q0, hq0⟩ := en_pos hn
      have he := en_wl_at (G := G) (f := f') hq0
      rw [en_cell_z hk] at he
      exact va_zald hx hb hK hP q0 1 he rfl (en_in hin) hdg (k H locs ls hP hD hS hl)
    | aaload =>
      have hh := h
      clear h
      obtain ⟨rfl, h⟩ := en_g_i (show en_g len 1 _ = _ from hh)
      clear hh
      obtain ⟨kd, n, x, r, rfl, rfl, rfl, rfl, rfl, hk, hn, hin⟩ := en_aald_i h
      obtain ⟨q0, hq0⟩ := en_pos hn
      have he := en_wl_at (G := G) (f := f') hq0
      rw [en_cell_q hk] at he
      obtain ⟨t0, C, ht0⟩ := en_tys_at G hk
      exact va_aldq hx hb hK hP q0 t0 he ht0 (en_in hin) hdg (k H locs ls hP hD hS hl)
    | iastore =>
      have hh := h
      clear h
      obtain ⟨rfl, h⟩ := en_g_i (show en_g len 1 _ = _ from hh)
      clear hh
      obtain ⟨kd, n, x, v, r, rfl, rfl, rfl, rfl, rfl, hk, hn, hin⟩ := en_iast_i h
      obtain ⟨q0, hq0⟩ := en_pos hn
      have he := en_wl_at (G := G) (f := f) hq0
      rw [en_cell_i hk] at he
      refine va_iast hx hb hK hP hD hS q0 0 he rfl (en_in hin) hdg (fun H1 locs1 hP1 hD1 hS1 => ?_)
      rw [en_ar_set, ← en_cell_i (G := G) hk, en_wl_set hq0] at hP1 hD1
      exact k H1 locs1 ls hP1 hD1 hS1 hl
    | bastore =>
      have hh := h
      clear h
      obtain ⟨rfl, h⟩ := en_g_i (show en_g len 1 _ = _ from hh)
      clear hh
      obtain ⟨kd, n, x, v, r, rfl, rfl, rfl, rfl, rfl, hk, hn, hin, hz⟩ := en_zast_i h
      obtain ⟨q0, hq0⟩ := en_pos hn
      have he := en_wl_at (G := G) (f := f) hq0
      rw [en_cell_z hk] at he
      refine va_zast hx hb hK hP hD hS q0 1 he rfl (en_in hin) hdg (fun H1 locs1 hP1 hD1 hS1 => ?_)
      rw [en_isz_vp hz, en_ar_set, ← en_cell_z (G := G) hk, en_wl_set hq0] at hP1 hD1
      exact k H1 locs1 ls hP1 hD1 hS1 hl
    | arraylength =>
      have hh := h
      clear h
      obtain ⟨rfl, h⟩ := en_g_i (show en_g len 1 _ = _ from hh)
      clear hh
      obtain ⟨n, r, rfl, rfl, rfl, rfl, rfl, hn⟩ := en_alen_i h
      obtain ⟨x1, x2, x3⟩ := hX n hn
      exact va_slen hx hb x1 x2 x3 hS hdg (k H locs ls hP hD hS hl)
    | invokevirtual idx => exact (en_iv_n (en_g_i (show en_g len 3 _ = _ from h)).2).elim
    | invokestatic idx => exact (en_is_n (en_g_i (show en_g len 3 _ = _ from h)).2).elim
    | ireturn => exact (en_ire_n (en_g_i (show en_g len 1 _ = _ from h)).2).elim
    | return_ => exact (en_vre_n (en_g_i (show en_g len 1 _ = _ from h)).2).elim
    | tableswitch dflt low high offs =>
      replace h : en_tsw pc lo st f dflt low high offs = some (.inl (pc', lo', st', f')) := h
      unfold en_tsw at h
      split at h
      next x r =>
        split at h
        next h1 =>
          obtain ⟨ht, rfl, rfl, rfl⟩ := en_jp_i h
          exact lv_tableOut hx hb hdg (Or.inl h1) ht (k H locs ls hP hD hS hl)
        next h1 =>
          split at h
          next h2 =>
            obtain ⟨ht, rfl, rfl, rfl⟩ := en_jp_i h
            exact lv_tableOut hx hb hdg (Or.inr h2) ht (k H locs ls hP hD hS hl)
          next h2 =>
            split at h
            next o ho =>
              obtain ⟨ht, rfl, rfl, rfl⟩ := en_jp_i h
              exact lv_tableIn hx hb hdg h1 h2 ho ht (k H locs ls hP hD hS hl)
            next => cases h
      next => cases h
    | _ => exact absurd (show (none : Option en_Rs) = some _ from h) (fun q => by cases q)
end EnStep
end
section
/-! THE ENGINE, sixth part: calls, answers, and that the small machine's runs are the machine's -/
section EnInvC
variable {pc len L : Nat} {lo : en_L} {st : List en_V} {f : en_T} {i y : Nat}
theorem en_iv_i {z y' nx : Nat} {a rest : List en_V} (h : en_iv pc st z = some (.inr (.inr (y', a, rest, nx)))) : ∃ (n : Nat) (b : List en_V), y' = z ∧ en_ms y' = false ∧ a = .inr (en_mk y', n) :: b ∧ n < en_cnt (en_mk y') ∧ b.length = en_np y' ∧ rest.length ≤ 8 ∧ st = b.reverse ++ .inr (en_mk y', n) :: rest ∧ nx = pc := by
  unfold en_iv at h
  split at h
  next h1 =>
    split at h
    next h2 =>
      split at h
      next h3 =>
        split at h
        next c b hb =>
          split at h
          next h4 =>
            split at h
            next h5 =>
              cases h
              obtain ⟨k, n⟩ := c
              dsimp only at h4 h5
              subst h4
              have e1 : st.take (en_np z + 1) = b.reverse ++ [.inr (en_mk z, n)] := by
                have := congrArg List.reverse hb
                simpa using this
              have e2 : (st.take (en_np z + 1)).length = en_np z + 1 := by rw [List.length_take]; omega
              refine ⟨n, b, rfl, h1, rfl, h5, ?_, h3, ?_, rfl⟩
              · rw [e1] at e2; simp at e2; exact e2
              · have := (List.take_append_drop (en_np z + 1) st).symm
                rw [e1] at this
                simpa using this
            next => cases h
          next => cases h
        next => cases h
      next => cases h
    next => cases h
  next => cases h
theorem en_is_i {z y' nx : Nat} {a rest : List en_V} (h : en_is pc st z = some (.inr (.inr (y', a, rest, nx)))) : y' = z ∧ en_ms y' = true ∧ a.length = en_np y' ∧ rest.length ≤ 8 ∧ st = a.reverse ++ rest ∧ nx = pc := by
  unfold en_is at h
  split at h
  next h1 =>
    split at h
    next h2 =>
      split at h
      next h3 =>
        cases h
        refine ⟨rfl, h1, ?_, h3, ?_, rfl⟩
        · rw [List.length_reverse, List.length_take]; omega
        · rw [List.reverse_reverse, List.take_append_drop]
      next => cases h
    next => cases h
  next => cases h
theorem en_ire_i {r : Option en_V} (h : en_ire y st = some (.inr (.inl r))) : ∃ x : Int32, st = [.inl x] ∧ r = some (.inl x) ∧ (en_rt y = 1 ∨ en_rt y = 2 ∧ en_isz x = true) := by
  unfold en_ire at h
  split at h
  next x t =>
    split at h
    next h1 =>
      have ht : t = [] := List.eq_nil_of_length_eq_zero h1
      subst ht
      split at h
      next h2 => cases h; exact ⟨x, rfl, rfl, Or.inl h2⟩
      next =>
        split at h
        next h2 =>
          split at h
          next h3 => cases h; exact ⟨x, rfl, rfl, Or.inr ⟨h2, h3⟩⟩
          next => cases h
        next => cases h
    next => cases h
  next => cases h
theorem en_vre_i {r : Option en_V} (h : en_vre y st = some (.inr (.inl r))) : st = [] ∧ r = none ∧ en_rt y = 0 := by
  unfold en_vre at h
  split at h
  next =>
    split at h
    next h1 => cases h; exact ⟨rfl, rfl, h1⟩
    next => cases h
  next => cases h
/-- which instructions call, and which answer -/
theorem en_ex_c {cs : en_S} {ins : Instr} {ka kb : Nat} {q : Nat × List en_V × List en_V × Nat} (h : en_ex cs y ins len ka kb pc lo st f = some (.inr (.inr q))) : len = 3 ∧ ((∃ i, ins = .invokevirtual i ∧ en_iv (pc + 3) st ka = some (.inr (.inr q))) ∨ (∃ i, ins = .invokestatic i ∧ en_is (pc + 3) st ka = some (.inr (.inr q)))) := by
  unfold en_ex at h
  split at h
  all_goals first
    | (obtain ⟨rfl, h⟩ := en_g_i h; exact ⟨rfl, Or.inl ⟨_, rfl, h⟩⟩)
    | (obtain ⟨rfl, h⟩ := en_g_i h; exact ⟨rfl, Or.inr ⟨_, rfl, h⟩⟩)
    | (exfalso; cases h; done)
    | (exfalso; obtain ⟨rfl, h⟩ := en_g_i h; simp only [en_nx, en_jp, en_ild, en_ald, en_ist, en_ast, en_inc, en_b2, en_bd, en_if, en_ic, en_dup, en_dupx, en_dup2, en_pop, en_gf, en_pf, en_iald, en_zald, en_iast, en_zast, en_aald, en_alen, en_ire, en_vre] at h; (repeat' split at h) <;> cases h; done)
    | (exfalso; simp only [en_tsw, en_jp] at h; (repeat' split at h) <;> cases h; done)
theorem en_ex_r {cs : en_S} {ins : Instr} {ka kb : Nat} {r : Option en_V} (h : en_ex cs y ins len ka kb pc lo st f = some (.inr (.inl r))) : len = 1 ∧ ((ins = .ireturn ∧ en_ire y st = some (.inr (.inl r))) ∨ (ins = .return_ ∧ en_vre y st = some (.inr (.inl r)))) := by
  unfold en_ex at h
  split at h
  all_goals first
    | (obtain ⟨rfl, h⟩ := en_g_i h; exact ⟨rfl, Or.inl ⟨rfl, h⟩⟩)
    | (obtain ⟨rfl, h⟩ := en_g_i h; exact ⟨rfl, Or.inr ⟨rfl, h⟩⟩)
    | (exfalso; cases h; done)
    | (exfalso; obtain ⟨rfl, h⟩ := en_g_i h; simp only [en_nx, en_jp, en_ild, en_ald, en_ist, en_ast, en_inc, en_b2, en_bd, en_if, en_ic, en_dup, en_dupx, en_dup2, en_pop, en_gf, en_pf, en_iald, en_zald, en_iast, en_zast, en_aald, en_alen, en_iv, en_is] at h; (repeat' split at h) <;> cases h; done)
    | (exfalso; simp only [en_tsw, en_jp] at h; (repeat' split at h) <;> cases h; done)
end EnInvC
section EnCall
variable {p : Program} {l : Launch} {e : Env} {R : Room} {s : State} {m : MethodId} {args : Array Value} {below : List Frame} {meth : Method} {c : Code} {cells slots : Nat} {Q : State → Prop}
variable {Ts : List Cond} {cs : en_S} {y : Nat} {G : en_Gg} {A : Nat → Prop} {H0 : Heap}
theorem en_row {H : Heap} {locs : List Loc} {pc : Nat} {ls : Array Slot} {st0 rest : List Value} {a : Array Value} {Q' : en_Q} (hr : va_Run p l e R s m args below meth c H locs cells slots 0 0 (F0 m pc ls st0) rest (en_Qc G Q' a) (en_A G)) (hS : va_S A H0 H locs) (hA : ∀ q, en_A G q → A q)
    (kk : ∀ (r : Option en_V) (g : en_T) (H1 : Heap) (locs1 : List Loc), Q' r g → va_P G.2.1 en_cl (en_wl G g) H1 → va_S A H0 H1 locs1 → W p l e R s m args below meth c H1 locs1 cells slots Q (F0 m (pc + 3) ls ((r.map (en_c G)).toList ++ rest))) : W p l e R s m args below meth c H locs cells slots Q (F0 m pc ls st0) := by
  intro T hT X
  obtain ⟨v, st₀, t, T', L, h0, X', hL, e1, e2, ⟨⟨r, g, hv, hq, hp⟩, hz, hk⟩, st⟩ := hr T hT X
  cases hv
  rw [h0] at hz hk
  obtain ⟨t2, a1, b1⟩ := kk r g T'.heap (locs ++ L) hq (by rw [e1]; exact hp)
    ⟨Nat.le_trans hS.1 (by rw [e1]; exact hz), fun q h1 h2 => by rw [e1, hk q (Nat.lt_of_lt_of_le h1 hS.1) (fun z => h2 (hA q z))]; exact hS.2.1 q h1 h2, fun q hq => by
      rcases List.mem_append.mp hq with h | h
      · exact hS.2.2 q h
      · exact hA _ (hL q h)⟩ T' rfl X'
  exact ⟨t2, st t2 a1, b1⟩
theorem en_blind {a : List en_V} {f : en_T} : FrameBlind (en_Pc G a f) := fun a U g mk q => by
  obtain ⟨q0, qP, qK, qD⟩ := q
  exact ⟨q0, qP, va_K.moved (u := U) (U := U.calling g mk a) (Vm.Alike.refl U.vm) qK, qD⟩
set_option maxHeartbeats 4000000 in
theorem en_step_c (F : en_Fx p s m args c Ts cs y G A H0) {d pc y' nx : Nat} {lo : en_L} {st a rest : List en_V} {f : en_T} {Q' : en_Q} (h : en_stp cs y pc lo st f = some (.inr (.inr (y', a, rest, nx))))
    (hR : d + 1 ≤ R.frames ∧ 28 * d + 28 ≤ R.locals) (hC : cells ≤ R.cells ∧ slots ≤ R.slots)
    (hM : en_va y' = true → Met l (en_my y') (en_w y') (en_rm d) (en_Pc G a f) (en_Qc G Q') 0 0 (en_A G))
    (k : ∀ r g, Q' r g → en_P p l e R s m args below meth c cells slots Q G A H0 (en_mL y) nx lo (r.toList ++ rest) g) : en_P p l e R s m args below meth c cells slots Q G A H0 (en_mL y) pc lo st f := by
  obtain ⟨hx, hb, hml, hown, hts, hall, hK, hX⟩ := F
  unfold en_stp at h
  cases hcd : en_cd y pc with
  | none => rw [hcd] at h; cases h
  | some q =>
    rw [hcd] at h
    obtain ⟨ins, len, ka, kb⟩ := q
    obtain ⟨hdg, hft⟩ := en_cd_all hcd
    replace hdg : decode (en_mb y) pc = .ok (ins, len) := hdg
    replace h : en_ex cs y ins len ka kb pc lo st f = some (.inr (.inr (y', a, rest, nx))) := h
    intro H locs ls hP hD hS hl
    have hh := en_ex_c h
    clear h
    obtain ⟨rfl, h⟩ := hh
    have hA : ∀ q, en_A G q → A q := fun q hq => en_D_in hD hq
    have hDA : va_D (en_A G) (en_wl G f) := ⟨hD.1, fun k q hk => by
      cases hc : en_allc[k]? with
      | none => rw [en_wl, List.getElem?_map, hc] at hk; cases hk
      | some c => rw [en_wl_at (k := c.1) (i := c.2) hc] at hk; cases hk; exact ⟨c, List.mem_of_getElem? hc, rfl⟩⟩
    rcases h with ⟨idx, rfl, h⟩ | ⟨idx, rfl, h⟩
    · obtain ⟨n, b, rfl, hst, rfl, hn, hbl, hrl, rfl, rfl⟩ := en_iv_i h
      obtain ⟨hv, hlk, hvw, -⟩ := en_ml_ok (show (en_mlF.map (·.1)).contains (en_mo y, idx, y') = true from hft)
      obtain ⟨hcls, hmx, hd1, hd2, hd3, hpn, hcode⟩ := en_my_ok hv
      obtain ⟨hin, hsel, hini, hrk⟩ := hvw hst
      obtain ⟨q0, hq0⟩ := en_pos hn
      have he := en_wl_at (G := G) (f := f) hq0
      rw [en_cell_o hrk.1] at he
      have hGw : GoodIn Ts (wsV (en_cn (en_mo y)) idx (en_my y').cls (en_my y') (en_w y')) := by
        intro w hw
        rcases List.mem_append.mp hw with h | h
        · rcases List.mem_cons.mp h with rfl | h
          · exact hall _ hlk
          rcases List.mem_cons.mp h with rfl | h
          · exact hall _ hin
          rcases List.mem_cons.mp h with rfl | h
          · exact hall _ hsel
          rcases List.mem_cons.mp h with rfl | h
          · exact hall _ hini
          · cases h
        · rcases List.mem_cons.mp h with rfl | h
          · exact hall _ hcode
          · exact hall _ h
      refine en_row (G := G) (Q' := Q') (rest := rest.map (en_c G)) (va_runV (C := (en_my y').cls) (b := G.1 (en_mk y') n) (As := b.map (en_c G)) ⟨hx, hb, hml, hown, hts⟩ (hM hv)
        (cwV (en_np y') hts hGw rfl rfl rfl ⟨rfl, hd1, hd2, hd3⟩ ⟨hR.1, by show 8 + (en_mL y' + 11) + 28 * d ≤ R.locals; omega⟩)
        ⟨en_blind, by rw [← hrk.2]; exact va_recv hK hP (en_cl_ok hrk.1) he, fun U hU hW => ⟨rfl, by rw [hU]; exact hP, va_K.moved hW.alike hK, hDA⟩⟩ rfl (by rw [List.length_map]; exact hbl) hl.1 (by simp [en_c]) (lv_room (by rw [en_cat]; exact hrl)) hdg ⟨hC.1, hC.2⟩) hS hA (fun r g H1 locs1 hq hP1 hS1 => ?_)
      rw [← en_app]
      exact k r g hq H1 locs1 ls hP1 (en_D_any hD) hS1 hl
    · obtain ⟨rfl, hst, hal, hrl, rfl, rfl⟩ := en_is_i h
      obtain ⟨hv, hlk, -, hsw⟩ := en_ml_ok (show (en_mlF.map (·.1)).contains (en_mo y, idx, y') = true from hft)
      obtain ⟨hcls, hmx, hd1, hd2, hd3, hpn, hcode⟩ := en_my_ok hv
      obtain ⟨hsta, hini, hocl⟩ := hsw hst
      have hGw : GoodIn Ts (wsS (en_cn (en_mo y)) idx (en_my y') (en_w y')) := by
        intro w hw
        rcases List.mem_append.mp hw with h | h
        · rcases List.mem_cons.mp h with rfl | h
          · exact hall _ hlk
          rcases List.mem_cons.mp h with rfl | h
          · exact hall _ hsta
          rcases List.mem_cons.mp h with rfl | h
          · rw [← hocl]; exact hall _ hini
          · cases h
        · rcases List.mem_cons.mp h with rfl | h
          · exact hall _ hcode
          · exact hall _ h
      refine en_row (G := G) (Q' := Q') (rest := rest.map (en_c G)) (va_runS (As := a.map (en_c G)) ⟨hx, hb, hml, hown, hts⟩ (hM hv)
        (cwS (en_np y') hts hGw rfl rfl rfl ⟨hocl, hd1, hd2, hd3⟩ ⟨hR.1, by show 8 + (en_mL y' + 11) + 28 * d ≤ R.locals; omega⟩)
        ⟨en_blind, fun U hU hW => ⟨rfl, by rw [hU]; exact hP, va_K.moved hW.alike hK, hDA⟩⟩ rfl (by rw [List.length_map]; exact hal) hl.1 (by simp) (lv_room (by rw [en_cat]; exact hrl)) hdg ⟨hC.1, hC.2⟩) hS hA (fun r g H1 locs1 hq hP1 hS1 => ?_)
      rw [← en_app]
      exact k r g hq H1 locs1 ls hP1 (en_D_any hD) hS1 hl
set_option maxHeartbeats 4000000 in
theorem en_step_r (F : en_Fx p s m args c Ts cs y G (en_A G) s.heap) (hlocks : meth.locks = false) (hr : meth.sig.returnType = en_mr y) {pc : Nat} {lo : en_L} {st : List en_V} {f : en_T} {r : Option en_V} {post : en_Q} (h : en_stp cs y pc lo st f = some (.inr (.inl r))) (hp : post r f) :
    en_P p l e R s m args below meth c cells slots (MQ below (en_Qc G post) args s cells slots (en_A G)) G (en_A G) s.heap (en_mL y) pc lo st f := by
  obtain ⟨hx, hb, hml, hown, hts, hall, hK, hX⟩ := F
  unfold en_stp at h
  cases hcd : en_cd y pc with
  | none => rw [hcd] at h; cases h
  | some q =>
    rw [hcd] at h
    obtain ⟨ins, len, ka, kb⟩ := q
    obtain ⟨hdg, hft⟩ := en_cd_all hcd
    replace hdg : decode (en_mb y) pc = .ok (ins, len) := hdg
    replace h : en_ex cs y ins len ka kb pc lo st f = some (.inr (.inl r)) := h
    intro H locs ls hP hD hS hl
    have hh := en_ex_r h
    clear h
    obtain ⟨rfl, h⟩ := hh
    rcases h with ⟨rfl, h⟩ | ⟨rfl, h⟩
    · obtain ⟨x, rfl, rfl, h1 | ⟨h2, hz⟩⟩ := en_ire_i h
      · have hr' : meth.sig.returnType = some .int := by rw [hr, en_mr, h1]; rfl
        exact W.iret (v := x) hx hb hr' (fun t ht hW => ⟨⟨some (.inl x), f, rfl, hp, by rw [ht]; exact hP⟩, hS.F ht⟩) hS.2.2 hdg
      · have hr' : meth.sig.returnType = some .boolean := by rw [hr, en_mr, h2]; rfl
        exact W.zret (v := x) hx hb hr' (en_isz_nar hz) (fun t ht hW => ⟨⟨some (.inl x), f, rfl, hp, by rw [ht]; exact hP⟩, hS.F ht⟩) hS.2.2 hdg
    · obtain ⟨rfl, rfl, h1⟩ := en_vre_i h
      have hr' : meth.sig.returnType = none := by rw [hr, en_mr, h1]; rfl
      exact W.vret hx hb hr' (fun t ht hW => ⟨⟨none, f, rfl, hp, by rw [ht]; exact hP⟩, hS.F ht⟩) hS.2.2 hdg
end EnCall
set_option maxHeartbeats 4000000 in
/-- THE ENGINE'S THEOREM: what the small machine says of a method is a contract of the method -/
theorem en_snd (l : Launch) (G : en_Gg) : ∀ (d y : Nat) (a : List en_V) (f : en_T) (Q : en_Q), en_Ev d y a f Q → en_va y = true → Met l (en_my y) (en_w y) (en_rm d) (en_Pc G a f) (en_Qc G Q) 0 0 (en_A G) := by
  intro d
  induction d with
  | zero => intro y a f Q h; exact h.elim
  | succ d ih =>
    intro y a f Q h hv
    obtain ⟨hlen, hgo⟩ := h
    obtain ⟨hcls, hmx, hd1, hd2, hd3, hpn, hcode⟩ := en_my_ok hv
    refine Met.ofW (cc := en_mb y) (maxL := en_mL y) (ret := en_mr y) hpn rfl ?_
    intro p e s m args below meth c s₁ B hml hv'
    obtain ⟨rfl, hP, hK, hD⟩ := hv'
    have hts := atoms_spec (ws := en_w y) B.pre
    have hown : s.vm.findClass (en_cn (en_mo y)) = some m.cls := by rw [← hcls]; exact findClass_of_methodNamed B.named
    have hall : GoodIn (en_w y) en_all := fun w hw => ⟨List.mem_cons_of_mem _ hw, en_good w hw⟩
    have F : en_Fx p s m (a.map (en_c G)).toArray c (en_w y) en_s0 y G (en_A G) s.heap := ⟨B.exec, B.bytes, hml, hown, hts, hall, hK, fun i hi => absurd hi (Nat.not_lt_zero i)⟩
    have key := hgo (en_P p l e (headSpec (en_w y) (en_rm (d + 1))).room s m (a.map (en_c G)).toArray below meth c 0 0 (MQ below (en_Qc G Q) (a.map (en_c G)).toArray s 0 0 (en_A G)) G (en_A G) s.heap (en_mL y)) ?_
    · rw [lg_entry_eq]
      exact key s.heap [] _ hP hD va_S.rf (en_loc_entry G a (en_mL y) hlen)
    · intro pc lo st f' hs
      unfold en_Sx at hs
      cases hq : en_stp en_s0 y pc lo st f' with
      | none => rw [hq] at hs; exact hs.elim
      | some q =>
        rw [hq] at hs
        cases q with
        | inl q => exact en_step_n F hq hs
        | inr q =>
          cases q with
          | inl r => exact en_step_r F B.notSynchronized B.returns hq hs
          | inr q => exact en_step_c (d := d) F hq ⟨Nat.le_refl _, Nat.le_refl _⟩ ⟨Nat.le_refl _, Nat.le_refl _⟩ (ih _ _ _ _ hs) (fun r g hk => hk)
end
section
/-! THE RULES: a run at an instruction is a run at the next one -/
theorem en_R_g {cs : en_S} {y d : Nat} {post : en_Q} {pc pc' : Nat} {lo lo' : en_L} {st st' : List en_V} {f f' : en_T} {c : Prop} {hc : Decidable c} (h : en_stp cs y pc lo st f = @ite _ c hc (some (.inl (pc', lo', st', f'))) none) : en_R cs y d post pc lo st f = (c ∧ en_R cs y d post pc' lo' st' f') := by
  rw [en_R_sx, en_Sx, h]
  by_cases hx : c
  · rw [if_pos hx]; simp [hx]
  · rw [if_neg hx]; simp [hx]
theorem en_stp_c {cs : en_S} {y pc : Nat} {q : en_I} {lo : en_L} {st : List en_V} {f : en_T} (h : en_cd y pc = some q) : en_stp cs y pc lo st f = en_ex cs y q.1 q.2.1 q.2.2.1 q.2.2.2 pc lo st f := by unfold en_stp; rw [h]
section EnRules
variable {cs : en_S} {y d pc ka kb : Nat} {post : en_Q} {lo : en_L} {st : List en_V} {f : en_T} {a b x v : Int32} {i k : Nat} {u w z : en_V}
theorem ru_iconst {n : Int} (h : en_cd y pc = some (.iconst n, 1, ka, kb)) (hv : Int32.ofInt n = v) : en_R cs y d post pc lo st f = en_R cs y d post (pc + 1) lo (.inl v :: st) f := by
  subst hv; exact en_R_n (by rw [en_stp_c h]; rfl)
theorem ru_bipush {n : Int} (h : en_cd y pc = some (.bipush n, 2, ka, kb)) (hv : (Int8.ofInt n).toInt32 = v) : en_R cs y d post pc lo st f = en_R cs y d post (pc + 2) lo (.inl v :: st) f := by
  subst hv; exact en_R_n (by rw [en_stp_c h]; rfl)
theorem ru_sipush {n : Int} (h : en_cd y pc = some (.sipush n, 3, ka, kb)) (hv : (Int16.ofInt n).toInt32 = v) : en_R cs y d post pc lo st f = en_R cs y d post (pc + 3) lo (.inl v :: st) f := by
  subst hv; exact en_R_n (by rw [en_stp_c h]; rfl)
theorem ru_load1 {n : Fin 4} (h : en_cd y pc = some (.iload_n n, 1, ka, kb)) (hl : lo[(n : Nat)]? = some (some (.inl x))) : en_R cs y d post pc lo st f = en_R cs y d post (pc + 1) lo (.inl x :: st) f :=
  en_R_n (by rw [en_stp_c h]; show en_g 1 1 (en_ild (pc + 1) lo st f n) = _; unfold en_ild; rw [hl]; rfl)
theorem ru_load2 {n : Nat} (h : en_cd y pc = some (.iload n, 2, ka, kb)) (hl : lo[n]? = some (some (.inl x))) : en_R cs y d post pc lo st f = en_R cs y d post (pc + 2) lo (.inl x :: st) f :=
  en_R_n (by rw [en_stp_c h]; show en_g 2 2 (en_ild (pc + 2) lo st f n) = _; unfold en_ild; rw [hl]; rfl)
theorem ru_aload1 {q : Nat × Nat} {n : Fin 4} (h : en_cd y pc = some (.aload_n n, 1, ka, kb)) (hl : lo[(n : Nat)]? = some (some (.inr q))) : en_R cs y d post pc lo st f = en_R cs y d post (pc + 1) lo (.inr q :: st) f :=
  en_R_n (by rw [en_stp_c h]; show en_g 1 1 (en_ald (pc + 1) lo st f n) = _; unfold en_ald; rw [hl]; rfl)
theorem ru_aload2 {q : Nat × Nat} {n : Nat} (h : en_cd y pc = some (.aload n, 2, ka, kb)) (hl : lo[n]? = some (some (.inr q))) : en_R cs y d post pc lo st f = en_R cs y d post (pc + 2) lo (.inr q :: st) f :=
  en_R_n (by rw [en_stp_c h]; show en_g 2 2 (en_ald (pc + 2) lo st f n) = _; unfold en_ald; rw [hl]; rfl)
theorem ru_istore1 {n : Fin 4} (h : en_cd y pc = some (.istore_n n, 1, ka, kb)) (hl : (n : Nat) < lo.length) : en_R cs y d post pc lo (.inl x :: st) f = en_R cs y d post (pc + 1) (lo.set n (some (.inl x))) st f :=
  en_R_n (by rw [en_stp_c h]; show en_g 1 1 (if (n : Nat) < lo.length then _ else none) = _; rw [if_pos hl]; rfl)
theorem ru_istore2 {n : Nat} (h : en_cd y pc = some (.istore n, 2, ka, kb)) (hl : n < lo.length) : en_R cs y d post pc lo (.inl x :: st) f = en_R cs y d post (pc + 2) (lo.set n (some (.inl x))) st f :=
  en_R_n (by rw [en_stp_c h]; show en_g 2 2 (if n < lo.length then _ else none) = _; rw [if_pos hl]; rfl)
theorem ru_astore1 {q : Nat × Nat} {n : Fin 4} (h : en_cd y pc = some (.astore_n n, 1, ka, kb)) (hl : (n : Nat) < lo.length) : en_R cs y d post pc lo (.inr q :: st) f = en_R cs y d post (pc + 1) (lo.set n (some (.inr q))) st f :=
  en_R_n (by rw [en_stp_c h]; show en_g 1 1 (if (n : Nat) < lo.length then _ else none) = _; rw [if_pos hl]; rfl)
theorem ru_astore2 {q : Nat × Nat} {n : Nat} (h : en_cd y pc = some (.astore n, 2, ka, kb)) (hl : n < lo.length) : en_R cs y d post pc lo (.inr q :: st) f = en_R cs y d post (pc + 2) (lo.set n (some (.inr q))) st f :=
  en_R_n (by rw [en_stp_c h]; show en_g 2 2 (if n < lo.length then _ else none) = _; rw [if_pos hl]; rfl)
theorem ru_iinc {n : Nat} {m : Int} (h : en_cd y pc = some (.iinc n m, 3, ka, kb)) (hv : Int32.ofInt m = v) (hl : lo[n]? = some (some (.inl x))) : en_R cs y d post pc lo st f = en_R cs y d post (pc + 3) (lo.set n (some (.inl (x + v)))) st f := by
  subst hv
  exact en_R_n (by rw [en_stp_c h]; show en_g 3 3 (en_inc (pc + 3) lo st f n m) = _; unfold en_inc; rw [hl]; rfl)
theorem ru_iadd (h : en_cd y pc = some (.iadd, 1, ka, kb)) : en_R cs y d post pc lo (.inl b :: .inl a :: st) f = en_R cs y d post (pc + 1) lo (.inl (a + b) :: st) f := en_R_n (by rw [en_stp_c h]; rfl)
theorem ru_isub (h : en_cd y pc = some (.isub, 1, ka, kb)) : en_R cs y d post pc lo (.inl b :: .inl a :: st) f = en_R cs y d post (pc + 1) lo (.inl (a - b) :: st) f := en_R_n (by rw [en_stp_c h]; rfl)
theorem ru_imul (h : en_cd y pc = some (.imul, 1, ka, kb)) : en_R cs y d post pc lo (.inl b :: .inl a :: st) f = en_R cs y d post (pc + 1) lo (.inl (a * b) :: st) f := en_R_n (by rw [en_stp_c h]; rfl)
theorem ru_iand (h : en_cd y pc = some (.iand, 1, ka, kb)) : en_R cs y d post pc lo (.inl b :: .inl a :: st) f = en_R cs y d post (pc + 1) lo (.inl (a &&& b) :: st) f := en_R_n (by rw [en_stp_c h]; rfl)
theorem ru_ior (h : en_cd y pc = some (.ior, 1, ka, kb)) : en_R cs y d post pc lo (.inl b :: .inl a :: st) f = en_R cs y d post (pc + 1) lo (.inl (a ||| b) :: st) f := en_R_n (by rw [en_stp_c h]; rfl)
theorem ru_ixor (h : en_cd y pc = some (.ixor, 1, ka, kb)) : en_R cs y d post pc lo (.inl b :: .inl a :: st) f = en_R cs y d post (pc + 1) lo (.inl (a ^^^ b) :: st) f := en_R_n (by rw [en_stp_c h]; rfl)
theorem ru_ishl (h : en_cd y pc = some (.ishl, 1, ka, kb)) : en_R cs y d post pc lo (.inl b :: .inl a :: st) f = en_R cs y d post (pc + 1) lo (.inl (a <<< (b &&& 31)) :: st) f := en_R_n (by rw [en_stp_c h]; rfl)
theorem ru_ishr (h : en_cd y pc = some (.ishr, 1, ka, kb)) : en_R cs y d post pc lo (.inl b :: .inl a :: st) f = en_R cs y d post (pc + 1) lo (.inl (a >>> (b &&& 31)) :: st) f := en_R_n (by rw [en_stp_c h]; rfl)
theorem ru_idiv (h : en_cd y pc = some (.idiv, 1, ka, kb)) : en_R cs y d post pc lo (.inl b :: .inl a :: st) f = (¬ b = 0 ∧ en_R cs y d post (pc + 1) lo (.inl (a / b) :: st) f) := by
  by_cases hb : b = 0
  · rw [en_R_sx, en_Sx, en_stp_c h]
    show (match en_g 1 1 (if b = 0 then none else _) with | none => False | some (.inl q) => _ | some (.inr (.inl r)) => _ | some (.inr (.inr q)) => _) = _
    rw [if_pos hb]
    simp [en_g, hb]
  · have := en_R_n (cs := cs) (d := d) (post := post) (show en_stp cs y pc lo (.inl b :: .inl a :: st) f = some (.inl (pc + 1, lo, .inl (a / b) :: st, f)) by rw [en_stp_c h]; show en_g 1 1 (if b = 0 then none else _) = _; rw [if_neg hb]; rfl)
    rw [this]; simp [hb]
theorem ru_irem (h : en_cd y pc = some (.irem, 1, ka, kb)) : en_R cs y d post pc lo (.inl b :: .inl a :: st) f = (¬ b = 0 ∧ en_R cs y d post (pc + 1) lo (.inl (a - a / b * b) :: st) f) := by
  by_cases hb : b = 0
  · rw [en_R_sx, en_Sx, en_stp_c h]
    show (match en_g 1 1 (if b = 0 then none else _) with | none => False | some (.inl q) => _ | some (.inr (.inl r)) => _ | some (.inr (.inr q)) => _) = _
    rw [if_pos hb]
    simp [en_g, hb]
  · have := en_R_n (cs := cs) (d := d) (post := post) (show en_stp cs y pc lo (.inl b :: .inl a :: st) f = some (.inl (pc + 1, lo, .inl (a - a / b * b) :: st, f)) by rw [en_stp_c h]; show en_g 1 1 (if b = 0 then none else _) = _; rw [if_neg hb]; rfl)
    rw [this]; simp [hb]
theorem ru_dup (h : en_cd y pc = some (.dup, 1, ka, kb)) : en_R cs y d post pc lo (u :: st) f = en_R cs y d post (pc + 1) lo (u :: u :: st) f := en_R_n (by rw [en_stp_c h]; rfl)
theorem ru_dup_x1 (h : en_cd y pc = some (.dup_x1, 1, ka, kb)) : en_R cs y d post pc lo (u :: w :: st) f = en_R cs y d post (pc + 1) lo (u :: w :: u :: st) f := en_R_n (by rw [en_stp_c h]; rfl)
theorem ru_dup2 (h : en_cd y pc = some (.dup2, 1, ka, kb)) : en_R cs y d post pc lo (u :: w :: st) f = en_R cs y d post (pc + 1) lo (u :: w :: u :: w :: st) f := en_R_n (by rw [en_stp_c h]; rfl)
theorem ru_pop (h : en_cd y pc = some (.pop, 1, ka, kb)) : en_R cs y d post pc lo (u :: st) f = en_R cs y d post (pc + 1) lo st f := en_R_n (by rw [en_stp_c h]; rfl)
theorem ru_goto {o : Int} {t : Nat} (h : en_cd y pc = some (.goto o, 3, ka, kb)) (ht : (pc : Int) + o = (t : Int)) : en_R cs y d post pc lo st f = en_R cs y d post t lo st f :=
  en_R_n (by rw [en_stp_c h]; show en_g 3 3 (en_jp pc o lo st f) = _; unfold en_jp; rw [ht]; rfl)
theorem ru_if {o : Int} {t : Nat} {cn : ClassFile.Cond} {q : Int32 → Option en_Rs → Option en_Rs → Option en_Rs} {c : Prop} {hc : Decidable c} (h : en_cd y pc = some (.ifCond cn o, 3, ka, kb)) (ht : (pc : Int) + o = (t : Int))
    (he : en_ex cs y (.ifCond cn o) 3 ka kb pc lo (.inl a :: st) f = en_g 3 3 (en_if pc o lo (.inl a :: st) f q)) (hq : ∀ X Z, q a X Z = @ite _ c hc X Z) : en_R cs y d post pc lo (.inl a :: st) f = @ite _ c hc (en_R cs y d post t lo st f) (en_R cs y d post (pc + 3) lo st f) :=
  en_R_b (c := c) (hc := hc) (by
    rw [en_stp_c h]
    show en_ex cs y (.ifCond cn o) 3 ka kb pc lo (.inl a :: st) f = _
    rw [he]
    show (if 0 ≤ (pc : Int) + o then q a (en_nx ((pc : Int) + o).toNat lo st f) (en_nx (pc + 3) lo st f) else none) = _
    rw [ht, if_pos (Int.natCast_nonneg t), hq]
    rfl)
theorem ru_ic {o : Int} {t : Nat} {cn : ClassFile.Cond} {q : Int32 → Int32 → Option en_Rs → Option en_Rs → Option en_Rs} {c : Prop} {hc : Decidable c} (h : en_cd y pc = some (.if_icmp cn o, 3, ka, kb)) (ht : (pc : Int) + o = (t : Int))
    (he : en_ex cs y (.if_icmp cn o) 3 ka kb pc lo (.inl b :: .inl a :: st) f = en_g 3 3 (en_ic pc o lo (.inl b :: .inl a :: st) f q)) (hq : ∀ X Z, q a b X Z = @ite _ c hc X Z) : en_R cs y d post pc lo (.inl b :: .inl a :: st) f = @ite _ c hc (en_R cs y d post t lo st f) (en_R cs y d post (pc + 3) lo st f) :=
  en_R_b (c := c) (hc := hc) (by
    rw [en_stp_c h]
    show en_ex cs y (.if_icmp cn o) 3 ka kb pc lo (.inl b :: .inl a :: st) f = _
    rw [he]
    show (if 0 ≤ (pc : Int) + o then q a b (en_nx ((pc : Int) + o).toNat lo st f) (en_nx (pc + 3) lo st f) else none) = _
    rw [ht, if_pos (Int.natCast_nonneg t), hq]
    rfl)
theorem ru_ifeq {o : Int} {t : Nat} (h : en_cd y pc = some (.ifCond .eq o, 3, ka, kb)) (ht : (pc : Int) + o = (t : Int)) : en_R cs y d post pc lo (.inl a :: st) f = (if a = 0 then en_R cs y d post t lo st f else en_R cs y d post (pc + 3) lo st f) := ru_if h ht rfl (fun _ _ => rfl)
theorem ru_ifne {o : Int} {t : Nat} (h : en_cd y pc = some (.ifCond .ne o, 3, ka, kb)) (ht : (pc : Int) + o = (t : Int)) : en_R cs y d post pc lo (.inl a :: st) f = (if a = 0 then en_R cs y d post (pc + 3) lo st f else en_R cs y d post t lo st f) := by
  rw [ru_if (c := ¬ a = 0) (hc := inferInstance) h ht rfl (fun X Z => by by_cases q : a = 0 <;> simp [q])]
  by_cases q : a = 0 <;> simp [q]
theorem ru_iflt {o : Int} {t : Nat} (h : en_cd y pc = some (.ifCond .lt o, 3, ka, kb)) (ht : (pc : Int) + o = (t : Int)) : en_R cs y d post pc lo (.inl a :: st) f = (if a < 0 then en_R cs y d post t lo st f else en_R cs y d post (pc + 3) lo st f) := ru_if h ht rfl (fun _ _ => rfl)
theorem ru_ifge {o : Int} {t : Nat} (h : en_cd y pc = some (.ifCond .ge o, 3, ka, kb)) (ht : (pc : Int) + o = (t : Int)) : en_R cs y d post pc lo (.inl a :: st) f = (if 0 ≤ a then en_R cs y d post t lo st f else en_R cs y d post (pc + 3) lo st f) := ru_if h ht rfl (fun _ _ => rfl)
theorem ru_ifgt {o : Int} {t : Nat} (h : en_cd y pc = some (.ifCond .gt o, 3, ka, kb)) (ht : (pc : Int) + o = (t : Int)) : en_R cs y d post pc lo (.inl a :: st) f = (if 0 < a then en_R cs y d post t lo st f else en_R cs y d post (pc + 3) lo st f) := ru_if h ht rfl (fun _ _ => rfl)
theorem ru_ifle {o : Int} {t : Nat} (h : en_cd y pc = some (.ifCond .le o, 3, ka, kb)) (ht : (pc : Int) + o = (t : Int)) : en_R cs y d post pc lo (.inl a :: st) f = (if a ≤ 0 then en_R cs y d post t lo st f else en_R cs y d post (pc + 3) lo st f) := ru_if h ht rfl (fun _ _ => rfl)
theorem ru_iceq {o : Int} {t : Nat} (h : en_cd y pc = some (.if_icmp .eq o, 3, ka, kb)) (ht : (pc : Int) + o = (t : Int)) : en_R cs y d post pc lo (.inl b :: .inl a :: st) f = (if a = b then en_R cs y d post t lo st f else en_R cs y d post (pc + 3) lo st f) := ru_ic h ht rfl (fun _ _ => rfl)
theorem ru_icne {o : Int} {t : Nat} (h : en_cd y pc = some (.if_icmp .ne o, 3, ka, kb)) (ht : (pc : Int) + o = (t : Int)) : en_R cs y d post pc lo (.inl b :: .inl a :: st) f = (if a = b then en_R cs y d post (pc + 3) lo st f else en_R cs y d post t lo st f) := by
  rw [ru_ic (c := ¬ a = b) (hc := inferInstance) h ht rfl (fun X Z => by by_cases q : a = b <;> simp [q])]
  by_cases q : a = b <;> simp [q]
theorem ru_iclt {o : Int} {t : Nat} (h : en_cd y pc = some (.if_icmp .lt o, 3, ka, kb)) (ht : (pc : Int) + o = (t : Int)) : en_R cs y d post pc lo (.inl b :: .inl a :: st) f = (if a < b then en_R cs y d post t lo st f else en_R cs y d post (pc + 3) lo st f) := ru_ic h ht rfl (fun _ _ => rfl)
theorem ru_icge {o : Int} {t : Nat} (h : en_cd y pc = some (.if_icmp .ge o, 3, ka, kb)) (ht : (pc : Int) + o = (t : Int)) : en_R cs y d post pc lo (.inl b :: .inl a :: st) f = (if b ≤ a then en_R cs y d post t lo st f else en_R cs y d post (pc + 3) lo st f) := ru_ic h ht rfl (fun _ _ => rfl)
theorem ru_icgt {o : Int} {t : Nat} (h : en_cd y pc = some (.if_icmp .gt o, 3, ka, kb)) (ht : (pc : Int) + o = (t : Int)) : en_R cs y d post pc lo (.inl b :: .inl a :: st) f = (if b < a then en_R cs y d post t lo st f else en_R cs y d post (pc + 3) lo st f) := ru_ic h ht rfl (fun _ _ => rfl)
theorem ru_icle {o : Int} {t : Nat} (h : en_cd y pc = some (.if_icmp .le o, 3, ka, kb)) (ht : (pc : Int) + o = (t : Int)) : en_R cs y d post pc lo (.inl b :: .inl a :: st) f = (if a ≤ b then en_R cs y d post t lo st f else en_R cs y d post (pc + 3) lo st f) := ru_ic h ht rfl (fun _ _ => rfl)
/-- a field of numbers; a field that is a cell -/
theorem ru_getR {idx k2 n : Nat} (h : en_cd y pc = some (.getfield idx, 3, ka, kb)) (hr : en_fr ka kb = some k2) (hn : en_cnt ka = n) : en_R cs y d post pc lo (.inr (ka, i) :: st) f = (i < n ∧ en_R cs y d post (pc + 3) lo (.inr (k2, i) :: st) f) := by
  subst hn
  exact en_R_g (by
    rw [en_stp_c h]
    show ((if ka = ka then if i < en_cnt ka then some (.inl (pc + 3, lo, en_rd f ka i kb :: st, f)) else none else none) : Option en_Rs) = _
    rw [if_pos rfl]; unfold en_rd; rw [hr])
theorem ru_getI {idx n : Nat} (h : en_cd y pc = some (.getfield idx, 3, ka, kb)) (hr : en_fr ka kb = none) (hn : en_cnt ka = n) (hk : ka < 16) : en_R cs y d post pc lo (.inr (ka, i) :: st) f = (i < n ∧ en_R cs y d post (pc + 3) lo (.inl (f.1 ka i kb) :: st) f) := by
  subst hn
  exact en_R_g (by
    rw [en_stp_c h]
    show ((if ka = ka then if i < en_cnt ka then some (.inl (pc + 3, lo, en_rd f ka i kb :: st, f)) else none else none) : Option en_Rs) = _
    rw [if_pos rfl]; unfold en_rd; rw [hr]; unfold en_gt; rw [if_pos hk])
theorem ru_getM {idx n : Nat} (h : en_cd y pc = some (.getfield idx, 3, ka, kb)) (hr : en_fr ka kb = none) (hn : en_cnt ka = n) (hk : ¬ ka < 16) : en_R cs y d post pc lo (.inr (ka, i) :: st) f = (i < n ∧ en_R cs y d post (pc + 3) lo (.inl (f.2 ka i kb) :: st) f) := by
  subst hn
  exact en_R_g (by
    rw [en_stp_c h]
    show ((if ka = ka then if i < en_cnt ka then some (.inl (pc + 3, lo, en_rd f ka i kb :: st, f)) else none else none) : Option en_Rs) = _
    rw [if_pos rfl]; unfold en_rd; rw [hr]; unfold en_gt; rw [if_neg hk])
theorem ru_putI {idx n : Nat} (h : en_cd y pc = some (.putfield idx, 3, ka, kb)) (hr : en_pw ka kb = 1) (hn : en_cnt ka = n) (hk : ka < 16) : en_R cs y d post pc lo (.inl x :: .inr (ka, i) :: st) f = (i < n ∧ en_R cs y d post (pc + 3) lo st (en_up f.1 ka i kb x, f.2)) := by
  subst hn
  exact en_R_g (by
    rw [en_stp_c h]
    show ((if ka = ka then if i < en_cnt ka then if en_pw ka kb = 1 then some (.inl (pc + 3, lo, st, en_st f ka i kb x)) else _ else none else none) : Option en_Rs) = _
    rw [if_pos rfl, if_pos hr]; unfold en_st; rw [if_pos hk])
theorem ru_putM {idx n : Nat} (h : en_cd y pc = some (.putfield idx, 3, ka, kb)) (hr : en_pw ka kb = 1) (hn : en_cnt ka = n) (hk : ¬ ka < 16) : en_R cs y d post pc lo (.inl x :: .inr (ka, i) :: st) f = (i < n ∧ en_R cs y d post (pc + 3) lo st (f.1, en_up f.2 ka i kb x)) := by
  subst hn
  exact en_R_g (by
    rw [en_stp_c h]
    show ((if ka = ka then if i < en_cnt ka then if en_pw ka kb = 1 then some (.inl (pc + 3, lo, st, en_st f ka i kb x)) else _ else none else none) : Option en_Rs) = _
    rw [if_pos rfl, if_pos hr]; unfold en_st; rw [if_neg hk])
theorem en_R_g2 {pc' : Nat} {lo' : en_L} {st' : List en_V} {f' : en_T} {c e : Prop} {hc : Decidable c} {he : Decidable e} (h : en_stp cs y pc lo st f = @ite _ c hc (@ite _ e he (some (.inl (pc', lo', st', f'))) none) none) : en_R cs y d post pc lo st f = (c ∧ e ∧ en_R cs y d post pc' lo' st' f') := by
  rw [en_R_sx, en_Sx, h]
  by_cases hx : c
  · rw [if_pos hx]
    by_cases hz : e
    · rw [if_pos hz]; simp [hx, hz]
    · rw [if_neg hz]; simp [hz]
  · rw [if_neg hx]; simp [hx]
theorem en_R_g3 {pc' : Nat} {lo' : en_L} {st' : List en_V} {f' : en_T} {c e g : Prop} {hc : Decidable c} {he : Decidable e} {hg : Decidable g} (h : en_stp cs y pc lo st f = @ite _ c hc (@ite _ e he (@ite _ g hg (some (.inl (pc', lo', st', f'))) none) none) none) : en_R cs y d post pc lo st f = (c ∧ e ∧ g ∧ en_R cs y d post pc' lo' st' f') := by
  by_cases hx : c
  · rw [if_pos hx] at h
    rw [en_R_g2 h]; simp [hx]
  · rw [if_neg hx] at h
    rw [en_R_sx, en_Sx, h]; simp [hx]
theorem ru_putZ {idx n : Nat} (h : en_cd y pc = some (.putfield idx, 3, ka, kb)) (hr : en_pw ka kb = 2) (hn : en_cnt ka = n) (hk : ka < 16) : en_R cs y d post pc lo (.inl x :: .inr (ka, i) :: st) f = (i < n ∧ en_isz x = true ∧ en_R cs y d post (pc + 3) lo st (en_up f.1 ka i kb x, f.2)) := by
  subst hn
  exact en_R_g2 (by
    rw [en_stp_c h]
    show ((if ka = ka then if i < en_cnt ka then if en_pw ka kb = 1 then some (.inl (pc + 3, lo, st, en_st f ka i kb x)) else if en_pw ka kb = 2 then if en_isz x = true then some (.inl (pc + 3, lo, st, en_st f ka i kb x)) else none else none else none else none) : Option en_Rs) = _
    rw [if_pos rfl, if_neg (show ¬ en_pw ka kb = 1 by rw [hr]; decide), if_pos hr]; unfold en_st; rw [if_pos hk])
/-- arrays -/
theorem ru_iald {n m : Nat} (h : en_cd y pc = some (.iaload, 1, ka, kb)) (h63 : ¬ k = 63) (hkt : en_kt k = 1) (hn : en_cnt k = n) (hm : en_ln k = m) (hk : k < 16) : en_R cs y d post pc lo (.inl x :: .inr (k, i) :: st) f = (i < n ∧ en_inr x m = true ∧ en_R cs y d post (pc + 1) lo (.inl (f.1 k i x.toNatClampNeg) :: st) f) := by
  subst hn; subst hm
  exact en_R_g2 (by
    rw [en_stp_c h]
    show en_g 1 1 (if k = 63 then _ else if en_kt k = 1 then if i < en_cnt k then if en_inr x (en_ln k) = true then some (.inl (pc + 1, lo, .inl (en_gt f k i x.toNatClampNeg) :: st, f)) else none else none else none) = _
    rw [if_neg h63, if_pos hkt]; unfold en_gt; rw [if_pos hk]; rfl)
theorem ru_ialdM {n m : Nat} (h : en_cd y pc = some (.iaload, 1, ka, kb)) (h63 : ¬ k = 63) (hkt : en_kt k = 1) (hn : en_cnt k = n) (hm : en_ln k = m) (hk : ¬ k < 16) : en_R cs y d post pc lo (.inl x :: .inr (k, i) :: st) f = (i < n ∧ en_inr x m = true ∧ en_R cs y d post (pc + 1) lo (.inl (f.2 k i x.toNatClampNeg) :: st) f) := by
  subst hn; subst hm
  exact en_R_g2 (by
    rw [en_stp_c h]
    show en_g 1 1 (if k = 63 then _ else if en_kt k = 1 then if i < en_cnt k then if en_inr x (en_ln k) = true then some (.inl (pc + 1, lo, .inl (en_gt f k i x.toNatClampNeg) :: st, f)) else none else none else none) = _
    rw [if_neg h63, if_pos hkt]; unfold en_gt; rw [if_neg hk]; rfl)
theorem ru_zaldM {n m : Nat} (h : en_cd y pc = some (.baload, 1, ka, kb)) (hkt : en_kt k = 2) (hn : en_cnt k = n) (hm : en_ln k = m) (hk : ¬ k < 16) : en_R cs y d post pc lo (.inl x :: .inr (k, i) :: st) f = (i < n ∧ en_inr x m = true ∧ en_R cs y d post (pc + 1) lo (.inl (f.2 k i x.toNatClampNeg) :: st) f) := by
  subst hn; subst hm
  exact en_R_g2 (by
    rw [en_stp_c h]
    show en_g 1 1 (if en_kt k = 2 then if i < en_cnt k then if en_inr x (en_ln k) = true then some (.inl (pc + 1, lo, .inl (en_gt f k i x.toNatClampNeg) :: st, f)) else none else none else none) = _
    rw [if_pos hkt]; unfold en_gt; rw [if_neg hk]; rfl)
theorem ru_iast {n m : Nat} (h : en_cd y pc = some (.iastore, 1, ka, kb)) (hkt : en_kt k = 1) (hn : en_cnt k = n) (hm : en_ln k = m) (hk : k < 16) : en_R cs y d post pc lo (.inl v :: .inl x :: .inr (k, i) :: st) f = (i < n ∧ en_inr x m = true ∧ en_R cs y d post (pc + 1) lo st (en_up f.1 k i x.toNatClampNeg v, f.2)) := by
  subst hn; subst hm
  exact en_R_g2 (by
    rw [en_stp_c h]
    show en_g 1 1 (if en_kt k = 1 then if i < en_cnt k then if en_inr x (en_ln k) = true then some (.inl (pc + 1, lo, st, en_st f k i x.toNatClampNeg v)) else none else none else none) = _
    rw [if_pos hkt]; unfold en_st; rw [if_pos hk]; rfl)
theorem ru_iastM {n m : Nat} (h : en_cd y pc = some (.iastore, 1, ka, kb)) (hkt : en_kt k = 1) (hn : en_cnt k = n) (hm : en_ln k = m) (hk : ¬ k < 16) : en_R cs y d post pc lo (.inl v :: .inl x :: .inr (k, i) :: st) f = (i < n ∧ en_inr x m = true ∧ en_R cs y d post (pc + 1) lo st (f.1, en_up f.2 k i x.toNatClampNeg v)) := by
  subst hn; subst hm
  exact en_R_g2 (by
    rw [en_stp_c h]
    show en_g 1 1 (if en_kt k = 1 then if i < en_cnt k then if en_inr x (en_ln k) = true then some (.inl (pc + 1, lo, st, en_st f k i x.toNatClampNeg v)) else none else none else none) = _
    rw [if_pos hkt]; unfold en_st; rw [if_neg hk]; rfl)
theorem ru_zastM {n m : Nat} (h : en_cd y pc = some (.bastore, 1, ka, kb)) (hkt : en_kt k = 2) (hn : en_cnt k = n) (hm : en_ln k = m) (hk : ¬ k < 16) : en_R cs y d post pc lo (.inl v :: .inl x :: .inr (k, i) :: st) f = (i < n ∧ en_inr x m = true ∧ en_isz v = true ∧ en_R cs y d post (pc + 1) lo st (f.1, en_up f.2 k i x.toNatClampNeg v)) := by
  subst hn; subst hm
  exact en_R_g3 (by
    rw [en_stp_c h]
    show en_g 1 1 (if en_kt k = 2 then if i < en_cnt k then if en_inr x (en_ln k) = true then if en_isz v = true then some (.inl (pc + 1, lo, st, en_st f k i x.toNatClampNeg v)) else none else none else none else none) = _
    rw [if_pos hkt]; unfold en_st; rw [if_neg hk]; rfl)
theorem ru_aald {n m k2 : Nat} (h : en_cd y pc = some (.aaload, 1, ka, kb)) (hkt : en_kt k = 3) (hn : en_cnt k = n) (hm : en_ln k = m) (h2 : en_tk k = k2) : en_R cs y d post pc lo (.inl x :: .inr (k, i) :: st) f = (i < n ∧ en_inr x m = true ∧ en_R cs y d post (pc + 1) lo (.inr (k2, x.toNatClampNeg) :: st) f) := by
  subst hn; subst hm; subst h2
  exact en_R_g2 (by
    rw [en_stp_c h]
    show en_g 1 1 (if en_kt k = 3 then if i < en_cnt k then if en_inr x (en_ln k) = true then some (.inl (pc + 1, lo, .inr (en_tk k, x.toNatClampNeg) :: st, f)) else none else none else none) = _
    rw [if_pos hkt]; rfl)
/-- the script -/
theorem ru_sald (h : en_cd y pc = some (.iaload, 1, ka, kb)) : en_R cs y d post pc lo (.inl x :: .inr (63, i) :: st) f = (i < cs.1 ∧ en_inr x cs.2.1 = true ∧ en_R cs y d post (pc + 1) lo (.inl (cs.2.2 x.toNatClampNeg) :: st) f) := en_R_g2 (by rw [en_stp_c h]; rfl)
theorem ru_slen (h : en_cd y pc = some (.arraylength, 1, ka, kb)) : en_R cs y d post pc lo (.inr (63, i) :: st) f = (i < cs.1 ∧ en_R cs y d post (pc + 1) lo (.inl (Int32.ofNat cs.2.1) :: st) f) := en_R_g (by rw [en_stp_c h]; rfl)
/-- answers -/
theorem ru_ire1 (h : en_cd y pc = some (.ireturn, 1, ka, kb)) (hr : en_rt y = 1) : en_R cs y d post pc lo [.inl x] f = post (some (.inl x)) f :=
  en_R_r (by rw [en_stp_c h]; show ((if en_rt y = 1 then some (.inr (.inl (some (.inl x)))) else _) : Option en_Rs) = _; rw [if_pos hr])
theorem ru_ire2 (h : en_cd y pc = some (.ireturn, 1, ka, kb)) (hr : en_rt y = 2) : en_R cs y d post pc lo [.inl x] f = (en_isz x = true ∧ post (some (.inl x)) f) := by
  have e : en_stp cs y pc lo [.inl x] f = if en_isz x = true then some (.inr (.inl (some (.inl x)))) else none := by
    rw [en_stp_c h]
    show ((if en_rt y = 1 then _ else if en_rt y = 2 then if en_isz x = true then some (.inr (.inl (some (.inl x)))) else none else none) : Option en_Rs) = _
    rw [if_neg (by rw [hr]; decide), if_pos hr]
  rw [en_R_sx, en_Sx, e]
  by_cases hx : en_isz x = true
  · rw [if_pos hx]; simp [hx]
  · rw [if_neg hx]; simp [hx]
theorem ru_vre (h : en_cd y pc = some (.return_, 1, ka, kb)) (hr : en_rt y = 0) : en_R cs y d post pc lo [] f = post none f :=
  en_R_r (by rw [en_stp_c h]; show ((if en_rt y = 0 then some (.inr (.inl none)) else none) : Option en_Rs) = _; rw [if_pos hr])
theorem ru_tsw {dflt low high : Int} {offs : Array Int} {len : Nat} (h : en_cd y pc = some (.tableswitch dflt low high offs, len, ka, kb)) {t : Int32 → Nat} (he : en_tsw pc lo (.inl x :: st) f dflt low high offs = some (.inl (t x, lo, st, f))) : en_R cs y d post pc lo (.inl x :: st) f = en_R cs y d post (t x) lo st f :=
  en_R_n (by rw [en_stp_c h]; exact he)
/-- calls -/
theorem ru_iv {idx n : Nat} {al rest : List en_V} (h : en_cd y pc = some (.invokevirtual idx, 3, ka, kb)) (hs : en_ms ka = false) (hn : en_np ka = al.length) (hk : en_cnt (en_mk ka) = n) (hst : st = al.reverse ++ .inr (en_mk ka, i) :: rest) : en_R cs y d post pc lo st f = (rest.length ≤ 8 ∧ i < n ∧ en_Ev d ka (.inr (en_mk ka, i) :: al) f (fun r g => en_R cs y d post (pc + 3) lo (r.toList ++ rest) g)) := by
  subst hk
  have e1 : st.take (en_np ka + 1) = al.reverse ++ [.inr (en_mk ka, i)] := by
    rw [hst, hn, show al.reverse ++ .inr (en_mk ka, i) :: rest = (al.reverse ++ [.inr (en_mk ka, i)]) ++ rest by simp]
    exact List.take_left' (by simp)
  have e2 : st.drop (en_np ka + 1) = rest := by
    rw [hst, hn, show al.reverse ++ .inr (en_mk ka, i) :: rest = (al.reverse ++ [.inr (en_mk ka, i)]) ++ rest by simp]
    exact List.drop_left' (by simp)
  have e3 : en_np ka + 1 ≤ st.length := by rw [hst, hn]; simp
  have e : en_stp cs y pc lo st f = if rest.length ≤ 8 then if i < en_cnt (en_mk ka) then some (.inr (.inr (ka, .inr (en_mk ka, i) :: al, rest, pc + 3))) else none else none := by
    rw [en_stp_c h]
    show en_g 3 3 (en_iv (pc + 3) st ka) = _
    unfold en_g en_iv
    rw [if_pos rfl, if_pos hs, if_pos e3, e2, e1]
    simp
  rw [en_R_sx, en_Sx, e]
  by_cases hx : rest.length ≤ 8
  · rw [if_pos hx]
    by_cases hz : i < en_cnt (en_mk ka)
    · rw [if_pos hz]; simp [hx, hz]
    · rw [if_neg hz]; simp [hz]
  · rw [if_neg hx]; simp [hx]
theorem ru_is {idx : Nat} {al rest : List en_V} (h : en_cd y pc = some (.invokestatic idx, 3, ka, kb)) (hs : en_ms ka = true) (hn : en_np ka = al.length) (hst : st = al.reverse ++ rest) : en_R cs y d post pc lo st f = (rest.length ≤ 8 ∧ en_Ev d ka al f (fun r g => en_R cs y d post (pc + 3) lo (r.toList ++ rest) g)) := by
  have e1 : st.take (en_np ka) = al.reverse := by rw [hst, hn]; exact List.take_left' (by simp)
  have e2 : st.drop (en_np ka) = rest := by rw [hst, hn]; exact List.drop_left' (by simp)
  have e3 : en_np ka ≤ st.length := by rw [hst, hn]; simp
  have e : en_stp cs y pc lo st f = if rest.length ≤ 8 then some (.inr (.inr (ka, al, rest, pc + 3))) else none := by
    rw [en_stp_c h]
    show en_g 3 3 (en_is (pc + 3) st ka) = _
    unfold en_g en_is
    rw [if_pos rfl, if_pos hs, if_pos e3, e2, e1]
    simp
  rw [en_R_sx, en_Sx, e]
  by_cases hx : rest.length ≤ 8
  · rw [if_pos hx]; simp [hx]
  · rw [if_neg hx]; simp [hx]
end EnRules
end
section
/-! RULES of the class, 1 (by program) -/
section RuAll
variable {cs : en_S} {d : Nat} {post : en_Q} {lo : en_L} {st : List en_V} {f : en_T} {a b x v : Int32} {i : Nat} {q : Nat × Nat} {u w u1 u2 u3 u4 u5 : en_V} {a0 a1 a2 a3 a4 a5 a6 a7 a8 : Option en_V}
theorem r0_0 : en_R cs 0 d post 0 (some (.inr q) :: lo) st f = en_R cs 0 d post 1 (some (.inr q) :: lo) (.inr q :: st) f := ru_aload1 (show en_cd 0 0 = some (.aload_n 0, 1, 0, 0) by decide +kernel) rfl
theorem r0_1 : en_R cs 0 d post 1 (a0 :: some (.inl x) :: lo) st f = en_R cs 0 d post 2 (a0 :: some (.inl x) :: lo) (.inl x :: st) f := ru_load1 (show en_cd 0 1 = some (.iload_n 1, 1, 0, 0) by decide +kernel) rfl
theorem r0_2 : en_R cs 0 d post 2 lo (.inl x :: .inr (5, i) :: st) f = (i < 6 ∧ en_R cs 0 d post 5 lo st (en_up f.1 5 i 1 x, f.2)) := ru_putI (show en_cd 0 2 = some (.putfield 19, 3, 5, 1) by decide +kernel) (by decide +kernel) (by decide +kernel) (by decide +kernel)
theorem r0_5 : en_R cs 0 d post 5 (some (.inr q) :: lo) st f = en_R cs 0 d post 6 (some (.inr q) :: lo) (.inr q :: st) f := ru_aload1 (show en_cd 0 5 = some (.aload_n 0, 1, 0, 0) by decide +kernel) rfl
theorem r0_6 : en_R cs 0 d post 6 (a0 :: a1 :: some (.inl x) :: lo) st f = en_R cs 0 d post 7 (a0 :: a1 :: some (.inl x) :: lo) (.inl x :: st) f := ru_load1 (show en_cd 0 6 = some (.iload_n 2, 1, 0, 0) by decide +kernel) rfl
theorem r0_7 : en_R cs 0 d post 7 lo (.inl x :: .inr (5, i) :: st) f = (i < 6 ∧ en_R cs 0 d post 10 lo st (en_up f.1 5 i 2 x, f.2)) := ru_putI (show en_cd 0 7 = some (.putfield 22, 3, 5, 2) by decide +kernel) (by decide +kernel) (by decide +kernel) (by decide +kernel)
theorem r0_10 : en_R cs 0 d post 10 lo st f = en_R cs 0 d post 11 lo (.inl 0 :: st) f := ru_iconst (show en_cd 0 10 = some (.iconst 0, 1, 0, 0) by decide +kernel) (by decide +kernel)
theorem r0_11 : en_R cs 0 d post 11 (a0 :: a1 :: a2 :: a3 :: lo) (.inl x :: st) f = en_R cs 0 d post 12 (a0 :: a1 :: a2 :: some (.inl x) :: lo) st f := ru_istore1 (show en_cd 0 11 = some (.istore_n 3, 1, 0, 0) by decide +kernel) (Nat.lt_of_lt_of_le (by decide : 3 < 4) (Nat.le_add_left 4 lo.length))
theorem r0_12 : en_R cs 0 d post 12 (a0 :: a1 :: a2 :: some (.inl x) :: lo) st f = en_R cs 0 d post 13 (a0 :: a1 :: a2 :: some (.inl x) :: lo) (.inl x :: st) f := ru_load1 (show en_cd 0 12 = some (.iload_n 3, 1, 0, 0) by decide +kernel) rfl
theorem r0_13 : en_R cs 0 d post 13 lo st f = en_R cs 0 d post 15 lo (.inl 8 :: st) f := ru_bipush (show en_cd 0 13 = some (.bipush 8, 2, 0, 0) by decide +kernel) (by decide +kernel)
theorem r0_15 : en_R cs 0 d post 15 lo (.inl b :: .inl a :: st) f = (if b ≤ a then en_R cs 0 d post 31 lo st f else en_R cs 0 d post 18 lo st f) := ru_icge (show en_cd 0 15 = some (.if_icmp .ge 16, 3, 0, 0) by decide +kernel) (by decide +kernel)
theorem r0_18 : en_R cs 0 d post 18 (some (.inr q) :: lo) st f = en_R cs 0 d post 19 (some (.inr q) :: lo) (.inr q :: st) f := ru_aload1 (show en_cd 0 18 = some (.aload_n 0, 1, 0, 0) by decide +kernel) rfl
theorem r0_19 : en_R cs 0 d post 19 lo (.inr (5, i) :: st) f = (i < 6 ∧ en_R cs 0 d post 22 lo (.inr (6, i) :: st) f) := ru_getR (show en_cd 0 19 = some (.getfield 9, 3, 5, 0) by decide +kernel) (by decide +kernel) (by decide +kernel)
theorem r0_22 : en_R cs 0 d post 22 (a0 :: a1 :: a2 :: some (.inl x) :: lo) st f = en_R cs 0 d post 23 (a0 :: a1 :: a2 :: some (.inl x) :: lo) (.inl x :: st) f := ru_load1 (show en_cd 0 22 = some (.iload_n 3, 1, 0, 0) by decide +kernel) rfl
theorem r0_23 : en_R cs 0 d post 23 lo st f = en_R cs 0 d post 24 lo (.inl 0 :: st) f := ru_iconst (show en_cd 0 23 = some (.iconst 0, 1, 0, 0) by decide +kernel) (by decide +kernel)
theorem r0_24 : en_R cs 0 d post 24 lo (.inl v :: .inl x :: .inr (6, i) :: st) f = (i < 6 ∧ en_inr x 8 = true ∧ en_R cs 0 d post 25 lo st (en_up f.1 6 i x.toNatClampNeg v, f.2)) := ru_iast (show en_cd 0 24 = some (.iastore, 1, 0, 0) by decide +kernel) (by decide +kernel) (by decide +kernel) (by decide +kernel) (by decide +kernel)
theorem r0_25 : en_R cs 0 d post 25 (a0 :: a1 :: a2 :: some (.inl x) :: lo) st f = en_R cs 0 d post 28 (a0 :: a1 :: a2 :: some (.inl (x + 1)) :: lo) st f := ru_iinc (show en_cd 0 25 = some (.iinc 3 1, 3, 0, 0) by decide +kernel) (by decide +kernel) rfl
theorem r0_28 : en_R cs 0 d post 28 lo st f = en_R cs 0 d post 12 lo st f := ru_goto (show en_cd 0 28 = some (.goto (-16), 3, 0, 0) by decide +kernel) (by decide +kernel)
theorem r0_31 : en_R cs 0 d post 31 lo [] f = post none f := ru_vre (show en_cd 0 31 = some (.return_, 1, 0, 0) by decide +kernel) (by decide +kernel)
theorem r1_0 : en_R cs 1 d post 0 (some (.inr q) :: lo) st f = en_R cs 1 d post 1 (some (.inr q) :: lo) (.inr q :: st) f := ru_aload1 (show en_cd 1 0 = some (.aload_n 0, 1, 0, 0) by decide +kernel) rfl
theorem r1_1 : en_R cs 1 d post 1 lo st f = en_R cs 1 d post 2 lo (.inl 0 :: st) f := ru_iconst (show en_cd 1 1 = some (.iconst 0, 1, 0, 0) by decide +kernel) (by decide +kernel)
theorem r1_2 : en_R cs 1 d post 2 lo (.inl x :: .inr (5, i) :: st) f = (i < 6 ∧ en_R cs 1 d post 5 lo st (en_up f.1 5 i 3 x, f.2)) := ru_putI (show en_cd 1 2 = some (.putfield 25, 3, 5, 3) by decide +kernel) (by decide +kernel) (by decide +kernel) (by decide +kernel)
theorem r1_5 : en_R cs 1 d post 5 (some (.inr q) :: lo) st f = en_R cs 1 d post 6 (some (.inr q) :: lo) (.inr q :: st) f := ru_aload1 (show en_cd 1 5 = some (.aload_n 0, 1, 0, 0) by decide +kernel) rfl
theorem r1_6 : en_R cs 1 d post 6 lo st f = en_R cs 1 d post 7 lo (.inl 0 :: st) f := ru_iconst (show en_cd 1 6 = some (.iconst 0, 1, 0, 0) by decide +kernel) (by decide +kernel)
theorem r1_7 : en_R cs 1 d post 7 lo (.inl x :: .inr (5, i) :: st) f = (i < 6 ∧ en_R cs 1 d post 10 lo st (en_up f.1 5 i 4 x, f.2)) := ru_putI (show en_cd 1 7 = some (.putfield 15, 3, 5, 4) by decide +kernel) (by decide +kernel) (by decide +kernel) (by decide +kernel)
theorem r1_10 : en_R cs 1 d post 10 (some (.inr q) :: lo) st f = en_R cs 1 d post 11 (some (.inr q) :: lo) (.inr q :: st) f := ru_aload1 (show en_cd 1 10 = some (.aload_n 0, 1, 0, 0) by decide +kernel) rfl
theorem r1_11 : en_R cs 1 d post 11 lo st f = en_R cs 1 d post 12 lo (.inl 0 :: st) f := ru_iconst (show en_cd 1 11 = some (.iconst 0, 1, 0, 0) by decide +kernel) (by decide +kernel)
theorem r1_12 : en_R cs 1 d post 12 lo (.inl x :: .inr (5, i) :: st) f = (i < 6 ∧ en_R cs 1 d post 15 lo st (en_up f.1 5 i 6 x, f.2)) := ru_putI (show en_cd 1 12 = some (.putfield 28, 3, 5, 6) by decide +kernel) (by decide +kernel) (by decide +kernel) (by decide +kernel)
theorem r1_15 : en_R cs 1 d post 15 lo [] f = post none f := ru_vre (show en_cd 1 15 = some (.return_, 1, 0, 0) by decide +kernel) (by decide +kernel)
theorem r2_0 : en_R cs 2 d post 0 (a0 :: some (.inl x) :: lo) st f = en_R cs 2 d post 1 (a0 :: some (.inl x) :: lo) (.inl x :: st) f := ru_load1 (show en_cd 2 0 = some (.iload_n 1, 1, 0, 0) by decide +kernel) rfl
theorem r2_1 : en_R cs 2 d post 1 lo (.inl a :: st) f = (if a < 0 then en_R cs 2 d post 27 lo st f else en_R cs 2 d post 4 lo st f) := ru_iflt (show en_cd 2 1 = some (.ifCond .lt 26, 3, 0, 0) by decide +kernel) (by decide +kernel)
theorem r2_4 : en_R cs 2 d post 4 (a0 :: some (.inl x) :: lo) st f = en_R cs 2 d post 5 (a0 :: some (.inl x) :: lo) (.inl x :: st) f := ru_load1 (show en_cd 2 4 = some (.iload_n 1, 1, 0, 0) by decide +kernel) rfl
theorem r2_5 : en_R cs 2 d post 5 (some (.inr q) :: lo) st f = en_R cs 2 d post 6 (some (.inr q) :: lo) (.inr q :: st) f := ru_aload1 (show en_cd 2 5 = some (.aload_n 0, 1, 0, 0) by decide +kernel) rfl
theorem r2_6 : en_R cs 2 d post 6 lo (.inr (5, i) :: st) f = (i < 6 ∧ en_R cs 2 d post 9 lo (.inl (f.1 5 i 1) :: st) f) := ru_getI (show en_cd 2 6 = some (.getfield 19, 3, 5, 1) by decide +kernel) (by decide +kernel) (by decide +kernel) (by decide +kernel)
theorem r2_9 : en_R cs 2 d post 9 lo (.inl b :: .inl a :: st) f = (if b ≤ a then en_R cs 2 d post 27 lo st f else en_R cs 2 d post 12 lo st f) := ru_icge (show en_cd 2 9 = some (.if_icmp .ge 18, 3, 0, 0) by decide +kernel) (by decide +kernel)
theorem r2_12 : en_R cs 2 d post 12 (a0 :: some (.inl x) :: lo) st f = en_R cs 2 d post 13 (a0 :: some (.inl x) :: lo) (.inl x :: st) f := ru_load1 (show en_cd 2 12 = some (.iload_n 1, 1, 0, 0) by decide +kernel) rfl
theorem r2_13 : en_R cs 2 d post 13 lo st f = en_R cs 2 d post 15 lo (.inl 8 :: st) f := ru_bipush (show en_cd 2 13 = some (.bipush 8, 2, 0, 0) by decide +kernel) (by decide +kernel)
theorem r2_15 : en_R cs 2 d post 15 lo (.inl b :: .inl a :: st) f = (if b ≤ a then en_R cs 2 d post 27 lo st f else en_R cs 2 d post 18 lo st f) := ru_icge (show en_cd 2 15 = some (.if_icmp .ge 12, 3, 0, 0) by decide +kernel) (by decide +kernel)
theorem r2_18 : en_R cs 2 d post 18 (some (.inr q) :: lo) st f = en_R cs 2 d post 19 (some (.inr q) :: lo) (.inr q :: st) f := ru_aload1 (show en_cd 2 18 = some (.aload_n 0, 1, 0, 0) by decide +kernel) rfl
theorem r2_19 : en_R cs 2 d post 19 lo (.inr (5, i) :: st) f = (i < 6 ∧ en_R cs 2 d post 22 lo (.inr (6, i) :: st) f) := ru_getR (show en_cd 2 19 = some (.getfield 9, 3, 5, 0) by decide +kernel) (by decide +kernel) (by decide +kernel)
theorem r2_22 : en_R cs 2 d post 22 (a0 :: some (.inl x) :: lo) st f = en_R cs 2 d post 23 (a0 :: some (.inl x) :: lo) (.inl x :: st) f := ru_load1 (show en_cd 2 22 = some (.iload_n 1, 1, 0, 0) by decide +kernel) rfl
theorem r2_23 : en_R cs 2 d post 23 lo (.inl x :: .inr (6, i) :: st) f = (i < 6 ∧ en_inr x 8 = true ∧ en_R cs 2 d post 24 lo (.inl (f.1 6 i x.toNatClampNeg) :: st) f) := ru_iald (show en_cd 2 23 = some (.iaload, 1, 0, 0) by decide +kernel) (by decide +kernel) (by decide +kernel) (by decide +kernel) (by decide +kernel) (by decide +kernel)
theorem r2_24 : en_R cs 2 d post 24 lo st f = en_R cs 2 d post 28 lo st f := ru_goto (show en_cd 2 24 = some (.goto 4, 3, 0, 0) by decide +kernel) (by decide +kernel)
theorem r2_27 : en_R cs 2 d post 27 lo st f = en_R cs 2 d post 28 lo (.inl 0 :: st) f := ru_iconst (show en_cd 2 27 = some (.iconst 0, 1, 0, 0) by decide +kernel) (by decide +kernel)
theorem r2_28 : en_R cs 2 d post 28 lo ([.inl x]) f = post (some (.inl x)) f := ru_ire1 (show en_cd 2 28 = some (.ireturn, 1, 0, 0) by decide +kernel) (by decide +kernel)
theorem r3_0 : en_R cs 3 d post 0 (some (.inr q) :: lo) st f = en_R cs 3 d post 1 (some (.inr q) :: lo) (.inr q :: st) f := ru_aload1 (show en_cd 3 0 = some (.aload_n 0, 1, 0, 0) by decide +kernel) rfl
theorem r3_1 : en_R cs 3 d post 1 lo (.inr (5, i) :: st) f = (i < 6 ∧ en_R cs 3 d post 4 lo (.inl (f.1 5 i 4) :: st) f) := ru_getI (show en_cd 3 1 = some (.getfield 15, 3, 5, 4) by decide +kernel) (by decide +kernel) (by decide +kernel) (by decide +kernel)
theorem r3_4 : en_R cs 3 d post 4 lo st f = en_R cs 3 d post 5 lo (.inl 2 :: st) f := ru_iconst (show en_cd 3 4 = some (.iconst 2, 1, 0, 0) by decide +kernel) (by decide +kernel)
theorem r3_5 : en_R cs 3 d post 5 lo (.inl b :: .inl a :: st) f = (if a = b then en_R cs 3 d post 8 lo st f else en_R cs 3 d post 19 lo st f) := ru_icne (show en_cd 3 5 = some (.if_icmp .ne 14, 3, 0, 0) by decide +kernel) (by decide +kernel)
theorem r3_8 : en_R cs 3 d post 8 (some (.inr q) :: lo) st f = en_R cs 3 d post 9 (some (.inr q) :: lo) (.inr q :: st) f := ru_aload1 (show en_cd 3 8 = some (.aload_n 0, 1, 0, 0) by decide +kernel) rfl
theorem r3_9 : en_R cs 3 d post 9 lo (.inr (5, i) :: st) f = (i < 6 ∧ en_R cs 3 d post 12 lo (.inl (f.1 5 i 6) :: st) f) := ru_getI (show en_cd 3 9 = some (.getfield 28, 3, 5, 6) by decide +kernel) (by decide +kernel) (by decide +kernel) (by decide +kernel)
theorem r3_12 : en_R cs 3 d post 12 lo (.inl a :: st) f = (if a ≤ 0 then en_R cs 3 d post 19 lo st f else en_R cs 3 d post 15 lo st f) := ru_ifle (show en_cd 3 12 = some (.ifCond .le 7, 3, 0, 0) by decide +kernel) (by decide +kernel)
theorem r3_15 : en_R cs 3 d post 15 lo st f = en_R cs 3 d post 16 lo (.inl 1 :: st) f := ru_iconst (show en_cd 3 15 = some (.iconst 1, 1, 0, 0) by decide +kernel) (by decide +kernel)
theorem r3_16 : en_R cs 3 d post 16 lo st f = en_R cs 3 d post 20 lo st f := ru_goto (show en_cd 3 16 = some (.goto 4, 3, 0, 0) by decide +kernel) (by decide +kernel)
theorem r3_19 : en_R cs 3 d post 19 lo st f = en_R cs 3 d post 20 lo (.inl 0 :: st) f := ru_iconst (show en_cd 3 19 = some (.iconst 0, 1, 0, 0) by decide +kernel) (by decide +kernel)
theorem r3_20 : en_R cs 3 d post 20 lo ([.inl x]) f = (en_isz x = true ∧ post (some (.inl x)) f) := ru_ire2 (show en_cd 3 20 = some (.ireturn, 1, 0, 0) by decide +kernel) (by decide +kernel)
theorem r4_0 : en_R cs 4 d post 0 (some (.inr q) :: lo) st f = en_R cs 4 d post 1 (some (.inr q) :: lo) (.inr q :: st) f := ru_aload1 (show en_cd 4 0 = some (.aload_n 0, 1, 0, 0) by decide +kernel) rfl
theorem r4_1 : en_R cs 4 d post 1 lo (.inr (5, i) :: st) f = (i < 6 ∧ en_R cs 4 d post 4 lo (.inl (f.1 5 i 4) :: st) f) := ru_getI (show en_cd 4 1 = some (.getfield 15, 3, 5, 4) by decide +kernel) (by decide +kernel) (by decide +kernel) (by decide +kernel)
theorem r4_4 : en_R cs 4 d post 4 lo st f = en_R cs 4 d post 5 lo (.inl 1 :: st) f := ru_iconst (show en_cd 4 4 = some (.iconst 1, 1, 0, 0) by decide +kernel) (by decide +kernel)
theorem r4_5 : en_R cs 4 d post 5 lo (.inl b :: .inl a :: st) f = (if a = b then en_R cs 4 d post 23 lo st f else en_R cs 4 d post 8 lo st f) := ru_iceq (show en_cd 4 5 = some (.if_icmp .eq 18, 3, 0, 0) by decide +kernel) (by decide +kernel)
theorem r4_8 : en_R cs 4 d post 8 (some (.inr q) :: lo) st f = en_R cs 4 d post 9 (some (.inr q) :: lo) (.inr q :: st) f := ru_aload1 (show en_cd 4 8 = some (.aload_n 0, 1, 0, 0) by decide +kernel) rfl
theorem r4_9 : en_R cs 4 d post 9 lo (.inr (5, i) :: st) f = (i < 6 ∧ en_R cs 4 d post 12 lo (.inl (f.1 5 i 4) :: st) f) := ru_getI (show en_cd 4 9 = some (.getfield 15, 3, 5, 4) by decide +kernel) (by decide +kernel) (by decide +kernel) (by decide +kernel)
theorem r4_12 : en_R cs 4 d post 12 lo st f = en_R cs 4 d post 13 lo (.inl 2 :: st) f := ru_iconst (show en_cd 4 12 = some (.iconst 2, 1, 0, 0) by decide +kernel) (by decide +kernel)
theorem r4_13 : en_R cs 4 d post 13 lo (.inl b :: .inl a :: st) f = (if a = b then en_R cs 4 d post 16 lo st f else en_R cs 4 d post 27 lo st f) := ru_icne (show en_cd 4 13 = some (.if_icmp .ne 14, 3, 0, 0) by decide +kernel) (by decide +kernel)
theorem r4_16 : en_R cs 4 d post 16 (some (.inr q) :: lo) st f = en_R cs 4 d post 17 (some (.inr q) :: lo) (.inr q :: st) f := ru_aload1 (show en_cd 4 16 = some (.aload_n 0, 1, 0, 0) by decide +kernel) rfl
theorem r4_17 : en_R cs 4 d post 17 lo (.inr (5, i) :: st) f = (i < 6 ∧ en_R cs 4 d post 20 lo (.inl (f.1 5 i 6) :: st) f) := ru_getI (show en_cd 4 17 = some (.getfield 28, 3, 5, 6) by decide +kernel) (by decide +kernel) (by decide +kernel) (by decide +kernel)
theorem r4_20 : en_R cs 4 d post 20 lo (.inl a :: st) f = (if a = 0 then en_R cs 4 d post 23 lo st f else en_R cs 4 d post 27 lo st f) := ru_ifne (show en_cd 4 20 = some (.ifCond .ne 7, 3, 0, 0) by decide +kernel) (by decide +kernel)
theorem r4_23 : en_R cs 4 d post 23 lo st f = en_R cs 4 d post 24 lo (.inl 1 :: st) f := ru_iconst (show en_cd 4 23 = some (.iconst 1, 1, 0, 0) by decide +kernel) (by decide +kernel)
theorem r4_24 : en_R cs 4 d post 24 lo st f = en_R cs 4 d post 28 lo st f := ru_goto (show en_cd 4 24 = some (.goto 4, 3, 0, 0) by decide +kernel) (by decide +kernel)
theorem r4_27 : en_R cs 4 d post 27 lo st f = en_R cs 4 d post 28 lo (.inl 0 :: st) f := ru_iconst (show en_cd 4 27 = some (.iconst 0, 1, 0, 0) by decide +kernel) (by decide +kernel)
theorem r4_28 : en_R cs 4 d post 28 lo ([.inl x]) f = (en_isz x = true ∧ post (some (.inl x)) f) := ru_ire2 (show en_cd 4 28 = some (.ireturn, 1, 0, 0) by decide +kernel) (by decide +kernel)
theorem r5_0 : en_R cs 5 d post 0 (some (.inr q) :: lo) st f = en_R cs 5 d post 1 (some (.inr q) :: lo) (.inr q :: st) f := ru_aload1 (show en_cd 5 0 = some (.aload_n 0, 1, 0, 0) by decide +kernel) rfl
theorem r5_1 : en_R cs 5 d post 1 lo (.inr (5, i) :: st) f = (i < 6 ∧ en_R cs 5 d post 4 lo (.inl (f.1 5 i 4) :: st) f) := ru_getI (show en_cd 5 1 = some (.getfield 15, 3, 5, 4) by decide +kernel) (by decide +kernel) (by decide +kernel) (by decide +kernel)
theorem r5_4 : en_R cs 5 d post 4 lo (.inl a :: st) f = (if a = 0 then en_R cs 5 d post 7 lo st f else en_R cs 5 d post 15 lo st f) := ru_ifne (show en_cd 5 4 = some (.ifCond .ne 11, 3, 0, 0) by decide +kernel) (by decide +kernel)
theorem r5_7 : en_R cs 5 d post 7 (some (.inr q) :: lo) st f = en_R cs 5 d post 8 (some (.inr q) :: lo) (.inr q :: st) f := ru_aload1 (show en_cd 5 7 = some (.aload_n 0, 1, 0, 0) by decide +kernel) rfl
theorem r5_8 : en_R cs 5 d post 8 (a0 :: some (.inl x) :: lo) st f = en_R cs 5 d post 9 (a0 :: some (.inl x) :: lo) (.inl x :: st) f := ru_load1 (show en_cd 5 8 = some (.iload_n 1, 1, 0, 0) by decide +kernel) rfl
theorem r5_9 : en_R cs 5 d post 9 lo (u1 :: .inr (5, i) :: st) f = (st.length ≤ 8 ∧ i < 6 ∧ en_Ev d 6 [.inr (5, i), u1] f (fun r g => en_R cs 5 d post 12 lo (r.toList ++ st) g)) := ru_iv (al := [u1]) (show en_cd 5 9 = some (.invokevirtual 31, 3, 6, 0) by decide +kernel) (by decide +kernel) (show en_np 6 = 1 by decide +kernel) (by decide +kernel) rfl
theorem r5_12 : en_R cs 5 d post 12 lo st f = en_R cs 5 d post 68 lo st f := ru_goto (show en_cd 5 12 = some (.goto 56, 3, 0, 0) by decide +kernel) (by decide +kernel)
theorem r5_15 : en_R cs 5 d post 15 (some (.inr q) :: lo) st f = en_R cs 5 d post 16 (some (.inr q) :: lo) (.inr q :: st) f := ru_aload1 (show en_cd 5 15 = some (.aload_n 0, 1, 0, 0) by decide +kernel) rfl
theorem r5_16 : en_R cs 5 d post 16 lo (.inr (5, i) :: st) f = (st.length ≤ 8 ∧ i < 6 ∧ en_Ev d 3 [.inr (5, i)] f (fun r g => en_R cs 5 d post 19 lo (r.toList ++ st) g)) := ru_iv (al := []) (show en_cd 5 16 = some (.invokevirtual 35, 3, 3, 0) by decide +kernel) (by decide +kernel) (show en_np 3 = 0 by decide +kernel) (by decide +kernel) rfl
theorem r5_19 : en_R cs 5 d post 19 lo (.inl a :: st) f = (if a = 0 then en_R cs 5 d post 68 lo st f else en_R cs 5 d post 22 lo st f) := ru_ifeq (show en_cd 5 19 = some (.ifCond .eq 49, 3, 0, 0) by decide +kernel) (by decide +kernel)
theorem r5_22 : en_R cs 5 d post 22 (some (.inr q) :: lo) st f = en_R cs 5 d post 23 (some (.inr q) :: lo) (.inr q :: st) f := ru_aload1 (show en_cd 5 22 = some (.aload_n 0, 1, 0, 0) by decide +kernel) rfl
theorem r5_23 : en_R cs 5 d post 23 lo (.inr (5, i) :: st) f = (i < 6 ∧ en_R cs 5 d post 26 lo (.inl (f.1 5 i 5) :: st) f) := ru_getI (show en_cd 5 23 = some (.getfield 39, 3, 5, 5) by decide +kernel) (by decide +kernel) (by decide +kernel) (by decide +kernel)
theorem r5_26 : en_R cs 5 d post 26 lo (.inl a :: st) f = (if a < 0 then en_R cs 5 d post 68 lo st f else en_R cs 5 d post 29 lo st f) := ru_iflt (show en_cd 5 26 = some (.ifCond .lt 42, 3, 0, 0) by decide +kernel) (by decide +kernel)
theorem r5_29 : en_R cs 5 d post 29 (some (.inr q) :: lo) st f = en_R cs 5 d post 30 (some (.inr q) :: lo) (.inr q :: st) f := ru_aload1 (show en_cd 5 29 = some (.aload_n 0, 1, 0, 0) by decide +kernel) rfl
theorem r5_30 : en_R cs 5 d post 30 lo (.inr (5, i) :: st) f = (i < 6 ∧ en_R cs 5 d post 33 lo (.inl (f.1 5 i 5) :: st) f) := ru_getI (show en_cd 5 30 = some (.getfield 39, 3, 5, 5) by decide +kernel) (by decide +kernel) (by decide +kernel) (by decide +kernel)
theorem r5_33 : en_R cs 5 d post 33 lo st f = en_R cs 5 d post 35 lo (.inl 8 :: st) f := ru_bipush (show en_cd 5 33 = some (.bipush 8, 2, 0, 0) by decide +kernel) (by decide +kernel)
theorem r5_35 : en_R cs 5 d post 35 lo (.inl b :: .inl a :: st) f = (if b ≤ a then en_R cs 5 d post 68 lo st f else en_R cs 5 d post 38 lo st f) := ru_icge (show en_cd 5 35 = some (.if_icmp .ge 33, 3, 0, 0) by decide +kernel) (by decide +kernel)
theorem r5_38 : en_R cs 5 d post 38 (some (.inr q) :: lo) st f = en_R cs 5 d post 39 (some (.inr q) :: lo) (.inr q :: st) f := ru_aload1 (show en_cd 5 38 = some (.aload_n 0, 1, 0, 0) by decide +kernel) rfl
theorem r5_39 : en_R cs 5 d post 39 lo (.inr (5, i) :: st) f = (i < 6 ∧ en_R cs 5 d post 42 lo (.inr (6, i) :: st) f) := ru_getR (show en_cd 5 39 = some (.getfield 9, 3, 5, 0) by decide +kernel) (by decide +kernel) (by decide +kernel)
theorem r5_42 : en_R cs 5 d post 42 (some (.inr q) :: lo) st f = en_R cs 5 d post 43 (some (.inr q) :: lo) (.inr q :: st) f := ru_aload1 (show en_cd 5 42 = some (.aload_n 0, 1, 0, 0) by decide +kernel) rfl
theorem r5_43 : en_R cs 5 d post 43 lo (.inr (5, i) :: st) f = (i < 6 ∧ en_R cs 5 d post 46 lo (.inl (f.1 5 i 5) :: st) f) := ru_getI (show en_cd 5 43 = some (.getfield 39, 3, 5, 5) by decide +kernel) (by decide +kernel) (by decide +kernel) (by decide +kernel)
theorem r5_46 : en_R cs 5 d post 46 (a0 :: some (.inl x) :: lo) st f = en_R cs 5 d post 47 (a0 :: some (.inl x) :: lo) (.inl x :: st) f := ru_load1 (show en_cd 5 46 = some (.iload_n 1, 1, 0, 0) by decide +kernel) rfl
theorem r5_47 : en_R cs 5 d post 47 lo (.inl v :: .inl x :: .inr (6, i) :: st) f = (i < 6 ∧ en_inr x 8 = true ∧ en_R cs 5 d post 48 lo st (en_up f.1 6 i x.toNatClampNeg v, f.2)) := ru_iast (show en_cd 5 47 = some (.iastore, 1, 0, 0) by decide +kernel) (by decide +kernel) (by decide +kernel) (by decide +kernel) (by decide +kernel)
theorem r5_48 : en_R cs 5 d post 48 (some (.inr q) :: lo) st f = en_R cs 5 d post 49 (some (.inr q) :: lo) (.inr q :: st) f := ru_aload1 (show en_cd 5 48 = some (.aload_n 0, 1, 0, 0) by decide +kernel) rfl
theorem r5_49 : en_R cs 5 d post 49 lo (u :: st) f = en_R cs 5 d post 50 lo (u :: u :: st) f := ru_dup (show en_cd 5 49 = some (.dup, 1, 0, 0) by decide +kernel)
theorem r5_50 : en_R cs 5 d post 50 lo (.inr (5, i) :: st) f = (i < 6 ∧ en_R cs 5 d post 53 lo (.inl (f.1 5 i 5) :: st) f) := ru_getI (show en_cd 5 50 = some (.getfield 39, 3, 5, 5) by decide +kernel) (by decide +kernel) (by decide +kernel) (by decide +kernel)
theorem r5_53 : en_R cs 5 d post 53 lo st f = en_R cs 5 d post 54 lo (.inl 1 :: st) f := ru_iconst (show en_cd 5 53 = some (.iconst 1, 1, 0, 0) by decide +kernel) (by decide +kernel)
theorem r5_54 : en_R cs 5 d post 54 lo (.inl b :: .inl a :: st) f = en_R cs 5 d post 55 lo (.inl (a + b) :: st) f := ru_iadd (show en_cd 5 54 = some (.iadd, 1, 0, 0) by decide +kernel)
theorem r5_55 : en_R cs 5 d post 55 lo (.inl x :: .inr (5, i) :: st) f = (i < 6 ∧ en_R cs 5 d post 58 lo st (en_up f.1 5 i 5 x, f.2)) := ru_putI (show en_cd 5 55 = some (.putfield 39, 3, 5, 5) by decide +kernel) (by decide +kernel) (by decide +kernel) (by decide +kernel)
theorem r5_58 : en_R cs 5 d post 58 (some (.inr q) :: lo) st f = en_R cs 5 d post 59 (some (.inr q) :: lo) (.inr q :: st) f := ru_aload1 (show en_cd 5 58 = some (.aload_n 0, 1, 0, 0) by decide +kernel) rfl
theorem r5_59 : en_R cs 5 d post 59 lo (u :: st) f = en_R cs 5 d post 60 lo (u :: u :: st) f := ru_dup (show en_cd 5 59 = some (.dup, 1, 0, 0) by decide +kernel)
theorem r5_60 : en_R cs 5 d post 60 lo (.inr (5, i) :: st) f = (i < 6 ∧ en_R cs 5 d post 63 lo (.inl (f.1 5 i 6) :: st) f) := ru_getI (show en_cd 5 60 = some (.getfield 28, 3, 5, 6) by decide +kernel) (by decide +kernel) (by decide +kernel) (by decide +kernel)
theorem r5_63 : en_R cs 5 d post 63 lo st f = en_R cs 5 d post 64 lo (.inl 1 :: st) f := ru_iconst (show en_cd 5 63 = some (.iconst 1, 1, 0, 0) by decide +kernel) (by decide +kernel)
theorem r5_64 : en_R cs 5 d post 64 lo (.inl b :: .inl a :: st) f = en_R cs 5 d post 65 lo (.inl (a - b) :: st) f := ru_isub (show en_cd 5 64 = some (.isub, 1, 0, 0) by decide +kernel)
theorem r5_65 : en_R cs 5 d post 65 lo (.inl x :: .inr (5, i) :: st) f = (i < 6 ∧ en_R cs 5 d post 68 lo st (en_up f.1 5 i 6 x, f.2)) := ru_putI (show en_cd 5 65 = some (.putfield 28, 3, 5, 6) by decide +kernel) (by decide +kernel) (by decide +kernel) (by decide +kernel)
theorem r5_68 : en_R cs 5 d post 68 lo [] f = post none f := ru_vre (show en_cd 5 68 = some (.return_, 1, 0, 0) by decide +kernel) (by decide +kernel)
theorem r6_0 : en_R cs 6 d post 0 (some (.inr q) :: lo) st f = en_R cs 6 d post 1 (some (.inr q) :: lo) (.inr q :: st) f := ru_aload1 (show en_cd 6 0 = some (.aload_n 0, 1, 0, 0) by decide +kernel) rfl
theorem r6_1 : en_R cs 6 d post 1 (some (.inr q) :: lo) st f = en_R cs 6 d post 2 (some (.inr q) :: lo) (.inr q :: st) f := ru_aload1 (show en_cd 6 1 = some (.aload_n 0, 1, 0, 0) by decide +kernel) rfl
theorem r6_2 : en_R cs 6 d post 2 lo (.inr (5, i) :: st) f = (i < 6 ∧ en_R cs 6 d post 5 lo (.inl (f.1 5 i 2) :: st) f) := ru_getI (show en_cd 6 2 = some (.getfield 22, 3, 5, 2) by decide +kernel) (by decide +kernel) (by decide +kernel) (by decide +kernel)
theorem r6_5 : en_R cs 6 d post 5 lo (.inl x :: .inr (5, i) :: st) f = (i < 6 ∧ en_R cs 6 d post 8 lo st (en_up f.1 5 i 3 x, f.2)) := ru_putI (show en_cd 6 5 = some (.putfield 25, 3, 5, 3) by decide +kernel) (by decide +kernel) (by decide +kernel) (by decide +kernel)
theorem r6_8 : en_R cs 6 d post 8 (some (.inr q) :: lo) st f = en_R cs 6 d post 9 (some (.inr q) :: lo) (.inr q :: st) f := ru_aload1 (show en_cd 6 8 = some (.aload_n 0, 1, 0, 0) by decide +kernel) rfl
theorem r6_9 : en_R cs 6 d post 9 (a0 :: some (.inl x) :: lo) st f = en_R cs 6 d post 10 (a0 :: some (.inl x) :: lo) (.inl x :: st) f := ru_load1 (show en_cd 6 9 = some (.iload_n 1, 1, 0, 0) by decide +kernel) rfl
theorem r6_10 : en_R cs 6 d post 10 lo st f = en_R cs 6 d post 12 lo (.inl 64 :: st) f := ru_bipush (show en_cd 6 10 = some (.bipush 64, 2, 0, 0) by decide +kernel) (by decide +kernel)
theorem r6_12 : en_R cs 6 d post 12 lo (.inl b :: .inl a :: st) f = en_R cs 6 d post 13 lo (.inl (a &&& b) :: st) f := ru_iand (show en_cd 6 12 = some (.iand, 1, 0, 0) by decide +kernel)
theorem r6_13 : en_R cs 6 d post 13 lo (.inl a :: st) f = (if a = 0 then en_R cs 6 d post 20 lo st f else en_R cs 6 d post 16 lo st f) := ru_ifeq (show en_cd 6 13 = some (.ifCond .eq 7, 3, 0, 0) by decide +kernel) (by decide +kernel)
theorem r6_16 : en_R cs 6 d post 16 lo st f = en_R cs 6 d post 17 lo (.inl 2 :: st) f := ru_iconst (show en_cd 6 16 = some (.iconst 2, 1, 0, 0) by decide +kernel) (by decide +kernel)
theorem r6_17 : en_R cs 6 d post 17 lo st f = en_R cs 6 d post 21 lo st f := ru_goto (show en_cd 6 17 = some (.goto 4, 3, 0, 0) by decide +kernel) (by decide +kernel)
theorem r6_20 : en_R cs 6 d post 20 lo st f = en_R cs 6 d post 21 lo (.inl 1 :: st) f := ru_iconst (show en_cd 6 20 = some (.iconst 1, 1, 0, 0) by decide +kernel) (by decide +kernel)
theorem r6_21 : en_R cs 6 d post 21 lo (.inl x :: .inr (5, i) :: st) f = (i < 6 ∧ en_R cs 6 d post 24 lo st (en_up f.1 5 i 4 x, f.2)) := ru_putI (show en_cd 6 21 = some (.putfield 15, 3, 5, 4) by decide +kernel) (by decide +kernel) (by decide +kernel) (by decide +kernel)
theorem r6_24 : en_R cs 6 d post 24 (some (.inr q) :: lo) st f = en_R cs 6 d post 25 (some (.inr q) :: lo) (.inr q :: st) f := ru_aload1 (show en_cd 6 24 = some (.aload_n 0, 1, 0, 0) by decide +kernel) rfl
theorem r6_25 : en_R cs 6 d post 25 (a0 :: some (.inl x) :: lo) st f = en_R cs 6 d post 26 (a0 :: some (.inl x) :: lo) (.inl x :: st) f := ru_load1 (show en_cd 6 25 = some (.iload_n 1, 1, 0, 0) by decide +kernel) rfl
theorem r6_26 : en_R cs 6 d post 26 lo st f = en_R cs 6 d post 27 lo (.inl 3 :: st) f := ru_iconst (show en_cd 6 26 = some (.iconst 3, 1, 0, 0) by decide +kernel) (by decide +kernel)
theorem r6_27 : en_R cs 6 d post 27 lo (.inl b :: .inl a :: st) f = en_R cs 6 d post 28 lo (.inl (a >>> (b &&& 31)) :: st) f := ru_ishr (show en_cd 6 27 = some (.ishr, 1, 0, 0) by decide +kernel)
theorem r6_28 : en_R cs 6 d post 28 lo st f = en_R cs 6 d post 30 lo (.inl 7 :: st) f := ru_bipush (show en_cd 6 28 = some (.bipush 7, 2, 0, 0) by decide +kernel) (by decide +kernel)
theorem r6_30 : en_R cs 6 d post 30 lo (.inl b :: .inl a :: st) f = en_R cs 6 d post 31 lo (.inl (a &&& b) :: st) f := ru_iand (show en_cd 6 30 = some (.iand, 1, 0, 0) by decide +kernel)
theorem r6_31 : en_R cs 6 d post 31 lo (.inl x :: .inr (5, i) :: st) f = (i < 6 ∧ en_R cs 6 d post 34 lo st (en_up f.1 5 i 5 x, f.2)) := ru_putI (show en_cd 6 31 = some (.putfield 39, 3, 5, 5) by decide +kernel) (by decide +kernel) (by decide +kernel) (by decide +kernel)
theorem r6_34 : en_R cs 6 d post 34 (some (.inr q) :: lo) st f = en_R cs 6 d post 35 (some (.inr q) :: lo) (.inr q :: st) f := ru_aload1 (show en_cd 6 34 = some (.aload_n 0, 1, 0, 0) by decide +kernel) rfl
theorem r6_35 : en_R cs 6 d post 35 (a0 :: some (.inl x) :: lo) st f = en_R cs 6 d post 36 (a0 :: some (.inl x) :: lo) (.inl x :: st) f := ru_load1 (show en_cd 6 35 = some (.iload_n 1, 1, 0, 0) by decide +kernel) rfl
theorem r6_36 : en_R cs 6 d post 36 lo st f = en_R cs 6 d post 38 lo (.inl 7 :: st) f := ru_bipush (show en_cd 6 36 = some (.bipush 7, 2, 0, 0) by decide +kernel) (by decide +kernel)
theorem r6_38 : en_R cs 6 d post 38 lo (.inl b :: .inl a :: st) f = en_R cs 6 d post 39 lo (.inl (a &&& b) :: st) f := ru_iand (show en_cd 6 38 = some (.iand, 1, 0, 0) by decide +kernel)
theorem r6_39 : en_R cs 6 d post 39 lo (.inl x :: .inr (5, i) :: st) f = (i < 6 ∧ en_R cs 6 d post 42 lo st (en_up f.1 5 i 6 x, f.2)) := ru_putI (show en_cd 6 39 = some (.putfield 28, 3, 5, 6) by decide +kernel) (by decide +kernel) (by decide +kernel) (by decide +kernel)
theorem r6_42 : en_R cs 6 d post 42 lo [] f = post none f := ru_vre (show en_cd 6 42 = some (.return_, 1, 0, 0) by decide +kernel) (by decide +kernel)
theorem r7_0 : en_R cs 7 d post 0 (some (.inr q) :: lo) st f = en_R cs 7 d post 1 (some (.inr q) :: lo) (.inr q :: st) f := ru_aload1 (show en_cd 7 0 = some (.aload_n 0, 1, 0, 0) by decide +kernel) rfl
theorem r7_1 : en_R cs 7 d post 1 lo (.inr (5, i) :: st) f = (i < 6 ∧ en_R cs 7 d post 4 lo (.inl (f.1 5 i 6) :: st) f) := ru_getI (show en_cd 7 1 = some (.getfield 28, 3, 5, 6) by decide +kernel) (by decide +kernel) (by decide +kernel) (by decide +kernel)
theorem r7_4 : en_R cs 7 d post 4 lo (.inl a :: st) f = (if a = 0 then en_R cs 7 d post 7 lo st f else en_R cs 7 d post 14 lo st f) := ru_ifne (show en_cd 7 4 = some (.ifCond .ne 10, 3, 0, 0) by decide +kernel) (by decide +kernel)
theorem r7_7 : en_R cs 7 d post 7 (some (.inr q) :: lo) st f = en_R cs 7 d post 8 (some (.inr q) :: lo) (.inr q :: st) f := ru_aload1 (show en_cd 7 7 = some (.aload_n 0, 1, 0, 0) by decide +kernel) rfl
theorem r7_8 : en_R cs 7 d post 8 lo st f = en_R cs 7 d post 9 lo (.inl 0 :: st) f := ru_iconst (show en_cd 7 8 = some (.iconst 0, 1, 0, 0) by decide +kernel) (by decide +kernel)
theorem r7_9 : en_R cs 7 d post 9 lo (.inl x :: .inr (5, i) :: st) f = (i < 6 ∧ en_R cs 7 d post 12 lo st (en_up f.1 5 i 4 x, f.2)) := ru_putI (show en_cd 7 9 = some (.putfield 15, 3, 5, 4) by decide +kernel) (by decide +kernel) (by decide +kernel) (by decide +kernel)
theorem r7_12 : en_R cs 7 d post 12 lo st f = en_R cs 7 d post 13 lo (.inl 0 :: st) f := ru_iconst (show en_cd 7 12 = some (.iconst 0, 1, 0, 0) by decide +kernel) (by decide +kernel)
theorem r7_13 : en_R cs 7 d post 13 lo ([.inl x]) f = post (some (.inl x)) f := ru_ire1 (show en_cd 7 13 = some (.ireturn, 1, 0, 0) by decide +kernel) (by decide +kernel)
theorem r7_14 : en_R cs 7 d post 14 (some (.inr q) :: lo) st f = en_R cs 7 d post 15 (some (.inr q) :: lo) (.inr q :: st) f := ru_aload1 (show en_cd 7 14 = some (.aload_n 0, 1, 0, 0) by decide +kernel) rfl
theorem r7_15 : en_R cs 7 d post 15 lo (.inr (5, i) :: st) f = (i < 6 ∧ en_R cs 7 d post 18 lo (.inl (f.1 5 i 5) :: st) f) := ru_getI (show en_cd 7 15 = some (.getfield 39, 3, 5, 5) by decide +kernel) (by decide +kernel) (by decide +kernel) (by decide +kernel)
theorem r7_18 : en_R cs 7 d post 18 lo (.inl a :: st) f = (if a < 0 then en_R cs 7 d post 42 lo st f else en_R cs 7 d post 21 lo st f) := ru_iflt (show en_cd 7 18 = some (.ifCond .lt 24, 3, 0, 0) by decide +kernel) (by decide +kernel)
theorem r7_21 : en_R cs 7 d post 21 (some (.inr q) :: lo) st f = en_R cs 7 d post 22 (some (.inr q) :: lo) (.inr q :: st) f := ru_aload1 (show en_cd 7 21 = some (.aload_n 0, 1, 0, 0) by decide +kernel) rfl
theorem r7_22 : en_R cs 7 d post 22 lo (.inr (5, i) :: st) f = (i < 6 ∧ en_R cs 7 d post 25 lo (.inl (f.1 5 i 5) :: st) f) := ru_getI (show en_cd 7 22 = some (.getfield 39, 3, 5, 5) by decide +kernel) (by decide +kernel) (by decide +kernel) (by decide +kernel)
theorem r7_25 : en_R cs 7 d post 25 lo st f = en_R cs 7 d post 27 lo (.inl 8 :: st) f := ru_bipush (show en_cd 7 25 = some (.bipush 8, 2, 0, 0) by decide +kernel) (by decide +kernel)
theorem r7_27 : en_R cs 7 d post 27 lo (.inl b :: .inl a :: st) f = (if b ≤ a then en_R cs 7 d post 42 lo st f else en_R cs 7 d post 30 lo st f) := ru_icge (show en_cd 7 27 = some (.if_icmp .ge 15, 3, 0, 0) by decide +kernel) (by decide +kernel)
theorem r7_30 : en_R cs 7 d post 30 (some (.inr q) :: lo) st f = en_R cs 7 d post 31 (some (.inr q) :: lo) (.inr q :: st) f := ru_aload1 (show en_cd 7 30 = some (.aload_n 0, 1, 0, 0) by decide +kernel) rfl
theorem r7_31 : en_R cs 7 d post 31 lo (.inr (5, i) :: st) f = (i < 6 ∧ en_R cs 7 d post 34 lo (.inr (6, i) :: st) f) := ru_getR (show en_cd 7 31 = some (.getfield 9, 3, 5, 0) by decide +kernel) (by decide +kernel) (by decide +kernel)
theorem r7_34 : en_R cs 7 d post 34 (some (.inr q) :: lo) st f = en_R cs 7 d post 35 (some (.inr q) :: lo) (.inr q :: st) f := ru_aload1 (show en_cd 7 34 = some (.aload_n 0, 1, 0, 0) by decide +kernel) rfl
theorem r7_35 : en_R cs 7 d post 35 lo (.inr (5, i) :: st) f = (i < 6 ∧ en_R cs 7 d post 38 lo (.inl (f.1 5 i 5) :: st) f) := ru_getI (show en_cd 7 35 = some (.getfield 39, 3, 5, 5) by decide +kernel) (by decide +kernel) (by decide +kernel) (by decide +kernel)
theorem r7_38 : en_R cs 7 d post 38 lo (.inl x :: .inr (6, i) :: st) f = (i < 6 ∧ en_inr x 8 = true ∧ en_R cs 7 d post 39 lo (.inl (f.1 6 i x.toNatClampNeg) :: st) f) := ru_iald (show en_cd 7 38 = some (.iaload, 1, 0, 0) by decide +kernel) (by decide +kernel) (by decide +kernel) (by decide +kernel) (by decide +kernel) (by decide +kernel)
theorem r7_39 : en_R cs 7 d post 39 lo st f = en_R cs 7 d post 43 lo st f := ru_goto (show en_cd 7 39 = some (.goto 4, 3, 0, 0) by decide +kernel) (by decide +kernel)
theorem r7_42 : en_R cs 7 d post 42 lo st f = en_R cs 7 d post 43 lo (.inl 0 :: st) f := ru_iconst (show en_cd 7 42 = some (.iconst 0, 1, 0, 0) by decide +kernel) (by decide +kernel)
theorem r7_43 : en_R cs 7 d post 43 (a0 :: a1 :: lo) (.inl x :: st) f = en_R cs 7 d post 44 (a0 :: some (.inl x) :: lo) st f := ru_istore1 (show en_cd 7 43 = some (.istore_n 1, 1, 0, 0) by decide +kernel) (Nat.lt_of_lt_of_le (by decide : 1 < 2) (Nat.le_add_left 2 lo.length))
theorem r7_44 : en_R cs 7 d post 44 (some (.inr q) :: lo) st f = en_R cs 7 d post 45 (some (.inr q) :: lo) (.inr q :: st) f := ru_aload1 (show en_cd 7 44 = some (.aload_n 0, 1, 0, 0) by decide +kernel) rfl
theorem r7_45 : en_R cs 7 d post 45 lo (u :: st) f = en_R cs 7 d post 46 lo (u :: u :: st) f := ru_dup (show en_cd 7 45 = some (.dup, 1, 0, 0) by decide +kernel)
theorem r7_46 : en_R cs 7 d post 46 lo (.inr (5, i) :: st) f = (i < 6 ∧ en_R cs 7 d post 49 lo (.inl (f.1 5 i 5) :: st) f) := ru_getI (show en_cd 7 46 = some (.getfield 39, 3, 5, 5) by decide +kernel) (by decide +kernel) (by decide +kernel) (by decide +kernel)
theorem r7_49 : en_R cs 7 d post 49 lo st f = en_R cs 7 d post 50 lo (.inl 1 :: st) f := ru_iconst (show en_cd 7 49 = some (.iconst 1, 1, 0, 0) by decide +kernel) (by decide +kernel)
theorem r7_50 : en_R cs 7 d post 50 lo (.inl b :: .inl a :: st) f = en_R cs 7 d post 51 lo (.inl (a + b) :: st) f := ru_iadd (show en_cd 7 50 = some (.iadd, 1, 0, 0) by decide +kernel)
theorem r7_51 : en_R cs 7 d post 51 lo (.inl x :: .inr (5, i) :: st) f = (i < 6 ∧ en_R cs 7 d post 54 lo st (en_up f.1 5 i 5 x, f.2)) := ru_putI (show en_cd 7 51 = some (.putfield 39, 3, 5, 5) by decide +kernel) (by decide +kernel) (by decide +kernel) (by decide +kernel)
theorem r7_54 : en_R cs 7 d post 54 (some (.inr q) :: lo) st f = en_R cs 7 d post 55 (some (.inr q) :: lo) (.inr q :: st) f := ru_aload1 (show en_cd 7 54 = some (.aload_n 0, 1, 0, 0) by decide +kernel) rfl
theorem r7_55 : en_R cs 7 d post 55 lo (u :: st) f = en_R cs 7 d post 56 lo (u :: u :: st) f := ru_dup (show en_cd 7 55 = some (.dup, 1, 0, 0) by decide +kernel)
theorem r7_56 : en_R cs 7 d post 56 lo (.inr (5, i) :: st) f = (i < 6 ∧ en_R cs 7 d post 59 lo (.inl (f.1 5 i 6) :: st) f) := ru_getI (show en_cd 7 56 = some (.getfield 28, 3, 5, 6) by decide +kernel) (by decide +kernel) (by decide +kernel) (by decide +kernel)
theorem r7_59 : en_R cs 7 d post 59 lo st f = en_R cs 7 d post 60 lo (.inl 1 :: st) f := ru_iconst (show en_cd 7 59 = some (.iconst 1, 1, 0, 0) by decide +kernel) (by decide +kernel)
theorem r7_60 : en_R cs 7 d post 60 lo (.inl b :: .inl a :: st) f = en_R cs 7 d post 61 lo (.inl (a - b) :: st) f := ru_isub (show en_cd 7 60 = some (.isub, 1, 0, 0) by decide +kernel)
theorem r7_61 : en_R cs 7 d post 61 lo (.inl x :: .inr (5, i) :: st) f = (i < 6 ∧ en_R cs 7 d post 64 lo st (en_up f.1 5 i 6 x, f.2)) := ru_putI (show en_cd 7 61 = some (.putfield 28, 3, 5, 6) by decide +kernel) (by decide +kernel) (by decide +kernel) (by decide +kernel)
theorem r7_64 : en_R cs 7 d post 64 (a0 :: some (.inl x) :: lo) st f = en_R cs 7 d post 65 (a0 :: some (.inl x) :: lo) (.inl x :: st) f := ru_load1 (show en_cd 7 64 = some (.iload_n 1, 1, 0, 0) by decide +kernel) rfl
theorem r7_65 : en_R cs 7 d post 65 lo ([.inl x]) f = post (some (.inl x)) f := ru_ire1 (show en_cd 7 65 = some (.ireturn, 1, 0, 0) by decide +kernel) (by decide +kernel)
theorem r8_0 : en_R cs 8 d post 0 (a0 :: some (.inl x) :: lo) st f = en_R cs 8 d post 1 (a0 :: some (.inl x) :: lo) (.inl x :: st) f := ru_load1 (show en_cd 8 0 = some (.iload_n 1, 1, 0, 0) by decide +kernel) rfl
theorem r8_1 : en_R cs 8 d post 1 lo (.inl a :: st) f = (if a = 0 then en_R cs 8 d post 19 lo st f else en_R cs 8 d post 4 lo st f) := ru_ifeq (show en_cd 8 1 = some (.ifCond .eq 18, 3, 0, 0) by decide +kernel) (by decide +kernel)
theorem r8_4 : en_R cs 8 d post 4 (some (.inr q) :: lo) st f = en_R cs 8 d post 5 (some (.inr q) :: lo) (.inr q :: st) f := ru_aload1 (show en_cd 8 4 = some (.aload_n 0, 1, 0, 0) by decide +kernel) rfl
theorem r8_5 : en_R cs 8 d post 5 lo (.inr (8, i) :: st) f = (i < 16 ∧ en_R cs 8 d post 8 lo (.inl (f.1 8 i 5) :: st) f) := ru_getI (show en_cd 8 5 = some (.getfield 19, 3, 8, 5) by decide +kernel) (by decide +kernel) (by decide +kernel) (by decide +kernel)
theorem r8_8 : en_R cs 8 d post 8 lo (.inl a :: st) f = (if a = 0 then en_R cs 8 d post 23 lo st f else en_R cs 8 d post 11 lo st f) := ru_ifeq (show en_cd 8 8 = some (.ifCond .eq 15, 3, 0, 0) by decide +kernel) (by decide +kernel)
theorem r8_11 : en_R cs 8 d post 11 (a0 :: some (.inl x) :: lo) st f = en_R cs 8 d post 12 (a0 :: some (.inl x) :: lo) (.inl x :: st) f := ru_load1 (show en_cd 8 11 = some (.iload_n 1, 1, 0, 0) by decide +kernel) rfl
theorem r8_12 : en_R cs 8 d post 12 (some (.inr q) :: lo) st f = en_R cs 8 d post 13 (some (.inr q) :: lo) (.inr q :: st) f := ru_aload1 (show en_cd 8 12 = some (.aload_n 0, 1, 0, 0) by decide +kernel) rfl
theorem r8_13 : en_R cs 8 d post 13 lo (.inr (8, i) :: st) f = (i < 16 ∧ en_R cs 8 d post 16 lo (.inl (f.1 8 i 4) :: st) f) := ru_getI (show en_cd 8 13 = some (.getfield 23, 3, 8, 4) by decide +kernel) (by decide +kernel) (by decide +kernel) (by decide +kernel)
theorem r8_16 : en_R cs 8 d post 16 lo (.inl b :: .inl a :: st) f = (if b < a then en_R cs 8 d post 23 lo st f else en_R cs 8 d post 19 lo st f) := ru_icgt (show en_cd 8 16 = some (.if_icmp .gt 7, 3, 0, 0) by decide +kernel) (by decide +kernel)
theorem r8_19 : en_R cs 8 d post 19 lo st f = en_R cs 8 d post 20 lo (.inl 1 :: st) f := ru_iconst (show en_cd 8 19 = some (.iconst 1, 1, 0, 0) by decide +kernel) (by decide +kernel)
theorem r8_20 : en_R cs 8 d post 20 lo st f = en_R cs 8 d post 24 lo st f := ru_goto (show en_cd 8 20 = some (.goto 4, 3, 0, 0) by decide +kernel) (by decide +kernel)
theorem r8_23 : en_R cs 8 d post 23 lo st f = en_R cs 8 d post 24 lo (.inl 0 :: st) f := ru_iconst (show en_cd 8 23 = some (.iconst 0, 1, 0, 0) by decide +kernel) (by decide +kernel)
theorem r8_24 : en_R cs 8 d post 24 lo ([.inl x]) f = (en_isz x = true ∧ post (some (.inl x)) f) := ru_ire2 (show en_cd 8 24 = some (.ireturn, 1, 0, 0) by decide +kernel) (by decide +kernel)
theorem r9_0 : en_R cs 9 d post 0 (a0 :: some (.inl x) :: lo) st f = en_R cs 9 d post 1 (a0 :: some (.inl x) :: lo) (.inl x :: st) f := ru_load1 (show en_cd 9 0 = some (.iload_n 1, 1, 0, 0) by decide +kernel) rfl
theorem r9_1 : en_R cs 9 d post 1 lo (.inl a :: st) f = (if a ≤ 0 then en_R cs 9 d post 13 lo st f else en_R cs 9 d post 4 lo st f) := ru_ifle (show en_cd 9 1 = some (.ifCond .le 12, 3, 0, 0) by decide +kernel) (by decide +kernel)
theorem r9_4 : en_R cs 9 d post 4 (some (.inr q) :: lo) st f = en_R cs 9 d post 5 (some (.inr q) :: lo) (.inr q :: st) f := ru_aload1 (show en_cd 9 4 = some (.aload_n 0, 1, 0, 0) by decide +kernel) rfl
theorem r9_5 : en_R cs 9 d post 5 lo (.inr (8, i) :: st) f = (i < 16 ∧ en_R cs 9 d post 8 lo (.inl (f.1 8 i 6) :: st) f) := ru_getI (show en_cd 9 5 = some (.getfield 26, 3, 8, 6) by decide +kernel) (by decide +kernel) (by decide +kernel) (by decide +kernel)
theorem r9_8 : en_R cs 9 d post 8 (a0 :: some (.inl x) :: lo) st f = en_R cs 9 d post 9 (a0 :: some (.inl x) :: lo) (.inl x :: st) f := ru_load1 (show en_cd 9 8 = some (.iload_n 1, 1, 0, 0) by decide +kernel) rfl
theorem r9_9 : en_R cs 9 d post 9 lo (.inl b :: .inl a :: st) f = en_R cs 9 d post 10 lo (.inl (a + b) :: st) f := ru_iadd (show en_cd 9 9 = some (.iadd, 1, 0, 0) by decide +kernel)
theorem r9_10 : en_R cs 9 d post 10 lo st f = en_R cs 9 d post 11 lo (.inl 1 :: st) f := ru_iconst (show en_cd 9 10 = some (.iconst 1, 1, 0, 0) by decide +kernel) (by decide +kernel)
theorem r9_11 : en_R cs 9 d post 11 lo (.inl b :: .inl a :: st) f = en_R cs 9 d post 12 lo (.inl (a - b) :: st) f := ru_isub (show en_cd 9 11 = some (.isub, 1, 0, 0) by decide +kernel)
theorem r9_12 : en_R cs 9 d post 12 lo ([.inl x]) f = post (some (.inl x)) f := ru_ire1 (show en_cd 9 12 = some (.ireturn, 1, 0, 0) by decide +kernel) (by decide +kernel)
theorem r9_13 : en_R cs 9 d post 13 (some (.inr q) :: lo) st f = en_R cs 9 d post 14 (some (.inr q) :: lo) (.inr q :: st) f := ru_aload1 (show en_cd 9 13 = some (.aload_n 0, 1, 0, 0) by decide +kernel) rfl
theorem r9_14 : en_R cs 9 d post 14 lo (.inr (8, i) :: st) f = (i < 16 ∧ en_R cs 9 d post 17 lo (.inl (f.1 8 i 4) :: st) f) := ru_getI (show en_cd 9 14 = some (.getfield 23, 3, 8, 4) by decide +kernel) (by decide +kernel) (by decide +kernel) (by decide +kernel)
theorem r9_17 : en_R cs 9 d post 17 (some (.inr q) :: lo) st f = en_R cs 9 d post 18 (some (.inr q) :: lo) (.inr q :: st) f := ru_aload1 (show en_cd 9 17 = some (.aload_n 0, 1, 0, 0) by decide +kernel) rfl
theorem r9_18 : en_R cs 9 d post 18 lo (.inr (8, i) :: st) f = (i < 16 ∧ en_R cs 9 d post 21 lo (.inl (f.1 8 i 3) :: st) f) := ru_getI (show en_cd 9 18 = some (.getfield 29, 3, 8, 3) by decide +kernel) (by decide +kernel) (by decide +kernel) (by decide +kernel)
theorem r9_21 : en_R cs 9 d post 21 lo st f = en_R cs 9 d post 22 lo (.inl 3 :: st) f := ru_iconst (show en_cd 9 21 = some (.iconst 3, 1, 0, 0) by decide +kernel) (by decide +kernel)
theorem r9_22 : en_R cs 9 d post 22 lo (.inl b :: .inl a :: st) f = en_R cs 9 d post 23 lo (.inl (a <<< (b &&& 31)) :: st) f := ru_ishl (show en_cd 9 22 = some (.ishl, 1, 0, 0) by decide +kernel)
theorem r9_23 : en_R cs 9 d post 23 lo (.inl b :: .inl a :: st) f = en_R cs 9 d post 24 lo (.inl (a ||| b) :: st) f := ru_ior (show en_cd 9 23 = some (.ior, 1, 0, 0) by decide +kernel)
theorem r9_24 : en_R cs 9 d post 24 (some (.inr q) :: lo) st f = en_R cs 9 d post 25 (some (.inr q) :: lo) (.inr q :: st) f := ru_aload1 (show en_cd 9 24 = some (.aload_n 0, 1, 0, 0) by decide +kernel) rfl
theorem r9_25 : en_R cs 9 d post 25 lo (.inr (8, i) :: st) f = (i < 16 ∧ en_R cs 9 d post 28 lo (.inl (f.1 8 i 5) :: st) f) := ru_getI (show en_cd 9 25 = some (.getfield 19, 3, 8, 5) by decide +kernel) (by decide +kernel) (by decide +kernel) (by decide +kernel)
theorem r9_28 : en_R cs 9 d post 28 lo (.inl a :: st) f = (if a = 0 then en_R cs 9 d post 36 lo st f else en_R cs 9 d post 31 lo st f) := ru_ifeq (show en_cd 9 28 = some (.ifCond .eq 8, 3, 0, 0) by decide +kernel) (by decide +kernel)
theorem r9_31 : en_R cs 9 d post 31 lo st f = en_R cs 9 d post 33 lo (.inl 64 :: st) f := ru_bipush (show en_cd 9 31 = some (.bipush 64, 2, 0, 0) by decide +kernel) (by decide +kernel)
theorem r9_33 : en_R cs 9 d post 33 lo st f = en_R cs 9 d post 37 lo st f := ru_goto (show en_cd 9 33 = some (.goto 4, 3, 0, 0) by decide +kernel) (by decide +kernel)
theorem r9_36 : en_R cs 9 d post 36 lo st f = en_R cs 9 d post 37 lo (.inl 0 :: st) f := ru_iconst (show en_cd 9 36 = some (.iconst 0, 1, 0, 0) by decide +kernel) (by decide +kernel)
theorem r9_37 : en_R cs 9 d post 37 lo (.inl b :: .inl a :: st) f = en_R cs 9 d post 38 lo (.inl (a ||| b) :: st) f := ru_ior (show en_cd 9 37 = some (.ior, 1, 0, 0) by decide +kernel)
theorem r9_38 : en_R cs 9 d post 38 lo ([.inl x]) f = post (some (.inl x)) f := ru_ire1 (show en_cd 9 38 = some (.ireturn, 1, 0, 0) by decide +kernel) (by decide +kernel)
theorem r10_0 : en_R cs 10 d post 0 (some (.inr q) :: lo) st f = en_R cs 10 d post 1 (some (.inr q) :: lo) (.inr q :: st) f := ru_aload1 (show en_cd 10 0 = some (.aload_n 0, 1, 0, 0) by decide +kernel) rfl
theorem r10_1 : en_R cs 10 d post 1 lo (.inr (8, i) :: st) f = (i < 16 ∧ en_R cs 10 d post 4 lo (.inl (f.1 8 i 1) :: st) f) := ru_getI (show en_cd 10 1 = some (.getfield 32, 3, 8, 1) by decide +kernel) (by decide +kernel) (by decide +kernel) (by decide +kernel)
theorem r10_4 : en_R cs 10 d post 4 lo st f = en_R cs 10 d post 5 lo (.inl 4 :: st) f := ru_iconst (show en_cd 10 4 = some (.iconst 4, 1, 0, 0) by decide +kernel) (by decide +kernel)
theorem r10_5 : en_R cs 10 d post 5 lo (.inl b :: .inl a :: st) f = (if b ≤ a then en_R cs 10 d post 28 lo st f else en_R cs 10 d post 8 lo st f) := ru_icge (show en_cd 10 5 = some (.if_icmp .ge 23, 3, 0, 0) by decide +kernel) (by decide +kernel)
theorem r10_8 : en_R cs 10 d post 8 (some (.inr q) :: lo) st f = en_R cs 10 d post 9 (some (.inr q) :: lo) (.inr q :: st) f := ru_aload1 (show en_cd 10 8 = some (.aload_n 0, 1, 0, 0) by decide +kernel) rfl
theorem r10_9 : en_R cs 10 d post 9 lo (.inr (8, i) :: st) f = (i < 16 ∧ en_R cs 10 d post 12 lo (.inr (9, i) :: st) f) := ru_getR (show en_cd 10 9 = some (.getfield 9, 3, 8, 0) by decide +kernel) (by decide +kernel) (by decide +kernel)
theorem r10_12 : en_R cs 10 d post 12 (some (.inr q) :: lo) st f = en_R cs 10 d post 13 (some (.inr q) :: lo) (.inr q :: st) f := ru_aload1 (show en_cd 10 12 = some (.aload_n 0, 1, 0, 0) by decide +kernel) rfl
theorem r10_13 : en_R cs 10 d post 13 lo (.inr (8, i) :: st) f = (i < 16 ∧ en_R cs 10 d post 16 lo (.inl (f.1 8 i 1) :: st) f) := ru_getI (show en_cd 10 13 = some (.getfield 32, 3, 8, 1) by decide +kernel) (by decide +kernel) (by decide +kernel) (by decide +kernel)
theorem r10_16 : en_R cs 10 d post 16 (a0 :: some (.inl x) :: lo) st f = en_R cs 10 d post 17 (a0 :: some (.inl x) :: lo) (.inl x :: st) f := ru_load1 (show en_cd 10 16 = some (.iload_n 1, 1, 0, 0) by decide +kernel) rfl
theorem r10_17 : en_R cs 10 d post 17 lo (.inl v :: .inl x :: .inr (9, i) :: st) f = (i < 16 ∧ en_inr x 4 = true ∧ en_R cs 10 d post 18 lo st (en_up f.1 9 i x.toNatClampNeg v, f.2)) := ru_iast (show en_cd 10 17 = some (.iastore, 1, 0, 0) by decide +kernel) (by decide +kernel) (by decide +kernel) (by decide +kernel) (by decide +kernel)
theorem r10_18 : en_R cs 10 d post 18 (some (.inr q) :: lo) st f = en_R cs 10 d post 19 (some (.inr q) :: lo) (.inr q :: st) f := ru_aload1 (show en_cd 10 18 = some (.aload_n 0, 1, 0, 0) by decide +kernel) rfl
theorem r10_19 : en_R cs 10 d post 19 lo (u :: st) f = en_R cs 10 d post 20 lo (u :: u :: st) f := ru_dup (show en_cd 10 19 = some (.dup, 1, 0, 0) by decide +kernel)
theorem r10_20 : en_R cs 10 d post 20 lo (.inr (8, i) :: st) f = (i < 16 ∧ en_R cs 10 d post 23 lo (.inl (f.1 8 i 1) :: st) f) := ru_getI (show en_cd 10 20 = some (.getfield 32, 3, 8, 1) by decide +kernel) (by decide +kernel) (by decide +kernel) (by decide +kernel)
theorem r10_23 : en_R cs 10 d post 23 lo st f = en_R cs 10 d post 24 lo (.inl 1 :: st) f := ru_iconst (show en_cd 10 23 = some (.iconst 1, 1, 0, 0) by decide +kernel) (by decide +kernel)
theorem r10_24 : en_R cs 10 d post 24 lo (.inl b :: .inl a :: st) f = en_R cs 10 d post 25 lo (.inl (a + b) :: st) f := ru_iadd (show en_cd 10 24 = some (.iadd, 1, 0, 0) by decide +kernel)
theorem r10_25 : en_R cs 10 d post 25 lo (.inl x :: .inr (8, i) :: st) f = (i < 16 ∧ en_R cs 10 d post 28 lo st (en_up f.1 8 i 1 x, f.2)) := ru_putI (show en_cd 10 25 = some (.putfield 32, 3, 8, 1) by decide +kernel) (by decide +kernel) (by decide +kernel) (by decide +kernel)
theorem r10_28 : en_R cs 10 d post 28 lo [] f = post none f := ru_vre (show en_cd 10 28 = some (.return_, 1, 0, 0) by decide +kernel) (by decide +kernel)
theorem r11_0 : en_R cs 11 d post 0 (a0 :: some (.inl x) :: lo) st f = en_R cs 11 d post 1 (a0 :: some (.inl x) :: lo) (.inl x :: st) f := ru_load1 (show en_cd 11 0 = some (.iload_n 1, 1, 0, 0) by decide +kernel) rfl
theorem r11_1 : en_R cs 11 d post 1 lo (.inl a :: st) f = (if a < 0 then en_R cs 11 d post 21 lo st f else en_R cs 11 d post 4 lo st f) := ru_iflt (show en_cd 11 1 = some (.ifCond .lt 20, 3, 0, 0) by decide +kernel) (by decide +kernel)
theorem r11_4 : en_R cs 11 d post 4 (a0 :: some (.inl x) :: lo) st f = en_R cs 11 d post 5 (a0 :: some (.inl x) :: lo) (.inl x :: st) f := ru_load1 (show en_cd 11 4 = some (.iload_n 1, 1, 0, 0) by decide +kernel) rfl
theorem r11_5 : en_R cs 11 d post 5 (some (.inr q) :: lo) st f = en_R cs 11 d post 6 (some (.inr q) :: lo) (.inr q :: st) f := ru_aload1 (show en_cd 11 5 = some (.aload_n 0, 1, 0, 0) by decide +kernel) rfl
theorem r11_6 : en_R cs 11 d post 6 lo (.inr (8, i) :: st) f = (i < 16 ∧ en_R cs 11 d post 9 lo (.inl (f.1 8 i 1) :: st) f) := ru_getI (show en_cd 11 6 = some (.getfield 32, 3, 8, 1) by decide +kernel) (by decide +kernel) (by decide +kernel) (by decide +kernel)
theorem r11_9 : en_R cs 11 d post 9 lo (.inl b :: .inl a :: st) f = (if b ≤ a then en_R cs 11 d post 21 lo st f else en_R cs 11 d post 12 lo st f) := ru_icge (show en_cd 11 9 = some (.if_icmp .ge 12, 3, 0, 0) by decide +kernel) (by decide +kernel)
theorem r11_12 : en_R cs 11 d post 12 (some (.inr q) :: lo) st f = en_R cs 11 d post 13 (some (.inr q) :: lo) (.inr q :: st) f := ru_aload1 (show en_cd 11 12 = some (.aload_n 0, 1, 0, 0) by decide +kernel) rfl
theorem r11_13 : en_R cs 11 d post 13 lo (.inr (8, i) :: st) f = (i < 16 ∧ en_R cs 11 d post 16 lo (.inr (9, i) :: st) f) := ru_getR (show en_cd 11 13 = some (.getfield 9, 3, 8, 0) by decide +kernel) (by decide +kernel) (by decide +kernel)
theorem r11_16 : en_R cs 11 d post 16 (a0 :: some (.inl x) :: lo) st f = en_R cs 11 d post 17 (a0 :: some (.inl x) :: lo) (.inl x :: st) f := ru_load1 (show en_cd 11 16 = some (.iload_n 1, 1, 0, 0) by decide +kernel) rfl
theorem r11_17 : en_R cs 11 d post 17 lo (.inl x :: .inr (9, i) :: st) f = (i < 16 ∧ en_inr x 4 = true ∧ en_R cs 11 d post 18 lo (.inl (f.1 9 i x.toNatClampNeg) :: st) f) := ru_iald (show en_cd 11 17 = some (.iaload, 1, 0, 0) by decide +kernel) (by decide +kernel) (by decide +kernel) (by decide +kernel) (by decide +kernel) (by decide +kernel)
theorem r11_18 : en_R cs 11 d post 18 lo st f = en_R cs 11 d post 22 lo st f := ru_goto (show en_cd 11 18 = some (.goto 4, 3, 0, 0) by decide +kernel) (by decide +kernel)
theorem r11_21 : en_R cs 11 d post 21 lo st f = en_R cs 11 d post 22 lo (.inl 0 :: st) f := ru_iconst (show en_cd 11 21 = some (.iconst 0, 1, 0, 0) by decide +kernel) (by decide +kernel)
theorem r11_22 : en_R cs 11 d post 22 lo ([.inl x]) f = post (some (.inl x)) f := ru_ire1 (show en_cd 11 22 = some (.ireturn, 1, 0, 0) by decide +kernel) (by decide +kernel)
theorem r12_0 : en_R cs 12 d post 0 (some (.inr q) :: lo) st f = en_R cs 12 d post 1 (some (.inr q) :: lo) (.inr q :: st) f := ru_aload1 (show en_cd 12 0 = some (.aload_n 0, 1, 0, 0) by decide +kernel) rfl
theorem r12_1 : en_R cs 12 d post 1 lo (.inr (8, i) :: st) f = (i < 16 ∧ en_R cs 12 d post 4 lo (.inl (f.1 8 i 7) :: st) f) := ru_getI (show en_cd 12 1 = some (.getfield 15, 3, 8, 7) by decide +kernel) (by decide +kernel) (by decide +kernel) (by decide +kernel)
theorem r12_4 : en_R cs 12 d post 4 lo (.inl a :: st) f = (if a = 0 then en_R cs 12 d post 7 lo st f else en_R cs 12 d post 12 lo st f) := ru_ifne (show en_cd 12 4 = some (.ifCond .ne 8, 3, 0, 0) by decide +kernel) (by decide +kernel)
theorem r12_7 : en_R cs 12 d post 7 (some (.inr q) :: lo) st f = en_R cs 12 d post 8 (some (.inr q) :: lo) (.inr q :: st) f := ru_aload1 (show en_cd 12 7 = some (.aload_n 0, 1, 0, 0) by decide +kernel) rfl
theorem r12_8 : en_R cs 12 d post 8 (a0 :: some (.inl x) :: lo) st f = en_R cs 12 d post 9 (a0 :: some (.inl x) :: lo) (.inl x :: st) f := ru_load1 (show en_cd 12 8 = some (.iload_n 1, 1, 0, 0) by decide +kernel) rfl
theorem r12_9 : en_R cs 12 d post 9 lo (.inl x :: .inr (8, i) :: st) f = (i < 16 ∧ en_R cs 12 d post 12 lo st (en_up f.1 8 i 7 x, f.2)) := ru_putI (show en_cd 12 9 = some (.putfield 15, 3, 8, 7) by decide +kernel) (by decide +kernel) (by decide +kernel) (by decide +kernel)
theorem r12_12 : en_R cs 12 d post 12 lo [] f = post none f := ru_vre (show en_cd 12 12 = some (.return_, 1, 0, 0) by decide +kernel) (by decide +kernel)
theorem r13_0 : en_R cs 13 d post 0 (some (.inr q) :: lo) st f = en_R cs 13 d post 1 (some (.inr q) :: lo) (.inr q :: st) f := ru_aload1 (show en_cd 13 0 = some (.aload_n 0, 1, 0, 0) by decide +kernel) rfl
theorem r13_1 : en_R cs 13 d post 1 lo (.inr (10, i) :: st) f = (i < 1 ∧ en_R cs 13 d post 4 lo (.inr (11, i) :: st) f) := ru_getR (show en_cd 13 1 = some (.getfield 9, 3, 10, 0) by decide +kernel) (by decide +kernel) (by decide +kernel)
theorem r13_4 : en_R cs 13 d post 4 (some (.inr q) :: lo) st f = en_R cs 13 d post 5 (some (.inr q) :: lo) (.inr q :: st) f := ru_aload1 (show en_cd 13 4 = some (.aload_n 0, 1, 0, 0) by decide +kernel) rfl
theorem r13_5 : en_R cs 13 d post 5 lo (.inr (10, i) :: st) f = (i < 1 ∧ en_R cs 13 d post 8 lo (.inl (f.1 10 i 1) :: st) f) := ru_getI (show en_cd 13 5 = some (.getfield 15, 3, 10, 1) by decide +kernel) (by decide +kernel) (by decide +kernel) (by decide +kernel)
theorem r13_8 : en_R cs 13 d post 8 (a0 :: some (.inl x) :: lo) st f = en_R cs 13 d post 9 (a0 :: some (.inl x) :: lo) (.inl x :: st) f := ru_load1 (show en_cd 13 8 = some (.iload_n 1, 1, 0, 0) by decide +kernel) rfl
theorem r13_9 : en_R cs 13 d post 9 lo (.inl b :: .inl a :: st) f = en_R cs 13 d post 10 lo (.inl (a + b) :: st) f := ru_iadd (show en_cd 13 9 = some (.iadd, 1, 0, 0) by decide +kernel)
theorem r13_10 : en_R cs 13 d post 10 lo st f = en_R cs 13 d post 11 lo (.inl 1 :: st) f := ru_iconst (show en_cd 13 10 = some (.iconst 1, 1, 0, 0) by decide +kernel) (by decide +kernel)
theorem r13_11 : en_R cs 13 d post 11 lo (.inl b :: .inl a :: st) f = en_R cs 13 d post 12 lo (.inl (a - b) :: st) f := ru_isub (show en_cd 13 11 = some (.isub, 1, 0, 0) by decide +kernel)
theorem r13_12 : en_R cs 13 d post 12 lo st f = en_R cs 13 d post 14 lo (.inl 40 :: st) f := ru_bipush (show en_cd 13 12 = some (.bipush 40, 2, 0, 0) by decide +kernel) (by decide +kernel)
theorem r13_14 : en_R cs 13 d post 14 lo (.inl b :: .inl a :: st) f = (¬ b = 0 ∧ en_R cs 13 d post 15 lo (.inl (a - a / b * b) :: st) f) := ru_irem (show en_cd 13 14 = some (.irem, 1, 0, 0) by decide +kernel)
theorem r13_15 : en_R cs 13 d post 15 (a0 :: a1 :: some (.inl x) :: lo) st f = en_R cs 13 d post 16 (a0 :: a1 :: some (.inl x) :: lo) (.inl x :: st) f := ru_load1 (show en_cd 13 15 = some (.iload_n 2, 1, 0, 0) by decide +kernel) rfl
theorem r13_16 : en_R cs 13 d post 16 lo st f = en_R cs 13 d post 17 lo (.inl 3 :: st) f := ru_iconst (show en_cd 13 16 = some (.iconst 3, 1, 0, 0) by decide +kernel) (by decide +kernel)
theorem r13_17 : en_R cs 13 d post 17 lo (.inl b :: .inl a :: st) f = (if a = b then en_R cs 13 d post 20 lo st f else en_R cs 13 d post 24 lo st f) := ru_icne (show en_cd 13 17 = some (.if_icmp .ne 7, 3, 0, 0) by decide +kernel) (by decide +kernel)
theorem r13_20 : en_R cs 13 d post 20 lo st f = en_R cs 13 d post 21 lo (.inl 0 :: st) f := ru_iconst (show en_cd 13 20 = some (.iconst 0, 1, 0, 0) by decide +kernel) (by decide +kernel)
theorem r13_21 : en_R cs 13 d post 21 lo st f = en_R cs 13 d post 27 lo st f := ru_goto (show en_cd 13 21 = some (.goto 6, 3, 0, 0) by decide +kernel) (by decide +kernel)
theorem r13_24 : en_R cs 13 d post 24 (a0 :: a1 :: some (.inl x) :: lo) st f = en_R cs 13 d post 25 (a0 :: a1 :: some (.inl x) :: lo) (.inl x :: st) f := ru_load1 (show en_cd 13 24 = some (.iload_n 2, 1, 0, 0) by decide +kernel) rfl
theorem r13_25 : en_R cs 13 d post 25 lo st f = en_R cs 13 d post 26 lo (.inl 1 :: st) f := ru_iconst (show en_cd 13 25 = some (.iconst 1, 1, 0, 0) by decide +kernel) (by decide +kernel)
theorem r13_26 : en_R cs 13 d post 26 lo (.inl b :: .inl a :: st) f = en_R cs 13 d post 27 lo (.inl (a + b) :: st) f := ru_iadd (show en_cd 13 26 = some (.iadd, 1, 0, 0) by decide +kernel)
theorem r13_27 : en_R cs 13 d post 27 lo (.inl v :: .inl x :: .inr (11, i) :: st) f = (i < 1 ∧ en_inr x 40 = true ∧ en_R cs 13 d post 28 lo st (en_up f.1 11 i x.toNatClampNeg v, f.2)) := ru_iast (show en_cd 13 27 = some (.iastore, 1, 0, 0) by decide +kernel) (by decide +kernel) (by decide +kernel) (by decide +kernel) (by decide +kernel)
theorem r13_28 : en_R cs 13 d post 28 lo [] f = post none f := ru_vre (show en_cd 13 28 = some (.return_, 1, 0, 0) by decide +kernel) (by decide +kernel)
theorem r14_0 : en_R cs 14 d post 0 (some (.inr q) :: lo) st f = en_R cs 14 d post 1 (some (.inr q) :: lo) (.inr q :: st) f := ru_aload1 (show en_cd 14 0 = some (.aload_n 0, 1, 0, 0) by decide +kernel) rfl
theorem r14_1 : en_R cs 14 d post 1 lo (.inr (10, i) :: st) f = (i < 1 ∧ en_R cs 14 d post 4 lo (.inr (11, i) :: st) f) := ru_getR (show en_cd 14 1 = some (.getfield 9, 3, 10, 0) by decide +kernel) (by decide +kernel) (by decide +kernel)
theorem r14_4 : en_R cs 14 d post 4 (some (.inr q) :: lo) st f = en_R cs 14 d post 5 (some (.inr q) :: lo) (.inr q :: st) f := ru_aload1 (show en_cd 14 4 = some (.aload_n 0, 1, 0, 0) by decide +kernel) rfl
theorem r14_5 : en_R cs 14 d post 5 lo (.inr (10, i) :: st) f = (i < 1 ∧ en_R cs 14 d post 8 lo (.inl (f.1 10 i 1) :: st) f) := ru_getI (show en_cd 14 5 = some (.getfield 15, 3, 10, 1) by decide +kernel) (by decide +kernel) (by decide +kernel) (by decide +kernel)
theorem r14_8 : en_R cs 14 d post 8 lo (.inl x :: .inr (11, i) :: st) f = (i < 1 ∧ en_inr x 40 = true ∧ en_R cs 14 d post 9 lo (.inl (f.1 11 i x.toNatClampNeg) :: st) f) := ru_iald (show en_cd 14 8 = some (.iaload, 1, 0, 0) by decide +kernel) (by decide +kernel) (by decide +kernel) (by decide +kernel) (by decide +kernel) (by decide +kernel)
theorem r14_9 : en_R cs 14 d post 9 (a0 :: a1 :: lo) (.inl x :: st) f = en_R cs 14 d post 10 (a0 :: some (.inl x) :: lo) st f := ru_istore1 (show en_cd 14 9 = some (.istore_n 1, 1, 0, 0) by decide +kernel) (Nat.lt_of_lt_of_le (by decide : 1 < 2) (Nat.le_add_left 2 lo.length))
theorem r14_10 : en_R cs 14 d post 10 (some (.inr q) :: lo) st f = en_R cs 14 d post 11 (some (.inr q) :: lo) (.inr q :: st) f := ru_aload1 (show en_cd 14 10 = some (.aload_n 0, 1, 0, 0) by decide +kernel) rfl
theorem r14_11 : en_R cs 14 d post 11 lo (.inr (10, i) :: st) f = (i < 1 ∧ en_R cs 14 d post 14 lo (.inr (11, i) :: st) f) := ru_getR (show en_cd 14 11 = some (.getfield 9, 3, 10, 0) by decide +kernel) (by decide +kernel) (by decide +kernel)
theorem r14_14 : en_R cs 14 d post 14 (some (.inr q) :: lo) st f = en_R cs 14 d post 15 (some (.inr q) :: lo) (.inr q :: st) f := ru_aload1 (show en_cd 14 14 = some (.aload_n 0, 1, 0, 0) by decide +kernel) rfl
theorem r14_15 : en_R cs 14 d post 15 lo (.inr (10, i) :: st) f = (i < 1 ∧ en_R cs 14 d post 18 lo (.inl (f.1 10 i 1) :: st) f) := ru_getI (show en_cd 14 15 = some (.getfield 15, 3, 10, 1) by decide +kernel) (by decide +kernel) (by decide +kernel) (by decide +kernel)
theorem r14_18 : en_R cs 14 d post 18 lo st f = en_R cs 14 d post 19 lo (.inl 0 :: st) f := ru_iconst (show en_cd 14 18 = some (.iconst 0, 1, 0, 0) by decide +kernel) (by decide +kernel)
theorem r14_19 : en_R cs 14 d post 19 lo (.inl v :: .inl x :: .inr (11, i) :: st) f = (i < 1 ∧ en_inr x 40 = true ∧ en_R cs 14 d post 20 lo st (en_up f.1 11 i x.toNatClampNeg v, f.2)) := ru_iast (show en_cd 14 19 = some (.iastore, 1, 0, 0) by decide +kernel) (by decide +kernel) (by decide +kernel) (by decide +kernel) (by decide +kernel)
theorem r14_20 : en_R cs 14 d post 20 (some (.inr q) :: lo) st f = en_R cs 14 d post 21 (some (.inr q) :: lo) (.inr q :: st) f := ru_aload1 (show en_cd 14 20 = some (.aload_n 0, 1, 0, 0) by decide +kernel) rfl
theorem r14_21 : en_R cs 14 d post 21 (some (.inr q) :: lo) st f = en_R cs 14 d post 22 (some (.inr q) :: lo) (.inr q :: st) f := ru_aload1 (show en_cd 14 21 = some (.aload_n 0, 1, 0, 0) by decide +kernel) rfl
theorem r14_22 : en_R cs 14 d post 22 lo (.inr (10, i) :: st) f = (i < 1 ∧ en_R cs 14 d post 25 lo (.inl (f.1 10 i 1) :: st) f) := ru_getI (show en_cd 14 22 = some (.getfield 15, 3, 10, 1) by decide +kernel) (by decide +kernel) (by decide +kernel) (by decide +kernel)
theorem r14_25 : en_R cs 14 d post 25 lo st f = en_R cs 14 d post 26 lo (.inl 1 :: st) f := ru_iconst (show en_cd 14 25 = some (.iconst 1, 1, 0, 0) by decide +kernel) (by decide +kernel)
theorem r14_26 : en_R cs 14 d post 26 lo (.inl b :: .inl a :: st) f = en_R cs 14 d post 27 lo (.inl (a + b) :: st) f := ru_iadd (show en_cd 14 26 = some (.iadd, 1, 0, 0) by decide +kernel)
theorem r14_27 : en_R cs 14 d post 27 lo st f = en_R cs 14 d post 29 lo (.inl 40 :: st) f := ru_bipush (show en_cd 14 27 = some (.bipush 40, 2, 0, 0) by decide +kernel) (by decide +kernel)
theorem r14_29 : en_R cs 14 d post 29 lo (.inl b :: .inl a :: st) f = (¬ b = 0 ∧ en_R cs 14 d post 30 lo (.inl (a - a / b * b) :: st) f) := ru_irem (show en_cd 14 29 = some (.irem, 1, 0, 0) by decide +kernel)
theorem r14_30 : en_R cs 14 d post 30 lo (.inl x :: .inr (10, i) :: st) f = (i < 1 ∧ en_R cs 14 d post 33 lo st (en_up f.1 10 i 1 x, f.2)) := ru_putI (show en_cd 14 30 = some (.putfield 15, 3, 10, 1) by decide +kernel) (by decide +kernel) (by decide +kernel) (by decide +kernel)
theorem r14_33 : en_R cs 14 d post 33 (some (.inr q) :: lo) st f = en_R cs 14 d post 34 (some (.inr q) :: lo) (.inr q :: st) f := ru_aload1 (show en_cd 14 33 = some (.aload_n 0, 1, 0, 0) by decide +kernel) rfl
theorem r14_34 : en_R cs 14 d post 34 lo (u :: st) f = en_R cs 14 d post 35 lo (u :: u :: st) f := ru_dup (show en_cd 14 34 = some (.dup, 1, 0, 0) by decide +kernel)
theorem r14_35 : en_R cs 14 d post 35 lo (.inr (10, i) :: st) f = (i < 1 ∧ en_R cs 14 d post 38 lo (.inl (f.1 10 i 2) :: st) f) := ru_getI (show en_cd 14 35 = some (.getfield 19, 3, 10, 2) by decide +kernel) (by decide +kernel) (by decide +kernel) (by decide +kernel)
theorem r14_38 : en_R cs 14 d post 38 lo st f = en_R cs 14 d post 39 lo (.inl 1 :: st) f := ru_iconst (show en_cd 14 38 = some (.iconst 1, 1, 0, 0) by decide +kernel) (by decide +kernel)
theorem r14_39 : en_R cs 14 d post 39 lo (.inl b :: .inl a :: st) f = en_R cs 14 d post 40 lo (.inl (a + b) :: st) f := ru_iadd (show en_cd 14 39 = some (.iadd, 1, 0, 0) by decide +kernel)
theorem r14_40 : en_R cs 14 d post 40 lo (.inl x :: .inr (10, i) :: st) f = (i < 1 ∧ en_R cs 14 d post 43 lo st (en_up f.1 10 i 2 x, f.2)) := ru_putI (show en_cd 14 40 = some (.putfield 19, 3, 10, 2) by decide +kernel) (by decide +kernel) (by decide +kernel) (by decide +kernel)
theorem r14_43 : en_R cs 14 d post 43 (a0 :: some (.inl x) :: lo) st f = en_R cs 14 d post 44 (a0 :: some (.inl x) :: lo) (.inl x :: st) f := ru_load1 (show en_cd 14 43 = some (.iload_n 1, 1, 0, 0) by decide +kernel) rfl
theorem r14_44 : en_R cs 14 d post 44 lo (.inl a :: st) f = (if a = 0 then en_R cs 14 d post 47 lo st f else en_R cs 14 d post 51 lo st f) := ru_ifne (show en_cd 14 44 = some (.ifCond .ne 7, 3, 0, 0) by decide +kernel) (by decide +kernel)
theorem r14_47 : en_R cs 14 d post 47 lo st f = en_R cs 14 d post 48 lo (.inl 3 :: st) f := ru_iconst (show en_cd 14 47 = some (.iconst 3, 1, 0, 0) by decide +kernel) (by decide +kernel)
theorem r14_48 : en_R cs 14 d post 48 lo st f = en_R cs 14 d post 54 lo st f := ru_goto (show en_cd 14 48 = some (.goto 6, 3, 0, 0) by decide +kernel) (by decide +kernel)
theorem r14_51 : en_R cs 14 d post 51 (a0 :: some (.inl x) :: lo) st f = en_R cs 14 d post 52 (a0 :: some (.inl x) :: lo) (.inl x :: st) f := ru_load1 (show en_cd 14 51 = some (.iload_n 1, 1, 0, 0) by decide +kernel) rfl
theorem r14_52 : en_R cs 14 d post 52 lo st f = en_R cs 14 d post 53 lo (.inl 1 :: st) f := ru_iconst (show en_cd 14 52 = some (.iconst 1, 1, 0, 0) by decide +kernel) (by decide +kernel)
theorem r14_53 : en_R cs 14 d post 53 lo (.inl b :: .inl a :: st) f = en_R cs 14 d post 54 lo (.inl (a - b) :: st) f := ru_isub (show en_cd 14 53 = some (.isub, 1, 0, 0) by decide +kernel)
theorem r14_54 : en_R cs 14 d post 54 lo ([.inl x]) f = post (some (.inl x)) f := ru_ire1 (show en_cd 14 54 = some (.ireturn, 1, 0, 0) by decide +kernel) (by decide +kernel)
theorem r15_0 : en_R cs 15 d post 0 (some (.inr q) :: lo) st f = en_R cs 15 d post 1 (some (.inr q) :: lo) (.inr q :: st) f := ru_aload1 (show en_cd 15 0 = some (.aload_n 0, 1, 0, 0) by decide +kernel) rfl
theorem r15_1 : en_R cs 15 d post 1 lo (.inr (12, i) :: st) f = (i < 1 ∧ en_R cs 15 d post 4 lo (.inr (13, i) :: st) f) := ru_getR (show en_cd 15 1 = some (.getfield 9, 3, 12, 0) by decide +kernel) (by decide +kernel) (by decide +kernel)
theorem r15_4 : en_R cs 15 d post 4 (some (.inr q) :: lo) st f = en_R cs 15 d post 5 (some (.inr q) :: lo) (.inr q :: st) f := ru_aload1 (show en_cd 15 4 = some (.aload_n 0, 1, 0, 0) by decide +kernel) rfl
theorem r15_5 : en_R cs 15 d post 5 lo (.inr (12, i) :: st) f = (i < 1 ∧ en_R cs 15 d post 8 lo (.inl (f.1 12 i 1) :: st) f) := ru_getI (show en_cd 15 5 = some (.getfield 15, 3, 12, 1) by decide +kernel) (by decide +kernel) (by decide +kernel) (by decide +kernel)
theorem r15_8 : en_R cs 15 d post 8 (a0 :: some (.inl x) :: lo) st f = en_R cs 15 d post 9 (a0 :: some (.inl x) :: lo) (.inl x :: st) f := ru_load1 (show en_cd 15 8 = some (.iload_n 1, 1, 0, 0) by decide +kernel) rfl
theorem r15_9 : en_R cs 15 d post 9 lo (.inl v :: .inl x :: .inr (13, i) :: st) f = (i < 1 ∧ en_inr x 8 = true ∧ en_R cs 15 d post 10 lo st (en_up f.1 13 i x.toNatClampNeg v, f.2)) := ru_iast (show en_cd 15 9 = some (.iastore, 1, 0, 0) by decide +kernel) (by decide +kernel) (by decide +kernel) (by decide +kernel) (by decide +kernel)
theorem r15_10 : en_R cs 15 d post 10 (some (.inr q) :: lo) st f = en_R cs 15 d post 11 (some (.inr q) :: lo) (.inr q :: st) f := ru_aload1 (show en_cd 15 10 = some (.aload_n 0, 1, 0, 0) by decide +kernel) rfl
theorem r15_11 : en_R cs 15 d post 11 (some (.inr q) :: lo) st f = en_R cs 15 d post 12 (some (.inr q) :: lo) (.inr q :: st) f := ru_aload1 (show en_cd 15 11 = some (.aload_n 0, 1, 0, 0) by decide +kernel) rfl
theorem r15_12 : en_R cs 15 d post 12 lo (.inr (12, i) :: st) f = (i < 1 ∧ en_R cs 15 d post 15 lo (.inl (f.1 12 i 1) :: st) f) := ru_getI (show en_cd 15 12 = some (.getfield 15, 3, 12, 1) by decide +kernel) (by decide +kernel) (by decide +kernel) (by decide +kernel)
theorem r15_15 : en_R cs 15 d post 15 lo st f = en_R cs 15 d post 16 lo (.inl 1 :: st) f := ru_iconst (show en_cd 15 15 = some (.iconst 1, 1, 0, 0) by decide +kernel) (by decide +kernel)
theorem r15_16 : en_R cs 15 d post 16 lo (.inl b :: .inl a :: st) f = en_R cs 15 d post 17 lo (.inl (a + b) :: st) f := ru_iadd (show en_cd 15 16 = some (.iadd, 1, 0, 0) by decide +kernel)
theorem r15_17 : en_R cs 15 d post 17 lo st f = en_R cs 15 d post 19 lo (.inl 8 :: st) f := ru_bipush (show en_cd 15 17 = some (.bipush 8, 2, 0, 0) by decide +kernel) (by decide +kernel)
theorem r15_19 : en_R cs 15 d post 19 lo (.inl b :: .inl a :: st) f = (¬ b = 0 ∧ en_R cs 15 d post 20 lo (.inl (a - a / b * b) :: st) f) := ru_irem (show en_cd 15 19 = some (.irem, 1, 0, 0) by decide +kernel)
theorem r15_20 : en_R cs 15 d post 20 lo (.inl x :: .inr (12, i) :: st) f = (i < 1 ∧ en_R cs 15 d post 23 lo st (en_up f.1 12 i 1 x, f.2)) := ru_putI (show en_cd 15 20 = some (.putfield 15, 3, 12, 1) by decide +kernel) (by decide +kernel) (by decide +kernel) (by decide +kernel)
theorem r15_23 : en_R cs 15 d post 23 (some (.inr q) :: lo) st f = en_R cs 15 d post 24 (some (.inr q) :: lo) (.inr q :: st) f := ru_aload1 (show en_cd 15 23 = some (.aload_n 0, 1, 0, 0) by decide +kernel) rfl
theorem r15_24 : en_R cs 15 d post 24 lo (u :: st) f = en_R cs 15 d post 25 lo (u :: u :: st) f := ru_dup (show en_cd 15 24 = some (.dup, 1, 0, 0) by decide +kernel)
theorem r15_25 : en_R cs 15 d post 25 lo (.inr (12, i) :: st) f = (i < 1 ∧ en_R cs 15 d post 28 lo (.inl (f.1 12 i 2) :: st) f) := ru_getI (show en_cd 15 25 = some (.getfield 19, 3, 12, 2) by decide +kernel) (by decide +kernel) (by decide +kernel) (by decide +kernel)
theorem r15_28 : en_R cs 15 d post 28 lo st f = en_R cs 15 d post 29 lo (.inl 1 :: st) f := ru_iconst (show en_cd 15 28 = some (.iconst 1, 1, 0, 0) by decide +kernel) (by decide +kernel)
theorem r15_29 : en_R cs 15 d post 29 lo (.inl b :: .inl a :: st) f = en_R cs 15 d post 30 lo (.inl (a + b) :: st) f := ru_iadd (show en_cd 15 29 = some (.iadd, 1, 0, 0) by decide +kernel)
theorem r15_30 : en_R cs 15 d post 30 lo (.inl x :: .inr (12, i) :: st) f = (i < 1 ∧ en_R cs 15 d post 33 lo st (en_up f.1 12 i 2 x, f.2)) := ru_putI (show en_cd 15 30 = some (.putfield 19, 3, 12, 2) by decide +kernel) (by decide +kernel) (by decide +kernel) (by decide +kernel)
theorem r15_33 : en_R cs 15 d post 33 lo [] f = post none f := ru_vre (show en_cd 15 33 = some (.return_, 1, 0, 0) by decide +kernel) (by decide +kernel)
theorem r16_0 : en_R cs 16 d post 0 (a0 :: some (.inl x) :: lo) st f = en_R cs 16 d post 1 (a0 :: some (.inl x) :: lo) (.inl x :: st) f := ru_load1 (show en_cd 16 0 = some (.iload_n 1, 1, 0, 0) by decide +kernel) rfl
theorem r16_1 : en_R cs 16 d post 1 lo (.inl a :: st) f = (if a < 0 then en_R cs 16 d post 18 lo st f else en_R cs 16 d post 4 lo st f) := ru_iflt (show en_cd 16 1 = some (.ifCond .lt 17, 3, 0, 0) by decide +kernel) (by decide +kernel)
theorem r16_4 : en_R cs 16 d post 4 (a0 :: some (.inl x) :: lo) st f = en_R cs 16 d post 5 (a0 :: some (.inl x) :: lo) (.inl x :: st) f := ru_load1 (show en_cd 16 4 = some (.iload_n 1, 1, 0, 0) by decide +kernel) rfl
theorem r16_5 : en_R cs 16 d post 5 lo st f = en_R cs 16 d post 7 lo (.inl 8 :: st) f := ru_bipush (show en_cd 16 5 = some (.bipush 8, 2, 0, 0) by decide +kernel) (by decide +kernel)
theorem r16_7 : en_R cs 16 d post 7 lo (.inl b :: .inl a :: st) f = (if b ≤ a then en_R cs 16 d post 18 lo st f else en_R cs 16 d post 10 lo st f) := ru_icge (show en_cd 16 7 = some (.if_icmp .ge 11, 3, 0, 0) by decide +kernel) (by decide +kernel)
theorem r16_10 : en_R cs 16 d post 10 (a0 :: some (.inl x) :: lo) st f = en_R cs 16 d post 11 (a0 :: some (.inl x) :: lo) (.inl x :: st) f := ru_load1 (show en_cd 16 10 = some (.iload_n 1, 1, 0, 0) by decide +kernel) rfl
theorem r16_11 : en_R cs 16 d post 11 (some (.inr q) :: lo) st f = en_R cs 16 d post 12 (some (.inr q) :: lo) (.inr q :: st) f := ru_aload1 (show en_cd 16 11 = some (.aload_n 0, 1, 0, 0) by decide +kernel) rfl
theorem r16_12 : en_R cs 16 d post 12 lo (.inr (12, i) :: st) f = (i < 1 ∧ en_R cs 16 d post 15 lo (.inl (f.1 12 i 2) :: st) f) := ru_getI (show en_cd 16 12 = some (.getfield 19, 3, 12, 2) by decide +kernel) (by decide +kernel) (by decide +kernel) (by decide +kernel)
theorem r16_15 : en_R cs 16 d post 15 lo (.inl b :: .inl a :: st) f = (if a < b then en_R cs 16 d post 20 lo st f else en_R cs 16 d post 18 lo st f) := ru_iclt (show en_cd 16 15 = some (.if_icmp .lt 5, 3, 0, 0) by decide +kernel) (by decide +kernel)
theorem r16_18 : en_R cs 16 d post 18 lo st f = en_R cs 16 d post 19 lo (.inl (-1) :: st) f := ru_iconst (show en_cd 16 18 = some (.iconst (-1), 1, 0, 0) by decide +kernel) (by decide +kernel)
theorem r16_19 : en_R cs 16 d post 19 lo ([.inl x]) f = post (some (.inl x)) f := ru_ire1 (show en_cd 16 19 = some (.ireturn, 1, 0, 0) by decide +kernel) (by decide +kernel)
theorem r16_20 : en_R cs 16 d post 20 (some (.inr q) :: lo) st f = en_R cs 16 d post 21 (some (.inr q) :: lo) (.inr q :: st) f := ru_aload1 (show en_cd 16 20 = some (.aload_n 0, 1, 0, 0) by decide +kernel) rfl
theorem r16_21 : en_R cs 16 d post 21 lo (.inr (12, i) :: st) f = (i < 1 ∧ en_R cs 16 d post 24 lo (.inr (13, i) :: st) f) := ru_getR (show en_cd 16 21 = some (.getfield 9, 3, 12, 0) by decide +kernel) (by decide +kernel) (by decide +kernel)
theorem r16_24 : en_R cs 16 d post 24 (some (.inr q) :: lo) st f = en_R cs 16 d post 25 (some (.inr q) :: lo) (.inr q :: st) f := ru_aload1 (show en_cd 16 24 = some (.aload_n 0, 1, 0, 0) by decide +kernel) rfl
theorem r16_25 : en_R cs 16 d post 25 lo (.inr (12, i) :: st) f = (i < 1 ∧ en_R cs 16 d post 28 lo (.inl (f.1 12 i 1) :: st) f) := ru_getI (show en_cd 16 25 = some (.getfield 15, 3, 12, 1) by decide +kernel) (by decide +kernel) (by decide +kernel) (by decide +kernel)
theorem r16_28 : en_R cs 16 d post 28 lo st f = en_R cs 16 d post 30 lo (.inl 8 :: st) f := ru_bipush (show en_cd 16 28 = some (.bipush 8, 2, 0, 0) by decide +kernel) (by decide +kernel)
theorem r16_30 : en_R cs 16 d post 30 lo (.inl b :: .inl a :: st) f = en_R cs 16 d post 31 lo (.inl (a + b) :: st) f := ru_iadd (show en_cd 16 30 = some (.iadd, 1, 0, 0) by decide +kernel)
theorem r16_31 : en_R cs 16 d post 31 lo st f = en_R cs 16 d post 32 lo (.inl 1 :: st) f := ru_iconst (show en_cd 16 31 = some (.iconst 1, 1, 0, 0) by decide +kernel) (by decide +kernel)
theorem r16_32 : en_R cs 16 d post 32 lo (.inl b :: .inl a :: st) f = en_R cs 16 d post 33 lo (.inl (a - b) :: st) f := ru_isub (show en_cd 16 32 = some (.isub, 1, 0, 0) by decide +kernel)
theorem r16_33 : en_R cs 16 d post 33 (a0 :: some (.inl x) :: lo) st f = en_R cs 16 d post 34 (a0 :: some (.inl x) :: lo) (.inl x :: st) f := ru_load1 (show en_cd 16 33 = some (.iload_n 1, 1, 0, 0) by decide +kernel) rfl
theorem r16_34 : en_R cs 16 d post 34 lo (.inl b :: .inl a :: st) f = en_R cs 16 d post 35 lo (.inl (a - b) :: st) f := ru_isub (show en_cd 16 34 = some (.isub, 1, 0, 0) by decide +kernel)
theorem r16_35 : en_R cs 16 d post 35 lo st f = en_R cs 16 d post 37 lo (.inl 8 :: st) f := ru_bipush (show en_cd 16 35 = some (.bipush 8, 2, 0, 0) by decide +kernel) (by decide +kernel)
theorem r16_37 : en_R cs 16 d post 37 lo (.inl b :: .inl a :: st) f = (¬ b = 0 ∧ en_R cs 16 d post 38 lo (.inl (a - a / b * b) :: st) f) := ru_irem (show en_cd 16 37 = some (.irem, 1, 0, 0) by decide +kernel)
theorem r16_38 : en_R cs 16 d post 38 lo (.inl x :: .inr (13, i) :: st) f = (i < 1 ∧ en_inr x 8 = true ∧ en_R cs 16 d post 39 lo (.inl (f.1 13 i x.toNatClampNeg) :: st) f) := ru_iald (show en_cd 16 38 = some (.iaload, 1, 0, 0) by decide +kernel) (by decide +kernel) (by decide +kernel) (by decide +kernel) (by decide +kernel) (by decide +kernel)
theorem r16_39 : en_R cs 16 d post 39 lo ([.inl x]) f = post (some (.inl x)) f := ru_ire1 (show en_cd 16 39 = some (.ireturn, 1, 0, 0) by decide +kernel) (by decide +kernel)
theorem r17_0 : en_R cs 17 d post 0 (some (.inr q) :: lo) st f = en_R cs 17 d post 1 (some (.inr q) :: lo) (.inr q :: st) f := ru_aload1 (show en_cd 17 0 = some (.aload_n 0, 1, 0, 0) by decide +kernel) rfl
theorem r17_1 : en_R cs 17 d post 1 (a0 :: some (.inl x) :: lo) st f = en_R cs 17 d post 2 (a0 :: some (.inl x) :: lo) (.inl x :: st) f := ru_load1 (show en_cd 17 1 = some (.iload_n 1, 1, 0, 0) by decide +kernel) rfl
theorem r17_2 : en_R cs 17 d post 2 lo (.inl x :: .inr (4, i) :: st) f = (i < 6 ∧ en_R cs 17 d post 5 lo st (en_up f.1 4 i 3 x, f.2)) := ru_putI (show en_cd 17 2 = some (.putfield 22, 3, 4, 3) by decide +kernel) (by decide +kernel) (by decide +kernel) (by decide +kernel)
theorem r17_5 : en_R cs 17 d post 5 (some (.inr q) :: lo) st f = en_R cs 17 d post 6 (some (.inr q) :: lo) (.inr q :: st) f := ru_aload1 (show en_cd 17 5 = some (.aload_n 0, 1, 0, 0) by decide +kernel) rfl
theorem r17_6 : en_R cs 17 d post 6 (a0 :: some (.inl x) :: lo) st f = en_R cs 17 d post 7 (a0 :: some (.inl x) :: lo) (.inl x :: st) f := ru_load1 (show en_cd 17 6 = some (.iload_n 1, 1, 0, 0) by decide +kernel) rfl
theorem r17_7 : en_R cs 17 d post 7 lo st f = en_R cs 17 d post 8 lo (.inl 2 :: st) f := ru_iconst (show en_cd 17 7 = some (.iconst 2, 1, 0, 0) by decide +kernel) (by decide +kernel)
theorem r17_8 : en_R cs 17 d post 8 lo (.inl b :: .inl a :: st) f = (if a = b then en_R cs 17 d post 11 lo st f else en_R cs 17 d post 15 lo st f) := ru_icne (show en_cd 17 8 = some (.if_icmp .ne 7, 3, 0, 0) by decide +kernel) (by decide +kernel)
theorem r17_11 : en_R cs 17 d post 11 (a0 :: a1 :: some (.inl x) :: lo) st f = en_R cs 17 d post 12 (a0 :: a1 :: some (.inl x) :: lo) (.inl x :: st) f := ru_load1 (show en_cd 17 11 = some (.iload_n 2, 1, 0, 0) by decide +kernel) rfl
theorem r17_12 : en_R cs 17 d post 12 lo st f = en_R cs 17 d post 16 lo st f := ru_goto (show en_cd 17 12 = some (.goto 4, 3, 0, 0) by decide +kernel) (by decide +kernel)
theorem r17_15 : en_R cs 17 d post 15 lo st f = en_R cs 17 d post 16 lo (.inl 0 :: st) f := ru_iconst (show en_cd 17 15 = some (.iconst 0, 1, 0, 0) by decide +kernel) (by decide +kernel)
theorem r17_16 : en_R cs 17 d post 16 lo (.inl x :: .inr (4, i) :: st) f = (i < 6 ∧ en_R cs 17 d post 19 lo st (en_up f.1 4 i 4 x, f.2)) := ru_putI (show en_cd 17 16 = some (.putfield 26, 3, 4, 4) by decide +kernel) (by decide +kernel) (by decide +kernel) (by decide +kernel)
theorem r17_19 : en_R cs 17 d post 19 (some (.inr q) :: lo) st f = en_R cs 17 d post 20 (some (.inr q) :: lo) (.inr q :: st) f := ru_aload1 (show en_cd 17 19 = some (.aload_n 0, 1, 0, 0) by decide +kernel) rfl
theorem r17_20 : en_R cs 17 d post 20 (a0 :: some (.inl x) :: lo) st f = en_R cs 17 d post 21 (a0 :: some (.inl x) :: lo) (.inl x :: st) f := ru_load1 (show en_cd 17 20 = some (.iload_n 1, 1, 0, 0) by decide +kernel) rfl
theorem r17_21 : en_R cs 17 d post 21 lo st f = en_R cs 17 d post 22 lo (.inl 2 :: st) f := ru_iconst (show en_cd 17 21 = some (.iconst 2, 1, 0, 0) by decide +kernel) (by decide +kernel)
theorem r17_22 : en_R cs 17 d post 22 lo (.inl b :: .inl a :: st) f = (if a = b then en_R cs 17 d post 25 lo st f else en_R cs 17 d post 29 lo st f) := ru_icne (show en_cd 17 22 = some (.if_icmp .ne 7, 3, 0, 0) by decide +kernel) (by decide +kernel)
theorem r17_25 : en_R cs 17 d post 25 (a0 :: a1 :: a2 :: some (.inl x) :: lo) st f = en_R cs 17 d post 26 (a0 :: a1 :: a2 :: some (.inl x) :: lo) (.inl x :: st) f := ru_load1 (show en_cd 17 25 = some (.iload_n 3, 1, 0, 0) by decide +kernel) rfl
theorem r17_26 : en_R cs 17 d post 26 lo st f = en_R cs 17 d post 39 lo st f := ru_goto (show en_cd 17 26 = some (.goto 13, 3, 0, 0) by decide +kernel) (by decide +kernel)
theorem r17_29 : en_R cs 17 d post 29 (a0 :: some (.inl x) :: lo) st f = en_R cs 17 d post 30 (a0 :: some (.inl x) :: lo) (.inl x :: st) f := ru_load1 (show en_cd 17 29 = some (.iload_n 1, 1, 0, 0) by decide +kernel) rfl
theorem r17_30 : en_R cs 17 d post 30 lo st f = en_R cs 17 d post 31 lo (.inl 3 :: st) f := ru_iconst (show en_cd 17 30 = some (.iconst 3, 1, 0, 0) by decide +kernel) (by decide +kernel)
theorem r17_31 : en_R cs 17 d post 31 lo (.inl b :: .inl a :: st) f = (if a = b then en_R cs 17 d post 34 lo st f else en_R cs 17 d post 38 lo st f) := ru_icne (show en_cd 17 31 = some (.if_icmp .ne 7, 3, 0, 0) by decide +kernel) (by decide +kernel)
theorem r17_34 : en_R cs 17 d post 34 lo st f = en_R cs 17 d post 35 lo (.inl 4 :: st) f := ru_iconst (show en_cd 17 34 = some (.iconst 4, 1, 0, 0) by decide +kernel) (by decide +kernel)
theorem r17_35 : en_R cs 17 d post 35 lo st f = en_R cs 17 d post 39 lo st f := ru_goto (show en_cd 17 35 = some (.goto 4, 3, 0, 0) by decide +kernel) (by decide +kernel)
theorem r17_38 : en_R cs 17 d post 38 lo st f = en_R cs 17 d post 39 lo (.inl 0 :: st) f := ru_iconst (show en_cd 17 38 = some (.iconst 0, 1, 0, 0) by decide +kernel) (by decide +kernel)
theorem r17_39 : en_R cs 17 d post 39 lo (.inl x :: .inr (4, i) :: st) f = (i < 6 ∧ en_R cs 17 d post 42 lo st (en_up f.1 4 i 5 x, f.2)) := ru_putI (show en_cd 17 39 = some (.putfield 29, 3, 4, 5) by decide +kernel) (by decide +kernel) (by decide +kernel) (by decide +kernel)
theorem r17_42 : en_R cs 17 d post 42 (some (.inr q) :: lo) st f = en_R cs 17 d post 43 (some (.inr q) :: lo) (.inr q :: st) f := ru_aload1 (show en_cd 17 42 = some (.aload_n 0, 1, 0, 0) by decide +kernel) rfl
theorem r17_43 : en_R cs 17 d post 43 lo st f = en_R cs 17 d post 44 lo (.inl 0 :: st) f := ru_iconst (show en_cd 17 43 = some (.iconst 0, 1, 0, 0) by decide +kernel) (by decide +kernel)
theorem r17_44 : en_R cs 17 d post 44 lo (.inl x :: .inr (4, i) :: st) f = (i < 6 ∧ en_R cs 17 d post 47 lo st (en_up f.1 4 i 2 x, f.2)) := ru_putI (show en_cd 17 44 = some (.putfield 32, 3, 4, 2) by decide +kernel) (by decide +kernel) (by decide +kernel) (by decide +kernel)
theorem r17_47 : en_R cs 17 d post 47 (some (.inr q) :: lo) st f = en_R cs 17 d post 48 (some (.inr q) :: lo) (.inr q :: st) f := ru_aload1 (show en_cd 17 47 = some (.aload_n 0, 1, 0, 0) by decide +kernel) rfl
theorem r17_48 : en_R cs 17 d post 48 lo (.inr (4, i) :: st) f = (i < 6 ∧ en_R cs 17 d post 51 lo (.inr (5, i) :: st) f) := ru_getR (show en_cd 17 48 = some (.getfield 12, 3, 4, 0) by decide +kernel) (by decide +kernel) (by decide +kernel)
theorem r17_51 : en_R cs 17 d post 51 (a0 :: some (.inl x) :: lo) st f = en_R cs 17 d post 52 (a0 :: some (.inl x) :: lo) (.inl x :: st) f := ru_load1 (show en_cd 17 51 = some (.iload_n 1, 1, 0, 0) by decide +kernel) rfl
theorem r17_52 : en_R cs 17 d post 52 lo st f = en_R cs 17 d post 53 lo (.inl 1 :: st) f := ru_iconst (show en_cd 17 52 = some (.iconst 1, 1, 0, 0) by decide +kernel) (by decide +kernel)
theorem r17_53 : en_R cs 17 d post 53 lo (.inl b :: .inl a :: st) f = (if a = b then en_R cs 17 d post 56 lo st f else en_R cs 17 d post 60 lo st f) := ru_icne (show en_cd 17 53 = some (.if_icmp .ne 7, 3, 0, 0) by decide +kernel) (by decide +kernel)
theorem r17_56 : en_R cs 17 d post 56 (a0 :: a1 :: some (.inl x) :: lo) st f = en_R cs 17 d post 57 (a0 :: a1 :: some (.inl x) :: lo) (.inl x :: st) f := ru_load1 (show en_cd 17 56 = some (.iload_n 2, 1, 0, 0) by decide +kernel) rfl
theorem r17_57 : en_R cs 17 d post 57 lo st f = en_R cs 17 d post 61 lo st f := ru_goto (show en_cd 17 57 = some (.goto 4, 3, 0, 0) by decide +kernel) (by decide +kernel)
theorem r17_60 : en_R cs 17 d post 60 lo st f = en_R cs 17 d post 61 lo (.inl 0 :: st) f := ru_iconst (show en_cd 17 60 = some (.iconst 0, 1, 0, 0) by decide +kernel) (by decide +kernel)
theorem r17_61 : en_R cs 17 d post 61 (a0 :: some (.inl x) :: lo) st f = en_R cs 17 d post 62 (a0 :: some (.inl x) :: lo) (.inl x :: st) f := ru_load1 (show en_cd 17 61 = some (.iload_n 1, 1, 0, 0) by decide +kernel) rfl
theorem r17_62 : en_R cs 17 d post 62 lo st f = en_R cs 17 d post 63 lo (.inl 1 :: st) f := ru_iconst (show en_cd 17 62 = some (.iconst 1, 1, 0, 0) by decide +kernel) (by decide +kernel)
theorem r17_63 : en_R cs 17 d post 63 lo (.inl b :: .inl a :: st) f = (if a = b then en_R cs 17 d post 66 lo st f else en_R cs 17 d post 70 lo st f) := ru_icne (show en_cd 17 63 = some (.if_icmp .ne 7, 3, 0, 0) by decide +kernel) (by decide +kernel)
theorem r17_66 : en_R cs 17 d post 66 (a0 :: a1 :: a2 :: some (.inl x) :: lo) st f = en_R cs 17 d post 67 (a0 :: a1 :: a2 :: some (.inl x) :: lo) (.inl x :: st) f := ru_load1 (show en_cd 17 66 = some (.iload_n 3, 1, 0, 0) by decide +kernel) rfl
theorem r17_67 : en_R cs 17 d post 67 lo st f = en_R cs 17 d post 71 lo st f := ru_goto (show en_cd 17 67 = some (.goto 4, 3, 0, 0) by decide +kernel) (by decide +kernel)
theorem r17_70 : en_R cs 17 d post 70 lo st f = en_R cs 17 d post 71 lo (.inl 0 :: st) f := ru_iconst (show en_cd 17 70 = some (.iconst 0, 1, 0, 0) by decide +kernel) (by decide +kernel)
theorem r17_71 : en_R cs 17 d post 71 lo (u2 :: u1 :: .inr (5, i) :: st) f = (st.length ≤ 8 ∧ i < 6 ∧ en_Ev d 0 [.inr (5, i), u1, u2] f (fun r g => en_R cs 17 d post 74 lo (r.toList ++ st) g)) := ru_iv (al := [u1, u2]) (show en_cd 17 71 = some (.invokevirtual 35, 3, 0, 0) by decide +kernel) (by decide +kernel) (show en_np 0 = 2 by decide +kernel) (by decide +kernel) rfl
theorem r17_74 : en_R cs 17 d post 74 (some (.inr q) :: lo) st f = en_R cs 17 d post 75 (some (.inr q) :: lo) (.inr q :: st) f := ru_aload1 (show en_cd 17 74 = some (.aload_n 0, 1, 0, 0) by decide +kernel) rfl
theorem r17_75 : en_R cs 17 d post 75 lo (.inr (4, i) :: st) f = (st.length ≤ 8 ∧ i < 6 ∧ en_Ev d 18 [.inr (4, i)] f (fun r g => en_R cs 17 d post 78 lo (r.toList ++ st) g)) := ru_iv (al := []) (show en_cd 17 75 = some (.invokevirtual 39, 3, 18, 0) by decide +kernel) (by decide +kernel) (show en_np 18 = 0 by decide +kernel) (by decide +kernel) rfl
theorem r17_78 : en_R cs 17 d post 78 lo [] f = post none f := ru_vre (show en_cd 17 78 = some (.return_, 1, 0, 0) by decide +kernel) (by decide +kernel)
theorem r18_0 : en_R cs 18 d post 0 (some (.inr q) :: lo) st f = en_R cs 18 d post 1 (some (.inr q) :: lo) (.inr q :: st) f := ru_aload1 (show en_cd 18 0 = some (.aload_n 0, 1, 0, 0) by decide +kernel) rfl
theorem r18_1 : en_R cs 18 d post 1 lo st f = en_R cs 18 d post 2 lo (.inl 0 :: st) f := ru_iconst (show en_cd 18 1 = some (.iconst 0, 1, 0, 0) by decide +kernel) (by decide +kernel)
theorem r18_2 : en_R cs 18 d post 2 lo (.inl x :: .inr (4, i) :: st) f = (i < 6 ∧ en_R cs 18 d post 5 lo st (en_up f.1 4 i 6 x, f.2)) := ru_putI (show en_cd 18 2 = some (.putfield 42, 3, 4, 6) by decide +kernel) (by decide +kernel) (by decide +kernel) (by decide +kernel)
theorem r18_5 : en_R cs 18 d post 5 (some (.inr q) :: lo) st f = en_R cs 18 d post 6 (some (.inr q) :: lo) (.inr q :: st) f := ru_aload1 (show en_cd 18 5 = some (.aload_n 0, 1, 0, 0) by decide +kernel) rfl
theorem r18_6 : en_R cs 18 d post 6 lo st f = en_R cs 18 d post 7 lo (.inl 0 :: st) f := ru_iconst (show en_cd 18 6 = some (.iconst 0, 1, 0, 0) by decide +kernel) (by decide +kernel)
theorem r18_7 : en_R cs 18 d post 7 lo (.inl x :: .inr (4, i) :: st) f = (i < 6 ∧ en_R cs 18 d post 10 lo st (en_up f.1 4 i 7 x, f.2)) := ru_putI (show en_cd 18 7 = some (.putfield 45, 3, 4, 7) by decide +kernel) (by decide +kernel) (by decide +kernel) (by decide +kernel)
theorem r18_10 : en_R cs 18 d post 10 (some (.inr q) :: lo) st f = en_R cs 18 d post 11 (some (.inr q) :: lo) (.inr q :: st) f := ru_aload1 (show en_cd 18 10 = some (.aload_n 0, 1, 0, 0) by decide +kernel) rfl
theorem r18_11 : en_R cs 18 d post 11 lo st f = en_R cs 18 d post 12 lo (.inl 0 :: st) f := ru_iconst (show en_cd 18 11 = some (.iconst 0, 1, 0, 0) by decide +kernel) (by decide +kernel)
theorem r18_12 : en_R cs 18 d post 12 lo (.inl x :: .inr (4, i) :: st) f = (i < 6 ∧ en_isz x = true ∧ en_R cs 18 d post 15 lo st (en_up f.1 4 i 8 x, f.2)) := ru_putZ (show en_cd 18 12 = some (.putfield 48, 3, 4, 8) by decide +kernel) (by decide +kernel) (by decide +kernel) (by decide +kernel)
theorem r18_15 : en_R cs 18 d post 15 (some (.inr q) :: lo) st f = en_R cs 18 d post 16 (some (.inr q) :: lo) (.inr q :: st) f := ru_aload1 (show en_cd 18 15 = some (.aload_n 0, 1, 0, 0) by decide +kernel) rfl
theorem r18_16 : en_R cs 18 d post 16 lo st f = en_R cs 18 d post 17 lo (.inl 0 :: st) f := ru_iconst (show en_cd 18 16 = some (.iconst 0, 1, 0, 0) by decide +kernel) (by decide +kernel)
theorem r18_17 : en_R cs 18 d post 17 lo (.inl x :: .inr (4, i) :: st) f = (i < 6 ∧ en_R cs 18 d post 20 lo st (en_up f.1 4 i 9 x, f.2)) := ru_putI (show en_cd 18 17 = some (.putfield 52, 3, 4, 9) by decide +kernel) (by decide +kernel) (by decide +kernel) (by decide +kernel)
theorem r18_20 : en_R cs 18 d post 20 (some (.inr q) :: lo) st f = en_R cs 18 d post 21 (some (.inr q) :: lo) (.inr q :: st) f := ru_aload1 (show en_cd 18 20 = some (.aload_n 0, 1, 0, 0) by decide +kernel) rfl
theorem r18_21 : en_R cs 18 d post 21 lo st f = en_R cs 18 d post 22 lo (.inl 0 :: st) f := ru_iconst (show en_cd 18 21 = some (.iconst 0, 1, 0, 0) by decide +kernel) (by decide +kernel)
theorem r18_22 : en_R cs 18 d post 22 lo (.inl x :: .inr (4, i) :: st) f = (i < 6 ∧ en_R cs 18 d post 25 lo st (en_up f.1 4 i 10 x, f.2)) := ru_putI (show en_cd 18 22 = some (.putfield 55, 3, 4, 10) by decide +kernel) (by decide +kernel) (by decide +kernel) (by decide +kernel)
theorem r18_25 : en_R cs 18 d post 25 (some (.inr q) :: lo) st f = en_R cs 18 d post 26 (some (.inr q) :: lo) (.inr q :: st) f := ru_aload1 (show en_cd 18 25 = some (.aload_n 0, 1, 0, 0) by decide +kernel) rfl
theorem r18_26 : en_R cs 18 d post 26 lo st f = en_R cs 18 d post 27 lo (.inl 0 :: st) f := ru_iconst (show en_cd 18 26 = some (.iconst 0, 1, 0, 0) by decide +kernel) (by decide +kernel)
theorem r18_27 : en_R cs 18 d post 27 lo (.inl x :: .inr (4, i) :: st) f = (i < 6 ∧ en_isz x = true ∧ en_R cs 18 d post 30 lo st (en_up f.1 4 i 11 x, f.2)) := ru_putZ (show en_cd 18 27 = some (.putfield 58, 3, 4, 11) by decide +kernel) (by decide +kernel) (by decide +kernel) (by decide +kernel)
theorem r18_30 : en_R cs 18 d post 30 (some (.inr q) :: lo) st f = en_R cs 18 d post 31 (some (.inr q) :: lo) (.inr q :: st) f := ru_aload1 (show en_cd 18 30 = some (.aload_n 0, 1, 0, 0) by decide +kernel) rfl
theorem r18_31 : en_R cs 18 d post 31 lo (.inr (4, i) :: st) f = (i < 6 ∧ en_R cs 18 d post 34 lo (.inr (5, i) :: st) f) := ru_getR (show en_cd 18 31 = some (.getfield 12, 3, 4, 0) by decide +kernel) (by decide +kernel) (by decide +kernel)
theorem r18_34 : en_R cs 18 d post 34 lo (.inr (5, i) :: st) f = (st.length ≤ 8 ∧ i < 6 ∧ en_Ev d 1 [.inr (5, i)] f (fun r g => en_R cs 18 d post 37 lo (r.toList ++ st) g)) := ru_iv (al := []) (show en_cd 18 34 = some (.invokevirtual 61, 3, 1, 0) by decide +kernel) (by decide +kernel) (show en_np 1 = 0 by decide +kernel) (by decide +kernel) rfl
theorem r18_37 : en_R cs 18 d post 37 lo [] f = post none f := ru_vre (show en_cd 18 37 = some (.return_, 1, 0, 0) by decide +kernel) (by decide +kernel)
theorem r19_0 : en_R cs 19 d post 0 (a0 :: some (.inl x) :: lo) st f = en_R cs 19 d post 1 (a0 :: some (.inl x) :: lo) (.inl x :: st) f := ru_load1 (show en_cd 19 0 = some (.iload_n 1, 1, 0, 0) by decide +kernel) rfl
theorem r19_1 : en_R cs 19 d post 1 (some (.inr q) :: lo) st f = en_R cs 19 d post 2 (some (.inr q) :: lo) (.inr q :: st) f := ru_aload1 (show en_cd 19 1 = some (.aload_n 0, 1, 0, 0) by decide +kernel) rfl
theorem r19_2 : en_R cs 19 d post 2 lo (.inr (4, i) :: st) f = (i < 6 ∧ en_R cs 19 d post 5 lo (.inl (f.1 4 i 6) :: st) f) := ru_getI (show en_cd 19 2 = some (.getfield 42, 3, 4, 6) by decide +kernel) (by decide +kernel) (by decide +kernel) (by decide +kernel)
theorem r19_5 : en_R cs 19 d post 5 lo (.inl b :: .inl a :: st) f = (if a = b then en_R cs 19 d post 16 lo st f else en_R cs 19 d post 8 lo st f) := ru_iceq (show en_cd 19 5 = some (.if_icmp .eq 11, 3, 0, 0) by decide +kernel) (by decide +kernel)
theorem r19_8 : en_R cs 19 d post 8 (a0 :: some (.inl x) :: lo) st f = en_R cs 19 d post 9 (a0 :: some (.inl x) :: lo) (.inl x :: st) f := ru_load1 (show en_cd 19 8 = some (.iload_n 1, 1, 0, 0) by decide +kernel) rfl
theorem r19_9 : en_R cs 19 d post 9 (some (.inr q) :: lo) st f = en_R cs 19 d post 10 (some (.inr q) :: lo) (.inr q :: st) f := ru_aload1 (show en_cd 19 9 = some (.aload_n 0, 1, 0, 0) by decide +kernel) rfl
theorem r19_10 : en_R cs 19 d post 10 lo (.inr (4, i) :: st) f = (i < 6 ∧ en_R cs 19 d post 13 lo (.inl (f.1 4 i 7) :: st) f) := ru_getI (show en_cd 19 10 = some (.getfield 45, 3, 4, 7) by decide +kernel) (by decide +kernel) (by decide +kernel) (by decide +kernel)
theorem r19_13 : en_R cs 19 d post 13 lo (.inl b :: .inl a :: st) f = (if a = b then en_R cs 19 d post 16 lo st f else en_R cs 19 d post 20 lo st f) := ru_icne (show en_cd 19 13 = some (.if_icmp .ne 7, 3, 0, 0) by decide +kernel) (by decide +kernel)
theorem r19_16 : en_R cs 19 d post 16 lo st f = en_R cs 19 d post 17 lo (.inl 1 :: st) f := ru_iconst (show en_cd 19 16 = some (.iconst 1, 1, 0, 0) by decide +kernel) (by decide +kernel)
theorem r19_17 : en_R cs 19 d post 17 lo st f = en_R cs 19 d post 21 lo st f := ru_goto (show en_cd 19 17 = some (.goto 4, 3, 0, 0) by decide +kernel) (by decide +kernel)
theorem r19_20 : en_R cs 19 d post 20 lo st f = en_R cs 19 d post 21 lo (.inl 0 :: st) f := ru_iconst (show en_cd 19 20 = some (.iconst 0, 1, 0, 0) by decide +kernel) (by decide +kernel)
theorem r19_21 : en_R cs 19 d post 21 lo ([.inl x]) f = (en_isz x = true ∧ post (some (.inl x)) f) := ru_ire2 (show en_cd 19 21 = some (.ireturn, 1, 0, 0) by decide +kernel) (by decide +kernel)
theorem r20_0 : en_R cs 20 d post 0 (some (.inr q) :: lo) st f = en_R cs 20 d post 1 (some (.inr q) :: lo) (.inr q :: st) f := ru_aload1 (show en_cd 20 0 = some (.aload_n 0, 1, 0, 0) by decide +kernel) rfl
theorem r20_1 : en_R cs 20 d post 1 lo (.inr (4, i) :: st) f = (i < 6 ∧ en_R cs 20 d post 4 lo (.inl (f.1 4 i 3) :: st) f) := ru_getI (show en_cd 20 1 = some (.getfield 22, 3, 4, 3) by decide +kernel) (by decide +kernel) (by decide +kernel) (by decide +kernel)
theorem r20_4 : en_R cs 20 d post 4 lo st f = en_R cs 20 d post 5 lo (.inl 2 :: st) f := ru_iconst (show en_cd 20 4 = some (.iconst 2, 1, 0, 0) by decide +kernel) (by decide +kernel)
theorem r20_5 : en_R cs 20 d post 5 lo (.inl b :: .inl a :: st) f = (if a = b then en_R cs 20 d post 8 lo st f else en_R cs 20 d post 16 lo st f) := ru_icne (show en_cd 20 5 = some (.if_icmp .ne 11, 3, 0, 0) by decide +kernel) (by decide +kernel)
theorem r20_8 : en_R cs 20 d post 8 (some (.inr q) :: lo) st f = en_R cs 20 d post 9 (some (.inr q) :: lo) (.inr q :: st) f := ru_aload1 (show en_cd 20 8 = some (.aload_n 0, 1, 0, 0) by decide +kernel) rfl
theorem r20_9 : en_R cs 20 d post 9 lo (.inr (4, i) :: st) f = (i < 6 ∧ en_R cs 20 d post 12 lo (.inl (f.1 4 i 2) :: st) f) := ru_getI (show en_cd 20 9 = some (.getfield 32, 3, 4, 2) by decide +kernel) (by decide +kernel) (by decide +kernel) (by decide +kernel)
theorem r20_12 : en_R cs 20 d post 12 lo st f = en_R cs 20 d post 13 lo (.inl 4 :: st) f := ru_iconst (show en_cd 20 12 = some (.iconst 4, 1, 0, 0) by decide +kernel) (by decide +kernel)
theorem r20_13 : en_R cs 20 d post 13 lo (.inl b :: .inl a :: st) f = (if a < b then en_R cs 20 d post 18 lo st f else en_R cs 20 d post 16 lo st f) := ru_iclt (show en_cd 20 13 = some (.if_icmp .lt 5, 3, 0, 0) by decide +kernel) (by decide +kernel)
theorem r20_16 : en_R cs 20 d post 16 lo st f = en_R cs 20 d post 17 lo (.inl 0 :: st) f := ru_iconst (show en_cd 20 16 = some (.iconst 0, 1, 0, 0) by decide +kernel) (by decide +kernel)
theorem r20_17 : en_R cs 20 d post 17 lo ([.inl x]) f = (en_isz x = true ∧ post (some (.inl x)) f) := ru_ire2 (show en_cd 20 17 = some (.ireturn, 1, 0, 0) by decide +kernel) (by decide +kernel)
theorem r20_18 : en_R cs 20 d post 18 (some (.inr q) :: lo) st f = en_R cs 20 d post 19 (some (.inr q) :: lo) (.inr q :: st) f := ru_aload1 (show en_cd 20 18 = some (.aload_n 0, 1, 0, 0) by decide +kernel) rfl
theorem r20_19 : en_R cs 20 d post 19 lo (.inr (4, i) :: st) f = (i < 6 ∧ en_R cs 20 d post 22 lo (.inr (7, i) :: st) f) := ru_getR (show en_cd 20 19 = some (.getfield 18, 3, 4, 1) by decide +kernel) (by decide +kernel) (by decide +kernel)
theorem r20_22 : en_R cs 20 d post 22 (some (.inr q) :: lo) st f = en_R cs 20 d post 23 (some (.inr q) :: lo) (.inr q :: st) f := ru_aload1 (show en_cd 20 22 = some (.aload_n 0, 1, 0, 0) by decide +kernel) rfl
theorem r20_23 : en_R cs 20 d post 23 lo (.inr (4, i) :: st) f = (i < 6 ∧ en_R cs 20 d post 26 lo (.inl (f.1 4 i 2) :: st) f) := ru_getI (show en_cd 20 23 = some (.getfield 32, 3, 4, 2) by decide +kernel) (by decide +kernel) (by decide +kernel) (by decide +kernel)
theorem r20_26 : en_R cs 20 d post 26 (a0 :: some (.inl x) :: lo) st f = en_R cs 20 d post 27 (a0 :: some (.inl x) :: lo) (.inl x :: st) f := ru_load1 (show en_cd 20 26 = some (.iload_n 1, 1, 0, 0) by decide +kernel) rfl
theorem r20_27 : en_R cs 20 d post 27 lo (.inl v :: .inl x :: .inr (7, i) :: st) f = (i < 6 ∧ en_inr x 4 = true ∧ en_R cs 20 d post 28 lo st (en_up f.1 7 i x.toNatClampNeg v, f.2)) := ru_iast (show en_cd 20 27 = some (.iastore, 1, 0, 0) by decide +kernel) (by decide +kernel) (by decide +kernel) (by decide +kernel) (by decide +kernel)
theorem r20_28 : en_R cs 20 d post 28 (some (.inr q) :: lo) st f = en_R cs 20 d post 29 (some (.inr q) :: lo) (.inr q :: st) f := ru_aload1 (show en_cd 20 28 = some (.aload_n 0, 1, 0, 0) by decide +kernel) rfl
theorem r20_29 : en_R cs 20 d post 29 lo (u :: st) f = en_R cs 20 d post 30 lo (u :: u :: st) f := ru_dup (show en_cd 20 29 = some (.dup, 1, 0, 0) by decide +kernel)
theorem r20_30 : en_R cs 20 d post 30 lo (.inr (4, i) :: st) f = (i < 6 ∧ en_R cs 20 d post 33 lo (.inl (f.1 4 i 2) :: st) f) := ru_getI (show en_cd 20 30 = some (.getfield 32, 3, 4, 2) by decide +kernel) (by decide +kernel) (by decide +kernel) (by decide +kernel)
theorem r20_33 : en_R cs 20 d post 33 lo st f = en_R cs 20 d post 34 lo (.inl 1 :: st) f := ru_iconst (show en_cd 20 33 = some (.iconst 1, 1, 0, 0) by decide +kernel) (by decide +kernel)
theorem r20_34 : en_R cs 20 d post 34 lo (.inl b :: .inl a :: st) f = en_R cs 20 d post 35 lo (.inl (a + b) :: st) f := ru_iadd (show en_cd 20 34 = some (.iadd, 1, 0, 0) by decide +kernel)
theorem r20_35 : en_R cs 20 d post 35 lo (.inl x :: .inr (4, i) :: st) f = (i < 6 ∧ en_R cs 20 d post 38 lo st (en_up f.1 4 i 2 x, f.2)) := ru_putI (show en_cd 20 35 = some (.putfield 32, 3, 4, 2) by decide +kernel) (by decide +kernel) (by decide +kernel) (by decide +kernel)
theorem r20_38 : en_R cs 20 d post 38 lo st f = en_R cs 20 d post 39 lo (.inl 1 :: st) f := ru_iconst (show en_cd 20 38 = some (.iconst 1, 1, 0, 0) by decide +kernel) (by decide +kernel)
theorem r20_39 : en_R cs 20 d post 39 lo ([.inl x]) f = (en_isz x = true ∧ post (some (.inl x)) f) := ru_ire2 (show en_cd 20 39 = some (.ireturn, 1, 0, 0) by decide +kernel) (by decide +kernel)
theorem r21_0 : en_R cs 21 d post 0 (a0 :: some (.inl x) :: lo) st f = en_R cs 21 d post 1 (a0 :: some (.inl x) :: lo) (.inl x :: st) f := ru_load1 (show en_cd 21 0 = some (.iload_n 1, 1, 0, 0) by decide +kernel) rfl
theorem r21_1 : en_R cs 21 d post 1 (some (.inr q) :: lo) st f = en_R cs 21 d post 2 (some (.inr q) :: lo) (.inr q :: st) f := ru_aload1 (show en_cd 21 1 = some (.aload_n 0, 1, 0, 0) by decide +kernel) rfl
theorem r21_2 : en_R cs 21 d post 2 lo (.inr (4, i) :: st) f = (i < 6 ∧ en_R cs 21 d post 5 lo (.inl (f.1 4 i 10) :: st) f) := ru_getI (show en_cd 21 2 = some (.getfield 55, 3, 4, 10) by decide +kernel) (by decide +kernel) (by decide +kernel) (by decide +kernel)
theorem r21_5 : en_R cs 21 d post 5 lo (.inl b :: .inl a :: st) f = (if a = b then en_R cs 21 d post 10 lo st f else en_R cs 21 d post 8 lo st f) := ru_iceq (show en_cd 21 5 = some (.if_icmp .eq 5, 3, 0, 0) by decide +kernel) (by decide +kernel)
theorem r21_8 : en_R cs 21 d post 8 lo st f = en_R cs 21 d post 9 lo (.inl 1 :: st) f := ru_iconst (show en_cd 21 8 = some (.iconst 1, 1, 0, 0) by decide +kernel) (by decide +kernel)
theorem r21_9 : en_R cs 21 d post 9 lo ([.inl x]) f = (en_isz x = true ∧ post (some (.inl x)) f) := ru_ire2 (show en_cd 21 9 = some (.ireturn, 1, 0, 0) by decide +kernel) (by decide +kernel)
theorem r21_10 : en_R cs 21 d post 10 (some (.inr q) :: lo) st f = en_R cs 21 d post 11 (some (.inr q) :: lo) (.inr q :: st) f := ru_aload1 (show en_cd 21 10 = some (.aload_n 0, 1, 0, 0) by decide +kernel) rfl
theorem r21_11 : en_R cs 21 d post 11 lo (.inr (4, i) :: st) f = (i < 6 ∧ en_R cs 21 d post 14 lo (.inr (5, i) :: st) f) := ru_getR (show en_cd 21 11 = some (.getfield 12, 3, 4, 0) by decide +kernel) (by decide +kernel) (by decide +kernel)
theorem r21_14 : en_R cs 21 d post 14 lo (.inr (5, i) :: st) f = (st.length ≤ 8 ∧ i < 6 ∧ en_Ev d 3 [.inr (5, i)] f (fun r g => en_R cs 21 d post 17 lo (r.toList ++ st) g)) := ru_iv (al := []) (show en_cd 21 14 = some (.invokevirtual 64, 3, 3, 0) by decide +kernel) (by decide +kernel) (show en_np 3 = 0 by decide +kernel) (by decide +kernel) rfl
theorem r21_17 : en_R cs 21 d post 17 lo (.inl a :: st) f = (if a = 0 then en_R cs 21 d post 45 lo st f else en_R cs 21 d post 20 lo st f) := ru_ifeq (show en_cd 21 17 = some (.ifCond .eq 28, 3, 0, 0) by decide +kernel) (by decide +kernel)
theorem r21_20 : en_R cs 21 d post 20 (some (.inr q) :: lo) st f = en_R cs 21 d post 21 (some (.inr q) :: lo) (.inr q :: st) f := ru_aload1 (show en_cd 21 20 = some (.aload_n 0, 1, 0, 0) by decide +kernel) rfl
theorem r21_21 : en_R cs 21 d post 21 lo (.inr (4, i) :: st) f = (i < 6 ∧ en_R cs 21 d post 24 lo (.inr (5, i) :: st) f) := ru_getR (show en_cd 21 21 = some (.getfield 12, 3, 4, 0) by decide +kernel) (by decide +kernel) (by decide +kernel)
theorem r21_24 : en_R cs 21 d post 24 lo (.inr (5, i) :: st) f = (i < 6 ∧ en_R cs 21 d post 27 lo (.inl (f.1 5 i 3) :: st) f) := ru_getI (show en_cd 21 24 = some (.getfield 68, 3, 5, 3) by decide +kernel) (by decide +kernel) (by decide +kernel) (by decide +kernel)
theorem r21_27 : en_R cs 21 d post 27 lo (.inl a :: st) f = (if a = 0 then en_R cs 21 d post 45 lo st f else en_R cs 21 d post 30 lo st f) := ru_ifeq (show en_cd 21 27 = some (.ifCond .eq 18, 3, 0, 0) by decide +kernel) (by decide +kernel)
theorem r21_30 : en_R cs 21 d post 30 (some (.inr q) :: lo) st f = en_R cs 21 d post 31 (some (.inr q) :: lo) (.inr q :: st) f := ru_aload1 (show en_cd 21 30 = some (.aload_n 0, 1, 0, 0) by decide +kernel) rfl
theorem r21_31 : en_R cs 21 d post 31 lo (.inr (4, i) :: st) f = (i < 6 ∧ en_R cs 21 d post 34 lo (.inr (5, i) :: st) f) := ru_getR (show en_cd 21 31 = some (.getfield 12, 3, 4, 0) by decide +kernel) (by decide +kernel) (by decide +kernel)
theorem r21_34 : en_R cs 21 d post 34 lo (u :: st) f = en_R cs 21 d post 35 lo (u :: u :: st) f := ru_dup (show en_cd 21 34 = some (.dup, 1, 0, 0) by decide +kernel)
theorem r21_35 : en_R cs 21 d post 35 lo (.inr (5, i) :: st) f = (i < 6 ∧ en_R cs 21 d post 38 lo (.inl (f.1 5 i 3) :: st) f) := ru_getI (show en_cd 21 35 = some (.getfield 68, 3, 5, 3) by decide +kernel) (by decide +kernel) (by decide +kernel) (by decide +kernel)
theorem r21_38 : en_R cs 21 d post 38 lo st f = en_R cs 21 d post 39 lo (.inl 1 :: st) f := ru_iconst (show en_cd 21 38 = some (.iconst 1, 1, 0, 0) by decide +kernel) (by decide +kernel)
theorem r21_39 : en_R cs 21 d post 39 lo (.inl b :: .inl a :: st) f = en_R cs 21 d post 40 lo (.inl (a - b) :: st) f := ru_isub (show en_cd 21 39 = some (.isub, 1, 0, 0) by decide +kernel)
theorem r21_40 : en_R cs 21 d post 40 lo (.inl x :: .inr (5, i) :: st) f = (i < 6 ∧ en_R cs 21 d post 43 lo st (en_up f.1 5 i 3 x, f.2)) := ru_putI (show en_cd 21 40 = some (.putfield 68, 3, 5, 3) by decide +kernel) (by decide +kernel) (by decide +kernel) (by decide +kernel)
theorem r21_43 : en_R cs 21 d post 43 lo st f = en_R cs 21 d post 44 lo (.inl 0 :: st) f := ru_iconst (show en_cd 21 43 = some (.iconst 0, 1, 0, 0) by decide +kernel) (by decide +kernel)
theorem r21_44 : en_R cs 21 d post 44 lo ([.inl x]) f = (en_isz x = true ∧ post (some (.inl x)) f) := ru_ire2 (show en_cd 21 44 = some (.ireturn, 1, 0, 0) by decide +kernel) (by decide +kernel)
theorem r21_45 : en_R cs 21 d post 45 (some (.inr q) :: lo) st f = en_R cs 21 d post 46 (some (.inr q) :: lo) (.inr q :: st) f := ru_aload1 (show en_cd 21 45 = some (.aload_n 0, 1, 0, 0) by decide +kernel) rfl
theorem r21_46 : en_R cs 21 d post 46 lo (.inr (4, i) :: st) f = (i < 6 ∧ en_R cs 21 d post 49 lo (.inr (5, i) :: st) f) := ru_getR (show en_cd 21 46 = some (.getfield 12, 3, 4, 0) by decide +kernel) (by decide +kernel) (by decide +kernel)
theorem r21_49 : en_R cs 21 d post 49 (a0 :: a1 :: some (.inl x) :: lo) st f = en_R cs 21 d post 50 (a0 :: a1 :: some (.inl x) :: lo) (.inl x :: st) f := ru_load1 (show en_cd 21 49 = some (.iload_n 2, 1, 0, 0) by decide +kernel) rfl
theorem r21_50 : en_R cs 21 d post 50 lo (u1 :: .inr (5, i) :: st) f = (st.length ≤ 8 ∧ i < 6 ∧ en_Ev d 5 [.inr (5, i), u1] f (fun r g => en_R cs 21 d post 53 lo (r.toList ++ st) g)) := ru_iv (al := [u1]) (show en_cd 21 50 = some (.invokevirtual 71, 3, 5, 0) by decide +kernel) (by decide +kernel) (show en_np 5 = 1 by decide +kernel) (by decide +kernel) rfl
theorem r21_53 : en_R cs 21 d post 53 (some (.inr q) :: lo) st f = en_R cs 21 d post 54 (some (.inr q) :: lo) (.inr q :: st) f := ru_aload1 (show en_cd 21 53 = some (.aload_n 0, 1, 0, 0) by decide +kernel) rfl
theorem r21_54 : en_R cs 21 d post 54 lo (u :: st) f = en_R cs 21 d post 55 lo (u :: u :: st) f := ru_dup (show en_cd 21 54 = some (.dup, 1, 0, 0) by decide +kernel)
theorem r21_55 : en_R cs 21 d post 55 lo (.inr (4, i) :: st) f = (i < 6 ∧ en_R cs 21 d post 58 lo (.inl (f.1 4 i 10) :: st) f) := ru_getI (show en_cd 21 55 = some (.getfield 55, 3, 4, 10) by decide +kernel) (by decide +kernel) (by decide +kernel) (by decide +kernel)
theorem r21_58 : en_R cs 21 d post 58 lo st f = en_R cs 21 d post 59 lo (.inl 1 :: st) f := ru_iconst (show en_cd 21 58 = some (.iconst 1, 1, 0, 0) by decide +kernel) (by decide +kernel)
theorem r21_59 : en_R cs 21 d post 59 lo (.inl b :: .inl a :: st) f = en_R cs 21 d post 60 lo (.inl (a ^^^ b) :: st) f := ru_ixor (show en_cd 21 59 = some (.ixor, 1, 0, 0) by decide +kernel)
theorem r21_60 : en_R cs 21 d post 60 lo (.inl x :: .inr (4, i) :: st) f = (i < 6 ∧ en_R cs 21 d post 63 lo st (en_up f.1 4 i 10 x, f.2)) := ru_putI (show en_cd 21 60 = some (.putfield 55, 3, 4, 10) by decide +kernel) (by decide +kernel) (by decide +kernel) (by decide +kernel)
theorem r21_63 : en_R cs 21 d post 63 lo st f = en_R cs 21 d post 64 lo (.inl 1 :: st) f := ru_iconst (show en_cd 21 63 = some (.iconst 1, 1, 0, 0) by decide +kernel) (by decide +kernel)
theorem r21_64 : en_R cs 21 d post 64 lo ([.inl x]) f = (en_isz x = true ∧ post (some (.inl x)) f) := ru_ire2 (show en_cd 21 64 = some (.ireturn, 1, 0, 0) by decide +kernel) (by decide +kernel)
theorem r22_0 : en_R cs 22 d post 0 (some (.inr q) :: lo) st f = en_R cs 22 d post 1 (some (.inr q) :: lo) (.inr q :: st) f := ru_aload1 (show en_cd 22 0 = some (.aload_n 0, 1, 0, 0) by decide +kernel) rfl
theorem r22_1 : en_R cs 22 d post 1 (a0 :: some (.inl x) :: lo) st f = en_R cs 22 d post 2 (a0 :: some (.inl x) :: lo) (.inl x :: st) f := ru_load1 (show en_cd 22 1 = some (.iload_n 1, 1, 0, 0) by decide +kernel) rfl
theorem r22_2 : en_R cs 22 d post 2 lo (.inl x :: .inr (4, i) :: st) f = (i < 6 ∧ en_R cs 22 d post 5 lo st (en_up f.1 4 i 12 x, f.2)) := ru_putI (show en_cd 22 2 = some (.putfield 75, 3, 4, 12) by decide +kernel) (by decide +kernel) (by decide +kernel) (by decide +kernel)
theorem r22_5 : en_R cs 22 d post 5 (some (.inr q) :: lo) st f = en_R cs 22 d post 6 (some (.inr q) :: lo) (.inr q :: st) f := ru_aload1 (show en_cd 22 5 = some (.aload_n 0, 1, 0, 0) by decide +kernel) rfl
theorem r22_6 : en_R cs 22 d post 6 lo st f = en_R cs 22 d post 7 lo (.inl 1 :: st) f := ru_iconst (show en_cd 22 6 = some (.iconst 1, 1, 0, 0) by decide +kernel) (by decide +kernel)
theorem r22_7 : en_R cs 22 d post 7 lo (.inl x :: .inr (4, i) :: st) f = (i < 6 ∧ en_isz x = true ∧ en_R cs 22 d post 10 lo st (en_up f.1 4 i 11 x, f.2)) := ru_putZ (show en_cd 22 7 = some (.putfield 58, 3, 4, 11) by decide +kernel) (by decide +kernel) (by decide +kernel) (by decide +kernel)
theorem r22_10 : en_R cs 22 d post 10 lo [] f = post none f := ru_vre (show en_cd 22 10 = some (.return_, 1, 0, 0) by decide +kernel) (by decide +kernel)
theorem r23_0 : en_R cs 23 d post 0 (some (.inr q) :: lo) st f = en_R cs 23 d post 1 (some (.inr q) :: lo) (.inr q :: st) f := ru_aload1 (show en_cd 23 0 = some (.aload_n 0, 1, 0, 0) by decide +kernel) rfl
theorem r23_1 : en_R cs 23 d post 1 lo st f = en_R cs 23 d post 2 lo (.inl 0 :: st) f := ru_iconst (show en_cd 23 1 = some (.iconst 0, 1, 0, 0) by decide +kernel) (by decide +kernel)
theorem r23_2 : en_R cs 23 d post 2 lo (.inl x :: .inr (4, i) :: st) f = (i < 6 ∧ en_isz x = true ∧ en_R cs 23 d post 5 lo st (en_up f.1 4 i 11 x, f.2)) := ru_putZ (show en_cd 23 2 = some (.putfield 58, 3, 4, 11) by decide +kernel) (by decide +kernel) (by decide +kernel) (by decide +kernel)
theorem r23_5 : en_R cs 23 d post 5 (some (.inr q) :: lo) st f = en_R cs 23 d post 6 (some (.inr q) :: lo) (.inr q :: st) f := ru_aload1 (show en_cd 23 5 = some (.aload_n 0, 1, 0, 0) by decide +kernel) rfl
theorem r23_6 : en_R cs 23 d post 6 lo (u :: st) f = en_R cs 23 d post 7 lo (u :: u :: st) f := ru_dup (show en_cd 23 6 = some (.dup, 1, 0, 0) by decide +kernel)
theorem r23_7 : en_R cs 23 d post 7 lo (.inr (4, i) :: st) f = (i < 6 ∧ en_R cs 23 d post 10 lo (.inl (f.1 4 i 9) :: st) f) := ru_getI (show en_cd 23 7 = some (.getfield 52, 3, 4, 9) by decide +kernel) (by decide +kernel) (by decide +kernel) (by decide +kernel)
theorem r23_10 : en_R cs 23 d post 10 lo st f = en_R cs 23 d post 11 lo (.inl 1 :: st) f := ru_iconst (show en_cd 23 10 = some (.iconst 1, 1, 0, 0) by decide +kernel) (by decide +kernel)
theorem r23_11 : en_R cs 23 d post 11 lo (.inl b :: .inl a :: st) f = en_R cs 23 d post 12 lo (.inl (a ^^^ b) :: st) f := ru_ixor (show en_cd 23 11 = some (.ixor, 1, 0, 0) by decide +kernel)
theorem r23_12 : en_R cs 23 d post 12 lo (.inl x :: .inr (4, i) :: st) f = (i < 6 ∧ en_R cs 23 d post 15 lo st (en_up f.1 4 i 9 x, f.2)) := ru_putI (show en_cd 23 12 = some (.putfield 52, 3, 4, 9) by decide +kernel) (by decide +kernel) (by decide +kernel) (by decide +kernel)
theorem r23_15 : en_R cs 23 d post 15 lo [] f = post none f := ru_vre (show en_cd 23 15 = some (.return_, 1, 0, 0) by decide +kernel) (by decide +kernel)
theorem r24_0 : en_R cs 24 d post 0 (some (.inr q) :: lo) st f = en_R cs 24 d post 1 (some (.inr q) :: lo) (.inr q :: st) f := ru_aload1 (show en_cd 24 0 = some (.aload_n 0, 1, 0, 0) by decide +kernel) rfl
theorem r24_1 : en_R cs 24 d post 1 lo (.inr (4, i) :: st) f = (i < 6 ∧ en_R cs 24 d post 4 lo (.inl (f.1 4 i 2) :: st) f) := ru_getI (show en_cd 24 1 = some (.getfield 32, 3, 4, 2) by decide +kernel) (by decide +kernel) (by decide +kernel) (by decide +kernel)
theorem r24_4 : en_R cs 24 d post 4 lo (.inl a :: st) f = (if a = 0 then en_R cs 24 d post 7 lo st f else en_R cs 24 d post 8 lo st f) := ru_ifne (show en_cd 24 4 = some (.ifCond .ne 4, 3, 0, 0) by decide +kernel) (by decide +kernel)
theorem r24_7 : en_R cs 24 d post 7 lo [] f = post none f := ru_vre (show en_cd 24 7 = some (.return_, 1, 0, 0) by decide +kernel) (by decide +kernel)
theorem r24_8 : en_R cs 24 d post 8 (some (.inr q) :: lo) st f = en_R cs 24 d post 9 (some (.inr q) :: lo) (.inr q :: st) f := ru_aload1 (show en_cd 24 8 = some (.aload_n 0, 1, 0, 0) by decide +kernel) rfl
theorem r24_9 : en_R cs 24 d post 9 (some (.inr q) :: lo) st f = en_R cs 24 d post 10 (some (.inr q) :: lo) (.inr q :: st) f := ru_aload1 (show en_cd 24 9 = some (.aload_n 0, 1, 0, 0) by decide +kernel) rfl
theorem r24_10 : en_R cs 24 d post 10 lo (.inr (4, i) :: st) f = (i < 6 ∧ en_R cs 24 d post 13 lo (.inr (7, i) :: st) f) := ru_getR (show en_cd 24 10 = some (.getfield 18, 3, 4, 1) by decide +kernel) (by decide +kernel) (by decide +kernel)
theorem r24_13 : en_R cs 24 d post 13 lo st f = en_R cs 24 d post 14 lo (.inl 0 :: st) f := ru_iconst (show en_cd 24 13 = some (.iconst 0, 1, 0, 0) by decide +kernel) (by decide +kernel)
theorem r24_14 : en_R cs 24 d post 14 lo (.inl x :: .inr (7, i) :: st) f = (i < 6 ∧ en_inr x 4 = true ∧ en_R cs 24 d post 15 lo (.inl (f.1 7 i x.toNatClampNeg) :: st) f) := ru_iald (show en_cd 24 14 = some (.iaload, 1, 0, 0) by decide +kernel) (by decide +kernel) (by decide +kernel) (by decide +kernel) (by decide +kernel) (by decide +kernel)
theorem r24_15 : en_R cs 24 d post 15 lo (u1 :: .inr (4, i) :: st) f = (st.length ≤ 8 ∧ i < 6 ∧ en_Ev d 22 [.inr (4, i), u1] f (fun r g => en_R cs 24 d post 18 lo (r.toList ++ st) g)) := ru_iv (al := [u1]) (show en_cd 24 15 = some (.invokevirtual 78, 3, 22, 0) by decide +kernel) (by decide +kernel) (show en_np 22 = 1 by decide +kernel) (by decide +kernel) rfl
theorem r24_18 : en_R cs 24 d post 18 (some (.inr q) :: lo) st f = en_R cs 24 d post 19 (some (.inr q) :: lo) (.inr q :: st) f := ru_aload1 (show en_cd 24 18 = some (.aload_n 0, 1, 0, 0) by decide +kernel) rfl
theorem r24_19 : en_R cs 24 d post 19 lo (u :: st) f = en_R cs 24 d post 20 lo (u :: u :: st) f := ru_dup (show en_cd 24 19 = some (.dup, 1, 0, 0) by decide +kernel)
theorem r24_20 : en_R cs 24 d post 20 lo (.inr (4, i) :: st) f = (i < 6 ∧ en_R cs 24 d post 23 lo (.inl (f.1 4 i 2) :: st) f) := ru_getI (show en_cd 24 20 = some (.getfield 32, 3, 4, 2) by decide +kernel) (by decide +kernel) (by decide +kernel) (by decide +kernel)
theorem r24_23 : en_R cs 24 d post 23 lo st f = en_R cs 24 d post 24 lo (.inl 1 :: st) f := ru_iconst (show en_cd 24 23 = some (.iconst 1, 1, 0, 0) by decide +kernel) (by decide +kernel)
theorem r24_24 : en_R cs 24 d post 24 lo (.inl b :: .inl a :: st) f = en_R cs 24 d post 25 lo (.inl (a - b) :: st) f := ru_isub (show en_cd 24 24 = some (.isub, 1, 0, 0) by decide +kernel)
theorem r24_25 : en_R cs 24 d post 25 lo (.inl x :: .inr (4, i) :: st) f = (i < 6 ∧ en_R cs 24 d post 28 lo st (en_up f.1 4 i 2 x, f.2)) := ru_putI (show en_cd 24 25 = some (.putfield 32, 3, 4, 2) by decide +kernel) (by decide +kernel) (by decide +kernel) (by decide +kernel)
theorem r24_28 : en_R cs 24 d post 28 lo st f = en_R cs 24 d post 29 lo (.inl 0 :: st) f := ru_iconst (show en_cd 24 28 = some (.iconst 0, 1, 0, 0) by decide +kernel) (by decide +kernel)
theorem r24_29 : en_R cs 24 d post 29 (a0 :: a1 :: lo) (.inl x :: st) f = en_R cs 24 d post 30 (a0 :: some (.inl x) :: lo) st f := ru_istore1 (show en_cd 24 29 = some (.istore_n 1, 1, 0, 0) by decide +kernel) (Nat.lt_of_lt_of_le (by decide : 1 < 2) (Nat.le_add_left 2 lo.length))
theorem r24_30 : en_R cs 24 d post 30 (a0 :: some (.inl x) :: lo) st f = en_R cs 24 d post 31 (a0 :: some (.inl x) :: lo) (.inl x :: st) f := ru_load1 (show en_cd 24 30 = some (.iload_n 1, 1, 0, 0) by decide +kernel) rfl
theorem r24_31 : en_R cs 24 d post 31 (some (.inr q) :: lo) st f = en_R cs 24 d post 32 (some (.inr q) :: lo) (.inr q :: st) f := ru_aload1 (show en_cd 24 31 = some (.aload_n 0, 1, 0, 0) by decide +kernel) rfl
theorem r24_32 : en_R cs 24 d post 32 lo (.inr (4, i) :: st) f = (i < 6 ∧ en_R cs 24 d post 35 lo (.inl (f.1 4 i 2) :: st) f) := ru_getI (show en_cd 24 32 = some (.getfield 32, 3, 4, 2) by decide +kernel) (by decide +kernel) (by decide +kernel) (by decide +kernel)
theorem r24_35 : en_R cs 24 d post 35 lo (.inl b :: .inl a :: st) f = (if b ≤ a then en_R cs 24 d post 58 lo st f else en_R cs 24 d post 38 lo st f) := ru_icge (show en_cd 24 35 = some (.if_icmp .ge 23, 3, 0, 0) by decide +kernel) (by decide +kernel)
theorem r24_38 : en_R cs 24 d post 38 (some (.inr q) :: lo) st f = en_R cs 24 d post 39 (some (.inr q) :: lo) (.inr q :: st) f := ru_aload1 (show en_cd 24 38 = some (.aload_n 0, 1, 0, 0) by decide +kernel) rfl
theorem r24_39 : en_R cs 24 d post 39 lo (.inr (4, i) :: st) f = (i < 6 ∧ en_R cs 24 d post 42 lo (.inr (7, i) :: st) f) := ru_getR (show en_cd 24 39 = some (.getfield 18, 3, 4, 1) by decide +kernel) (by decide +kernel) (by decide +kernel)
theorem r24_42 : en_R cs 24 d post 42 (a0 :: some (.inl x) :: lo) st f = en_R cs 24 d post 43 (a0 :: some (.inl x) :: lo) (.inl x :: st) f := ru_load1 (show en_cd 24 42 = some (.iload_n 1, 1, 0, 0) by decide +kernel) rfl
theorem r24_43 : en_R cs 24 d post 43 (some (.inr q) :: lo) st f = en_R cs 24 d post 44 (some (.inr q) :: lo) (.inr q :: st) f := ru_aload1 (show en_cd 24 43 = some (.aload_n 0, 1, 0, 0) by decide +kernel) rfl
theorem r24_44 : en_R cs 24 d post 44 lo (.inr (4, i) :: st) f = (i < 6 ∧ en_R cs 24 d post 47 lo (.inr (7, i) :: st) f) := ru_getR (show en_cd 24 44 = some (.getfield 18, 3, 4, 1) by decide +kernel) (by decide +kernel) (by decide +kernel)
theorem r24_47 : en_R cs 24 d post 47 (a0 :: some (.inl x) :: lo) st f = en_R cs 24 d post 48 (a0 :: some (.inl x) :: lo) (.inl x :: st) f := ru_load1 (show en_cd 24 47 = some (.iload_n 1, 1, 0, 0) by decide +kernel) rfl
theorem r24_48 : en_R cs 24 d post 48 lo st f = en_R cs 24 d post 49 lo (.inl 1 :: st) f := ru_iconst (show en_cd 24 48 = some (.iconst 1, 1, 0, 0) by decide +kernel) (by decide +kernel)
theorem r24_49 : en_R cs 24 d post 49 lo (.inl b :: .inl a :: st) f = en_R cs 24 d post 50 lo (.inl (a + b) :: st) f := ru_iadd (show en_cd 24 49 = some (.iadd, 1, 0, 0) by decide +kernel)
theorem r24_50 : en_R cs 24 d post 50 lo (.inl x :: .inr (7, i) :: st) f = (i < 6 ∧ en_inr x 4 = true ∧ en_R cs 24 d post 51 lo (.inl (f.1 7 i x.toNatClampNeg) :: st) f) := ru_iald (show en_cd 24 50 = some (.iaload, 1, 0, 0) by decide +kernel) (by decide +kernel) (by decide +kernel) (by decide +kernel) (by decide +kernel) (by decide +kernel)
theorem r24_51 : en_R cs 24 d post 51 lo (.inl v :: .inl x :: .inr (7, i) :: st) f = (i < 6 ∧ en_inr x 4 = true ∧ en_R cs 24 d post 52 lo st (en_up f.1 7 i x.toNatClampNeg v, f.2)) := ru_iast (show en_cd 24 51 = some (.iastore, 1, 0, 0) by decide +kernel) (by decide +kernel) (by decide +kernel) (by decide +kernel) (by decide +kernel)
theorem r24_52 : en_R cs 24 d post 52 (a0 :: some (.inl x) :: lo) st f = en_R cs 24 d post 55 (a0 :: some (.inl (x + 1)) :: lo) st f := ru_iinc (show en_cd 24 52 = some (.iinc 1 1, 3, 0, 0) by decide +kernel) (by decide +kernel) rfl
theorem r24_55 : en_R cs 24 d post 55 lo st f = en_R cs 24 d post 30 lo st f := ru_goto (show en_cd 24 55 = some (.goto (-25), 3, 0, 0) by decide +kernel) (by decide +kernel)
theorem r24_58 : en_R cs 24 d post 58 lo [] f = post none f := ru_vre (show en_cd 24 58 = some (.return_, 1, 0, 0) by decide +kernel) (by decide +kernel)
theorem r25_0 : en_R cs 25 d post 0 (some (.inr q) :: lo) st f = en_R cs 25 d post 1 (some (.inr q) :: lo) (.inr q :: st) f := ru_aload1 (show en_cd 25 0 = some (.aload_n 0, 1, 0, 0) by decide +kernel) rfl
theorem r25_1 : en_R cs 25 d post 1 lo (.inr (4, i) :: st) f = (i < 6 ∧ en_R cs 25 d post 4 lo (.inr (5, i) :: st) f) := ru_getR (show en_cd 25 1 = some (.getfield 12, 3, 4, 0) by decide +kernel) (by decide +kernel) (by decide +kernel)
theorem r25_4 : en_R cs 25 d post 4 lo (.inr (5, i) :: st) f = (st.length ≤ 8 ∧ i < 6 ∧ en_Ev d 4 [.inr (5, i)] f (fun r g => en_R cs 25 d post 7 lo (r.toList ++ st) g)) := ru_iv (al := []) (show en_cd 25 4 = some (.invokevirtual 81, 3, 4, 0) by decide +kernel) (by decide +kernel) (show en_np 4 = 0 by decide +kernel) (by decide +kernel) rfl
theorem r25_7 : en_R cs 25 d post 7 lo (.inl a :: st) f = (if a = 0 then en_R cs 25 d post 10 lo st f else en_R cs 25 d post 11 lo st f) := ru_ifne (show en_cd 25 7 = some (.ifCond .ne 4, 3, 0, 0) by decide +kernel) (by decide +kernel)
theorem r25_10 : en_R cs 25 d post 10 lo [] f = post none f := ru_vre (show en_cd 25 10 = some (.return_, 1, 0, 0) by decide +kernel) (by decide +kernel)
theorem r25_11 : en_R cs 25 d post 11 (some (.inr q) :: lo) st f = en_R cs 25 d post 12 (some (.inr q) :: lo) (.inr q :: st) f := ru_aload1 (show en_cd 25 11 = some (.aload_n 0, 1, 0, 0) by decide +kernel) rfl
theorem r25_12 : en_R cs 25 d post 12 lo (.inr (4, i) :: st) f = (i < 6 ∧ en_R cs 25 d post 15 lo (.inr (5, i) :: st) f) := ru_getR (show en_cd 25 12 = some (.getfield 12, 3, 4, 0) by decide +kernel) (by decide +kernel) (by decide +kernel)
theorem r25_15 : en_R cs 25 d post 15 lo (.inr (5, i) :: st) f = (i < 6 ∧ en_R cs 25 d post 18 lo (.inl (f.1 5 i 3) :: st) f) := ru_getI (show en_cd 25 15 = some (.getfield 68, 3, 5, 3) by decide +kernel) (by decide +kernel) (by decide +kernel) (by decide +kernel)
theorem r25_18 : en_R cs 25 d post 18 lo (.inl a :: st) f = (if a = 0 then en_R cs 25 d post 37 lo st f else en_R cs 25 d post 21 lo st f) := ru_ifeq (show en_cd 25 18 = some (.ifCond .eq 19, 3, 0, 0) by decide +kernel) (by decide +kernel)
theorem r25_21 : en_R cs 25 d post 21 (some (.inr q) :: lo) st f = en_R cs 25 d post 22 (some (.inr q) :: lo) (.inr q :: st) f := ru_aload1 (show en_cd 25 21 = some (.aload_n 0, 1, 0, 0) by decide +kernel) rfl
theorem r25_22 : en_R cs 25 d post 22 lo (.inr (4, i) :: st) f = (i < 6 ∧ en_R cs 25 d post 25 lo (.inr (5, i) :: st) f) := ru_getR (show en_cd 25 22 = some (.getfield 12, 3, 4, 0) by decide +kernel) (by decide +kernel) (by decide +kernel)
theorem r25_25 : en_R cs 25 d post 25 lo (u :: st) f = en_R cs 25 d post 26 lo (u :: u :: st) f := ru_dup (show en_cd 25 25 = some (.dup, 1, 0, 0) by decide +kernel)
theorem r25_26 : en_R cs 25 d post 26 lo (.inr (5, i) :: st) f = (i < 6 ∧ en_R cs 25 d post 29 lo (.inl (f.1 5 i 3) :: st) f) := ru_getI (show en_cd 25 26 = some (.getfield 68, 3, 5, 3) by decide +kernel) (by decide +kernel) (by decide +kernel) (by decide +kernel)
theorem r25_29 : en_R cs 25 d post 29 lo st f = en_R cs 25 d post 30 lo (.inl 1 :: st) f := ru_iconst (show en_cd 25 29 = some (.iconst 1, 1, 0, 0) by decide +kernel) (by decide +kernel)
theorem r25_30 : en_R cs 25 d post 30 lo (.inl b :: .inl a :: st) f = en_R cs 25 d post 31 lo (.inl (a - b) :: st) f := ru_isub (show en_cd 25 30 = some (.isub, 1, 0, 0) by decide +kernel)
theorem r25_31 : en_R cs 25 d post 31 lo (.inl x :: .inr (5, i) :: st) f = (i < 6 ∧ en_R cs 25 d post 34 lo st (en_up f.1 5 i 3 x, f.2)) := ru_putI (show en_cd 25 31 = some (.putfield 68, 3, 5, 3) by decide +kernel) (by decide +kernel) (by decide +kernel) (by decide +kernel)
theorem r25_34 : en_R cs 25 d post 34 lo st f = en_R cs 25 d post 48 lo st f := ru_goto (show en_cd 25 34 = some (.goto 14, 3, 0, 0) by decide +kernel) (by decide +kernel)
theorem r25_37 : en_R cs 25 d post 37 (some (.inr q) :: lo) st f = en_R cs 25 d post 38 (some (.inr q) :: lo) (.inr q :: st) f := ru_aload1 (show en_cd 25 37 = some (.aload_n 0, 1, 0, 0) by decide +kernel) rfl
theorem r25_38 : en_R cs 25 d post 38 (some (.inr q) :: lo) st f = en_R cs 25 d post 39 (some (.inr q) :: lo) (.inr q :: st) f := ru_aload1 (show en_cd 25 38 = some (.aload_n 0, 1, 0, 0) by decide +kernel) rfl
theorem r25_39 : en_R cs 25 d post 39 lo (.inr (4, i) :: st) f = (i < 6 ∧ en_R cs 25 d post 42 lo (.inr (5, i) :: st) f) := ru_getR (show en_cd 25 39 = some (.getfield 12, 3, 4, 0) by decide +kernel) (by decide +kernel) (by decide +kernel)
theorem r25_42 : en_R cs 25 d post 42 lo (.inr (5, i) :: st) f = (st.length ≤ 8 ∧ i < 6 ∧ en_Ev d 7 [.inr (5, i)] f (fun r g => en_R cs 25 d post 45 lo (r.toList ++ st) g)) := ru_iv (al := []) (show en_cd 25 42 = some (.invokevirtual 84, 3, 7, 0) by decide +kernel) (by decide +kernel) (show en_np 7 = 0 by decide +kernel) (by decide +kernel) rfl
theorem r25_45 : en_R cs 25 d post 45 lo (u1 :: .inr (4, i) :: st) f = (st.length ≤ 8 ∧ i < 6 ∧ en_Ev d 22 [.inr (4, i), u1] f (fun r g => en_R cs 25 d post 48 lo (r.toList ++ st) g)) := ru_iv (al := [u1]) (show en_cd 25 45 = some (.invokevirtual 78, 3, 22, 0) by decide +kernel) (by decide +kernel) (show en_np 22 = 1 by decide +kernel) (by decide +kernel) rfl
theorem r25_48 : en_R cs 25 d post 48 lo [] f = post none f := ru_vre (show en_cd 25 48 = some (.return_, 1, 0, 0) by decide +kernel) (by decide +kernel)
theorem r26_0 : en_R cs 26 d post 0 (some (.inr q) :: lo) st f = en_R cs 26 d post 1 (some (.inr q) :: lo) (.inr q :: st) f := ru_aload1 (show en_cd 26 0 = some (.aload_n 0, 1, 0, 0) by decide +kernel) rfl
theorem r26_1 : en_R cs 26 d post 1 lo (.inr (3, i) :: st) f = (i < 6 ∧ en_R cs 26 d post 4 lo (.inr (4, i) :: st) f) := ru_getR (show en_cd 26 1 = some (.getfield 12, 3, 3, 0) by decide +kernel) (by decide +kernel) (by decide +kernel)
theorem r26_4 : en_R cs 26 d post 4 lo (.inr (4, i) :: st) f = (i < 6 ∧ en_R cs 26 d post 7 lo (.inl (f.1 4 i 3) :: st) f) := ru_getI (show en_cd 26 4 = some (.getfield 22, 3, 4, 3) by decide +kernel) (by decide +kernel) (by decide +kernel) (by decide +kernel)
theorem r26_7 : en_R cs 26 d post 7 lo (.inl a :: st) f = (if a = 0 then en_R cs 26 d post 14 lo st f else en_R cs 26 d post 10 lo st f) := ru_ifeq (show en_cd 26 7 = some (.ifCond .eq 7, 3, 0, 0) by decide +kernel) (by decide +kernel)
theorem r26_10 : en_R cs 26 d post 10 lo st f = en_R cs 26 d post 11 lo (.inl 1 :: st) f := ru_iconst (show en_cd 26 10 = some (.iconst 1, 1, 0, 0) by decide +kernel) (by decide +kernel)
theorem r26_11 : en_R cs 26 d post 11 lo st f = en_R cs 26 d post 15 lo st f := ru_goto (show en_cd 26 11 = some (.goto 4, 3, 0, 0) by decide +kernel) (by decide +kernel)
theorem r26_14 : en_R cs 26 d post 14 lo st f = en_R cs 26 d post 15 lo (.inl 0 :: st) f := ru_iconst (show en_cd 26 14 = some (.iconst 0, 1, 0, 0) by decide +kernel) (by decide +kernel)
theorem r26_15 : en_R cs 26 d post 15 lo ([.inl x]) f = (en_isz x = true ∧ post (some (.inl x)) f) := ru_ire2 (show en_cd 26 15 = some (.ireturn, 1, 0, 0) by decide +kernel) (by decide +kernel)
theorem r27_0 : en_R cs 27 d post 0 (some (.inr q) :: lo) st f = en_R cs 27 d post 1 (some (.inr q) :: lo) (.inr q :: st) f := ru_aload1 (show en_cd 27 0 = some (.aload_n 0, 1, 0, 0) by decide +kernel) rfl
theorem r27_1 : en_R cs 27 d post 1 lo (.inr (3, i) :: st) f = (i < 6 ∧ en_R cs 27 d post 4 lo (.inl (f.1 3 i 3) :: st) f) := ru_getI (show en_cd 27 1 = some (.getfield 18, 3, 3, 3) by decide +kernel) (by decide +kernel) (by decide +kernel) (by decide +kernel)
theorem r27_4 : en_R cs 27 d post 4 lo st f = en_R cs 27 d post 5 lo (.inl 3 :: st) f := ru_iconst (show en_cd 27 4 = some (.iconst 3, 1, 0, 0) by decide +kernel) (by decide +kernel)
theorem r27_5 : en_R cs 27 d post 5 lo (.inl b :: .inl a :: st) f = (if a = b then en_R cs 27 d post 8 lo st f else en_R cs 27 d post 20 lo st f) := ru_icne (show en_cd 27 5 = some (.if_icmp .ne 15, 3, 0, 0) by decide +kernel) (by decide +kernel)
theorem r27_8 : en_R cs 27 d post 8 (some (.inr q) :: lo) st f = en_R cs 27 d post 9 (some (.inr q) :: lo) (.inr q :: st) f := ru_aload1 (show en_cd 27 8 = some (.aload_n 0, 1, 0, 0) by decide +kernel) rfl
theorem r27_9 : en_R cs 27 d post 9 lo (.inr (3, i) :: st) f = (i < 6 ∧ en_R cs 27 d post 12 lo (.inl (f.1 3 i 9) :: st) f) := ru_getI (show en_cd 27 9 = some (.getfield 25, 3, 3, 9) by decide +kernel) (by decide +kernel) (by decide +kernel) (by decide +kernel)
theorem r27_12 : en_R cs 27 d post 12 (a0 :: some (.inl x) :: lo) st f = en_R cs 27 d post 13 (a0 :: some (.inl x) :: lo) (.inl x :: st) f := ru_load1 (show en_cd 27 12 = some (.iload_n 1, 1, 0, 0) by decide +kernel) rfl
theorem r27_13 : en_R cs 27 d post 13 lo (.inl b :: .inl a :: st) f = (if a = b then en_R cs 27 d post 16 lo st f else en_R cs 27 d post 20 lo st f) := ru_icne (show en_cd 27 13 = some (.if_icmp .ne 7, 3, 0, 0) by decide +kernel) (by decide +kernel)
theorem r27_16 : en_R cs 27 d post 16 lo st f = en_R cs 27 d post 17 lo (.inl 1 :: st) f := ru_iconst (show en_cd 27 16 = some (.iconst 1, 1, 0, 0) by decide +kernel) (by decide +kernel)
theorem r27_17 : en_R cs 27 d post 17 lo st f = en_R cs 27 d post 21 lo st f := ru_goto (show en_cd 27 17 = some (.goto 4, 3, 0, 0) by decide +kernel) (by decide +kernel)
theorem r27_20 : en_R cs 27 d post 20 lo st f = en_R cs 27 d post 21 lo (.inl 0 :: st) f := ru_iconst (show en_cd 27 20 = some (.iconst 0, 1, 0, 0) by decide +kernel) (by decide +kernel)
theorem r27_21 : en_R cs 27 d post 21 lo ([.inl x]) f = (en_isz x = true ∧ post (some (.inl x)) f) := ru_ire2 (show en_cd 27 21 = some (.ireturn, 1, 0, 0) by decide +kernel) (by decide +kernel)
theorem r28_0 : en_R cs 28 d post 0 (some (.inr q) :: lo) st f = en_R cs 28 d post 1 (some (.inr q) :: lo) (.inr q :: st) f := ru_aload1 (show en_cd 28 0 = some (.aload_n 0, 1, 0, 0) by decide +kernel) rfl
theorem r28_1 : en_R cs 28 d post 1 lo (.inr (3, i) :: st) f = (i < 6 ∧ en_R cs 28 d post 4 lo (.inr (4, i) :: st) f) := ru_getR (show en_cd 28 1 = some (.getfield 12, 3, 3, 0) by decide +kernel) (by decide +kernel) (by decide +kernel)
theorem r28_4 : en_R cs 28 d post 4 lo st f = en_R cs 28 d post 5 lo (.inl 0 :: st) f := ru_iconst (show en_cd 28 4 = some (.iconst 0, 1, 0, 0) by decide +kernel) (by decide +kernel)
theorem r28_5 : en_R cs 28 d post 5 lo (.inl x :: .inr (4, i) :: st) f = (i < 6 ∧ en_R cs 28 d post 8 lo st (en_up f.1 4 i 3 x, f.2)) := ru_putI (show en_cd 28 5 = some (.putfield 22, 3, 4, 3) by decide +kernel) (by decide +kernel) (by decide +kernel) (by decide +kernel)
theorem r28_8 : en_R cs 28 d post 8 (some (.inr q) :: lo) st f = en_R cs 28 d post 9 (some (.inr q) :: lo) (.inr q :: st) f := ru_aload1 (show en_cd 28 8 = some (.aload_n 0, 1, 0, 0) by decide +kernel) rfl
theorem r28_9 : en_R cs 28 d post 9 lo (.inr (3, i) :: st) f = (i < 6 ∧ en_R cs 28 d post 12 lo (.inr (4, i) :: st) f) := ru_getR (show en_cd 28 9 = some (.getfield 12, 3, 3, 0) by decide +kernel) (by decide +kernel) (by decide +kernel)
theorem r28_12 : en_R cs 28 d post 12 lo st f = en_R cs 28 d post 13 lo (.inl 0 :: st) f := ru_iconst (show en_cd 28 12 = some (.iconst 0, 1, 0, 0) by decide +kernel) (by decide +kernel)
theorem r28_13 : en_R cs 28 d post 13 lo (.inl x :: .inr (4, i) :: st) f = (i < 6 ∧ en_isz x = true ∧ en_R cs 28 d post 16 lo st (en_up f.1 4 i 8 x, f.2)) := ru_putZ (show en_cd 28 13 = some (.putfield 26, 3, 4, 8) by decide +kernel) (by decide +kernel) (by decide +kernel) (by decide +kernel)
theorem r28_16 : en_R cs 28 d post 16 (some (.inr q) :: lo) st f = en_R cs 28 d post 17 (some (.inr q) :: lo) (.inr q :: st) f := ru_aload1 (show en_cd 28 16 = some (.aload_n 0, 1, 0, 0) by decide +kernel) rfl
theorem r28_17 : en_R cs 28 d post 17 lo st f = en_R cs 28 d post 18 lo (.inl 0 :: st) f := ru_iconst (show en_cd 28 17 = some (.iconst 0, 1, 0, 0) by decide +kernel) (by decide +kernel)
theorem r28_18 : en_R cs 28 d post 18 lo (.inl x :: .inr (3, i) :: st) f = (i < 6 ∧ en_isz x = true ∧ en_R cs 28 d post 21 lo st (en_up f.1 3 i 1 x, f.2)) := ru_putZ (show en_cd 28 18 = some (.putfield 30, 3, 3, 1) by decide +kernel) (by decide +kernel) (by decide +kernel) (by decide +kernel)
theorem r28_21 : en_R cs 28 d post 21 lo [] f = post none f := ru_vre (show en_cd 28 21 = some (.return_, 1, 0, 0) by decide +kernel) (by decide +kernel)
theorem r29_0 : en_R cs 29 d post 0 (some (.inr q) :: lo) st f = en_R cs 29 d post 1 (some (.inr q) :: lo) (.inr q :: st) f := ru_aload1 (show en_cd 29 0 = some (.aload_n 0, 1, 0, 0) by decide +kernel) rfl
theorem r29_1 : en_R cs 29 d post 1 (a0 :: some (.inl x) :: lo) st f = en_R cs 29 d post 2 (a0 :: some (.inl x) :: lo) (.inl x :: st) f := ru_load1 (show en_cd 29 1 = some (.iload_n 1, 1, 0, 0) by decide +kernel) rfl
theorem r29_2 : en_R cs 29 d post 2 lo (.inl x :: .inr (3, i) :: st) f = (i < 6 ∧ en_R cs 29 d post 5 lo st (en_up f.1 3 i 3 x, f.2)) := ru_putI (show en_cd 29 2 = some (.putfield 18, 3, 3, 3) by decide +kernel) (by decide +kernel) (by decide +kernel) (by decide +kernel)
theorem r29_5 : en_R cs 29 d post 5 (some (.inr q) :: lo) st f = en_R cs 29 d post 6 (some (.inr q) :: lo) (.inr q :: st) f := ru_aload1 (show en_cd 29 5 = some (.aload_n 0, 1, 0, 0) by decide +kernel) rfl
theorem r29_6 : en_R cs 29 d post 6 lo st f = en_R cs 29 d post 7 lo (.inl 0 :: st) f := ru_iconst (show en_cd 29 6 = some (.iconst 0, 1, 0, 0) by decide +kernel) (by decide +kernel)
theorem r29_7 : en_R cs 29 d post 7 lo (.inl x :: .inr (3, i) :: st) f = (i < 6 ∧ en_isz x = true ∧ en_R cs 29 d post 10 lo st (en_up f.1 3 i 1 x, f.2)) := ru_putZ (show en_cd 29 7 = some (.putfield 30, 3, 3, 1) by decide +kernel) (by decide +kernel) (by decide +kernel) (by decide +kernel)
theorem r29_10 : en_R cs 29 d post 10 (some (.inr q) :: lo) st f = en_R cs 29 d post 11 (some (.inr q) :: lo) (.inr q :: st) f := ru_aload1 (show en_cd 29 10 = some (.aload_n 0, 1, 0, 0) by decide +kernel) rfl
theorem r29_11 : en_R cs 29 d post 11 lo st f = en_R cs 29 d post 12 lo (.inl 0 :: st) f := ru_iconst (show en_cd 29 11 = some (.iconst 0, 1, 0, 0) by decide +kernel) (by decide +kernel)
theorem r29_12 : en_R cs 29 d post 12 lo (.inl x :: .inr (3, i) :: st) f = (i < 6 ∧ en_R cs 29 d post 15 lo st (en_up f.1 3 i 4 x, f.2)) := ru_putI (show en_cd 29 12 = some (.putfield 33, 3, 3, 4) by decide +kernel) (by decide +kernel) (by decide +kernel) (by decide +kernel)
theorem r29_15 : en_R cs 29 d post 15 lo [] f = post none f := ru_vre (show en_cd 29 15 = some (.return_, 1, 0, 0) by decide +kernel) (by decide +kernel)
theorem r30_0 : en_R cs 30 d post 0 (some (.inr q) :: lo) st f = en_R cs 30 d post 1 (some (.inr q) :: lo) (.inr q :: st) f := ru_aload1 (show en_cd 30 0 = some (.aload_n 0, 1, 0, 0) by decide +kernel) rfl
theorem r30_1 : en_R cs 30 d post 1 lo st f = en_R cs 30 d post 2 lo (.inl 1 :: st) f := ru_iconst (show en_cd 30 1 = some (.iconst 1, 1, 0, 0) by decide +kernel) (by decide +kernel)
theorem r30_2 : en_R cs 30 d post 2 lo (.inl x :: .inr (3, i) :: st) f = (i < 6 ∧ en_isz x = true ∧ en_R cs 30 d post 5 lo st (en_up f.1 3 i 1 x, f.2)) := ru_putZ (show en_cd 30 2 = some (.putfield 30, 3, 3, 1) by decide +kernel) (by decide +kernel) (by decide +kernel) (by decide +kernel)
theorem r30_5 : en_R cs 30 d post 5 (some (.inr q) :: lo) st f = en_R cs 30 d post 6 (some (.inr q) :: lo) (.inr q :: st) f := ru_aload1 (show en_cd 30 5 = some (.aload_n 0, 1, 0, 0) by decide +kernel) rfl
theorem r30_6 : en_R cs 30 d post 6 lo (.inr (3, i) :: st) f = (i < 6 ∧ en_R cs 30 d post 9 lo (.inr (4, i) :: st) f) := ru_getR (show en_cd 30 6 = some (.getfield 12, 3, 3, 0) by decide +kernel) (by decide +kernel) (by decide +kernel)
theorem r30_9 : en_R cs 30 d post 9 lo (.inr (4, i) :: st) f = (st.length ≤ 8 ∧ i < 6 ∧ en_Ev d 18 [.inr (4, i)] f (fun r g => en_R cs 30 d post 12 lo (r.toList ++ st) g)) := ru_iv (al := []) (show en_cd 30 9 = some (.invokevirtual 36, 3, 18, 0) by decide +kernel) (by decide +kernel) (show en_np 18 = 0 by decide +kernel) (by decide +kernel) rfl
theorem r30_12 : en_R cs 30 d post 12 (some (.inr q) :: lo) st f = en_R cs 30 d post 13 (some (.inr q) :: lo) (.inr q :: st) f := ru_aload1 (show en_cd 30 12 = some (.aload_n 0, 1, 0, 0) by decide +kernel) rfl
theorem r30_13 : en_R cs 30 d post 13 lo st f = en_R cs 30 d post 14 lo (.inl 0 :: st) f := ru_iconst (show en_cd 30 13 = some (.iconst 0, 1, 0, 0) by decide +kernel) (by decide +kernel)
theorem r30_14 : en_R cs 30 d post 14 lo (.inl x :: .inr (3, i) :: st) f = (i < 6 ∧ en_R cs 30 d post 17 lo st (en_up f.1 3 i 5 x, f.2)) := ru_putI (show en_cd 30 14 = some (.putfield 39, 3, 3, 5) by decide +kernel) (by decide +kernel) (by decide +kernel) (by decide +kernel)
theorem r30_17 : en_R cs 30 d post 17 (some (.inr q) :: lo) st f = en_R cs 30 d post 18 (some (.inr q) :: lo) (.inr q :: st) f := ru_aload1 (show en_cd 30 17 = some (.aload_n 0, 1, 0, 0) by decide +kernel) rfl
theorem r30_18 : en_R cs 30 d post 18 lo st f = en_R cs 30 d post 19 lo (.inl 0 :: st) f := ru_iconst (show en_cd 30 18 = some (.iconst 0, 1, 0, 0) by decide +kernel) (by decide +kernel)
theorem r30_19 : en_R cs 30 d post 19 lo (.inl x :: .inr (3, i) :: st) f = (i < 6 ∧ en_R cs 30 d post 22 lo st (en_up f.1 3 i 6 x, f.2)) := ru_putI (show en_cd 30 19 = some (.putfield 42, 3, 3, 6) by decide +kernel) (by decide +kernel) (by decide +kernel) (by decide +kernel)
theorem r30_22 : en_R cs 30 d post 22 (some (.inr q) :: lo) st f = en_R cs 30 d post 23 (some (.inr q) :: lo) (.inr q :: st) f := ru_aload1 (show en_cd 30 22 = some (.aload_n 0, 1, 0, 0) by decide +kernel) rfl
theorem r30_23 : en_R cs 30 d post 23 lo st f = en_R cs 30 d post 24 lo (.inl 0 :: st) f := ru_iconst (show en_cd 30 23 = some (.iconst 0, 1, 0, 0) by decide +kernel) (by decide +kernel)
theorem r30_24 : en_R cs 30 d post 24 lo (.inl x :: .inr (3, i) :: st) f = (i < 6 ∧ en_R cs 30 d post 27 lo st (en_up f.1 3 i 7 x, f.2)) := ru_putI (show en_cd 30 24 = some (.putfield 45, 3, 3, 7) by decide +kernel) (by decide +kernel) (by decide +kernel) (by decide +kernel)
theorem r30_27 : en_R cs 30 d post 27 (some (.inr q) :: lo) st f = en_R cs 30 d post 28 (some (.inr q) :: lo) (.inr q :: st) f := ru_aload1 (show en_cd 30 27 = some (.aload_n 0, 1, 0, 0) by decide +kernel) rfl
theorem r30_28 : en_R cs 30 d post 28 lo st f = en_R cs 30 d post 29 lo (.inl 0 :: st) f := ru_iconst (show en_cd 30 28 = some (.iconst 0, 1, 0, 0) by decide +kernel) (by decide +kernel)
theorem r30_29 : en_R cs 30 d post 29 lo (.inl x :: .inr (3, i) :: st) f = (i < 6 ∧ en_R cs 30 d post 32 lo st (en_up f.1 3 i 8 x, f.2)) := ru_putI (show en_cd 30 29 = some (.putfield 48, 3, 3, 8) by decide +kernel) (by decide +kernel) (by decide +kernel) (by decide +kernel)
theorem r30_32 : en_R cs 30 d post 32 (some (.inr q) :: lo) st f = en_R cs 30 d post 33 (some (.inr q) :: lo) (.inr q :: st) f := ru_aload1 (show en_cd 30 32 = some (.aload_n 0, 1, 0, 0) by decide +kernel) rfl
theorem r30_33 : en_R cs 30 d post 33 (a0 :: some (.inl x) :: lo) st f = en_R cs 30 d post 34 (a0 :: some (.inl x) :: lo) (.inl x :: st) f := ru_load1 (show en_cd 30 33 = some (.iload_n 1, 1, 0, 0) by decide +kernel) rfl
theorem r30_34 : en_R cs 30 d post 34 lo (.inl x :: .inr (3, i) :: st) f = (i < 6 ∧ en_R cs 30 d post 37 lo st (en_up f.1 3 i 4 x, f.2)) := ru_putI (show en_cd 30 34 = some (.putfield 33, 3, 3, 4) by decide +kernel) (by decide +kernel) (by decide +kernel) (by decide +kernel)
theorem r30_37 : en_R cs 30 d post 37 (some (.inr q) :: lo) st f = en_R cs 30 d post 38 (some (.inr q) :: lo) (.inr q :: st) f := ru_aload1 (show en_cd 30 37 = some (.aload_n 0, 1, 0, 0) by decide +kernel) rfl
theorem r30_38 : en_R cs 30 d post 38 lo st f = en_R cs 30 d post 39 lo (.inl 2 :: st) f := ru_iconst (show en_cd 30 38 = some (.iconst 2, 1, 0, 0) by decide +kernel) (by decide +kernel)
theorem r30_39 : en_R cs 30 d post 39 lo (.inl x :: .inr (3, i) :: st) f = (i < 6 ∧ en_R cs 30 d post 42 lo st (en_up f.1 3 i 3 x, f.2)) := ru_putI (show en_cd 30 39 = some (.putfield 18, 3, 3, 3) by decide +kernel) (by decide +kernel) (by decide +kernel) (by decide +kernel)
theorem r30_42 : en_R cs 30 d post 42 lo [] f = post none f := ru_vre (show en_cd 30 42 = some (.return_, 1, 0, 0) by decide +kernel) (by decide +kernel)
theorem r31_0 : en_R cs 31 d post 0 (some (.inr q) :: lo) st f = en_R cs 31 d post 1 (some (.inr q) :: lo) (.inr q :: st) f := ru_aload1 (show en_cd 31 0 = some (.aload_n 0, 1, 0, 0) by decide +kernel) rfl
theorem r31_1 : en_R cs 31 d post 1 (a0 :: some (.inr q) :: lo) st f = en_R cs 31 d post 2 (a0 :: some (.inr q) :: lo) (.inr q :: st) f := ru_aload1 (show en_cd 31 1 = some (.aload_n 1, 1, 0, 0) by decide +kernel) rfl
theorem r31_2 : en_R cs 31 d post 2 lo (.inr (4, i) :: st) f = (i < 6 ∧ en_R cs 31 d post 5 lo (.inl (f.1 4 i 3) :: st) f) := ru_getI (show en_cd 31 2 = some (.getfield 22, 3, 4, 3) by decide +kernel) (by decide +kernel) (by decide +kernel) (by decide +kernel)
theorem r31_5 : en_R cs 31 d post 5 lo (.inl x :: .inr (3, i) :: st) f = (i < 6 ∧ en_R cs 31 d post 8 lo st (en_up f.1 3 i 9 x, f.2)) := ru_putI (show en_cd 31 5 = some (.putfield 25, 3, 3, 9) by decide +kernel) (by decide +kernel) (by decide +kernel) (by decide +kernel)
theorem r31_8 : en_R cs 31 d post 8 (some (.inr q) :: lo) st f = en_R cs 31 d post 9 (some (.inr q) :: lo) (.inr q :: st) f := ru_aload1 (show en_cd 31 8 = some (.aload_n 0, 1, 0, 0) by decide +kernel) rfl
theorem r31_9 : en_R cs 31 d post 9 (a0 :: some (.inr q) :: lo) st f = en_R cs 31 d post 10 (a0 :: some (.inr q) :: lo) (.inr q :: st) f := ru_aload1 (show en_cd 31 9 = some (.aload_n 1, 1, 0, 0) by decide +kernel) rfl
theorem r31_10 : en_R cs 31 d post 10 lo (.inr (4, i) :: st) f = (i < 6 ∧ en_R cs 31 d post 13 lo (.inr (5, i) :: st) f) := ru_getR (show en_cd 31 10 = some (.getfield 51, 3, 4, 0) by decide +kernel) (by decide +kernel) (by decide +kernel)
theorem r31_13 : en_R cs 31 d post 13 lo (.inr (5, i) :: st) f = (i < 6 ∧ en_R cs 31 d post 16 lo (.inl (f.1 5 i 1) :: st) f) := ru_getI (show en_cd 31 13 = some (.getfield 55, 3, 5, 1) by decide +kernel) (by decide +kernel) (by decide +kernel) (by decide +kernel)
theorem r31_16 : en_R cs 31 d post 16 lo (.inl x :: .inr (3, i) :: st) f = (i < 6 ∧ en_R cs 31 d post 19 lo st (en_up f.1 3 i 10 x, f.2)) := ru_putI (show en_cd 31 16 = some (.putfield 60, 3, 3, 10) by decide +kernel) (by decide +kernel) (by decide +kernel) (by decide +kernel)
theorem r31_19 : en_R cs 31 d post 19 (some (.inr q) :: lo) st f = en_R cs 31 d post 20 (some (.inr q) :: lo) (.inr q :: st) f := ru_aload1 (show en_cd 31 19 = some (.aload_n 0, 1, 0, 0) by decide +kernel) rfl
theorem r31_20 : en_R cs 31 d post 20 (a0 :: some (.inr q) :: lo) st f = en_R cs 31 d post 21 (a0 :: some (.inr q) :: lo) (.inr q :: st) f := ru_aload1 (show en_cd 31 20 = some (.aload_n 1, 1, 0, 0) by decide +kernel) rfl
theorem r31_21 : en_R cs 31 d post 21 lo (.inr (4, i) :: st) f = (i < 6 ∧ en_R cs 31 d post 24 lo (.inl (f.1 4 i 4) :: st) f) := ru_getI (show en_cd 31 21 = some (.getfield 63, 3, 4, 4) by decide +kernel) (by decide +kernel) (by decide +kernel) (by decide +kernel)
theorem r31_24 : en_R cs 31 d post 24 lo (.inl x :: .inr (3, i) :: st) f = (i < 6 ∧ en_R cs 31 d post 27 lo st (en_up f.1 3 i 11 x, f.2)) := ru_putI (show en_cd 31 24 = some (.putfield 66, 3, 3, 11) by decide +kernel) (by decide +kernel) (by decide +kernel) (by decide +kernel)
theorem r31_27 : en_R cs 31 d post 27 (some (.inr q) :: lo) st f = en_R cs 31 d post 28 (some (.inr q) :: lo) (.inr q :: st) f := ru_aload1 (show en_cd 31 27 = some (.aload_n 0, 1, 0, 0) by decide +kernel) rfl
theorem r31_28 : en_R cs 31 d post 28 (a0 :: some (.inr q) :: lo) st f = en_R cs 31 d post 29 (a0 :: some (.inr q) :: lo) (.inr q :: st) f := ru_aload1 (show en_cd 31 28 = some (.aload_n 1, 1, 0, 0) by decide +kernel) rfl
theorem r31_29 : en_R cs 31 d post 29 lo (.inr (4, i) :: st) f = (i < 6 ∧ en_R cs 31 d post 32 lo (.inl (f.1 4 i 5) :: st) f) := ru_getI (show en_cd 31 29 = some (.getfield 67, 3, 4, 5) by decide +kernel) (by decide +kernel) (by decide +kernel) (by decide +kernel)
theorem r31_32 : en_R cs 31 d post 32 lo (.inl x :: .inr (3, i) :: st) f = (i < 6 ∧ en_R cs 31 d post 35 lo st (en_up f.1 3 i 12 x, f.2)) := ru_putI (show en_cd 31 32 = some (.putfield 70, 3, 3, 12) by decide +kernel) (by decide +kernel) (by decide +kernel) (by decide +kernel)
theorem r31_35 : en_R cs 31 d post 35 lo [] f = post none f := ru_vre (show en_cd 31 35 = some (.return_, 1, 0, 0) by decide +kernel) (by decide +kernel)
theorem r32_0 : en_R cs 32 d post 0 (some (.inr q) :: lo) st f = en_R cs 32 d post 1 (some (.inr q) :: lo) (.inr q :: st) f := ru_aload1 (show en_cd 32 0 = some (.aload_n 0, 1, 0, 0) by decide +kernel) rfl
theorem r32_1 : en_R cs 32 d post 1 (a0 :: some (.inl x) :: lo) st f = en_R cs 32 d post 2 (a0 :: some (.inl x) :: lo) (.inl x :: st) f := ru_load1 (show en_cd 32 1 = some (.iload_n 1, 1, 0, 0) by decide +kernel) rfl
theorem r32_2 : en_R cs 32 d post 2 lo (.inl a :: st) f = (if a = 0 then en_R cs 32 d post 14 lo st f else en_R cs 32 d post 5 lo st f) := ru_ifeq (show en_cd 32 2 = some (.ifCond .eq 12, 3, 0, 0) by decide +kernel) (by decide +kernel)
theorem r32_5 : en_R cs 32 d post 5 (some (.inr q) :: lo) st f = en_R cs 32 d post 6 (some (.inr q) :: lo) (.inr q :: st) f := ru_aload1 (show en_cd 32 5 = some (.aload_n 0, 1, 0, 0) by decide +kernel) rfl
theorem r32_6 : en_R cs 32 d post 6 lo (.inr (3, i) :: st) f = (i < 6 ∧ en_R cs 32 d post 9 lo (.inl (f.1 3 i 7) :: st) f) := ru_getI (show en_cd 32 6 = some (.getfield 45, 3, 3, 7) by decide +kernel) (by decide +kernel) (by decide +kernel) (by decide +kernel)
theorem r32_9 : en_R cs 32 d post 9 lo st f = en_R cs 32 d post 10 lo (.inl 1 :: st) f := ru_iconst (show en_cd 32 9 = some (.iconst 1, 1, 0, 0) by decide +kernel) (by decide +kernel)
theorem r32_10 : en_R cs 32 d post 10 lo (.inl b :: .inl a :: st) f = en_R cs 32 d post 11 lo (.inl (a + b) :: st) f := ru_iadd (show en_cd 32 10 = some (.iadd, 1, 0, 0) by decide +kernel)
theorem r32_11 : en_R cs 32 d post 11 lo st f = en_R cs 32 d post 15 lo st f := ru_goto (show en_cd 32 11 = some (.goto 4, 3, 0, 0) by decide +kernel) (by decide +kernel)
theorem r32_14 : en_R cs 32 d post 14 lo st f = en_R cs 32 d post 15 lo (.inl 0 :: st) f := ru_iconst (show en_cd 32 14 = some (.iconst 0, 1, 0, 0) by decide +kernel) (by decide +kernel)
theorem r32_15 : en_R cs 32 d post 15 lo (.inl x :: .inr (3, i) :: st) f = (i < 6 ∧ en_R cs 32 d post 18 lo st (en_up f.1 3 i 7 x, f.2)) := ru_putI (show en_cd 32 15 = some (.putfield 45, 3, 3, 7) by decide +kernel) (by decide +kernel) (by decide +kernel) (by decide +kernel)
theorem r32_18 : en_R cs 32 d post 18 (some (.inr q) :: lo) st f = en_R cs 32 d post 19 (some (.inr q) :: lo) (.inr q :: st) f := ru_aload1 (show en_cd 32 18 = some (.aload_n 0, 1, 0, 0) by decide +kernel) rfl
theorem r32_19 : en_R cs 32 d post 19 lo (.inr (3, i) :: st) f = (i < 6 ∧ en_R cs 32 d post 22 lo (.inl (f.1 3 i 7) :: st) f) := ru_getI (show en_cd 32 19 = some (.getfield 45, 3, 3, 7) by decide +kernel) (by decide +kernel) (by decide +kernel) (by decide +kernel)
theorem r32_22 : en_R cs 32 d post 22 lo st f = en_R cs 32 d post 23 lo (.inl 3 :: st) f := ru_iconst (show en_cd 32 22 = some (.iconst 3, 1, 0, 0) by decide +kernel) (by decide +kernel)
theorem r32_23 : en_R cs 32 d post 23 lo (.inl b :: .inl a :: st) f = (if a < b then en_R cs 32 d post 30 lo st f else en_R cs 32 d post 26 lo st f) := ru_iclt (show en_cd 32 23 = some (.if_icmp .lt 7, 3, 0, 0) by decide +kernel) (by decide +kernel)
theorem r32_26 : en_R cs 32 d post 26 lo st f = en_R cs 32 d post 27 lo (.inl 1 :: st) f := ru_iconst (show en_cd 32 26 = some (.iconst 1, 1, 0, 0) by decide +kernel) (by decide +kernel)
theorem r32_27 : en_R cs 32 d post 27 lo st f = en_R cs 32 d post 31 lo st f := ru_goto (show en_cd 32 27 = some (.goto 4, 3, 0, 0) by decide +kernel) (by decide +kernel)
theorem r32_30 : en_R cs 32 d post 30 lo st f = en_R cs 32 d post 31 lo (.inl 0 :: st) f := ru_iconst (show en_cd 32 30 = some (.iconst 0, 1, 0, 0) by decide +kernel) (by decide +kernel)
theorem r32_31 : en_R cs 32 d post 31 lo ([.inl x]) f = (en_isz x = true ∧ post (some (.inl x)) f) := ru_ire2 (show en_cd 32 31 = some (.ireturn, 1, 0, 0) by decide +kernel) (by decide +kernel)
theorem r33_0 : en_R cs 33 d post 0 (some (.inr q) :: lo) st f = en_R cs 33 d post 1 (some (.inr q) :: lo) (.inr q :: st) f := ru_aload1 (show en_cd 33 0 = some (.aload_n 0, 1, 0, 0) by decide +kernel) rfl
theorem r33_1 : en_R cs 33 d post 1 (a0 :: some (.inl x) :: lo) st f = en_R cs 33 d post 2 (a0 :: some (.inl x) :: lo) (.inl x :: st) f := ru_load1 (show en_cd 33 1 = some (.iload_n 1, 1, 0, 0) by decide +kernel) rfl
theorem r33_2 : en_R cs 33 d post 2 lo (u1 :: .inr (0, i) :: st) f = (st.length ≤ 8 ∧ i < 1 ∧ en_Ev d 52 [.inr (0, i), u1] f (fun r g => en_R cs 33 d post 5 lo (r.toList ++ st) g)) := ru_iv (al := [u1]) (show en_cd 33 2 = some (.invokevirtual 41, 3, 52, 0) by decide +kernel) (by decide +kernel) (show en_np 52 = 1 by decide +kernel) (by decide +kernel) rfl
theorem r33_5 : en_R cs 33 d post 5 lo (.inl a :: st) f = (if a = 0 then en_R cs 33 d post 30 lo st f else en_R cs 33 d post 8 lo st f) := ru_ifeq (show en_cd 33 5 = some (.ifCond .eq 25, 3, 0, 0) by decide +kernel) (by decide +kernel)
theorem r33_8 : en_R cs 33 d post 8 (some (.inr q) :: lo) st f = en_R cs 33 d post 9 (some (.inr q) :: lo) (.inr q :: st) f := ru_aload1 (show en_cd 33 8 = some (.aload_n 0, 1, 0, 0) by decide +kernel) rfl
theorem r33_9 : en_R cs 33 d post 9 lo (.inr (0, i) :: st) f = (i < 1 ∧ en_R cs 33 d post 12 lo (.inr (1, i) :: st) f) := ru_getR (show en_cd 33 9 = some (.getfield 11, 3, 0, 0) by decide +kernel) (by decide +kernel) (by decide +kernel)
theorem r33_12 : en_R cs 33 d post 12 (a0 :: some (.inl x) :: lo) st f = en_R cs 33 d post 13 (a0 :: some (.inl x) :: lo) (.inl x :: st) f := ru_load1 (show en_cd 33 12 = some (.iload_n 1, 1, 0, 0) by decide +kernel) rfl
theorem r33_13 : en_R cs 33 d post 13 lo (.inl x :: .inr (1, i) :: st) f = (i < 1 ∧ en_inr x 6 = true ∧ en_R cs 33 d post 14 lo (.inr (3, x.toNatClampNeg) :: st) f) := ru_aald (show en_cd 33 13 = some (.aaload, 1, 0, 0) by decide +kernel) (by decide +kernel) (by decide +kernel) (by decide +kernel) (by decide +kernel)
theorem r33_14 : en_R cs 33 d post 14 lo (.inr (3, i) :: st) f = (st.length ≤ 8 ∧ i < 6 ∧ en_Ev d 26 [.inr (3, i)] f (fun r g => en_R cs 33 d post 17 lo (r.toList ++ st) g)) := ru_iv (al := []) (show en_cd 33 14 = some (.invokevirtual 45, 3, 26, 0) by decide +kernel) (by decide +kernel) (show en_np 26 = 0 by decide +kernel) (by decide +kernel) rfl
theorem r33_17 : en_R cs 33 d post 17 lo (.inl a :: st) f = (if a = 0 then en_R cs 33 d post 20 lo st f else en_R cs 33 d post 30 lo st f) := ru_ifne (show en_cd 33 17 = some (.ifCond .ne 13, 3, 0, 0) by decide +kernel) (by decide +kernel)
theorem r33_20 : en_R cs 33 d post 20 (a0 :: a1 :: some (.inl x) :: lo) st f = en_R cs 33 d post 21 (a0 :: a1 :: some (.inl x) :: lo) (.inl x :: st) f := ru_load1 (show en_cd 33 20 = some (.iload_n 2, 1, 0, 0) by decide +kernel) rfl
theorem r33_21 : en_R cs 33 d post 21 (a0 :: a1 :: a2 :: some (.inl x) :: lo) st f = en_R cs 33 d post 22 (a0 :: a1 :: a2 :: some (.inl x) :: lo) (.inl x :: st) f := ru_load1 (show en_cd 33 21 = some (.iload_n 3, 1, 0, 0) by decide +kernel) rfl
theorem r33_22 : en_R cs 33 d post 22 (a0 :: a1 :: a2 :: a3 :: some (.inl x) :: lo) st f = en_R cs 33 d post 24 (a0 :: a1 :: a2 :: a3 :: some (.inl x) :: lo) (.inl x :: st) f := ru_load2 (show en_cd 33 22 = some (.iload 4, 2, 0, 0) by decide +kernel) rfl
theorem r33_24 : en_R cs 33 d post 24 lo (u3 :: u2 :: u1 :: st) f = (st.length ≤ 8 ∧ en_Ev d 53 [u1, u2, u3] f (fun r g => en_R cs 33 d post 27 lo (r.toList ++ st) g)) := ru_is (al := [u1, u2, u3]) (show en_cd 33 24 = some (.invokestatic 49, 3, 53, 0) by decide +kernel) (by decide +kernel) (show en_np 53 = 3 by decide +kernel) rfl
theorem r33_27 : en_R cs 33 d post 27 lo (.inl a :: st) f = (if a = 0 then en_R cs 33 d post 30 lo st f else en_R cs 33 d post 32 lo st f) := ru_ifne (show en_cd 33 27 = some (.ifCond .ne 5, 3, 0, 0) by decide +kernel) (by decide +kernel)
theorem r33_30 : en_R cs 33 d post 30 lo st f = en_R cs 33 d post 31 lo (.inl 0 :: st) f := ru_iconst (show en_cd 33 30 = some (.iconst 0, 1, 0, 0) by decide +kernel) (by decide +kernel)
theorem r33_31 : en_R cs 33 d post 31 lo ([.inl x]) f = (en_isz x = true ∧ post (some (.inl x)) f) := ru_ire2 (show en_cd 33 31 = some (.ireturn, 1, 0, 0) by decide +kernel) (by decide +kernel)
theorem r33_32 : en_R cs 33 d post 32 (some (.inr q) :: lo) st f = en_R cs 33 d post 33 (some (.inr q) :: lo) (.inr q :: st) f := ru_aload1 (show en_cd 33 32 = some (.aload_n 0, 1, 0, 0) by decide +kernel) rfl
theorem r33_33 : en_R cs 33 d post 33 lo (.inr (0, i) :: st) f = (i < 1 ∧ en_R cs 33 d post 36 lo (.inr (1, i) :: st) f) := ru_getR (show en_cd 33 33 = some (.getfield 11, 3, 0, 0) by decide +kernel) (by decide +kernel) (by decide +kernel)
theorem r33_36 : en_R cs 33 d post 36 (a0 :: some (.inl x) :: lo) st f = en_R cs 33 d post 37 (a0 :: some (.inl x) :: lo) (.inl x :: st) f := ru_load1 (show en_cd 33 36 = some (.iload_n 1, 1, 0, 0) by decide +kernel) rfl
theorem r33_37 : en_R cs 33 d post 37 lo (.inl x :: .inr (1, i) :: st) f = (i < 1 ∧ en_inr x 6 = true ∧ en_R cs 33 d post 38 lo (.inr (3, x.toNatClampNeg) :: st) f) := ru_aald (show en_cd 33 37 = some (.aaload, 1, 0, 0) by decide +kernel) (by decide +kernel) (by decide +kernel) (by decide +kernel) (by decide +kernel)
theorem r33_38 : en_R cs 33 d post 38 lo st f = en_R cs 33 d post 39 lo (.inl 0 :: st) f := ru_iconst (show en_cd 33 38 = some (.iconst 0, 1, 0, 0) by decide +kernel) (by decide +kernel)
theorem r33_39 : en_R cs 33 d post 39 lo (.inl x :: .inr (3, i) :: st) f = (i < 6 ∧ en_isz x = true ∧ en_R cs 33 d post 42 lo st (en_up f.1 3 i 1 x, f.2)) := ru_putZ (show en_cd 33 39 = some (.putfield 53, 3, 3, 1) by decide +kernel) (by decide +kernel) (by decide +kernel) (by decide +kernel)
theorem r33_42 : en_R cs 33 d post 42 (some (.inr q) :: lo) st f = en_R cs 33 d post 43 (some (.inr q) :: lo) (.inr q :: st) f := ru_aload1 (show en_cd 33 42 = some (.aload_n 0, 1, 0, 0) by decide +kernel) rfl
theorem r33_43 : en_R cs 33 d post 43 lo (.inr (0, i) :: st) f = (i < 1 ∧ en_R cs 33 d post 46 lo (.inr (1, i) :: st) f) := ru_getR (show en_cd 33 43 = some (.getfield 11, 3, 0, 0) by decide +kernel) (by decide +kernel) (by decide +kernel)
theorem r33_46 : en_R cs 33 d post 46 (a0 :: some (.inl x) :: lo) st f = en_R cs 33 d post 47 (a0 :: some (.inl x) :: lo) (.inl x :: st) f := ru_load1 (show en_cd 33 46 = some (.iload_n 1, 1, 0, 0) by decide +kernel) rfl
theorem r33_47 : en_R cs 33 d post 47 lo (.inl x :: .inr (1, i) :: st) f = (i < 1 ∧ en_inr x 6 = true ∧ en_R cs 33 d post 48 lo (.inr (3, x.toNatClampNeg) :: st) f) := ru_aald (show en_cd 33 47 = some (.aaload, 1, 0, 0) by decide +kernel) (by decide +kernel) (by decide +kernel) (by decide +kernel) (by decide +kernel)
theorem r33_48 : en_R cs 33 d post 48 lo (.inr (3, i) :: st) f = (i < 6 ∧ en_R cs 33 d post 51 lo (.inr (4, i) :: st) f) := ru_getR (show en_cd 33 48 = some (.getfield 57, 3, 3, 0) by decide +kernel) (by decide +kernel) (by decide +kernel)
theorem r33_51 : en_R cs 33 d post 51 (a0 :: a1 :: some (.inl x) :: lo) st f = en_R cs 33 d post 52 (a0 :: a1 :: some (.inl x) :: lo) (.inl x :: st) f := ru_load1 (show en_cd 33 51 = some (.iload_n 2, 1, 0, 0) by decide +kernel) rfl
theorem r33_52 : en_R cs 33 d post 52 (a0 :: a1 :: a2 :: some (.inl x) :: lo) st f = en_R cs 33 d post 53 (a0 :: a1 :: a2 :: some (.inl x) :: lo) (.inl x :: st) f := ru_load1 (show en_cd 33 52 = some (.iload_n 3, 1, 0, 0) by decide +kernel) rfl
theorem r33_53 : en_R cs 33 d post 53 (a0 :: a1 :: a2 :: a3 :: some (.inl x) :: lo) st f = en_R cs 33 d post 55 (a0 :: a1 :: a2 :: a3 :: some (.inl x) :: lo) (.inl x :: st) f := ru_load2 (show en_cd 33 53 = some (.iload 4, 2, 0, 0) by decide +kernel) rfl
theorem r33_55 : en_R cs 33 d post 55 lo (u3 :: u2 :: u1 :: .inr (4, i) :: st) f = (st.length ≤ 8 ∧ i < 6 ∧ en_Ev d 17 [.inr (4, i), u1, u2, u3] f (fun r g => en_R cs 33 d post 58 lo (r.toList ++ st) g)) := ru_iv (al := [u1, u2, u3]) (show en_cd 33 55 = some (.invokevirtual 61, 3, 17, 0) by decide +kernel) (by decide +kernel) (show en_np 17 = 3 by decide +kernel) (by decide +kernel) rfl
theorem r33_58 : en_R cs 33 d post 58 (some (.inr q) :: lo) st f = en_R cs 33 d post 59 (some (.inr q) :: lo) (.inr q :: st) f := ru_aload1 (show en_cd 33 58 = some (.aload_n 0, 1, 0, 0) by decide +kernel) rfl
theorem r33_59 : en_R cs 33 d post 59 (a0 :: some (.inl x) :: lo) st f = en_R cs 33 d post 60 (a0 :: some (.inl x) :: lo) (.inl x :: st) f := ru_load1 (show en_cd 33 59 = some (.iload_n 1, 1, 0, 0) by decide +kernel) rfl
theorem r33_60 : en_R cs 33 d post 60 lo (u1 :: .inr (0, i) :: st) f = (st.length ≤ 8 ∧ i < 1 ∧ en_Ev d 54 [.inr (0, i), u1] f (fun r g => en_R cs 33 d post 63 lo (r.toList ++ st) g)) := ru_iv (al := [u1]) (show en_cd 33 60 = some (.invokevirtual 67, 3, 54, 0) by decide +kernel) (by decide +kernel) (show en_np 54 = 1 by decide +kernel) (by decide +kernel) rfl
theorem r33_63 : en_R cs 33 d post 63 lo st f = en_R cs 33 d post 64 lo (.inl 1 :: st) f := ru_iconst (show en_cd 33 63 = some (.iconst 1, 1, 0, 0) by decide +kernel) (by decide +kernel)
theorem r33_64 : en_R cs 33 d post 64 lo ([.inl x]) f = (en_isz x = true ∧ post (some (.inl x)) f) := ru_ire2 (show en_cd 33 64 = some (.ireturn, 1, 0, 0) by decide +kernel) (by decide +kernel)
theorem r34_0 : en_R cs 34 d post 0 (a0 :: some (.inl x) :: lo) st f = en_R cs 34 d post 1 (a0 :: some (.inl x) :: lo) (.inl x :: st) f := ru_load1 (show en_cd 34 0 = some (.iload_n 1, 1, 0, 0) by decide +kernel) rfl
theorem r34_1 : en_R cs 34 d post 1 lo (u1 :: st) f = (st.length ≤ 8 ∧ en_Ev d 49 [u1] f (fun r g => en_R cs 34 d post 4 lo (r.toList ++ st) g)) := ru_is (al := [u1]) (show en_cd 34 1 = some (.invokestatic 71, 3, 49, 0) by decide +kernel) (by decide +kernel) (show en_np 49 = 1 by decide +kernel) rfl
theorem r34_4 : en_R cs 34 d post 4 lo (.inl a :: st) f = (if a = 0 then en_R cs 34 d post 19 lo st f else en_R cs 34 d post 7 lo st f) := ru_ifeq (show en_cd 34 4 = some (.ifCond .eq 15, 3, 0, 0) by decide +kernel) (by decide +kernel)
theorem r34_7 : en_R cs 34 d post 7 (some (.inr q) :: lo) st f = en_R cs 34 d post 8 (some (.inr q) :: lo) (.inr q :: st) f := ru_aload1 (show en_cd 34 7 = some (.aload_n 0, 1, 0, 0) by decide +kernel) rfl
theorem r34_8 : en_R cs 34 d post 8 lo (.inr (0, i) :: st) f = (i < 1 ∧ en_R cs 34 d post 11 lo (.inr (1, i) :: st) f) := ru_getR (show en_cd 34 8 = some (.getfield 11, 3, 0, 0) by decide +kernel) (by decide +kernel) (by decide +kernel)
theorem r34_11 : en_R cs 34 d post 11 (a0 :: some (.inl x) :: lo) st f = en_R cs 34 d post 12 (a0 :: some (.inl x) :: lo) (.inl x :: st) f := ru_load1 (show en_cd 34 11 = some (.iload_n 1, 1, 0, 0) by decide +kernel) rfl
theorem r34_12 : en_R cs 34 d post 12 lo (.inl x :: .inr (1, i) :: st) f = (i < 1 ∧ en_inr x 6 = true ∧ en_R cs 34 d post 13 lo (.inr (3, x.toNatClampNeg) :: st) f) := ru_aald (show en_cd 34 12 = some (.aaload, 1, 0, 0) by decide +kernel) (by decide +kernel) (by decide +kernel) (by decide +kernel) (by decide +kernel)
theorem r34_13 : en_R cs 34 d post 13 lo (.inr (3, i) :: st) f = (st.length ≤ 8 ∧ i < 6 ∧ en_Ev d 26 [.inr (3, i)] f (fun r g => en_R cs 34 d post 16 lo (r.toList ++ st) g)) := ru_iv (al := []) (show en_cd 34 13 = some (.invokevirtual 45, 3, 26, 0) by decide +kernel) (by decide +kernel) (show en_np 26 = 0 by decide +kernel) (by decide +kernel) rfl
theorem r34_16 : en_R cs 34 d post 16 lo (.inl a :: st) f = (if a = 0 then en_R cs 34 d post 19 lo st f else en_R cs 34 d post 21 lo st f) := ru_ifne (show en_cd 34 16 = some (.ifCond .ne 5, 3, 0, 0) by decide +kernel) (by decide +kernel)
theorem r34_19 : en_R cs 34 d post 19 lo st f = en_R cs 34 d post 20 lo (.inl 0 :: st) f := ru_iconst (show en_cd 34 19 = some (.iconst 0, 1, 0, 0) by decide +kernel) (by decide +kernel)
theorem r34_20 : en_R cs 34 d post 20 lo ([.inl x]) f = (en_isz x = true ∧ post (some (.inl x)) f) := ru_ire2 (show en_cd 34 20 = some (.ireturn, 1, 0, 0) by decide +kernel) (by decide +kernel)
theorem r34_21 : en_R cs 34 d post 21 (some (.inr q) :: lo) st f = en_R cs 34 d post 22 (some (.inr q) :: lo) (.inr q :: st) f := ru_aload1 (show en_cd 34 21 = some (.aload_n 0, 1, 0, 0) by decide +kernel) rfl
theorem r34_22 : en_R cs 34 d post 22 lo (.inr (0, i) :: st) f = (i < 1 ∧ en_R cs 34 d post 25 lo (.inr (1, i) :: st) f) := ru_getR (show en_cd 34 22 = some (.getfield 11, 3, 0, 0) by decide +kernel) (by decide +kernel) (by decide +kernel)
theorem r34_25 : en_R cs 34 d post 25 (a0 :: some (.inl x) :: lo) st f = en_R cs 34 d post 26 (a0 :: some (.inl x) :: lo) (.inl x :: st) f := ru_load1 (show en_cd 34 25 = some (.iload_n 1, 1, 0, 0) by decide +kernel) rfl
theorem r34_26 : en_R cs 34 d post 26 lo (.inl x :: .inr (1, i) :: st) f = (i < 1 ∧ en_inr x 6 = true ∧ en_R cs 34 d post 27 lo (.inr (3, x.toNatClampNeg) :: st) f) := ru_aald (show en_cd 34 26 = some (.aaload, 1, 0, 0) by decide +kernel) (by decide +kernel) (by decide +kernel) (by decide +kernel) (by decide +kernel)
theorem r34_27 : en_R cs 34 d post 27 lo (.inr (3, i) :: st) f = (i < 6 ∧ en_R cs 34 d post 30 lo (.inr (4, i) :: st) f) := ru_getR (show en_cd 34 27 = some (.getfield 57, 3, 3, 0) by decide +kernel) (by decide +kernel) (by decide +kernel)
theorem r34_30 : en_R cs 34 d post 30 lo (.inr (4, i) :: st) f = (i < 6 ∧ en_R cs 34 d post 33 lo (.inl (f.1 4 i 3) :: st) f) := ru_getI (show en_cd 34 30 = some (.getfield 74, 3, 4, 3) by decide +kernel) (by decide +kernel) (by decide +kernel) (by decide +kernel)
theorem r34_33 : en_R cs 34 d post 33 lo st f = en_R cs 34 d post 34 lo (.inl 3 :: st) f := ru_iconst (show en_cd 34 33 = some (.iconst 3, 1, 0, 0) by decide +kernel) (by decide +kernel)
theorem r34_34 : en_R cs 34 d post 34 lo (.inl b :: .inl a :: st) f = (if a = b then en_R cs 34 d post 37 lo st f else en_R cs 34 d post 41 lo st f) := ru_icne (show en_cd 34 34 = some (.if_icmp .ne 7, 3, 0, 0) by decide +kernel) (by decide +kernel)
theorem r34_37 : en_R cs 34 d post 37 lo st f = en_R cs 34 d post 38 lo (.inl 1 :: st) f := ru_iconst (show en_cd 34 37 = some (.iconst 1, 1, 0, 0) by decide +kernel) (by decide +kernel)
theorem r34_38 : en_R cs 34 d post 38 lo st f = en_R cs 34 d post 42 lo st f := ru_goto (show en_cd 34 38 = some (.goto 4, 3, 0, 0) by decide +kernel) (by decide +kernel)
theorem r34_41 : en_R cs 34 d post 41 lo st f = en_R cs 34 d post 42 lo (.inl 0 :: st) f := ru_iconst (show en_cd 34 41 = some (.iconst 0, 1, 0, 0) by decide +kernel) (by decide +kernel)
theorem r34_42 : en_R cs 34 d post 42 (a0 :: a1 :: a2 :: lo) (.inl x :: st) f = en_R cs 34 d post 43 (a0 :: a1 :: some (.inl x) :: lo) st f := ru_istore1 (show en_cd 34 42 = some (.istore_n 2, 1, 0, 0) by decide +kernel) (Nat.lt_of_lt_of_le (by decide : 2 < 3) (Nat.le_add_left 3 lo.length))
theorem r34_43 : en_R cs 34 d post 43 (some (.inr q) :: lo) st f = en_R cs 34 d post 44 (some (.inr q) :: lo) (.inr q :: st) f := ru_aload1 (show en_cd 34 43 = some (.aload_n 0, 1, 0, 0) by decide +kernel) rfl
theorem r34_44 : en_R cs 34 d post 44 lo (.inr (0, i) :: st) f = (i < 1 ∧ en_R cs 34 d post 47 lo (.inr (1, i) :: st) f) := ru_getR (show en_cd 34 44 = some (.getfield 11, 3, 0, 0) by decide +kernel) (by decide +kernel) (by decide +kernel)
theorem r34_47 : en_R cs 34 d post 47 (a0 :: some (.inl x) :: lo) st f = en_R cs 34 d post 48 (a0 :: some (.inl x) :: lo) (.inl x :: st) f := ru_load1 (show en_cd 34 47 = some (.iload_n 1, 1, 0, 0) by decide +kernel) rfl
theorem r34_48 : en_R cs 34 d post 48 lo (.inl x :: .inr (1, i) :: st) f = (i < 1 ∧ en_inr x 6 = true ∧ en_R cs 34 d post 49 lo (.inr (3, x.toNatClampNeg) :: st) f) := ru_aald (show en_cd 34 48 = some (.aaload, 1, 0, 0) by decide +kernel) (by decide +kernel) (by decide +kernel) (by decide +kernel) (by decide +kernel)
theorem r34_49 : en_R cs 34 d post 49 lo (.inr (3, i) :: st) f = (st.length ≤ 8 ∧ i < 6 ∧ en_Ev d 28 [.inr (3, i)] f (fun r g => en_R cs 34 d post 52 lo (r.toList ++ st) g)) := ru_iv (al := []) (show en_cd 34 49 = some (.invokevirtual 77, 3, 28, 0) by decide +kernel) (by decide +kernel) (show en_np 28 = 0 by decide +kernel) (by decide +kernel) rfl
theorem r34_52 : en_R cs 34 d post 52 (a0 :: a1 :: some (.inl x) :: lo) st f = en_R cs 34 d post 53 (a0 :: a1 :: some (.inl x) :: lo) (.inl x :: st) f := ru_load1 (show en_cd 34 52 = some (.iload_n 2, 1, 0, 0) by decide +kernel) rfl
theorem r34_53 : en_R cs 34 d post 53 lo (.inl a :: st) f = (if a = 0 then en_R cs 34 d post 104 lo st f else en_R cs 34 d post 56 lo st f) := ru_ifeq (show en_cd 34 53 = some (.ifCond .eq 51, 3, 0, 0) by decide +kernel) (by decide +kernel)
theorem r34_56 : en_R cs 34 d post 56 (a0 :: some (.inl x) :: lo) st f = en_R cs 34 d post 57 (a0 :: some (.inl x) :: lo) (.inl x :: st) f := ru_load1 (show en_cd 34 56 = some (.iload_n 1, 1, 0, 0) by decide +kernel) rfl
theorem r34_57 : en_R cs 34 d post 57 lo st f = en_R cs 34 d post 58 lo (.inl 2 :: st) f := ru_iconst (show en_cd 34 57 = some (.iconst 2, 1, 0, 0) by decide +kernel) (by decide +kernel)
theorem r34_58 : en_R cs 34 d post 58 lo (.inl b :: .inl a :: st) f = (if b ≤ a then en_R cs 34 d post 104 lo st f else en_R cs 34 d post 61 lo st f) := ru_icge (show en_cd 34 58 = some (.if_icmp .ge 46, 3, 0, 0) by decide +kernel) (by decide +kernel)
theorem r34_61 : en_R cs 34 d post 61 (a0 :: some (.inl x) :: lo) st f = en_R cs 34 d post 62 (a0 :: some (.inl x) :: lo) (.inl x :: st) f := ru_load1 (show en_cd 34 61 = some (.iload_n 1, 1, 0, 0) by decide +kernel) rfl
theorem r34_62 : en_R cs 34 d post 62 lo (u1 :: st) f = (st.length ≤ 8 ∧ en_Ev d 51 [u1] f (fun r g => en_R cs 34 d post 65 lo (r.toList ++ st) g)) := ru_is (al := [u1]) (show en_cd 34 62 = some (.invokestatic 80, 3, 51, 0) by decide +kernel) (by decide +kernel) (show en_np 51 = 1 by decide +kernel) rfl
theorem r34_65 : en_R cs 34 d post 65 (a0 :: a1 :: a2 :: a3 :: lo) (.inl x :: st) f = en_R cs 34 d post 66 (a0 :: a1 :: a2 :: some (.inl x) :: lo) st f := ru_istore1 (show en_cd 34 65 = some (.istore_n 3, 1, 0, 0) by decide +kernel) (Nat.lt_of_lt_of_le (by decide : 3 < 4) (Nat.le_add_left 4 lo.length))
theorem r34_66 : en_R cs 34 d post 66 (a0 :: a1 :: a2 :: some (.inl x) :: lo) st f = en_R cs 34 d post 67 (a0 :: a1 :: a2 :: some (.inl x) :: lo) (.inl x :: st) f := ru_load1 (show en_cd 34 66 = some (.iload_n 3, 1, 0, 0) by decide +kernel) rfl
theorem r34_67 : en_R cs 34 d post 67 (a0 :: a1 :: a2 :: a3 :: a4 :: lo) (.inl x :: st) f = en_R cs 34 d post 69 (a0 :: a1 :: a2 :: a3 :: some (.inl x) :: lo) st f := ru_istore2 (show en_cd 34 67 = some (.istore 4, 2, 0, 0) by decide +kernel) (Nat.lt_of_lt_of_le (by decide : 4 < 5) (Nat.le_add_left 5 lo.length))
theorem r34_69 : en_R cs 34 d post 69 (a0 :: a1 :: a2 :: a3 :: some (.inl x) :: lo) st f = en_R cs 34 d post 71 (a0 :: a1 :: a2 :: a3 :: some (.inl x) :: lo) (.inl x :: st) f := ru_load2 (show en_cd 34 69 = some (.iload 4, 2, 0, 0) by decide +kernel) rfl
theorem r34_71 : en_R cs 34 d post 71 (a0 :: a1 :: a2 :: some (.inl x) :: lo) st f = en_R cs 34 d post 72 (a0 :: a1 :: a2 :: some (.inl x) :: lo) (.inl x :: st) f := ru_load1 (show en_cd 34 71 = some (.iload_n 3, 1, 0, 0) by decide +kernel) rfl
theorem r34_72 : en_R cs 34 d post 72 lo st f = en_R cs 34 d post 73 lo (.inl 2 :: st) f := ru_iconst (show en_cd 34 72 = some (.iconst 2, 1, 0, 0) by decide +kernel) (by decide +kernel)
theorem r34_73 : en_R cs 34 d post 73 lo (.inl b :: .inl a :: st) f = en_R cs 34 d post 74 lo (.inl (a + b) :: st) f := ru_iadd (show en_cd 34 73 = some (.iadd, 1, 0, 0) by decide +kernel)
theorem r34_74 : en_R cs 34 d post 74 lo (.inl b :: .inl a :: st) f = (if b ≤ a then en_R cs 34 d post 104 lo st f else en_R cs 34 d post 77 lo st f) := ru_icge (show en_cd 34 74 = some (.if_icmp .ge 30, 3, 0, 0) by decide +kernel) (by decide +kernel)
theorem r34_77 : en_R cs 34 d post 77 (some (.inr q) :: lo) st f = en_R cs 34 d post 78 (some (.inr q) :: lo) (.inr q :: st) f := ru_aload1 (show en_cd 34 77 = some (.aload_n 0, 1, 0, 0) by decide +kernel) rfl
theorem r34_78 : en_R cs 34 d post 78 lo (.inr (0, i) :: st) f = (i < 1 ∧ en_R cs 34 d post 81 lo (.inr (1, i) :: st) f) := ru_getR (show en_cd 34 78 = some (.getfield 11, 3, 0, 0) by decide +kernel) (by decide +kernel) (by decide +kernel)
theorem r34_81 : en_R cs 34 d post 81 (a0 :: a1 :: a2 :: a3 :: some (.inl x) :: lo) st f = en_R cs 34 d post 83 (a0 :: a1 :: a2 :: a3 :: some (.inl x) :: lo) (.inl x :: st) f := ru_load2 (show en_cd 34 81 = some (.iload 4, 2, 0, 0) by decide +kernel) rfl
theorem r34_83 : en_R cs 34 d post 83 lo (.inl x :: .inr (1, i) :: st) f = (i < 1 ∧ en_inr x 6 = true ∧ en_R cs 34 d post 84 lo (.inr (3, x.toNatClampNeg) :: st) f) := ru_aald (show en_cd 34 83 = some (.aaload, 1, 0, 0) by decide +kernel) (by decide +kernel) (by decide +kernel) (by decide +kernel) (by decide +kernel)
theorem r34_84 : en_R cs 34 d post 84 lo (.inr (3, i) :: st) f = (st.length ≤ 8 ∧ i < 6 ∧ en_Ev d 28 [.inr (3, i)] f (fun r g => en_R cs 34 d post 87 lo (r.toList ++ st) g)) := ru_iv (al := []) (show en_cd 34 84 = some (.invokevirtual 77, 3, 28, 0) by decide +kernel) (by decide +kernel) (show en_np 28 = 0 by decide +kernel) (by decide +kernel) rfl
theorem r34_87 : en_R cs 34 d post 87 (some (.inr q) :: lo) st f = en_R cs 34 d post 88 (some (.inr q) :: lo) (.inr q :: st) f := ru_aload1 (show en_cd 34 87 = some (.aload_n 0, 1, 0, 0) by decide +kernel) rfl
theorem r34_88 : en_R cs 34 d post 88 lo (.inr (0, i) :: st) f = (i < 1 ∧ en_R cs 34 d post 91 lo (.inr (1, i) :: st) f) := ru_getR (show en_cd 34 88 = some (.getfield 11, 3, 0, 0) by decide +kernel) (by decide +kernel) (by decide +kernel)
theorem r34_91 : en_R cs 34 d post 91 (a0 :: a1 :: a2 :: a3 :: some (.inl x) :: lo) st f = en_R cs 34 d post 93 (a0 :: a1 :: a2 :: a3 :: some (.inl x) :: lo) (.inl x :: st) f := ru_load2 (show en_cd 34 91 = some (.iload 4, 2, 0, 0) by decide +kernel) rfl
theorem r34_93 : en_R cs 34 d post 93 lo (.inl x :: .inr (1, i) :: st) f = (i < 1 ∧ en_inr x 6 = true ∧ en_R cs 34 d post 94 lo (.inr (3, x.toNatClampNeg) :: st) f) := ru_aald (show en_cd 34 93 = some (.aaload, 1, 0, 0) by decide +kernel) (by decide +kernel) (by decide +kernel) (by decide +kernel) (by decide +kernel)
theorem r34_94 : en_R cs 34 d post 94 lo st f = en_R cs 34 d post 95 lo (.inl 0 :: st) f := ru_iconst (show en_cd 34 94 = some (.iconst 0, 1, 0, 0) by decide +kernel) (by decide +kernel)
theorem r34_95 : en_R cs 34 d post 95 lo (.inl x :: .inr (3, i) :: st) f = (i < 6 ∧ en_isz x = true ∧ en_R cs 34 d post 98 lo st (en_up f.1 3 i 2 x, f.2)) := ru_putZ (show en_cd 34 95 = some (.putfield 84, 3, 3, 2) by decide +kernel) (by decide +kernel) (by decide +kernel) (by decide +kernel)
theorem r34_98 : en_R cs 34 d post 98 (a0 :: a1 :: a2 :: a3 :: some (.inl x) :: lo) st f = en_R cs 34 d post 101 (a0 :: a1 :: a2 :: a3 :: some (.inl (x + 1)) :: lo) st f := ru_iinc (show en_cd 34 98 = some (.iinc 4 1, 3, 0, 0) by decide +kernel) (by decide +kernel) rfl
theorem r34_101 : en_R cs 34 d post 101 lo st f = en_R cs 34 d post 69 lo st f := ru_goto (show en_cd 34 101 = some (.goto (-32), 3, 0, 0) by decide +kernel) (by decide +kernel)
theorem r34_104 : en_R cs 34 d post 104 (some (.inr q) :: lo) st f = en_R cs 34 d post 105 (some (.inr q) :: lo) (.inr q :: st) f := ru_aload1 (show en_cd 34 104 = some (.aload_n 0, 1, 0, 0) by decide +kernel) rfl
theorem r34_105 : en_R cs 34 d post 105 (a0 :: some (.inl x) :: lo) st f = en_R cs 34 d post 106 (a0 :: some (.inl x) :: lo) (.inl x :: st) f := ru_load1 (show en_cd 34 105 = some (.iload_n 1, 1, 0, 0) by decide +kernel) rfl
theorem r34_106 : en_R cs 34 d post 106 lo (u1 :: .inr (0, i) :: st) f = (st.length ≤ 8 ∧ i < 1 ∧ en_Ev d 54 [.inr (0, i), u1] f (fun r g => en_R cs 34 d post 109 lo (r.toList ++ st) g)) := ru_iv (al := [u1]) (show en_cd 34 106 = some (.invokevirtual 67, 3, 54, 0) by decide +kernel) (by decide +kernel) (show en_np 54 = 1 by decide +kernel) (by decide +kernel) rfl
theorem r34_109 : en_R cs 34 d post 109 lo st f = en_R cs 34 d post 110 lo (.inl 1 :: st) f := ru_iconst (show en_cd 34 109 = some (.iconst 1, 1, 0, 0) by decide +kernel) (by decide +kernel)
theorem r34_110 : en_R cs 34 d post 110 lo ([.inl x]) f = (en_isz x = true ∧ post (some (.inl x)) f) := ru_ire2 (show en_cd 34 110 = some (.ireturn, 1, 0, 0) by decide +kernel) (by decide +kernel)
theorem r35_0 : en_R cs 35 d post 0 (a0 :: some (.inl x) :: lo) st f = en_R cs 35 d post 1 (a0 :: some (.inl x) :: lo) (.inl x :: st) f := ru_load1 (show en_cd 35 0 = some (.iload_n 1, 1, 0, 0) by decide +kernel) rfl
theorem r35_1 : en_R cs 35 d post 1 lo (u1 :: st) f = (st.length ≤ 8 ∧ en_Ev d 49 [u1] f (fun r g => en_R cs 35 d post 4 lo (r.toList ++ st) g)) := ru_is (al := [u1]) (show en_cd 35 1 = some (.invokestatic 71, 3, 49, 0) by decide +kernel) (by decide +kernel) (show en_np 49 = 1 by decide +kernel) rfl
theorem r35_4 : en_R cs 35 d post 4 lo (.inl a :: st) f = (if a = 0 then en_R cs 35 d post 18 lo st f else en_R cs 35 d post 7 lo st f) := ru_ifeq (show en_cd 35 4 = some (.ifCond .eq 14, 3, 0, 0) by decide +kernel) (by decide +kernel)
theorem r35_7 : en_R cs 35 d post 7 (a0 :: a1 :: some (.inl x) :: lo) st f = en_R cs 35 d post 8 (a0 :: a1 :: some (.inl x) :: lo) (.inl x :: st) f := ru_load1 (show en_cd 35 7 = some (.iload_n 2, 1, 0, 0) by decide +kernel) rfl
theorem r35_8 : en_R cs 35 d post 8 lo (.inl a :: st) f = (if a < 0 then en_R cs 35 d post 18 lo st f else en_R cs 35 d post 11 lo st f) := ru_iflt (show en_cd 35 8 = some (.ifCond .lt 10, 3, 0, 0) by decide +kernel) (by decide +kernel)
theorem r35_11 : en_R cs 35 d post 11 (a0 :: a1 :: some (.inl x) :: lo) st f = en_R cs 35 d post 12 (a0 :: a1 :: some (.inl x) :: lo) (.inl x :: st) f := ru_load1 (show en_cd 35 11 = some (.iload_n 2, 1, 0, 0) by decide +kernel) rfl
theorem r35_12 : en_R cs 35 d post 12 lo st f = en_R cs 35 d post 15 lo (.inl 256 :: st) f := ru_sipush (show en_cd 35 12 = some (.sipush 256, 3, 0, 0) by decide +kernel) (by decide +kernel)
theorem r35_15 : en_R cs 35 d post 15 lo (.inl b :: .inl a :: st) f = (if a < b then en_R cs 35 d post 20 lo st f else en_R cs 35 d post 18 lo st f) := ru_iclt (show en_cd 35 15 = some (.if_icmp .lt 5, 3, 0, 0) by decide +kernel) (by decide +kernel)
theorem r35_18 : en_R cs 35 d post 18 lo st f = en_R cs 35 d post 19 lo (.inl 0 :: st) f := ru_iconst (show en_cd 35 18 = some (.iconst 0, 1, 0, 0) by decide +kernel) (by decide +kernel)
theorem r35_19 : en_R cs 35 d post 19 lo ([.inl x]) f = (en_isz x = true ∧ post (some (.inl x)) f) := ru_ire2 (show en_cd 35 19 = some (.ireturn, 1, 0, 0) by decide +kernel) (by decide +kernel)
theorem r35_20 : en_R cs 35 d post 20 (some (.inr q) :: lo) st f = en_R cs 35 d post 21 (some (.inr q) :: lo) (.inr q :: st) f := ru_aload1 (show en_cd 35 20 = some (.aload_n 0, 1, 0, 0) by decide +kernel) rfl
theorem r35_21 : en_R cs 35 d post 21 lo (.inr (0, i) :: st) f = (i < 1 ∧ en_R cs 35 d post 24 lo (.inr (1, i) :: st) f) := ru_getR (show en_cd 35 21 = some (.getfield 11, 3, 0, 0) by decide +kernel) (by decide +kernel) (by decide +kernel)
theorem r35_24 : en_R cs 35 d post 24 (a0 :: some (.inl x) :: lo) st f = en_R cs 35 d post 25 (a0 :: some (.inl x) :: lo) (.inl x :: st) f := ru_load1 (show en_cd 35 24 = some (.iload_n 1, 1, 0, 0) by decide +kernel) rfl
theorem r35_25 : en_R cs 35 d post 25 lo (.inl x :: .inr (1, i) :: st) f = (i < 1 ∧ en_inr x 6 = true ∧ en_R cs 35 d post 26 lo (.inr (3, x.toNatClampNeg) :: st) f) := ru_aald (show en_cd 35 25 = some (.aaload, 1, 0, 0) by decide +kernel) (by decide +kernel) (by decide +kernel) (by decide +kernel) (by decide +kernel)
theorem r35_26 : en_R cs 35 d post 26 lo (.inr (3, i) :: st) f = (i < 6 ∧ en_R cs 35 d post 29 lo (.inr (4, i) :: st) f) := ru_getR (show en_cd 35 26 = some (.getfield 57, 3, 3, 0) by decide +kernel) (by decide +kernel) (by decide +kernel)
theorem r35_29 : en_R cs 35 d post 29 (a0 :: a1 :: some (.inl x) :: lo) st f = en_R cs 35 d post 30 (a0 :: a1 :: some (.inl x) :: lo) (.inl x :: st) f := ru_load1 (show en_cd 35 29 = some (.iload_n 2, 1, 0, 0) by decide +kernel) rfl
theorem r35_30 : en_R cs 35 d post 30 lo (u1 :: .inr (4, i) :: st) f = (st.length ≤ 8 ∧ i < 6 ∧ en_Ev d 20 [.inr (4, i), u1] f (fun r g => en_R cs 35 d post 33 lo (r.toList ++ st) g)) := ru_iv (al := [u1]) (show en_cd 35 30 = some (.invokevirtual 87, 3, 20, 0) by decide +kernel) (by decide +kernel) (show en_np 20 = 1 by decide +kernel) (by decide +kernel) rfl
theorem r35_33 : en_R cs 35 d post 33 lo ([.inl x]) f = (en_isz x = true ∧ post (some (.inl x)) f) := ru_ire2 (show en_cd 35 33 = some (.ireturn, 1, 0, 0) by decide +kernel) (by decide +kernel)
theorem r36_0 : en_R cs 36 d post 0 (a0 :: some (.inl x) :: lo) st f = en_R cs 36 d post 1 (a0 :: some (.inl x) :: lo) (.inl x :: st) f := ru_load1 (show en_cd 36 0 = some (.iload_n 1, 1, 0, 0) by decide +kernel) rfl
theorem r36_1 : en_R cs 36 d post 1 lo st f = en_R cs 36 d post 2 lo (.inl 1 :: st) f := ru_iconst (show en_cd 36 1 = some (.iconst 1, 1, 0, 0) by decide +kernel) (by decide +kernel)
theorem r36_2 : en_R cs 36 d post 2 lo (.inl b :: .inl a :: st) f = (if a < b then en_R cs 36 d post 20 lo st f else en_R cs 36 d post 5 lo st f) := ru_iclt (show en_cd 36 2 = some (.if_icmp .lt 18, 3, 0, 0) by decide +kernel) (by decide +kernel)
theorem r36_5 : en_R cs 36 d post 5 (a0 :: some (.inl x) :: lo) st f = en_R cs 36 d post 6 (a0 :: some (.inl x) :: lo) (.inl x :: st) f := ru_load1 (show en_cd 36 5 = some (.iload_n 1, 1, 0, 0) by decide +kernel) rfl
theorem r36_6 : en_R cs 36 d post 6 lo st f = en_R cs 36 d post 8 lo (.inl 40 :: st) f := ru_bipush (show en_cd 36 6 = some (.bipush 40, 2, 0, 0) by decide +kernel) (by decide +kernel)
theorem r36_8 : en_R cs 36 d post 8 lo (.inl b :: .inl a :: st) f = (if b < a then en_R cs 36 d post 20 lo st f else en_R cs 36 d post 11 lo st f) := ru_icgt (show en_cd 36 8 = some (.if_icmp .gt 12, 3, 0, 0) by decide +kernel) (by decide +kernel)
theorem r36_11 : en_R cs 36 d post 11 (a0 :: a1 :: some (.inl x) :: lo) st f = en_R cs 36 d post 12 (a0 :: a1 :: some (.inl x) :: lo) (.inl x :: st) f := ru_load1 (show en_cd 36 11 = some (.iload_n 2, 1, 0, 0) by decide +kernel) rfl
theorem r36_12 : en_R cs 36 d post 12 lo (.inl a :: st) f = (if a < 0 then en_R cs 36 d post 20 lo st f else en_R cs 36 d post 15 lo st f) := ru_iflt (show en_cd 36 12 = some (.ifCond .lt 8, 3, 0, 0) by decide +kernel) (by decide +kernel)
theorem r36_15 : en_R cs 36 d post 15 (a0 :: a1 :: some (.inl x) :: lo) st f = en_R cs 36 d post 16 (a0 :: a1 :: some (.inl x) :: lo) (.inl x :: st) f := ru_load1 (show en_cd 36 15 = some (.iload_n 2, 1, 0, 0) by decide +kernel) rfl
theorem r36_16 : en_R cs 36 d post 16 lo st f = en_R cs 36 d post 17 lo (.inl 3 :: st) f := ru_iconst (show en_cd 36 16 = some (.iconst 3, 1, 0, 0) by decide +kernel) (by decide +kernel)
theorem r36_17 : en_R cs 36 d post 17 lo (.inl b :: .inl a :: st) f = (if a ≤ b then en_R cs 36 d post 22 lo st f else en_R cs 36 d post 20 lo st f) := ru_icle (show en_cd 36 17 = some (.if_icmp .le 5, 3, 0, 0) by decide +kernel) (by decide +kernel)
theorem r36_20 : en_R cs 36 d post 20 lo st f = en_R cs 36 d post 21 lo (.inl 0 :: st) f := ru_iconst (show en_cd 36 20 = some (.iconst 0, 1, 0, 0) by decide +kernel) (by decide +kernel)
theorem r36_21 : en_R cs 36 d post 21 lo ([.inl x]) f = (en_isz x = true ∧ post (some (.inl x)) f) := ru_ire2 (show en_cd 36 21 = some (.ireturn, 1, 0, 0) by decide +kernel) (by decide +kernel)
theorem r36_22 : en_R cs 36 d post 22 (some (.inr q) :: lo) st f = en_R cs 36 d post 23 (some (.inr q) :: lo) (.inr q :: st) f := ru_aload1 (show en_cd 36 22 = some (.aload_n 0, 1, 0, 0) by decide +kernel) rfl
theorem r36_23 : en_R cs 36 d post 23 lo (.inr (0, i) :: st) f = (i < 1 ∧ en_R cs 36 d post 26 lo (.inr (10, i) :: st) f) := ru_getR (show en_cd 36 23 = some (.getfield 24, 3, 0, 2) by decide +kernel) (by decide +kernel) (by decide +kernel)
theorem r36_26 : en_R cs 36 d post 26 (a0 :: some (.inl x) :: lo) st f = en_R cs 36 d post 27 (a0 :: some (.inl x) :: lo) (.inl x :: st) f := ru_load1 (show en_cd 36 26 = some (.iload_n 1, 1, 0, 0) by decide +kernel) rfl
theorem r36_27 : en_R cs 36 d post 27 (a0 :: a1 :: some (.inl x) :: lo) st f = en_R cs 36 d post 28 (a0 :: a1 :: some (.inl x) :: lo) (.inl x :: st) f := ru_load1 (show en_cd 36 27 = some (.iload_n 2, 1, 0, 0) by decide +kernel) rfl
theorem r36_28 : en_R cs 36 d post 28 lo (u2 :: u1 :: .inr (10, i) :: st) f = (st.length ≤ 8 ∧ i < 1 ∧ en_Ev d 13 [.inr (10, i), u1, u2] f (fun r g => en_R cs 36 d post 31 lo (r.toList ++ st) g)) := ru_iv (al := [u1, u2]) (show en_cd 36 28 = some (.invokevirtual 90, 3, 13, 0) by decide +kernel) (by decide +kernel) (show en_np 13 = 2 by decide +kernel) (by decide +kernel) rfl
theorem r36_31 : en_R cs 36 d post 31 lo st f = en_R cs 36 d post 32 lo (.inl 1 :: st) f := ru_iconst (show en_cd 36 31 = some (.iconst 1, 1, 0, 0) by decide +kernel) (by decide +kernel)
theorem r36_32 : en_R cs 36 d post 32 lo ([.inl x]) f = (en_isz x = true ∧ post (some (.inl x)) f) := ru_ire2 (show en_cd 36 32 = some (.ireturn, 1, 0, 0) by decide +kernel) (by decide +kernel)
theorem r37_0 : en_R cs 37 d post 0 (some (.inr q) :: lo) st f = en_R cs 37 d post 1 (some (.inr q) :: lo) (.inr q :: st) f := ru_aload1 (show en_cd 37 0 = some (.aload_n 0, 1, 0, 0) by decide +kernel) rfl
theorem r37_1 : en_R cs 37 d post 1 (a0 :: some (.inl x) :: lo) st f = en_R cs 37 d post 2 (a0 :: some (.inl x) :: lo) (.inl x :: st) f := ru_load1 (show en_cd 37 1 = some (.iload_n 1, 1, 0, 0) by decide +kernel) rfl
theorem r37_2 : en_R cs 37 d post 2 (a0 :: a1 :: some (.inl x) :: lo) st f = en_R cs 37 d post 3 (a0 :: a1 :: some (.inl x) :: lo) (.inl x :: st) f := ru_load1 (show en_cd 37 2 = some (.iload_n 2, 1, 0, 0) by decide +kernel) rfl
theorem r37_3 : en_R cs 37 d post 3 (a0 :: a1 :: a2 :: some (.inl x) :: lo) st f = en_R cs 37 d post 4 (a0 :: a1 :: a2 :: some (.inl x) :: lo) (.inl x :: st) f := ru_load1 (show en_cd 37 3 = some (.iload_n 3, 1, 0, 0) by decide +kernel) rfl
theorem r37_4 : en_R cs 37 d post 4 lo st f = en_R cs 37 d post 5 lo (.inl 0 :: st) f := ru_iconst (show en_cd 37 4 = some (.iconst 0, 1, 0, 0) by decide +kernel) (by decide +kernel)
theorem r37_5 : en_R cs 37 d post 5 lo st f = en_R cs 37 d post 6 lo (.inl 0 :: st) f := ru_iconst (show en_cd 37 5 = some (.iconst 0, 1, 0, 0) by decide +kernel) (by decide +kernel)
theorem r37_6 : en_R cs 37 d post 6 lo (u5 :: u4 :: u3 :: u2 :: u1 :: .inr (0, i) :: st) f = (st.length ≤ 8 ∧ i < 1 ∧ en_Ev d 84 [.inr (0, i), u1, u2, u3, u4, u5] f (fun r g => en_R cs 37 d post 9 lo (r.toList ++ st) g)) := ru_iv (al := [u1, u2, u3, u4, u5]) (show en_cd 37 6 = some (.invokevirtual 94, 3, 84, 0) by decide +kernel) (by decide +kernel) (show en_np 84 = 5 by decide +kernel) (by decide +kernel) rfl
theorem r37_9 : en_R cs 37 d post 9 lo ([.inl x]) f = post (some (.inl x)) f := ru_ire1 (show en_cd 37 9 = some (.ireturn, 1, 0, 0) by decide +kernel) (by decide +kernel)
theorem r38_0 : en_R cs 38 d post 0 (some (.inr q) :: lo) st f = en_R cs 38 d post 1 (some (.inr q) :: lo) (.inr q :: st) f := ru_aload1 (show en_cd 38 0 = some (.aload_n 0, 1, 0, 0) by decide +kernel) rfl
theorem r38_1 : en_R cs 38 d post 1 (a0 :: some (.inl x) :: lo) st f = en_R cs 38 d post 2 (a0 :: some (.inl x) :: lo) (.inl x :: st) f := ru_load1 (show en_cd 38 1 = some (.iload_n 1, 1, 0, 0) by decide +kernel) rfl
theorem r38_2 : en_R cs 38 d post 2 (a0 :: a1 :: some (.inl x) :: lo) st f = en_R cs 38 d post 3 (a0 :: a1 :: some (.inl x) :: lo) (.inl x :: st) f := ru_load1 (show en_cd 38 2 = some (.iload_n 2, 1, 0, 0) by decide +kernel) rfl
theorem r38_3 : en_R cs 38 d post 3 (a0 :: a1 :: a2 :: some (.inl x) :: lo) st f = en_R cs 38 d post 4 (a0 :: a1 :: a2 :: some (.inl x) :: lo) (.inl x :: st) f := ru_load1 (show en_cd 38 3 = some (.iload_n 3, 1, 0, 0) by decide +kernel) rfl
theorem r38_4 : en_R cs 38 d post 4 lo st f = en_R cs 38 d post 5 lo (.inl 1 :: st) f := ru_iconst (show en_cd 38 4 = some (.iconst 1, 1, 0, 0) by decide +kernel) (by decide +kernel)
theorem r38_5 : en_R cs 38 d post 5 (a0 :: a1 :: a2 :: a3 :: some (.inl x) :: lo) st f = en_R cs 38 d post 7 (a0 :: a1 :: a2 :: a3 :: some (.inl x) :: lo) (.inl x :: st) f := ru_load2 (show en_cd 38 5 = some (.iload 4, 2, 0, 0) by decide +kernel) rfl
theorem r38_7 : en_R cs 38 d post 7 lo (u5 :: u4 :: u3 :: u2 :: u1 :: .inr (0, i) :: st) f = (st.length ≤ 8 ∧ i < 1 ∧ en_Ev d 84 [.inr (0, i), u1, u2, u3, u4, u5] f (fun r g => en_R cs 38 d post 10 lo (r.toList ++ st) g)) := ru_iv (al := [u1, u2, u3, u4, u5]) (show en_cd 38 7 = some (.invokevirtual 94, 3, 84, 0) by decide +kernel) (by decide +kernel) (show en_np 84 = 5 by decide +kernel) (by decide +kernel) rfl
theorem r38_10 : en_R cs 38 d post 10 lo ([.inl x]) f = post (some (.inl x)) f := ru_ire1 (show en_cd 38 10 = some (.ireturn, 1, 0, 0) by decide +kernel) (by decide +kernel)
theorem r39_0 : en_R cs 39 d post 0 (a0 :: some (.inl x) :: lo) st f = en_R cs 39 d post 1 (a0 :: some (.inl x) :: lo) (.inl x :: st) f := ru_load1 (show en_cd 39 0 = some (.iload_n 1, 1, 0, 0) by decide +kernel) rfl
theorem r39_1 : en_R cs 39 d post 1 lo st f = en_R cs 39 d post 2 lo (.inl 1 :: st) f := ru_iconst (show en_cd 39 1 = some (.iconst 1, 1, 0, 0) by decide +kernel) (by decide +kernel)
theorem r39_2 : en_R cs 39 d post 2 lo (.inl b :: .inl a :: st) f = (if a < b then en_R cs 39 d post 11 lo st f else en_R cs 39 d post 5 lo st f) := ru_iclt (show en_cd 39 2 = some (.if_icmp .lt 9, 3, 0, 0) by decide +kernel) (by decide +kernel)
theorem r39_5 : en_R cs 39 d post 5 (a0 :: some (.inl x) :: lo) st f = en_R cs 39 d post 6 (a0 :: some (.inl x) :: lo) (.inl x :: st) f := ru_load1 (show en_cd 39 5 = some (.iload_n 1, 1, 0, 0) by decide +kernel) rfl
theorem r39_6 : en_R cs 39 d post 6 lo st f = en_R cs 39 d post 8 lo (.inl 40 :: st) f := ru_bipush (show en_cd 39 6 = some (.bipush 40, 2, 0, 0) by decide +kernel) (by decide +kernel)
theorem r39_8 : en_R cs 39 d post 8 lo (.inl b :: .inl a :: st) f = (if a ≤ b then en_R cs 39 d post 13 lo st f else en_R cs 39 d post 11 lo st f) := ru_icle (show en_cd 39 8 = some (.if_icmp .le 5, 3, 0, 0) by decide +kernel) (by decide +kernel)
theorem r39_11 : en_R cs 39 d post 11 lo st f = en_R cs 39 d post 12 lo (.inl (-1) :: st) f := ru_iconst (show en_cd 39 11 = some (.iconst (-1), 1, 0, 0) by decide +kernel) (by decide +kernel)
theorem r39_12 : en_R cs 39 d post 12 lo ([.inl x]) f = post (some (.inl x)) f := ru_ire1 (show en_cd 39 12 = some (.ireturn, 1, 0, 0) by decide +kernel) (by decide +kernel)
theorem r39_13 : en_R cs 39 d post 13 (some (.inr q) :: lo) st f = en_R cs 39 d post 14 (some (.inr q) :: lo) (.inr q :: st) f := ru_aload1 (show en_cd 39 13 = some (.aload_n 0, 1, 0, 0) by decide +kernel) rfl
theorem r39_14 : en_R cs 39 d post 14 lo (.inr (0, i) :: st) f = (i < 1 ∧ en_R cs 39 d post 17 lo (.inr (10, i) :: st) f) := ru_getR (show en_cd 39 14 = some (.getfield 24, 3, 0, 2) by decide +kernel) (by decide +kernel) (by decide +kernel)
theorem r39_17 : en_R cs 39 d post 17 lo (.inr (10, i) :: st) f = (i < 1 ∧ en_R cs 39 d post 20 lo (.inl (f.1 10 i 2) :: st) f) := ru_getI (show en_cd 39 17 = some (.getfield 98, 3, 10, 2) by decide +kernel) (by decide +kernel) (by decide +kernel) (by decide +kernel)
theorem r39_20 : en_R cs 39 d post 20 (a0 :: a1 :: a2 :: lo) (.inl x :: st) f = en_R cs 39 d post 21 (a0 :: a1 :: some (.inl x) :: lo) st f := ru_istore1 (show en_cd 39 20 = some (.istore_n 2, 1, 0, 0) by decide +kernel) (Nat.lt_of_lt_of_le (by decide : 2 < 3) (Nat.le_add_left 3 lo.length))
theorem r39_21 : en_R cs 39 d post 21 lo st f = en_R cs 39 d post 22 lo (.inl 0 :: st) f := ru_iconst (show en_cd 39 21 = some (.iconst 0, 1, 0, 0) by decide +kernel) (by decide +kernel)
theorem r39_22 : en_R cs 39 d post 22 (a0 :: a1 :: a2 :: a3 :: lo) (.inl x :: st) f = en_R cs 39 d post 23 (a0 :: a1 :: a2 :: some (.inl x) :: lo) st f := ru_istore1 (show en_cd 39 22 = some (.istore_n 3, 1, 0, 0) by decide +kernel) (Nat.lt_of_lt_of_le (by decide : 3 < 4) (Nat.le_add_left 4 lo.length))
theorem r39_23 : en_R cs 39 d post 23 (a0 :: a1 :: a2 :: some (.inl x) :: lo) st f = en_R cs 39 d post 24 (a0 :: a1 :: a2 :: some (.inl x) :: lo) (.inl x :: st) f := ru_load1 (show en_cd 39 23 = some (.iload_n 3, 1, 0, 0) by decide +kernel) rfl
theorem r39_24 : en_R cs 39 d post 24 (a0 :: some (.inl x) :: lo) st f = en_R cs 39 d post 25 (a0 :: some (.inl x) :: lo) (.inl x :: st) f := ru_load1 (show en_cd 39 24 = some (.iload_n 1, 1, 0, 0) by decide +kernel) rfl
theorem r39_25 : en_R cs 39 d post 25 lo (.inl b :: .inl a :: st) f = (if b ≤ a then en_R cs 39 d post 74 lo st f else en_R cs 39 d post 28 lo st f) := ru_icge (show en_cd 39 25 = some (.if_icmp .ge 49, 3, 0, 0) by decide +kernel) (by decide +kernel)
theorem r39_28 : en_R cs 39 d post 28 (some (.inr q) :: lo) st f = en_R cs 39 d post 29 (some (.inr q) :: lo) (.inr q :: st) f := ru_aload1 (show en_cd 39 28 = some (.aload_n 0, 1, 0, 0) by decide +kernel) rfl
theorem r39_29 : en_R cs 39 d post 29 lo (.inr (0, i) :: st) f = (st.length ≤ 8 ∧ i < 1 ∧ en_Ev d 55 [.inr (0, i)] f (fun r g => en_R cs 39 d post 32 lo (r.toList ++ st) g)) := ru_iv (al := []) (show en_cd 39 29 = some (.invokevirtual 101, 3, 55, 0) by decide +kernel) (by decide +kernel) (show en_np 55 = 0 by decide +kernel) (by decide +kernel) rfl
theorem r39_32 : en_R cs 39 d post 32 lo st f = en_R cs 39 d post 34 lo (.inl 100 :: st) f := ru_bipush (show en_cd 39 32 = some (.bipush 100, 2, 0, 0) by decide +kernel) (by decide +kernel)
theorem r39_34 : en_R cs 39 d post 34 (some (.inr q) :: lo) st f = en_R cs 39 d post 35 (some (.inr q) :: lo) (.inr q :: st) f := ru_aload1 (show en_cd 39 34 = some (.aload_n 0, 1, 0, 0) by decide +kernel) rfl
theorem r39_35 : en_R cs 39 d post 35 lo (.inr (0, i) :: st) f = (st.length ≤ 8 ∧ i < 1 ∧ en_Ev d 70 [.inr (0, i)] f (fun r g => en_R cs 39 d post 38 lo (r.toList ++ st) g)) := ru_iv (al := []) (show en_cd 39 35 = some (.invokevirtual 104, 3, 70, 0) by decide +kernel) (by decide +kernel) (show en_np 70 = 0 by decide +kernel) (by decide +kernel) rfl
theorem r39_38 : en_R cs 39 d post 38 lo (.inl b :: .inl a :: st) f = en_R cs 39 d post 39 lo (.inl (a - b) :: st) f := ru_isub (show en_cd 39 38 = some (.isub, 1, 0, 0) by decide +kernel)
theorem r39_39 : en_R cs 39 d post 39 (a0 :: a1 :: a2 :: a3 :: a4 :: lo) (.inl x :: st) f = en_R cs 39 d post 41 (a0 :: a1 :: a2 :: a3 :: some (.inl x) :: lo) st f := ru_istore2 (show en_cd 39 39 = some (.istore 4, 2, 0, 0) by decide +kernel) (Nat.lt_of_lt_of_le (by decide : 4 < 5) (Nat.le_add_left 5 lo.length))
theorem r39_41 : en_R cs 39 d post 41 (a0 :: a1 :: a2 :: a3 :: some (.inl x) :: lo) st f = en_R cs 39 d post 43 (a0 :: a1 :: a2 :: a3 :: some (.inl x) :: lo) (.inl x :: st) f := ru_load2 (show en_cd 39 41 = some (.iload 4, 2, 0, 0) by decide +kernel) rfl
theorem r39_43 : en_R cs 39 d post 43 (some (.inr q) :: lo) st f = en_R cs 39 d post 44 (some (.inr q) :: lo) (.inr q :: st) f := ru_aload1 (show en_cd 39 43 = some (.aload_n 0, 1, 0, 0) by decide +kernel) rfl
theorem r39_44 : en_R cs 39 d post 44 (a0 :: a1 :: a2 :: a3 :: some (.inl x) :: lo) st f = en_R cs 39 d post 46 (a0 :: a1 :: a2 :: a3 :: some (.inl x) :: lo) (.inl x :: st) f := ru_load2 (show en_cd 39 44 = some (.iload 4, 2, 0, 0) by decide +kernel) rfl
theorem r39_46 : en_R cs 39 d post 46 lo (u1 :: .inr (0, i) :: st) f = (st.length ≤ 8 ∧ i < 1 ∧ en_Ev d 73 [.inr (0, i), u1] f (fun r g => en_R cs 39 d post 49 lo (r.toList ++ st) g)) := ru_iv (al := [u1]) (show en_cd 39 46 = some (.invokevirtual 108, 3, 73, 0) by decide +kernel) (by decide +kernel) (show en_np 73 = 1 by decide +kernel) (by decide +kernel) rfl
theorem r39_49 : en_R cs 39 d post 49 lo (.inl b :: .inl a :: st) f = en_R cs 39 d post 50 lo (.inl (a - b) :: st) f := ru_isub (show en_cd 39 49 = some (.isub, 1, 0, 0) by decide +kernel)
theorem r39_50 : en_R cs 39 d post 50 (a0 :: a1 :: a2 :: a3 :: a4 :: lo) (.inl x :: st) f = en_R cs 39 d post 52 (a0 :: a1 :: a2 :: a3 :: some (.inl x) :: lo) st f := ru_istore2 (show en_cd 39 50 = some (.istore 4, 2, 0, 0) by decide +kernel) (Nat.lt_of_lt_of_le (by decide : 4 < 5) (Nat.le_add_left 5 lo.length))
theorem r39_52 : en_R cs 39 d post 52 (some (.inr q) :: lo) st f = en_R cs 39 d post 53 (some (.inr q) :: lo) (.inr q :: st) f := ru_aload1 (show en_cd 39 52 = some (.aload_n 0, 1, 0, 0) by decide +kernel) rfl
theorem r39_53 : en_R cs 39 d post 53 (a0 :: a1 :: a2 :: a3 :: some (.inl x) :: lo) st f = en_R cs 39 d post 55 (a0 :: a1 :: a2 :: a3 :: some (.inl x) :: lo) (.inl x :: st) f := ru_load2 (show en_cd 39 53 = some (.iload 4, 2, 0, 0) by decide +kernel) rfl
theorem r39_55 : en_R cs 39 d post 55 lo (u1 :: .inr (0, i) :: st) f = (st.length ≤ 8 ∧ i < 1 ∧ en_Ev d 79 [.inr (0, i), u1] f (fun r g => en_R cs 39 d post 58 lo (r.toList ++ st) g)) := ru_iv (al := [u1]) (show en_cd 39 55 = some (.invokevirtual 111, 3, 79, 0) by decide +kernel) (by decide +kernel) (show en_np 79 = 1 by decide +kernel) (by decide +kernel) rfl
theorem r39_58 : en_R cs 39 d post 58 (some (.inr q) :: lo) st f = en_R cs 39 d post 59 (some (.inr q) :: lo) (.inr q :: st) f := ru_aload1 (show en_cd 39 58 = some (.aload_n 0, 1, 0, 0) by decide +kernel) rfl
theorem r39_59 : en_R cs 39 d post 59 lo (u :: st) f = en_R cs 39 d post 60 lo (u :: u :: st) f := ru_dup (show en_cd 39 59 = some (.dup, 1, 0, 0) by decide +kernel)
theorem r39_60 : en_R cs 39 d post 60 lo (.inr (0, i) :: st) f = (i < 1 ∧ en_R cs 39 d post 63 lo (.inl (f.1 0 i 5) :: st) f) := ru_getI (show en_cd 39 60 = some (.getfield 114, 3, 0, 5) by decide +kernel) (by decide +kernel) (by decide +kernel) (by decide +kernel)
theorem r39_63 : en_R cs 39 d post 63 lo st f = en_R cs 39 d post 64 lo (.inl 1 :: st) f := ru_iconst (show en_cd 39 63 = some (.iconst 1, 1, 0, 0) by decide +kernel) (by decide +kernel)
theorem r39_64 : en_R cs 39 d post 64 lo (.inl b :: .inl a :: st) f = en_R cs 39 d post 65 lo (.inl (a + b) :: st) f := ru_iadd (show en_cd 39 64 = some (.iadd, 1, 0, 0) by decide +kernel)
theorem r39_65 : en_R cs 39 d post 65 lo (.inl x :: .inr (0, i) :: st) f = (i < 1 ∧ en_R cs 39 d post 68 lo st (en_up f.1 0 i 5 x, f.2)) := ru_putI (show en_cd 39 65 = some (.putfield 114, 3, 0, 5) by decide +kernel) (by decide +kernel) (by decide +kernel) (by decide +kernel)
theorem r39_68 : en_R cs 39 d post 68 (a0 :: a1 :: a2 :: some (.inl x) :: lo) st f = en_R cs 39 d post 71 (a0 :: a1 :: a2 :: some (.inl (x + 1)) :: lo) st f := ru_iinc (show en_cd 39 68 = some (.iinc 3 1, 3, 0, 0) by decide +kernel) (by decide +kernel) rfl
theorem r39_71 : en_R cs 39 d post 71 lo st f = en_R cs 39 d post 23 lo st f := ru_goto (show en_cd 39 71 = some (.goto (-48), 3, 0, 0) by decide +kernel) (by decide +kernel)
theorem r39_74 : en_R cs 39 d post 74 (some (.inr q) :: lo) st f = en_R cs 39 d post 75 (some (.inr q) :: lo) (.inr q :: st) f := ru_aload1 (show en_cd 39 74 = some (.aload_n 0, 1, 0, 0) by decide +kernel) rfl
theorem r39_75 : en_R cs 39 d post 75 lo (.inr (0, i) :: st) f = (i < 1 ∧ en_R cs 39 d post 78 lo (.inr (10, i) :: st) f) := ru_getR (show en_cd 39 75 = some (.getfield 24, 3, 0, 2) by decide +kernel) (by decide +kernel) (by decide +kernel)
theorem r39_78 : en_R cs 39 d post 78 lo (.inr (10, i) :: st) f = (i < 1 ∧ en_R cs 39 d post 81 lo (.inl (f.1 10 i 2) :: st) f) := ru_getI (show en_cd 39 78 = some (.getfield 98, 3, 10, 2) by decide +kernel) (by decide +kernel) (by decide +kernel) (by decide +kernel)
theorem r39_81 : en_R cs 39 d post 81 (a0 :: a1 :: some (.inl x) :: lo) st f = en_R cs 39 d post 82 (a0 :: a1 :: some (.inl x) :: lo) (.inl x :: st) f := ru_load1 (show en_cd 39 81 = some (.iload_n 2, 1, 0, 0) by decide +kernel) rfl
theorem r39_82 : en_R cs 39 d post 82 lo (.inl b :: .inl a :: st) f = en_R cs 39 d post 83 lo (.inl (a - b) :: st) f := ru_isub (show en_cd 39 82 = some (.isub, 1, 0, 0) by decide +kernel)
theorem r39_83 : en_R cs 39 d post 83 lo ([.inl x]) f = post (some (.inl x)) f := ru_ire1 (show en_cd 39 83 = some (.ireturn, 1, 0, 0) by decide +kernel) (by decide +kernel)
theorem r40_0 : en_R cs 40 d post 0 (a0 :: some (.inl x) :: lo) st f = en_R cs 40 d post 1 (a0 :: some (.inl x) :: lo) (.inl x :: st) f := ru_load1 (show en_cd 40 0 = some (.iload_n 1, 1, 0, 0) by decide +kernel) rfl
theorem r40_1 : en_R cs 40 d post 1 lo (u1 :: st) f = (st.length ≤ 8 ∧ en_Ev d 49 [u1] f (fun r g => en_R cs 40 d post 4 lo (r.toList ++ st) g)) := ru_is (al := [u1]) (show en_cd 40 1 = some (.invokestatic 71, 3, 49, 0) by decide +kernel) (by decide +kernel) (show en_np 49 = 1 by decide +kernel) rfl
theorem r40_4 : en_R cs 40 d post 4 lo (.inl a :: st) f = (if a = 0 then en_R cs 40 d post 19 lo st f else en_R cs 40 d post 7 lo st f) := ru_ifeq (show en_cd 40 4 = some (.ifCond .eq 15, 3, 0, 0) by decide +kernel) (by decide +kernel)
theorem r40_7 : en_R cs 40 d post 7 (some (.inr q) :: lo) st f = en_R cs 40 d post 8 (some (.inr q) :: lo) (.inr q :: st) f := ru_aload1 (show en_cd 40 7 = some (.aload_n 0, 1, 0, 0) by decide +kernel) rfl
theorem r40_8 : en_R cs 40 d post 8 lo (.inr (0, i) :: st) f = (i < 1 ∧ en_R cs 40 d post 11 lo (.inr (1, i) :: st) f) := ru_getR (show en_cd 40 8 = some (.getfield 11, 3, 0, 0) by decide +kernel) (by decide +kernel) (by decide +kernel)
theorem r40_11 : en_R cs 40 d post 11 (a0 :: some (.inl x) :: lo) st f = en_R cs 40 d post 12 (a0 :: some (.inl x) :: lo) (.inl x :: st) f := ru_load1 (show en_cd 40 11 = some (.iload_n 1, 1, 0, 0) by decide +kernel) rfl
theorem r40_12 : en_R cs 40 d post 12 lo (.inl x :: .inr (1, i) :: st) f = (i < 1 ∧ en_inr x 6 = true ∧ en_R cs 40 d post 13 lo (.inr (3, x.toNatClampNeg) :: st) f) := ru_aald (show en_cd 40 12 = some (.aaload, 1, 0, 0) by decide +kernel) (by decide +kernel) (by decide +kernel) (by decide +kernel) (by decide +kernel)
theorem r40_13 : en_R cs 40 d post 13 lo (.inr (3, i) :: st) f = (i < 6 ∧ en_R cs 40 d post 16 lo (.inl (f.1 3 i 3) :: st) f) := ru_getI (show en_cd 40 13 = some (.getfield 117, 3, 3, 3) by decide +kernel) (by decide +kernel) (by decide +kernel) (by decide +kernel)
theorem r40_16 : en_R cs 40 d post 16 lo st f = en_R cs 40 d post 20 lo st f := ru_goto (show en_cd 40 16 = some (.goto 4, 3, 0, 0) by decide +kernel) (by decide +kernel)
theorem r40_19 : en_R cs 40 d post 19 lo st f = en_R cs 40 d post 20 lo (.inl (-1) :: st) f := ru_iconst (show en_cd 40 19 = some (.iconst (-1), 1, 0, 0) by decide +kernel) (by decide +kernel)
theorem r40_20 : en_R cs 40 d post 20 lo ([.inl x]) f = post (some (.inl x)) f := ru_ire1 (show en_cd 40 20 = some (.ireturn, 1, 0, 0) by decide +kernel) (by decide +kernel)
theorem r41_0 : en_R cs 41 d post 0 (a0 :: some (.inl x) :: lo) st f = en_R cs 41 d post 1 (a0 :: some (.inl x) :: lo) (.inl x :: st) f := ru_load1 (show en_cd 41 0 = some (.iload_n 1, 1, 0, 0) by decide +kernel) rfl
theorem r41_1 : en_R cs 41 d post 1 lo (u1 :: st) f = (st.length ≤ 8 ∧ en_Ev d 49 [u1] f (fun r g => en_R cs 41 d post 4 lo (r.toList ++ st) g)) := ru_is (al := [u1]) (show en_cd 41 1 = some (.invokestatic 71, 3, 49, 0) by decide +kernel) (by decide +kernel) (show en_np 49 = 1 by decide +kernel) rfl
theorem r41_4 : en_R cs 41 d post 4 lo (.inl a :: st) f = (if a = 0 then en_R cs 41 d post 19 lo st f else en_R cs 41 d post 7 lo st f) := ru_ifeq (show en_cd 41 4 = some (.ifCond .eq 15, 3, 0, 0) by decide +kernel) (by decide +kernel)
theorem r41_7 : en_R cs 41 d post 7 (some (.inr q) :: lo) st f = en_R cs 41 d post 8 (some (.inr q) :: lo) (.inr q :: st) f := ru_aload1 (show en_cd 41 7 = some (.aload_n 0, 1, 0, 0) by decide +kernel) rfl
theorem r41_8 : en_R cs 41 d post 8 lo (.inr (0, i) :: st) f = (i < 1 ∧ en_R cs 41 d post 11 lo (.inr (1, i) :: st) f) := ru_getR (show en_cd 41 8 = some (.getfield 11, 3, 0, 0) by decide +kernel) (by decide +kernel) (by decide +kernel)
theorem r41_11 : en_R cs 41 d post 11 (a0 :: some (.inl x) :: lo) st f = en_R cs 41 d post 12 (a0 :: some (.inl x) :: lo) (.inl x :: st) f := ru_load1 (show en_cd 41 11 = some (.iload_n 1, 1, 0, 0) by decide +kernel) rfl
theorem r41_12 : en_R cs 41 d post 12 lo (.inl x :: .inr (1, i) :: st) f = (i < 1 ∧ en_inr x 6 = true ∧ en_R cs 41 d post 13 lo (.inr (3, x.toNatClampNeg) :: st) f) := ru_aald (show en_cd 41 12 = some (.aaload, 1, 0, 0) by decide +kernel) (by decide +kernel) (by decide +kernel) (by decide +kernel) (by decide +kernel)
theorem r41_13 : en_R cs 41 d post 13 lo (.inr (3, i) :: st) f = (i < 6 ∧ en_R cs 41 d post 16 lo (.inl (f.1 3 i 4) :: st) f) := ru_getI (show en_cd 41 13 = some (.getfield 120, 3, 3, 4) by decide +kernel) (by decide +kernel) (by decide +kernel) (by decide +kernel)
theorem r41_16 : en_R cs 41 d post 16 lo st f = en_R cs 41 d post 20 lo st f := ru_goto (show en_cd 41 16 = some (.goto 4, 3, 0, 0) by decide +kernel) (by decide +kernel)
theorem r41_19 : en_R cs 41 d post 19 lo st f = en_R cs 41 d post 20 lo (.inl (-1) :: st) f := ru_iconst (show en_cd 41 19 = some (.iconst (-1), 1, 0, 0) by decide +kernel) (by decide +kernel)
theorem r41_20 : en_R cs 41 d post 20 lo ([.inl x]) f = post (some (.inl x)) f := ru_ire1 (show en_cd 41 20 = some (.ireturn, 1, 0, 0) by decide +kernel) (by decide +kernel)
theorem r42_0 : en_R cs 42 d post 0 (some (.inr q) :: lo) st f = en_R cs 42 d post 1 (some (.inr q) :: lo) (.inr q :: st) f := ru_aload1 (show en_cd 42 0 = some (.aload_n 0, 1, 0, 0) by decide +kernel) rfl
theorem r42_1 : en_R cs 42 d post 1 (a0 :: some (.inl x) :: lo) st f = en_R cs 42 d post 2 (a0 :: some (.inl x) :: lo) (.inl x :: st) f := ru_load1 (show en_cd 42 1 = some (.iload_n 1, 1, 0, 0) by decide +kernel) rfl
theorem r42_2 : en_R cs 42 d post 2 lo (u1 :: .inr (0, i) :: st) f = (st.length ≤ 8 ∧ i < 1 ∧ en_Ev d 83 [.inr (0, i), u1] f (fun r g => en_R cs 42 d post 5 lo (r.toList ++ st) g)) := ru_iv (al := [u1]) (show en_cd 42 2 = some (.invokevirtual 123, 3, 83, 0) by decide +kernel) (by decide +kernel) (show en_np 83 = 1 by decide +kernel) (by decide +kernel) rfl
theorem r42_5 : en_R cs 42 d post 5 lo (.inl a :: st) f = (if a = 0 then en_R cs 42 d post 20 lo st f else en_R cs 42 d post 8 lo st f) := ru_ifeq (show en_cd 42 5 = some (.ifCond .eq 15, 3, 0, 0) by decide +kernel) (by decide +kernel)
theorem r42_8 : en_R cs 42 d post 8 (some (.inr q) :: lo) st f = en_R cs 42 d post 9 (some (.inr q) :: lo) (.inr q :: st) f := ru_aload1 (show en_cd 42 8 = some (.aload_n 0, 1, 0, 0) by decide +kernel) rfl
theorem r42_9 : en_R cs 42 d post 9 lo (.inr (0, i) :: st) f = (i < 1 ∧ en_R cs 42 d post 12 lo (.inr (2, i) :: st) f) := ru_getR (show en_cd 42 9 = some (.getfield 17, 3, 0, 1) by decide +kernel) (by decide +kernel) (by decide +kernel)
theorem r42_12 : en_R cs 42 d post 12 (a0 :: some (.inl x) :: lo) st f = en_R cs 42 d post 13 (a0 :: some (.inl x) :: lo) (.inl x :: st) f := ru_load1 (show en_cd 42 12 = some (.iload_n 1, 1, 0, 0) by decide +kernel) rfl
theorem r42_13 : en_R cs 42 d post 13 lo (.inl x :: .inr (2, i) :: st) f = (i < 1 ∧ en_inr x 16 = true ∧ en_R cs 42 d post 14 lo (.inr (8, x.toNatClampNeg) :: st) f) := ru_aald (show en_cd 42 13 = some (.aaload, 1, 0, 0) by decide +kernel) (by decide +kernel) (by decide +kernel) (by decide +kernel) (by decide +kernel)
theorem r42_14 : en_R cs 42 d post 14 lo (.inr (8, i) :: st) f = (i < 16 ∧ en_R cs 42 d post 17 lo (.inl (f.1 8 i 7) :: st) f) := ru_getI (show en_cd 42 14 = some (.getfield 126, 3, 8, 7) by decide +kernel) (by decide +kernel) (by decide +kernel) (by decide +kernel)
theorem r42_17 : en_R cs 42 d post 17 lo st f = en_R cs 42 d post 21 lo st f := ru_goto (show en_cd 42 17 = some (.goto 4, 3, 0, 0) by decide +kernel) (by decide +kernel)
theorem r42_20 : en_R cs 42 d post 20 lo st f = en_R cs 42 d post 21 lo (.inl (-1) :: st) f := ru_iconst (show en_cd 42 20 = some (.iconst (-1), 1, 0, 0) by decide +kernel) (by decide +kernel)
theorem r42_21 : en_R cs 42 d post 21 lo ([.inl x]) f = post (some (.inl x)) f := ru_ire1 (show en_cd 42 21 = some (.ireturn, 1, 0, 0) by decide +kernel) (by decide +kernel)
theorem r43_0 : en_R cs 43 d post 0 (some (.inr q) :: lo) st f = en_R cs 43 d post 1 (some (.inr q) :: lo) (.inr q :: st) f := ru_aload1 (show en_cd 43 0 = some (.aload_n 0, 1, 0, 0) by decide +kernel) rfl
theorem r43_1 : en_R cs 43 d post 1 (a0 :: some (.inl x) :: lo) st f = en_R cs 43 d post 2 (a0 :: some (.inl x) :: lo) (.inl x :: st) f := ru_load1 (show en_cd 43 1 = some (.iload_n 1, 1, 0, 0) by decide +kernel) rfl
theorem r43_2 : en_R cs 43 d post 2 lo (u1 :: .inr (0, i) :: st) f = (st.length ≤ 8 ∧ i < 1 ∧ en_Ev d 83 [.inr (0, i), u1] f (fun r g => en_R cs 43 d post 5 lo (r.toList ++ st) g)) := ru_iv (al := [u1]) (show en_cd 43 2 = some (.invokevirtual 123, 3, 83, 0) by decide +kernel) (by decide +kernel) (show en_np 83 = 1 by decide +kernel) (by decide +kernel) rfl
theorem r43_5 : en_R cs 43 d post 5 lo (.inl a :: st) f = (if a = 0 then en_R cs 43 d post 21 lo st f else en_R cs 43 d post 8 lo st f) := ru_ifeq (show en_cd 43 5 = some (.ifCond .eq 16, 3, 0, 0) by decide +kernel) (by decide +kernel)
theorem r43_8 : en_R cs 43 d post 8 (some (.inr q) :: lo) st f = en_R cs 43 d post 9 (some (.inr q) :: lo) (.inr q :: st) f := ru_aload1 (show en_cd 43 8 = some (.aload_n 0, 1, 0, 0) by decide +kernel) rfl
theorem r43_9 : en_R cs 43 d post 9 lo (.inr (0, i) :: st) f = (i < 1 ∧ en_R cs 43 d post 12 lo (.inr (2, i) :: st) f) := ru_getR (show en_cd 43 9 = some (.getfield 17, 3, 0, 1) by decide +kernel) (by decide +kernel) (by decide +kernel)
theorem r43_12 : en_R cs 43 d post 12 (a0 :: some (.inl x) :: lo) st f = en_R cs 43 d post 13 (a0 :: some (.inl x) :: lo) (.inl x :: st) f := ru_load1 (show en_cd 43 12 = some (.iload_n 1, 1, 0, 0) by decide +kernel) rfl
theorem r43_13 : en_R cs 43 d post 13 lo (.inl x :: .inr (2, i) :: st) f = (i < 1 ∧ en_inr x 16 = true ∧ en_R cs 43 d post 14 lo (.inr (8, x.toNatClampNeg) :: st) f) := ru_aald (show en_cd 43 13 = some (.aaload, 1, 0, 0) by decide +kernel) (by decide +kernel) (by decide +kernel) (by decide +kernel) (by decide +kernel)
theorem r43_14 : en_R cs 43 d post 14 (a0 :: a1 :: some (.inl x) :: lo) st f = en_R cs 43 d post 15 (a0 :: a1 :: some (.inl x) :: lo) (.inl x :: st) f := ru_load1 (show en_cd 43 14 = some (.iload_n 2, 1, 0, 0) by decide +kernel) rfl
theorem r43_15 : en_R cs 43 d post 15 lo (u1 :: .inr (8, i) :: st) f = (st.length ≤ 8 ∧ i < 16 ∧ en_Ev d 11 [.inr (8, i), u1] f (fun r g => en_R cs 43 d post 18 lo (r.toList ++ st) g)) := ru_iv (al := [u1]) (show en_cd 43 15 = some (.invokevirtual 129, 3, 11, 0) by decide +kernel) (by decide +kernel) (show en_np 11 = 1 by decide +kernel) (by decide +kernel) rfl
theorem r43_18 : en_R cs 43 d post 18 lo st f = en_R cs 43 d post 22 lo st f := ru_goto (show en_cd 43 18 = some (.goto 4, 3, 0, 0) by decide +kernel) (by decide +kernel)
theorem r43_21 : en_R cs 43 d post 21 lo st f = en_R cs 43 d post 22 lo (.inl (-1) :: st) f := ru_iconst (show en_cd 43 21 = some (.iconst (-1), 1, 0, 0) by decide +kernel) (by decide +kernel)
theorem r43_22 : en_R cs 43 d post 22 lo ([.inl x]) f = post (some (.inl x)) f := ru_ire1 (show en_cd 43 22 = some (.ireturn, 1, 0, 0) by decide +kernel) (by decide +kernel)
theorem r44_0 : en_R cs 44 d post 0 (a0 :: some (.inl x) :: lo) st f = en_R cs 44 d post 1 (a0 :: some (.inl x) :: lo) (.inl x :: st) f := ru_load1 (show en_cd 44 0 = some (.iload_n 1, 1, 0, 0) by decide +kernel) rfl
theorem r44_1 : en_R cs 44 d post 1 lo (u1 :: st) f = (st.length ≤ 8 ∧ en_Ev d 49 [u1] f (fun r g => en_R cs 44 d post 4 lo (r.toList ++ st) g)) := ru_is (al := [u1]) (show en_cd 44 1 = some (.invokestatic 71, 3, 49, 0) by decide +kernel) (by decide +kernel) (show en_np 49 = 1 by decide +kernel) rfl
theorem r44_4 : en_R cs 44 d post 4 lo (.inl a :: st) f = (if a = 0 then en_R cs 44 d post 23 lo st f else en_R cs 44 d post 7 lo st f) := ru_ifeq (show en_cd 44 4 = some (.ifCond .eq 19, 3, 0, 0) by decide +kernel) (by decide +kernel)
theorem r44_7 : en_R cs 44 d post 7 (some (.inr q) :: lo) st f = en_R cs 44 d post 8 (some (.inr q) :: lo) (.inr q :: st) f := ru_aload1 (show en_cd 44 7 = some (.aload_n 0, 1, 0, 0) by decide +kernel) rfl
theorem r44_8 : en_R cs 44 d post 8 lo (.inr (0, i) :: st) f = (i < 1 ∧ en_R cs 44 d post 11 lo (.inr (1, i) :: st) f) := ru_getR (show en_cd 44 8 = some (.getfield 11, 3, 0, 0) by decide +kernel) (by decide +kernel) (by decide +kernel)
theorem r44_11 : en_R cs 44 d post 11 (a0 :: some (.inl x) :: lo) st f = en_R cs 44 d post 12 (a0 :: some (.inl x) :: lo) (.inl x :: st) f := ru_load1 (show en_cd 44 11 = some (.iload_n 1, 1, 0, 0) by decide +kernel) rfl
theorem r44_12 : en_R cs 44 d post 12 lo (.inl x :: .inr (1, i) :: st) f = (i < 1 ∧ en_inr x 6 = true ∧ en_R cs 44 d post 13 lo (.inr (3, x.toNatClampNeg) :: st) f) := ru_aald (show en_cd 44 12 = some (.aaload, 1, 0, 0) by decide +kernel) (by decide +kernel) (by decide +kernel) (by decide +kernel) (by decide +kernel)
theorem r44_13 : en_R cs 44 d post 13 lo (.inr (3, i) :: st) f = (i < 6 ∧ en_R cs 44 d post 16 lo (.inr (4, i) :: st) f) := ru_getR (show en_cd 44 13 = some (.getfield 57, 3, 3, 0) by decide +kernel) (by decide +kernel) (by decide +kernel)
theorem r44_16 : en_R cs 44 d post 16 lo (.inr (4, i) :: st) f = (i < 6 ∧ en_R cs 44 d post 19 lo (.inl (f.1 4 i 3) :: st) f) := ru_getI (show en_cd 44 16 = some (.getfield 74, 3, 4, 3) by decide +kernel) (by decide +kernel) (by decide +kernel) (by decide +kernel)
theorem r44_19 : en_R cs 44 d post 19 lo st f = en_R cs 44 d post 20 lo (.inl 1 :: st) f := ru_iconst (show en_cd 44 19 = some (.iconst 1, 1, 0, 0) by decide +kernel) (by decide +kernel)
theorem r44_20 : en_R cs 44 d post 20 lo (.inl b :: .inl a :: st) f = (if a = b then en_R cs 44 d post 25 lo st f else en_R cs 44 d post 23 lo st f) := ru_iceq (show en_cd 44 20 = some (.if_icmp .eq 5, 3, 0, 0) by decide +kernel) (by decide +kernel)
theorem r44_23 : en_R cs 44 d post 23 lo st f = en_R cs 44 d post 24 lo (.inl 0 :: st) f := ru_iconst (show en_cd 44 23 = some (.iconst 0, 1, 0, 0) by decide +kernel) (by decide +kernel)
theorem r44_24 : en_R cs 44 d post 24 lo ([.inl x]) f = post (some (.inl x)) f := ru_ire1 (show en_cd 44 24 = some (.ireturn, 1, 0, 0) by decide +kernel) (by decide +kernel)
theorem r44_25 : en_R cs 44 d post 25 (some (.inr q) :: lo) st f = en_R cs 44 d post 26 (some (.inr q) :: lo) (.inr q :: st) f := ru_aload1 (show en_cd 44 25 = some (.aload_n 0, 1, 0, 0) by decide +kernel) rfl
theorem r44_26 : en_R cs 44 d post 26 lo (.inr (0, i) :: st) f = (i < 1 ∧ en_R cs 44 d post 29 lo (.inr (1, i) :: st) f) := ru_getR (show en_cd 44 26 = some (.getfield 11, 3, 0, 0) by decide +kernel) (by decide +kernel) (by decide +kernel)
theorem r44_29 : en_R cs 44 d post 29 (a0 :: some (.inl x) :: lo) st f = en_R cs 44 d post 30 (a0 :: some (.inl x) :: lo) (.inl x :: st) f := ru_load1 (show en_cd 44 29 = some (.iload_n 1, 1, 0, 0) by decide +kernel) rfl
theorem r44_30 : en_R cs 44 d post 30 lo (.inl x :: .inr (1, i) :: st) f = (i < 1 ∧ en_inr x 6 = true ∧ en_R cs 44 d post 31 lo (.inr (3, x.toNatClampNeg) :: st) f) := ru_aald (show en_cd 44 30 = some (.aaload, 1, 0, 0) by decide +kernel) (by decide +kernel) (by decide +kernel) (by decide +kernel) (by decide +kernel)
theorem r44_31 : en_R cs 44 d post 31 lo (.inr (3, i) :: st) f = (i < 6 ∧ en_R cs 44 d post 34 lo (.inr (4, i) :: st) f) := ru_getR (show en_cd 44 31 = some (.getfield 57, 3, 3, 0) by decide +kernel) (by decide +kernel) (by decide +kernel)
theorem r44_34 : en_R cs 44 d post 34 lo (.inr (4, i) :: st) f = (i < 6 ∧ en_R cs 44 d post 37 lo (.inr (5, i) :: st) f) := ru_getR (show en_cd 44 34 = some (.getfield 132, 3, 4, 0) by decide +kernel) (by decide +kernel) (by decide +kernel)
theorem r44_37 : en_R cs 44 d post 37 (a0 :: a1 :: some (.inl x) :: lo) st f = en_R cs 44 d post 38 (a0 :: a1 :: some (.inl x) :: lo) (.inl x :: st) f := ru_load1 (show en_cd 44 37 = some (.iload_n 2, 1, 0, 0) by decide +kernel) rfl
theorem r44_38 : en_R cs 44 d post 38 lo (u1 :: .inr (5, i) :: st) f = (st.length ≤ 8 ∧ i < 6 ∧ en_Ev d 2 [.inr (5, i), u1] f (fun r g => en_R cs 44 d post 41 lo (r.toList ++ st) g)) := ru_iv (al := [u1]) (show en_cd 44 38 = some (.invokevirtual 136, 3, 2, 0) by decide +kernel) (by decide +kernel) (show en_np 2 = 1 by decide +kernel) (by decide +kernel) rfl
theorem r44_41 : en_R cs 44 d post 41 lo ([.inl x]) f = post (some (.inl x)) f := ru_ire1 (show en_cd 44 41 = some (.ireturn, 1, 0, 0) by decide +kernel) (by decide +kernel)
theorem r45_0 : en_R cs 45 d post 0 (some (.inr q) :: lo) st f = en_R cs 45 d post 1 (some (.inr q) :: lo) (.inr q :: st) f := ru_aload1 (show en_cd 45 0 = some (.aload_n 0, 1, 0, 0) by decide +kernel) rfl
theorem r45_1 : en_R cs 45 d post 1 lo (.inr (0, i) :: st) f = (i < 1 ∧ en_R cs 45 d post 4 lo (.inr (12, i) :: st) f) := ru_getR (show en_cd 45 1 = some (.getfield 31, 3, 0, 3) by decide +kernel) (by decide +kernel) (by decide +kernel)
theorem r45_4 : en_R cs 45 d post 4 lo (.inr (12, i) :: st) f = (i < 1 ∧ en_R cs 45 d post 7 lo (.inl (f.1 12 i 2) :: st) f) := ru_getI (show en_cd 45 4 = some (.getfield 141, 3, 12, 2) by decide +kernel) (by decide +kernel) (by decide +kernel) (by decide +kernel)
theorem r45_7 : en_R cs 45 d post 7 lo ([.inl x]) f = post (some (.inl x)) f := ru_ire1 (show en_cd 45 7 = some (.ireturn, 1, 0, 0) by decide +kernel) (by decide +kernel)
theorem r46_0 : en_R cs 46 d post 0 (some (.inr q) :: lo) st f = en_R cs 46 d post 1 (some (.inr q) :: lo) (.inr q :: st) f := ru_aload1 (show en_cd 46 0 = some (.aload_n 0, 1, 0, 0) by decide +kernel) rfl
theorem r46_1 : en_R cs 46 d post 1 lo (.inr (0, i) :: st) f = (i < 1 ∧ en_R cs 46 d post 4 lo (.inr (12, i) :: st) f) := ru_getR (show en_cd 46 1 = some (.getfield 31, 3, 0, 3) by decide +kernel) (by decide +kernel) (by decide +kernel)
theorem r46_4 : en_R cs 46 d post 4 (a0 :: some (.inl x) :: lo) st f = en_R cs 46 d post 5 (a0 :: some (.inl x) :: lo) (.inl x :: st) f := ru_load1 (show en_cd 46 4 = some (.iload_n 1, 1, 0, 0) by decide +kernel) rfl
theorem r46_5 : en_R cs 46 d post 5 lo (u1 :: .inr (12, i) :: st) f = (st.length ≤ 8 ∧ i < 1 ∧ en_Ev d 16 [.inr (12, i), u1] f (fun r g => en_R cs 46 d post 8 lo (r.toList ++ st) g)) := ru_iv (al := [u1]) (show en_cd 46 5 = some (.invokevirtual 144, 3, 16, 0) by decide +kernel) (by decide +kernel) (show en_np 16 = 1 by decide +kernel) (by decide +kernel) rfl
theorem r46_8 : en_R cs 46 d post 8 lo ([.inl x]) f = post (some (.inl x)) f := ru_ire1 (show en_cd 46 8 = some (.ireturn, 1, 0, 0) by decide +kernel) (by decide +kernel)
theorem r47_0 : en_R cs 47 d post 0 (some (.inr q) :: lo) st f = en_R cs 47 d post 1 (some (.inr q) :: lo) (.inr q :: st) f := ru_aload1 (show en_cd 47 0 = some (.aload_n 0, 1, 0, 0) by decide +kernel) rfl
theorem r47_1 : en_R cs 47 d post 1 lo (.inr (0, i) :: st) f = (st.length ≤ 8 ∧ i < 1 ∧ en_Ev d 61 [.inr (0, i)] f (fun r g => en_R cs 47 d post 4 lo (r.toList ++ st) g)) := ru_iv (al := []) (show en_cd 47 1 = some (.invokevirtual 147, 3, 61, 0) by decide +kernel) (by decide +kernel) (show en_np 61 = 0 by decide +kernel) (by decide +kernel) rfl
theorem r47_4 : en_R cs 47 d post 4 lo ([.inl x]) f = post (some (.inl x)) f := ru_ire1 (show en_cd 47 4 = some (.ireturn, 1, 0, 0) by decide +kernel) (by decide +kernel)
theorem r48_0 : en_R cs 48 d post 0 (some (.inr q) :: lo) st f = en_R cs 48 d post 1 (some (.inr q) :: lo) (.inr q :: st) f := ru_aload1 (show en_cd 48 0 = some (.aload_n 0, 1, 0, 0) by decide +kernel) rfl
theorem r48_1 : en_R cs 48 d post 1 lo (.inr (0, i) :: st) f = (i < 1 ∧ en_R cs 48 d post 4 lo (.inr (10, i) :: st) f) := ru_getR (show en_cd 48 1 = some (.getfield 24, 3, 0, 2) by decide +kernel) (by decide +kernel) (by decide +kernel)
theorem r48_4 : en_R cs 48 d post 4 lo (.inr (10, i) :: st) f = (i < 1 ∧ en_R cs 48 d post 7 lo (.inl (f.1 10 i 2) :: st) f) := ru_getI (show en_cd 48 4 = some (.getfield 98, 3, 10, 2) by decide +kernel) (by decide +kernel) (by decide +kernel) (by decide +kernel)
theorem r48_7 : en_R cs 48 d post 7 lo ([.inl x]) f = post (some (.inl x)) f := ru_ire1 (show en_cd 48 7 = some (.ireturn, 1, 0, 0) by decide +kernel) (by decide +kernel)
end RuAll
end
section
/-! RULES of the class, 2 (by program) -/
section RuAll
variable {cs : en_S} {d : Nat} {post : en_Q} {lo : en_L} {st : List en_V} {f : en_T} {a b x v : Int32} {i : Nat} {q : Nat × Nat} {u w u1 u2 u3 u4 u5 : en_V} {a0 a1 a2 a3 a4 a5 a6 a7 a8 : Option en_V}
theorem r49_0 : en_R cs 49 d post 0 (some (.inl x) :: lo) st f = en_R cs 49 d post 1 (some (.inl x) :: lo) (.inl x :: st) f := ru_load1 (show en_cd 49 0 = some (.iload_n 0, 1, 0, 0) by decide +kernel) rfl
theorem r49_1 : en_R cs 49 d post 1 lo (.inl a :: st) f = (if a < 0 then en_R cs 49 d post 14 lo st f else en_R cs 49 d post 4 lo st f) := ru_iflt (show en_cd 49 1 = some (.ifCond .lt 13, 3, 0, 0) by decide +kernel) (by decide +kernel)
theorem r49_4 : en_R cs 49 d post 4 (some (.inl x) :: lo) st f = en_R cs 49 d post 5 (some (.inl x) :: lo) (.inl x :: st) f := ru_load1 (show en_cd 49 4 = some (.iload_n 0, 1, 0, 0) by decide +kernel) rfl
theorem r49_5 : en_R cs 49 d post 5 lo st f = en_R cs 49 d post 7 lo (.inl 6 :: st) f := ru_bipush (show en_cd 49 5 = some (.bipush 6, 2, 0, 0) by decide +kernel) (by decide +kernel)
theorem r49_7 : en_R cs 49 d post 7 lo (.inl b :: .inl a :: st) f = (if b ≤ a then en_R cs 49 d post 14 lo st f else en_R cs 49 d post 10 lo st f) := ru_icge (show en_cd 49 7 = some (.if_icmp .ge 7, 3, 0, 0) by decide +kernel) (by decide +kernel)
theorem r49_10 : en_R cs 49 d post 10 lo st f = en_R cs 49 d post 11 lo (.inl 1 :: st) f := ru_iconst (show en_cd 49 10 = some (.iconst 1, 1, 0, 0) by decide +kernel) (by decide +kernel)
theorem r49_11 : en_R cs 49 d post 11 lo st f = en_R cs 49 d post 15 lo st f := ru_goto (show en_cd 49 11 = some (.goto 4, 3, 0, 0) by decide +kernel) (by decide +kernel)
theorem r49_14 : en_R cs 49 d post 14 lo st f = en_R cs 49 d post 15 lo (.inl 0 :: st) f := ru_iconst (show en_cd 49 14 = some (.iconst 0, 1, 0, 0) by decide +kernel) (by decide +kernel)
theorem r49_15 : en_R cs 49 d post 15 lo ([.inl x]) f = (en_isz x = true ∧ post (some (.inl x)) f) := ru_ire2 (show en_cd 49 15 = some (.ireturn, 1, 0, 0) by decide +kernel) (by decide +kernel)
theorem r50_0 : en_R cs 50 d post 0 (some (.inl x) :: lo) st f = en_R cs 50 d post 1 (some (.inl x) :: lo) (.inl x :: st) f := ru_load1 (show en_cd 50 0 = some (.iload_n 0, 1, 0, 0) by decide +kernel) rfl
theorem r50_1 : en_R cs 50 d post 1 lo st f = en_R cs 50 d post 2 lo (.inl 2 :: st) f := ru_iconst (show en_cd 50 1 = some (.iconst 2, 1, 0, 0) by decide +kernel) (by decide +kernel)
theorem r50_2 : en_R cs 50 d post 2 lo (.inl b :: .inl a :: st) f = (¬ b = 0 ∧ en_R cs 50 d post 3 lo (.inl (a / b) :: st) f) := ru_idiv (show en_cd 50 2 = some (.idiv, 1, 0, 0) by decide +kernel)
theorem r50_3 : en_R cs 50 d post 3 lo st f = en_R cs 50 d post 4 lo (.inl 1 :: st) f := ru_iconst (show en_cd 50 3 = some (.iconst 1, 1, 0, 0) by decide +kernel) (by decide +kernel)
theorem r50_4 : en_R cs 50 d post 4 lo (.inl b :: .inl a :: st) f = en_R cs 50 d post 5 lo (.inl (a - b) :: st) f := ru_isub (show en_cd 50 4 = some (.isub, 1, 0, 0) by decide +kernel)
theorem r50_5 : en_R cs 50 d post 5 lo ([.inl x]) f = post (some (.inl x)) f := ru_ire1 (show en_cd 50 5 = some (.ireturn, 1, 0, 0) by decide +kernel) (by decide +kernel)
theorem r51_0 : en_R cs 51 d post 0 lo st f = en_R cs 51 d post 1 lo (.inl 2 :: st) f := ru_iconst (show en_cd 51 0 = some (.iconst 2, 1, 0, 0) by decide +kernel) (by decide +kernel)
theorem r51_1 : en_R cs 51 d post 1 (some (.inl x) :: lo) st f = en_R cs 51 d post 2 (some (.inl x) :: lo) (.inl x :: st) f := ru_load1 (show en_cd 51 1 = some (.iload_n 0, 1, 0, 0) by decide +kernel) rfl
theorem r51_2 : en_R cs 51 d post 2 lo (.inl b :: .inl a :: st) f = en_R cs 51 d post 3 lo (.inl (a * b) :: st) f := ru_imul (show en_cd 51 2 = some (.imul, 1, 0, 0) by decide +kernel)
theorem r51_3 : en_R cs 51 d post 3 lo st f = en_R cs 51 d post 4 lo (.inl 2 :: st) f := ru_iconst (show en_cd 51 3 = some (.iconst 2, 1, 0, 0) by decide +kernel) (by decide +kernel)
theorem r51_4 : en_R cs 51 d post 4 lo (.inl b :: .inl a :: st) f = en_R cs 51 d post 5 lo (.inl (a + b) :: st) f := ru_iadd (show en_cd 51 4 = some (.iadd, 1, 0, 0) by decide +kernel)
theorem r51_5 : en_R cs 51 d post 5 lo ([.inl x]) f = post (some (.inl x)) f := ru_ire1 (show en_cd 51 5 = some (.ireturn, 1, 0, 0) by decide +kernel) (by decide +kernel)
theorem r52_0 : en_R cs 52 d post 0 (a0 :: some (.inl x) :: lo) st f = en_R cs 52 d post 1 (a0 :: some (.inl x) :: lo) (.inl x :: st) f := ru_load1 (show en_cd 52 0 = some (.iload_n 1, 1, 0, 0) by decide +kernel) rfl
theorem r52_1 : en_R cs 52 d post 1 lo (u1 :: st) f = (st.length ≤ 8 ∧ en_Ev d 49 [u1] f (fun r g => en_R cs 52 d post 4 lo (r.toList ++ st) g)) := ru_is (al := [u1]) (show en_cd 52 1 = some (.invokestatic 71, 3, 49, 0) by decide +kernel) (by decide +kernel) (show en_np 49 = 1 by decide +kernel) rfl
theorem r52_4 : en_R cs 52 d post 4 lo (.inl a :: st) f = (if a = 0 then en_R cs 52 d post 35 lo st f else en_R cs 52 d post 7 lo st f) := ru_ifeq (show en_cd 52 4 = some (.ifCond .eq 31, 3, 0, 0) by decide +kernel) (by decide +kernel)
theorem r52_7 : en_R cs 52 d post 7 (a0 :: some (.inl x) :: lo) st f = en_R cs 52 d post 8 (a0 :: some (.inl x) :: lo) (.inl x :: st) f := ru_load1 (show en_cd 52 7 = some (.iload_n 1, 1, 0, 0) by decide +kernel) rfl
theorem r52_8 : en_R cs 52 d post 8 lo st f = en_R cs 52 d post 9 lo (.inl 2 :: st) f := ru_iconst (show en_cd 52 8 = some (.iconst 2, 1, 0, 0) by decide +kernel) (by decide +kernel)
theorem r52_9 : en_R cs 52 d post 9 lo (.inl b :: .inl a :: st) f = (if a < b then en_R cs 52 d post 31 lo st f else en_R cs 52 d post 12 lo st f) := ru_iclt (show en_cd 52 9 = some (.if_icmp .lt 22, 3, 0, 0) by decide +kernel) (by decide +kernel)
theorem r52_12 : en_R cs 52 d post 12 (some (.inr q) :: lo) st f = en_R cs 52 d post 13 (some (.inr q) :: lo) (.inr q :: st) f := ru_aload1 (show en_cd 52 12 = some (.aload_n 0, 1, 0, 0) by decide +kernel) rfl
theorem r52_13 : en_R cs 52 d post 13 lo (.inr (0, i) :: st) f = (i < 1 ∧ en_R cs 52 d post 16 lo (.inr (1, i) :: st) f) := ru_getR (show en_cd 52 13 = some (.getfield 11, 3, 0, 0) by decide +kernel) (by decide +kernel) (by decide +kernel)
theorem r52_16 : en_R cs 52 d post 16 (a0 :: some (.inl x) :: lo) st f = en_R cs 52 d post 17 (a0 :: some (.inl x) :: lo) (.inl x :: st) f := ru_load1 (show en_cd 52 16 = some (.iload_n 1, 1, 0, 0) by decide +kernel) rfl
theorem r52_17 : en_R cs 52 d post 17 lo (u1 :: st) f = (st.length ≤ 8 ∧ en_Ev d 50 [u1] f (fun r g => en_R cs 52 d post 20 lo (r.toList ++ st) g)) := ru_is (al := [u1]) (show en_cd 52 17 = some (.invokestatic 150, 3, 50, 0) by decide +kernel) (by decide +kernel) (show en_np 50 = 1 by decide +kernel) rfl
theorem r52_20 : en_R cs 52 d post 20 lo (.inl x :: .inr (1, i) :: st) f = (i < 1 ∧ en_inr x 6 = true ∧ en_R cs 52 d post 21 lo (.inr (3, x.toNatClampNeg) :: st) f) := ru_aald (show en_cd 52 20 = some (.aaload, 1, 0, 0) by decide +kernel) (by decide +kernel) (by decide +kernel) (by decide +kernel) (by decide +kernel)
theorem r52_21 : en_R cs 52 d post 21 lo (.inr (3, i) :: st) f = (i < 6 ∧ en_R cs 52 d post 24 lo (.inr (4, i) :: st) f) := ru_getR (show en_cd 52 21 = some (.getfield 57, 3, 3, 0) by decide +kernel) (by decide +kernel) (by decide +kernel)
theorem r52_24 : en_R cs 52 d post 24 lo (.inr (4, i) :: st) f = (i < 6 ∧ en_R cs 52 d post 27 lo (.inl (f.1 4 i 3) :: st) f) := ru_getI (show en_cd 52 24 = some (.getfield 74, 3, 4, 3) by decide +kernel) (by decide +kernel) (by decide +kernel) (by decide +kernel)
theorem r52_27 : en_R cs 52 d post 27 lo st f = en_R cs 52 d post 28 lo (.inl 3 :: st) f := ru_iconst (show en_cd 52 27 = some (.iconst 3, 1, 0, 0) by decide +kernel) (by decide +kernel)
theorem r52_28 : en_R cs 52 d post 28 lo (.inl b :: .inl a :: st) f = (if a = b then en_R cs 52 d post 31 lo st f else en_R cs 52 d post 35 lo st f) := ru_icne (show en_cd 52 28 = some (.if_icmp .ne 7, 3, 0, 0) by decide +kernel) (by decide +kernel)
theorem r52_31 : en_R cs 52 d post 31 lo st f = en_R cs 52 d post 32 lo (.inl 1 :: st) f := ru_iconst (show en_cd 52 31 = some (.iconst 1, 1, 0, 0) by decide +kernel) (by decide +kernel)
theorem r52_32 : en_R cs 52 d post 32 lo st f = en_R cs 52 d post 36 lo st f := ru_goto (show en_cd 52 32 = some (.goto 4, 3, 0, 0) by decide +kernel) (by decide +kernel)
theorem r52_35 : en_R cs 52 d post 35 lo st f = en_R cs 52 d post 36 lo (.inl 0 :: st) f := ru_iconst (show en_cd 52 35 = some (.iconst 0, 1, 0, 0) by decide +kernel) (by decide +kernel)
theorem r52_36 : en_R cs 52 d post 36 lo ([.inl x]) f = (en_isz x = true ∧ post (some (.inl x)) f) := ru_ire2 (show en_cd 52 36 = some (.ireturn, 1, 0, 0) by decide +kernel) (by decide +kernel)
theorem r53_0 : en_R cs 53 d post 0 (some (.inl x) :: lo) st f = en_R cs 53 d post 1 (some (.inl x) :: lo) (.inl x :: st) f := ru_load1 (show en_cd 53 0 = some (.iload_n 0, 1, 0, 0) by decide +kernel) rfl
theorem r53_28 : en_R cs 53 d post 28 (a0 :: some (.inl x) :: lo) st f = en_R cs 53 d post 29 (a0 :: some (.inl x) :: lo) (.inl x :: st) f := ru_load1 (show en_cd 53 28 = some (.iload_n 1, 1, 0, 0) by decide +kernel) rfl
theorem r53_29 : en_R cs 53 d post 29 lo st f = en_R cs 53 d post 30 lo (.inl 1 :: st) f := ru_iconst (show en_cd 53 29 = some (.iconst 1, 1, 0, 0) by decide +kernel) (by decide +kernel)
theorem r53_30 : en_R cs 53 d post 30 lo (.inl b :: .inl a :: st) f = (if a < b then en_R cs 53 d post 52 lo st f else en_R cs 53 d post 33 lo st f) := ru_iclt (show en_cd 53 30 = some (.if_icmp .lt 22, 3, 0, 0) by decide +kernel) (by decide +kernel)
theorem r53_33 : en_R cs 53 d post 33 (a0 :: some (.inl x) :: lo) st f = en_R cs 53 d post 34 (a0 :: some (.inl x) :: lo) (.inl x :: st) f := ru_load1 (show en_cd 53 33 = some (.iload_n 1, 1, 0, 0) by decide +kernel) rfl
theorem r53_34 : en_R cs 53 d post 34 lo st f = en_R cs 53 d post 36 lo (.inl 8 :: st) f := ru_bipush (show en_cd 53 34 = some (.bipush 8, 2, 0, 0) by decide +kernel) (by decide +kernel)
theorem r53_36 : en_R cs 53 d post 36 lo (.inl b :: .inl a :: st) f = (if b < a then en_R cs 53 d post 52 lo st f else en_R cs 53 d post 39 lo st f) := ru_icgt (show en_cd 53 36 = some (.if_icmp .gt 16, 3, 0, 0) by decide +kernel) (by decide +kernel)
theorem r53_39 : en_R cs 53 d post 39 (a0 :: a1 :: some (.inl x) :: lo) st f = en_R cs 53 d post 40 (a0 :: a1 :: some (.inl x) :: lo) (.inl x :: st) f := ru_load1 (show en_cd 53 39 = some (.iload_n 2, 1, 0, 0) by decide +kernel) rfl
theorem r53_40 : en_R cs 53 d post 40 lo (.inl a :: st) f = (if a < 0 then en_R cs 53 d post 52 lo st f else en_R cs 53 d post 43 lo st f) := ru_iflt (show en_cd 53 40 = some (.ifCond .lt 12, 3, 0, 0) by decide +kernel) (by decide +kernel)
theorem r53_43 : en_R cs 53 d post 43 (a0 :: a1 :: some (.inl x) :: lo) st f = en_R cs 53 d post 44 (a0 :: a1 :: some (.inl x) :: lo) (.inl x :: st) f := ru_load1 (show en_cd 53 43 = some (.iload_n 2, 1, 0, 0) by decide +kernel) rfl
theorem r53_44 : en_R cs 53 d post 44 lo st f = en_R cs 53 d post 45 lo (.inl 3 :: st) f := ru_iconst (show en_cd 53 44 = some (.iconst 3, 1, 0, 0) by decide +kernel) (by decide +kernel)
theorem r53_45 : en_R cs 53 d post 45 lo (.inl b :: .inl a :: st) f = (if b < a then en_R cs 53 d post 52 lo st f else en_R cs 53 d post 48 lo st f) := ru_icgt (show en_cd 53 45 = some (.if_icmp .gt 7, 3, 0, 0) by decide +kernel) (by decide +kernel)
theorem r53_48 : en_R cs 53 d post 48 lo st f = en_R cs 53 d post 49 lo (.inl 1 :: st) f := ru_iconst (show en_cd 53 48 = some (.iconst 1, 1, 0, 0) by decide +kernel) (by decide +kernel)
theorem r53_49 : en_R cs 53 d post 49 lo st f = en_R cs 53 d post 53 lo st f := ru_goto (show en_cd 53 49 = some (.goto 4, 3, 0, 0) by decide +kernel) (by decide +kernel)
theorem r53_52 : en_R cs 53 d post 52 lo st f = en_R cs 53 d post 53 lo (.inl 0 :: st) f := ru_iconst (show en_cd 53 52 = some (.iconst 0, 1, 0, 0) by decide +kernel) (by decide +kernel)
theorem r53_53 : en_R cs 53 d post 53 lo ([.inl x]) f = (en_isz x = true ∧ post (some (.inl x)) f) := ru_ire2 (show en_cd 53 53 = some (.ireturn, 1, 0, 0) by decide +kernel) (by decide +kernel)
theorem r53_54 : en_R cs 53 d post 54 (a0 :: some (.inl x) :: lo) st f = en_R cs 53 d post 55 (a0 :: some (.inl x) :: lo) (.inl x :: st) f := ru_load1 (show en_cd 53 54 = some (.iload_n 1, 1, 0, 0) by decide +kernel) rfl
theorem r53_55 : en_R cs 53 d post 55 lo st f = en_R cs 53 d post 56 lo (.inl 1 :: st) f := ru_iconst (show en_cd 53 55 = some (.iconst 1, 1, 0, 0) by decide +kernel) (by decide +kernel)
theorem r53_56 : en_R cs 53 d post 56 lo (.inl b :: .inl a :: st) f = (if a < b then en_R cs 53 d post 80 lo st f else en_R cs 53 d post 59 lo st f) := ru_iclt (show en_cd 53 56 = some (.if_icmp .lt 24, 3, 0, 0) by decide +kernel) (by decide +kernel)
theorem r53_59 : en_R cs 53 d post 59 (a0 :: some (.inl x) :: lo) st f = en_R cs 53 d post 60 (a0 :: some (.inl x) :: lo) (.inl x :: st) f := ru_load1 (show en_cd 53 59 = some (.iload_n 1, 1, 0, 0) by decide +kernel) rfl
theorem r53_60 : en_R cs 53 d post 60 lo st f = en_R cs 53 d post 62 lo (.inl 8 :: st) f := ru_bipush (show en_cd 53 60 = some (.bipush 8, 2, 0, 0) by decide +kernel) (by decide +kernel)
theorem r53_62 : en_R cs 53 d post 62 lo (.inl b :: .inl a :: st) f = (if b < a then en_R cs 53 d post 80 lo st f else en_R cs 53 d post 65 lo st f) := ru_icgt (show en_cd 53 62 = some (.if_icmp .gt 18, 3, 0, 0) by decide +kernel) (by decide +kernel)
theorem r53_65 : en_R cs 53 d post 65 (a0 :: a1 :: some (.inl x) :: lo) st f = en_R cs 53 d post 66 (a0 :: a1 :: some (.inl x) :: lo) (.inl x :: st) f := ru_load1 (show en_cd 53 65 = some (.iload_n 2, 1, 0, 0) by decide +kernel) rfl
theorem r53_66 : en_R cs 53 d post 66 lo st f = en_R cs 53 d post 67 lo (.inl 1 :: st) f := ru_iconst (show en_cd 53 66 = some (.iconst 1, 1, 0, 0) by decide +kernel) (by decide +kernel)
theorem r53_67 : en_R cs 53 d post 67 lo (.inl b :: .inl a :: st) f = (if a < b then en_R cs 53 d post 80 lo st f else en_R cs 53 d post 70 lo st f) := ru_iclt (show en_cd 53 67 = some (.if_icmp .lt 13, 3, 0, 0) by decide +kernel) (by decide +kernel)
theorem r53_70 : en_R cs 53 d post 70 (a0 :: a1 :: some (.inl x) :: lo) st f = en_R cs 53 d post 71 (a0 :: a1 :: some (.inl x) :: lo) (.inl x :: st) f := ru_load1 (show en_cd 53 70 = some (.iload_n 2, 1, 0, 0) by decide +kernel) rfl
theorem r53_71 : en_R cs 53 d post 71 lo st f = en_R cs 53 d post 73 lo (.inl 60 :: st) f := ru_bipush (show en_cd 53 71 = some (.bipush 60, 2, 0, 0) by decide +kernel) (by decide +kernel)
theorem r53_73 : en_R cs 53 d post 73 lo (.inl b :: .inl a :: st) f = (if b < a then en_R cs 53 d post 80 lo st f else en_R cs 53 d post 76 lo st f) := ru_icgt (show en_cd 53 73 = some (.if_icmp .gt 7, 3, 0, 0) by decide +kernel) (by decide +kernel)
theorem r53_76 : en_R cs 53 d post 76 lo st f = en_R cs 53 d post 77 lo (.inl 1 :: st) f := ru_iconst (show en_cd 53 76 = some (.iconst 1, 1, 0, 0) by decide +kernel) (by decide +kernel)
theorem r53_77 : en_R cs 53 d post 77 lo st f = en_R cs 53 d post 81 lo st f := ru_goto (show en_cd 53 77 = some (.goto 4, 3, 0, 0) by decide +kernel) (by decide +kernel)
theorem r53_80 : en_R cs 53 d post 80 lo st f = en_R cs 53 d post 81 lo (.inl 0 :: st) f := ru_iconst (show en_cd 53 80 = some (.iconst 0, 1, 0, 0) by decide +kernel) (by decide +kernel)
theorem r53_81 : en_R cs 53 d post 81 lo ([.inl x]) f = (en_isz x = true ∧ post (some (.inl x)) f) := ru_ire2 (show en_cd 53 81 = some (.ireturn, 1, 0, 0) by decide +kernel) (by decide +kernel)
theorem r53_82 : en_R cs 53 d post 82 (a0 :: some (.inl x) :: lo) st f = en_R cs 53 d post 83 (a0 :: some (.inl x) :: lo) (.inl x :: st) f := ru_load1 (show en_cd 53 82 = some (.iload_n 1, 1, 0, 0) by decide +kernel) rfl
theorem r53_83 : en_R cs 53 d post 83 lo (.inl a :: st) f = (if a = 0 then en_R cs 53 d post 86 lo st f else en_R cs 53 d post 94 lo st f) := ru_ifne (show en_cd 53 83 = some (.ifCond .ne 11, 3, 0, 0) by decide +kernel) (by decide +kernel)
theorem r53_86 : en_R cs 53 d post 86 (a0 :: a1 :: some (.inl x) :: lo) st f = en_R cs 53 d post 87 (a0 :: a1 :: some (.inl x) :: lo) (.inl x :: st) f := ru_load1 (show en_cd 53 86 = some (.iload_n 2, 1, 0, 0) by decide +kernel) rfl
theorem r53_87 : en_R cs 53 d post 87 lo (.inl a :: st) f = (if a = 0 then en_R cs 53 d post 90 lo st f else en_R cs 53 d post 94 lo st f) := ru_ifne (show en_cd 53 87 = some (.ifCond .ne 7, 3, 0, 0) by decide +kernel) (by decide +kernel)
theorem r53_90 : en_R cs 53 d post 90 lo st f = en_R cs 53 d post 91 lo (.inl 1 :: st) f := ru_iconst (show en_cd 53 90 = some (.iconst 1, 1, 0, 0) by decide +kernel) (by decide +kernel)
theorem r53_91 : en_R cs 53 d post 91 lo st f = en_R cs 53 d post 95 lo st f := ru_goto (show en_cd 53 91 = some (.goto 4, 3, 0, 0) by decide +kernel) (by decide +kernel)
theorem r53_94 : en_R cs 53 d post 94 lo st f = en_R cs 53 d post 95 lo (.inl 0 :: st) f := ru_iconst (show en_cd 53 94 = some (.iconst 0, 1, 0, 0) by decide +kernel) (by decide +kernel)
theorem r53_95 : en_R cs 53 d post 95 lo ([.inl x]) f = (en_isz x = true ∧ post (some (.inl x)) f) := ru_ire2 (show en_cd 53 95 = some (.ireturn, 1, 0, 0) by decide +kernel) (by decide +kernel)
theorem r53_96 : en_R cs 53 d post 96 lo st f = en_R cs 53 d post 97 lo (.inl 0 :: st) f := ru_iconst (show en_cd 53 96 = some (.iconst 0, 1, 0, 0) by decide +kernel) (by decide +kernel)
theorem r53_97 : en_R cs 53 d post 97 lo ([.inl x]) f = (en_isz x = true ∧ post (some (.inl x)) f) := ru_ire2 (show en_cd 53 97 = some (.ireturn, 1, 0, 0) by decide +kernel) (by decide +kernel)
theorem r54_0 : en_R cs 54 d post 0 (a0 :: some (.inl x) :: lo) st f = en_R cs 54 d post 1 (a0 :: some (.inl x) :: lo) (.inl x :: st) f := ru_load1 (show en_cd 54 0 = some (.iload_n 1, 1, 0, 0) by decide +kernel) rfl
theorem r54_1 : en_R cs 54 d post 1 lo st f = en_R cs 54 d post 2 lo (.inl 2 :: st) f := ru_iconst (show en_cd 54 1 = some (.iconst 2, 1, 0, 0) by decide +kernel) (by decide +kernel)
theorem r54_2 : en_R cs 54 d post 2 lo (.inl b :: .inl a :: st) f = (if a < b then en_R cs 54 d post 23 lo st f else en_R cs 54 d post 5 lo st f) := ru_iclt (show en_cd 54 2 = some (.if_icmp .lt 21, 3, 0, 0) by decide +kernel) (by decide +kernel)
theorem r54_5 : en_R cs 54 d post 5 (some (.inr q) :: lo) st f = en_R cs 54 d post 6 (some (.inr q) :: lo) (.inr q :: st) f := ru_aload1 (show en_cd 54 5 = some (.aload_n 0, 1, 0, 0) by decide +kernel) rfl
theorem r54_6 : en_R cs 54 d post 6 lo (.inr (0, i) :: st) f = (i < 1 ∧ en_R cs 54 d post 9 lo (.inr (1, i) :: st) f) := ru_getR (show en_cd 54 6 = some (.getfield 11, 3, 0, 0) by decide +kernel) (by decide +kernel) (by decide +kernel)
theorem r54_9 : en_R cs 54 d post 9 (a0 :: some (.inl x) :: lo) st f = en_R cs 54 d post 10 (a0 :: some (.inl x) :: lo) (.inl x :: st) f := ru_load1 (show en_cd 54 9 = some (.iload_n 1, 1, 0, 0) by decide +kernel) rfl
theorem r54_10 : en_R cs 54 d post 10 lo (u1 :: st) f = (st.length ≤ 8 ∧ en_Ev d 50 [u1] f (fun r g => en_R cs 54 d post 13 lo (r.toList ++ st) g)) := ru_is (al := [u1]) (show en_cd 54 10 = some (.invokestatic 150, 3, 50, 0) by decide +kernel) (by decide +kernel) (show en_np 50 = 1 by decide +kernel) rfl
theorem r54_13 : en_R cs 54 d post 13 lo (.inl x :: .inr (1, i) :: st) f = (i < 1 ∧ en_inr x 6 = true ∧ en_R cs 54 d post 14 lo (.inr (3, x.toNatClampNeg) :: st) f) := ru_aald (show en_cd 54 13 = some (.aaload, 1, 0, 0) by decide +kernel) (by decide +kernel) (by decide +kernel) (by decide +kernel) (by decide +kernel)
theorem r54_14 : en_R cs 54 d post 14 lo (.inr (3, i) :: st) f = (i < 6 ∧ en_R cs 54 d post 17 lo (.inr (4, i) :: st) f) := ru_getR (show en_cd 54 14 = some (.getfield 57, 3, 3, 0) by decide +kernel) (by decide +kernel) (by decide +kernel)
theorem r54_17 : en_R cs 54 d post 17 lo (.inr (4, i) :: st) f = (i < 6 ∧ en_R cs 54 d post 20 lo (.inl (f.1 4 i 8) :: st) f) := ru_getI (show en_cd 54 17 = some (.getfield 153, 3, 4, 8) by decide +kernel) (by decide +kernel) (by decide +kernel) (by decide +kernel)
theorem r54_20 : en_R cs 54 d post 20 lo (.inl a :: st) f = (if a = 0 then en_R cs 54 d post 33 lo st f else en_R cs 54 d post 23 lo st f) := ru_ifeq (show en_cd 54 20 = some (.ifCond .eq 13, 3, 0, 0) by decide +kernel) (by decide +kernel)
theorem r54_23 : en_R cs 54 d post 23 (some (.inr q) :: lo) st f = en_R cs 54 d post 24 (some (.inr q) :: lo) (.inr q :: st) f := ru_aload1 (show en_cd 54 23 = some (.aload_n 0, 1, 0, 0) by decide +kernel) rfl
theorem r54_24 : en_R cs 54 d post 24 lo (.inr (0, i) :: st) f = (i < 1 ∧ en_R cs 54 d post 27 lo (.inr (1, i) :: st) f) := ru_getR (show en_cd 54 24 = some (.getfield 11, 3, 0, 0) by decide +kernel) (by decide +kernel) (by decide +kernel)
theorem r54_27 : en_R cs 54 d post 27 (a0 :: some (.inl x) :: lo) st f = en_R cs 54 d post 28 (a0 :: some (.inl x) :: lo) (.inl x :: st) f := ru_load1 (show en_cd 54 27 = some (.iload_n 1, 1, 0, 0) by decide +kernel) rfl
theorem r54_28 : en_R cs 54 d post 28 lo (.inl x :: .inr (1, i) :: st) f = (i < 1 ∧ en_inr x 6 = true ∧ en_R cs 54 d post 29 lo (.inr (3, x.toNatClampNeg) :: st) f) := ru_aald (show en_cd 54 28 = some (.aaload, 1, 0, 0) by decide +kernel) (by decide +kernel) (by decide +kernel) (by decide +kernel) (by decide +kernel)
theorem r54_29 : en_R cs 54 d post 29 lo st f = en_R cs 54 d post 30 lo (.inl 1 :: st) f := ru_iconst (show en_cd 54 29 = some (.iconst 1, 1, 0, 0) by decide +kernel) (by decide +kernel)
theorem r54_30 : en_R cs 54 d post 30 lo (.inl x :: .inr (3, i) :: st) f = (i < 6 ∧ en_isz x = true ∧ en_R cs 54 d post 33 lo st (en_up f.1 3 i 2 x, f.2)) := ru_putZ (show en_cd 54 30 = some (.putfield 84, 3, 3, 2) by decide +kernel) (by decide +kernel) (by decide +kernel) (by decide +kernel)
theorem r54_33 : en_R cs 54 d post 33 lo [] f = post none f := ru_vre (show en_cd 54 33 = some (.return_, 1, 0, 0) by decide +kernel) (by decide +kernel)
theorem r55_0 : en_R cs 55 d post 0 lo st f = en_R cs 55 d post 1 lo (.inl 0 :: st) f := ru_iconst (show en_cd 55 0 = some (.iconst 0, 1, 0, 0) by decide +kernel) (by decide +kernel)
theorem r55_1 : en_R cs 55 d post 1 (a0 :: a1 :: lo) (.inl x :: st) f = en_R cs 55 d post 2 (a0 :: some (.inl x) :: lo) st f := ru_istore1 (show en_cd 55 1 = some (.istore_n 1, 1, 0, 0) by decide +kernel) (Nat.lt_of_lt_of_le (by decide : 1 < 2) (Nat.le_add_left 2 lo.length))
theorem r55_2 : en_R cs 55 d post 2 (a0 :: some (.inl x) :: lo) st f = en_R cs 55 d post 3 (a0 :: some (.inl x) :: lo) (.inl x :: st) f := ru_load1 (show en_cd 55 2 = some (.iload_n 1, 1, 0, 0) by decide +kernel) rfl
theorem r55_3 : en_R cs 55 d post 3 lo st f = en_R cs 55 d post 4 lo (.inl 2 :: st) f := ru_iconst (show en_cd 55 3 = some (.iconst 2, 1, 0, 0) by decide +kernel) (by decide +kernel)
theorem r55_4 : en_R cs 55 d post 4 lo (.inl b :: .inl a :: st) f = (if b ≤ a then en_R cs 55 d post 23 lo st f else en_R cs 55 d post 7 lo st f) := ru_icge (show en_cd 55 4 = some (.if_icmp .ge 19, 3, 0, 0) by decide +kernel) (by decide +kernel)
theorem r55_7 : en_R cs 55 d post 7 (some (.inr q) :: lo) st f = en_R cs 55 d post 8 (some (.inr q) :: lo) (.inr q :: st) f := ru_aload1 (show en_cd 55 7 = some (.aload_n 0, 1, 0, 0) by decide +kernel) rfl
theorem r55_8 : en_R cs 55 d post 8 (a0 :: some (.inl x) :: lo) st f = en_R cs 55 d post 9 (a0 :: some (.inl x) :: lo) (.inl x :: st) f := ru_load1 (show en_cd 55 8 = some (.iload_n 1, 1, 0, 0) by decide +kernel) rfl
theorem r55_9 : en_R cs 55 d post 9 (some (.inr q) :: lo) st f = en_R cs 55 d post 10 (some (.inr q) :: lo) (.inr q :: st) f := ru_aload1 (show en_cd 55 9 = some (.aload_n 0, 1, 0, 0) by decide +kernel) rfl
theorem r55_10 : en_R cs 55 d post 10 (a0 :: some (.inl x) :: lo) st f = en_R cs 55 d post 11 (a0 :: some (.inl x) :: lo) (.inl x :: st) f := ru_load1 (show en_cd 55 10 = some (.iload_n 1, 1, 0, 0) by decide +kernel) rfl
theorem r55_11 : en_R cs 55 d post 11 lo (u1 :: .inr (0, i) :: st) f = (st.length ≤ 8 ∧ i < 1 ∧ en_Ev d 56 [.inr (0, i), u1] f (fun r g => en_R cs 55 d post 14 lo (r.toList ++ st) g)) := ru_iv (al := [u1]) (show en_cd 55 11 = some (.invokevirtual 156, 3, 56, 0) by decide +kernel) (by decide +kernel) (show en_np 56 = 1 by decide +kernel) (by decide +kernel) rfl
theorem r55_14 : en_R cs 55 d post 14 lo (u2 :: u1 :: .inr (0, i) :: st) f = (st.length ≤ 8 ∧ i < 1 ∧ en_Ev d 57 [.inr (0, i), u1, u2] f (fun r g => en_R cs 55 d post 17 lo (r.toList ++ st) g)) := ru_iv (al := [u1, u2]) (show en_cd 55 14 = some (.invokevirtual 159, 3, 57, 0) by decide +kernel) (by decide +kernel) (show en_np 57 = 2 by decide +kernel) (by decide +kernel) rfl
theorem r55_17 : en_R cs 55 d post 17 (a0 :: some (.inl x) :: lo) st f = en_R cs 55 d post 20 (a0 :: some (.inl (x + 1)) :: lo) st f := ru_iinc (show en_cd 55 17 = some (.iinc 1 1, 3, 0, 0) by decide +kernel) (by decide +kernel) rfl
theorem r55_20 : en_R cs 55 d post 20 lo st f = en_R cs 55 d post 2 lo st f := ru_goto (show en_cd 55 20 = some (.goto (-18), 3, 0, 0) by decide +kernel) (by decide +kernel)
theorem r55_23 : en_R cs 55 d post 23 lo [] f = post none f := ru_vre (show en_cd 55 23 = some (.return_, 1, 0, 0) by decide +kernel) (by decide +kernel)
theorem r56_0 : en_R cs 56 d post 0 (some (.inr q) :: lo) st f = en_R cs 56 d post 1 (some (.inr q) :: lo) (.inr q :: st) f := ru_aload1 (show en_cd 56 0 = some (.aload_n 0, 1, 0, 0) by decide +kernel) rfl
theorem r56_1 : en_R cs 56 d post 1 lo (.inr (0, i) :: st) f = (i < 1 ∧ en_R cs 56 d post 4 lo (.inr (1, i) :: st) f) := ru_getR (show en_cd 56 1 = some (.getfield 11, 3, 0, 0) by decide +kernel) (by decide +kernel) (by decide +kernel)
theorem r56_4 : en_R cs 56 d post 4 (a0 :: some (.inl x) :: lo) st f = en_R cs 56 d post 5 (a0 :: some (.inl x) :: lo) (.inl x :: st) f := ru_load1 (show en_cd 56 4 = some (.iload_n 1, 1, 0, 0) by decide +kernel) rfl
theorem r56_5 : en_R cs 56 d post 5 lo (.inl x :: .inr (1, i) :: st) f = (i < 1 ∧ en_inr x 6 = true ∧ en_R cs 56 d post 6 lo (.inr (3, x.toNatClampNeg) :: st) f) := ru_aald (show en_cd 56 5 = some (.aaload, 1, 0, 0) by decide +kernel) (by decide +kernel) (by decide +kernel) (by decide +kernel) (by decide +kernel)
theorem r56_6 : en_R cs 56 d post 6 (a0 :: a1 :: a2 :: lo) (.inr q :: st) f = en_R cs 56 d post 7 (a0 :: a1 :: some (.inr q) :: lo) st f := ru_astore1 (show en_cd 56 6 = some (.astore_n 2, 1, 0, 0) by decide +kernel) (Nat.lt_of_lt_of_le (by decide : 2 < 3) (Nat.le_add_left 3 lo.length))
theorem r56_7 : en_R cs 56 d post 7 (a0 :: a1 :: some (.inr q) :: lo) st f = en_R cs 56 d post 8 (a0 :: a1 :: some (.inr q) :: lo) (.inr q :: st) f := ru_aload1 (show en_cd 56 7 = some (.aload_n 2, 1, 0, 0) by decide +kernel) rfl
theorem r56_8 : en_R cs 56 d post 8 lo (.inr (3, i) :: st) f = (i < 6 ∧ en_R cs 56 d post 11 lo (.inl (f.1 3 i 2) :: st) f) := ru_getI (show en_cd 56 8 = some (.getfield 84, 3, 3, 2) by decide +kernel) (by decide +kernel) (by decide +kernel) (by decide +kernel)
theorem r56_11 : en_R cs 56 d post 11 lo (.inl a :: st) f = (if a = 0 then en_R cs 56 d post 14 lo st f else en_R cs 56 d post 16 lo st f) := ru_ifne (show en_cd 56 11 = some (.ifCond .ne 5, 3, 0, 0) by decide +kernel) (by decide +kernel)
theorem r56_14 : en_R cs 56 d post 14 lo st f = en_R cs 56 d post 15 lo (.inl 0 :: st) f := ru_iconst (show en_cd 56 14 = some (.iconst 0, 1, 0, 0) by decide +kernel) (by decide +kernel)
theorem r56_15 : en_R cs 56 d post 15 lo ([.inl x]) f = post (some (.inl x)) f := ru_ire1 (show en_cd 56 15 = some (.ireturn, 1, 0, 0) by decide +kernel) (by decide +kernel)
theorem r56_16 : en_R cs 56 d post 16 (a0 :: a1 :: some (.inr q) :: lo) st f = en_R cs 56 d post 17 (a0 :: a1 :: some (.inr q) :: lo) (.inr q :: st) f := ru_aload1 (show en_cd 56 16 = some (.aload_n 2, 1, 0, 0) by decide +kernel) rfl
theorem r56_17 : en_R cs 56 d post 17 lo st f = en_R cs 56 d post 18 lo (.inl 0 :: st) f := ru_iconst (show en_cd 56 17 = some (.iconst 0, 1, 0, 0) by decide +kernel) (by decide +kernel)
theorem r56_18 : en_R cs 56 d post 18 lo (.inl x :: .inr (3, i) :: st) f = (i < 6 ∧ en_isz x = true ∧ en_R cs 56 d post 21 lo st (en_up f.1 3 i 2 x, f.2)) := ru_putZ (show en_cd 56 18 = some (.putfield 84, 3, 3, 2) by decide +kernel) (by decide +kernel) (by decide +kernel) (by decide +kernel)
theorem r56_21 : en_R cs 56 d post 21 (a0 :: a1 :: some (.inr q) :: lo) st f = en_R cs 56 d post 22 (a0 :: a1 :: some (.inr q) :: lo) (.inr q :: st) f := ru_aload1 (show en_cd 56 21 = some (.aload_n 2, 1, 0, 0) by decide +kernel) rfl
theorem r56_22 : en_R cs 56 d post 22 lo (.inr (3, i) :: st) f = (st.length ≤ 8 ∧ i < 6 ∧ en_Ev d 26 [.inr (3, i)] f (fun r g => en_R cs 56 d post 25 lo (r.toList ++ st) g)) := ru_iv (al := []) (show en_cd 56 22 = some (.invokevirtual 45, 3, 26, 0) by decide +kernel) (by decide +kernel) (show en_np 26 = 0 by decide +kernel) (by decide +kernel) rfl
theorem r56_25 : en_R cs 56 d post 25 lo (.inl a :: st) f = (if a = 0 then en_R cs 56 d post 32 lo st f else en_R cs 56 d post 28 lo st f) := ru_ifeq (show en_cd 56 25 = some (.ifCond .eq 7, 3, 0, 0) by decide +kernel) (by decide +kernel)
theorem r56_28 : en_R cs 56 d post 28 lo st f = en_R cs 56 d post 29 lo (.inl 3 :: st) f := ru_iconst (show en_cd 56 28 = some (.iconst 3, 1, 0, 0) by decide +kernel) (by decide +kernel)
theorem r56_29 : en_R cs 56 d post 29 lo st f = en_R cs 56 d post 33 lo st f := ru_goto (show en_cd 56 29 = some (.goto 4, 3, 0, 0) by decide +kernel) (by decide +kernel)
theorem r56_32 : en_R cs 56 d post 32 lo st f = en_R cs 56 d post 33 lo (.inl 1 :: st) f := ru_iconst (show en_cd 56 32 = some (.iconst 1, 1, 0, 0) by decide +kernel) (by decide +kernel)
theorem r56_33 : en_R cs 56 d post 33 lo ([.inl x]) f = post (some (.inl x)) f := ru_ire1 (show en_cd 56 33 = some (.ireturn, 1, 0, 0) by decide +kernel) (by decide +kernel)
theorem r57_0 : en_R cs 57 d post 0 (a0 :: a1 :: some (.inl x) :: lo) st f = en_R cs 57 d post 1 (a0 :: a1 :: some (.inl x) :: lo) (.inl x :: st) f := ru_load1 (show en_cd 57 0 = some (.iload_n 2, 1, 0, 0) by decide +kernel) rfl
theorem r57_1 : en_R cs 57 d post 1 lo st f = en_R cs 57 d post 2 lo (.inl 1 :: st) f := ru_iconst (show en_cd 57 1 = some (.iconst 1, 1, 0, 0) by decide +kernel) (by decide +kernel)
theorem r57_2 : en_R cs 57 d post 2 lo (.inl b :: .inl a :: st) f = en_R cs 57 d post 3 lo (.inl (a &&& b) :: st) f := ru_iand (show en_cd 57 2 = some (.iand, 1, 0, 0) by decide +kernel)
theorem r57_3 : en_R cs 57 d post 3 lo (.inl a :: st) f = (if a = 0 then en_R cs 57 d post 6 lo st f else en_R cs 57 d post 7 lo st f) := ru_ifne (show en_cd 57 3 = some (.ifCond .ne 4, 3, 0, 0) by decide +kernel) (by decide +kernel)
theorem r57_6 : en_R cs 57 d post 6 lo [] f = post none f := ru_vre (show en_cd 57 6 = some (.return_, 1, 0, 0) by decide +kernel) (by decide +kernel)
theorem r57_7 : en_R cs 57 d post 7 (some (.inr q) :: lo) st f = en_R cs 57 d post 8 (some (.inr q) :: lo) (.inr q :: st) f := ru_aload1 (show en_cd 57 7 = some (.aload_n 0, 1, 0, 0) by decide +kernel) rfl
theorem r57_8 : en_R cs 57 d post 8 (a0 :: some (.inl x) :: lo) st f = en_R cs 57 d post 9 (a0 :: some (.inl x) :: lo) (.inl x :: st) f := ru_load1 (show en_cd 57 8 = some (.iload_n 1, 1, 0, 0) by decide +kernel) rfl
theorem r57_9 : en_R cs 57 d post 9 lo (u1 :: .inr (0, i) :: st) f = (st.length ≤ 8 ∧ i < 1 ∧ en_Ev d 58 [.inr (0, i), u1] f (fun r g => en_R cs 57 d post 12 lo (r.toList ++ st) g)) := ru_iv (al := [u1]) (show en_cd 57 9 = some (.invokevirtual 162, 3, 58, 0) by decide +kernel) (by decide +kernel) (show en_np 58 = 1 by decide +kernel) (by decide +kernel) rfl
theorem r57_12 : en_R cs 57 d post 12 (a0 :: a1 :: some (.inl x) :: lo) st f = en_R cs 57 d post 13 (a0 :: a1 :: some (.inl x) :: lo) (.inl x :: st) f := ru_load1 (show en_cd 57 12 = some (.iload_n 2, 1, 0, 0) by decide +kernel) rfl
theorem r57_13 : en_R cs 57 d post 13 lo st f = en_R cs 57 d post 14 lo (.inl 2 :: st) f := ru_iconst (show en_cd 57 13 = some (.iconst 2, 1, 0, 0) by decide +kernel) (by decide +kernel)
theorem r57_14 : en_R cs 57 d post 14 lo (.inl b :: .inl a :: st) f = en_R cs 57 d post 15 lo (.inl (a &&& b) :: st) f := ru_iand (show en_cd 57 14 = some (.iand, 1, 0, 0) by decide +kernel)
theorem r57_15 : en_R cs 57 d post 15 lo (.inl a :: st) f = (if a = 0 then en_R cs 57 d post 28 lo st f else en_R cs 57 d post 18 lo st f) := ru_ifeq (show en_cd 57 15 = some (.ifCond .eq 13, 3, 0, 0) by decide +kernel) (by decide +kernel)
theorem r57_18 : en_R cs 57 d post 18 (some (.inr q) :: lo) st f = en_R cs 57 d post 19 (some (.inr q) :: lo) (.inr q :: st) f := ru_aload1 (show en_cd 57 18 = some (.aload_n 0, 1, 0, 0) by decide +kernel) rfl
theorem r57_19 : en_R cs 57 d post 19 lo (.inr (0, i) :: st) f = (i < 1 ∧ en_R cs 57 d post 22 lo (.inr (1, i) :: st) f) := ru_getR (show en_cd 57 19 = some (.getfield 11, 3, 0, 0) by decide +kernel) (by decide +kernel) (by decide +kernel)
theorem r57_22 : en_R cs 57 d post 22 (a0 :: some (.inl x) :: lo) st f = en_R cs 57 d post 23 (a0 :: some (.inl x) :: lo) (.inl x :: st) f := ru_load1 (show en_cd 57 22 = some (.iload_n 1, 1, 0, 0) by decide +kernel) rfl
theorem r57_23 : en_R cs 57 d post 23 lo (.inl x :: .inr (1, i) :: st) f = (i < 1 ∧ en_inr x 6 = true ∧ en_R cs 57 d post 24 lo (.inr (3, x.toNatClampNeg) :: st) f) := ru_aald (show en_cd 57 23 = some (.aaload, 1, 0, 0) by decide +kernel) (by decide +kernel) (by decide +kernel) (by decide +kernel) (by decide +kernel)
theorem r57_24 : en_R cs 57 d post 24 lo st f = en_R cs 57 d post 25 lo (.inl 1 :: st) f := ru_iconst (show en_cd 57 24 = some (.iconst 1, 1, 0, 0) by decide +kernel) (by decide +kernel)
theorem r57_25 : en_R cs 57 d post 25 lo (.inl x :: .inr (3, i) :: st) f = (i < 6 ∧ en_R cs 57 d post 28 lo st (en_up f.1 3 i 3 x, f.2)) := ru_putI (show en_cd 57 25 = some (.putfield 117, 3, 3, 3) by decide +kernel) (by decide +kernel) (by decide +kernel) (by decide +kernel)
theorem r57_28 : en_R cs 57 d post 28 lo [] f = post none f := ru_vre (show en_cd 57 28 = some (.return_, 1, 0, 0) by decide +kernel) (by decide +kernel)
theorem r58_0 : en_R cs 58 d post 0 (some (.inr q) :: lo) st f = en_R cs 58 d post 1 (some (.inr q) :: lo) (.inr q :: st) f := ru_aload1 (show en_cd 58 0 = some (.aload_n 0, 1, 0, 0) by decide +kernel) rfl
theorem r58_1 : en_R cs 58 d post 1 lo (.inr (0, i) :: st) f = (i < 1 ∧ en_R cs 58 d post 4 lo (.inr (1, i) :: st) f) := ru_getR (show en_cd 58 1 = some (.getfield 11, 3, 0, 0) by decide +kernel) (by decide +kernel) (by decide +kernel)
theorem r58_4 : en_R cs 58 d post 4 (a0 :: some (.inl x) :: lo) st f = en_R cs 58 d post 5 (a0 :: some (.inl x) :: lo) (.inl x :: st) f := ru_load1 (show en_cd 58 4 = some (.iload_n 1, 1, 0, 0) by decide +kernel) rfl
theorem r58_5 : en_R cs 58 d post 5 lo (.inl x :: .inr (1, i) :: st) f = (i < 1 ∧ en_inr x 6 = true ∧ en_R cs 58 d post 6 lo (.inr (3, x.toNatClampNeg) :: st) f) := ru_aald (show en_cd 58 5 = some (.aaload, 1, 0, 0) by decide +kernel) (by decide +kernel) (by decide +kernel) (by decide +kernel) (by decide +kernel)
theorem r58_6 : en_R cs 58 d post 6 lo st f = en_R cs 58 d post 7 lo (.inl 3 :: st) f := ru_iconst (show en_cd 58 6 = some (.iconst 3, 1, 0, 0) by decide +kernel) (by decide +kernel)
theorem r58_7 : en_R cs 58 d post 7 lo (u1 :: .inr (3, i) :: st) f = (st.length ≤ 8 ∧ i < 6 ∧ en_Ev d 27 [.inr (3, i), u1] f (fun r g => en_R cs 58 d post 10 lo (r.toList ++ st) g)) := ru_iv (al := [u1]) (show en_cd 58 7 = some (.invokevirtual 165, 3, 27, 0) by decide +kernel) (by decide +kernel) (show en_np 27 = 1 by decide +kernel) (by decide +kernel) rfl
theorem r58_10 : en_R cs 58 d post 10 (a0 :: a1 :: a2 :: lo) (.inl x :: st) f = en_R cs 58 d post 11 (a0 :: a1 :: some (.inl x) :: lo) st f := ru_istore1 (show en_cd 58 10 = some (.istore_n 2, 1, 0, 0) by decide +kernel) (Nat.lt_of_lt_of_le (by decide : 2 < 3) (Nat.le_add_left 3 lo.length))
theorem r58_11 : en_R cs 58 d post 11 (some (.inr q) :: lo) st f = en_R cs 58 d post 12 (some (.inr q) :: lo) (.inr q :: st) f := ru_aload1 (show en_cd 58 11 = some (.aload_n 0, 1, 0, 0) by decide +kernel) rfl
theorem r58_12 : en_R cs 58 d post 12 (a0 :: some (.inl x) :: lo) st f = en_R cs 58 d post 13 (a0 :: some (.inl x) :: lo) (.inl x :: st) f := ru_load1 (show en_cd 58 12 = some (.iload_n 1, 1, 0, 0) by decide +kernel) rfl
theorem r58_13 : en_R cs 58 d post 13 lo (u1 :: .inr (0, i) :: st) f = (st.length ≤ 8 ∧ i < 1 ∧ en_Ev d 59 [.inr (0, i), u1] f (fun r g => en_R cs 58 d post 16 lo (r.toList ++ st) g)) := ru_iv (al := [u1]) (show en_cd 58 13 = some (.invokevirtual 168, 3, 59, 0) by decide +kernel) (by decide +kernel) (show en_np 59 = 1 by decide +kernel) (by decide +kernel) rfl
theorem r58_16 : en_R cs 58 d post 16 (a0 :: a1 :: some (.inl x) :: lo) st f = en_R cs 58 d post 17 (a0 :: a1 :: some (.inl x) :: lo) (.inl x :: st) f := ru_load1 (show en_cd 58 16 = some (.iload_n 2, 1, 0, 0) by decide +kernel) rfl
theorem r58_17 : en_R cs 58 d post 17 lo (.inl a :: st) f = (if a = 0 then en_R cs 58 d post 43 lo st f else en_R cs 58 d post 20 lo st f) := ru_ifeq (show en_cd 58 17 = some (.ifCond .eq 26, 3, 0, 0) by decide +kernel) (by decide +kernel)
theorem r58_20 : en_R cs 58 d post 20 (a0 :: some (.inl x) :: lo) st f = en_R cs 58 d post 21 (a0 :: some (.inl x) :: lo) (.inl x :: st) f := ru_load1 (show en_cd 58 20 = some (.iload_n 1, 1, 0, 0) by decide +kernel) rfl
theorem r58_21 : en_R cs 58 d post 21 lo st f = en_R cs 58 d post 22 lo (.inl 2 :: st) f := ru_iconst (show en_cd 58 21 = some (.iconst 2, 1, 0, 0) by decide +kernel) (by decide +kernel)
theorem r58_22 : en_R cs 58 d post 22 lo (.inl b :: .inl a :: st) f = (if b ≤ a then en_R cs 58 d post 43 lo st f else en_R cs 58 d post 25 lo st f) := ru_icge (show en_cd 58 22 = some (.if_icmp .ge 21, 3, 0, 0) by decide +kernel) (by decide +kernel)
theorem r58_25 : en_R cs 58 d post 25 (some (.inr q) :: lo) st f = en_R cs 58 d post 26 (some (.inr q) :: lo) (.inr q :: st) f := ru_aload1 (show en_cd 58 25 = some (.aload_n 0, 1, 0, 0) by decide +kernel) rfl
theorem r58_26 : en_R cs 58 d post 26 (a0 :: some (.inl x) :: lo) st f = en_R cs 58 d post 27 (a0 :: some (.inl x) :: lo) (.inl x :: st) f := ru_load1 (show en_cd 58 26 = some (.iload_n 1, 1, 0, 0) by decide +kernel) rfl
theorem r58_27 : en_R cs 58 d post 27 lo (u1 :: st) f = (st.length ≤ 8 ∧ en_Ev d 51 [u1] f (fun r g => en_R cs 58 d post 30 lo (r.toList ++ st) g)) := ru_is (al := [u1]) (show en_cd 58 27 = some (.invokestatic 80, 3, 51, 0) by decide +kernel) (by decide +kernel) (show en_np 51 = 1 by decide +kernel) rfl
theorem r58_30 : en_R cs 58 d post 30 lo (u1 :: .inr (0, i) :: st) f = (st.length ≤ 8 ∧ i < 1 ∧ en_Ev d 59 [.inr (0, i), u1] f (fun r g => en_R cs 58 d post 33 lo (r.toList ++ st) g)) := ru_iv (al := [u1]) (show en_cd 58 30 = some (.invokevirtual 168, 3, 59, 0) by decide +kernel) (by decide +kernel) (show en_np 59 = 1 by decide +kernel) (by decide +kernel) rfl
theorem r58_33 : en_R cs 58 d post 33 (some (.inr q) :: lo) st f = en_R cs 58 d post 34 (some (.inr q) :: lo) (.inr q :: st) f := ru_aload1 (show en_cd 58 33 = some (.aload_n 0, 1, 0, 0) by decide +kernel) rfl
theorem r58_34 : en_R cs 58 d post 34 (a0 :: some (.inl x) :: lo) st f = en_R cs 58 d post 35 (a0 :: some (.inl x) :: lo) (.inl x :: st) f := ru_load1 (show en_cd 58 34 = some (.iload_n 1, 1, 0, 0) by decide +kernel) rfl
theorem r58_35 : en_R cs 58 d post 35 lo (u1 :: st) f = (st.length ≤ 8 ∧ en_Ev d 51 [u1] f (fun r g => en_R cs 58 d post 38 lo (r.toList ++ st) g)) := ru_is (al := [u1]) (show en_cd 58 35 = some (.invokestatic 80, 3, 51, 0) by decide +kernel) (by decide +kernel) (show en_np 51 = 1 by decide +kernel) rfl
theorem r58_38 : en_R cs 58 d post 38 lo st f = en_R cs 58 d post 39 lo (.inl 1 :: st) f := ru_iconst (show en_cd 58 38 = some (.iconst 1, 1, 0, 0) by decide +kernel) (by decide +kernel)
theorem r58_39 : en_R cs 58 d post 39 lo (.inl b :: .inl a :: st) f = en_R cs 58 d post 40 lo (.inl (a + b) :: st) f := ru_iadd (show en_cd 58 39 = some (.iadd, 1, 0, 0) by decide +kernel)
theorem r58_40 : en_R cs 58 d post 40 lo (u1 :: .inr (0, i) :: st) f = (st.length ≤ 8 ∧ i < 1 ∧ en_Ev d 59 [.inr (0, i), u1] f (fun r g => en_R cs 58 d post 43 lo (r.toList ++ st) g)) := ru_iv (al := [u1]) (show en_cd 58 40 = some (.invokevirtual 168, 3, 59, 0) by decide +kernel) (by decide +kernel) (show en_np 59 = 1 by decide +kernel) (by decide +kernel) rfl
theorem r58_43 : en_R cs 58 d post 43 lo [] f = post none f := ru_vre (show en_cd 58 43 = some (.return_, 1, 0, 0) by decide +kernel) (by decide +kernel)
theorem r59_0 : en_R cs 59 d post 0 (some (.inr q) :: lo) st f = en_R cs 59 d post 1 (some (.inr q) :: lo) (.inr q :: st) f := ru_aload1 (show en_cd 59 0 = some (.aload_n 0, 1, 0, 0) by decide +kernel) rfl
theorem r59_1 : en_R cs 59 d post 1 lo (.inr (0, i) :: st) f = (i < 1 ∧ en_R cs 59 d post 4 lo (.inr (1, i) :: st) f) := ru_getR (show en_cd 59 1 = some (.getfield 11, 3, 0, 0) by decide +kernel) (by decide +kernel) (by decide +kernel)
theorem r59_4 : en_R cs 59 d post 4 (a0 :: some (.inl x) :: lo) st f = en_R cs 59 d post 5 (a0 :: some (.inl x) :: lo) (.inl x :: st) f := ru_load1 (show en_cd 59 4 = some (.iload_n 1, 1, 0, 0) by decide +kernel) rfl
theorem r59_5 : en_R cs 59 d post 5 lo (.inl x :: .inr (1, i) :: st) f = (i < 1 ∧ en_inr x 6 = true ∧ en_R cs 59 d post 6 lo (.inr (3, x.toNatClampNeg) :: st) f) := ru_aald (show en_cd 59 5 = some (.aaload, 1, 0, 0) by decide +kernel) (by decide +kernel) (by decide +kernel) (by decide +kernel) (by decide +kernel)
theorem r59_6 : en_R cs 59 d post 6 lo st f = en_R cs 59 d post 7 lo (.inl 0 :: st) f := ru_iconst (show en_cd 59 6 = some (.iconst 0, 1, 0, 0) by decide +kernel) (by decide +kernel)
theorem r59_7 : en_R cs 59 d post 7 lo (u1 :: .inr (3, i) :: st) f = (st.length ≤ 8 ∧ i < 6 ∧ en_Ev d 29 [.inr (3, i), u1] f (fun r g => en_R cs 59 d post 10 lo (r.toList ++ st) g)) := ru_iv (al := [u1]) (show en_cd 59 7 = some (.invokevirtual 171, 3, 29, 0) by decide +kernel) (by decide +kernel) (show en_np 29 = 1 by decide +kernel) (by decide +kernel) rfl
theorem r59_10 : en_R cs 59 d post 10 lo st f = en_R cs 59 d post 11 lo (.inl 0 :: st) f := ru_iconst (show en_cd 59 10 = some (.iconst 0, 1, 0, 0) by decide +kernel) (by decide +kernel)
theorem r59_11 : en_R cs 59 d post 11 (a0 :: a1 :: a2 :: lo) (.inl x :: st) f = en_R cs 59 d post 12 (a0 :: a1 :: some (.inl x) :: lo) st f := ru_istore1 (show en_cd 59 11 = some (.istore_n 2, 1, 0, 0) by decide +kernel) (Nat.lt_of_lt_of_le (by decide : 2 < 3) (Nat.le_add_left 3 lo.length))
theorem r59_12 : en_R cs 59 d post 12 (a0 :: a1 :: some (.inl x) :: lo) st f = en_R cs 59 d post 13 (a0 :: a1 :: some (.inl x) :: lo) (.inl x :: st) f := ru_load1 (show en_cd 59 12 = some (.iload_n 2, 1, 0, 0) by decide +kernel) rfl
theorem r59_13 : en_R cs 59 d post 13 (some (.inr q) :: lo) st f = en_R cs 59 d post 14 (some (.inr q) :: lo) (.inr q :: st) f := ru_aload1 (show en_cd 59 13 = some (.aload_n 0, 1, 0, 0) by decide +kernel) rfl
theorem r59_14 : en_R cs 59 d post 14 lo (.inr (0, i) :: st) f = (i < 1 ∧ en_R cs 59 d post 17 lo (.inl (f.1 0 i 4) :: st) f) := ru_getI (show en_cd 59 14 = some (.getfield 174, 3, 0, 4) by decide +kernel) (by decide +kernel) (by decide +kernel) (by decide +kernel)
theorem r59_17 : en_R cs 59 d post 17 lo (.inl b :: .inl a :: st) f = (if b ≤ a then en_R cs 59 d post 49 lo st f else en_R cs 59 d post 20 lo st f) := ru_icge (show en_cd 59 17 = some (.if_icmp .ge 32, 3, 0, 0) by decide +kernel) (by decide +kernel)
theorem r59_20 : en_R cs 59 d post 20 (some (.inr q) :: lo) st f = en_R cs 59 d post 21 (some (.inr q) :: lo) (.inr q :: st) f := ru_aload1 (show en_cd 59 20 = some (.aload_n 0, 1, 0, 0) by decide +kernel) rfl
theorem r59_21 : en_R cs 59 d post 21 lo (.inr (0, i) :: st) f = (i < 1 ∧ en_R cs 59 d post 24 lo (.inr (2, i) :: st) f) := ru_getR (show en_cd 59 21 = some (.getfield 17, 3, 0, 1) by decide +kernel) (by decide +kernel) (by decide +kernel)
theorem r59_24 : en_R cs 59 d post 24 (a0 :: a1 :: some (.inl x) :: lo) st f = en_R cs 59 d post 25 (a0 :: a1 :: some (.inl x) :: lo) (.inl x :: st) f := ru_load1 (show en_cd 59 24 = some (.iload_n 2, 1, 0, 0) by decide +kernel) rfl
theorem r59_25 : en_R cs 59 d post 25 lo (.inl x :: .inr (2, i) :: st) f = (i < 1 ∧ en_inr x 16 = true ∧ en_R cs 59 d post 26 lo (.inr (8, x.toNatClampNeg) :: st) f) := ru_aald (show en_cd 59 25 = some (.aaload, 1, 0, 0) by decide +kernel) (by decide +kernel) (by decide +kernel) (by decide +kernel) (by decide +kernel)
theorem r59_26 : en_R cs 59 d post 26 lo (.inr (8, i) :: st) f = (i < 16 ∧ en_R cs 59 d post 29 lo (.inl (f.1 8 i 2) :: st) f) := ru_getI (show en_cd 59 26 = some (.getfield 177, 3, 8, 2) by decide +kernel) (by decide +kernel) (by decide +kernel) (by decide +kernel)
theorem r59_29 : en_R cs 59 d post 29 (a0 :: some (.inl x) :: lo) st f = en_R cs 59 d post 30 (a0 :: some (.inl x) :: lo) (.inl x :: st) f := ru_load1 (show en_cd 59 29 = some (.iload_n 1, 1, 0, 0) by decide +kernel) rfl
theorem r59_30 : en_R cs 59 d post 30 lo (.inl b :: .inl a :: st) f = (if a = b then en_R cs 59 d post 33 lo st f else en_R cs 59 d post 43 lo st f) := ru_icne (show en_cd 59 30 = some (.if_icmp .ne 13, 3, 0, 0) by decide +kernel) (by decide +kernel)
theorem r59_33 : en_R cs 59 d post 33 (some (.inr q) :: lo) st f = en_R cs 59 d post 34 (some (.inr q) :: lo) (.inr q :: st) f := ru_aload1 (show en_cd 59 33 = some (.aload_n 0, 1, 0, 0) by decide +kernel) rfl
theorem r59_34 : en_R cs 59 d post 34 lo (.inr (0, i) :: st) f = (i < 1 ∧ en_R cs 59 d post 37 lo (.inr (2, i) :: st) f) := ru_getR (show en_cd 59 34 = some (.getfield 17, 3, 0, 1) by decide +kernel) (by decide +kernel) (by decide +kernel)
theorem r59_37 : en_R cs 59 d post 37 (a0 :: a1 :: some (.inl x) :: lo) st f = en_R cs 59 d post 38 (a0 :: a1 :: some (.inl x) :: lo) (.inl x :: st) f := ru_load1 (show en_cd 59 37 = some (.iload_n 2, 1, 0, 0) by decide +kernel) rfl
theorem r59_38 : en_R cs 59 d post 38 lo (.inl x :: .inr (2, i) :: st) f = (i < 1 ∧ en_inr x 16 = true ∧ en_R cs 59 d post 39 lo (.inr (8, x.toNatClampNeg) :: st) f) := ru_aald (show en_cd 59 38 = some (.aaload, 1, 0, 0) by decide +kernel) (by decide +kernel) (by decide +kernel) (by decide +kernel) (by decide +kernel)
theorem r59_39 : en_R cs 59 d post 39 lo st f = en_R cs 59 d post 40 lo (.inl 3 :: st) f := ru_iconst (show en_cd 59 39 = some (.iconst 3, 1, 0, 0) by decide +kernel) (by decide +kernel)
theorem r59_40 : en_R cs 59 d post 40 lo (u1 :: .inr (8, i) :: st) f = (st.length ≤ 8 ∧ i < 16 ∧ en_Ev d 12 [.inr (8, i), u1] f (fun r g => en_R cs 59 d post 43 lo (r.toList ++ st) g)) := ru_iv (al := [u1]) (show en_cd 59 40 = some (.invokevirtual 180, 3, 12, 0) by decide +kernel) (by decide +kernel) (show en_np 12 = 1 by decide +kernel) (by decide +kernel) rfl
theorem r59_43 : en_R cs 59 d post 43 (a0 :: a1 :: some (.inl x) :: lo) st f = en_R cs 59 d post 46 (a0 :: a1 :: some (.inl (x + 1)) :: lo) st f := ru_iinc (show en_cd 59 43 = some (.iinc 2 1, 3, 0, 0) by decide +kernel) (by decide +kernel) rfl
theorem r59_46 : en_R cs 59 d post 46 lo st f = en_R cs 59 d post 12 lo st f := ru_goto (show en_cd 59 46 = some (.goto (-34), 3, 0, 0) by decide +kernel) (by decide +kernel)
theorem r59_49 : en_R cs 59 d post 49 lo [] f = post none f := ru_vre (show en_cd 59 49 = some (.return_, 1, 0, 0) by decide +kernel) (by decide +kernel)
theorem r60_0 : en_R cs 60 d post 0 (some (.inr q) :: lo) st f = en_R cs 60 d post 1 (some (.inr q) :: lo) (.inr q :: st) f := ru_aload1 (show en_cd 60 0 = some (.aload_n 0, 1, 0, 0) by decide +kernel) rfl
theorem r60_1 : en_R cs 60 d post 1 (a0 :: some (.inl x) :: lo) st f = en_R cs 60 d post 2 (a0 :: some (.inl x) :: lo) (.inl x :: st) f := ru_load1 (show en_cd 60 1 = some (.iload_n 1, 1, 0, 0) by decide +kernel) rfl
theorem r60_2 : en_R cs 60 d post 2 lo (u1 :: .inr (0, i) :: st) f = (st.length ≤ 8 ∧ i < 1 ∧ en_Ev d 58 [.inr (0, i), u1] f (fun r g => en_R cs 60 d post 5 lo (r.toList ++ st) g)) := ru_iv (al := [u1]) (show en_cd 60 2 = some (.invokevirtual 162, 3, 58, 0) by decide +kernel) (by decide +kernel) (show en_np 58 = 1 by decide +kernel) (by decide +kernel) rfl
theorem r60_5 : en_R cs 60 d post 5 (some (.inr q) :: lo) st f = en_R cs 60 d post 6 (some (.inr q) :: lo) (.inr q :: st) f := ru_aload1 (show en_cd 60 5 = some (.aload_n 0, 1, 0, 0) by decide +kernel) rfl
theorem r60_6 : en_R cs 60 d post 6 lo (.inr (0, i) :: st) f = (i < 1 ∧ en_R cs 60 d post 9 lo (.inr (1, i) :: st) f) := ru_getR (show en_cd 60 6 = some (.getfield 11, 3, 0, 0) by decide +kernel) (by decide +kernel) (by decide +kernel)
theorem r60_9 : en_R cs 60 d post 9 (a0 :: some (.inl x) :: lo) st f = en_R cs 60 d post 10 (a0 :: some (.inl x) :: lo) (.inl x :: st) f := ru_load1 (show en_cd 60 9 = some (.iload_n 1, 1, 0, 0) by decide +kernel) rfl
theorem r60_10 : en_R cs 60 d post 10 lo (.inl x :: .inr (1, i) :: st) f = (i < 1 ∧ en_inr x 6 = true ∧ en_R cs 60 d post 11 lo (.inr (3, x.toNatClampNeg) :: st) f) := ru_aald (show en_cd 60 10 = some (.aaload, 1, 0, 0) by decide +kernel) (by decide +kernel) (by decide +kernel) (by decide +kernel) (by decide +kernel)
theorem r60_11 : en_R cs 60 d post 11 lo st f = en_R cs 60 d post 12 lo (.inl 4 :: st) f := ru_iconst (show en_cd 60 11 = some (.iconst 4, 1, 0, 0) by decide +kernel) (by decide +kernel)
theorem r60_12 : en_R cs 60 d post 12 lo (.inl x :: .inr (3, i) :: st) f = (i < 6 ∧ en_R cs 60 d post 15 lo st (en_up f.1 3 i 3 x, f.2)) := ru_putI (show en_cd 60 12 = some (.putfield 117, 3, 3, 3) by decide +kernel) (by decide +kernel) (by decide +kernel) (by decide +kernel)
theorem r60_15 : en_R cs 60 d post 15 lo [] f = post none f := ru_vre (show en_cd 60 15 = some (.return_, 1, 0, 0) by decide +kernel) (by decide +kernel)
theorem r61_0 : en_R cs 61 d post 0 lo st f = en_R cs 61 d post 1 lo (.inl 0 :: st) f := ru_iconst (show en_cd 61 0 = some (.iconst 0, 1, 0, 0) by decide +kernel) (by decide +kernel)
theorem r61_1 : en_R cs 61 d post 1 (a0 :: a1 :: lo) (.inl x :: st) f = en_R cs 61 d post 2 (a0 :: some (.inl x) :: lo) st f := ru_istore1 (show en_cd 61 1 = some (.istore_n 1, 1, 0, 0) by decide +kernel) (Nat.lt_of_lt_of_le (by decide : 1 < 2) (Nat.le_add_left 2 lo.length))
theorem r61_2 : en_R cs 61 d post 2 lo st f = en_R cs 61 d post 3 lo (.inl 0 :: st) f := ru_iconst (show en_cd 61 2 = some (.iconst 0, 1, 0, 0) by decide +kernel) (by decide +kernel)
theorem r61_3 : en_R cs 61 d post 3 (a0 :: a1 :: a2 :: lo) (.inl x :: st) f = en_R cs 61 d post 4 (a0 :: a1 :: some (.inl x) :: lo) st f := ru_istore1 (show en_cd 61 3 = some (.istore_n 2, 1, 0, 0) by decide +kernel) (Nat.lt_of_lt_of_le (by decide : 2 < 3) (Nat.le_add_left 3 lo.length))
theorem r61_4 : en_R cs 61 d post 4 (a0 :: a1 :: some (.inl x) :: lo) st f = en_R cs 61 d post 5 (a0 :: a1 :: some (.inl x) :: lo) (.inl x :: st) f := ru_load1 (show en_cd 61 4 = some (.iload_n 2, 1, 0, 0) by decide +kernel) rfl
theorem r61_5 : en_R cs 61 d post 5 lo st f = en_R cs 61 d post 7 lo (.inl 6 :: st) f := ru_bipush (show en_cd 61 5 = some (.bipush 6, 2, 0, 0) by decide +kernel) (by decide +kernel)
theorem r61_7 : en_R cs 61 d post 7 lo (.inl b :: .inl a :: st) f = (if b ≤ a then en_R cs 61 d post 54 lo st f else en_R cs 61 d post 10 lo st f) := ru_icge (show en_cd 61 7 = some (.if_icmp .ge 47, 3, 0, 0) by decide +kernel) (by decide +kernel)
theorem r61_10 : en_R cs 61 d post 10 (some (.inr q) :: lo) st f = en_R cs 61 d post 11 (some (.inr q) :: lo) (.inr q :: st) f := ru_aload1 (show en_cd 61 10 = some (.aload_n 0, 1, 0, 0) by decide +kernel) rfl
theorem r61_11 : en_R cs 61 d post 11 lo (.inr (0, i) :: st) f = (i < 1 ∧ en_R cs 61 d post 14 lo (.inr (1, i) :: st) f) := ru_getR (show en_cd 61 11 = some (.getfield 11, 3, 0, 0) by decide +kernel) (by decide +kernel) (by decide +kernel)
theorem r61_14 : en_R cs 61 d post 14 (a0 :: a1 :: some (.inl x) :: lo) st f = en_R cs 61 d post 15 (a0 :: a1 :: some (.inl x) :: lo) (.inl x :: st) f := ru_load1 (show en_cd 61 14 = some (.iload_n 2, 1, 0, 0) by decide +kernel) rfl
theorem r61_15 : en_R cs 61 d post 15 lo (.inl x :: .inr (1, i) :: st) f = (i < 1 ∧ en_inr x 6 = true ∧ en_R cs 61 d post 16 lo (.inr (3, x.toNatClampNeg) :: st) f) := ru_aald (show en_cd 61 15 = some (.aaload, 1, 0, 0) by decide +kernel) (by decide +kernel) (by decide +kernel) (by decide +kernel) (by decide +kernel)
theorem r61_16 : en_R cs 61 d post 16 lo st f = en_R cs 61 d post 17 lo (.inl 2 :: st) f := ru_iconst (show en_cd 61 16 = some (.iconst 2, 1, 0, 0) by decide +kernel) (by decide +kernel)
theorem r61_17 : en_R cs 61 d post 17 lo (u1 :: .inr (3, i) :: st) f = (st.length ≤ 8 ∧ i < 6 ∧ en_Ev d 27 [.inr (3, i), u1] f (fun r g => en_R cs 61 d post 20 lo (r.toList ++ st) g)) := ru_iv (al := [u1]) (show en_cd 61 17 = some (.invokevirtual 165, 3, 27, 0) by decide +kernel) (by decide +kernel) (show en_np 27 = 1 by decide +kernel) (by decide +kernel) rfl
theorem r61_20 : en_R cs 61 d post 20 lo (.inl a :: st) f = (if a = 0 then en_R cs 61 d post 23 lo st f else en_R cs 61 d post 36 lo st f) := ru_ifne (show en_cd 61 20 = some (.ifCond .ne 16, 3, 0, 0) by decide +kernel) (by decide +kernel)
theorem r61_23 : en_R cs 61 d post 23 (some (.inr q) :: lo) st f = en_R cs 61 d post 24 (some (.inr q) :: lo) (.inr q :: st) f := ru_aload1 (show en_cd 61 23 = some (.aload_n 0, 1, 0, 0) by decide +kernel) rfl
theorem r61_24 : en_R cs 61 d post 24 lo (.inr (0, i) :: st) f = (i < 1 ∧ en_R cs 61 d post 27 lo (.inr (1, i) :: st) f) := ru_getR (show en_cd 61 24 = some (.getfield 11, 3, 0, 0) by decide +kernel) (by decide +kernel) (by decide +kernel)
theorem r61_27 : en_R cs 61 d post 27 (a0 :: a1 :: some (.inl x) :: lo) st f = en_R cs 61 d post 28 (a0 :: a1 :: some (.inl x) :: lo) (.inl x :: st) f := ru_load1 (show en_cd 61 27 = some (.iload_n 2, 1, 0, 0) by decide +kernel) rfl
theorem r61_28 : en_R cs 61 d post 28 lo (.inl x :: .inr (1, i) :: st) f = (i < 1 ∧ en_inr x 6 = true ∧ en_R cs 61 d post 29 lo (.inr (3, x.toNatClampNeg) :: st) f) := ru_aald (show en_cd 61 28 = some (.aaload, 1, 0, 0) by decide +kernel) (by decide +kernel) (by decide +kernel) (by decide +kernel) (by decide +kernel)
theorem r61_29 : en_R cs 61 d post 29 lo st f = en_R cs 61 d post 30 lo (.inl 3 :: st) f := ru_iconst (show en_cd 61 29 = some (.iconst 3, 1, 0, 0) by decide +kernel) (by decide +kernel)
theorem r61_30 : en_R cs 61 d post 30 lo (u1 :: .inr (3, i) :: st) f = (st.length ≤ 8 ∧ i < 6 ∧ en_Ev d 27 [.inr (3, i), u1] f (fun r g => en_R cs 61 d post 33 lo (r.toList ++ st) g)) := ru_iv (al := [u1]) (show en_cd 61 30 = some (.invokevirtual 165, 3, 27, 0) by decide +kernel) (by decide +kernel) (show en_np 27 = 1 by decide +kernel) (by decide +kernel) rfl
theorem r61_33 : en_R cs 61 d post 33 lo (.inl a :: st) f = (if a = 0 then en_R cs 61 d post 48 lo st f else en_R cs 61 d post 36 lo st f) := ru_ifeq (show en_cd 61 33 = some (.ifCond .eq 15, 3, 0, 0) by decide +kernel) (by decide +kernel)
theorem r61_36 : en_R cs 61 d post 36 (a0 :: some (.inl x) :: lo) st f = en_R cs 61 d post 37 (a0 :: some (.inl x) :: lo) (.inl x :: st) f := ru_load1 (show en_cd 61 36 = some (.iload_n 1, 1, 0, 0) by decide +kernel) rfl
theorem r61_37 : en_R cs 61 d post 37 (some (.inr q) :: lo) st f = en_R cs 61 d post 38 (some (.inr q) :: lo) (.inr q :: st) f := ru_aload1 (show en_cd 61 37 = some (.aload_n 0, 1, 0, 0) by decide +kernel) rfl
theorem r61_38 : en_R cs 61 d post 38 lo (.inr (0, i) :: st) f = (i < 1 ∧ en_R cs 61 d post 41 lo (.inr (1, i) :: st) f) := ru_getR (show en_cd 61 38 = some (.getfield 11, 3, 0, 0) by decide +kernel) (by decide +kernel) (by decide +kernel)
theorem r61_41 : en_R cs 61 d post 41 (a0 :: a1 :: some (.inl x) :: lo) st f = en_R cs 61 d post 42 (a0 :: a1 :: some (.inl x) :: lo) (.inl x :: st) f := ru_load1 (show en_cd 61 41 = some (.iload_n 2, 1, 0, 0) by decide +kernel) rfl
theorem r61_42 : en_R cs 61 d post 42 lo (.inl x :: .inr (1, i) :: st) f = (i < 1 ∧ en_inr x 6 = true ∧ en_R cs 61 d post 43 lo (.inr (3, x.toNatClampNeg) :: st) f) := ru_aald (show en_cd 61 42 = some (.aaload, 1, 0, 0) by decide +kernel) (by decide +kernel) (by decide +kernel) (by decide +kernel) (by decide +kernel)
theorem r61_43 : en_R cs 61 d post 43 lo (.inr (3, i) :: st) f = (i < 6 ∧ en_R cs 61 d post 46 lo (.inl (f.1 3 i 12) :: st) f) := ru_getI (show en_cd 61 43 = some (.getfield 183, 3, 3, 12) by decide +kernel) (by decide +kernel) (by decide +kernel) (by decide +kernel)
theorem r61_46 : en_R cs 61 d post 46 lo (.inl b :: .inl a :: st) f = en_R cs 61 d post 47 lo (.inl (a + b) :: st) f := ru_iadd (show en_cd 61 46 = some (.iadd, 1, 0, 0) by decide +kernel)
theorem r61_47 : en_R cs 61 d post 47 (a0 :: a1 :: lo) (.inl x :: st) f = en_R cs 61 d post 48 (a0 :: some (.inl x) :: lo) st f := ru_istore1 (show en_cd 61 47 = some (.istore_n 1, 1, 0, 0) by decide +kernel) (Nat.lt_of_lt_of_le (by decide : 1 < 2) (Nat.le_add_left 2 lo.length))
theorem r61_48 : en_R cs 61 d post 48 (a0 :: a1 :: some (.inl x) :: lo) st f = en_R cs 61 d post 51 (a0 :: a1 :: some (.inl (x + 1)) :: lo) st f := ru_iinc (show en_cd 61 48 = some (.iinc 2 1, 3, 0, 0) by decide +kernel) (by decide +kernel) rfl
theorem r61_51 : en_R cs 61 d post 51 lo st f = en_R cs 61 d post 4 lo st f := ru_goto (show en_cd 61 51 = some (.goto (-47), 3, 0, 0) by decide +kernel) (by decide +kernel)
theorem r61_54 : en_R cs 61 d post 54 (a0 :: some (.inl x) :: lo) st f = en_R cs 61 d post 55 (a0 :: some (.inl x) :: lo) (.inl x :: st) f := ru_load1 (show en_cd 61 54 = some (.iload_n 1, 1, 0, 0) by decide +kernel) rfl
theorem r61_55 : en_R cs 61 d post 55 lo ([.inl x]) f = post (some (.inl x)) f := ru_ire1 (show en_cd 61 55 = some (.ireturn, 1, 0, 0) by decide +kernel) (by decide +kernel)
theorem r62_0 : en_R cs 62 d post 0 (a0 :: a1 :: some (.inl x) :: lo) st f = en_R cs 62 d post 1 (a0 :: a1 :: some (.inl x) :: lo) (.inl x :: st) f := ru_load1 (show en_cd 62 0 = some (.iload_n 2, 1, 0, 0) by decide +kernel) rfl
theorem r62_1 : en_R cs 62 d post 1 lo (.inl a :: st) f = (if a = 0 then en_R cs 62 d post 4 lo st f else en_R cs 62 d post 6 lo st f) := ru_ifne (show en_cd 62 1 = some (.ifCond .ne 5, 3, 0, 0) by decide +kernel) (by decide +kernel)
theorem r62_4 : en_R cs 62 d post 4 lo st f = en_R cs 62 d post 5 lo (.inl (-1) :: st) f := ru_iconst (show en_cd 62 4 = some (.iconst (-1), 1, 0, 0) by decide +kernel) (by decide +kernel)
theorem r62_5 : en_R cs 62 d post 5 lo ([.inl x]) f = post (some (.inl x)) f := ru_ire1 (show en_cd 62 5 = some (.ireturn, 1, 0, 0) by decide +kernel) (by decide +kernel)
theorem r62_6 : en_R cs 62 d post 6 lo st f = en_R cs 62 d post 7 lo (.inl 0 :: st) f := ru_iconst (show en_cd 62 6 = some (.iconst 0, 1, 0, 0) by decide +kernel) (by decide +kernel)
theorem r62_7 : en_R cs 62 d post 7 (a0 :: a1 :: a2 :: a3 :: lo) (.inl x :: st) f = en_R cs 62 d post 8 (a0 :: a1 :: a2 :: some (.inl x) :: lo) st f := ru_istore1 (show en_cd 62 7 = some (.istore_n 3, 1, 0, 0) by decide +kernel) (Nat.lt_of_lt_of_le (by decide : 3 < 4) (Nat.le_add_left 4 lo.length))
theorem r62_8 : en_R cs 62 d post 8 (a0 :: a1 :: a2 :: some (.inl x) :: lo) st f = en_R cs 62 d post 9 (a0 :: a1 :: a2 :: some (.inl x) :: lo) (.inl x :: st) f := ru_load1 (show en_cd 62 8 = some (.iload_n 3, 1, 0, 0) by decide +kernel) rfl
theorem r62_9 : en_R cs 62 d post 9 lo st f = en_R cs 62 d post 11 lo (.inl 6 :: st) f := ru_bipush (show en_cd 62 9 = some (.bipush 6, 2, 0, 0) by decide +kernel) (by decide +kernel)
theorem r62_11 : en_R cs 62 d post 11 lo (.inl b :: .inl a :: st) f = (if b ≤ a then en_R cs 62 d post 46 lo st f else en_R cs 62 d post 14 lo st f) := ru_icge (show en_cd 62 11 = some (.if_icmp .ge 35, 3, 0, 0) by decide +kernel) (by decide +kernel)
theorem r62_14 : en_R cs 62 d post 14 (some (.inr q) :: lo) st f = en_R cs 62 d post 15 (some (.inr q) :: lo) (.inr q :: st) f := ru_aload1 (show en_cd 62 14 = some (.aload_n 0, 1, 0, 0) by decide +kernel) rfl
theorem r62_15 : en_R cs 62 d post 15 (a0 :: a1 :: a2 :: some (.inl x) :: lo) st f = en_R cs 62 d post 16 (a0 :: a1 :: a2 :: some (.inl x) :: lo) (.inl x :: st) f := ru_load1 (show en_cd 62 15 = some (.iload_n 3, 1, 0, 0) by decide +kernel) rfl
theorem r62_16 : en_R cs 62 d post 16 lo (u1 :: .inr (0, i) :: st) f = (st.length ≤ 8 ∧ i < 1 ∧ en_Ev d 63 [.inr (0, i), u1] f (fun r g => en_R cs 62 d post 19 lo (r.toList ++ st) g)) := ru_iv (al := [u1]) (show en_cd 62 16 = some (.invokevirtual 186, 3, 63, 0) by decide +kernel) (by decide +kernel) (show en_np 63 = 1 by decide +kernel) (by decide +kernel) rfl
theorem r62_19 : en_R cs 62 d post 19 lo (.inl a :: st) f = (if a = 0 then en_R cs 62 d post 40 lo st f else en_R cs 62 d post 22 lo st f) := ru_ifeq (show en_cd 62 19 = some (.ifCond .eq 21, 3, 0, 0) by decide +kernel) (by decide +kernel)
theorem r62_22 : en_R cs 62 d post 22 (some (.inr q) :: lo) st f = en_R cs 62 d post 23 (some (.inr q) :: lo) (.inr q :: st) f := ru_aload1 (show en_cd 62 22 = some (.aload_n 0, 1, 0, 0) by decide +kernel) rfl
theorem r62_23 : en_R cs 62 d post 23 lo (.inr (0, i) :: st) f = (i < 1 ∧ en_R cs 62 d post 26 lo (.inr (1, i) :: st) f) := ru_getR (show en_cd 62 23 = some (.getfield 11, 3, 0, 0) by decide +kernel) (by decide +kernel) (by decide +kernel)
theorem r62_26 : en_R cs 62 d post 26 (a0 :: a1 :: a2 :: some (.inl x) :: lo) st f = en_R cs 62 d post 27 (a0 :: a1 :: a2 :: some (.inl x) :: lo) (.inl x :: st) f := ru_load1 (show en_cd 62 26 = some (.iload_n 3, 1, 0, 0) by decide +kernel) rfl
theorem r62_27 : en_R cs 62 d post 27 lo (.inl x :: .inr (1, i) :: st) f = (i < 1 ∧ en_inr x 6 = true ∧ en_R cs 62 d post 28 lo (.inr (3, x.toNatClampNeg) :: st) f) := ru_aald (show en_cd 62 27 = some (.aaload, 1, 0, 0) by decide +kernel) (by decide +kernel) (by decide +kernel) (by decide +kernel) (by decide +kernel)
theorem r62_28 : en_R cs 62 d post 28 lo (.inr (3, i) :: st) f = (i < 6 ∧ en_R cs 62 d post 31 lo (.inr (4, i) :: st) f) := ru_getR (show en_cd 62 28 = some (.getfield 57, 3, 3, 0) by decide +kernel) (by decide +kernel) (by decide +kernel)
theorem r62_31 : en_R cs 62 d post 31 (a0 :: some (.inl x) :: lo) st f = en_R cs 62 d post 32 (a0 :: some (.inl x) :: lo) (.inl x :: st) f := ru_load1 (show en_cd 62 31 = some (.iload_n 1, 1, 0, 0) by decide +kernel) rfl
theorem r62_32 : en_R cs 62 d post 32 lo (u1 :: .inr (4, i) :: st) f = (st.length ≤ 8 ∧ i < 6 ∧ en_Ev d 19 [.inr (4, i), u1] f (fun r g => en_R cs 62 d post 35 lo (r.toList ++ st) g)) := ru_iv (al := [u1]) (show en_cd 62 32 = some (.invokevirtual 189, 3, 19, 0) by decide +kernel) (by decide +kernel) (show en_np 19 = 1 by decide +kernel) (by decide +kernel) rfl
theorem r62_35 : en_R cs 62 d post 35 lo (.inl a :: st) f = (if a = 0 then en_R cs 62 d post 40 lo st f else en_R cs 62 d post 38 lo st f) := ru_ifeq (show en_cd 62 35 = some (.ifCond .eq 5, 3, 0, 0) by decide +kernel) (by decide +kernel)
theorem r62_38 : en_R cs 62 d post 38 (a0 :: a1 :: a2 :: some (.inl x) :: lo) st f = en_R cs 62 d post 39 (a0 :: a1 :: a2 :: some (.inl x) :: lo) (.inl x :: st) f := ru_load1 (show en_cd 62 38 = some (.iload_n 3, 1, 0, 0) by decide +kernel) rfl
theorem r62_39 : en_R cs 62 d post 39 lo ([.inl x]) f = post (some (.inl x)) f := ru_ire1 (show en_cd 62 39 = some (.ireturn, 1, 0, 0) by decide +kernel) (by decide +kernel)
theorem r62_40 : en_R cs 62 d post 40 (a0 :: a1 :: a2 :: some (.inl x) :: lo) st f = en_R cs 62 d post 43 (a0 :: a1 :: a2 :: some (.inl (x + 1)) :: lo) st f := ru_iinc (show en_cd 62 40 = some (.iinc 3 1, 3, 0, 0) by decide +kernel) (by decide +kernel) rfl
theorem r62_43 : en_R cs 62 d post 43 lo st f = en_R cs 62 d post 8 lo st f := ru_goto (show en_cd 62 43 = some (.goto (-35), 3, 0, 0) by decide +kernel) (by decide +kernel)
theorem r62_46 : en_R cs 62 d post 46 lo st f = en_R cs 62 d post 47 lo (.inl (-1) :: st) f := ru_iconst (show en_cd 62 46 = some (.iconst (-1), 1, 0, 0) by decide +kernel) (by decide +kernel)
theorem r62_47 : en_R cs 62 d post 47 lo ([.inl x]) f = post (some (.inl x)) f := ru_ire1 (show en_cd 62 47 = some (.ireturn, 1, 0, 0) by decide +kernel) (by decide +kernel)
theorem r63_0 : en_R cs 63 d post 0 (some (.inr q) :: lo) st f = en_R cs 63 d post 1 (some (.inr q) :: lo) (.inr q :: st) f := ru_aload1 (show en_cd 63 0 = some (.aload_n 0, 1, 0, 0) by decide +kernel) rfl
theorem r63_1 : en_R cs 63 d post 1 lo (.inr (0, i) :: st) f = (i < 1 ∧ en_R cs 63 d post 4 lo (.inr (1, i) :: st) f) := ru_getR (show en_cd 63 1 = some (.getfield 11, 3, 0, 0) by decide +kernel) (by decide +kernel) (by decide +kernel)
theorem r63_4 : en_R cs 63 d post 4 (a0 :: some (.inl x) :: lo) st f = en_R cs 63 d post 5 (a0 :: some (.inl x) :: lo) (.inl x :: st) f := ru_load1 (show en_cd 63 4 = some (.iload_n 1, 1, 0, 0) by decide +kernel) rfl
theorem r63_5 : en_R cs 63 d post 5 lo (.inl x :: .inr (1, i) :: st) f = (i < 1 ∧ en_inr x 6 = true ∧ en_R cs 63 d post 6 lo (.inr (3, x.toNatClampNeg) :: st) f) := ru_aald (show en_cd 63 5 = some (.aaload, 1, 0, 0) by decide +kernel) (by decide +kernel) (by decide +kernel) (by decide +kernel) (by decide +kernel)
theorem r63_6 : en_R cs 63 d post 6 lo (.inr (3, i) :: st) f = (st.length ≤ 8 ∧ i < 6 ∧ en_Ev d 26 [.inr (3, i)] f (fun r g => en_R cs 63 d post 9 lo (r.toList ++ st) g)) := ru_iv (al := []) (show en_cd 63 6 = some (.invokevirtual 45, 3, 26, 0) by decide +kernel) (by decide +kernel) (show en_np 26 = 0 by decide +kernel) (by decide +kernel) rfl
theorem r63_9 : en_R cs 63 d post 9 lo (.inl a :: st) f = (if a = 0 then en_R cs 63 d post 48 lo st f else en_R cs 63 d post 12 lo st f) := ru_ifeq (show en_cd 63 9 = some (.ifCond .eq 39, 3, 0, 0) by decide +kernel) (by decide +kernel)
theorem r63_12 : en_R cs 63 d post 12 (some (.inr q) :: lo) st f = en_R cs 63 d post 13 (some (.inr q) :: lo) (.inr q :: st) f := ru_aload1 (show en_cd 63 12 = some (.aload_n 0, 1, 0, 0) by decide +kernel) rfl
theorem r63_13 : en_R cs 63 d post 13 lo (.inr (0, i) :: st) f = (i < 1 ∧ en_R cs 63 d post 16 lo (.inr (1, i) :: st) f) := ru_getR (show en_cd 63 13 = some (.getfield 11, 3, 0, 0) by decide +kernel) (by decide +kernel) (by decide +kernel)
theorem r63_16 : en_R cs 63 d post 16 (a0 :: some (.inl x) :: lo) st f = en_R cs 63 d post 17 (a0 :: some (.inl x) :: lo) (.inl x :: st) f := ru_load1 (show en_cd 63 16 = some (.iload_n 1, 1, 0, 0) by decide +kernel) rfl
theorem r63_17 : en_R cs 63 d post 17 lo (.inl x :: .inr (1, i) :: st) f = (i < 1 ∧ en_inr x 6 = true ∧ en_R cs 63 d post 18 lo (.inr (3, x.toNatClampNeg) :: st) f) := ru_aald (show en_cd 63 17 = some (.aaload, 1, 0, 0) by decide +kernel) (by decide +kernel) (by decide +kernel) (by decide +kernel) (by decide +kernel)
theorem r63_18 : en_R cs 63 d post 18 lo (.inr (3, i) :: st) f = (i < 6 ∧ en_R cs 63 d post 21 lo (.inl (f.1 3 i 1) :: st) f) := ru_getI (show en_cd 63 18 = some (.getfield 53, 3, 3, 1) by decide +kernel) (by decide +kernel) (by decide +kernel) (by decide +kernel)
theorem r63_21 : en_R cs 63 d post 21 lo (.inl a :: st) f = (if a = 0 then en_R cs 63 d post 48 lo st f else en_R cs 63 d post 24 lo st f) := ru_ifeq (show en_cd 63 21 = some (.ifCond .eq 27, 3, 0, 0) by decide +kernel) (by decide +kernel)
theorem r63_24 : en_R cs 63 d post 24 (a0 :: some (.inl x) :: lo) st f = en_R cs 63 d post 25 (a0 :: some (.inl x) :: lo) (.inl x :: st) f := ru_load1 (show en_cd 63 24 = some (.iload_n 1, 1, 0, 0) by decide +kernel) rfl
theorem r63_25 : en_R cs 63 d post 25 lo st f = en_R cs 63 d post 26 lo (.inl 2 :: st) f := ru_iconst (show en_cd 63 25 = some (.iconst 2, 1, 0, 0) by decide +kernel) (by decide +kernel)
theorem r63_26 : en_R cs 63 d post 26 lo (.inl b :: .inl a :: st) f = (if a < b then en_R cs 63 d post 44 lo st f else en_R cs 63 d post 29 lo st f) := ru_iclt (show en_cd 63 26 = some (.if_icmp .lt 18, 3, 0, 0) by decide +kernel) (by decide +kernel)
theorem r63_29 : en_R cs 63 d post 29 (some (.inr q) :: lo) st f = en_R cs 63 d post 30 (some (.inr q) :: lo) (.inr q :: st) f := ru_aload1 (show en_cd 63 29 = some (.aload_n 0, 1, 0, 0) by decide +kernel) rfl
theorem r63_30 : en_R cs 63 d post 30 lo (.inr (0, i) :: st) f = (i < 1 ∧ en_R cs 63 d post 33 lo (.inr (1, i) :: st) f) := ru_getR (show en_cd 63 30 = some (.getfield 11, 3, 0, 0) by decide +kernel) (by decide +kernel) (by decide +kernel)
theorem r63_33 : en_R cs 63 d post 33 (a0 :: some (.inl x) :: lo) st f = en_R cs 63 d post 34 (a0 :: some (.inl x) :: lo) (.inl x :: st) f := ru_load1 (show en_cd 63 33 = some (.iload_n 1, 1, 0, 0) by decide +kernel) rfl
theorem r63_34 : en_R cs 63 d post 34 lo (u1 :: st) f = (st.length ≤ 8 ∧ en_Ev d 50 [u1] f (fun r g => en_R cs 63 d post 37 lo (r.toList ++ st) g)) := ru_is (al := [u1]) (show en_cd 63 34 = some (.invokestatic 150, 3, 50, 0) by decide +kernel) (by decide +kernel) (show en_np 50 = 1 by decide +kernel) rfl
theorem r63_37 : en_R cs 63 d post 37 lo (.inl x :: .inr (1, i) :: st) f = (i < 1 ∧ en_inr x 6 = true ∧ en_R cs 63 d post 38 lo (.inr (3, x.toNatClampNeg) :: st) f) := ru_aald (show en_cd 63 37 = some (.aaload, 1, 0, 0) by decide +kernel) (by decide +kernel) (by decide +kernel) (by decide +kernel) (by decide +kernel)
theorem r63_38 : en_R cs 63 d post 38 lo (.inr (3, i) :: st) f = (i < 6 ∧ en_R cs 63 d post 41 lo (.inl (f.1 3 i 1) :: st) f) := ru_getI (show en_cd 63 38 = some (.getfield 53, 3, 3, 1) by decide +kernel) (by decide +kernel) (by decide +kernel) (by decide +kernel)
theorem r63_41 : en_R cs 63 d post 41 lo (.inl a :: st) f = (if a = 0 then en_R cs 63 d post 48 lo st f else en_R cs 63 d post 44 lo st f) := ru_ifeq (show en_cd 63 41 = some (.ifCond .eq 7, 3, 0, 0) by decide +kernel) (by decide +kernel)
theorem r63_44 : en_R cs 63 d post 44 lo st f = en_R cs 63 d post 45 lo (.inl 1 :: st) f := ru_iconst (show en_cd 63 44 = some (.iconst 1, 1, 0, 0) by decide +kernel) (by decide +kernel)
theorem r63_45 : en_R cs 63 d post 45 lo st f = en_R cs 63 d post 49 lo st f := ru_goto (show en_cd 63 45 = some (.goto 4, 3, 0, 0) by decide +kernel) (by decide +kernel)
theorem r63_48 : en_R cs 63 d post 48 lo st f = en_R cs 63 d post 49 lo (.inl 0 :: st) f := ru_iconst (show en_cd 63 48 = some (.iconst 0, 1, 0, 0) by decide +kernel) (by decide +kernel)
theorem r63_49 : en_R cs 63 d post 49 lo ([.inl x]) f = (en_isz x = true ∧ post (some (.inl x)) f) := ru_ire2 (show en_cd 63 49 = some (.ireturn, 1, 0, 0) by decide +kernel) (by decide +kernel)
theorem r64_0 : en_R cs 64 d post 0 (some (.inr q) :: lo) st f = en_R cs 64 d post 1 (some (.inr q) :: lo) (.inr q :: st) f := ru_aload1 (show en_cd 64 0 = some (.aload_n 0, 1, 0, 0) by decide +kernel) rfl
theorem r64_1 : en_R cs 64 d post 1 lo (.inr (0, i) :: st) f = (i < 1 ∧ en_R cs 64 d post 4 lo (.inr (10, i) :: st) f) := ru_getR (show en_cd 64 1 = some (.getfield 24, 3, 0, 2) by decide +kernel) (by decide +kernel) (by decide +kernel)
theorem r64_4 : en_R cs 64 d post 4 lo (.inr (10, i) :: st) f = (st.length ≤ 8 ∧ i < 1 ∧ en_Ev d 14 [.inr (10, i)] f (fun r g => en_R cs 64 d post 7 lo (r.toList ++ st) g)) := ru_iv (al := []) (show en_cd 64 4 = some (.invokevirtual 192, 3, 14, 0) by decide +kernel) (by decide +kernel) (show en_np 14 = 0 by decide +kernel) (by decide +kernel) rfl
theorem r64_7 : en_R cs 64 d post 7 (a0 :: a1 :: a2 :: a3 :: lo) (.inl x :: st) f = en_R cs 64 d post 8 (a0 :: a1 :: a2 :: some (.inl x) :: lo) st f := ru_istore1 (show en_cd 64 7 = some (.istore_n 3, 1, 0, 0) by decide +kernel) (Nat.lt_of_lt_of_le (by decide : 3 < 4) (Nat.le_add_left 4 lo.length))
theorem r64_8 : en_R cs 64 d post 8 (some (.inr q) :: lo) st f = en_R cs 64 d post 9 (some (.inr q) :: lo) (.inr q :: st) f := ru_aload1 (show en_cd 64 8 = some (.aload_n 0, 1, 0, 0) by decide +kernel) rfl
theorem r64_9 : en_R cs 64 d post 9 (a0 :: a1 :: some (.inl x) :: lo) st f = en_R cs 64 d post 10 (a0 :: a1 :: some (.inl x) :: lo) (.inl x :: st) f := ru_load1 (show en_cd 64 9 = some (.iload_n 2, 1, 0, 0) by decide +kernel) rfl
theorem r64_10 : en_R cs 64 d post 10 (a0 :: a1 :: a2 :: some (.inl x) :: lo) st f = en_R cs 64 d post 11 (a0 :: a1 :: a2 :: some (.inl x) :: lo) (.inl x :: st) f := ru_load1 (show en_cd 64 10 = some (.iload_n 3, 1, 0, 0) by decide +kernel) rfl
theorem r64_11 : en_R cs 64 d post 11 lo (u2 :: u1 :: .inr (0, i) :: st) f = (st.length ≤ 8 ∧ i < 1 ∧ en_Ev d 62 [.inr (0, i), u1, u2] f (fun r g => en_R cs 64 d post 14 lo (r.toList ++ st) g)) := ru_iv (al := [u1, u2]) (show en_cd 64 11 = some (.invokevirtual 195, 3, 62, 0) by decide +kernel) (by decide +kernel) (show en_np 62 = 2 by decide +kernel) (by decide +kernel) rfl
theorem r64_14 : en_R cs 64 d post 14 (a0 :: a1 :: a2 :: a3 :: a4 :: lo) (.inl x :: st) f = en_R cs 64 d post 16 (a0 :: a1 :: a2 :: a3 :: some (.inl x) :: lo) st f := ru_istore2 (show en_cd 64 14 = some (.istore 4, 2, 0, 0) by decide +kernel) (Nat.lt_of_lt_of_le (by decide : 4 < 5) (Nat.le_add_left 5 lo.length))
theorem r64_16 : en_R cs 64 d post 16 (a0 :: a1 :: a2 :: a3 :: some (.inl x) :: lo) st f = en_R cs 64 d post 18 (a0 :: a1 :: a2 :: a3 :: some (.inl x) :: lo) (.inl x :: st) f := ru_load2 (show en_cd 64 16 = some (.iload 4, 2, 0, 0) by decide +kernel) rfl
theorem r64_18 : en_R cs 64 d post 18 lo (.inl a :: st) f = (if a < 0 then en_R cs 64 d post 26 lo st f else en_R cs 64 d post 21 lo st f) := ru_iflt (show en_cd 64 18 = some (.ifCond .lt 8, 3, 0, 0) by decide +kernel) (by decide +kernel)
theorem r64_21 : en_R cs 64 d post 21 (a0 :: a1 :: a2 :: some (.inl x) :: lo) st f = en_R cs 64 d post 22 (a0 :: a1 :: a2 :: some (.inl x) :: lo) (.inl x :: st) f := ru_load1 (show en_cd 64 21 = some (.iload_n 3, 1, 0, 0) by decide +kernel) rfl
theorem r64_22 : en_R cs 64 d post 22 lo st f = en_R cs 64 d post 23 lo (.inl 1 :: st) f := ru_iconst (show en_cd 64 22 = some (.iconst 1, 1, 0, 0) by decide +kernel) (by decide +kernel)
theorem r64_23 : en_R cs 64 d post 23 lo (.inl b :: .inl a :: st) f = (if a = b then en_R cs 64 d post 26 lo st f else en_R cs 64 d post 28 lo st f) := ru_icne (show en_cd 64 23 = some (.if_icmp .ne 5, 3, 0, 0) by decide +kernel) (by decide +kernel)
theorem r64_26 : en_R cs 64 d post 26 lo st f = en_R cs 64 d post 27 lo (.inl 0 :: st) f := ru_iconst (show en_cd 64 26 = some (.iconst 0, 1, 0, 0) by decide +kernel) (by decide +kernel)
theorem r64_27 : en_R cs 64 d post 27 lo ([.inl x]) f = (en_isz x = true ∧ post (some (.inl x)) f) := ru_ire2 (show en_cd 64 27 = some (.ireturn, 1, 0, 0) by decide +kernel) (by decide +kernel)
theorem r64_28 : en_R cs 64 d post 28 (some (.inr q) :: lo) st f = en_R cs 64 d post 29 (some (.inr q) :: lo) (.inr q :: st) f := ru_aload1 (show en_cd 64 28 = some (.aload_n 0, 1, 0, 0) by decide +kernel) rfl
theorem r64_29 : en_R cs 64 d post 29 lo (.inr (0, i) :: st) f = (i < 1 ∧ en_R cs 64 d post 32 lo (.inr (1, i) :: st) f) := ru_getR (show en_cd 64 29 = some (.getfield 11, 3, 0, 0) by decide +kernel) (by decide +kernel) (by decide +kernel)
theorem r64_32 : en_R cs 64 d post 32 (a0 :: a1 :: a2 :: a3 :: some (.inl x) :: lo) st f = en_R cs 64 d post 34 (a0 :: a1 :: a2 :: a3 :: some (.inl x) :: lo) (.inl x :: st) f := ru_load2 (show en_cd 64 32 = some (.iload 4, 2, 0, 0) by decide +kernel) rfl
theorem r64_34 : en_R cs 64 d post 34 lo (.inl x :: .inr (1, i) :: st) f = (i < 1 ∧ en_inr x 6 = true ∧ en_R cs 64 d post 35 lo (.inr (3, x.toNatClampNeg) :: st) f) := ru_aald (show en_cd 64 34 = some (.aaload, 1, 0, 0) by decide +kernel) (by decide +kernel) (by decide +kernel) (by decide +kernel) (by decide +kernel)
theorem r64_35 : en_R cs 64 d post 35 lo (.inr (3, i) :: st) f = (i < 6 ∧ en_R cs 64 d post 38 lo (.inr (4, i) :: st) f) := ru_getR (show en_cd 64 35 = some (.getfield 57, 3, 3, 0) by decide +kernel) (by decide +kernel) (by decide +kernel)
theorem r64_38 : en_R cs 64 d post 38 (a0 :: a1 :: a2 :: a3 :: a4 :: a5 :: lo) (.inr q :: st) f = en_R cs 64 d post 40 (a0 :: a1 :: a2 :: a3 :: a4 :: some (.inr q) :: lo) st f := ru_astore2 (show en_cd 64 38 = some (.astore 5, 2, 0, 0) by decide +kernel) (Nat.lt_of_lt_of_le (by decide : 5 < 6) (Nat.le_add_left 6 lo.length))
theorem r64_40 : en_R cs 64 d post 40 (a0 :: a1 :: a2 :: a3 :: a4 :: some (.inr q) :: lo) st f = en_R cs 64 d post 42 (a0 :: a1 :: a2 :: a3 :: a4 :: some (.inr q) :: lo) (.inr q :: st) f := ru_aload2 (show en_cd 64 40 = some (.aload 5, 2, 0, 0) by decide +kernel) rfl
theorem r64_42 : en_R cs 64 d post 42 (a0 :: a1 :: some (.inl x) :: lo) st f = en_R cs 64 d post 43 (a0 :: a1 :: some (.inl x) :: lo) (.inl x :: st) f := ru_load1 (show en_cd 64 42 = some (.iload_n 2, 1, 0, 0) by decide +kernel) rfl
theorem r64_43 : en_R cs 64 d post 43 lo (.inl x :: .inr (4, i) :: st) f = (i < 6 ∧ en_R cs 64 d post 46 lo st (en_up f.1 4 i 7 x, f.2)) := ru_putI (show en_cd 64 43 = some (.putfield 199, 3, 4, 7) by decide +kernel) (by decide +kernel) (by decide +kernel) (by decide +kernel)
theorem r64_46 : en_R cs 64 d post 46 (a0 :: some (.inr q) :: lo) st f = en_R cs 64 d post 47 (a0 :: some (.inr q) :: lo) (.inr q :: st) f := ru_aload1 (show en_cd 64 46 = some (.aload_n 1, 1, 0, 0) by decide +kernel) rfl
theorem r64_47 : en_R cs 64 d post 47 lo (.inr (3, i) :: st) f = (i < 6 ∧ en_R cs 64 d post 50 lo (.inl (f.1 3 i 8) :: st) f) := ru_getI (show en_cd 64 47 = some (.getfield 202, 3, 3, 8) by decide +kernel) (by decide +kernel) (by decide +kernel) (by decide +kernel)
theorem r64_50 : en_R cs 64 d post 50 lo (.inl a :: st) f = (if a = 0 then en_R cs 64 d post 53 lo st f else en_R cs 64 d post 65 lo st f) := ru_ifne (show en_cd 64 50 = some (.ifCond .ne 15, 3, 0, 0) by decide +kernel) (by decide +kernel)
theorem r64_53 : en_R cs 64 d post 53 (a0 :: a1 :: a2 :: a3 :: a4 :: some (.inr q) :: lo) st f = en_R cs 64 d post 55 (a0 :: a1 :: a2 :: a3 :: a4 :: some (.inr q) :: lo) (.inr q :: st) f := ru_aload2 (show en_cd 64 53 = some (.aload 5, 2, 0, 0) by decide +kernel) rfl
theorem r64_55 : en_R cs 64 d post 55 (a0 :: some (.inr q) :: lo) st f = en_R cs 64 d post 56 (a0 :: some (.inr q) :: lo) (.inr q :: st) f := ru_aload1 (show en_cd 64 55 = some (.aload_n 1, 1, 0, 0) by decide +kernel) rfl
theorem r64_56 : en_R cs 64 d post 56 lo (.inr (3, i) :: st) f = (i < 6 ∧ en_R cs 64 d post 59 lo (.inl (f.1 3 i 4) :: st) f) := ru_getI (show en_cd 64 56 = some (.getfield 120, 3, 3, 4) by decide +kernel) (by decide +kernel) (by decide +kernel) (by decide +kernel)
theorem r64_59 : en_R cs 64 d post 59 lo (.inl x :: .inr (4, i) :: st) f = (i < 6 ∧ en_R cs 64 d post 62 lo st (en_up f.1 4 i 6 x, f.2)) := ru_putI (show en_cd 64 59 = some (.putfield 205, 3, 4, 6) by decide +kernel) (by decide +kernel) (by decide +kernel) (by decide +kernel)
theorem r64_62 : en_R cs 64 d post 62 lo st f = en_R cs 64 d post 79 lo st f := ru_goto (show en_cd 64 62 = some (.goto 17, 3, 0, 0) by decide +kernel) (by decide +kernel)
theorem r64_65 : en_R cs 64 d post 65 (a0 :: some (.inr q) :: lo) st f = en_R cs 64 d post 66 (a0 :: some (.inr q) :: lo) (.inr q :: st) f := ru_aload1 (show en_cd 64 65 = some (.aload_n 1, 1, 0, 0) by decide +kernel) rfl
theorem r64_66 : en_R cs 64 d post 66 lo (.inr (3, i) :: st) f = (i < 6 ∧ en_R cs 64 d post 69 lo (.inl (f.1 3 i 8) :: st) f) := ru_getI (show en_cd 64 66 = some (.getfield 202, 3, 3, 8) by decide +kernel) (by decide +kernel) (by decide +kernel) (by decide +kernel)
theorem r64_69 : en_R cs 64 d post 69 lo st f = en_R cs 64 d post 70 lo (.inl 4 :: st) f := ru_iconst (show en_cd 64 69 = some (.iconst 4, 1, 0, 0) by decide +kernel) (by decide +kernel)
theorem r64_70 : en_R cs 64 d post 70 lo (.inl b :: .inl a :: st) f = (if a = b then en_R cs 64 d post 73 lo st f else en_R cs 64 d post 79 lo st f) := ru_icne (show en_cd 64 70 = some (.if_icmp .ne 9, 3, 0, 0) by decide +kernel) (by decide +kernel)
theorem r64_73 : en_R cs 64 d post 73 (some (.inr q) :: lo) st f = en_R cs 64 d post 74 (some (.inr q) :: lo) (.inr q :: st) f := ru_aload1 (show en_cd 64 73 = some (.aload_n 0, 1, 0, 0) by decide +kernel) rfl
theorem r64_74 : en_R cs 64 d post 74 (a0 :: a1 :: a2 :: a3 :: some (.inl x) :: lo) st f = en_R cs 64 d post 76 (a0 :: a1 :: a2 :: a3 :: some (.inl x) :: lo) (.inl x :: st) f := ru_load2 (show en_cd 64 74 = some (.iload 4, 2, 0, 0) by decide +kernel) rfl
theorem r64_76 : en_R cs 64 d post 76 lo (u1 :: .inr (0, i) :: st) f = (st.length ≤ 8 ∧ i < 1 ∧ en_Ev d 65 [.inr (0, i), u1] f (fun r g => en_R cs 64 d post 79 lo (r.toList ++ st) g)) := ru_iv (al := [u1]) (show en_cd 64 76 = some (.invokevirtual 208, 3, 65, 0) by decide +kernel) (by decide +kernel) (show en_np 65 = 1 by decide +kernel) (by decide +kernel) rfl
theorem r64_79 : en_R cs 64 d post 79 (a0 :: a1 :: a2 :: some (.inl x) :: lo) st f = en_R cs 64 d post 80 (a0 :: a1 :: a2 :: some (.inl x) :: lo) (.inl x :: st) f := ru_load1 (show en_cd 64 79 = some (.iload_n 3, 1, 0, 0) by decide +kernel) rfl
theorem r64_80 : en_R cs 64 d post 80 lo st f = en_R cs 64 d post 81 lo (.inl 2 :: st) f := ru_iconst (show en_cd 64 80 = some (.iconst 2, 1, 0, 0) by decide +kernel) (by decide +kernel)
theorem r64_81 : en_R cs 64 d post 81 lo (.inl b :: .inl a :: st) f = (if a = b then en_R cs 64 d post 88 lo st f else en_R cs 64 d post 84 lo st f) := ru_iceq (show en_cd 64 81 = some (.if_icmp .eq 7, 3, 0, 0) by decide +kernel) (by decide +kernel)
theorem r64_84 : en_R cs 64 d post 84 lo st f = en_R cs 64 d post 85 lo (.inl 1 :: st) f := ru_iconst (show en_cd 64 84 = some (.iconst 1, 1, 0, 0) by decide +kernel) (by decide +kernel)
theorem r64_85 : en_R cs 64 d post 85 lo st f = en_R cs 64 d post 89 lo st f := ru_goto (show en_cd 64 85 = some (.goto 4, 3, 0, 0) by decide +kernel) (by decide +kernel)
theorem r64_88 : en_R cs 64 d post 88 lo st f = en_R cs 64 d post 89 lo (.inl 0 :: st) f := ru_iconst (show en_cd 64 88 = some (.iconst 0, 1, 0, 0) by decide +kernel) (by decide +kernel)
theorem r64_89 : en_R cs 64 d post 89 lo ([.inl x]) f = (en_isz x = true ∧ post (some (.inl x)) f) := ru_ire2 (show en_cd 64 89 = some (.ireturn, 1, 0, 0) by decide +kernel) (by decide +kernel)
theorem r65_0 : en_R cs 65 d post 0 (some (.inr q) :: lo) st f = en_R cs 65 d post 1 (some (.inr q) :: lo) (.inr q :: st) f := ru_aload1 (show en_cd 65 0 = some (.aload_n 0, 1, 0, 0) by decide +kernel) rfl
theorem r65_1 : en_R cs 65 d post 1 lo (.inr (0, i) :: st) f = (i < 1 ∧ en_R cs 65 d post 4 lo (.inr (1, i) :: st) f) := ru_getR (show en_cd 65 1 = some (.getfield 11, 3, 0, 0) by decide +kernel) (by decide +kernel) (by decide +kernel)
theorem r65_4 : en_R cs 65 d post 4 (a0 :: some (.inl x) :: lo) st f = en_R cs 65 d post 5 (a0 :: some (.inl x) :: lo) (.inl x :: st) f := ru_load1 (show en_cd 65 4 = some (.iload_n 1, 1, 0, 0) by decide +kernel) rfl
theorem r65_5 : en_R cs 65 d post 5 lo (.inl x :: .inr (1, i) :: st) f = (i < 1 ∧ en_inr x 6 = true ∧ en_R cs 65 d post 6 lo (.inr (3, x.toNatClampNeg) :: st) f) := ru_aald (show en_cd 65 5 = some (.aaload, 1, 0, 0) by decide +kernel) (by decide +kernel) (by decide +kernel) (by decide +kernel) (by decide +kernel)
theorem r65_6 : en_R cs 65 d post 6 lo (.inr (3, i) :: st) f = (i < 6 ∧ en_R cs 65 d post 9 lo (.inr (4, i) :: st) f) := ru_getR (show en_cd 65 6 = some (.getfield 57, 3, 3, 0) by decide +kernel) (by decide +kernel) (by decide +kernel)
theorem r65_9 : en_R cs 65 d post 9 lo st f = en_R cs 65 d post 10 lo (.inl 1 :: st) f := ru_iconst (show en_cd 65 9 = some (.iconst 1, 1, 0, 0) by decide +kernel) (by decide +kernel)
theorem r65_10 : en_R cs 65 d post 10 lo (.inl x :: .inr (4, i) :: st) f = (i < 6 ∧ en_isz x = true ∧ en_R cs 65 d post 13 lo st (en_up f.1 4 i 8 x, f.2)) := ru_putZ (show en_cd 65 10 = some (.putfield 153, 3, 4, 8) by decide +kernel) (by decide +kernel) (by decide +kernel) (by decide +kernel)
theorem r65_13 : en_R cs 65 d post 13 (some (.inr q) :: lo) st f = en_R cs 65 d post 14 (some (.inr q) :: lo) (.inr q :: st) f := ru_aload1 (show en_cd 65 13 = some (.aload_n 0, 1, 0, 0) by decide +kernel) rfl
theorem r65_14 : en_R cs 65 d post 14 lo (.inr (0, i) :: st) f = (i < 1 ∧ en_R cs 65 d post 17 lo (.inr (1, i) :: st) f) := ru_getR (show en_cd 65 14 = some (.getfield 11, 3, 0, 0) by decide +kernel) (by decide +kernel) (by decide +kernel)
theorem r65_17 : en_R cs 65 d post 17 (a0 :: some (.inl x) :: lo) st f = en_R cs 65 d post 18 (a0 :: some (.inl x) :: lo) (.inl x :: st) f := ru_load1 (show en_cd 65 17 = some (.iload_n 1, 1, 0, 0) by decide +kernel) rfl
theorem r65_18 : en_R cs 65 d post 18 lo (.inl x :: .inr (1, i) :: st) f = (i < 1 ∧ en_inr x 6 = true ∧ en_R cs 65 d post 19 lo (.inr (3, x.toNatClampNeg) :: st) f) := ru_aald (show en_cd 65 18 = some (.aaload, 1, 0, 0) by decide +kernel) (by decide +kernel) (by decide +kernel) (by decide +kernel) (by decide +kernel)
theorem r65_19 : en_R cs 65 d post 19 lo (.inr (3, i) :: st) f = (i < 6 ∧ en_R cs 65 d post 22 lo (.inr (4, i) :: st) f) := ru_getR (show en_cd 65 19 = some (.getfield 57, 3, 3, 0) by decide +kernel) (by decide +kernel) (by decide +kernel)
theorem r65_22 : en_R cs 65 d post 22 lo (.inr (4, i) :: st) f = (i < 6 ∧ en_R cs 65 d post 25 lo (.inl (f.1 4 i 3) :: st) f) := ru_getI (show en_cd 65 22 = some (.getfield 74, 3, 4, 3) by decide +kernel) (by decide +kernel) (by decide +kernel) (by decide +kernel)
theorem r65_25 : en_R cs 65 d post 25 lo st f = en_R cs 65 d post 26 lo (.inl 3 :: st) f := ru_iconst (show en_cd 65 25 = some (.iconst 3, 1, 0, 0) by decide +kernel) (by decide +kernel)
theorem r65_26 : en_R cs 65 d post 26 lo (.inl b :: .inl a :: st) f = (if a = b then en_R cs 65 d post 29 lo st f else en_R cs 65 d post 79 lo st f) := ru_icne (show en_cd 65 26 = some (.if_icmp .ne 53, 3, 0, 0) by decide +kernel) (by decide +kernel)
theorem r65_29 : en_R cs 65 d post 29 (a0 :: some (.inl x) :: lo) st f = en_R cs 65 d post 30 (a0 :: some (.inl x) :: lo) (.inl x :: st) f := ru_load1 (show en_cd 65 29 = some (.iload_n 1, 1, 0, 0) by decide +kernel) rfl
theorem r65_30 : en_R cs 65 d post 30 lo st f = en_R cs 65 d post 31 lo (.inl 2 :: st) f := ru_iconst (show en_cd 65 30 = some (.iconst 2, 1, 0, 0) by decide +kernel) (by decide +kernel)
theorem r65_31 : en_R cs 65 d post 31 lo (.inl b :: .inl a :: st) f = (if b ≤ a then en_R cs 65 d post 79 lo st f else en_R cs 65 d post 34 lo st f) := ru_icge (show en_cd 65 31 = some (.if_icmp .ge 48, 3, 0, 0) by decide +kernel) (by decide +kernel)
theorem r65_34 : en_R cs 65 d post 34 (a0 :: some (.inl x) :: lo) st f = en_R cs 65 d post 35 (a0 :: some (.inl x) :: lo) (.inl x :: st) f := ru_load1 (show en_cd 65 34 = some (.iload_n 1, 1, 0, 0) by decide +kernel) rfl
theorem r65_35 : en_R cs 65 d post 35 lo (u1 :: st) f = (st.length ≤ 8 ∧ en_Ev d 51 [u1] f (fun r g => en_R cs 65 d post 38 lo (r.toList ++ st) g)) := ru_is (al := [u1]) (show en_cd 65 35 = some (.invokestatic 80, 3, 51, 0) by decide +kernel) (by decide +kernel) (show en_np 51 = 1 by decide +kernel) rfl
theorem r65_38 : en_R cs 65 d post 38 (a0 :: a1 :: a2 :: lo) (.inl x :: st) f = en_R cs 65 d post 39 (a0 :: a1 :: some (.inl x) :: lo) st f := ru_istore1 (show en_cd 65 38 = some (.istore_n 2, 1, 0, 0) by decide +kernel) (Nat.lt_of_lt_of_le (by decide : 2 < 3) (Nat.le_add_left 3 lo.length))
theorem r65_39 : en_R cs 65 d post 39 (some (.inr q) :: lo) st f = en_R cs 65 d post 40 (some (.inr q) :: lo) (.inr q :: st) f := ru_aload1 (show en_cd 65 39 = some (.aload_n 0, 1, 0, 0) by decide +kernel) rfl
theorem r65_40 : en_R cs 65 d post 40 lo (.inr (0, i) :: st) f = (i < 1 ∧ en_R cs 65 d post 43 lo (.inr (1, i) :: st) f) := ru_getR (show en_cd 65 40 = some (.getfield 11, 3, 0, 0) by decide +kernel) (by decide +kernel) (by decide +kernel)
theorem r65_43 : en_R cs 65 d post 43 (a0 :: a1 :: some (.inl x) :: lo) st f = en_R cs 65 d post 44 (a0 :: a1 :: some (.inl x) :: lo) (.inl x :: st) f := ru_load1 (show en_cd 65 43 = some (.iload_n 2, 1, 0, 0) by decide +kernel) rfl
theorem r65_44 : en_R cs 65 d post 44 lo (.inl x :: .inr (1, i) :: st) f = (i < 1 ∧ en_inr x 6 = true ∧ en_R cs 65 d post 45 lo (.inr (3, x.toNatClampNeg) :: st) f) := ru_aald (show en_cd 65 44 = some (.aaload, 1, 0, 0) by decide +kernel) (by decide +kernel) (by decide +kernel) (by decide +kernel) (by decide +kernel)
theorem r65_45 : en_R cs 65 d post 45 (some (.inr q) :: lo) st f = en_R cs 65 d post 46 (some (.inr q) :: lo) (.inr q :: st) f := ru_aload1 (show en_cd 65 45 = some (.aload_n 0, 1, 0, 0) by decide +kernel) rfl
theorem r65_46 : en_R cs 65 d post 46 lo (.inr (0, i) :: st) f = (i < 1 ∧ en_R cs 65 d post 49 lo (.inr (1, i) :: st) f) := ru_getR (show en_cd 65 46 = some (.getfield 11, 3, 0, 0) by decide +kernel) (by decide +kernel) (by decide +kernel)
theorem r65_49 : en_R cs 65 d post 49 (a0 :: a1 :: some (.inl x) :: lo) st f = en_R cs 65 d post 50 (a0 :: a1 :: some (.inl x) :: lo) (.inl x :: st) f := ru_load1 (show en_cd 65 49 = some (.iload_n 2, 1, 0, 0) by decide +kernel) rfl
theorem r65_50 : en_R cs 65 d post 50 lo (.inl x :: .inr (1, i) :: st) f = (i < 1 ∧ en_inr x 6 = true ∧ en_R cs 65 d post 51 lo (.inr (3, x.toNatClampNeg) :: st) f) := ru_aald (show en_cd 65 50 = some (.aaload, 1, 0, 0) by decide +kernel) (by decide +kernel) (by decide +kernel) (by decide +kernel) (by decide +kernel)
theorem r65_51 : en_R cs 65 d post 51 lo (.inr (3, i) :: st) f = (st.length ≤ 8 ∧ i < 6 ∧ en_Ev d 26 [.inr (3, i)] f (fun r g => en_R cs 65 d post 54 lo (r.toList ++ st) g)) := ru_iv (al := []) (show en_cd 65 51 = some (.invokevirtual 45, 3, 26, 0) by decide +kernel) (by decide +kernel) (show en_np 26 = 0 by decide +kernel) (by decide +kernel) rfl
theorem r65_54 : en_R cs 65 d post 54 lo (.inl x :: .inr (3, i) :: st) f = (i < 6 ∧ en_isz x = true ∧ en_R cs 65 d post 57 lo st (en_up f.1 3 i 2 x, f.2)) := ru_putZ (show en_cd 65 54 = some (.putfield 84, 3, 3, 2) by decide +kernel) (by decide +kernel) (by decide +kernel) (by decide +kernel)
theorem r65_57 : en_R cs 65 d post 57 (some (.inr q) :: lo) st f = en_R cs 65 d post 58 (some (.inr q) :: lo) (.inr q :: st) f := ru_aload1 (show en_cd 65 57 = some (.aload_n 0, 1, 0, 0) by decide +kernel) rfl
theorem r65_58 : en_R cs 65 d post 58 lo (.inr (0, i) :: st) f = (i < 1 ∧ en_R cs 65 d post 61 lo (.inr (1, i) :: st) f) := ru_getR (show en_cd 65 58 = some (.getfield 11, 3, 0, 0) by decide +kernel) (by decide +kernel) (by decide +kernel)
theorem r65_61 : en_R cs 65 d post 61 (a0 :: a1 :: some (.inl x) :: lo) st f = en_R cs 65 d post 62 (a0 :: a1 :: some (.inl x) :: lo) (.inl x :: st) f := ru_load1 (show en_cd 65 61 = some (.iload_n 2, 1, 0, 0) by decide +kernel) rfl
theorem r65_62 : en_R cs 65 d post 62 lo st f = en_R cs 65 d post 63 lo (.inl 1 :: st) f := ru_iconst (show en_cd 65 62 = some (.iconst 1, 1, 0, 0) by decide +kernel) (by decide +kernel)
theorem r65_63 : en_R cs 65 d post 63 lo (.inl b :: .inl a :: st) f = en_R cs 65 d post 64 lo (.inl (a + b) :: st) f := ru_iadd (show en_cd 65 63 = some (.iadd, 1, 0, 0) by decide +kernel)
theorem r65_64 : en_R cs 65 d post 64 lo (.inl x :: .inr (1, i) :: st) f = (i < 1 ∧ en_inr x 6 = true ∧ en_R cs 65 d post 65 lo (.inr (3, x.toNatClampNeg) :: st) f) := ru_aald (show en_cd 65 64 = some (.aaload, 1, 0, 0) by decide +kernel) (by decide +kernel) (by decide +kernel) (by decide +kernel) (by decide +kernel)
theorem r65_65 : en_R cs 65 d post 65 (some (.inr q) :: lo) st f = en_R cs 65 d post 66 (some (.inr q) :: lo) (.inr q :: st) f := ru_aload1 (show en_cd 65 65 = some (.aload_n 0, 1, 0, 0) by decide +kernel) rfl
theorem r65_66 : en_R cs 65 d post 66 lo (.inr (0, i) :: st) f = (i < 1 ∧ en_R cs 65 d post 69 lo (.inr (1, i) :: st) f) := ru_getR (show en_cd 65 66 = some (.getfield 11, 3, 0, 0) by decide +kernel) (by decide +kernel) (by decide +kernel)
theorem r65_69 : en_R cs 65 d post 69 (a0 :: a1 :: some (.inl x) :: lo) st f = en_R cs 65 d post 70 (a0 :: a1 :: some (.inl x) :: lo) (.inl x :: st) f := ru_load1 (show en_cd 65 69 = some (.iload_n 2, 1, 0, 0) by decide +kernel) rfl
theorem r65_70 : en_R cs 65 d post 70 lo st f = en_R cs 65 d post 71 lo (.inl 1 :: st) f := ru_iconst (show en_cd 65 70 = some (.iconst 1, 1, 0, 0) by decide +kernel) (by decide +kernel)
theorem r65_71 : en_R cs 65 d post 71 lo (.inl b :: .inl a :: st) f = en_R cs 65 d post 72 lo (.inl (a + b) :: st) f := ru_iadd (show en_cd 65 71 = some (.iadd, 1, 0, 0) by decide +kernel)
theorem r65_72 : en_R cs 65 d post 72 lo (.inl x :: .inr (1, i) :: st) f = (i < 1 ∧ en_inr x 6 = true ∧ en_R cs 65 d post 73 lo (.inr (3, x.toNatClampNeg) :: st) f) := ru_aald (show en_cd 65 72 = some (.aaload, 1, 0, 0) by decide +kernel) (by decide +kernel) (by decide +kernel) (by decide +kernel) (by decide +kernel)
theorem r65_73 : en_R cs 65 d post 73 lo (.inr (3, i) :: st) f = (st.length ≤ 8 ∧ i < 6 ∧ en_Ev d 26 [.inr (3, i)] f (fun r g => en_R cs 65 d post 76 lo (r.toList ++ st) g)) := ru_iv (al := []) (show en_cd 65 73 = some (.invokevirtual 45, 3, 26, 0) by decide +kernel) (by decide +kernel) (show en_np 26 = 0 by decide +kernel) (by decide +kernel) rfl
theorem r65_76 : en_R cs 65 d post 76 lo (.inl x :: .inr (3, i) :: st) f = (i < 6 ∧ en_isz x = true ∧ en_R cs 65 d post 79 lo st (en_up f.1 3 i 2 x, f.2)) := ru_putZ (show en_cd 65 76 = some (.putfield 84, 3, 3, 2) by decide +kernel) (by decide +kernel) (by decide +kernel) (by decide +kernel)
theorem r65_79 : en_R cs 65 d post 79 lo [] f = post none f := ru_vre (show en_cd 65 79 = some (.return_, 1, 0, 0) by decide +kernel) (by decide +kernel)
theorem r66_0 : en_R cs 66 d post 0 (some (.inr q) :: lo) st f = en_R cs 66 d post 1 (some (.inr q) :: lo) (.inr q :: st) f := ru_aload1 (show en_cd 66 0 = some (.aload_n 0, 1, 0, 0) by decide +kernel) rfl
theorem r66_1 : en_R cs 66 d post 1 lo (.inr (0, i) :: st) f = (i < 1 ∧ en_R cs 66 d post 4 lo (.inr (10, i) :: st) f) := ru_getR (show en_cd 66 1 = some (.getfield 24, 3, 0, 2) by decide +kernel) (by decide +kernel) (by decide +kernel)
theorem r66_4 : en_R cs 66 d post 4 lo (.inr (10, i) :: st) f = (st.length ≤ 8 ∧ i < 1 ∧ en_Ev d 14 [.inr (10, i)] f (fun r g => en_R cs 66 d post 7 lo (r.toList ++ st) g)) := ru_iv (al := []) (show en_cd 66 4 = some (.invokevirtual 192, 3, 14, 0) by decide +kernel) (by decide +kernel) (show en_np 14 = 0 by decide +kernel) (by decide +kernel) rfl
theorem r66_7 : en_R cs 66 d post 7 (a0 :: a1 :: a2 :: a3 :: lo) (.inl x :: st) f = en_R cs 66 d post 8 (a0 :: a1 :: a2 :: some (.inl x) :: lo) st f := ru_istore1 (show en_cd 66 7 = some (.istore_n 3, 1, 0, 0) by decide +kernel) (Nat.lt_of_lt_of_le (by decide : 3 < 4) (Nat.le_add_left 4 lo.length))
theorem r66_8 : en_R cs 66 d post 8 (some (.inr q) :: lo) st f = en_R cs 66 d post 9 (some (.inr q) :: lo) (.inr q :: st) f := ru_aload1 (show en_cd 66 8 = some (.aload_n 0, 1, 0, 0) by decide +kernel) rfl
theorem r66_9 : en_R cs 66 d post 9 (a0 :: a1 :: some (.inl x) :: lo) st f = en_R cs 66 d post 10 (a0 :: a1 :: some (.inl x) :: lo) (.inl x :: st) f := ru_load1 (show en_cd 66 9 = some (.iload_n 2, 1, 0, 0) by decide +kernel) rfl
theorem r66_10 : en_R cs 66 d post 10 (a0 :: a1 :: a2 :: some (.inl x) :: lo) st f = en_R cs 66 d post 11 (a0 :: a1 :: a2 :: some (.inl x) :: lo) (.inl x :: st) f := ru_load1 (show en_cd 66 10 = some (.iload_n 3, 1, 0, 0) by decide +kernel) rfl
theorem r66_11 : en_R cs 66 d post 11 lo (u2 :: u1 :: .inr (0, i) :: st) f = (st.length ≤ 8 ∧ i < 1 ∧ en_Ev d 62 [.inr (0, i), u1, u2] f (fun r g => en_R cs 66 d post 14 lo (r.toList ++ st) g)) := ru_iv (al := [u1, u2]) (show en_cd 66 11 = some (.invokevirtual 195, 3, 62, 0) by decide +kernel) (by decide +kernel) (show en_np 62 = 2 by decide +kernel) (by decide +kernel) rfl
theorem r66_14 : en_R cs 66 d post 14 (a0 :: a1 :: a2 :: a3 :: a4 :: lo) (.inl x :: st) f = en_R cs 66 d post 16 (a0 :: a1 :: a2 :: a3 :: some (.inl x) :: lo) st f := ru_istore2 (show en_cd 66 14 = some (.istore 4, 2, 0, 0) by decide +kernel) (Nat.lt_of_lt_of_le (by decide : 4 < 5) (Nat.le_add_left 5 lo.length))
theorem r66_16 : en_R cs 66 d post 16 (a0 :: a1 :: a2 :: a3 :: some (.inl x) :: lo) st f = en_R cs 66 d post 18 (a0 :: a1 :: a2 :: a3 :: some (.inl x) :: lo) (.inl x :: st) f := ru_load2 (show en_cd 66 16 = some (.iload 4, 2, 0, 0) by decide +kernel) rfl
theorem r66_18 : en_R cs 66 d post 18 lo (.inl a :: st) f = (if a < 0 then en_R cs 66 d post 26 lo st f else en_R cs 66 d post 21 lo st f) := ru_iflt (show en_cd 66 18 = some (.ifCond .lt 8, 3, 0, 0) by decide +kernel) (by decide +kernel)
theorem r66_21 : en_R cs 66 d post 21 (a0 :: a1 :: a2 :: some (.inl x) :: lo) st f = en_R cs 66 d post 22 (a0 :: a1 :: a2 :: some (.inl x) :: lo) (.inl x :: st) f := ru_load1 (show en_cd 66 21 = some (.iload_n 3, 1, 0, 0) by decide +kernel) rfl
theorem r66_22 : en_R cs 66 d post 22 lo st f = en_R cs 66 d post 23 lo (.inl 1 :: st) f := ru_iconst (show en_cd 66 22 = some (.iconst 1, 1, 0, 0) by decide +kernel) (by decide +kernel)
theorem r66_23 : en_R cs 66 d post 23 lo (.inl b :: .inl a :: st) f = (if a = b then en_R cs 66 d post 26 lo st f else en_R cs 66 d post 28 lo st f) := ru_icne (show en_cd 66 23 = some (.if_icmp .ne 5, 3, 0, 0) by decide +kernel) (by decide +kernel)
theorem r66_26 : en_R cs 66 d post 26 lo st f = en_R cs 66 d post 27 lo (.inl 0 :: st) f := ru_iconst (show en_cd 66 26 = some (.iconst 0, 1, 0, 0) by decide +kernel) (by decide +kernel)
theorem r66_27 : en_R cs 66 d post 27 lo ([.inl x]) f = (en_isz x = true ∧ post (some (.inl x)) f) := ru_ire2 (show en_cd 66 27 = some (.ireturn, 1, 0, 0) by decide +kernel) (by decide +kernel)
theorem r66_28 : en_R cs 66 d post 28 (a0 :: some (.inr q) :: lo) st f = en_R cs 66 d post 29 (a0 :: some (.inr q) :: lo) (.inr q :: st) f := ru_aload1 (show en_cd 66 28 = some (.aload_n 1, 1, 0, 0) by decide +kernel) rfl
theorem r66_29 : en_R cs 66 d post 29 lo (.inr (3, i) :: st) f = (i < 6 ∧ en_R cs 66 d post 32 lo (.inl (f.1 3 i 8) :: st) f) := ru_getI (show en_cd 66 29 = some (.getfield 202, 3, 3, 8) by decide +kernel) (by decide +kernel) (by decide +kernel) (by decide +kernel)
theorem r66_32 : en_R cs 66 d post 32 lo st f = en_R cs 66 d post 33 lo (.inl 3 :: st) f := ru_iconst (show en_cd 66 32 = some (.iconst 3, 1, 0, 0) by decide +kernel) (by decide +kernel)
theorem r66_33 : en_R cs 66 d post 33 lo (.inl b :: .inl a :: st) f = (if a = b then en_R cs 66 d post 36 lo st f else en_R cs 66 d post 50 lo st f) := ru_icne (show en_cd 66 33 = some (.if_icmp .ne 17, 3, 0, 0) by decide +kernel) (by decide +kernel)
theorem r66_36 : en_R cs 66 d post 36 (a0 :: some (.inr q) :: lo) st f = en_R cs 66 d post 37 (a0 :: some (.inr q) :: lo) (.inr q :: st) f := ru_aload1 (show en_cd 66 36 = some (.aload_n 1, 1, 0, 0) by decide +kernel) rfl
theorem r66_37 : en_R cs 66 d post 37 (some (.inr q) :: lo) st f = en_R cs 66 d post 38 (some (.inr q) :: lo) (.inr q :: st) f := ru_aload1 (show en_cd 66 37 = some (.aload_n 0, 1, 0, 0) by decide +kernel) rfl
theorem r66_38 : en_R cs 66 d post 38 lo (.inr (0, i) :: st) f = (i < 1 ∧ en_R cs 66 d post 41 lo (.inr (1, i) :: st) f) := ru_getR (show en_cd 66 38 = some (.getfield 11, 3, 0, 0) by decide +kernel) (by decide +kernel) (by decide +kernel)
theorem r66_41 : en_R cs 66 d post 41 (a0 :: a1 :: a2 :: a3 :: some (.inl x) :: lo) st f = en_R cs 66 d post 43 (a0 :: a1 :: a2 :: a3 :: some (.inl x) :: lo) (.inl x :: st) f := ru_load2 (show en_cd 66 41 = some (.iload 4, 2, 0, 0) by decide +kernel) rfl
theorem r66_43 : en_R cs 66 d post 43 lo (.inl x :: .inr (1, i) :: st) f = (i < 1 ∧ en_inr x 6 = true ∧ en_R cs 66 d post 44 lo (.inr (3, x.toNatClampNeg) :: st) f) := ru_aald (show en_cd 66 43 = some (.aaload, 1, 0, 0) by decide +kernel) (by decide +kernel) (by decide +kernel) (by decide +kernel) (by decide +kernel)
theorem r66_44 : en_R cs 66 d post 44 lo (.inr (3, i) :: st) f = (i < 6 ∧ en_R cs 66 d post 47 lo (.inr (4, i) :: st) f) := ru_getR (show en_cd 66 44 = some (.getfield 57, 3, 3, 0) by decide +kernel) (by decide +kernel) (by decide +kernel)
theorem r66_47 : en_R cs 66 d post 47 lo (u1 :: .inr (3, i) :: st) f = (st.length ≤ 8 ∧ i < 6 ∧ en_Ev d 31 [.inr (3, i), u1] f (fun r g => en_R cs 66 d post 50 lo (r.toList ++ st) g)) := ru_iv (al := [u1]) (show en_cd 66 47 = some (.invokevirtual 211, 3, 31, 0) by decide +kernel) (by decide +kernel) (show en_np 31 = 1 by decide +kernel) (by decide +kernel) rfl
theorem r66_50 : en_R cs 66 d post 50 lo st f = en_R cs 66 d post 51 lo (.inl 1 :: st) f := ru_iconst (show en_cd 66 50 = some (.iconst 1, 1, 0, 0) by decide +kernel) (by decide +kernel)
theorem r66_51 : en_R cs 66 d post 51 lo ([.inl x]) f = (en_isz x = true ∧ post (some (.inl x)) f) := ru_ire2 (show en_cd 66 51 = some (.ireturn, 1, 0, 0) by decide +kernel) (by decide +kernel)
theorem r67_0 : en_R cs 67 d post 0 (some (.inr q) :: lo) st f = en_R cs 67 d post 1 (some (.inr q) :: lo) (.inr q :: st) f := ru_aload1 (show en_cd 67 0 = some (.aload_n 0, 1, 0, 0) by decide +kernel) rfl
theorem r67_1 : en_R cs 67 d post 1 lo (.inr (0, i) :: st) f = (i < 1 ∧ en_R cs 67 d post 4 lo (.inr (10, i) :: st) f) := ru_getR (show en_cd 67 1 = some (.getfield 24, 3, 0, 2) by decide +kernel) (by decide +kernel) (by decide +kernel)
theorem r67_4 : en_R cs 67 d post 4 lo (.inr (10, i) :: st) f = (st.length ≤ 8 ∧ i < 1 ∧ en_Ev d 14 [.inr (10, i)] f (fun r g => en_R cs 67 d post 7 lo (r.toList ++ st) g)) := ru_iv (al := []) (show en_cd 67 4 = some (.invokevirtual 192, 3, 14, 0) by decide +kernel) (by decide +kernel) (show en_np 14 = 0 by decide +kernel) (by decide +kernel) rfl
theorem r67_7 : en_R cs 67 d post 7 (a0 :: a1 :: a2 :: a3 :: lo) (.inl x :: st) f = en_R cs 67 d post 8 (a0 :: a1 :: a2 :: some (.inl x) :: lo) st f := ru_istore1 (show en_cd 67 7 = some (.istore_n 3, 1, 0, 0) by decide +kernel) (Nat.lt_of_lt_of_le (by decide : 3 < 4) (Nat.le_add_left 4 lo.length))
theorem r67_8 : en_R cs 67 d post 8 (some (.inr q) :: lo) st f = en_R cs 67 d post 9 (some (.inr q) :: lo) (.inr q :: st) f := ru_aload1 (show en_cd 67 8 = some (.aload_n 0, 1, 0, 0) by decide +kernel) rfl
theorem r67_9 : en_R cs 67 d post 9 (a0 :: some (.inr q) :: lo) st f = en_R cs 67 d post 10 (a0 :: some (.inr q) :: lo) (.inr q :: st) f := ru_aload1 (show en_cd 67 9 = some (.aload_n 1, 1, 0, 0) by decide +kernel) rfl
theorem r67_10 : en_R cs 67 d post 10 lo (.inr (3, i) :: st) f = (i < 6 ∧ en_R cs 67 d post 13 lo (.inl (f.1 3 i 4) :: st) f) := ru_getI (show en_cd 67 10 = some (.getfield 120, 3, 3, 4) by decide +kernel) (by decide +kernel) (by decide +kernel) (by decide +kernel)
theorem r67_13 : en_R cs 67 d post 13 (a0 :: a1 :: a2 :: some (.inl x) :: lo) st f = en_R cs 67 d post 14 (a0 :: a1 :: a2 :: some (.inl x) :: lo) (.inl x :: st) f := ru_load1 (show en_cd 67 13 = some (.iload_n 3, 1, 0, 0) by decide +kernel) rfl
theorem r67_14 : en_R cs 67 d post 14 lo (u2 :: u1 :: .inr (0, i) :: st) f = (st.length ≤ 8 ∧ i < 1 ∧ en_Ev d 62 [.inr (0, i), u1, u2] f (fun r g => en_R cs 67 d post 17 lo (r.toList ++ st) g)) := ru_iv (al := [u1, u2]) (show en_cd 67 14 = some (.invokevirtual 195, 3, 62, 0) by decide +kernel) (by decide +kernel) (show en_np 62 = 2 by decide +kernel) (by decide +kernel) rfl
theorem r67_17 : en_R cs 67 d post 17 (a0 :: a1 :: a2 :: a3 :: a4 :: lo) (.inl x :: st) f = en_R cs 67 d post 19 (a0 :: a1 :: a2 :: a3 :: some (.inl x) :: lo) st f := ru_istore2 (show en_cd 67 17 = some (.istore 4, 2, 0, 0) by decide +kernel) (Nat.lt_of_lt_of_le (by decide : 4 < 5) (Nat.le_add_left 5 lo.length))
theorem r67_19 : en_R cs 67 d post 19 (a0 :: a1 :: a2 :: a3 :: some (.inl x) :: lo) st f = en_R cs 67 d post 21 (a0 :: a1 :: a2 :: a3 :: some (.inl x) :: lo) (.inl x :: st) f := ru_load2 (show en_cd 67 19 = some (.iload 4, 2, 0, 0) by decide +kernel) rfl
theorem r67_21 : en_R cs 67 d post 21 lo (.inl a :: st) f = (if a < 0 then en_R cs 67 d post 29 lo st f else en_R cs 67 d post 24 lo st f) := ru_iflt (show en_cd 67 21 = some (.ifCond .lt 8, 3, 0, 0) by decide +kernel) (by decide +kernel)
theorem r67_24 : en_R cs 67 d post 24 (a0 :: a1 :: a2 :: some (.inl x) :: lo) st f = en_R cs 67 d post 25 (a0 :: a1 :: a2 :: some (.inl x) :: lo) (.inl x :: st) f := ru_load1 (show en_cd 67 24 = some (.iload_n 3, 1, 0, 0) by decide +kernel) rfl
theorem r67_25 : en_R cs 67 d post 25 lo st f = en_R cs 67 d post 26 lo (.inl 1 :: st) f := ru_iconst (show en_cd 67 25 = some (.iconst 1, 1, 0, 0) by decide +kernel) (by decide +kernel)
theorem r67_26 : en_R cs 67 d post 26 lo (.inl b :: .inl a :: st) f = (if a = b then en_R cs 67 d post 29 lo st f else en_R cs 67 d post 31 lo st f) := ru_icne (show en_cd 67 26 = some (.if_icmp .ne 5, 3, 0, 0) by decide +kernel) (by decide +kernel)
theorem r67_29 : en_R cs 67 d post 29 lo st f = en_R cs 67 d post 30 lo (.inl 0 :: st) f := ru_iconst (show en_cd 67 29 = some (.iconst 0, 1, 0, 0) by decide +kernel) (by decide +kernel)
theorem r67_30 : en_R cs 67 d post 30 lo ([.inl x]) f = post (some (.inl x)) f := ru_ire1 (show en_cd 67 30 = some (.ireturn, 1, 0, 0) by decide +kernel) (by decide +kernel)
theorem r67_31 : en_R cs 67 d post 31 (some (.inr q) :: lo) st f = en_R cs 67 d post 32 (some (.inr q) :: lo) (.inr q :: st) f := ru_aload1 (show en_cd 67 31 = some (.aload_n 0, 1, 0, 0) by decide +kernel) rfl
theorem r67_32 : en_R cs 67 d post 32 lo (.inr (0, i) :: st) f = (i < 1 ∧ en_R cs 67 d post 35 lo (.inr (1, i) :: st) f) := ru_getR (show en_cd 67 32 = some (.getfield 11, 3, 0, 0) by decide +kernel) (by decide +kernel) (by decide +kernel)
theorem r67_35 : en_R cs 67 d post 35 (a0 :: a1 :: a2 :: a3 :: some (.inl x) :: lo) st f = en_R cs 67 d post 37 (a0 :: a1 :: a2 :: a3 :: some (.inl x) :: lo) (.inl x :: st) f := ru_load2 (show en_cd 67 35 = some (.iload 4, 2, 0, 0) by decide +kernel) rfl
theorem r67_37 : en_R cs 67 d post 37 lo (.inl x :: .inr (1, i) :: st) f = (i < 1 ∧ en_inr x 6 = true ∧ en_R cs 67 d post 38 lo (.inr (3, x.toNatClampNeg) :: st) f) := ru_aald (show en_cd 67 37 = some (.aaload, 1, 0, 0) by decide +kernel) (by decide +kernel) (by decide +kernel) (by decide +kernel) (by decide +kernel)
theorem r67_38 : en_R cs 67 d post 38 lo (.inr (3, i) :: st) f = (i < 6 ∧ en_R cs 67 d post 41 lo (.inr (4, i) :: st) f) := ru_getR (show en_cd 67 38 = some (.getfield 57, 3, 3, 0) by decide +kernel) (by decide +kernel) (by decide +kernel)
theorem r67_41 : en_R cs 67 d post 41 (a0 :: some (.inr q) :: lo) st f = en_R cs 67 d post 42 (a0 :: some (.inr q) :: lo) (.inr q :: st) f := ru_aload1 (show en_cd 67 41 = some (.aload_n 1, 1, 0, 0) by decide +kernel) rfl
theorem r67_42 : en_R cs 67 d post 42 lo (.inr (3, i) :: st) f = (i < 6 ∧ en_R cs 67 d post 45 lo (.inl (f.1 3 i 6) :: st) f) := ru_getI (show en_cd 67 42 = some (.getfield 215, 3, 3, 6) by decide +kernel) (by decide +kernel) (by decide +kernel) (by decide +kernel)
theorem r67_45 : en_R cs 67 d post 45 (a0 :: a1 :: some (.inl x) :: lo) st f = en_R cs 67 d post 46 (a0 :: a1 :: some (.inl x) :: lo) (.inl x :: st) f := ru_load1 (show en_cd 67 45 = some (.iload_n 2, 1, 0, 0) by decide +kernel) rfl
theorem r67_46 : en_R cs 67 d post 46 lo (u2 :: u1 :: .inr (4, i) :: st) f = (st.length ≤ 8 ∧ i < 6 ∧ en_Ev d 21 [.inr (4, i), u1, u2] f (fun r g => en_R cs 67 d post 49 lo (r.toList ++ st) g)) := ru_iv (al := [u1, u2]) (show en_cd 67 46 = some (.invokevirtual 218, 3, 21, 0) by decide +kernel) (by decide +kernel) (show en_np 21 = 2 by decide +kernel) (by decide +kernel) rfl
theorem r67_49 : en_R cs 67 d post 49 (a0 :: a1 :: a2 :: a3 :: a4 :: a5 :: lo) (.inl x :: st) f = en_R cs 67 d post 51 (a0 :: a1 :: a2 :: a3 :: a4 :: some (.inl x) :: lo) st f := ru_istore2 (show en_cd 67 49 = some (.istore 5, 2, 0, 0) by decide +kernel) (Nat.lt_of_lt_of_le (by decide : 5 < 6) (Nat.le_add_left 6 lo.length))
theorem r67_51 : en_R cs 67 d post 51 (a0 :: a1 :: a2 :: some (.inl x) :: lo) st f = en_R cs 67 d post 52 (a0 :: a1 :: a2 :: some (.inl x) :: lo) (.inl x :: st) f := ru_load1 (show en_cd 67 51 = some (.iload_n 3, 1, 0, 0) by decide +kernel) rfl
theorem r67_52 : en_R cs 67 d post 52 lo st f = en_R cs 67 d post 53 lo (.inl 2 :: st) f := ru_iconst (show en_cd 67 52 = some (.iconst 2, 1, 0, 0) by decide +kernel) (by decide +kernel)
theorem r67_53 : en_R cs 67 d post 53 lo (.inl b :: .inl a :: st) f = (if a = b then en_R cs 67 d post 56 lo st f else en_R cs 67 d post 58 lo st f) := ru_icne (show en_cd 67 53 = some (.if_icmp .ne 5, 3, 0, 0) by decide +kernel) (by decide +kernel)
theorem r67_56 : en_R cs 67 d post 56 lo st f = en_R cs 67 d post 57 lo (.inl 0 :: st) f := ru_iconst (show en_cd 67 56 = some (.iconst 0, 1, 0, 0) by decide +kernel) (by decide +kernel)
theorem r67_57 : en_R cs 67 d post 57 lo ([.inl x]) f = post (some (.inl x)) f := ru_ire1 (show en_cd 67 57 = some (.ireturn, 1, 0, 0) by decide +kernel) (by decide +kernel)
theorem r67_58 : en_R cs 67 d post 58 (a0 :: a1 :: a2 :: a3 :: a4 :: some (.inl x) :: lo) st f = en_R cs 67 d post 60 (a0 :: a1 :: a2 :: a3 :: a4 :: some (.inl x) :: lo) (.inl x :: st) f := ru_load2 (show en_cd 67 58 = some (.iload 5, 2, 0, 0) by decide +kernel) rfl
theorem r67_60 : en_R cs 67 d post 60 lo (.inl a :: st) f = (if a = 0 then en_R cs 67 d post 63 lo st f else en_R cs 67 d post 65 lo st f) := ru_ifne (show en_cd 67 60 = some (.ifCond .ne 5, 3, 0, 0) by decide +kernel) (by decide +kernel)
theorem r67_63 : en_R cs 67 d post 63 lo st f = en_R cs 67 d post 64 lo (.inl 1 :: st) f := ru_iconst (show en_cd 67 63 = some (.iconst 1, 1, 0, 0) by decide +kernel) (by decide +kernel)
theorem r67_64 : en_R cs 67 d post 64 lo ([.inl x]) f = post (some (.inl x)) f := ru_ire1 (show en_cd 67 64 = some (.ireturn, 1, 0, 0) by decide +kernel) (by decide +kernel)
theorem r67_65 : en_R cs 67 d post 65 (a0 :: some (.inr q) :: lo) st f = en_R cs 67 d post 66 (a0 :: some (.inr q) :: lo) (.inr q :: st) f := ru_aload1 (show en_cd 67 65 = some (.aload_n 1, 1, 0, 0) by decide +kernel) rfl
theorem r67_66 : en_R cs 67 d post 66 lo (u :: st) f = en_R cs 67 d post 67 lo (u :: u :: st) f := ru_dup (show en_cd 67 66 = some (.dup, 1, 0, 0) by decide +kernel)
theorem r67_67 : en_R cs 67 d post 67 lo (.inr (3, i) :: st) f = (i < 6 ∧ en_R cs 67 d post 70 lo (.inl (f.1 3 i 6) :: st) f) := ru_getI (show en_cd 67 67 = some (.getfield 215, 3, 3, 6) by decide +kernel) (by decide +kernel) (by decide +kernel) (by decide +kernel)
theorem r67_70 : en_R cs 67 d post 70 lo st f = en_R cs 67 d post 71 lo (.inl 1 :: st) f := ru_iconst (show en_cd 67 70 = some (.iconst 1, 1, 0, 0) by decide +kernel) (by decide +kernel)
theorem r67_71 : en_R cs 67 d post 71 lo (.inl b :: .inl a :: st) f = en_R cs 67 d post 72 lo (.inl (a ^^^ b) :: st) f := ru_ixor (show en_cd 67 71 = some (.ixor, 1, 0, 0) by decide +kernel)
theorem r67_72 : en_R cs 67 d post 72 lo (.inl x :: .inr (3, i) :: st) f = (i < 6 ∧ en_R cs 67 d post 75 lo st (en_up f.1 3 i 6 x, f.2)) := ru_putI (show en_cd 67 72 = some (.putfield 215, 3, 3, 6) by decide +kernel) (by decide +kernel) (by decide +kernel) (by decide +kernel)
theorem r67_75 : en_R cs 67 d post 75 lo st f = en_R cs 67 d post 76 lo (.inl 3 :: st) f := ru_iconst (show en_cd 67 75 = some (.iconst 3, 1, 0, 0) by decide +kernel) (by decide +kernel)
theorem r67_76 : en_R cs 67 d post 76 lo ([.inl x]) f = post (some (.inl x)) f := ru_ire1 (show en_cd 67 76 = some (.ireturn, 1, 0, 0) by decide +kernel) (by decide +kernel)
theorem r68_0 : en_R cs 68 d post 0 (some (.inr q) :: lo) st f = en_R cs 68 d post 1 (some (.inr q) :: lo) (.inr q :: st) f := ru_aload1 (show en_cd 68 0 = some (.aload_n 0, 1, 0, 0) by decide +kernel) rfl
theorem r68_1 : en_R cs 68 d post 1 lo (.inr (0, i) :: st) f = (i < 1 ∧ en_R cs 68 d post 4 lo (.inr (10, i) :: st) f) := ru_getR (show en_cd 68 1 = some (.getfield 24, 3, 0, 2) by decide +kernel) (by decide +kernel) (by decide +kernel)
theorem r68_4 : en_R cs 68 d post 4 lo (.inr (10, i) :: st) f = (st.length ≤ 8 ∧ i < 1 ∧ en_Ev d 14 [.inr (10, i)] f (fun r g => en_R cs 68 d post 7 lo (r.toList ++ st) g)) := ru_iv (al := []) (show en_cd 68 4 = some (.invokevirtual 192, 3, 14, 0) by decide +kernel) (by decide +kernel) (show en_np 14 = 0 by decide +kernel) (by decide +kernel) rfl
theorem r68_7 : en_R cs 68 d post 7 (a0 :: a1 :: a2 :: lo) (.inl x :: st) f = en_R cs 68 d post 8 (a0 :: a1 :: some (.inl x) :: lo) st f := ru_istore1 (show en_cd 68 7 = some (.istore_n 2, 1, 0, 0) by decide +kernel) (Nat.lt_of_lt_of_le (by decide : 2 < 3) (Nat.le_add_left 3 lo.length))
theorem r68_8 : en_R cs 68 d post 8 (some (.inr q) :: lo) st f = en_R cs 68 d post 9 (some (.inr q) :: lo) (.inr q :: st) f := ru_aload1 (show en_cd 68 8 = some (.aload_n 0, 1, 0, 0) by decide +kernel) rfl
theorem r68_9 : en_R cs 68 d post 9 (a0 :: some (.inr q) :: lo) st f = en_R cs 68 d post 10 (a0 :: some (.inr q) :: lo) (.inr q :: st) f := ru_aload1 (show en_cd 68 9 = some (.aload_n 1, 1, 0, 0) by decide +kernel) rfl
theorem r68_10 : en_R cs 68 d post 10 lo (.inr (3, i) :: st) f = (i < 6 ∧ en_R cs 68 d post 13 lo (.inl (f.1 3 i 4) :: st) f) := ru_getI (show en_cd 68 10 = some (.getfield 120, 3, 3, 4) by decide +kernel) (by decide +kernel) (by decide +kernel) (by decide +kernel)
theorem r68_13 : en_R cs 68 d post 13 (a0 :: a1 :: some (.inl x) :: lo) st f = en_R cs 68 d post 14 (a0 :: a1 :: some (.inl x) :: lo) (.inl x :: st) f := ru_load1 (show en_cd 68 13 = some (.iload_n 2, 1, 0, 0) by decide +kernel) rfl
theorem r68_14 : en_R cs 68 d post 14 lo (u2 :: u1 :: .inr (0, i) :: st) f = (st.length ≤ 8 ∧ i < 1 ∧ en_Ev d 62 [.inr (0, i), u1, u2] f (fun r g => en_R cs 68 d post 17 lo (r.toList ++ st) g)) := ru_iv (al := [u1, u2]) (show en_cd 68 14 = some (.invokevirtual 195, 3, 62, 0) by decide +kernel) (by decide +kernel) (show en_np 62 = 2 by decide +kernel) (by decide +kernel) rfl
theorem r68_17 : en_R cs 68 d post 17 (a0 :: a1 :: a2 :: a3 :: lo) (.inl x :: st) f = en_R cs 68 d post 18 (a0 :: a1 :: a2 :: some (.inl x) :: lo) st f := ru_istore1 (show en_cd 68 17 = some (.istore_n 3, 1, 0, 0) by decide +kernel) (Nat.lt_of_lt_of_le (by decide : 3 < 4) (Nat.le_add_left 4 lo.length))
theorem r68_18 : en_R cs 68 d post 18 (a0 :: a1 :: a2 :: some (.inl x) :: lo) st f = en_R cs 68 d post 19 (a0 :: a1 :: a2 :: some (.inl x) :: lo) (.inl x :: st) f := ru_load1 (show en_cd 68 18 = some (.iload_n 3, 1, 0, 0) by decide +kernel) rfl
theorem r68_19 : en_R cs 68 d post 19 lo (.inl a :: st) f = (if 0 ≤ a then en_R cs 68 d post 24 lo st f else en_R cs 68 d post 22 lo st f) := ru_ifge (show en_cd 68 19 = some (.ifCond .ge 5, 3, 0, 0) by decide +kernel) (by decide +kernel)
theorem r68_22 : en_R cs 68 d post 22 lo st f = en_R cs 68 d post 23 lo (.inl 0 :: st) f := ru_iconst (show en_cd 68 22 = some (.iconst 0, 1, 0, 0) by decide +kernel) (by decide +kernel)
theorem r68_23 : en_R cs 68 d post 23 lo ([.inl x]) f = post (some (.inl x)) f := ru_ire1 (show en_cd 68 23 = some (.ireturn, 1, 0, 0) by decide +kernel) (by decide +kernel)
theorem r68_24 : en_R cs 68 d post 24 (some (.inr q) :: lo) st f = en_R cs 68 d post 25 (some (.inr q) :: lo) (.inr q :: st) f := ru_aload1 (show en_cd 68 24 = some (.aload_n 0, 1, 0, 0) by decide +kernel) rfl
theorem r68_25 : en_R cs 68 d post 25 lo (.inr (0, i) :: st) f = (i < 1 ∧ en_R cs 68 d post 28 lo (.inr (1, i) :: st) f) := ru_getR (show en_cd 68 25 = some (.getfield 11, 3, 0, 0) by decide +kernel) (by decide +kernel) (by decide +kernel)
theorem r68_28 : en_R cs 68 d post 28 (a0 :: a1 :: a2 :: some (.inl x) :: lo) st f = en_R cs 68 d post 29 (a0 :: a1 :: a2 :: some (.inl x) :: lo) (.inl x :: st) f := ru_load1 (show en_cd 68 28 = some (.iload_n 3, 1, 0, 0) by decide +kernel) rfl
theorem r68_29 : en_R cs 68 d post 29 lo (.inl x :: .inr (1, i) :: st) f = (i < 1 ∧ en_inr x 6 = true ∧ en_R cs 68 d post 30 lo (.inr (3, x.toNatClampNeg) :: st) f) := ru_aald (show en_cd 68 29 = some (.aaload, 1, 0, 0) by decide +kernel) (by decide +kernel) (by decide +kernel) (by decide +kernel) (by decide +kernel)
theorem r68_30 : en_R cs 68 d post 30 lo (.inr (3, i) :: st) f = (i < 6 ∧ en_R cs 68 d post 33 lo (.inr (4, i) :: st) f) := ru_getR (show en_cd 68 30 = some (.getfield 57, 3, 3, 0) by decide +kernel) (by decide +kernel) (by decide +kernel)
theorem r68_33 : en_R cs 68 d post 33 (a0 :: a1 :: a2 :: a3 :: a4 :: lo) (.inr q :: st) f = en_R cs 68 d post 35 (a0 :: a1 :: a2 :: a3 :: some (.inr q) :: lo) st f := ru_astore2 (show en_cd 68 33 = some (.astore 4, 2, 0, 0) by decide +kernel) (Nat.lt_of_lt_of_le (by decide : 4 < 5) (Nat.le_add_left 5 lo.length))
theorem r68_35 : en_R cs 68 d post 35 (a0 :: a1 :: a2 :: a3 :: some (.inr q) :: lo) st f = en_R cs 68 d post 37 (a0 :: a1 :: a2 :: a3 :: some (.inr q) :: lo) (.inr q :: st) f := ru_aload2 (show en_cd 68 35 = some (.aload 4, 2, 0, 0) by decide +kernel) rfl
theorem r68_37 : en_R cs 68 d post 37 lo (.inr (4, i) :: st) f = (i < 6 ∧ en_R cs 68 d post 40 lo (.inl (f.1 4 i 11) :: st) f) := ru_getI (show en_cd 68 37 = some (.getfield 222, 3, 4, 11) by decide +kernel) (by decide +kernel) (by decide +kernel) (by decide +kernel)
theorem r68_40 : en_R cs 68 d post 40 lo (.inl a :: st) f = (if a = 0 then en_R cs 68 d post 43 lo st f else en_R cs 68 d post 48 lo st f) := ru_ifne (show en_cd 68 40 = some (.ifCond .ne 8, 3, 0, 0) by decide +kernel) (by decide +kernel)
theorem r68_43 : en_R cs 68 d post 43 (some (.inr q) :: lo) st f = en_R cs 68 d post 44 (some (.inr q) :: lo) (.inr q :: st) f := ru_aload1 (show en_cd 68 43 = some (.aload_n 0, 1, 0, 0) by decide +kernel) rfl
theorem r68_44 : en_R cs 68 d post 44 (a0 :: a1 :: a2 :: some (.inl x) :: lo) st f = en_R cs 68 d post 45 (a0 :: a1 :: a2 :: some (.inl x) :: lo) (.inl x :: st) f := ru_load1 (show en_cd 68 44 = some (.iload_n 3, 1, 0, 0) by decide +kernel) rfl
theorem r68_45 : en_R cs 68 d post 45 lo (u1 :: .inr (0, i) :: st) f = (st.length ≤ 8 ∧ i < 1 ∧ en_Ev d 69 [.inr (0, i), u1] f (fun r g => en_R cs 68 d post 48 lo (r.toList ++ st) g)) := ru_iv (al := [u1]) (show en_cd 68 45 = some (.invokevirtual 225, 3, 69, 0) by decide +kernel) (by decide +kernel) (show en_np 69 = 1 by decide +kernel) (by decide +kernel) rfl
theorem r68_48 : en_R cs 68 d post 48 (a0 :: a1 :: some (.inl x) :: lo) st f = en_R cs 68 d post 49 (a0 :: a1 :: some (.inl x) :: lo) (.inl x :: st) f := ru_load1 (show en_cd 68 48 = some (.iload_n 2, 1, 0, 0) by decide +kernel) rfl
theorem r68_49 : en_R cs 68 d post 49 lo st f = en_R cs 68 d post 50 lo (.inl 1 :: st) f := ru_iconst (show en_cd 68 49 = some (.iconst 1, 1, 0, 0) by decide +kernel) (by decide +kernel)
theorem r68_50 : en_R cs 68 d post 50 lo (.inl b :: .inl a :: st) f = (if a = b then en_R cs 68 d post 53 lo st f else en_R cs 68 d post 55 lo st f) := ru_icne (show en_cd 68 50 = some (.if_icmp .ne 5, 3, 0, 0) by decide +kernel) (by decide +kernel)
theorem r68_53 : en_R cs 68 d post 53 lo st f = en_R cs 68 d post 54 lo (.inl 0 :: st) f := ru_iconst (show en_cd 68 53 = some (.iconst 0, 1, 0, 0) by decide +kernel) (by decide +kernel)
theorem r68_54 : en_R cs 68 d post 54 lo ([.inl x]) f = post (some (.inl x)) f := ru_ire1 (show en_cd 68 54 = some (.ireturn, 1, 0, 0) by decide +kernel) (by decide +kernel)
theorem r68_55 : en_R cs 68 d post 55 (a0 :: a1 :: a2 :: a3 :: some (.inr q) :: lo) st f = en_R cs 68 d post 57 (a0 :: a1 :: a2 :: a3 :: some (.inr q) :: lo) (.inr q :: st) f := ru_aload2 (show en_cd 68 55 = some (.aload 4, 2, 0, 0) by decide +kernel) rfl
theorem r68_57 : en_R cs 68 d post 57 lo (.inr (4, i) :: st) f = (i < 6 ∧ en_R cs 68 d post 60 lo (.inl (f.1 4 i 11) :: st) f) := ru_getI (show en_cd 68 57 = some (.getfield 222, 3, 4, 11) by decide +kernel) (by decide +kernel) (by decide +kernel) (by decide +kernel)
theorem r68_60 : en_R cs 68 d post 60 lo (.inl a :: st) f = (if a = 0 then en_R cs 68 d post 63 lo st f else en_R cs 68 d post 65 lo st f) := ru_ifne (show en_cd 68 60 = some (.ifCond .ne 5, 3, 0, 0) by decide +kernel) (by decide +kernel)
theorem r68_63 : en_R cs 68 d post 63 lo st f = en_R cs 68 d post 64 lo (.inl 1 :: st) f := ru_iconst (show en_cd 68 63 = some (.iconst 1, 1, 0, 0) by decide +kernel) (by decide +kernel)
theorem r68_64 : en_R cs 68 d post 64 lo ([.inl x]) f = post (some (.inl x)) f := ru_ire1 (show en_cd 68 64 = some (.ireturn, 1, 0, 0) by decide +kernel) (by decide +kernel)
theorem r68_65 : en_R cs 68 d post 65 (some (.inr q) :: lo) st f = en_R cs 68 d post 66 (some (.inr q) :: lo) (.inr q :: st) f := ru_aload1 (show en_cd 68 65 = some (.aload_n 0, 1, 0, 0) by decide +kernel) rfl
theorem r68_66 : en_R cs 68 d post 66 (a0 :: a1 :: a2 :: a3 :: some (.inr q) :: lo) st f = en_R cs 68 d post 68 (a0 :: a1 :: a2 :: a3 :: some (.inr q) :: lo) (.inr q :: st) f := ru_aload2 (show en_cd 68 66 = some (.aload 4, 2, 0, 0) by decide +kernel) rfl
theorem r68_68 : en_R cs 68 d post 68 lo (.inr (4, i) :: st) f = (i < 6 ∧ en_R cs 68 d post 71 lo (.inl (f.1 4 i 12) :: st) f) := ru_getI (show en_cd 68 68 = some (.getfield 228, 3, 4, 12) by decide +kernel) (by decide +kernel) (by decide +kernel) (by decide +kernel)
theorem r68_71 : en_R cs 68 d post 71 lo (.inl x :: .inr (0, i) :: st) f = (i < 1 ∧ en_R cs 68 d post 74 lo st (en_up f.1 0 i 7 x, f.2)) := ru_putI (show en_cd 68 71 = some (.putfield 231, 3, 0, 7) by decide +kernel) (by decide +kernel) (by decide +kernel) (by decide +kernel)
theorem r68_74 : en_R cs 68 d post 74 (a0 :: a1 :: a2 :: a3 :: some (.inr q) :: lo) st f = en_R cs 68 d post 76 (a0 :: a1 :: a2 :: a3 :: some (.inr q) :: lo) (.inr q :: st) f := ru_aload2 (show en_cd 68 74 = some (.aload 4, 2, 0, 0) by decide +kernel) rfl
theorem r68_76 : en_R cs 68 d post 76 lo (.inr (4, i) :: st) f = (i < 6 ∧ en_R cs 68 d post 79 lo (.inl (f.1 4 i 9) :: st) f) := ru_getI (show en_cd 68 76 = some (.getfield 234, 3, 4, 9) by decide +kernel) (by decide +kernel) (by decide +kernel) (by decide +kernel)
theorem r68_79 : en_R cs 68 d post 79 (a0 :: some (.inr q) :: lo) st f = en_R cs 68 d post 80 (a0 :: some (.inr q) :: lo) (.inr q :: st) f := ru_aload1 (show en_cd 68 79 = some (.aload_n 1, 1, 0, 0) by decide +kernel) rfl
theorem r68_80 : en_R cs 68 d post 80 lo (.inr (3, i) :: st) f = (i < 6 ∧ en_R cs 68 d post 83 lo (.inl (f.1 3 i 5) :: st) f) := ru_getI (show en_cd 68 80 = some (.getfield 237, 3, 3, 5) by decide +kernel) (by decide +kernel) (by decide +kernel) (by decide +kernel)
theorem r68_83 : en_R cs 68 d post 83 lo (.inl b :: .inl a :: st) f = (if a = b then en_R cs 68 d post 86 lo st f else en_R cs 68 d post 90 lo st f) := ru_icne (show en_cd 68 83 = some (.if_icmp .ne 7, 3, 0, 0) by decide +kernel) (by decide +kernel)
theorem r68_86 : en_R cs 68 d post 86 lo st f = en_R cs 68 d post 87 lo (.inl 1 :: st) f := ru_iconst (show en_cd 68 86 = some (.iconst 1, 1, 0, 0) by decide +kernel) (by decide +kernel)
theorem r68_87 : en_R cs 68 d post 87 lo st f = en_R cs 68 d post 91 lo st f := ru_goto (show en_cd 68 87 = some (.goto 4, 3, 0, 0) by decide +kernel) (by decide +kernel)
theorem r68_90 : en_R cs 68 d post 90 lo st f = en_R cs 68 d post 91 lo (.inl 0 :: st) f := ru_iconst (show en_cd 68 90 = some (.iconst 0, 1, 0, 0) by decide +kernel) (by decide +kernel)
theorem r68_91 : en_R cs 68 d post 91 (a0 :: a1 :: a2 :: a3 :: a4 :: a5 :: lo) (.inl x :: st) f = en_R cs 68 d post 93 (a0 :: a1 :: a2 :: a3 :: a4 :: some (.inl x) :: lo) st f := ru_istore2 (show en_cd 68 91 = some (.istore 5, 2, 0, 0) by decide +kernel) (Nat.lt_of_lt_of_le (by decide : 5 < 6) (Nat.le_add_left 6 lo.length))
theorem r68_93 : en_R cs 68 d post 93 (a0 :: a1 :: some (.inl x) :: lo) st f = en_R cs 68 d post 94 (a0 :: a1 :: some (.inl x) :: lo) (.inl x :: st) f := ru_load1 (show en_cd 68 93 = some (.iload_n 2, 1, 0, 0) by decide +kernel) rfl
theorem r68_94 : en_R cs 68 d post 94 lo st f = en_R cs 68 d post 95 lo (.inl 2 :: st) f := ru_iconst (show en_cd 68 94 = some (.iconst 2, 1, 0, 0) by decide +kernel) (by decide +kernel)
theorem r68_95 : en_R cs 68 d post 95 lo (.inl b :: .inl a :: st) f = (if a = b then en_R cs 68 d post 103 lo st f else en_R cs 68 d post 98 lo st f) := ru_iceq (show en_cd 68 95 = some (.if_icmp .eq 8, 3, 0, 0) by decide +kernel) (by decide +kernel)
theorem r68_98 : en_R cs 68 d post 98 (a0 :: a1 :: a2 :: a3 :: some (.inr q) :: lo) st f = en_R cs 68 d post 100 (a0 :: a1 :: a2 :: a3 :: some (.inr q) :: lo) (.inr q :: st) f := ru_aload2 (show en_cd 68 98 = some (.aload 4, 2, 0, 0) by decide +kernel) rfl
theorem r68_100 : en_R cs 68 d post 100 lo (.inr (4, i) :: st) f = (st.length ≤ 8 ∧ i < 6 ∧ en_Ev d 23 [.inr (4, i)] f (fun r g => en_R cs 68 d post 103 lo (r.toList ++ st) g)) := ru_iv (al := []) (show en_cd 68 100 = some (.invokevirtual 238, 3, 23, 0) by decide +kernel) (by decide +kernel) (show en_np 23 = 0 by decide +kernel) (by decide +kernel) rfl
theorem r68_103 : en_R cs 68 d post 103 (a0 :: a1 :: a2 :: a3 :: a4 :: some (.inl x) :: lo) st f = en_R cs 68 d post 105 (a0 :: a1 :: a2 :: a3 :: a4 :: some (.inl x) :: lo) (.inl x :: st) f := ru_load2 (show en_cd 68 103 = some (.iload 5, 2, 0, 0) by decide +kernel) rfl
theorem r68_105 : en_R cs 68 d post 105 lo (.inl a :: st) f = (if a = 0 then en_R cs 68 d post 108 lo st f else en_R cs 68 d post 110 lo st f) := ru_ifne (show en_cd 68 105 = some (.ifCond .ne 5, 3, 0, 0) by decide +kernel) (by decide +kernel)
theorem r68_108 : en_R cs 68 d post 108 lo st f = en_R cs 68 d post 109 lo (.inl 2 :: st) f := ru_iconst (show en_cd 68 108 = some (.iconst 2, 1, 0, 0) by decide +kernel) (by decide +kernel)
theorem r68_109 : en_R cs 68 d post 109 lo ([.inl x]) f = post (some (.inl x)) f := ru_ire1 (show en_cd 68 109 = some (.ireturn, 1, 0, 0) by decide +kernel) (by decide +kernel)
theorem r68_110 : en_R cs 68 d post 110 (a0 :: some (.inr q) :: lo) st f = en_R cs 68 d post 111 (a0 :: some (.inr q) :: lo) (.inr q :: st) f := ru_aload1 (show en_cd 68 110 = some (.aload_n 1, 1, 0, 0) by decide +kernel) rfl
theorem r68_111 : en_R cs 68 d post 111 lo (u :: st) f = en_R cs 68 d post 112 lo (u :: u :: st) f := ru_dup (show en_cd 68 111 = some (.dup, 1, 0, 0) by decide +kernel)
theorem r68_112 : en_R cs 68 d post 112 lo (.inr (3, i) :: st) f = (i < 6 ∧ en_R cs 68 d post 115 lo (.inl (f.1 3 i 5) :: st) f) := ru_getI (show en_cd 68 112 = some (.getfield 237, 3, 3, 5) by decide +kernel) (by decide +kernel) (by decide +kernel) (by decide +kernel)
theorem r68_115 : en_R cs 68 d post 115 lo st f = en_R cs 68 d post 116 lo (.inl 1 :: st) f := ru_iconst (show en_cd 68 115 = some (.iconst 1, 1, 0, 0) by decide +kernel) (by decide +kernel)
theorem r68_116 : en_R cs 68 d post 116 lo (.inl b :: .inl a :: st) f = en_R cs 68 d post 117 lo (.inl (a ^^^ b) :: st) f := ru_ixor (show en_cd 68 116 = some (.ixor, 1, 0, 0) by decide +kernel)
theorem r68_117 : en_R cs 68 d post 117 lo (.inl x :: .inr (3, i) :: st) f = (i < 6 ∧ en_R cs 68 d post 120 lo st (en_up f.1 3 i 5 x, f.2)) := ru_putI (show en_cd 68 117 = some (.putfield 237, 3, 3, 5) by decide +kernel) (by decide +kernel) (by decide +kernel) (by decide +kernel)
theorem r68_120 : en_R cs 68 d post 120 lo st f = en_R cs 68 d post 121 lo (.inl 3 :: st) f := ru_iconst (show en_cd 68 120 = some (.iconst 3, 1, 0, 0) by decide +kernel) (by decide +kernel)
theorem r68_121 : en_R cs 68 d post 121 lo ([.inl x]) f = post (some (.inl x)) f := ru_ire1 (show en_cd 68 121 = some (.ireturn, 1, 0, 0) by decide +kernel) (by decide +kernel)
theorem r69_0 : en_R cs 69 d post 0 (some (.inr q) :: lo) st f = en_R cs 69 d post 1 (some (.inr q) :: lo) (.inr q :: st) f := ru_aload1 (show en_cd 69 0 = some (.aload_n 0, 1, 0, 0) by decide +kernel) rfl
theorem r69_1 : en_R cs 69 d post 1 lo (.inr (0, i) :: st) f = (i < 1 ∧ en_R cs 69 d post 4 lo (.inr (1, i) :: st) f) := ru_getR (show en_cd 69 1 = some (.getfield 11, 3, 0, 0) by decide +kernel) (by decide +kernel) (by decide +kernel)
theorem r69_4 : en_R cs 69 d post 4 (a0 :: some (.inl x) :: lo) st f = en_R cs 69 d post 5 (a0 :: some (.inl x) :: lo) (.inl x :: st) f := ru_load1 (show en_cd 69 4 = some (.iload_n 1, 1, 0, 0) by decide +kernel) rfl
theorem r69_5 : en_R cs 69 d post 5 lo (.inl x :: .inr (1, i) :: st) f = (i < 1 ∧ en_inr x 6 = true ∧ en_R cs 69 d post 6 lo (.inr (3, x.toNatClampNeg) :: st) f) := ru_aald (show en_cd 69 5 = some (.aaload, 1, 0, 0) by decide +kernel) (by decide +kernel) (by decide +kernel) (by decide +kernel) (by decide +kernel)
theorem r69_6 : en_R cs 69 d post 6 lo (.inr (3, i) :: st) f = (i < 6 ∧ en_R cs 69 d post 9 lo (.inr (4, i) :: st) f) := ru_getR (show en_cd 69 6 = some (.getfield 57, 3, 3, 0) by decide +kernel) (by decide +kernel) (by decide +kernel)
theorem r69_9 : en_R cs 69 d post 9 (a0 :: a1 :: a2 :: lo) (.inr q :: st) f = en_R cs 69 d post 10 (a0 :: a1 :: some (.inr q) :: lo) st f := ru_astore1 (show en_cd 69 9 = some (.astore_n 2, 1, 0, 0) by decide +kernel) (Nat.lt_of_lt_of_le (by decide : 2 < 3) (Nat.le_add_left 3 lo.length))
theorem r69_10 : en_R cs 69 d post 10 (a0 :: a1 :: some (.inr q) :: lo) st f = en_R cs 69 d post 11 (a0 :: a1 :: some (.inr q) :: lo) (.inr q :: st) f := ru_aload1 (show en_cd 69 10 = some (.aload_n 2, 1, 0, 0) by decide +kernel) rfl
theorem r69_11 : en_R cs 69 d post 11 lo (.inr (4, i) :: st) f = (i < 6 ∧ en_R cs 69 d post 14 lo (.inl (f.1 4 i 3) :: st) f) := ru_getI (show en_cd 69 11 = some (.getfield 74, 3, 4, 3) by decide +kernel) (by decide +kernel) (by decide +kernel) (by decide +kernel)
theorem r69_14 : en_R cs 69 d post 14 lo st f = en_R cs 69 d post 15 lo (.inl 2 :: st) f := ru_iconst (show en_cd 69 14 = some (.iconst 2, 1, 0, 0) by decide +kernel) (by decide +kernel)
theorem r69_15 : en_R cs 69 d post 15 lo (.inl b :: .inl a :: st) f = (if a = b then en_R cs 69 d post 18 lo st f else en_R cs 69 d post 25 lo st f) := ru_icne (show en_cd 69 15 = some (.if_icmp .ne 10, 3, 0, 0) by decide +kernel) (by decide +kernel)
theorem r69_18 : en_R cs 69 d post 18 (a0 :: a1 :: some (.inr q) :: lo) st f = en_R cs 69 d post 19 (a0 :: a1 :: some (.inr q) :: lo) (.inr q :: st) f := ru_aload1 (show en_cd 69 18 = some (.aload_n 2, 1, 0, 0) by decide +kernel) rfl
theorem r69_19 : en_R cs 69 d post 19 lo (.inr (4, i) :: st) f = (st.length ≤ 8 ∧ i < 6 ∧ en_Ev d 24 [.inr (4, i)] f (fun r g => en_R cs 69 d post 22 lo (r.toList ++ st) g)) := ru_iv (al := []) (show en_cd 69 19 = some (.invokevirtual 241, 3, 24, 0) by decide +kernel) (by decide +kernel) (show en_np 24 = 0 by decide +kernel) (by decide +kernel) rfl
theorem r69_22 : en_R cs 69 d post 22 lo st f = en_R cs 69 d post 78 lo st f := ru_goto (show en_cd 69 22 = some (.goto 56, 3, 0, 0) by decide +kernel) (by decide +kernel)
theorem r69_25 : en_R cs 69 d post 25 (a0 :: a1 :: some (.inr q) :: lo) st f = en_R cs 69 d post 26 (a0 :: a1 :: some (.inr q) :: lo) (.inr q :: st) f := ru_aload1 (show en_cd 69 25 = some (.aload_n 2, 1, 0, 0) by decide +kernel) rfl
theorem r69_26 : en_R cs 69 d post 26 lo (.inr (4, i) :: st) f = (i < 6 ∧ en_R cs 69 d post 29 lo (.inl (f.1 4 i 3) :: st) f) := ru_getI (show en_cd 69 26 = some (.getfield 74, 3, 4, 3) by decide +kernel) (by decide +kernel) (by decide +kernel) (by decide +kernel)
theorem r69_29 : en_R cs 69 d post 29 lo st f = en_R cs 69 d post 30 lo (.inl 1 :: st) f := ru_iconst (show en_cd 69 29 = some (.iconst 1, 1, 0, 0) by decide +kernel) (by decide +kernel)
theorem r69_30 : en_R cs 69 d post 30 lo (.inl b :: .inl a :: st) f = (if a = b then en_R cs 69 d post 33 lo st f else en_R cs 69 d post 40 lo st f) := ru_icne (show en_cd 69 30 = some (.if_icmp .ne 10, 3, 0, 0) by decide +kernel) (by decide +kernel)
theorem r69_33 : en_R cs 69 d post 33 (a0 :: a1 :: some (.inr q) :: lo) st f = en_R cs 69 d post 34 (a0 :: a1 :: some (.inr q) :: lo) (.inr q :: st) f := ru_aload1 (show en_cd 69 33 = some (.aload_n 2, 1, 0, 0) by decide +kernel) rfl
theorem r69_34 : en_R cs 69 d post 34 lo (.inr (4, i) :: st) f = (st.length ≤ 8 ∧ i < 6 ∧ en_Ev d 25 [.inr (4, i)] f (fun r g => en_R cs 69 d post 37 lo (r.toList ++ st) g)) := ru_iv (al := []) (show en_cd 69 34 = some (.invokevirtual 244, 3, 25, 0) by decide +kernel) (by decide +kernel) (show en_np 25 = 0 by decide +kernel) (by decide +kernel) rfl
theorem r69_37 : en_R cs 69 d post 37 lo st f = en_R cs 69 d post 78 lo st f := ru_goto (show en_cd 69 37 = some (.goto 41, 3, 0, 0) by decide +kernel) (by decide +kernel)
theorem r69_40 : en_R cs 69 d post 40 (a0 :: some (.inl x) :: lo) st f = en_R cs 69 d post 41 (a0 :: some (.inl x) :: lo) (.inl x :: st) f := ru_load1 (show en_cd 69 40 = some (.iload_n 1, 1, 0, 0) by decide +kernel) rfl
theorem r69_41 : en_R cs 69 d post 41 lo st f = en_R cs 69 d post 42 lo (.inl 2 :: st) f := ru_iconst (show en_cd 69 41 = some (.iconst 2, 1, 0, 0) by decide +kernel) (by decide +kernel)
theorem r69_42 : en_R cs 69 d post 42 lo (.inl b :: .inl a :: st) f = (if b ≤ a then en_R cs 69 d post 78 lo st f else en_R cs 69 d post 45 lo st f) := ru_icge (show en_cd 69 42 = some (.if_icmp .ge 36, 3, 0, 0) by decide +kernel) (by decide +kernel)
theorem r69_45 : en_R cs 69 d post 45 (a0 :: some (.inl x) :: lo) st f = en_R cs 69 d post 46 (a0 :: some (.inl x) :: lo) (.inl x :: st) f := ru_load1 (show en_cd 69 45 = some (.iload_n 1, 1, 0, 0) by decide +kernel) rfl
theorem r69_46 : en_R cs 69 d post 46 lo (u1 :: st) f = (st.length ≤ 8 ∧ en_Ev d 51 [u1] f (fun r g => en_R cs 69 d post 49 lo (r.toList ++ st) g)) := ru_is (al := [u1]) (show en_cd 69 46 = some (.invokestatic 80, 3, 51, 0) by decide +kernel) (by decide +kernel) (show en_np 51 = 1 by decide +kernel) rfl
theorem r69_49 : en_R cs 69 d post 49 (a0 :: a1 :: a2 :: a3 :: lo) (.inl x :: st) f = en_R cs 69 d post 50 (a0 :: a1 :: a2 :: some (.inl x) :: lo) st f := ru_istore1 (show en_cd 69 49 = some (.istore_n 3, 1, 0, 0) by decide +kernel) (Nat.lt_of_lt_of_le (by decide : 3 < 4) (Nat.le_add_left 4 lo.length))
theorem r69_50 : en_R cs 69 d post 50 (some (.inr q) :: lo) st f = en_R cs 69 d post 51 (some (.inr q) :: lo) (.inr q :: st) f := ru_aload1 (show en_cd 69 50 = some (.aload_n 0, 1, 0, 0) by decide +kernel) rfl
theorem r69_51 : en_R cs 69 d post 51 (a0 :: a1 :: a2 :: some (.inl x) :: lo) st f = en_R cs 69 d post 52 (a0 :: a1 :: a2 :: some (.inl x) :: lo) (.inl x :: st) f := ru_load1 (show en_cd 69 51 = some (.iload_n 3, 1, 0, 0) by decide +kernel) rfl
theorem r69_52 : en_R cs 69 d post 52 lo (u1 :: .inr (0, i) :: st) f = (st.length ≤ 8 ∧ i < 1 ∧ en_Ev d 56 [.inr (0, i), u1] f (fun r g => en_R cs 69 d post 55 lo (r.toList ++ st) g)) := ru_iv (al := [u1]) (show en_cd 69 52 = some (.invokevirtual 156, 3, 56, 0) by decide +kernel) (by decide +kernel) (show en_np 56 = 1 by decide +kernel) (by decide +kernel) rfl
theorem r69_55 : en_R cs 69 d post 55 (some (.inr q) :: lo) st f = en_R cs 69 d post 56 (some (.inr q) :: lo) (.inr q :: st) f := ru_aload1 (show en_cd 69 55 = some (.aload_n 0, 1, 0, 0) by decide +kernel) rfl
theorem r69_56 : en_R cs 69 d post 56 (a0 :: a1 :: a2 :: some (.inl x) :: lo) st f = en_R cs 69 d post 57 (a0 :: a1 :: a2 :: some (.inl x) :: lo) (.inl x :: st) f := ru_load1 (show en_cd 69 56 = some (.iload_n 3, 1, 0, 0) by decide +kernel) rfl
theorem r69_57 : en_R cs 69 d post 57 lo st f = en_R cs 69 d post 58 lo (.inl 1 :: st) f := ru_iconst (show en_cd 69 57 = some (.iconst 1, 1, 0, 0) by decide +kernel) (by decide +kernel)
theorem r69_58 : en_R cs 69 d post 58 lo (.inl b :: .inl a :: st) f = en_R cs 69 d post 59 lo (.inl (a + b) :: st) f := ru_iadd (show en_cd 69 58 = some (.iadd, 1, 0, 0) by decide +kernel)
theorem r69_59 : en_R cs 69 d post 59 lo (u1 :: .inr (0, i) :: st) f = (st.length ≤ 8 ∧ i < 1 ∧ en_Ev d 56 [.inr (0, i), u1] f (fun r g => en_R cs 69 d post 62 lo (r.toList ++ st) g)) := ru_iv (al := [u1]) (show en_cd 69 59 = some (.invokevirtual 156, 3, 56, 0) by decide +kernel) (by decide +kernel) (show en_np 56 = 1 by decide +kernel) (by decide +kernel) rfl
theorem r69_62 : en_R cs 69 d post 62 lo st f = en_R cs 69 d post 63 lo (.inl 2 :: st) f := ru_iconst (show en_cd 69 62 = some (.iconst 2, 1, 0, 0) by decide +kernel) (by decide +kernel)
theorem r69_63 : en_R cs 69 d post 63 lo (.inl b :: .inl a :: st) f = en_R cs 69 d post 64 lo (.inl (a <<< (b &&& 31)) :: st) f := ru_ishl (show en_cd 69 63 = some (.ishl, 1, 0, 0) by decide +kernel)
theorem r69_64 : en_R cs 69 d post 64 lo (.inl b :: .inl a :: st) f = en_R cs 69 d post 65 lo (.inl (a ||| b) :: st) f := ru_ior (show en_cd 69 64 = some (.ior, 1, 0, 0) by decide +kernel)
theorem r69_65 : en_R cs 69 d post 65 (a0 :: a1 :: a2 :: a3 :: a4 :: lo) (.inl x :: st) f = en_R cs 69 d post 67 (a0 :: a1 :: a2 :: a3 :: some (.inl x) :: lo) st f := ru_istore2 (show en_cd 69 65 = some (.istore 4, 2, 0, 0) by decide +kernel) (Nat.lt_of_lt_of_le (by decide : 4 < 5) (Nat.le_add_left 5 lo.length))
theorem r69_67 : en_R cs 69 d post 67 (a0 :: a1 :: a2 :: a3 :: some (.inl x) :: lo) st f = en_R cs 69 d post 69 (a0 :: a1 :: a2 :: a3 :: some (.inl x) :: lo) (.inl x :: st) f := ru_load2 (show en_cd 69 67 = some (.iload 4, 2, 0, 0) by decide +kernel) rfl
theorem r69_69 : en_R cs 69 d post 69 lo (.inl a :: st) f = (if a = 0 then en_R cs 69 d post 78 lo st f else en_R cs 69 d post 72 lo st f) := ru_ifeq (show en_cd 69 69 = some (.ifCond .eq 9, 3, 0, 0) by decide +kernel) (by decide +kernel)
theorem r69_72 : en_R cs 69 d post 72 (a0 :: a1 :: some (.inr q) :: lo) st f = en_R cs 69 d post 73 (a0 :: a1 :: some (.inr q) :: lo) (.inr q :: st) f := ru_aload1 (show en_cd 69 72 = some (.aload_n 2, 1, 0, 0) by decide +kernel) rfl
theorem r69_73 : en_R cs 69 d post 73 (a0 :: a1 :: a2 :: a3 :: some (.inl x) :: lo) st f = en_R cs 69 d post 75 (a0 :: a1 :: a2 :: a3 :: some (.inl x) :: lo) (.inl x :: st) f := ru_load2 (show en_cd 69 73 = some (.iload 4, 2, 0, 0) by decide +kernel) rfl
theorem r69_75 : en_R cs 69 d post 75 lo (u1 :: .inr (4, i) :: st) f = (st.length ≤ 8 ∧ i < 6 ∧ en_Ev d 22 [.inr (4, i), u1] f (fun r g => en_R cs 69 d post 78 lo (r.toList ++ st) g)) := ru_iv (al := [u1]) (show en_cd 69 75 = some (.invokevirtual 247, 3, 22, 0) by decide +kernel) (by decide +kernel) (show en_np 22 = 1 by decide +kernel) (by decide +kernel) rfl
theorem r69_78 : en_R cs 69 d post 78 lo [] f = post none f := ru_vre (show en_cd 69 78 = some (.return_, 1, 0, 0) by decide +kernel) (by decide +kernel)
theorem r70_0 : en_R cs 70 d post 0 lo st f = en_R cs 70 d post 1 lo (.inl 0 :: st) f := ru_iconst (show en_cd 70 0 = some (.iconst 0, 1, 0, 0) by decide +kernel) (by decide +kernel)
theorem r70_1 : en_R cs 70 d post 1 (a0 :: a1 :: lo) (.inl x :: st) f = en_R cs 70 d post 2 (a0 :: some (.inl x) :: lo) st f := ru_istore1 (show en_cd 70 1 = some (.istore_n 1, 1, 0, 0) by decide +kernel) (Nat.lt_of_lt_of_le (by decide : 1 < 2) (Nat.le_add_left 2 lo.length))
theorem r70_2 : en_R cs 70 d post 2 lo st f = en_R cs 70 d post 3 lo (.inl 0 :: st) f := ru_iconst (show en_cd 70 2 = some (.iconst 0, 1, 0, 0) by decide +kernel) (by decide +kernel)
theorem r70_3 : en_R cs 70 d post 3 (a0 :: a1 :: a2 :: lo) (.inl x :: st) f = en_R cs 70 d post 4 (a0 :: a1 :: some (.inl x) :: lo) st f := ru_istore1 (show en_cd 70 3 = some (.istore_n 2, 1, 0, 0) by decide +kernel) (Nat.lt_of_lt_of_le (by decide : 2 < 3) (Nat.le_add_left 3 lo.length))
theorem r70_4 : en_R cs 70 d post 4 (a0 :: a1 :: some (.inl x) :: lo) st f = en_R cs 70 d post 5 (a0 :: a1 :: some (.inl x) :: lo) (.inl x :: st) f := ru_load1 (show en_cd 70 4 = some (.iload_n 2, 1, 0, 0) by decide +kernel) rfl
theorem r70_5 : en_R cs 70 d post 5 lo st f = en_R cs 70 d post 7 lo (.inl 6 :: st) f := ru_bipush (show en_cd 70 5 = some (.bipush 6, 2, 0, 0) by decide +kernel) (by decide +kernel)
theorem r70_7 : en_R cs 70 d post 7 lo (.inl b :: .inl a :: st) f = (if b ≤ a then en_R cs 70 d post 46 lo st f else en_R cs 70 d post 10 lo st f) := ru_icge (show en_cd 70 7 = some (.if_icmp .ge 39, 3, 0, 0) by decide +kernel) (by decide +kernel)
theorem r70_10 : en_R cs 70 d post 10 (some (.inr q) :: lo) st f = en_R cs 70 d post 11 (some (.inr q) :: lo) (.inr q :: st) f := ru_aload1 (show en_cd 70 10 = some (.aload_n 0, 1, 0, 0) by decide +kernel) rfl
theorem r70_11 : en_R cs 70 d post 11 (some (.inr q) :: lo) st f = en_R cs 70 d post 12 (some (.inr q) :: lo) (.inr q :: st) f := ru_aload1 (show en_cd 70 11 = some (.aload_n 0, 1, 0, 0) by decide +kernel) rfl
theorem r70_12 : en_R cs 70 d post 12 lo (.inr (0, i) :: st) f = (i < 1 ∧ en_R cs 70 d post 15 lo (.inr (1, i) :: st) f) := ru_getR (show en_cd 70 12 = some (.getfield 11, 3, 0, 0) by decide +kernel) (by decide +kernel) (by decide +kernel)
theorem r70_15 : en_R cs 70 d post 15 (a0 :: a1 :: some (.inl x) :: lo) st f = en_R cs 70 d post 16 (a0 :: a1 :: some (.inl x) :: lo) (.inl x :: st) f := ru_load1 (show en_cd 70 15 = some (.iload_n 2, 1, 0, 0) by decide +kernel) rfl
theorem r70_16 : en_R cs 70 d post 16 lo (.inl x :: .inr (1, i) :: st) f = (i < 1 ∧ en_inr x 6 = true ∧ en_R cs 70 d post 17 lo (.inr (3, x.toNatClampNeg) :: st) f) := ru_aald (show en_cd 70 16 = some (.aaload, 1, 0, 0) by decide +kernel) (by decide +kernel) (by decide +kernel) (by decide +kernel) (by decide +kernel)
theorem r70_17 : en_R cs 70 d post 17 lo (u1 :: .inr (0, i) :: st) f = (st.length ≤ 8 ∧ i < 1 ∧ en_Ev d 71 [.inr (0, i), u1] f (fun r g => en_R cs 70 d post 20 lo (r.toList ++ st) g)) := ru_iv (al := [u1]) (show en_cd 70 17 = some (.invokevirtual 250, 3, 71, 0) by decide +kernel) (by decide +kernel) (show en_np 71 = 1 by decide +kernel) (by decide +kernel) rfl
theorem r70_20 : en_R cs 70 d post 20 lo (.inl a :: st) f = (if a = 0 then en_R cs 70 d post 40 lo st f else en_R cs 70 d post 23 lo st f) := ru_ifeq (show en_cd 70 20 = some (.ifCond .eq 20, 3, 0, 0) by decide +kernel) (by decide +kernel)
theorem r70_23 : en_R cs 70 d post 23 (a0 :: some (.inl x) :: lo) st f = en_R cs 70 d post 24 (a0 :: some (.inl x) :: lo) (.inl x :: st) f := ru_load1 (show en_cd 70 23 = some (.iload_n 1, 1, 0, 0) by decide +kernel) rfl
theorem r70_24 : en_R cs 70 d post 24 (some (.inr q) :: lo) st f = en_R cs 70 d post 25 (some (.inr q) :: lo) (.inr q :: st) f := ru_aload1 (show en_cd 70 24 = some (.aload_n 0, 1, 0, 0) by decide +kernel) rfl
theorem r70_25 : en_R cs 70 d post 25 lo (.inr (0, i) :: st) f = (i < 1 ∧ en_R cs 70 d post 28 lo (.inr (1, i) :: st) f) := ru_getR (show en_cd 70 25 = some (.getfield 11, 3, 0, 0) by decide +kernel) (by decide +kernel) (by decide +kernel)
theorem r70_28 : en_R cs 70 d post 28 (a0 :: a1 :: some (.inl x) :: lo) st f = en_R cs 70 d post 29 (a0 :: a1 :: some (.inl x) :: lo) (.inl x :: st) f := ru_load1 (show en_cd 70 28 = some (.iload_n 2, 1, 0, 0) by decide +kernel) rfl
theorem r70_29 : en_R cs 70 d post 29 lo (.inl x :: .inr (1, i) :: st) f = (i < 1 ∧ en_inr x 6 = true ∧ en_R cs 70 d post 30 lo (.inr (3, x.toNatClampNeg) :: st) f) := ru_aald (show en_cd 70 29 = some (.aaload, 1, 0, 0) by decide +kernel) (by decide +kernel) (by decide +kernel) (by decide +kernel) (by decide +kernel)
theorem r70_30 : en_R cs 70 d post 30 lo (.inr (3, i) :: st) f = (i < 6 ∧ en_R cs 70 d post 33 lo (.inl (f.1 3 i 12) :: st) f) := ru_getI (show en_cd 70 30 = some (.getfield 183, 3, 3, 12) by decide +kernel) (by decide +kernel) (by decide +kernel) (by decide +kernel)
theorem r70_33 : en_R cs 70 d post 33 lo (.inl b :: .inl a :: st) f = en_R cs 70 d post 34 lo (.inl (a + b) :: st) f := ru_iadd (show en_cd 70 33 = some (.iadd, 1, 0, 0) by decide +kernel)
theorem r70_34 : en_R cs 70 d post 34 (a0 :: a1 :: lo) (.inl x :: st) f = en_R cs 70 d post 35 (a0 :: some (.inl x) :: lo) st f := ru_istore1 (show en_cd 70 34 = some (.istore_n 1, 1, 0, 0) by decide +kernel) (Nat.lt_of_lt_of_le (by decide : 1 < 2) (Nat.le_add_left 2 lo.length))
theorem r70_35 : en_R cs 70 d post 35 (some (.inr q) :: lo) st f = en_R cs 70 d post 36 (some (.inr q) :: lo) (.inr q :: st) f := ru_aload1 (show en_cd 70 35 = some (.aload_n 0, 1, 0, 0) by decide +kernel) rfl
theorem r70_36 : en_R cs 70 d post 36 (a0 :: a1 :: some (.inl x) :: lo) st f = en_R cs 70 d post 37 (a0 :: a1 :: some (.inl x) :: lo) (.inl x :: st) f := ru_load1 (show en_cd 70 36 = some (.iload_n 2, 1, 0, 0) by decide +kernel) rfl
theorem r70_37 : en_R cs 70 d post 37 lo (u1 :: .inr (0, i) :: st) f = (st.length ≤ 8 ∧ i < 1 ∧ en_Ev d 72 [.inr (0, i), u1] f (fun r g => en_R cs 70 d post 40 lo (r.toList ++ st) g)) := ru_iv (al := [u1]) (show en_cd 70 37 = some (.invokevirtual 254, 3, 72, 0) by decide +kernel) (by decide +kernel) (show en_np 72 = 1 by decide +kernel) (by decide +kernel) rfl
theorem r70_40 : en_R cs 70 d post 40 (a0 :: a1 :: some (.inl x) :: lo) st f = en_R cs 70 d post 43 (a0 :: a1 :: some (.inl (x + 1)) :: lo) st f := ru_iinc (show en_cd 70 40 = some (.iinc 2 1, 3, 0, 0) by decide +kernel) (by decide +kernel) rfl
theorem r70_43 : en_R cs 70 d post 43 lo st f = en_R cs 70 d post 4 lo st f := ru_goto (show en_cd 70 43 = some (.goto (-39), 3, 0, 0) by decide +kernel) (by decide +kernel)
theorem r70_46 : en_R cs 70 d post 46 (a0 :: some (.inl x) :: lo) st f = en_R cs 70 d post 47 (a0 :: some (.inl x) :: lo) (.inl x :: st) f := ru_load1 (show en_cd 70 46 = some (.iload_n 1, 1, 0, 0) by decide +kernel) rfl
theorem r70_47 : en_R cs 70 d post 47 lo ([.inl x]) f = post (some (.inl x)) f := ru_ire1 (show en_cd 70 47 = some (.ireturn, 1, 0, 0) by decide +kernel) (by decide +kernel)
theorem r71_0 : en_R cs 71 d post 0 (a0 :: some (.inr q) :: lo) st f = en_R cs 71 d post 1 (a0 :: some (.inr q) :: lo) (.inr q :: st) f := ru_aload1 (show en_cd 71 0 = some (.aload_n 1, 1, 0, 0) by decide +kernel) rfl
theorem r71_1 : en_R cs 71 d post 1 lo st f = en_R cs 71 d post 2 lo (.inl 3 :: st) f := ru_iconst (show en_cd 71 1 = some (.iconst 3, 1, 0, 0) by decide +kernel) (by decide +kernel)
theorem r71_2 : en_R cs 71 d post 2 lo (u1 :: .inr (3, i) :: st) f = (st.length ≤ 8 ∧ i < 6 ∧ en_Ev d 27 [.inr (3, i), u1] f (fun r g => en_R cs 71 d post 5 lo (r.toList ++ st) g)) := ru_iv (al := [u1]) (show en_cd 71 2 = some (.invokevirtual 165, 3, 27, 0) by decide +kernel) (by decide +kernel) (show en_np 27 = 1 by decide +kernel) (by decide +kernel) rfl
theorem r71_5 : en_R cs 71 d post 5 lo (.inl a :: st) f = (if a = 0 then en_R cs 71 d post 10 lo st f else en_R cs 71 d post 8 lo st f) := ru_ifeq (show en_cd 71 5 = some (.ifCond .eq 5, 3, 0, 0) by decide +kernel) (by decide +kernel)
theorem r71_8 : en_R cs 71 d post 8 lo st f = en_R cs 71 d post 9 lo (.inl 1 :: st) f := ru_iconst (show en_cd 71 8 = some (.iconst 1, 1, 0, 0) by decide +kernel) (by decide +kernel)
theorem r71_9 : en_R cs 71 d post 9 lo ([.inl x]) f = (en_isz x = true ∧ post (some (.inl x)) f) := ru_ire2 (show en_cd 71 9 = some (.ireturn, 1, 0, 0) by decide +kernel) (by decide +kernel)
theorem r71_10 : en_R cs 71 d post 10 (a0 :: some (.inr q) :: lo) st f = en_R cs 71 d post 11 (a0 :: some (.inr q) :: lo) (.inr q :: st) f := ru_aload1 (show en_cd 71 10 = some (.aload_n 1, 1, 0, 0) by decide +kernel) rfl
theorem r71_11 : en_R cs 71 d post 11 lo st f = en_R cs 71 d post 12 lo (.inl 2 :: st) f := ru_iconst (show en_cd 71 11 = some (.iconst 2, 1, 0, 0) by decide +kernel) (by decide +kernel)
theorem r71_12 : en_R cs 71 d post 12 lo (u1 :: .inr (3, i) :: st) f = (st.length ≤ 8 ∧ i < 6 ∧ en_Ev d 27 [.inr (3, i), u1] f (fun r g => en_R cs 71 d post 15 lo (r.toList ++ st) g)) := ru_iv (al := [u1]) (show en_cd 71 12 = some (.invokevirtual 165, 3, 27, 0) by decide +kernel) (by decide +kernel) (show en_np 27 = 1 by decide +kernel) (by decide +kernel) rfl
theorem r71_15 : en_R cs 71 d post 15 lo (.inl a :: st) f = (if a = 0 then en_R cs 71 d post 41 lo st f else en_R cs 71 d post 18 lo st f) := ru_ifeq (show en_cd 71 15 = some (.ifCond .eq 26, 3, 0, 0) by decide +kernel) (by decide +kernel)
theorem r71_18 : en_R cs 71 d post 18 (a0 :: some (.inr q) :: lo) st f = en_R cs 71 d post 19 (a0 :: some (.inr q) :: lo) (.inr q :: st) f := ru_aload1 (show en_cd 71 18 = some (.aload_n 1, 1, 0, 0) by decide +kernel) rfl
theorem r71_19 : en_R cs 71 d post 19 lo (.inr (3, i) :: st) f = (i < 6 ∧ en_R cs 71 d post 22 lo (.inl (f.1 3 i 11) :: st) f) := ru_getI (show en_cd 71 19 = some (.getfield 257, 3, 3, 11) by decide +kernel) (by decide +kernel) (by decide +kernel) (by decide +kernel)
theorem r71_22 : en_R cs 71 d post 22 lo (.inl a :: st) f = (if a ≤ 0 then en_R cs 71 d post 41 lo st f else en_R cs 71 d post 25 lo st f) := ru_ifle (show en_cd 71 22 = some (.ifCond .le 19, 3, 0, 0) by decide +kernel) (by decide +kernel)
theorem r71_25 : en_R cs 71 d post 25 (some (.inr q) :: lo) st f = en_R cs 71 d post 26 (some (.inr q) :: lo) (.inr q :: st) f := ru_aload1 (show en_cd 71 25 = some (.aload_n 0, 1, 0, 0) by decide +kernel) rfl
theorem r71_26 : en_R cs 71 d post 26 lo (.inr (0, i) :: st) f = (i < 1 ∧ en_R cs 71 d post 29 lo (.inl (f.1 0 i 5) :: st) f) := ru_getI (show en_cd 71 26 = some (.getfield 114, 3, 0, 5) by decide +kernel) (by decide +kernel) (by decide +kernel) (by decide +kernel)
theorem r71_29 : en_R cs 71 d post 29 (a0 :: some (.inr q) :: lo) st f = en_R cs 71 d post 30 (a0 :: some (.inr q) :: lo) (.inr q :: st) f := ru_aload1 (show en_cd 71 29 = some (.aload_n 1, 1, 0, 0) by decide +kernel) rfl
theorem r71_30 : en_R cs 71 d post 30 lo (.inr (3, i) :: st) f = (i < 6 ∧ en_R cs 71 d post 33 lo (.inl (f.1 3 i 11) :: st) f) := ru_getI (show en_cd 71 30 = some (.getfield 257, 3, 3, 11) by decide +kernel) (by decide +kernel) (by decide +kernel) (by decide +kernel)
theorem r71_33 : en_R cs 71 d post 33 lo (.inl b :: .inl a :: st) f = (¬ b = 0 ∧ en_R cs 71 d post 34 lo (.inl (a - a / b * b) :: st) f) := ru_irem (show en_cd 71 33 = some (.irem, 1, 0, 0) by decide +kernel)
theorem r71_34 : en_R cs 71 d post 34 lo (.inl a :: st) f = (if a = 0 then en_R cs 71 d post 37 lo st f else en_R cs 71 d post 41 lo st f) := ru_ifne (show en_cd 71 34 = some (.ifCond .ne 7, 3, 0, 0) by decide +kernel) (by decide +kernel)
theorem r71_37 : en_R cs 71 d post 37 lo st f = en_R cs 71 d post 38 lo (.inl 1 :: st) f := ru_iconst (show en_cd 71 37 = some (.iconst 1, 1, 0, 0) by decide +kernel) (by decide +kernel)
theorem r71_38 : en_R cs 71 d post 38 lo st f = en_R cs 71 d post 42 lo st f := ru_goto (show en_cd 71 38 = some (.goto 4, 3, 0, 0) by decide +kernel) (by decide +kernel)
theorem r71_41 : en_R cs 71 d post 41 lo st f = en_R cs 71 d post 42 lo (.inl 0 :: st) f := ru_iconst (show en_cd 71 41 = some (.iconst 0, 1, 0, 0) by decide +kernel) (by decide +kernel)
theorem r71_42 : en_R cs 71 d post 42 lo ([.inl x]) f = (en_isz x = true ∧ post (some (.inl x)) f) := ru_ire2 (show en_cd 71 42 = some (.ireturn, 1, 0, 0) by decide +kernel) (by decide +kernel)
theorem r72_0 : en_R cs 72 d post 0 (some (.inr q) :: lo) st f = en_R cs 72 d post 1 (some (.inr q) :: lo) (.inr q :: st) f := ru_aload1 (show en_cd 72 0 = some (.aload_n 0, 1, 0, 0) by decide +kernel) rfl
theorem r72_1 : en_R cs 72 d post 1 lo (.inr (0, i) :: st) f = (i < 1 ∧ en_R cs 72 d post 4 lo (.inr (1, i) :: st) f) := ru_getR (show en_cd 72 1 = some (.getfield 11, 3, 0, 0) by decide +kernel) (by decide +kernel) (by decide +kernel)
theorem r72_4 : en_R cs 72 d post 4 (a0 :: some (.inl x) :: lo) st f = en_R cs 72 d post 5 (a0 :: some (.inl x) :: lo) (.inl x :: st) f := ru_load1 (show en_cd 72 4 = some (.iload_n 1, 1, 0, 0) by decide +kernel) rfl
theorem r72_5 : en_R cs 72 d post 5 lo (.inl x :: .inr (1, i) :: st) f = (i < 1 ∧ en_inr x 6 = true ∧ en_R cs 72 d post 6 lo (.inr (3, x.toNatClampNeg) :: st) f) := ru_aald (show en_cd 72 5 = some (.aaload, 1, 0, 0) by decide +kernel) (by decide +kernel) (by decide +kernel) (by decide +kernel) (by decide +kernel)
theorem r72_6 : en_R cs 72 d post 6 (a0 :: a1 :: a2 :: lo) (.inr q :: st) f = en_R cs 72 d post 7 (a0 :: a1 :: some (.inr q) :: lo) st f := ru_astore1 (show en_cd 72 6 = some (.astore_n 2, 1, 0, 0) by decide +kernel) (Nat.lt_of_lt_of_le (by decide : 2 < 3) (Nat.le_add_left 3 lo.length))
theorem r72_7 : en_R cs 72 d post 7 (some (.inr q) :: lo) st f = en_R cs 72 d post 8 (some (.inr q) :: lo) (.inr q :: st) f := ru_aload1 (show en_cd 72 7 = some (.aload_n 0, 1, 0, 0) by decide +kernel) rfl
theorem r72_8 : en_R cs 72 d post 8 (a0 :: a1 :: some (.inr q) :: lo) st f = en_R cs 72 d post 9 (a0 :: a1 :: some (.inr q) :: lo) (.inr q :: st) f := ru_aload1 (show en_cd 72 8 = some (.aload_n 2, 1, 0, 0) by decide +kernel) rfl
theorem r72_9 : en_R cs 72 d post 9 lo (u1 :: .inr (0, i) :: st) f = (st.length ≤ 8 ∧ i < 1 ∧ en_Ev d 68 [.inr (0, i), u1] f (fun r g => en_R cs 72 d post 12 lo (r.toList ++ st) g)) := ru_iv (al := [u1]) (show en_cd 72 9 = some (.invokevirtual 260, 3, 68, 0) by decide +kernel) (by decide +kernel) (show en_np 68 = 1 by decide +kernel) (by decide +kernel) rfl
theorem r72_12 : en_R cs 72 d post 12 (a0 :: a1 :: a2 :: a3 :: lo) (.inl x :: st) f = en_R cs 72 d post 13 (a0 :: a1 :: a2 :: some (.inl x) :: lo) st f := ru_istore1 (show en_cd 72 12 = some (.istore_n 3, 1, 0, 0) by decide +kernel) (Nat.lt_of_lt_of_le (by decide : 3 < 4) (Nat.le_add_left 4 lo.length))
theorem r72_13 : en_R cs 72 d post 13 (a0 :: a1 :: some (.inr q) :: lo) st f = en_R cs 72 d post 14 (a0 :: a1 :: some (.inr q) :: lo) (.inr q :: st) f := ru_aload1 (show en_cd 72 13 = some (.aload_n 2, 1, 0, 0) by decide +kernel) rfl
theorem r72_14 : en_R cs 72 d post 14 (a0 :: a1 :: a2 :: some (.inl x) :: lo) st f = en_R cs 72 d post 15 (a0 :: a1 :: a2 :: some (.inl x) :: lo) (.inl x :: st) f := ru_load1 (show en_cd 72 14 = some (.iload_n 3, 1, 0, 0) by decide +kernel) rfl
theorem r72_15 : en_R cs 72 d post 15 lo (.inl a :: st) f = (if a = 0 then en_R cs 72 d post 18 lo st f else en_R cs 72 d post 22 lo st f) := ru_ifne (show en_cd 72 15 = some (.ifCond .ne 7, 3, 0, 0) by decide +kernel) (by decide +kernel)
theorem r72_18 : en_R cs 72 d post 18 lo st f = en_R cs 72 d post 19 lo (.inl 1 :: st) f := ru_iconst (show en_cd 72 18 = some (.iconst 1, 1, 0, 0) by decide +kernel) (by decide +kernel)
theorem r72_19 : en_R cs 72 d post 19 lo st f = en_R cs 72 d post 23 lo st f := ru_goto (show en_cd 72 19 = some (.goto 4, 3, 0, 0) by decide +kernel) (by decide +kernel)
theorem r72_22 : en_R cs 72 d post 22 lo st f = en_R cs 72 d post 23 lo (.inl 0 :: st) f := ru_iconst (show en_cd 72 22 = some (.iconst 0, 1, 0, 0) by decide +kernel) (by decide +kernel)
theorem r72_23 : en_R cs 72 d post 23 lo (u1 :: .inr (3, i) :: st) f = (st.length ≤ 8 ∧ i < 6 ∧ en_Ev d 32 [.inr (3, i), u1] f (fun r g => en_R cs 72 d post 26 lo (r.toList ++ st) g)) := ru_iv (al := [u1]) (show en_cd 72 23 = some (.invokevirtual 264, 3, 32, 0) by decide +kernel) (by decide +kernel) (show en_np 32 = 1 by decide +kernel) (by decide +kernel) rfl
theorem r72_26 : en_R cs 72 d post 26 lo (.inl a :: st) f = (if a = 0 then en_R cs 72 d post 37 lo st f else en_R cs 72 d post 29 lo st f) := ru_ifeq (show en_cd 72 26 = some (.ifCond .eq 11, 3, 0, 0) by decide +kernel) (by decide +kernel)
theorem r72_29 : en_R cs 72 d post 29 (some (.inr q) :: lo) st f = en_R cs 72 d post 30 (some (.inr q) :: lo) (.inr q :: st) f := ru_aload1 (show en_cd 72 29 = some (.aload_n 0, 1, 0, 0) by decide +kernel) rfl
theorem r72_30 : en_R cs 72 d post 30 (a0 :: some (.inl x) :: lo) st f = en_R cs 72 d post 31 (a0 :: some (.inl x) :: lo) (.inl x :: st) f := ru_load1 (show en_cd 72 30 = some (.iload_n 1, 1, 0, 0) by decide +kernel) rfl
theorem r72_31 : en_R cs 72 d post 31 lo (u1 :: .inr (0, i) :: st) f = (st.length ≤ 8 ∧ i < 1 ∧ en_Ev d 60 [.inr (0, i), u1] f (fun r g => en_R cs 72 d post 34 lo (r.toList ++ st) g)) := ru_iv (al := [u1]) (show en_cd 72 31 = some (.invokevirtual 268, 3, 60, 0) by decide +kernel) (by decide +kernel) (show en_np 60 = 1 by decide +kernel) (by decide +kernel) rfl
theorem r72_34 : en_R cs 72 d post 34 lo st f = en_R cs 72 d post 110 lo st f := ru_goto (show en_cd 72 34 = some (.goto 76, 3, 0, 0) by decide +kernel) (by decide +kernel)
theorem r72_37 : en_R cs 72 d post 37 (a0 :: a1 :: a2 :: some (.inl x) :: lo) st f = en_R cs 72 d post 38 (a0 :: a1 :: a2 :: some (.inl x) :: lo) (.inl x :: st) f := ru_load1 (show en_cd 72 37 = some (.iload_n 3, 1, 0, 0) by decide +kernel) rfl
theorem r72_38 : en_R cs 72 d post 38 lo st f = en_R cs 72 d post 39 lo (.inl 3 :: st) f := ru_iconst (show en_cd 72 38 = some (.iconst 3, 1, 0, 0) by decide +kernel) (by decide +kernel)
theorem r72_39 : en_R cs 72 d post 39 lo (.inl b :: .inl a :: st) f = (if a = b then en_R cs 72 d post 42 lo st f else en_R cs 72 d post 70 lo st f) := ru_icne (show en_cd 72 39 = some (.if_icmp .ne 31, 3, 0, 0) by decide +kernel) (by decide +kernel)
theorem r72_42 : en_R cs 72 d post 42 (a0 :: a1 :: some (.inr q) :: lo) st f = en_R cs 72 d post 43 (a0 :: a1 :: some (.inr q) :: lo) (.inr q :: st) f := ru_aload1 (show en_cd 72 42 = some (.aload_n 2, 1, 0, 0) by decide +kernel) rfl
theorem r72_43 : en_R cs 72 d post 43 lo (.inr (3, i) :: st) f = (i < 6 ∧ en_R cs 72 d post 46 lo (.inl (f.1 3 i 9) :: st) f) := ru_getI (show en_cd 72 43 = some (.getfield 271, 3, 3, 9) by decide +kernel) (by decide +kernel) (by decide +kernel) (by decide +kernel)
theorem r72_46 : en_R cs 72 d post 46 lo st f = en_R cs 72 d post 47 lo (.inl 2 :: st) f := ru_iconst (show en_cd 72 46 = some (.iconst 2, 1, 0, 0) by decide +kernel) (by decide +kernel)
theorem r72_47 : en_R cs 72 d post 47 lo (.inl b :: .inl a :: st) f = (if a = b then en_R cs 72 d post 50 lo st f else en_R cs 72 d post 70 lo st f) := ru_icne (show en_cd 72 47 = some (.if_icmp .ne 23, 3, 0, 0) by decide +kernel) (by decide +kernel)
theorem r72_50 : en_R cs 72 d post 50 (some (.inr q) :: lo) st f = en_R cs 72 d post 51 (some (.inr q) :: lo) (.inr q :: st) f := ru_aload1 (show en_cd 72 50 = some (.aload_n 0, 1, 0, 0) by decide +kernel) rfl
theorem r72_51 : en_R cs 72 d post 51 lo (.inr (0, i) :: st) f = (i < 1 ∧ en_R cs 72 d post 54 lo (.inr (12, i) :: st) f) := ru_getR (show en_cd 72 51 = some (.getfield 31, 3, 0, 3) by decide +kernel) (by decide +kernel) (by decide +kernel)
theorem r72_54 : en_R cs 72 d post 54 (some (.inr q) :: lo) st f = en_R cs 72 d post 55 (some (.inr q) :: lo) (.inr q :: st) f := ru_aload1 (show en_cd 72 54 = some (.aload_n 0, 1, 0, 0) by decide +kernel) rfl
theorem r72_55 : en_R cs 72 d post 55 lo (.inr (0, i) :: st) f = (i < 1 ∧ en_R cs 72 d post 58 lo (.inl (f.1 0 i 7) :: st) f) := ru_getI (show en_cd 72 55 = some (.getfield 231, 3, 0, 7) by decide +kernel) (by decide +kernel) (by decide +kernel) (by decide +kernel)
theorem r72_58 : en_R cs 72 d post 58 lo st f = en_R cs 72 d post 61 lo (.inl 256 :: st) f := ru_sipush (show en_cd 72 58 = some (.sipush 256, 3, 0, 0) by decide +kernel) (by decide +kernel)
theorem r72_61 : en_R cs 72 d post 61 (a0 :: some (.inl x) :: lo) st f = en_R cs 72 d post 62 (a0 :: some (.inl x) :: lo) (.inl x :: st) f := ru_load1 (show en_cd 72 61 = some (.iload_n 1, 1, 0, 0) by decide +kernel) rfl
theorem r72_62 : en_R cs 72 d post 62 lo (.inl b :: .inl a :: st) f = en_R cs 72 d post 63 lo (.inl (a * b) :: st) f := ru_imul (show en_cd 72 62 = some (.imul, 1, 0, 0) by decide +kernel)
theorem r72_63 : en_R cs 72 d post 63 lo (.inl b :: .inl a :: st) f = en_R cs 72 d post 64 lo (.inl (a + b) :: st) f := ru_iadd (show en_cd 72 63 = some (.iadd, 1, 0, 0) by decide +kernel)
theorem r72_64 : en_R cs 72 d post 64 lo (u1 :: .inr (12, i) :: st) f = (st.length ≤ 8 ∧ i < 1 ∧ en_Ev d 15 [.inr (12, i), u1] f (fun r g => en_R cs 72 d post 67 lo (r.toList ++ st) g)) := ru_iv (al := [u1]) (show en_cd 72 64 = some (.invokevirtual 272, 3, 15, 0) by decide +kernel) (by decide +kernel) (show en_np 15 = 1 by decide +kernel) (by decide +kernel) rfl
theorem r72_67 : en_R cs 72 d post 67 lo st f = en_R cs 72 d post 110 lo st f := ru_goto (show en_cd 72 67 = some (.goto 43, 3, 0, 0) by decide +kernel) (by decide +kernel)
theorem r72_70 : en_R cs 72 d post 70 (a0 :: a1 :: a2 :: some (.inl x) :: lo) st f = en_R cs 72 d post 71 (a0 :: a1 :: a2 :: some (.inl x) :: lo) (.inl x :: st) f := ru_load1 (show en_cd 72 70 = some (.iload_n 3, 1, 0, 0) by decide +kernel) rfl
theorem r72_71 : en_R cs 72 d post 71 lo st f = en_R cs 72 d post 72 lo (.inl 3 :: st) f := ru_iconst (show en_cd 72 71 = some (.iconst 3, 1, 0, 0) by decide +kernel) (by decide +kernel)
theorem r72_72 : en_R cs 72 d post 72 lo (.inl b :: .inl a :: st) f = (if a = b then en_R cs 72 d post 75 lo st f else en_R cs 72 d post 110 lo st f) := ru_icne (show en_cd 72 72 = some (.if_icmp .ne 38, 3, 0, 0) by decide +kernel) (by decide +kernel)
theorem r72_75 : en_R cs 72 d post 75 (a0 :: some (.inl x) :: lo) st f = en_R cs 72 d post 76 (a0 :: some (.inl x) :: lo) (.inl x :: st) f := ru_load1 (show en_cd 72 75 = some (.iload_n 1, 1, 0, 0) by decide +kernel) rfl
theorem r72_76 : en_R cs 72 d post 76 lo st f = en_R cs 72 d post 77 lo (.inl 2 :: st) f := ru_iconst (show en_cd 72 76 = some (.iconst 2, 1, 0, 0) by decide +kernel) (by decide +kernel)
theorem r72_77 : en_R cs 72 d post 77 lo (.inl b :: .inl a :: st) f = (if b ≤ a then en_R cs 72 d post 110 lo st f else en_R cs 72 d post 80 lo st f) := ru_icge (show en_cd 72 77 = some (.if_icmp .ge 33, 3, 0, 0) by decide +kernel) (by decide +kernel)
theorem r72_80 : en_R cs 72 d post 80 (some (.inr q) :: lo) st f = en_R cs 72 d post 81 (some (.inr q) :: lo) (.inr q :: st) f := ru_aload1 (show en_cd 72 80 = some (.aload_n 0, 1, 0, 0) by decide +kernel) rfl
theorem r72_81 : en_R cs 72 d post 81 (a0 :: some (.inl x) :: lo) st f = en_R cs 72 d post 82 (a0 :: some (.inl x) :: lo) (.inl x :: st) f := ru_load1 (show en_cd 72 81 = some (.iload_n 1, 1, 0, 0) by decide +kernel) rfl
theorem r72_82 : en_R cs 72 d post 82 lo (u1 :: st) f = (st.length ≤ 8 ∧ en_Ev d 51 [u1] f (fun r g => en_R cs 72 d post 85 lo (r.toList ++ st) g)) := ru_is (al := [u1]) (show en_cd 72 82 = some (.invokestatic 80, 3, 51, 0) by decide +kernel) (by decide +kernel) (show en_np 51 = 1 by decide +kernel) rfl
theorem r72_85 : en_R cs 72 d post 85 (some (.inr q) :: lo) st f = en_R cs 72 d post 86 (some (.inr q) :: lo) (.inr q :: st) f := ru_aload1 (show en_cd 72 85 = some (.aload_n 0, 1, 0, 0) by decide +kernel) rfl
theorem r72_86 : en_R cs 72 d post 86 lo (.inr (0, i) :: st) f = (i < 1 ∧ en_R cs 72 d post 89 lo (.inl (f.1 0 i 7) :: st) f) := ru_getI (show en_cd 72 86 = some (.getfield 231, 3, 0, 7) by decide +kernel) (by decide +kernel) (by decide +kernel) (by decide +kernel)
theorem r72_89 : en_R cs 72 d post 89 lo st f = en_R cs 72 d post 90 lo (.inl 3 :: st) f := ru_iconst (show en_cd 72 89 = some (.iconst 3, 1, 0, 0) by decide +kernel) (by decide +kernel)
theorem r72_90 : en_R cs 72 d post 90 lo (.inl b :: .inl a :: st) f = en_R cs 72 d post 91 lo (.inl (a &&& b) :: st) f := ru_iand (show en_cd 72 90 = some (.iand, 1, 0, 0) by decide +kernel)
theorem r72_91 : en_R cs 72 d post 91 lo (u2 :: u1 :: .inr (0, i) :: st) f = (st.length ≤ 8 ∧ i < 1 ∧ en_Ev d 57 [.inr (0, i), u1, u2] f (fun r g => en_R cs 72 d post 94 lo (r.toList ++ st) g)) := ru_iv (al := [u1, u2]) (show en_cd 72 91 = some (.invokevirtual 159, 3, 57, 0) by decide +kernel) (by decide +kernel) (show en_np 57 = 2 by decide +kernel) (by decide +kernel) rfl
theorem r72_94 : en_R cs 72 d post 94 (some (.inr q) :: lo) st f = en_R cs 72 d post 95 (some (.inr q) :: lo) (.inr q :: st) f := ru_aload1 (show en_cd 72 94 = some (.aload_n 0, 1, 0, 0) by decide +kernel) rfl
theorem r72_95 : en_R cs 72 d post 95 (a0 :: some (.inl x) :: lo) st f = en_R cs 72 d post 96 (a0 :: some (.inl x) :: lo) (.inl x :: st) f := ru_load1 (show en_cd 72 95 = some (.iload_n 1, 1, 0, 0) by decide +kernel) rfl
theorem r72_96 : en_R cs 72 d post 96 lo (u1 :: st) f = (st.length ≤ 8 ∧ en_Ev d 51 [u1] f (fun r g => en_R cs 72 d post 99 lo (r.toList ++ st) g)) := ru_is (al := [u1]) (show en_cd 72 96 = some (.invokestatic 80, 3, 51, 0) by decide +kernel) (by decide +kernel) (show en_np 51 = 1 by decide +kernel) rfl
theorem r72_99 : en_R cs 72 d post 99 lo st f = en_R cs 72 d post 100 lo (.inl 1 :: st) f := ru_iconst (show en_cd 72 99 = some (.iconst 1, 1, 0, 0) by decide +kernel) (by decide +kernel)
theorem r72_100 : en_R cs 72 d post 100 lo (.inl b :: .inl a :: st) f = en_R cs 72 d post 101 lo (.inl (a + b) :: st) f := ru_iadd (show en_cd 72 100 = some (.iadd, 1, 0, 0) by decide +kernel)
theorem r72_101 : en_R cs 72 d post 101 (some (.inr q) :: lo) st f = en_R cs 72 d post 102 (some (.inr q) :: lo) (.inr q :: st) f := ru_aload1 (show en_cd 72 101 = some (.aload_n 0, 1, 0, 0) by decide +kernel) rfl
theorem r72_102 : en_R cs 72 d post 102 lo (.inr (0, i) :: st) f = (i < 1 ∧ en_R cs 72 d post 105 lo (.inl (f.1 0 i 7) :: st) f) := ru_getI (show en_cd 72 102 = some (.getfield 231, 3, 0, 7) by decide +kernel) (by decide +kernel) (by decide +kernel) (by decide +kernel)
theorem r72_105 : en_R cs 72 d post 105 lo st f = en_R cs 72 d post 106 lo (.inl 2 :: st) f := ru_iconst (show en_cd 72 105 = some (.iconst 2, 1, 0, 0) by decide +kernel) (by decide +kernel)
theorem r72_106 : en_R cs 72 d post 106 lo (.inl b :: .inl a :: st) f = en_R cs 72 d post 107 lo (.inl (a >>> (b &&& 31)) :: st) f := ru_ishr (show en_cd 72 106 = some (.ishr, 1, 0, 0) by decide +kernel)
theorem r72_107 : en_R cs 72 d post 107 lo (u2 :: u1 :: .inr (0, i) :: st) f = (st.length ≤ 8 ∧ i < 1 ∧ en_Ev d 57 [.inr (0, i), u1, u2] f (fun r g => en_R cs 72 d post 110 lo (r.toList ++ st) g)) := ru_iv (al := [u1, u2]) (show en_cd 72 107 = some (.invokevirtual 159, 3, 57, 0) by decide +kernel) (by decide +kernel) (show en_np 57 = 2 by decide +kernel) (by decide +kernel) rfl
theorem r72_110 : en_R cs 72 d post 110 lo [] f = post none f := ru_vre (show en_cd 72 110 = some (.return_, 1, 0, 0) by decide +kernel) (by decide +kernel)
theorem r73_0 : en_R cs 73 d post 0 lo st f = en_R cs 73 d post 1 lo (.inl 0 :: st) f := ru_iconst (show en_cd 73 0 = some (.iconst 0, 1, 0, 0) by decide +kernel) (by decide +kernel)
theorem r73_1 : en_R cs 73 d post 1 (a0 :: a1 :: a2 :: lo) (.inl x :: st) f = en_R cs 73 d post 2 (a0 :: a1 :: some (.inl x) :: lo) st f := ru_istore1 (show en_cd 73 1 = some (.istore_n 2, 1, 0, 0) by decide +kernel) (Nat.lt_of_lt_of_le (by decide : 2 < 3) (Nat.le_add_left 3 lo.length))
theorem r73_2 : en_R cs 73 d post 2 (a0 :: some (.inl x) :: lo) st f = en_R cs 73 d post 3 (a0 :: some (.inl x) :: lo) (.inl x :: st) f := ru_load1 (show en_cd 73 2 = some (.iload_n 1, 1, 0, 0) by decide +kernel) rfl
theorem r73_3 : en_R cs 73 d post 3 (a0 :: a1 :: some (.inl x) :: lo) st f = en_R cs 73 d post 4 (a0 :: a1 :: some (.inl x) :: lo) (.inl x :: st) f := ru_load1 (show en_cd 73 3 = some (.iload_n 2, 1, 0, 0) by decide +kernel) rfl
theorem r73_4 : en_R cs 73 d post 4 lo (.inl b :: .inl a :: st) f = en_R cs 73 d post 5 lo (.inl (a - b) :: st) f := ru_isub (show en_cd 73 4 = some (.isub, 1, 0, 0) by decide +kernel)
theorem r73_5 : en_R cs 73 d post 5 lo st f = en_R cs 73 d post 7 lo (.inl 10 :: st) f := ru_bipush (show en_cd 73 5 = some (.bipush 10, 2, 0, 0) by decide +kernel) (by decide +kernel)
theorem r73_7 : en_R cs 73 d post 7 lo (.inl b :: .inl a :: st) f = (if a < b then en_R cs 73 d post 32 lo st f else en_R cs 73 d post 10 lo st f) := ru_iclt (show en_cd 73 7 = some (.if_icmp .lt 25, 3, 0, 0) by decide +kernel) (by decide +kernel)
theorem r73_10 : en_R cs 73 d post 10 (some (.inr q) :: lo) st f = en_R cs 73 d post 11 (some (.inr q) :: lo) (.inr q :: st) f := ru_aload1 (show en_cd 73 10 = some (.aload_n 0, 1, 0, 0) by decide +kernel) rfl
theorem r73_11 : en_R cs 73 d post 11 lo (.inr (0, i) :: st) f = (st.length ≤ 8 ∧ i < 1 ∧ en_Ev d 74 [.inr (0, i)] f (fun r g => en_R cs 73 d post 14 lo (r.toList ++ st) g)) := ru_iv (al := []) (show en_cd 73 11 = some (.invokevirtual 275, 3, 74, 0) by decide +kernel) (by decide +kernel) (show en_np 74 = 0 by decide +kernel) (by decide +kernel) rfl
theorem r73_14 : en_R cs 73 d post 14 (a0 :: a1 :: a2 :: a3 :: lo) (.inl x :: st) f = en_R cs 73 d post 15 (a0 :: a1 :: a2 :: some (.inl x) :: lo) st f := ru_istore1 (show en_cd 73 14 = some (.istore_n 3, 1, 0, 0) by decide +kernel) (Nat.lt_of_lt_of_le (by decide : 3 < 4) (Nat.le_add_left 4 lo.length))
theorem r73_15 : en_R cs 73 d post 15 (a0 :: a1 :: a2 :: some (.inl x) :: lo) st f = en_R cs 73 d post 16 (a0 :: a1 :: a2 :: some (.inl x) :: lo) (.inl x :: st) f := ru_load1 (show en_cd 73 15 = some (.iload_n 3, 1, 0, 0) by decide +kernel) rfl
theorem r73_16 : en_R cs 73 d post 16 lo (.inl a :: st) f = (if 0 ≤ a then en_R cs 73 d post 21 lo st f else en_R cs 73 d post 19 lo st f) := ru_ifge (show en_cd 73 16 = some (.ifCond .ge 5, 3, 0, 0) by decide +kernel) (by decide +kernel)
theorem r73_19 : en_R cs 73 d post 19 (a0 :: a1 :: some (.inl x) :: lo) st f = en_R cs 73 d post 20 (a0 :: a1 :: some (.inl x) :: lo) (.inl x :: st) f := ru_load1 (show en_cd 73 19 = some (.iload_n 2, 1, 0, 0) by decide +kernel) rfl
theorem r73_20 : en_R cs 73 d post 20 lo ([.inl x]) f = post (some (.inl x)) f := ru_ire1 (show en_cd 73 20 = some (.ireturn, 1, 0, 0) by decide +kernel) (by decide +kernel)
theorem r73_21 : en_R cs 73 d post 21 (some (.inr q) :: lo) st f = en_R cs 73 d post 22 (some (.inr q) :: lo) (.inr q :: st) f := ru_aload1 (show en_cd 73 21 = some (.aload_n 0, 1, 0, 0) by decide +kernel) rfl
theorem r73_22 : en_R cs 73 d post 22 (a0 :: a1 :: a2 :: some (.inl x) :: lo) st f = en_R cs 73 d post 23 (a0 :: a1 :: a2 :: some (.inl x) :: lo) (.inl x :: st) f := ru_load1 (show en_cd 73 22 = some (.iload_n 3, 1, 0, 0) by decide +kernel) rfl
theorem r73_23 : en_R cs 73 d post 23 lo (u1 :: .inr (0, i) :: st) f = (st.length ≤ 8 ∧ i < 1 ∧ en_Ev d 77 [.inr (0, i), u1] f (fun r g => en_R cs 73 d post 26 lo (r.toList ++ st) g)) := ru_iv (al := [u1]) (show en_cd 73 23 = some (.invokevirtual 278, 3, 77, 0) by decide +kernel) (by decide +kernel) (show en_np 77 = 1 by decide +kernel) (by decide +kernel) rfl
theorem r73_26 : en_R cs 73 d post 26 (a0 :: a1 :: some (.inl x) :: lo) st f = en_R cs 73 d post 29 (a0 :: a1 :: some (.inl (x + 10)) :: lo) st f := ru_iinc (show en_cd 73 26 = some (.iinc 2 10, 3, 0, 0) by decide +kernel) (by decide +kernel) rfl
theorem r73_29 : en_R cs 73 d post 29 lo st f = en_R cs 73 d post 2 lo st f := ru_goto (show en_cd 73 29 = some (.goto (-27), 3, 0, 0) by decide +kernel) (by decide +kernel)
theorem r73_32 : en_R cs 73 d post 32 (a0 :: a1 :: some (.inl x) :: lo) st f = en_R cs 73 d post 33 (a0 :: a1 :: some (.inl x) :: lo) (.inl x :: st) f := ru_load1 (show en_cd 73 32 = some (.iload_n 2, 1, 0, 0) by decide +kernel) rfl
theorem r73_33 : en_R cs 73 d post 33 lo ([.inl x]) f = post (some (.inl x)) f := ru_ire1 (show en_cd 73 33 = some (.ireturn, 1, 0, 0) by decide +kernel) (by decide +kernel)
theorem r74_0 : en_R cs 74 d post 0 lo st f = en_R cs 74 d post 1 lo (.inl 0 :: st) f := ru_iconst (show en_cd 74 0 = some (.iconst 0, 1, 0, 0) by decide +kernel) (by decide +kernel)
theorem r74_1 : en_R cs 74 d post 1 (a0 :: a1 :: lo) (.inl x :: st) f = en_R cs 74 d post 2 (a0 :: some (.inl x) :: lo) st f := ru_istore1 (show en_cd 74 1 = some (.istore_n 1, 1, 0, 0) by decide +kernel) (Nat.lt_of_lt_of_le (by decide : 1 < 2) (Nat.le_add_left 2 lo.length))
theorem r74_2 : en_R cs 74 d post 2 (a0 :: some (.inl x) :: lo) st f = en_R cs 74 d post 3 (a0 :: some (.inl x) :: lo) (.inl x :: st) f := ru_load1 (show en_cd 74 2 = some (.iload_n 1, 1, 0, 0) by decide +kernel) rfl
theorem r74_3 : en_R cs 74 d post 3 lo st f = en_R cs 74 d post 5 lo (.inl 6 :: st) f := ru_bipush (show en_cd 74 3 = some (.bipush 6, 2, 0, 0) by decide +kernel) (by decide +kernel)
theorem r74_5 : en_R cs 74 d post 5 lo (.inl b :: .inl a :: st) f = (if b ≤ a then en_R cs 74 d post 29 lo st f else en_R cs 74 d post 8 lo st f) := ru_icge (show en_cd 74 5 = some (.if_icmp .ge 24, 3, 0, 0) by decide +kernel) (by decide +kernel)
theorem r74_8 : en_R cs 74 d post 8 (some (.inr q) :: lo) st f = en_R cs 74 d post 9 (some (.inr q) :: lo) (.inr q :: st) f := ru_aload1 (show en_cd 74 8 = some (.aload_n 0, 1, 0, 0) by decide +kernel) rfl
theorem r74_9 : en_R cs 74 d post 9 lo (.inr (0, i) :: st) f = (i < 1 ∧ en_R cs 74 d post 12 lo (.inr (1, i) :: st) f) := ru_getR (show en_cd 74 9 = some (.getfield 11, 3, 0, 0) by decide +kernel) (by decide +kernel) (by decide +kernel)
theorem r74_12 : en_R cs 74 d post 12 (a0 :: some (.inl x) :: lo) st f = en_R cs 74 d post 13 (a0 :: some (.inl x) :: lo) (.inl x :: st) f := ru_load1 (show en_cd 74 12 = some (.iload_n 1, 1, 0, 0) by decide +kernel) rfl
theorem r74_13 : en_R cs 74 d post 13 lo (.inl x :: .inr (1, i) :: st) f = (i < 1 ∧ en_inr x 6 = true ∧ en_R cs 74 d post 14 lo (.inr (3, x.toNatClampNeg) :: st) f) := ru_aald (show en_cd 74 13 = some (.aaload, 1, 0, 0) by decide +kernel) (by decide +kernel) (by decide +kernel) (by decide +kernel) (by decide +kernel)
theorem r74_14 : en_R cs 74 d post 14 lo (.inr (3, i) :: st) f = (i < 6 ∧ en_R cs 74 d post 17 lo (.inl (f.1 3 i 3) :: st) f) := ru_getI (show en_cd 74 14 = some (.getfield 117, 3, 3, 3) by decide +kernel) (by decide +kernel) (by decide +kernel) (by decide +kernel)
theorem r74_17 : en_R cs 74 d post 17 lo st f = en_R cs 74 d post 18 lo (.inl 2 :: st) f := ru_iconst (show en_cd 74 17 = some (.iconst 2, 1, 0, 0) by decide +kernel) (by decide +kernel)
theorem r74_18 : en_R cs 74 d post 18 lo (.inl b :: .inl a :: st) f = (if a = b then en_R cs 74 d post 21 lo st f else en_R cs 74 d post 23 lo st f) := ru_icne (show en_cd 74 18 = some (.if_icmp .ne 5, 3, 0, 0) by decide +kernel) (by decide +kernel)
theorem r74_21 : en_R cs 74 d post 21 (a0 :: some (.inl x) :: lo) st f = en_R cs 74 d post 22 (a0 :: some (.inl x) :: lo) (.inl x :: st) f := ru_load1 (show en_cd 74 21 = some (.iload_n 1, 1, 0, 0) by decide +kernel) rfl
theorem r74_22 : en_R cs 74 d post 22 lo ([.inl x]) f = post (some (.inl x)) f := ru_ire1 (show en_cd 74 22 = some (.ireturn, 1, 0, 0) by decide +kernel) (by decide +kernel)
theorem r74_23 : en_R cs 74 d post 23 (a0 :: some (.inl x) :: lo) st f = en_R cs 74 d post 26 (a0 :: some (.inl (x + 1)) :: lo) st f := ru_iinc (show en_cd 74 23 = some (.iinc 1 1, 3, 0, 0) by decide +kernel) (by decide +kernel) rfl
theorem r74_26 : en_R cs 74 d post 26 lo st f = en_R cs 74 d post 2 lo st f := ru_goto (show en_cd 74 26 = some (.goto (-24), 3, 0, 0) by decide +kernel) (by decide +kernel)
theorem r74_29 : en_R cs 74 d post 29 lo st f = en_R cs 74 d post 30 lo (.inl 0 :: st) f := ru_iconst (show en_cd 74 29 = some (.iconst 0, 1, 0, 0) by decide +kernel) (by decide +kernel)
theorem r74_30 : en_R cs 74 d post 30 (a0 :: a1 :: lo) (.inl x :: st) f = en_R cs 74 d post 31 (a0 :: some (.inl x) :: lo) st f := ru_istore1 (show en_cd 74 30 = some (.istore_n 1, 1, 0, 0) by decide +kernel) (Nat.lt_of_lt_of_le (by decide : 1 < 2) (Nat.le_add_left 2 lo.length))
theorem r74_31 : en_R cs 74 d post 31 (a0 :: some (.inl x) :: lo) st f = en_R cs 74 d post 32 (a0 :: some (.inl x) :: lo) (.inl x :: st) f := ru_load1 (show en_cd 74 31 = some (.iload_n 1, 1, 0, 0) by decide +kernel) rfl
theorem r74_32 : en_R cs 74 d post 32 lo st f = en_R cs 74 d post 34 lo (.inl 6 :: st) f := ru_bipush (show en_cd 74 32 = some (.bipush 6, 2, 0, 0) by decide +kernel) (by decide +kernel)
theorem r74_34 : en_R cs 74 d post 34 lo (.inl b :: .inl a :: st) f = (if b ≤ a then en_R cs 74 d post 71 lo st f else en_R cs 74 d post 37 lo st f) := ru_icge (show en_cd 74 34 = some (.if_icmp .ge 37, 3, 0, 0) by decide +kernel) (by decide +kernel)
theorem r74_37 : en_R cs 74 d post 37 (some (.inr q) :: lo) st f = en_R cs 74 d post 38 (some (.inr q) :: lo) (.inr q :: st) f := ru_aload1 (show en_cd 74 37 = some (.aload_n 0, 1, 0, 0) by decide +kernel) rfl
theorem r74_38 : en_R cs 74 d post 38 lo (.inr (0, i) :: st) f = (i < 1 ∧ en_R cs 74 d post 41 lo (.inr (1, i) :: st) f) := ru_getR (show en_cd 74 38 = some (.getfield 11, 3, 0, 0) by decide +kernel) (by decide +kernel) (by decide +kernel)
theorem r74_41 : en_R cs 74 d post 41 (a0 :: some (.inl x) :: lo) st f = en_R cs 74 d post 42 (a0 :: some (.inl x) :: lo) (.inl x :: st) f := ru_load1 (show en_cd 74 41 = some (.iload_n 1, 1, 0, 0) by decide +kernel) rfl
theorem r74_42 : en_R cs 74 d post 42 lo (.inl x :: .inr (1, i) :: st) f = (i < 1 ∧ en_inr x 6 = true ∧ en_R cs 74 d post 43 lo (.inr (3, x.toNatClampNeg) :: st) f) := ru_aald (show en_cd 74 42 = some (.aaload, 1, 0, 0) by decide +kernel) (by decide +kernel) (by decide +kernel) (by decide +kernel) (by decide +kernel)
theorem r74_43 : en_R cs 74 d post 43 lo (.inr (3, i) :: st) f = (i < 6 ∧ en_R cs 74 d post 46 lo (.inl (f.1 3 i 3) :: st) f) := ru_getI (show en_cd 74 43 = some (.getfield 117, 3, 3, 3) by decide +kernel) (by decide +kernel) (by decide +kernel) (by decide +kernel)
theorem r74_46 : en_R cs 74 d post 46 lo st f = en_R cs 74 d post 47 lo (.inl 1 :: st) f := ru_iconst (show en_cd 74 46 = some (.iconst 1, 1, 0, 0) by decide +kernel) (by decide +kernel)
theorem r74_47 : en_R cs 74 d post 47 lo (.inl b :: .inl a :: st) f = (if a = b then en_R cs 74 d post 50 lo st f else en_R cs 74 d post 65 lo st f) := ru_icne (show en_cd 74 47 = some (.if_icmp .ne 18, 3, 0, 0) by decide +kernel) (by decide +kernel)
theorem r74_50 : en_R cs 74 d post 50 (some (.inr q) :: lo) st f = en_R cs 74 d post 51 (some (.inr q) :: lo) (.inr q :: st) f := ru_aload1 (show en_cd 74 50 = some (.aload_n 0, 1, 0, 0) by decide +kernel) rfl
theorem r74_51 : en_R cs 74 d post 51 (some (.inr q) :: lo) st f = en_R cs 74 d post 52 (some (.inr q) :: lo) (.inr q :: st) f := ru_aload1 (show en_cd 74 51 = some (.aload_n 0, 1, 0, 0) by decide +kernel) rfl
theorem r74_52 : en_R cs 74 d post 52 lo (.inr (0, i) :: st) f = (i < 1 ∧ en_R cs 74 d post 55 lo (.inr (1, i) :: st) f) := ru_getR (show en_cd 74 52 = some (.getfield 11, 3, 0, 0) by decide +kernel) (by decide +kernel) (by decide +kernel)
theorem r74_55 : en_R cs 74 d post 55 (a0 :: some (.inl x) :: lo) st f = en_R cs 74 d post 56 (a0 :: some (.inl x) :: lo) (.inl x :: st) f := ru_load1 (show en_cd 74 55 = some (.iload_n 1, 1, 0, 0) by decide +kernel) rfl
theorem r74_56 : en_R cs 74 d post 56 lo (.inl x :: .inr (1, i) :: st) f = (i < 1 ∧ en_inr x 6 = true ∧ en_R cs 74 d post 57 lo (.inr (3, x.toNatClampNeg) :: st) f) := ru_aald (show en_cd 74 56 = some (.aaload, 1, 0, 0) by decide +kernel) (by decide +kernel) (by decide +kernel) (by decide +kernel) (by decide +kernel)
theorem r74_57 : en_R cs 74 d post 57 lo (u1 :: .inr (0, i) :: st) f = (st.length ≤ 8 ∧ i < 1 ∧ en_Ev d 75 [.inr (0, i), u1] f (fun r g => en_R cs 74 d post 60 lo (r.toList ++ st) g)) := ru_iv (al := [u1]) (show en_cd 74 57 = some (.invokevirtual 281, 3, 75, 0) by decide +kernel) (by decide +kernel) (show en_np 75 = 1 by decide +kernel) (by decide +kernel) rfl
theorem r74_60 : en_R cs 74 d post 60 lo (.inl a :: st) f = (if a = 0 then en_R cs 74 d post 65 lo st f else en_R cs 74 d post 63 lo st f) := ru_ifeq (show en_cd 74 60 = some (.ifCond .eq 5, 3, 0, 0) by decide +kernel) (by decide +kernel)
theorem r74_63 : en_R cs 74 d post 63 (a0 :: some (.inl x) :: lo) st f = en_R cs 74 d post 64 (a0 :: some (.inl x) :: lo) (.inl x :: st) f := ru_load1 (show en_cd 74 63 = some (.iload_n 1, 1, 0, 0) by decide +kernel) rfl
theorem r74_64 : en_R cs 74 d post 64 lo ([.inl x]) f = post (some (.inl x)) f := ru_ire1 (show en_cd 74 64 = some (.ireturn, 1, 0, 0) by decide +kernel) (by decide +kernel)
theorem r74_65 : en_R cs 74 d post 65 (a0 :: some (.inl x) :: lo) st f = en_R cs 74 d post 68 (a0 :: some (.inl (x + 1)) :: lo) st f := ru_iinc (show en_cd 74 65 = some (.iinc 1 1, 3, 0, 0) by decide +kernel) (by decide +kernel) rfl
theorem r74_68 : en_R cs 74 d post 68 lo st f = en_R cs 74 d post 31 lo st f := ru_goto (show en_cd 74 68 = some (.goto (-37), 3, 0, 0) by decide +kernel) (by decide +kernel)
theorem r74_71 : en_R cs 74 d post 71 lo st f = en_R cs 74 d post 72 lo (.inl (-1) :: st) f := ru_iconst (show en_cd 74 71 = some (.iconst (-1), 1, 0, 0) by decide +kernel) (by decide +kernel)
theorem r74_72 : en_R cs 74 d post 72 lo ([.inl x]) f = post (some (.inl x)) f := ru_ire1 (show en_cd 74 72 = some (.ireturn, 1, 0, 0) by decide +kernel) (by decide +kernel)
theorem r75_0 : en_R cs 75 d post 0 lo st f = en_R cs 75 d post 1 lo (.inl 1 :: st) f := ru_iconst (show en_cd 75 0 = some (.iconst 1, 1, 0, 0) by decide +kernel) (by decide +kernel)
theorem r75_1 : en_R cs 75 d post 1 (a0 :: a1 :: a2 :: lo) (.inl x :: st) f = en_R cs 75 d post 2 (a0 :: a1 :: some (.inl x) :: lo) st f := ru_istore1 (show en_cd 75 1 = some (.istore_n 2, 1, 0, 0) by decide +kernel) (Nat.lt_of_lt_of_le (by decide : 2 < 3) (Nat.le_add_left 3 lo.length))
theorem r75_2 : en_R cs 75 d post 2 (a0 :: a1 :: some (.inl x) :: lo) st f = en_R cs 75 d post 3 (a0 :: a1 :: some (.inl x) :: lo) (.inl x :: st) f := ru_load1 (show en_cd 75 2 = some (.iload_n 2, 1, 0, 0) by decide +kernel) rfl
theorem r75_3 : en_R cs 75 d post 3 lo st f = en_R cs 75 d post 4 lo (.inl 4 :: st) f := ru_iconst (show en_cd 75 3 = some (.iconst 4, 1, 0, 0) by decide +kernel) (by decide +kernel)
theorem r75_4 : en_R cs 75 d post 4 lo (.inl b :: .inl a :: st) f = (if b < a then en_R cs 75 d post 28 lo st f else en_R cs 75 d post 7 lo st f) := ru_icgt (show en_cd 75 4 = some (.if_icmp .gt 24, 3, 0, 0) by decide +kernel) (by decide +kernel)
theorem r75_7 : en_R cs 75 d post 7 (some (.inr q) :: lo) st f = en_R cs 75 d post 8 (some (.inr q) :: lo) (.inr q :: st) f := ru_aload1 (show en_cd 75 7 = some (.aload_n 0, 1, 0, 0) by decide +kernel) rfl
theorem r75_8 : en_R cs 75 d post 8 (a0 :: a1 :: some (.inl x) :: lo) st f = en_R cs 75 d post 9 (a0 :: a1 :: some (.inl x) :: lo) (.inl x :: st) f := ru_load1 (show en_cd 75 8 = some (.iload_n 2, 1, 0, 0) by decide +kernel) rfl
theorem r75_9 : en_R cs 75 d post 9 lo (u1 :: .inr (0, i) :: st) f = (st.length ≤ 8 ∧ i < 1 ∧ en_Ev d 76 [.inr (0, i), u1] f (fun r g => en_R cs 75 d post 12 lo (r.toList ++ st) g)) := ru_iv (al := [u1]) (show en_cd 75 9 = some (.invokevirtual 284, 3, 76, 0) by decide +kernel) (by decide +kernel) (show en_np 76 = 1 by decide +kernel) (by decide +kernel) rfl
theorem r75_12 : en_R cs 75 d post 12 lo (.inl a :: st) f = (if a = 0 then en_R cs 75 d post 15 lo st f else en_R cs 75 d post 22 lo st f) := ru_ifne (show en_cd 75 12 = some (.ifCond .ne 10, 3, 0, 0) by decide +kernel) (by decide +kernel)
theorem r75_15 : en_R cs 75 d post 15 (a0 :: some (.inr q) :: lo) st f = en_R cs 75 d post 16 (a0 :: some (.inr q) :: lo) (.inr q :: st) f := ru_aload1 (show en_cd 75 15 = some (.aload_n 1, 1, 0, 0) by decide +kernel) rfl
theorem r75_16 : en_R cs 75 d post 16 (a0 :: a1 :: some (.inl x) :: lo) st f = en_R cs 75 d post 17 (a0 :: a1 :: some (.inl x) :: lo) (.inl x :: st) f := ru_load1 (show en_cd 75 16 = some (.iload_n 2, 1, 0, 0) by decide +kernel) rfl
theorem r75_17 : en_R cs 75 d post 17 lo (u1 :: .inr (3, i) :: st) f = (st.length ≤ 8 ∧ i < 6 ∧ en_Ev d 30 [.inr (3, i), u1] f (fun r g => en_R cs 75 d post 20 lo (r.toList ++ st) g)) := ru_iv (al := [u1]) (show en_cd 75 17 = some (.invokevirtual 287, 3, 30, 0) by decide +kernel) (by decide +kernel) (show en_np 30 = 1 by decide +kernel) (by decide +kernel) rfl
theorem r75_20 : en_R cs 75 d post 20 lo st f = en_R cs 75 d post 21 lo (.inl 1 :: st) f := ru_iconst (show en_cd 75 20 = some (.iconst 1, 1, 0, 0) by decide +kernel) (by decide +kernel)
theorem r75_21 : en_R cs 75 d post 21 lo ([.inl x]) f = (en_isz x = true ∧ post (some (.inl x)) f) := ru_ire2 (show en_cd 75 21 = some (.ireturn, 1, 0, 0) by decide +kernel) (by decide +kernel)
theorem r75_22 : en_R cs 75 d post 22 (a0 :: a1 :: some (.inl x) :: lo) st f = en_R cs 75 d post 25 (a0 :: a1 :: some (.inl (x + 1)) :: lo) st f := ru_iinc (show en_cd 75 22 = some (.iinc 2 1, 3, 0, 0) by decide +kernel) (by decide +kernel) rfl
theorem r75_25 : en_R cs 75 d post 25 lo st f = en_R cs 75 d post 2 lo st f := ru_goto (show en_cd 75 25 = some (.goto (-23), 3, 0, 0) by decide +kernel) (by decide +kernel)
theorem r75_28 : en_R cs 75 d post 28 (a0 :: some (.inr q) :: lo) st f = en_R cs 75 d post 29 (a0 :: some (.inr q) :: lo) (.inr q :: st) f := ru_aload1 (show en_cd 75 28 = some (.aload_n 1, 1, 0, 0) by decide +kernel) rfl
theorem r75_29 : en_R cs 75 d post 29 lo st f = en_R cs 75 d post 31 lo (.inl 6 :: st) f := ru_bipush (show en_cd 75 29 = some (.bipush 6, 2, 0, 0) by decide +kernel) (by decide +kernel)
theorem r75_31 : en_R cs 75 d post 31 lo (u1 :: .inr (3, i) :: st) f = (st.length ≤ 8 ∧ i < 6 ∧ en_Ev d 29 [.inr (3, i), u1] f (fun r g => en_R cs 75 d post 34 lo (r.toList ++ st) g)) := ru_iv (al := [u1]) (show en_cd 75 31 = some (.invokevirtual 171, 3, 29, 0) by decide +kernel) (by decide +kernel) (show en_np 29 = 1 by decide +kernel) (by decide +kernel) rfl
theorem r75_34 : en_R cs 75 d post 34 lo st f = en_R cs 75 d post 35 lo (.inl 0 :: st) f := ru_iconst (show en_cd 75 34 = some (.iconst 0, 1, 0, 0) by decide +kernel) (by decide +kernel)
theorem r75_35 : en_R cs 75 d post 35 lo ([.inl x]) f = (en_isz x = true ∧ post (some (.inl x)) f) := ru_ire2 (show en_cd 75 35 = some (.ireturn, 1, 0, 0) by decide +kernel) (by decide +kernel)
theorem r76_0 : en_R cs 76 d post 0 lo st f = en_R cs 76 d post 1 lo (.inl 0 :: st) f := ru_iconst (show en_cd 76 0 = some (.iconst 0, 1, 0, 0) by decide +kernel) (by decide +kernel)
theorem r76_1 : en_R cs 76 d post 1 (a0 :: a1 :: a2 :: lo) (.inl x :: st) f = en_R cs 76 d post 2 (a0 :: a1 :: some (.inl x) :: lo) st f := ru_istore1 (show en_cd 76 1 = some (.istore_n 2, 1, 0, 0) by decide +kernel) (Nat.lt_of_lt_of_le (by decide : 2 < 3) (Nat.le_add_left 3 lo.length))
theorem r76_2 : en_R cs 76 d post 2 (a0 :: a1 :: some (.inl x) :: lo) st f = en_R cs 76 d post 3 (a0 :: a1 :: some (.inl x) :: lo) (.inl x :: st) f := ru_load1 (show en_cd 76 2 = some (.iload_n 2, 1, 0, 0) by decide +kernel) rfl
theorem r76_3 : en_R cs 76 d post 3 lo st f = en_R cs 76 d post 5 lo (.inl 6 :: st) f := ru_bipush (show en_cd 76 3 = some (.bipush 6, 2, 0, 0) by decide +kernel) (by decide +kernel)
theorem r76_5 : en_R cs 76 d post 5 lo (.inl b :: .inl a :: st) f = (if b ≤ a then en_R cs 76 d post 29 lo st f else en_R cs 76 d post 8 lo st f) := ru_icge (show en_cd 76 5 = some (.if_icmp .ge 24, 3, 0, 0) by decide +kernel) (by decide +kernel)
theorem r76_8 : en_R cs 76 d post 8 (some (.inr q) :: lo) st f = en_R cs 76 d post 9 (some (.inr q) :: lo) (.inr q :: st) f := ru_aload1 (show en_cd 76 8 = some (.aload_n 0, 1, 0, 0) by decide +kernel) rfl
theorem r76_9 : en_R cs 76 d post 9 lo (.inr (0, i) :: st) f = (i < 1 ∧ en_R cs 76 d post 12 lo (.inr (1, i) :: st) f) := ru_getR (show en_cd 76 9 = some (.getfield 11, 3, 0, 0) by decide +kernel) (by decide +kernel) (by decide +kernel)
theorem r76_12 : en_R cs 76 d post 12 (a0 :: a1 :: some (.inl x) :: lo) st f = en_R cs 76 d post 13 (a0 :: a1 :: some (.inl x) :: lo) (.inl x :: st) f := ru_load1 (show en_cd 76 12 = some (.iload_n 2, 1, 0, 0) by decide +kernel) rfl
theorem r76_13 : en_R cs 76 d post 13 lo (.inl x :: .inr (1, i) :: st) f = (i < 1 ∧ en_inr x 6 = true ∧ en_R cs 76 d post 14 lo (.inr (3, x.toNatClampNeg) :: st) f) := ru_aald (show en_cd 76 13 = some (.aaload, 1, 0, 0) by decide +kernel) (by decide +kernel) (by decide +kernel) (by decide +kernel) (by decide +kernel)
theorem r76_14 : en_R cs 76 d post 14 lo (.inr (3, i) :: st) f = (i < 6 ∧ en_R cs 76 d post 17 lo (.inl (f.1 3 i 4) :: st) f) := ru_getI (show en_cd 76 14 = some (.getfield 120, 3, 3, 4) by decide +kernel) (by decide +kernel) (by decide +kernel) (by decide +kernel)
theorem r76_17 : en_R cs 76 d post 17 (a0 :: some (.inl x) :: lo) st f = en_R cs 76 d post 18 (a0 :: some (.inl x) :: lo) (.inl x :: st) f := ru_load1 (show en_cd 76 17 = some (.iload_n 1, 1, 0, 0) by decide +kernel) rfl
theorem r76_18 : en_R cs 76 d post 18 lo (.inl b :: .inl a :: st) f = (if a = b then en_R cs 76 d post 21 lo st f else en_R cs 76 d post 23 lo st f) := ru_icne (show en_cd 76 18 = some (.if_icmp .ne 5, 3, 0, 0) by decide +kernel) (by decide +kernel)
theorem r76_21 : en_R cs 76 d post 21 lo st f = en_R cs 76 d post 22 lo (.inl 1 :: st) f := ru_iconst (show en_cd 76 21 = some (.iconst 1, 1, 0, 0) by decide +kernel) (by decide +kernel)
theorem r76_22 : en_R cs 76 d post 22 lo ([.inl x]) f = (en_isz x = true ∧ post (some (.inl x)) f) := ru_ire2 (show en_cd 76 22 = some (.ireturn, 1, 0, 0) by decide +kernel) (by decide +kernel)
theorem r76_23 : en_R cs 76 d post 23 (a0 :: a1 :: some (.inl x) :: lo) st f = en_R cs 76 d post 26 (a0 :: a1 :: some (.inl (x + 1)) :: lo) st f := ru_iinc (show en_cd 76 23 = some (.iinc 2 1, 3, 0, 0) by decide +kernel) (by decide +kernel) rfl
theorem r76_26 : en_R cs 76 d post 26 lo st f = en_R cs 76 d post 2 lo st f := ru_goto (show en_cd 76 26 = some (.goto (-24), 3, 0, 0) by decide +kernel) (by decide +kernel)
theorem r76_29 : en_R cs 76 d post 29 lo st f = en_R cs 76 d post 30 lo (.inl 0 :: st) f := ru_iconst (show en_cd 76 29 = some (.iconst 0, 1, 0, 0) by decide +kernel) (by decide +kernel)
theorem r76_30 : en_R cs 76 d post 30 lo ([.inl x]) f = (en_isz x = true ∧ post (some (.inl x)) f) := ru_ire2 (show en_cd 76 30 = some (.ireturn, 1, 0, 0) by decide +kernel) (by decide +kernel)
theorem r77_0 : en_R cs 77 d post 0 (some (.inr q) :: lo) st f = en_R cs 77 d post 1 (some (.inr q) :: lo) (.inr q :: st) f := ru_aload1 (show en_cd 77 0 = some (.aload_n 0, 1, 0, 0) by decide +kernel) rfl
theorem r77_1 : en_R cs 77 d post 1 lo (.inr (0, i) :: st) f = (i < 1 ∧ en_R cs 77 d post 4 lo (.inr (1, i) :: st) f) := ru_getR (show en_cd 77 1 = some (.getfield 11, 3, 0, 0) by decide +kernel) (by decide +kernel) (by decide +kernel)
theorem r77_4 : en_R cs 77 d post 4 (a0 :: some (.inl x) :: lo) st f = en_R cs 77 d post 5 (a0 :: some (.inl x) :: lo) (.inl x :: st) f := ru_load1 (show en_cd 77 4 = some (.iload_n 1, 1, 0, 0) by decide +kernel) rfl
theorem r77_5 : en_R cs 77 d post 5 lo (.inl x :: .inr (1, i) :: st) f = (i < 1 ∧ en_inr x 6 = true ∧ en_R cs 77 d post 6 lo (.inr (3, x.toNatClampNeg) :: st) f) := ru_aald (show en_cd 77 5 = some (.aaload, 1, 0, 0) by decide +kernel) (by decide +kernel) (by decide +kernel) (by decide +kernel) (by decide +kernel)
theorem r77_6 : en_R cs 77 d post 6 (a0 :: a1 :: a2 :: lo) (.inr q :: st) f = en_R cs 77 d post 7 (a0 :: a1 :: some (.inr q) :: lo) st f := ru_astore1 (show en_cd 77 6 = some (.astore_n 2, 1, 0, 0) by decide +kernel) (Nat.lt_of_lt_of_le (by decide : 2 < 3) (Nat.le_add_left 3 lo.length))
theorem r77_7 : en_R cs 77 d post 7 (a0 :: a1 :: some (.inr q) :: lo) st f = en_R cs 77 d post 8 (a0 :: a1 :: some (.inr q) :: lo) (.inr q :: st) f := ru_aload1 (show en_cd 77 7 = some (.aload_n 2, 1, 0, 0) by decide +kernel) rfl
theorem r77_8 : en_R cs 77 d post 8 lo (.inr (3, i) :: st) f = (i < 6 ∧ en_R cs 77 d post 11 lo (.inl (f.1 3 i 8) :: st) f) := ru_getI (show en_cd 77 8 = some (.getfield 202, 3, 3, 8) by decide +kernel) (by decide +kernel) (by decide +kernel) (by decide +kernel)
theorem r77_11 : en_R cs 77 d post 11 lo st f = en_R cs 77 d post 12 lo (.inl 2 :: st) f := ru_iconst (show en_cd 77 11 = some (.iconst 2, 1, 0, 0) by decide +kernel) (by decide +kernel)
theorem r77_12 : en_R cs 77 d post 12 lo (.inl b :: .inl a :: st) f = (if b ≤ a then en_R cs 77 d post 19 lo st f else en_R cs 77 d post 15 lo st f) := ru_icge (show en_cd 77 12 = some (.if_icmp .ge 7, 3, 0, 0) by decide +kernel) (by decide +kernel)
theorem r77_15 : en_R cs 77 d post 15 lo st f = en_R cs 77 d post 16 lo (.inl 0 :: st) f := ru_iconst (show en_cd 77 15 = some (.iconst 0, 1, 0, 0) by decide +kernel) (by decide +kernel)
theorem r77_16 : en_R cs 77 d post 16 lo st f = en_R cs 77 d post 23 lo st f := ru_goto (show en_cd 77 16 = some (.goto 7, 3, 0, 0) by decide +kernel) (by decide +kernel)
theorem r77_19 : en_R cs 77 d post 19 (a0 :: a1 :: some (.inr q) :: lo) st f = en_R cs 77 d post 20 (a0 :: a1 :: some (.inr q) :: lo) (.inr q :: st) f := ru_aload1 (show en_cd 77 19 = some (.aload_n 2, 1, 0, 0) by decide +kernel) rfl
theorem r77_20 : en_R cs 77 d post 20 lo (.inr (3, i) :: st) f = (i < 6 ∧ en_R cs 77 d post 23 lo (.inl (f.1 3 i 4) :: st) f) := ru_getI (show en_cd 77 20 = some (.getfield 120, 3, 3, 4) by decide +kernel) (by decide +kernel) (by decide +kernel) (by decide +kernel)
theorem r77_23 : en_R cs 77 d post 23 (a0 :: a1 :: a2 :: a3 :: lo) (.inl x :: st) f = en_R cs 77 d post 24 (a0 :: a1 :: a2 :: some (.inl x) :: lo) st f := ru_istore1 (show en_cd 77 23 = some (.istore_n 3, 1, 0, 0) by decide +kernel) (Nat.lt_of_lt_of_le (by decide : 3 < 4) (Nat.le_add_left 4 lo.length))
theorem r77_24 : en_R cs 77 d post 24 (a0 :: a1 :: some (.inr q) :: lo) st f = en_R cs 77 d post 25 (a0 :: a1 :: some (.inr q) :: lo) (.inr q :: st) f := ru_aload1 (show en_cd 77 24 = some (.aload_n 2, 1, 0, 0) by decide +kernel) rfl
theorem r77_25 : en_R cs 77 d post 25 lo (.inr (3, i) :: st) f = (i < 6 ∧ en_R cs 77 d post 28 lo (.inl (f.1 3 i 8) :: st) f) := ru_getI (show en_cd 77 25 = some (.getfield 202, 3, 3, 8) by decide +kernel) (by decide +kernel) (by decide +kernel) (by decide +kernel)
theorem r77_28 : en_R cs 77 d post 28 lo st f = en_R cs 77 d post 29 lo (.inl 2 :: st) f := ru_iconst (show en_cd 77 28 = some (.iconst 2, 1, 0, 0) by decide +kernel) (by decide +kernel)
theorem r77_29 : en_R cs 77 d post 29 lo (.inl b :: .inl a :: st) f = (¬ b = 0 ∧ en_R cs 77 d post 30 lo (.inl (a - a / b * b) :: st) f) := ru_irem (show en_cd 77 29 = some (.irem, 1, 0, 0) by decide +kernel)
theorem r77_30 : en_R cs 77 d post 30 lo (.inl a :: st) f = (if a = 0 then en_R cs 77 d post 33 lo st f else en_R cs 77 d post 37 lo st f) := ru_ifne (show en_cd 77 30 = some (.ifCond .ne 7, 3, 0, 0) by decide +kernel) (by decide +kernel)
theorem r77_33 : en_R cs 77 d post 33 lo st f = en_R cs 77 d post 34 lo (.inl 1 :: st) f := ru_iconst (show en_cd 77 33 = some (.iconst 1, 1, 0, 0) by decide +kernel) (by decide +kernel)
theorem r77_34 : en_R cs 77 d post 34 lo st f = en_R cs 77 d post 38 lo st f := ru_goto (show en_cd 77 34 = some (.goto 4, 3, 0, 0) by decide +kernel) (by decide +kernel)
theorem r77_37 : en_R cs 77 d post 37 lo st f = en_R cs 77 d post 38 lo (.inl 0 :: st) f := ru_iconst (show en_cd 77 37 = some (.iconst 0, 1, 0, 0) by decide +kernel) (by decide +kernel)
theorem r77_38 : en_R cs 77 d post 38 (a0 :: a1 :: a2 :: a3 :: a4 :: lo) (.inl x :: st) f = en_R cs 77 d post 40 (a0 :: a1 :: a2 :: a3 :: some (.inl x) :: lo) st f := ru_istore2 (show en_cd 77 38 = some (.istore 4, 2, 0, 0) by decide +kernel) (Nat.lt_of_lt_of_le (by decide : 4 < 5) (Nat.le_add_left 5 lo.length))
theorem r77_40 : en_R cs 77 d post 40 (a0 :: a1 :: a2 :: a3 :: some (.inl x) :: lo) st f = en_R cs 77 d post 42 (a0 :: a1 :: a2 :: a3 :: some (.inl x) :: lo) (.inl x :: st) f := ru_load2 (show en_cd 77 40 = some (.iload 4, 2, 0, 0) by decide +kernel) rfl
theorem r77_42 : en_R cs 77 d post 42 lo (.inl a :: st) f = (if a = 0 then en_R cs 77 d post 54 lo st f else en_R cs 77 d post 45 lo st f) := ru_ifeq (show en_cd 77 42 = some (.ifCond .eq 12, 3, 0, 0) by decide +kernel) (by decide +kernel)
theorem r77_45 : en_R cs 77 d post 45 (some (.inr q) :: lo) st f = en_R cs 77 d post 46 (some (.inr q) :: lo) (.inr q :: st) f := ru_aload1 (show en_cd 77 45 = some (.aload_n 0, 1, 0, 0) by decide +kernel) rfl
theorem r77_46 : en_R cs 77 d post 46 (a0 :: a1 :: some (.inr q) :: lo) st f = en_R cs 77 d post 47 (a0 :: a1 :: some (.inr q) :: lo) (.inr q :: st) f := ru_aload1 (show en_cd 77 46 = some (.aload_n 2, 1, 0, 0) by decide +kernel) rfl
theorem r77_47 : en_R cs 77 d post 47 (a0 :: a1 :: a2 :: some (.inl x) :: lo) st f = en_R cs 77 d post 48 (a0 :: a1 :: a2 :: some (.inl x) :: lo) (.inl x :: st) f := ru_load1 (show en_cd 77 47 = some (.iload_n 3, 1, 0, 0) by decide +kernel) rfl
theorem r77_48 : en_R cs 77 d post 48 lo (u2 :: u1 :: .inr (0, i) :: st) f = (st.length ≤ 8 ∧ i < 1 ∧ en_Ev d 64 [.inr (0, i), u1, u2] f (fun r g => en_R cs 77 d post 51 lo (r.toList ++ st) g)) := ru_iv (al := [u1, u2]) (show en_cd 77 48 = some (.invokevirtual 290, 3, 64, 0) by decide +kernel) (by decide +kernel) (show en_np 64 = 2 by decide +kernel) (by decide +kernel) rfl
theorem r77_51 : en_R cs 77 d post 51 lo st f = en_R cs 77 d post 60 lo st f := ru_goto (show en_cd 77 51 = some (.goto 9, 3, 0, 0) by decide +kernel) (by decide +kernel)
theorem r77_54 : en_R cs 77 d post 54 (some (.inr q) :: lo) st f = en_R cs 77 d post 55 (some (.inr q) :: lo) (.inr q :: st) f := ru_aload1 (show en_cd 77 54 = some (.aload_n 0, 1, 0, 0) by decide +kernel) rfl
theorem r77_55 : en_R cs 77 d post 55 (a0 :: a1 :: some (.inr q) :: lo) st f = en_R cs 77 d post 56 (a0 :: a1 :: some (.inr q) :: lo) (.inr q :: st) f := ru_aload1 (show en_cd 77 55 = some (.aload_n 2, 1, 0, 0) by decide +kernel) rfl
theorem r77_56 : en_R cs 77 d post 56 (a0 :: a1 :: a2 :: some (.inl x) :: lo) st f = en_R cs 77 d post 57 (a0 :: a1 :: a2 :: some (.inl x) :: lo) (.inl x :: st) f := ru_load1 (show en_cd 77 56 = some (.iload_n 3, 1, 0, 0) by decide +kernel) rfl
theorem r77_57 : en_R cs 77 d post 57 lo (u2 :: u1 :: .inr (0, i) :: st) f = (st.length ≤ 8 ∧ i < 1 ∧ en_Ev d 66 [.inr (0, i), u1, u2] f (fun r g => en_R cs 77 d post 60 lo (r.toList ++ st) g)) := ru_iv (al := [u1, u2]) (show en_cd 77 57 = some (.invokevirtual 294, 3, 66, 0) by decide +kernel) (by decide +kernel) (show en_np 66 = 2 by decide +kernel) (by decide +kernel) rfl
theorem r77_60 : en_R cs 77 d post 60 (a0 :: a1 :: a2 :: a3 :: a4 :: a5 :: lo) (.inl x :: st) f = en_R cs 77 d post 62 (a0 :: a1 :: a2 :: a3 :: a4 :: some (.inl x) :: lo) st f := ru_istore2 (show en_cd 77 60 = some (.istore 5, 2, 0, 0) by decide +kernel) (Nat.lt_of_lt_of_le (by decide : 5 < 6) (Nat.le_add_left 6 lo.length))
theorem r77_62 : en_R cs 77 d post 62 (a0 :: a1 :: some (.inr q) :: lo) st f = en_R cs 77 d post 63 (a0 :: a1 :: some (.inr q) :: lo) (.inr q :: st) f := ru_aload1 (show en_cd 77 62 = some (.aload_n 2, 1, 0, 0) by decide +kernel) rfl
theorem r77_63 : en_R cs 77 d post 63 (a0 :: a1 :: a2 :: a3 :: a4 :: some (.inl x) :: lo) st f = en_R cs 77 d post 65 (a0 :: a1 :: a2 :: a3 :: a4 :: some (.inl x) :: lo) (.inl x :: st) f := ru_load2 (show en_cd 77 63 = some (.iload 5, 2, 0, 0) by decide +kernel) rfl
theorem r77_65 : en_R cs 77 d post 65 lo (.inl a :: st) f = (if a = 0 then en_R cs 77 d post 68 lo st f else en_R cs 77 d post 72 lo st f) := ru_ifne (show en_cd 77 65 = some (.ifCond .ne 7, 3, 0, 0) by decide +kernel) (by decide +kernel)
theorem r77_68 : en_R cs 77 d post 68 lo st f = en_R cs 77 d post 69 lo (.inl 1 :: st) f := ru_iconst (show en_cd 77 68 = some (.iconst 1, 1, 0, 0) by decide +kernel) (by decide +kernel)
theorem r77_69 : en_R cs 77 d post 69 lo st f = en_R cs 77 d post 73 lo st f := ru_goto (show en_cd 77 69 = some (.goto 4, 3, 0, 0) by decide +kernel) (by decide +kernel)
theorem r77_72 : en_R cs 77 d post 72 lo st f = en_R cs 77 d post 73 lo (.inl 0 :: st) f := ru_iconst (show en_cd 77 72 = some (.iconst 0, 1, 0, 0) by decide +kernel) (by decide +kernel)
theorem r77_73 : en_R cs 77 d post 73 lo (u1 :: .inr (3, i) :: st) f = (st.length ≤ 8 ∧ i < 6 ∧ en_Ev d 32 [.inr (3, i), u1] f (fun r g => en_R cs 77 d post 76 lo (r.toList ++ st) g)) := ru_iv (al := [u1]) (show en_cd 77 73 = some (.invokevirtual 264, 3, 32, 0) by decide +kernel) (by decide +kernel) (show en_np 32 = 1 by decide +kernel) (by decide +kernel) rfl
theorem r77_76 : en_R cs 77 d post 76 lo (.inl a :: st) f = (if a = 0 then en_R cs 77 d post 87 lo st f else en_R cs 77 d post 79 lo st f) := ru_ifeq (show en_cd 77 76 = some (.ifCond .eq 11, 3, 0, 0) by decide +kernel) (by decide +kernel)
theorem r77_79 : en_R cs 77 d post 79 (a0 :: a1 :: some (.inr q) :: lo) st f = en_R cs 77 d post 80 (a0 :: a1 :: some (.inr q) :: lo) (.inr q :: st) f := ru_aload1 (show en_cd 77 79 = some (.aload_n 2, 1, 0, 0) by decide +kernel) rfl
theorem r77_80 : en_R cs 77 d post 80 lo st f = en_R cs 77 d post 81 lo (.inl 4 :: st) f := ru_iconst (show en_cd 77 80 = some (.iconst 4, 1, 0, 0) by decide +kernel) (by decide +kernel)
theorem r77_81 : en_R cs 77 d post 81 lo (u1 :: .inr (3, i) :: st) f = (st.length ≤ 8 ∧ i < 6 ∧ en_Ev d 29 [.inr (3, i), u1] f (fun r g => en_R cs 77 d post 84 lo (r.toList ++ st) g)) := ru_iv (al := [u1]) (show en_cd 77 81 = some (.invokevirtual 171, 3, 29, 0) by decide +kernel) (by decide +kernel) (show en_np 29 = 1 by decide +kernel) (by decide +kernel) rfl
theorem r77_84 : en_R cs 77 d post 84 lo st f = en_R cs 77 d post 97 lo st f := ru_goto (show en_cd 77 84 = some (.goto 13, 3, 0, 0) by decide +kernel) (by decide +kernel)
theorem r77_87 : en_R cs 77 d post 87 (a0 :: a1 :: a2 :: a3 :: a4 :: some (.inl x) :: lo) st f = en_R cs 77 d post 89 (a0 :: a1 :: a2 :: a3 :: a4 :: some (.inl x) :: lo) (.inl x :: st) f := ru_load2 (show en_cd 77 87 = some (.iload 5, 2, 0, 0) by decide +kernel) rfl
theorem r77_89 : en_R cs 77 d post 89 lo (.inl a :: st) f = (if a = 0 then en_R cs 77 d post 97 lo st f else en_R cs 77 d post 92 lo st f) := ru_ifeq (show en_cd 77 89 = some (.ifCond .eq 8, 3, 0, 0) by decide +kernel) (by decide +kernel)
theorem r77_92 : en_R cs 77 d post 92 (some (.inr q) :: lo) st f = en_R cs 77 d post 93 (some (.inr q) :: lo) (.inr q :: st) f := ru_aload1 (show en_cd 77 92 = some (.aload_n 0, 1, 0, 0) by decide +kernel) rfl
theorem r77_93 : en_R cs 77 d post 93 (a0 :: some (.inl x) :: lo) st f = en_R cs 77 d post 94 (a0 :: some (.inl x) :: lo) (.inl x :: st) f := ru_load1 (show en_cd 77 93 = some (.iload_n 1, 1, 0, 0) by decide +kernel) rfl
theorem r77_94 : en_R cs 77 d post 94 lo (u1 :: .inr (0, i) :: st) f = (st.length ≤ 8 ∧ i < 1 ∧ en_Ev d 78 [.inr (0, i), u1] f (fun r g => en_R cs 77 d post 97 lo (r.toList ++ st) g)) := ru_iv (al := [u1]) (show en_cd 77 94 = some (.invokevirtual 297, 3, 78, 0) by decide +kernel) (by decide +kernel) (show en_np 78 = 1 by decide +kernel) (by decide +kernel) rfl
theorem r77_97 : en_R cs 77 d post 97 lo [] f = post none f := ru_vre (show en_cd 77 97 = some (.return_, 1, 0, 0) by decide +kernel) (by decide +kernel)
theorem r78_0 : en_R cs 78 d post 0 (some (.inr q) :: lo) st f = en_R cs 78 d post 1 (some (.inr q) :: lo) (.inr q :: st) f := ru_aload1 (show en_cd 78 0 = some (.aload_n 0, 1, 0, 0) by decide +kernel) rfl
theorem r78_1 : en_R cs 78 d post 1 lo (.inr (0, i) :: st) f = (i < 1 ∧ en_R cs 78 d post 4 lo (.inr (1, i) :: st) f) := ru_getR (show en_cd 78 1 = some (.getfield 11, 3, 0, 0) by decide +kernel) (by decide +kernel) (by decide +kernel)
theorem r78_4 : en_R cs 78 d post 4 (a0 :: some (.inl x) :: lo) st f = en_R cs 78 d post 5 (a0 :: some (.inl x) :: lo) (.inl x :: st) f := ru_load1 (show en_cd 78 4 = some (.iload_n 1, 1, 0, 0) by decide +kernel) rfl
theorem r78_5 : en_R cs 78 d post 5 lo (.inl x :: .inr (1, i) :: st) f = (i < 1 ∧ en_inr x 6 = true ∧ en_R cs 78 d post 6 lo (.inr (3, x.toNatClampNeg) :: st) f) := ru_aald (show en_cd 78 5 = some (.aaload, 1, 0, 0) by decide +kernel) (by decide +kernel) (by decide +kernel) (by decide +kernel) (by decide +kernel)
theorem r78_6 : en_R cs 78 d post 6 (a0 :: a1 :: a2 :: lo) (.inr q :: st) f = en_R cs 78 d post 7 (a0 :: a1 :: some (.inr q) :: lo) st f := ru_astore1 (show en_cd 78 6 = some (.astore_n 2, 1, 0, 0) by decide +kernel) (Nat.lt_of_lt_of_le (by decide : 2 < 3) (Nat.le_add_left 3 lo.length))
theorem r78_7 : en_R cs 78 d post 7 (a0 :: a1 :: some (.inr q) :: lo) st f = en_R cs 78 d post 8 (a0 :: a1 :: some (.inr q) :: lo) (.inr q :: st) f := ru_aload1 (show en_cd 78 7 = some (.aload_n 2, 1, 0, 0) by decide +kernel) rfl
theorem r78_8 : en_R cs 78 d post 8 lo (.inr (3, i) :: st) f = (i < 6 ∧ en_R cs 78 d post 11 lo (.inl (f.1 3 i 8) :: st) f) := ru_getI (show en_cd 78 8 = some (.getfield 202, 3, 3, 8) by decide +kernel) (by decide +kernel) (by decide +kernel) (by decide +kernel)
theorem r78_11 : en_R cs 78 d post 11 lo st f = en_R cs 78 d post 12 lo (.inl 5 :: st) f := ru_iconst (show en_cd 78 11 = some (.iconst 5, 1, 0, 0) by decide +kernel) (by decide +kernel)
theorem r78_12 : en_R cs 78 d post 12 lo (.inl b :: .inl a :: st) f = (if a = b then en_R cs 78 d post 15 lo st f else en_R cs 78 d post 28 lo st f) := ru_icne (show en_cd 78 12 = some (.if_icmp .ne 16, 3, 0, 0) by decide +kernel) (by decide +kernel)
theorem r78_15 : en_R cs 78 d post 15 (a0 :: a1 :: some (.inr q) :: lo) st f = en_R cs 78 d post 16 (a0 :: a1 :: some (.inr q) :: lo) (.inr q :: st) f := ru_aload1 (show en_cd 78 15 = some (.aload_n 2, 1, 0, 0) by decide +kernel) rfl
theorem r78_16 : en_R cs 78 d post 16 lo st f = en_R cs 78 d post 17 lo (.inl 3 :: st) f := ru_iconst (show en_cd 78 16 = some (.iconst 3, 1, 0, 0) by decide +kernel) (by decide +kernel)
theorem r78_17 : en_R cs 78 d post 17 lo (.inl x :: .inr (3, i) :: st) f = (i < 6 ∧ en_R cs 78 d post 20 lo st (en_up f.1 3 i 3 x, f.2)) := ru_putI (show en_cd 78 17 = some (.putfield 117, 3, 3, 3) by decide +kernel) (by decide +kernel) (by decide +kernel) (by decide +kernel)
theorem r78_20 : en_R cs 78 d post 20 (a0 :: a1 :: some (.inr q) :: lo) st f = en_R cs 78 d post 21 (a0 :: a1 :: some (.inr q) :: lo) (.inr q :: st) f := ru_aload1 (show en_cd 78 20 = some (.aload_n 2, 1, 0, 0) by decide +kernel) rfl
theorem r78_21 : en_R cs 78 d post 21 lo st f = en_R cs 78 d post 22 lo (.inl 0 :: st) f := ru_iconst (show en_cd 78 21 = some (.iconst 0, 1, 0, 0) by decide +kernel) (by decide +kernel)
theorem r78_22 : en_R cs 78 d post 22 lo (.inl x :: .inr (3, i) :: st) f = (i < 6 ∧ en_R cs 78 d post 25 lo st (en_up f.1 3 i 8 x, f.2)) := ru_putI (show en_cd 78 22 = some (.putfield 202, 3, 3, 8) by decide +kernel) (by decide +kernel) (by decide +kernel) (by decide +kernel)
theorem r78_25 : en_R cs 78 d post 25 lo st f = en_R cs 78 d post 106 lo st f := ru_goto (show en_cd 78 25 = some (.goto 81, 3, 0, 0) by decide +kernel) (by decide +kernel)
theorem r78_28 : en_R cs 78 d post 28 (a0 :: a1 :: some (.inr q) :: lo) st f = en_R cs 78 d post 29 (a0 :: a1 :: some (.inr q) :: lo) (.inr q :: st) f := ru_aload1 (show en_cd 78 28 = some (.aload_n 2, 1, 0, 0) by decide +kernel) rfl
theorem r78_29 : en_R cs 78 d post 29 lo (.inr (3, i) :: st) f = (i < 6 ∧ en_R cs 78 d post 32 lo (.inl (f.1 3 i 8) :: st) f) := ru_getI (show en_cd 78 29 = some (.getfield 202, 3, 3, 8) by decide +kernel) (by decide +kernel) (by decide +kernel) (by decide +kernel)
theorem r78_32 : en_R cs 78 d post 32 lo st f = en_R cs 78 d post 33 lo (.inl 3 :: st) f := ru_iconst (show en_cd 78 32 = some (.iconst 3, 1, 0, 0) by decide +kernel) (by decide +kernel)
theorem r78_33 : en_R cs 78 d post 33 lo (.inl b :: .inl a :: st) f = (if a = b then en_R cs 78 d post 36 lo st f else en_R cs 78 d post 57 lo st f) := ru_icne (show en_cd 78 33 = some (.if_icmp .ne 24, 3, 0, 0) by decide +kernel) (by decide +kernel)
theorem r78_36 : en_R cs 78 d post 36 (a0 :: a1 :: some (.inr q) :: lo) st f = en_R cs 78 d post 37 (a0 :: a1 :: some (.inr q) :: lo) (.inr q :: st) f := ru_aload1 (show en_cd 78 36 = some (.aload_n 2, 1, 0, 0) by decide +kernel) rfl
theorem r78_37 : en_R cs 78 d post 37 lo (.inr (3, i) :: st) f = (i < 6 ∧ en_R cs 78 d post 40 lo (.inl (f.1 3 i 9) :: st) f) := ru_getI (show en_cd 78 37 = some (.getfield 271, 3, 3, 9) by decide +kernel) (by decide +kernel) (by decide +kernel) (by decide +kernel)
theorem r78_40 : en_R cs 78 d post 40 lo st f = en_R cs 78 d post 41 lo (.inl 3 :: st) f := ru_iconst (show en_cd 78 40 = some (.iconst 3, 1, 0, 0) by decide +kernel) (by decide +kernel)
theorem r78_41 : en_R cs 78 d post 41 lo (.inl b :: .inl a :: st) f = (if a = b then en_R cs 78 d post 44 lo st f else en_R cs 78 d post 57 lo st f) := ru_icne (show en_cd 78 41 = some (.if_icmp .ne 16, 3, 0, 0) by decide +kernel) (by decide +kernel)
theorem r78_44 : en_R cs 78 d post 44 (a0 :: some (.inl x) :: lo) st f = en_R cs 78 d post 45 (a0 :: some (.inl x) :: lo) (.inl x :: st) f := ru_load1 (show en_cd 78 44 = some (.iload_n 1, 1, 0, 0) by decide +kernel) rfl
theorem r78_45 : en_R cs 78 d post 45 lo st f = en_R cs 78 d post 46 lo (.inl 2 :: st) f := ru_iconst (show en_cd 78 45 = some (.iconst 2, 1, 0, 0) by decide +kernel) (by decide +kernel)
theorem r78_46 : en_R cs 78 d post 46 lo (.inl b :: .inl a :: st) f = (if a < b then en_R cs 78 d post 57 lo st f else en_R cs 78 d post 49 lo st f) := ru_iclt (show en_cd 78 46 = some (.if_icmp .lt 11, 3, 0, 0) by decide +kernel) (by decide +kernel)
theorem r78_49 : en_R cs 78 d post 49 (a0 :: a1 :: some (.inr q) :: lo) st f = en_R cs 78 d post 50 (a0 :: a1 :: some (.inr q) :: lo) (.inr q :: st) f := ru_aload1 (show en_cd 78 49 = some (.aload_n 2, 1, 0, 0) by decide +kernel) rfl
theorem r78_50 : en_R cs 78 d post 50 lo st f = en_R cs 78 d post 51 lo (.inl 5 :: st) f := ru_iconst (show en_cd 78 50 = some (.iconst 5, 1, 0, 0) by decide +kernel) (by decide +kernel)
theorem r78_51 : en_R cs 78 d post 51 lo (u1 :: .inr (3, i) :: st) f = (st.length ≤ 8 ∧ i < 6 ∧ en_Ev d 29 [.inr (3, i), u1] f (fun r g => en_R cs 78 d post 54 lo (r.toList ++ st) g)) := ru_iv (al := [u1]) (show en_cd 78 51 = some (.invokevirtual 171, 3, 29, 0) by decide +kernel) (by decide +kernel) (show en_np 29 = 1 by decide +kernel) (by decide +kernel) rfl
theorem r78_54 : en_R cs 78 d post 54 lo st f = en_R cs 78 d post 106 lo st f := ru_goto (show en_cd 78 54 = some (.goto 52, 3, 0, 0) by decide +kernel) (by decide +kernel)
theorem r78_57 : en_R cs 78 d post 57 (a0 :: a1 :: some (.inr q) :: lo) st f = en_R cs 78 d post 58 (a0 :: a1 :: some (.inr q) :: lo) (.inr q :: st) f := ru_aload1 (show en_cd 78 57 = some (.aload_n 2, 1, 0, 0) by decide +kernel) rfl
theorem r78_58 : en_R cs 78 d post 58 lo (.inr (3, i) :: st) f = (i < 6 ∧ en_R cs 78 d post 61 lo (.inl (f.1 3 i 8) :: st) f) := ru_getI (show en_cd 78 58 = some (.getfield 202, 3, 3, 8) by decide +kernel) (by decide +kernel) (by decide +kernel) (by decide +kernel)
theorem r78_61 : en_R cs 78 d post 61 lo st f = en_R cs 78 d post 62 lo (.inl 3 :: st) f := ru_iconst (show en_cd 78 61 = some (.iconst 3, 1, 0, 0) by decide +kernel) (by decide +kernel)
theorem r78_62 : en_R cs 78 d post 62 lo (.inl b :: .inl a :: st) f = (if a = b then en_R cs 78 d post 65 lo st f else en_R cs 78 d post 96 lo st f) := ru_icne (show en_cd 78 62 = some (.if_icmp .ne 34, 3, 0, 0) by decide +kernel) (by decide +kernel)
theorem r78_65 : en_R cs 78 d post 65 (a0 :: a1 :: some (.inr q) :: lo) st f = en_R cs 78 d post 66 (a0 :: a1 :: some (.inr q) :: lo) (.inr q :: st) f := ru_aload1 (show en_cd 78 65 = some (.aload_n 2, 1, 0, 0) by decide +kernel) rfl
theorem r78_66 : en_R cs 78 d post 66 lo (.inr (3, i) :: st) f = (i < 6 ∧ en_R cs 78 d post 69 lo (.inl (f.1 3 i 9) :: st) f) := ru_getI (show en_cd 78 66 = some (.getfield 271, 3, 3, 9) by decide +kernel) (by decide +kernel) (by decide +kernel) (by decide +kernel)
theorem r78_69 : en_R cs 78 d post 69 lo st f = en_R cs 78 d post 70 lo (.inl 1 :: st) f := ru_iconst (show en_cd 78 69 = some (.iconst 1, 1, 0, 0) by decide +kernel) (by decide +kernel)
theorem r78_70 : en_R cs 78 d post 70 lo (.inl b :: .inl a :: st) f = (if a = b then en_R cs 78 d post 96 lo st f else en_R cs 78 d post 73 lo st f) := ru_iceq (show en_cd 78 70 = some (.if_icmp .eq 26, 3, 0, 0) by decide +kernel) (by decide +kernel)
theorem r78_73 : en_R cs 78 d post 73 (a0 :: a1 :: some (.inr q) :: lo) st f = en_R cs 78 d post 74 (a0 :: a1 :: some (.inr q) :: lo) (.inr q :: st) f := ru_aload1 (show en_cd 78 73 = some (.aload_n 2, 1, 0, 0) by decide +kernel) rfl
theorem r78_74 : en_R cs 78 d post 74 lo (.inr (3, i) :: st) f = (i < 6 ∧ en_R cs 78 d post 77 lo (.inl (f.1 3 i 12) :: st) f) := ru_getI (show en_cd 78 74 = some (.getfield 183, 3, 3, 12) by decide +kernel) (by decide +kernel) (by decide +kernel) (by decide +kernel)
theorem r78_77 : en_R cs 78 d post 77 (some (.inr q) :: lo) st f = en_R cs 78 d post 78 (some (.inr q) :: lo) (.inr q :: st) f := ru_aload1 (show en_cd 78 77 = some (.aload_n 0, 1, 0, 0) by decide +kernel) rfl
theorem r78_78 : en_R cs 78 d post 78 lo (.inr (0, i) :: st) f = (st.length ≤ 8 ∧ i < 1 ∧ en_Ev d 61 [.inr (0, i)] f (fun r g => en_R cs 78 d post 81 lo (r.toList ++ st) g)) := ru_iv (al := []) (show en_cd 78 78 = some (.invokevirtual 147, 3, 61, 0) by decide +kernel) (by decide +kernel) (show en_np 61 = 0 by decide +kernel) (by decide +kernel) rfl
theorem r78_81 : en_R cs 78 d post 81 lo (.inl b :: .inl a :: st) f = en_R cs 78 d post 82 lo (.inl (a + b) :: st) f := ru_iadd (show en_cd 78 81 = some (.iadd, 1, 0, 0) by decide +kernel)
theorem r78_82 : en_R cs 78 d post 82 lo st f = en_R cs 78 d post 84 lo (.inl 90 :: st) f := ru_bipush (show en_cd 78 82 = some (.bipush 90, 2, 0, 0) by decide +kernel) (by decide +kernel)
theorem r78_84 : en_R cs 78 d post 84 lo (.inl b :: .inl a :: st) f = (if a ≤ b then en_R cs 78 d post 96 lo st f else en_R cs 78 d post 87 lo st f) := ru_icle (show en_cd 78 84 = some (.if_icmp .le 12, 3, 0, 0) by decide +kernel) (by decide +kernel)
theorem r78_87 : en_R cs 78 d post 87 (a0 :: a1 :: some (.inr q) :: lo) st f = en_R cs 78 d post 88 (a0 :: a1 :: some (.inr q) :: lo) (.inr q :: st) f := ru_aload1 (show en_cd 78 87 = some (.aload_n 2, 1, 0, 0) by decide +kernel) rfl
theorem r78_88 : en_R cs 78 d post 88 lo st f = en_R cs 78 d post 90 lo (.inl 7 :: st) f := ru_bipush (show en_cd 78 88 = some (.bipush 7, 2, 0, 0) by decide +kernel) (by decide +kernel)
theorem r78_90 : en_R cs 78 d post 90 lo (u1 :: .inr (3, i) :: st) f = (st.length ≤ 8 ∧ i < 6 ∧ en_Ev d 29 [.inr (3, i), u1] f (fun r g => en_R cs 78 d post 93 lo (r.toList ++ st) g)) := ru_iv (al := [u1]) (show en_cd 78 90 = some (.invokevirtual 171, 3, 29, 0) by decide +kernel) (by decide +kernel) (show en_np 29 = 1 by decide +kernel) (by decide +kernel) rfl
theorem r78_93 : en_R cs 78 d post 93 lo st f = en_R cs 78 d post 106 lo st f := ru_goto (show en_cd 78 93 = some (.goto 13, 3, 0, 0) by decide +kernel) (by decide +kernel)
theorem r78_96 : en_R cs 78 d post 96 (a0 :: a1 :: some (.inr q) :: lo) st f = en_R cs 78 d post 97 (a0 :: a1 :: some (.inr q) :: lo) (.inr q :: st) f := ru_aload1 (show en_cd 78 96 = some (.aload_n 2, 1, 0, 0) by decide +kernel) rfl
theorem r78_97 : en_R cs 78 d post 97 lo (u :: st) f = en_R cs 78 d post 98 lo (u :: u :: st) f := ru_dup (show en_cd 78 97 = some (.dup, 1, 0, 0) by decide +kernel)
theorem r78_98 : en_R cs 78 d post 98 lo (.inr (3, i) :: st) f = (i < 6 ∧ en_R cs 78 d post 101 lo (.inl (f.1 3 i 8) :: st) f) := ru_getI (show en_cd 78 98 = some (.getfield 202, 3, 3, 8) by decide +kernel) (by decide +kernel) (by decide +kernel) (by decide +kernel)
theorem r78_101 : en_R cs 78 d post 101 lo st f = en_R cs 78 d post 102 lo (.inl 1 :: st) f := ru_iconst (show en_cd 78 101 = some (.iconst 1, 1, 0, 0) by decide +kernel) (by decide +kernel)
theorem r78_102 : en_R cs 78 d post 102 lo (.inl b :: .inl a :: st) f = en_R cs 78 d post 103 lo (.inl (a + b) :: st) f := ru_iadd (show en_cd 78 102 = some (.iadd, 1, 0, 0) by decide +kernel)
theorem r78_103 : en_R cs 78 d post 103 lo (.inl x :: .inr (3, i) :: st) f = (i < 6 ∧ en_R cs 78 d post 106 lo st (en_up f.1 3 i 8 x, f.2)) := ru_putI (show en_cd 78 103 = some (.putfield 202, 3, 3, 8) by decide +kernel) (by decide +kernel) (by decide +kernel) (by decide +kernel)
theorem r78_106 : en_R cs 78 d post 106 lo [] f = post none f := ru_vre (show en_cd 78 106 = some (.return_, 1, 0, 0) by decide +kernel) (by decide +kernel)
theorem r79_0 : en_R cs 79 d post 0 (a0 :: some (.inl x) :: lo) st f = en_R cs 79 d post 1 (a0 :: some (.inl x) :: lo) (.inl x :: st) f := ru_load1 (show en_cd 79 0 = some (.iload_n 1, 1, 0, 0) by decide +kernel) rfl
theorem r79_1 : en_R cs 79 d post 1 (a0 :: a1 :: a2 :: lo) (.inl x :: st) f = en_R cs 79 d post 2 (a0 :: a1 :: some (.inl x) :: lo) st f := ru_istore1 (show en_cd 79 1 = some (.istore_n 2, 1, 0, 0) by decide +kernel) (Nat.lt_of_lt_of_le (by decide : 2 < 3) (Nat.le_add_left 3 lo.length))
theorem r79_2 : en_R cs 79 d post 2 (a0 :: a1 :: some (.inl x) :: lo) st f = en_R cs 79 d post 3 (a0 :: a1 :: some (.inl x) :: lo) (.inl x :: st) f := ru_load1 (show en_cd 79 2 = some (.iload_n 2, 1, 0, 0) by decide +kernel) rfl
theorem r79_3 : en_R cs 79 d post 3 lo st f = en_R cs 79 d post 5 lo (.inl 8 :: st) f := ru_bipush (show en_cd 79 3 = some (.bipush 8, 2, 0, 0) by decide +kernel) (by decide +kernel)
theorem r79_5 : en_R cs 79 d post 5 lo (.inl b :: .inl a :: st) f = (if a < b then en_R cs 79 d post 34 lo st f else en_R cs 79 d post 8 lo st f) := ru_iclt (show en_cd 79 5 = some (.if_icmp .lt 29, 3, 0, 0) by decide +kernel) (by decide +kernel)
theorem r79_8 : en_R cs 79 d post 8 (some (.inr q) :: lo) st f = en_R cs 79 d post 9 (some (.inr q) :: lo) (.inr q :: st) f := ru_aload1 (show en_cd 79 8 = some (.aload_n 0, 1, 0, 0) by decide +kernel) rfl
theorem r79_9 : en_R cs 79 d post 9 lo (.inr (0, i) :: st) f = (st.length ≤ 8 ∧ i < 1 ∧ en_Ev d 80 [.inr (0, i)] f (fun r g => en_R cs 79 d post 12 lo (r.toList ++ st) g)) := ru_iv (al := []) (show en_cd 79 9 = some (.invokevirtual 300, 3, 80, 0) by decide +kernel) (by decide +kernel) (show en_np 80 = 0 by decide +kernel) (by decide +kernel) rfl
theorem r79_12 : en_R cs 79 d post 12 (a0 :: a1 :: a2 :: a3 :: lo) (.inl x :: st) f = en_R cs 79 d post 13 (a0 :: a1 :: a2 :: some (.inl x) :: lo) st f := ru_istore1 (show en_cd 79 12 = some (.istore_n 3, 1, 0, 0) by decide +kernel) (Nat.lt_of_lt_of_le (by decide : 3 < 4) (Nat.le_add_left 4 lo.length))
theorem r79_13 : en_R cs 79 d post 13 (a0 :: a1 :: a2 :: some (.inl x) :: lo) st f = en_R cs 79 d post 14 (a0 :: a1 :: a2 :: some (.inl x) :: lo) (.inl x :: st) f := ru_load1 (show en_cd 79 13 = some (.iload_n 3, 1, 0, 0) by decide +kernel) rfl
theorem r79_14 : en_R cs 79 d post 14 lo (.inl a :: st) f = (if 0 ≤ a then en_R cs 79 d post 18 lo st f else en_R cs 79 d post 17 lo st f) := ru_ifge (show en_cd 79 14 = some (.ifCond .ge 4, 3, 0, 0) by decide +kernel) (by decide +kernel)
theorem r79_17 : en_R cs 79 d post 17 lo [] f = post none f := ru_vre (show en_cd 79 17 = some (.return_, 1, 0, 0) by decide +kernel) (by decide +kernel)
theorem r79_18 : en_R cs 79 d post 18 (some (.inr q) :: lo) st f = en_R cs 79 d post 19 (some (.inr q) :: lo) (.inr q :: st) f := ru_aload1 (show en_cd 79 18 = some (.aload_n 0, 1, 0, 0) by decide +kernel) rfl
theorem r79_19 : en_R cs 79 d post 19 (some (.inr q) :: lo) st f = en_R cs 79 d post 20 (some (.inr q) :: lo) (.inr q :: st) f := ru_aload1 (show en_cd 79 19 = some (.aload_n 0, 1, 0, 0) by decide +kernel) rfl
theorem r79_20 : en_R cs 79 d post 20 lo (.inr (0, i) :: st) f = (i < 1 ∧ en_R cs 79 d post 23 lo (.inr (2, i) :: st) f) := ru_getR (show en_cd 79 20 = some (.getfield 17, 3, 0, 1) by decide +kernel) (by decide +kernel) (by decide +kernel)
theorem r79_23 : en_R cs 79 d post 23 (a0 :: a1 :: a2 :: some (.inl x) :: lo) st f = en_R cs 79 d post 24 (a0 :: a1 :: a2 :: some (.inl x) :: lo) (.inl x :: st) f := ru_load1 (show en_cd 79 23 = some (.iload_n 3, 1, 0, 0) by decide +kernel) rfl
theorem r79_24 : en_R cs 79 d post 24 lo (.inl x :: .inr (2, i) :: st) f = (i < 1 ∧ en_inr x 16 = true ∧ en_R cs 79 d post 25 lo (.inr (8, x.toNatClampNeg) :: st) f) := ru_aald (show en_cd 79 24 = some (.aaload, 1, 0, 0) by decide +kernel) (by decide +kernel) (by decide +kernel) (by decide +kernel) (by decide +kernel)
theorem r79_25 : en_R cs 79 d post 25 lo (u1 :: .inr (0, i) :: st) f = (st.length ≤ 8 ∧ i < 1 ∧ en_Ev d 81 [.inr (0, i), u1] f (fun r g => en_R cs 79 d post 28 lo (r.toList ++ st) g)) := ru_iv (al := [u1]) (show en_cd 79 25 = some (.invokevirtual 303, 3, 81, 0) by decide +kernel) (by decide +kernel) (show en_np 81 = 1 by decide +kernel) (by decide +kernel) rfl
theorem r79_28 : en_R cs 79 d post 28 (a0 :: a1 :: some (.inl x) :: lo) st f = en_R cs 79 d post 31 (a0 :: a1 :: some (.inl (x + (-8))) :: lo) st f := ru_iinc (show en_cd 79 28 = some (.iinc 2 (-8), 3, 0, 0) by decide +kernel) (by decide +kernel) rfl
theorem r79_31 : en_R cs 79 d post 31 lo st f = en_R cs 79 d post 2 lo st f := ru_goto (show en_cd 79 31 = some (.goto (-29), 3, 0, 0) by decide +kernel) (by decide +kernel)
theorem r79_34 : en_R cs 79 d post 34 lo [] f = post none f := ru_vre (show en_cd 79 34 = some (.return_, 1, 0, 0) by decide +kernel) (by decide +kernel)
theorem r80_0 : en_R cs 80 d post 0 lo st f = en_R cs 80 d post 1 lo (.inl 1 :: st) f := ru_iconst (show en_cd 80 0 = some (.iconst 1, 1, 0, 0) by decide +kernel) (by decide +kernel)
theorem r80_1 : en_R cs 80 d post 1 (a0 :: a1 :: lo) (.inl x :: st) f = en_R cs 80 d post 2 (a0 :: some (.inl x) :: lo) st f := ru_istore1 (show en_cd 80 1 = some (.istore_n 1, 1, 0, 0) by decide +kernel) (Nat.lt_of_lt_of_le (by decide : 1 < 2) (Nat.le_add_left 2 lo.length))
theorem r80_2 : en_R cs 80 d post 2 (a0 :: some (.inl x) :: lo) st f = en_R cs 80 d post 3 (a0 :: some (.inl x) :: lo) (.inl x :: st) f := ru_load1 (show en_cd 80 2 = some (.iload_n 1, 1, 0, 0) by decide +kernel) rfl
theorem r80_3 : en_R cs 80 d post 3 lo st f = en_R cs 80 d post 5 lo (.inl 6 :: st) f := ru_bipush (show en_cd 80 3 = some (.bipush 6, 2, 0, 0) by decide +kernel) (by decide +kernel)
theorem r80_5 : en_R cs 80 d post 5 lo (.inl b :: .inl a :: st) f = (if b < a then en_R cs 80 d post 53 lo st f else en_R cs 80 d post 8 lo st f) := ru_icgt (show en_cd 80 5 = some (.if_icmp .gt 48, 3, 0, 0) by decide +kernel) (by decide +kernel)
theorem r80_8 : en_R cs 80 d post 8 (some (.inr q) :: lo) st f = en_R cs 80 d post 9 (some (.inr q) :: lo) (.inr q :: st) f := ru_aload1 (show en_cd 80 8 = some (.aload_n 0, 1, 0, 0) by decide +kernel) rfl
theorem r80_9 : en_R cs 80 d post 9 lo (.inr (0, i) :: st) f = (i < 1 ∧ en_R cs 80 d post 12 lo (.inl (f.1 0 i 6) :: st) f) := ru_getI (show en_cd 80 9 = some (.getfield 35, 3, 0, 6) by decide +kernel) (by decide +kernel) (by decide +kernel) (by decide +kernel)
theorem r80_12 : en_R cs 80 d post 12 (a0 :: some (.inl x) :: lo) st f = en_R cs 80 d post 13 (a0 :: some (.inl x) :: lo) (.inl x :: st) f := ru_load1 (show en_cd 80 12 = some (.iload_n 1, 1, 0, 0) by decide +kernel) rfl
theorem r80_13 : en_R cs 80 d post 13 lo (.inl b :: .inl a :: st) f = en_R cs 80 d post 14 lo (.inl (a + b) :: st) f := ru_iadd (show en_cd 80 13 = some (.iadd, 1, 0, 0) by decide +kernel)
theorem r80_14 : en_R cs 80 d post 14 lo st f = en_R cs 80 d post 16 lo (.inl 6 :: st) f := ru_bipush (show en_cd 80 14 = some (.bipush 6, 2, 0, 0) by decide +kernel) (by decide +kernel)
theorem r80_16 : en_R cs 80 d post 16 lo (.inl b :: .inl a :: st) f = (¬ b = 0 ∧ en_R cs 80 d post 17 lo (.inl (a - a / b * b) :: st) f) := ru_irem (show en_cd 80 16 = some (.irem, 1, 0, 0) by decide +kernel)
theorem r80_17 : en_R cs 80 d post 17 (a0 :: a1 :: a2 :: lo) (.inl x :: st) f = en_R cs 80 d post 18 (a0 :: a1 :: some (.inl x) :: lo) st f := ru_istore1 (show en_cd 80 17 = some (.istore_n 2, 1, 0, 0) by decide +kernel) (Nat.lt_of_lt_of_le (by decide : 2 < 3) (Nat.le_add_left 3 lo.length))
theorem r80_18 : en_R cs 80 d post 18 (some (.inr q) :: lo) st f = en_R cs 80 d post 19 (some (.inr q) :: lo) (.inr q :: st) f := ru_aload1 (show en_cd 80 18 = some (.aload_n 0, 1, 0, 0) by decide +kernel) rfl
theorem r80_19 : en_R cs 80 d post 19 lo (.inr (0, i) :: st) f = (i < 1 ∧ en_R cs 80 d post 22 lo (.inr (1, i) :: st) f) := ru_getR (show en_cd 80 19 = some (.getfield 11, 3, 0, 0) by decide +kernel) (by decide +kernel) (by decide +kernel)
theorem r80_22 : en_R cs 80 d post 22 (a0 :: a1 :: some (.inl x) :: lo) st f = en_R cs 80 d post 23 (a0 :: a1 :: some (.inl x) :: lo) (.inl x :: st) f := ru_load1 (show en_cd 80 22 = some (.iload_n 2, 1, 0, 0) by decide +kernel) rfl
theorem r80_23 : en_R cs 80 d post 23 lo (.inl x :: .inr (1, i) :: st) f = (i < 1 ∧ en_inr x 6 = true ∧ en_R cs 80 d post 24 lo (.inr (3, x.toNatClampNeg) :: st) f) := ru_aald (show en_cd 80 23 = some (.aaload, 1, 0, 0) by decide +kernel) (by decide +kernel) (by decide +kernel) (by decide +kernel) (by decide +kernel)
theorem r80_24 : en_R cs 80 d post 24 lo st f = en_R cs 80 d post 25 lo (.inl 1 :: st) f := ru_iconst (show en_cd 80 24 = some (.iconst 1, 1, 0, 0) by decide +kernel) (by decide +kernel)
theorem r80_25 : en_R cs 80 d post 25 lo (u1 :: .inr (3, i) :: st) f = (st.length ≤ 8 ∧ i < 6 ∧ en_Ev d 27 [.inr (3, i), u1] f (fun r g => en_R cs 80 d post 28 lo (r.toList ++ st) g)) := ru_iv (al := [u1]) (show en_cd 80 25 = some (.invokevirtual 165, 3, 27, 0) by decide +kernel) (by decide +kernel) (show en_np 27 = 1 by decide +kernel) (by decide +kernel) rfl
theorem r80_28 : en_R cs 80 d post 28 lo (.inl a :: st) f = (if a = 0 then en_R cs 80 d post 39 lo st f else en_R cs 80 d post 31 lo st f) := ru_ifeq (show en_cd 80 28 = some (.ifCond .eq 11, 3, 0, 0) by decide +kernel) (by decide +kernel)
theorem r80_31 : en_R cs 80 d post 31 (some (.inr q) :: lo) st f = en_R cs 80 d post 32 (some (.inr q) :: lo) (.inr q :: st) f := ru_aload1 (show en_cd 80 31 = some (.aload_n 0, 1, 0, 0) by decide +kernel) rfl
theorem r80_32 : en_R cs 80 d post 32 (a0 :: a1 :: some (.inl x) :: lo) st f = en_R cs 80 d post 33 (a0 :: a1 :: some (.inl x) :: lo) (.inl x :: st) f := ru_load1 (show en_cd 80 32 = some (.iload_n 2, 1, 0, 0) by decide +kernel) rfl
theorem r80_33 : en_R cs 80 d post 33 lo (u1 :: .inr (0, i) :: st) f = (st.length ≤ 8 ∧ i < 1 ∧ en_Ev d 85 [.inr (0, i), u1] f (fun r g => en_R cs 80 d post 36 lo (r.toList ++ st) g)) := ru_iv (al := [u1]) (show en_cd 80 33 = some (.invokevirtual 307, 3, 85, 0) by decide +kernel) (by decide +kernel) (show en_np 85 = 1 by decide +kernel) (by decide +kernel) rfl
theorem r80_36 : en_R cs 80 d post 36 lo st f = en_R cs 80 d post 40 lo st f := ru_goto (show en_cd 80 36 = some (.goto 4, 3, 0, 0) by decide +kernel) (by decide +kernel)
theorem r80_39 : en_R cs 80 d post 39 lo st f = en_R cs 80 d post 40 lo (.inl (-1) :: st) f := ru_iconst (show en_cd 80 39 = some (.iconst (-1), 1, 0, 0) by decide +kernel) (by decide +kernel)
theorem r80_40 : en_R cs 80 d post 40 (a0 :: a1 :: a2 :: a3 :: lo) (.inl x :: st) f = en_R cs 80 d post 41 (a0 :: a1 :: a2 :: some (.inl x) :: lo) st f := ru_istore1 (show en_cd 80 40 = some (.istore_n 3, 1, 0, 0) by decide +kernel) (Nat.lt_of_lt_of_le (by decide : 3 < 4) (Nat.le_add_left 4 lo.length))
theorem r80_41 : en_R cs 80 d post 41 (a0 :: a1 :: a2 :: some (.inl x) :: lo) st f = en_R cs 80 d post 42 (a0 :: a1 :: a2 :: some (.inl x) :: lo) (.inl x :: st) f := ru_load1 (show en_cd 80 41 = some (.iload_n 3, 1, 0, 0) by decide +kernel) rfl
theorem r80_42 : en_R cs 80 d post 42 lo (.inl a :: st) f = (if a < 0 then en_R cs 80 d post 47 lo st f else en_R cs 80 d post 45 lo st f) := ru_iflt (show en_cd 80 42 = some (.ifCond .lt 5, 3, 0, 0) by decide +kernel) (by decide +kernel)
theorem r80_45 : en_R cs 80 d post 45 (a0 :: a1 :: a2 :: some (.inl x) :: lo) st f = en_R cs 80 d post 46 (a0 :: a1 :: a2 :: some (.inl x) :: lo) (.inl x :: st) f := ru_load1 (show en_cd 80 45 = some (.iload_n 3, 1, 0, 0) by decide +kernel) rfl
theorem r80_46 : en_R cs 80 d post 46 lo ([.inl x]) f = post (some (.inl x)) f := ru_ire1 (show en_cd 80 46 = some (.ireturn, 1, 0, 0) by decide +kernel) (by decide +kernel)
theorem r80_47 : en_R cs 80 d post 47 (a0 :: some (.inl x) :: lo) st f = en_R cs 80 d post 50 (a0 :: some (.inl (x + 1)) :: lo) st f := ru_iinc (show en_cd 80 47 = some (.iinc 1 1, 3, 0, 0) by decide +kernel) (by decide +kernel) rfl
theorem r80_50 : en_R cs 80 d post 50 lo st f = en_R cs 80 d post 2 lo st f := ru_goto (show en_cd 80 50 = some (.goto (-48), 3, 0, 0) by decide +kernel) (by decide +kernel)
theorem r80_53 : en_R cs 80 d post 53 lo st f = en_R cs 80 d post 54 lo (.inl (-1) :: st) f := ru_iconst (show en_cd 80 53 = some (.iconst (-1), 1, 0, 0) by decide +kernel) (by decide +kernel)
theorem r80_54 : en_R cs 80 d post 54 lo ([.inl x]) f = post (some (.inl x)) f := ru_ire1 (show en_cd 80 54 = some (.ireturn, 1, 0, 0) by decide +kernel) (by decide +kernel)
theorem r81_0 : en_R cs 81 d post 0 (a0 :: some (.inr q) :: lo) st f = en_R cs 81 d post 1 (a0 :: some (.inr q) :: lo) (.inr q :: st) f := ru_aload1 (show en_cd 81 0 = some (.aload_n 1, 1, 0, 0) by decide +kernel) rfl
theorem r81_1 : en_R cs 81 d post 1 lo (.inr (8, i) :: st) f = (i < 16 ∧ en_R cs 81 d post 4 lo (.inl (f.1 8 i 2) :: st) f) := ru_getI (show en_cd 81 1 = some (.getfield 177, 3, 8, 2) by decide +kernel) (by decide +kernel) (by decide +kernel) (by decide +kernel)
theorem r81_4 : en_R cs 81 d post 4 (a0 :: a1 :: a2 :: lo) (.inl x :: st) f = en_R cs 81 d post 5 (a0 :: a1 :: some (.inl x) :: lo) st f := ru_istore1 (show en_cd 81 4 = some (.istore_n 2, 1, 0, 0) by decide +kernel) (Nat.lt_of_lt_of_le (by decide : 2 < 3) (Nat.le_add_left 3 lo.length))
theorem r81_5 : en_R cs 81 d post 5 (some (.inr q) :: lo) st f = en_R cs 81 d post 6 (some (.inr q) :: lo) (.inr q :: st) f := ru_aload1 (show en_cd 81 5 = some (.aload_n 0, 1, 0, 0) by decide +kernel) rfl
theorem r81_6 : en_R cs 81 d post 6 lo (.inr (0, i) :: st) f = (i < 1 ∧ en_R cs 81 d post 9 lo (.inr (1, i) :: st) f) := ru_getR (show en_cd 81 6 = some (.getfield 11, 3, 0, 0) by decide +kernel) (by decide +kernel) (by decide +kernel)
theorem r81_9 : en_R cs 81 d post 9 (a0 :: a1 :: some (.inl x) :: lo) st f = en_R cs 81 d post 10 (a0 :: a1 :: some (.inl x) :: lo) (.inl x :: st) f := ru_load1 (show en_cd 81 9 = some (.iload_n 2, 1, 0, 0) by decide +kernel) rfl
theorem r81_10 : en_R cs 81 d post 10 lo (.inl x :: .inr (1, i) :: st) f = (i < 1 ∧ en_inr x 6 = true ∧ en_R cs 81 d post 11 lo (.inr (3, x.toNatClampNeg) :: st) f) := ru_aald (show en_cd 81 10 = some (.aaload, 1, 0, 0) by decide +kernel) (by decide +kernel) (by decide +kernel) (by decide +kernel) (by decide +kernel)
theorem r81_11 : en_R cs 81 d post 11 (a0 :: a1 :: a2 :: a3 :: lo) (.inr q :: st) f = en_R cs 81 d post 12 (a0 :: a1 :: a2 :: some (.inr q) :: lo) st f := ru_astore1 (show en_cd 81 11 = some (.astore_n 3, 1, 0, 0) by decide +kernel) (Nat.lt_of_lt_of_le (by decide : 3 < 4) (Nat.le_add_left 4 lo.length))
theorem r81_12 : en_R cs 81 d post 12 (some (.inr q) :: lo) st f = en_R cs 81 d post 13 (some (.inr q) :: lo) (.inr q :: st) f := ru_aload1 (show en_cd 81 12 = some (.aload_n 0, 1, 0, 0) by decide +kernel) rfl
theorem r81_13 : en_R cs 81 d post 13 (a0 :: a1 :: some (.inl x) :: lo) st f = en_R cs 81 d post 14 (a0 :: a1 :: some (.inl x) :: lo) (.inl x :: st) f := ru_load1 (show en_cd 81 13 = some (.iload_n 2, 1, 0, 0) by decide +kernel) rfl
theorem r81_14 : en_R cs 81 d post 14 lo (.inl x :: .inr (0, i) :: st) f = (i < 1 ∧ en_R cs 81 d post 17 lo st (en_up f.1 0 i 6 x, f.2)) := ru_putI (show en_cd 81 14 = some (.putfield 35, 3, 0, 6) by decide +kernel) (by decide +kernel) (by decide +kernel) (by decide +kernel)
theorem r81_17 : en_R cs 81 d post 17 (a0 :: some (.inr q) :: lo) st f = en_R cs 81 d post 18 (a0 :: some (.inr q) :: lo) (.inr q :: st) f := ru_aload1 (show en_cd 81 17 = some (.aload_n 1, 1, 0, 0) by decide +kernel) rfl
theorem r81_18 : en_R cs 81 d post 18 (a0 :: a1 :: a2 :: some (.inr q) :: lo) st f = en_R cs 81 d post 19 (a0 :: a1 :: a2 :: some (.inr q) :: lo) (.inr q :: st) f := ru_aload1 (show en_cd 81 18 = some (.aload_n 3, 1, 0, 0) by decide +kernel) rfl
theorem r81_19 : en_R cs 81 d post 19 lo (.inr (3, i) :: st) f = (i < 6 ∧ en_R cs 81 d post 22 lo (.inl (f.1 3 i 8) :: st) f) := ru_getI (show en_cd 81 19 = some (.getfield 202, 3, 3, 8) by decide +kernel) (by decide +kernel) (by decide +kernel) (by decide +kernel)
theorem r81_22 : en_R cs 81 d post 22 lo (u1 :: .inr (8, i) :: st) f = (st.length ≤ 8 ∧ i < 16 ∧ en_Ev d 8 [.inr (8, i), u1] f (fun r g => en_R cs 81 d post 25 lo (r.toList ++ st) g)) := ru_iv (al := [u1]) (show en_cd 81 22 = some (.invokevirtual 310, 3, 8, 0) by decide +kernel) (by decide +kernel) (show en_np 8 = 1 by decide +kernel) (by decide +kernel) rfl
theorem r81_25 : en_R cs 81 d post 25 lo (.inl a :: st) f = (if a = 0 then en_R cs 81 d post 44 lo st f else en_R cs 81 d post 28 lo st f) := ru_ifeq (show en_cd 81 25 = some (.ifCond .eq 19, 3, 0, 0) by decide +kernel) (by decide +kernel)
theorem r81_28 : en_R cs 81 d post 28 (some (.inr q) :: lo) st f = en_R cs 81 d post 29 (some (.inr q) :: lo) (.inr q :: st) f := ru_aload1 (show en_cd 81 28 = some (.aload_n 0, 1, 0, 0) by decide +kernel) rfl
theorem r81_29 : en_R cs 81 d post 29 (a0 :: a1 :: a2 :: some (.inr q) :: lo) st f = en_R cs 81 d post 30 (a0 :: a1 :: a2 :: some (.inr q) :: lo) (.inr q :: st) f := ru_aload1 (show en_cd 81 29 = some (.aload_n 3, 1, 0, 0) by decide +kernel) rfl
theorem r81_30 : en_R cs 81 d post 30 (a0 :: some (.inr q) :: lo) st f = en_R cs 81 d post 31 (a0 :: some (.inr q) :: lo) (.inr q :: st) f := ru_aload1 (show en_cd 81 30 = some (.aload_n 1, 1, 0, 0) by decide +kernel) rfl
theorem r81_31 : en_R cs 81 d post 31 (a0 :: a1 :: a2 :: some (.inr q) :: lo) st f = en_R cs 81 d post 32 (a0 :: a1 :: a2 :: some (.inr q) :: lo) (.inr q :: st) f := ru_aload1 (show en_cd 81 31 = some (.aload_n 3, 1, 0, 0) by decide +kernel) rfl
theorem r81_32 : en_R cs 81 d post 32 lo (.inr (3, i) :: st) f = (i < 6 ∧ en_R cs 81 d post 35 lo (.inl (f.1 3 i 8) :: st) f) := ru_getI (show en_cd 81 32 = some (.getfield 202, 3, 3, 8) by decide +kernel) (by decide +kernel) (by decide +kernel) (by decide +kernel)
theorem r81_35 : en_R cs 81 d post 35 lo (u1 :: .inr (8, i) :: st) f = (st.length ≤ 8 ∧ i < 16 ∧ en_Ev d 9 [.inr (8, i), u1] f (fun r g => en_R cs 81 d post 38 lo (r.toList ++ st) g)) := ru_iv (al := [u1]) (show en_cd 81 35 = some (.invokevirtual 313, 3, 9, 0) by decide +kernel) (by decide +kernel) (show en_np 9 = 1 by decide +kernel) (by decide +kernel) rfl
theorem r81_38 : en_R cs 81 d post 38 lo (u2 :: u1 :: .inr (0, i) :: st) f = (st.length ≤ 8 ∧ i < 1 ∧ en_Ev d 67 [.inr (0, i), u1, u2] f (fun r g => en_R cs 81 d post 41 lo (r.toList ++ st) g)) := ru_iv (al := [u1, u2]) (show en_cd 81 38 = some (.invokevirtual 316, 3, 67, 0) by decide +kernel) (by decide +kernel) (show en_np 67 = 2 by decide +kernel) (by decide +kernel) rfl
theorem r81_41 : en_R cs 81 d post 41 lo st f = en_R cs 81 d post 49 lo st f := ru_goto (show en_cd 81 41 = some (.goto 8, 3, 0, 0) by decide +kernel) (by decide +kernel)
theorem r81_44 : en_R cs 81 d post 44 (some (.inr q) :: lo) st f = en_R cs 81 d post 45 (some (.inr q) :: lo) (.inr q :: st) f := ru_aload1 (show en_cd 81 44 = some (.aload_n 0, 1, 0, 0) by decide +kernel) rfl
theorem r81_45 : en_R cs 81 d post 45 (a0 :: a1 :: a2 :: some (.inr q) :: lo) st f = en_R cs 81 d post 46 (a0 :: a1 :: a2 :: some (.inr q) :: lo) (.inr q :: st) f := ru_aload1 (show en_cd 81 45 = some (.aload_n 3, 1, 0, 0) by decide +kernel) rfl
theorem r81_46 : en_R cs 81 d post 46 lo (u1 :: .inr (0, i) :: st) f = (st.length ≤ 8 ∧ i < 1 ∧ en_Ev d 68 [.inr (0, i), u1] f (fun r g => en_R cs 81 d post 49 lo (r.toList ++ st) g)) := ru_iv (al := [u1]) (show en_cd 81 46 = some (.invokevirtual 260, 3, 68, 0) by decide +kernel) (by decide +kernel) (show en_np 68 = 1 by decide +kernel) (by decide +kernel) rfl
theorem r81_49 : en_R cs 81 d post 49 (a0 :: a1 :: a2 :: a3 :: a4 :: lo) (.inl x :: st) f = en_R cs 81 d post 51 (a0 :: a1 :: a2 :: a3 :: some (.inl x) :: lo) st f := ru_istore2 (show en_cd 81 49 = some (.istore 4, 2, 0, 0) by decide +kernel) (Nat.lt_of_lt_of_le (by decide : 4 < 5) (Nat.le_add_left 5 lo.length))
theorem r81_51 : en_R cs 81 d post 51 (a0 :: a1 :: a2 :: some (.inr q) :: lo) st f = en_R cs 81 d post 52 (a0 :: a1 :: a2 :: some (.inr q) :: lo) (.inr q :: st) f := ru_aload1 (show en_cd 81 51 = some (.aload_n 3, 1, 0, 0) by decide +kernel) rfl
theorem r81_52 : en_R cs 81 d post 52 (a0 :: a1 :: a2 :: a3 :: some (.inl x) :: lo) st f = en_R cs 81 d post 54 (a0 :: a1 :: a2 :: a3 :: some (.inl x) :: lo) (.inl x :: st) f := ru_load2 (show en_cd 81 52 = some (.iload 4, 2, 0, 0) by decide +kernel) rfl
theorem r81_54 : en_R cs 81 d post 54 lo (.inl a :: st) f = (if a = 0 then en_R cs 81 d post 57 lo st f else en_R cs 81 d post 61 lo st f) := ru_ifne (show en_cd 81 54 = some (.ifCond .ne 7, 3, 0, 0) by decide +kernel) (by decide +kernel)
theorem r81_57 : en_R cs 81 d post 57 lo st f = en_R cs 81 d post 58 lo (.inl 1 :: st) f := ru_iconst (show en_cd 81 57 = some (.iconst 1, 1, 0, 0) by decide +kernel) (by decide +kernel)
theorem r81_58 : en_R cs 81 d post 58 lo st f = en_R cs 81 d post 62 lo st f := ru_goto (show en_cd 81 58 = some (.goto 4, 3, 0, 0) by decide +kernel) (by decide +kernel)
theorem r81_61 : en_R cs 81 d post 61 lo st f = en_R cs 81 d post 62 lo (.inl 0 :: st) f := ru_iconst (show en_cd 81 61 = some (.iconst 0, 1, 0, 0) by decide +kernel) (by decide +kernel)
theorem r81_62 : en_R cs 81 d post 62 lo (u1 :: .inr (3, i) :: st) f = (st.length ≤ 8 ∧ i < 6 ∧ en_Ev d 32 [.inr (3, i), u1] f (fun r g => en_R cs 81 d post 65 lo (r.toList ++ st) g)) := ru_iv (al := [u1]) (show en_cd 81 62 = some (.invokevirtual 264, 3, 32, 0) by decide +kernel) (by decide +kernel) (show en_np 32 = 1 by decide +kernel) (by decide +kernel) rfl
theorem r81_65 : en_R cs 81 d post 65 lo (.inl a :: st) f = (if a = 0 then en_R cs 81 d post 81 lo st f else en_R cs 81 d post 68 lo st f) := ru_ifeq (show en_cd 81 65 = some (.ifCond .eq 16, 3, 0, 0) by decide +kernel) (by decide +kernel)
theorem r81_68 : en_R cs 81 d post 68 (a0 :: some (.inr q) :: lo) st f = en_R cs 81 d post 69 (a0 :: some (.inr q) :: lo) (.inr q :: st) f := ru_aload1 (show en_cd 81 68 = some (.aload_n 1, 1, 0, 0) by decide +kernel) rfl
theorem r81_69 : en_R cs 81 d post 69 lo st f = en_R cs 81 d post 70 lo (.inl 2 :: st) f := ru_iconst (show en_cd 81 69 = some (.iconst 2, 1, 0, 0) by decide +kernel) (by decide +kernel)
theorem r81_70 : en_R cs 81 d post 70 lo (u1 :: .inr (8, i) :: st) f = (st.length ≤ 8 ∧ i < 16 ∧ en_Ev d 12 [.inr (8, i), u1] f (fun r g => en_R cs 81 d post 73 lo (r.toList ++ st) g)) := ru_iv (al := [u1]) (show en_cd 81 70 = some (.invokevirtual 180, 3, 12, 0) by decide +kernel) (by decide +kernel) (show en_np 12 = 1 by decide +kernel) (by decide +kernel) rfl
theorem r81_73 : en_R cs 81 d post 73 (some (.inr q) :: lo) st f = en_R cs 81 d post 74 (some (.inr q) :: lo) (.inr q :: st) f := ru_aload1 (show en_cd 81 73 = some (.aload_n 0, 1, 0, 0) by decide +kernel) rfl
theorem r81_74 : en_R cs 81 d post 74 (a0 :: a1 :: some (.inl x) :: lo) st f = en_R cs 81 d post 75 (a0 :: a1 :: some (.inl x) :: lo) (.inl x :: st) f := ru_load1 (show en_cd 81 74 = some (.iload_n 2, 1, 0, 0) by decide +kernel) rfl
theorem r81_75 : en_R cs 81 d post 75 lo (u1 :: .inr (0, i) :: st) f = (st.length ≤ 8 ∧ i < 1 ∧ en_Ev d 60 [.inr (0, i), u1] f (fun r g => en_R cs 81 d post 78 lo (r.toList ++ st) g)) := ru_iv (al := [u1]) (show en_cd 81 75 = some (.invokevirtual 268, 3, 60, 0) by decide +kernel) (by decide +kernel) (show en_np 60 = 1 by decide +kernel) (by decide +kernel) rfl
theorem r81_78 : en_R cs 81 d post 78 lo st f = en_R cs 81 d post 93 lo st f := ru_goto (show en_cd 81 78 = some (.goto 15, 3, 0, 0) by decide +kernel) (by decide +kernel)
theorem r81_81 : en_R cs 81 d post 81 (a0 :: a1 :: a2 :: a3 :: some (.inl x) :: lo) st f = en_R cs 81 d post 83 (a0 :: a1 :: a2 :: a3 :: some (.inl x) :: lo) (.inl x :: st) f := ru_load2 (show en_cd 81 81 = some (.iload 4, 2, 0, 0) by decide +kernel) rfl
theorem r81_83 : en_R cs 81 d post 83 lo st f = en_R cs 81 d post 84 lo (.inl 3 :: st) f := ru_iconst (show en_cd 81 83 = some (.iconst 3, 1, 0, 0) by decide +kernel) (by decide +kernel)
theorem r81_84 : en_R cs 81 d post 84 lo (.inl b :: .inl a :: st) f = (if a = b then en_R cs 81 d post 87 lo st f else en_R cs 81 d post 93 lo st f) := ru_icne (show en_cd 81 84 = some (.if_icmp .ne 9, 3, 0, 0) by decide +kernel) (by decide +kernel)
theorem r81_87 : en_R cs 81 d post 87 (some (.inr q) :: lo) st f = en_R cs 81 d post 88 (some (.inr q) :: lo) (.inr q :: st) f := ru_aload1 (show en_cd 81 87 = some (.aload_n 0, 1, 0, 0) by decide +kernel) rfl
theorem r81_88 : en_R cs 81 d post 88 (a0 :: a1 :: a2 :: some (.inr q) :: lo) st f = en_R cs 81 d post 89 (a0 :: a1 :: a2 :: some (.inr q) :: lo) (.inr q :: st) f := ru_aload1 (show en_cd 81 88 = some (.aload_n 3, 1, 0, 0) by decide +kernel) rfl
theorem r81_89 : en_R cs 81 d post 89 (a0 :: some (.inr q) :: lo) st f = en_R cs 81 d post 90 (a0 :: some (.inr q) :: lo) (.inr q :: st) f := ru_aload1 (show en_cd 81 89 = some (.aload_n 1, 1, 0, 0) by decide +kernel) rfl
theorem r81_90 : en_R cs 81 d post 90 lo (u2 :: u1 :: .inr (0, i) :: st) f = (st.length ≤ 8 ∧ i < 1 ∧ en_Ev d 82 [.inr (0, i), u1, u2] f (fun r g => en_R cs 81 d post 93 lo (r.toList ++ st) g)) := ru_iv (al := [u1, u2]) (show en_cd 81 90 = some (.invokevirtual 320, 3, 82, 0) by decide +kernel) (by decide +kernel) (show en_np 82 = 2 by decide +kernel) (by decide +kernel) rfl
theorem r81_93 : en_R cs 81 d post 93 lo [] f = post none f := ru_vre (show en_cd 81 93 = some (.return_, 1, 0, 0) by decide +kernel) (by decide +kernel)
theorem r82_0 : en_R cs 82 d post 0 (a0 :: some (.inr q) :: lo) st f = en_R cs 82 d post 1 (a0 :: some (.inr q) :: lo) (.inr q :: st) f := ru_aload1 (show en_cd 82 0 = some (.aload_n 1, 1, 0, 0) by decide +kernel) rfl
theorem r82_1 : en_R cs 82 d post 1 lo (.inr (3, i) :: st) f = (i < 6 ∧ en_R cs 82 d post 4 lo (.inl (f.1 3 i 8) :: st) f) := ru_getI (show en_cd 82 1 = some (.getfield 202, 3, 3, 8) by decide +kernel) (by decide +kernel) (by decide +kernel) (by decide +kernel)
theorem r82_4 : en_R cs 82 d post 4 (a0 :: a1 :: some (.inr q) :: lo) st f = en_R cs 82 d post 5 (a0 :: a1 :: some (.inr q) :: lo) (.inr q :: st) f := ru_aload1 (show en_cd 82 4 = some (.aload_n 2, 1, 0, 0) by decide +kernel) rfl
theorem r82_5 : en_R cs 82 d post 5 lo (.inr (8, i) :: st) f = (i < 16 ∧ en_R cs 82 d post 8 lo (.inl (f.1 8 i 4) :: st) f) := ru_getI (show en_cd 82 5 = some (.getfield 324, 3, 8, 4) by decide +kernel) (by decide +kernel) (by decide +kernel) (by decide +kernel)
theorem r82_8 : en_R cs 82 d post 8 lo (.inl b :: .inl a :: st) f = (if a ≤ b then en_R cs 82 d post 22 lo st f else en_R cs 82 d post 11 lo st f) := ru_icle (show en_cd 82 8 = some (.if_icmp .le 14, 3, 0, 0) by decide +kernel) (by decide +kernel)
theorem r82_11 : en_R cs 82 d post 11 (a0 :: a1 :: some (.inr q) :: lo) st f = en_R cs 82 d post 12 (a0 :: a1 :: some (.inr q) :: lo) (.inr q :: st) f := ru_aload1 (show en_cd 82 11 = some (.aload_n 2, 1, 0, 0) by decide +kernel) rfl
theorem r82_12 : en_R cs 82 d post 12 lo st f = en_R cs 82 d post 13 lo (.inl 1 :: st) f := ru_iconst (show en_cd 82 12 = some (.iconst 1, 1, 0, 0) by decide +kernel) (by decide +kernel)
theorem r82_13 : en_R cs 82 d post 13 lo (u1 :: .inr (8, i) :: st) f = (st.length ≤ 8 ∧ i < 16 ∧ en_Ev d 12 [.inr (8, i), u1] f (fun r g => en_R cs 82 d post 16 lo (r.toList ++ st) g)) := ru_iv (al := [u1]) (show en_cd 82 13 = some (.invokevirtual 180, 3, 12, 0) by decide +kernel) (by decide +kernel) (show en_np 12 = 1 by decide +kernel) (by decide +kernel) rfl
theorem r82_16 : en_R cs 82 d post 16 (a0 :: some (.inr q) :: lo) st f = en_R cs 82 d post 17 (a0 :: some (.inr q) :: lo) (.inr q :: st) f := ru_aload1 (show en_cd 82 16 = some (.aload_n 1, 1, 0, 0) by decide +kernel) rfl
theorem r82_17 : en_R cs 82 d post 17 lo st f = en_R cs 82 d post 18 lo (.inl 0 :: st) f := ru_iconst (show en_cd 82 17 = some (.iconst 0, 1, 0, 0) by decide +kernel) (by decide +kernel)
theorem r82_18 : en_R cs 82 d post 18 lo (.inl x :: .inr (3, i) :: st) f = (i < 6 ∧ en_R cs 82 d post 21 lo st (en_up f.1 3 i 8 x, f.2)) := ru_putI (show en_cd 82 18 = some (.putfield 202, 3, 3, 8) by decide +kernel) (by decide +kernel) (by decide +kernel) (by decide +kernel)
theorem r82_21 : en_R cs 82 d post 21 lo [] f = post none f := ru_vre (show en_cd 82 21 = some (.return_, 1, 0, 0) by decide +kernel) (by decide +kernel)
theorem r82_22 : en_R cs 82 d post 22 (a0 :: a1 :: some (.inr q) :: lo) st f = en_R cs 82 d post 23 (a0 :: a1 :: some (.inr q) :: lo) (.inr q :: st) f := ru_aload1 (show en_cd 82 22 = some (.aload_n 2, 1, 0, 0) by decide +kernel) rfl
theorem r82_23 : en_R cs 82 d post 23 (a0 :: some (.inr q) :: lo) st f = en_R cs 82 d post 24 (a0 :: some (.inr q) :: lo) (.inr q :: st) f := ru_aload1 (show en_cd 82 23 = some (.aload_n 1, 1, 0, 0) by decide +kernel) rfl
theorem r82_24 : en_R cs 82 d post 24 lo (.inr (3, i) :: st) f = (i < 6 ∧ en_R cs 82 d post 27 lo (.inl (f.1 3 i 8) :: st) f) := ru_getI (show en_cd 82 24 = some (.getfield 202, 3, 3, 8) by decide +kernel) (by decide +kernel) (by decide +kernel) (by decide +kernel)
theorem r82_27 : en_R cs 82 d post 27 lo (u1 :: .inr (8, i) :: st) f = (st.length ≤ 8 ∧ i < 16 ∧ en_Ev d 8 [.inr (8, i), u1] f (fun r g => en_R cs 82 d post 30 lo (r.toList ++ st) g)) := ru_iv (al := [u1]) (show en_cd 82 27 = some (.invokevirtual 310, 3, 8, 0) by decide +kernel) (by decide +kernel) (show en_np 8 = 1 by decide +kernel) (by decide +kernel) rfl
theorem r82_30 : en_R cs 82 d post 30 lo (.inl a :: st) f = (if a = 0 then en_R cs 82 d post 33 lo st f else en_R cs 82 d post 41 lo st f) := ru_ifne (show en_cd 82 30 = some (.ifCond .ne 11, 3, 0, 0) by decide +kernel) (by decide +kernel)
theorem r82_33 : en_R cs 82 d post 33 (a0 :: a1 :: some (.inr q) :: lo) st f = en_R cs 82 d post 34 (a0 :: a1 :: some (.inr q) :: lo) (.inr q :: st) f := ru_aload1 (show en_cd 82 33 = some (.aload_n 2, 1, 0, 0) by decide +kernel) rfl
theorem r82_34 : en_R cs 82 d post 34 (some (.inr q) :: lo) st f = en_R cs 82 d post 35 (some (.inr q) :: lo) (.inr q :: st) f := ru_aload1 (show en_cd 82 34 = some (.aload_n 0, 1, 0, 0) by decide +kernel) rfl
theorem r82_35 : en_R cs 82 d post 35 lo (.inr (0, i) :: st) f = (i < 1 ∧ en_R cs 82 d post 38 lo (.inl (f.1 0 i 7) :: st) f) := ru_getI (show en_cd 82 35 = some (.getfield 231, 3, 0, 7) by decide +kernel) (by decide +kernel) (by decide +kernel) (by decide +kernel)
theorem r82_38 : en_R cs 82 d post 38 lo (u1 :: .inr (8, i) :: st) f = (st.length ≤ 8 ∧ i < 16 ∧ en_Ev d 10 [.inr (8, i), u1] f (fun r g => en_R cs 82 d post 41 lo (r.toList ++ st) g)) := ru_iv (al := [u1]) (show en_cd 82 38 = some (.invokevirtual 325, 3, 10, 0) by decide +kernel) (by decide +kernel) (show en_np 10 = 1 by decide +kernel) (by decide +kernel) rfl
theorem r82_41 : en_R cs 82 d post 41 (a0 :: some (.inr q) :: lo) st f = en_R cs 82 d post 42 (a0 :: some (.inr q) :: lo) (.inr q :: st) f := ru_aload1 (show en_cd 82 41 = some (.aload_n 1, 1, 0, 0) by decide +kernel) rfl
theorem r82_42 : en_R cs 82 d post 42 lo (u :: st) f = en_R cs 82 d post 43 lo (u :: u :: st) f := ru_dup (show en_cd 82 42 = some (.dup, 1, 0, 0) by decide +kernel)
theorem r82_43 : en_R cs 82 d post 43 lo (.inr (3, i) :: st) f = (i < 6 ∧ en_R cs 82 d post 46 lo (.inl (f.1 3 i 8) :: st) f) := ru_getI (show en_cd 82 43 = some (.getfield 202, 3, 3, 8) by decide +kernel) (by decide +kernel) (by decide +kernel) (by decide +kernel)
theorem r82_46 : en_R cs 82 d post 46 lo st f = en_R cs 82 d post 47 lo (.inl 1 :: st) f := ru_iconst (show en_cd 82 46 = some (.iconst 1, 1, 0, 0) by decide +kernel) (by decide +kernel)
theorem r82_47 : en_R cs 82 d post 47 lo (.inl b :: .inl a :: st) f = en_R cs 82 d post 48 lo (.inl (a + b) :: st) f := ru_iadd (show en_cd 82 47 = some (.iadd, 1, 0, 0) by decide +kernel)
theorem r82_48 : en_R cs 82 d post 48 lo (.inl x :: .inr (3, i) :: st) f = (i < 6 ∧ en_R cs 82 d post 51 lo st (en_up f.1 3 i 8 x, f.2)) := ru_putI (show en_cd 82 48 = some (.putfield 202, 3, 3, 8) by decide +kernel) (by decide +kernel) (by decide +kernel) (by decide +kernel)
theorem r82_51 : en_R cs 82 d post 51 lo [] f = post none f := ru_vre (show en_cd 82 51 = some (.return_, 1, 0, 0) by decide +kernel) (by decide +kernel)
theorem r83_0 : en_R cs 83 d post 0 (a0 :: some (.inl x) :: lo) st f = en_R cs 83 d post 1 (a0 :: some (.inl x) :: lo) (.inl x :: st) f := ru_load1 (show en_cd 83 0 = some (.iload_n 1, 1, 0, 0) by decide +kernel) rfl
theorem r83_1 : en_R cs 83 d post 1 lo (.inl a :: st) f = (if a < 0 then en_R cs 83 d post 16 lo st f else en_R cs 83 d post 4 lo st f) := ru_iflt (show en_cd 83 1 = some (.ifCond .lt 15, 3, 0, 0) by decide +kernel) (by decide +kernel)
theorem r83_4 : en_R cs 83 d post 4 (a0 :: some (.inl x) :: lo) st f = en_R cs 83 d post 5 (a0 :: some (.inl x) :: lo) (.inl x :: st) f := ru_load1 (show en_cd 83 4 = some (.iload_n 1, 1, 0, 0) by decide +kernel) rfl
theorem r83_5 : en_R cs 83 d post 5 (some (.inr q) :: lo) st f = en_R cs 83 d post 6 (some (.inr q) :: lo) (.inr q :: st) f := ru_aload1 (show en_cd 83 5 = some (.aload_n 0, 1, 0, 0) by decide +kernel) rfl
theorem r83_6 : en_R cs 83 d post 6 lo (.inr (0, i) :: st) f = (i < 1 ∧ en_R cs 83 d post 9 lo (.inl (f.1 0 i 4) :: st) f) := ru_getI (show en_cd 83 6 = some (.getfield 174, 3, 0, 4) by decide +kernel) (by decide +kernel) (by decide +kernel) (by decide +kernel)
theorem r83_9 : en_R cs 83 d post 9 lo (.inl b :: .inl a :: st) f = (if b ≤ a then en_R cs 83 d post 16 lo st f else en_R cs 83 d post 12 lo st f) := ru_icge (show en_cd 83 9 = some (.if_icmp .ge 7, 3, 0, 0) by decide +kernel) (by decide +kernel)
theorem r83_12 : en_R cs 83 d post 12 lo st f = en_R cs 83 d post 13 lo (.inl 1 :: st) f := ru_iconst (show en_cd 83 12 = some (.iconst 1, 1, 0, 0) by decide +kernel) (by decide +kernel)
theorem r83_13 : en_R cs 83 d post 13 lo st f = en_R cs 83 d post 17 lo st f := ru_goto (show en_cd 83 13 = some (.goto 4, 3, 0, 0) by decide +kernel) (by decide +kernel)
theorem r83_16 : en_R cs 83 d post 16 lo st f = en_R cs 83 d post 17 lo (.inl 0 :: st) f := ru_iconst (show en_cd 83 16 = some (.iconst 0, 1, 0, 0) by decide +kernel) (by decide +kernel)
theorem r83_17 : en_R cs 83 d post 17 lo ([.inl x]) f = (en_isz x = true ∧ post (some (.inl x)) f) := ru_ire2 (show en_cd 83 17 = some (.ireturn, 1, 0, 0) by decide +kernel) (by decide +kernel)
theorem r84_0 : en_R cs 84 d post 0 (a0 :: some (.inl x) :: lo) st f = en_R cs 84 d post 1 (a0 :: some (.inl x) :: lo) (.inl x :: st) f := ru_load1 (show en_cd 84 0 = some (.iload_n 1, 1, 0, 0) by decide +kernel) rfl
theorem r84_1 : en_R cs 84 d post 1 lo (u1 :: st) f = (st.length ≤ 8 ∧ en_Ev d 49 [u1] f (fun r g => en_R cs 84 d post 4 lo (r.toList ++ st) g)) := ru_is (al := [u1]) (show en_cd 84 1 = some (.invokestatic 71, 3, 49, 0) by decide +kernel) (by decide +kernel) (show en_np 49 = 1 by decide +kernel) rfl
theorem r84_4 : en_R cs 84 d post 4 lo (.inl a :: st) f = (if a = 0 then en_R cs 84 d post 27 lo st f else en_R cs 84 d post 7 lo st f) := ru_ifeq (show en_cd 84 4 = some (.ifCond .eq 23, 3, 0, 0) by decide +kernel) (by decide +kernel)
theorem r84_7 : en_R cs 84 d post 7 (a0 :: a1 :: some (.inl x) :: lo) st f = en_R cs 84 d post 8 (a0 :: a1 :: some (.inl x) :: lo) (.inl x :: st) f := ru_load1 (show en_cd 84 7 = some (.iload_n 2, 1, 0, 0) by decide +kernel) rfl
theorem r84_8 : en_R cs 84 d post 8 lo (.inl a :: st) f = (if a < 0 then en_R cs 84 d post 27 lo st f else en_R cs 84 d post 11 lo st f) := ru_iflt (show en_cd 84 8 = some (.ifCond .lt 19, 3, 0, 0) by decide +kernel) (by decide +kernel)
theorem r84_11 : en_R cs 84 d post 11 (a0 :: a1 :: some (.inl x) :: lo) st f = en_R cs 84 d post 12 (a0 :: a1 :: some (.inl x) :: lo) (.inl x :: st) f := ru_load1 (show en_cd 84 11 = some (.iload_n 2, 1, 0, 0) by decide +kernel) rfl
theorem r84_12 : en_R cs 84 d post 12 lo st f = en_R cs 84 d post 14 lo (.inl 8 :: st) f := ru_bipush (show en_cd 84 12 = some (.bipush 8, 2, 0, 0) by decide +kernel) (by decide +kernel)
theorem r84_14 : en_R cs 84 d post 14 lo (.inl b :: .inl a :: st) f = (if b ≤ a then en_R cs 84 d post 27 lo st f else en_R cs 84 d post 17 lo st f) := ru_icge (show en_cd 84 14 = some (.if_icmp .ge 13, 3, 0, 0) by decide +kernel) (by decide +kernel)
theorem r84_17 : en_R cs 84 d post 17 (a0 :: a1 :: a2 :: some (.inl x) :: lo) st f = en_R cs 84 d post 18 (a0 :: a1 :: a2 :: some (.inl x) :: lo) (.inl x :: st) f := ru_load1 (show en_cd 84 17 = some (.iload_n 3, 1, 0, 0) by decide +kernel) rfl
theorem r84_18 : en_R cs 84 d post 18 lo st f = en_R cs 84 d post 19 lo (.inl 1 :: st) f := ru_iconst (show en_cd 84 18 = some (.iconst 1, 1, 0, 0) by decide +kernel) (by decide +kernel)
theorem r84_19 : en_R cs 84 d post 19 lo (.inl b :: .inl a :: st) f = (if a < b then en_R cs 84 d post 27 lo st f else en_R cs 84 d post 22 lo st f) := ru_iclt (show en_cd 84 19 = some (.if_icmp .lt 8, 3, 0, 0) by decide +kernel) (by decide +kernel)
theorem r84_22 : en_R cs 84 d post 22 (a0 :: a1 :: a2 :: some (.inl x) :: lo) st f = en_R cs 84 d post 23 (a0 :: a1 :: a2 :: some (.inl x) :: lo) (.inl x :: st) f := ru_load1 (show en_cd 84 22 = some (.iload_n 3, 1, 0, 0) by decide +kernel) rfl
theorem r84_23 : en_R cs 84 d post 23 lo st f = en_R cs 84 d post 24 lo (.inl 4 :: st) f := ru_iconst (show en_cd 84 23 = some (.iconst 4, 1, 0, 0) by decide +kernel) (by decide +kernel)
theorem r84_24 : en_R cs 84 d post 24 lo (.inl b :: .inl a :: st) f = (if a ≤ b then en_R cs 84 d post 29 lo st f else en_R cs 84 d post 27 lo st f) := ru_icle (show en_cd 84 24 = some (.if_icmp .le 5, 3, 0, 0) by decide +kernel) (by decide +kernel)
theorem r84_27 : en_R cs 84 d post 27 lo st f = en_R cs 84 d post 28 lo (.inl (-1) :: st) f := ru_iconst (show en_cd 84 27 = some (.iconst (-1), 1, 0, 0) by decide +kernel) (by decide +kernel)
theorem r84_28 : en_R cs 84 d post 28 lo ([.inl x]) f = post (some (.inl x)) f := ru_ire1 (show en_cd 84 28 = some (.ireturn, 1, 0, 0) by decide +kernel) (by decide +kernel)
theorem r84_29 : en_R cs 84 d post 29 (some (.inr q) :: lo) st f = en_R cs 84 d post 30 (some (.inr q) :: lo) (.inr q :: st) f := ru_aload1 (show en_cd 84 29 = some (.aload_n 0, 1, 0, 0) by decide +kernel) rfl
theorem r84_30 : en_R cs 84 d post 30 lo (.inr (0, i) :: st) f = (i < 1 ∧ en_R cs 84 d post 33 lo (.inl (f.1 0 i 4) :: st) f) := ru_getI (show en_cd 84 30 = some (.getfield 174, 3, 0, 4) by decide +kernel) (by decide +kernel) (by decide +kernel) (by decide +kernel)
theorem r84_33 : en_R cs 84 d post 33 lo st f = en_R cs 84 d post 35 lo (.inl 16 :: st) f := ru_bipush (show en_cd 84 33 = some (.bipush 16, 2, 0, 0) by decide +kernel) (by decide +kernel)
theorem r84_35 : en_R cs 84 d post 35 lo (.inl b :: .inl a :: st) f = (if b ≤ a then en_R cs 84 d post 51 lo st f else en_R cs 84 d post 38 lo st f) := ru_icge (show en_cd 84 35 = some (.if_icmp .ge 16, 3, 0, 0) by decide +kernel) (by decide +kernel)
theorem r84_38 : en_R cs 84 d post 38 (some (.inr q) :: lo) st f = en_R cs 84 d post 39 (some (.inr q) :: lo) (.inr q :: st) f := ru_aload1 (show en_cd 84 38 = some (.aload_n 0, 1, 0, 0) by decide +kernel) rfl
theorem r84_39 : en_R cs 84 d post 39 lo (.inr (0, i) :: st) f = (i < 1 ∧ en_R cs 84 d post 42 lo (.inr (1, i) :: st) f) := ru_getR (show en_cd 84 39 = some (.getfield 11, 3, 0, 0) by decide +kernel) (by decide +kernel) (by decide +kernel)
theorem r84_42 : en_R cs 84 d post 42 (a0 :: some (.inl x) :: lo) st f = en_R cs 84 d post 43 (a0 :: some (.inl x) :: lo) (.inl x :: st) f := ru_load1 (show en_cd 84 42 = some (.iload_n 1, 1, 0, 0) by decide +kernel) rfl
theorem r84_43 : en_R cs 84 d post 43 lo (.inl x :: .inr (1, i) :: st) f = (i < 1 ∧ en_inr x 6 = true ∧ en_R cs 84 d post 44 lo (.inr (3, x.toNatClampNeg) :: st) f) := ru_aald (show en_cd 84 43 = some (.aaload, 1, 0, 0) by decide +kernel) (by decide +kernel) (by decide +kernel) (by decide +kernel) (by decide +kernel)
theorem r84_44 : en_R cs 84 d post 44 lo st f = en_R cs 84 d post 45 lo (.inl 1 :: st) f := ru_iconst (show en_cd 84 44 = some (.iconst 1, 1, 0, 0) by decide +kernel) (by decide +kernel)
theorem r84_45 : en_R cs 84 d post 45 lo (u1 :: .inr (3, i) :: st) f = (st.length ≤ 8 ∧ i < 6 ∧ en_Ev d 27 [.inr (3, i), u1] f (fun r g => en_R cs 84 d post 48 lo (r.toList ++ st) g)) := ru_iv (al := [u1]) (show en_cd 84 45 = some (.invokevirtual 165, 3, 27, 0) by decide +kernel) (by decide +kernel) (show en_np 27 = 1 by decide +kernel) (by decide +kernel) rfl
theorem r84_48 : en_R cs 84 d post 48 lo (.inl a :: st) f = (if a = 0 then en_R cs 84 d post 51 lo st f else en_R cs 84 d post 53 lo st f) := ru_ifne (show en_cd 84 48 = some (.ifCond .ne 5, 3, 0, 0) by decide +kernel) (by decide +kernel)
theorem r84_51 : en_R cs 84 d post 51 lo st f = en_R cs 84 d post 52 lo (.inl (-1) :: st) f := ru_iconst (show en_cd 84 51 = some (.iconst (-1), 1, 0, 0) by decide +kernel) (by decide +kernel)
theorem r84_52 : en_R cs 84 d post 52 lo ([.inl x]) f = post (some (.inl x)) f := ru_ire1 (show en_cd 84 52 = some (.ireturn, 1, 0, 0) by decide +kernel) (by decide +kernel)
theorem r84_53 : en_R cs 84 d post 53 (some (.inr q) :: lo) st f = en_R cs 84 d post 54 (some (.inr q) :: lo) (.inr q :: st) f := ru_aload1 (show en_cd 84 53 = some (.aload_n 0, 1, 0, 0) by decide +kernel) rfl
theorem r84_54 : en_R cs 84 d post 54 lo (.inr (0, i) :: st) f = (i < 1 ∧ en_R cs 84 d post 57 lo (.inr (2, i) :: st) f) := ru_getR (show en_cd 84 54 = some (.getfield 17, 3, 0, 1) by decide +kernel) (by decide +kernel) (by decide +kernel)
theorem r84_57 : en_R cs 84 d post 57 (some (.inr q) :: lo) st f = en_R cs 84 d post 58 (some (.inr q) :: lo) (.inr q :: st) f := ru_aload1 (show en_cd 84 57 = some (.aload_n 0, 1, 0, 0) by decide +kernel) rfl
theorem r84_58 : en_R cs 84 d post 58 lo (.inr (0, i) :: st) f = (i < 1 ∧ en_R cs 84 d post 61 lo (.inl (f.1 0 i 4) :: st) f) := ru_getI (show en_cd 84 58 = some (.getfield 174, 3, 0, 4) by decide +kernel) (by decide +kernel) (by decide +kernel) (by decide +kernel)
theorem r84_61 : en_R cs 84 d post 61 lo (.inl x :: .inr (2, i) :: st) f = (i < 1 ∧ en_inr x 16 = true ∧ en_R cs 84 d post 62 lo (.inr (8, x.toNatClampNeg) :: st) f) := ru_aald (show en_cd 84 61 = some (.aaload, 1, 0, 0) by decide +kernel) (by decide +kernel) (by decide +kernel) (by decide +kernel) (by decide +kernel)
theorem r84_62 : en_R cs 84 d post 62 (a0 :: a1 :: a2 :: a3 :: a4 :: a5 :: a6 :: lo) (.inr q :: st) f = en_R cs 84 d post 64 (a0 :: a1 :: a2 :: a3 :: a4 :: a5 :: some (.inr q) :: lo) st f := ru_astore2 (show en_cd 84 62 = some (.astore 6, 2, 0, 0) by decide +kernel) (Nat.lt_of_lt_of_le (by decide : 6 < 7) (Nat.le_add_left 7 lo.length))
theorem r84_64 : en_R cs 84 d post 64 (a0 :: a1 :: a2 :: a3 :: a4 :: a5 :: some (.inr q) :: lo) st f = en_R cs 84 d post 66 (a0 :: a1 :: a2 :: a3 :: a4 :: a5 :: some (.inr q) :: lo) (.inr q :: st) f := ru_aload2 (show en_cd 84 64 = some (.aload 6, 2, 0, 0) by decide +kernel) rfl
theorem r84_66 : en_R cs 84 d post 66 (a0 :: some (.inl x) :: lo) st f = en_R cs 84 d post 67 (a0 :: some (.inl x) :: lo) (.inl x :: st) f := ru_load1 (show en_cd 84 66 = some (.iload_n 1, 1, 0, 0) by decide +kernel) rfl
theorem r84_67 : en_R cs 84 d post 67 lo (.inl x :: .inr (8, i) :: st) f = (i < 16 ∧ en_R cs 84 d post 70 lo st (en_up f.1 8 i 2 x, f.2)) := ru_putI (show en_cd 84 67 = some (.putfield 177, 3, 8, 2) by decide +kernel) (by decide +kernel) (by decide +kernel) (by decide +kernel)
theorem r84_70 : en_R cs 84 d post 70 (a0 :: a1 :: a2 :: a3 :: a4 :: a5 :: some (.inr q) :: lo) st f = en_R cs 84 d post 72 (a0 :: a1 :: a2 :: a3 :: a4 :: a5 :: some (.inr q) :: lo) (.inr q :: st) f := ru_aload2 (show en_cd 84 70 = some (.aload 6, 2, 0, 0) by decide +kernel) rfl
theorem r84_72 : en_R cs 84 d post 72 (a0 :: a1 :: some (.inl x) :: lo) st f = en_R cs 84 d post 73 (a0 :: a1 :: some (.inl x) :: lo) (.inl x :: st) f := ru_load1 (show en_cd 84 72 = some (.iload_n 2, 1, 0, 0) by decide +kernel) rfl
theorem r84_73 : en_R cs 84 d post 73 lo (.inl x :: .inr (8, i) :: st) f = (i < 16 ∧ en_R cs 84 d post 76 lo st (en_up f.1 8 i 3 x, f.2)) := ru_putI (show en_cd 84 73 = some (.putfield 328, 3, 8, 3) by decide +kernel) (by decide +kernel) (by decide +kernel) (by decide +kernel)
theorem r84_76 : en_R cs 84 d post 76 (a0 :: a1 :: a2 :: a3 :: a4 :: a5 :: some (.inr q) :: lo) st f = en_R cs 84 d post 78 (a0 :: a1 :: a2 :: a3 :: a4 :: a5 :: some (.inr q) :: lo) (.inr q :: st) f := ru_aload2 (show en_cd 84 76 = some (.aload 6, 2, 0, 0) by decide +kernel) rfl
theorem r84_78 : en_R cs 84 d post 78 (a0 :: a1 :: a2 :: some (.inl x) :: lo) st f = en_R cs 84 d post 79 (a0 :: a1 :: a2 :: some (.inl x) :: lo) (.inl x :: st) f := ru_load1 (show en_cd 84 78 = some (.iload_n 3, 1, 0, 0) by decide +kernel) rfl
theorem r84_79 : en_R cs 84 d post 79 lo (.inl x :: .inr (8, i) :: st) f = (i < 16 ∧ en_R cs 84 d post 82 lo st (en_up f.1 8 i 4 x, f.2)) := ru_putI (show en_cd 84 79 = some (.putfield 324, 3, 8, 4) by decide +kernel) (by decide +kernel) (by decide +kernel) (by decide +kernel)
theorem r84_82 : en_R cs 84 d post 82 (a0 :: a1 :: a2 :: a3 :: a4 :: a5 :: some (.inr q) :: lo) st f = en_R cs 84 d post 84 (a0 :: a1 :: a2 :: a3 :: a4 :: a5 :: some (.inr q) :: lo) (.inr q :: st) f := ru_aload2 (show en_cd 84 82 = some (.aload 6, 2, 0, 0) by decide +kernel) rfl
theorem r84_84 : en_R cs 84 d post 84 (a0 :: a1 :: a2 :: a3 :: some (.inl x) :: lo) st f = en_R cs 84 d post 86 (a0 :: a1 :: a2 :: a3 :: some (.inl x) :: lo) (.inl x :: st) f := ru_load2 (show en_cd 84 84 = some (.iload 4, 2, 0, 0) by decide +kernel) rfl
theorem r84_86 : en_R cs 84 d post 86 lo (.inl x :: .inr (8, i) :: st) f = (i < 16 ∧ en_isz x = true ∧ en_R cs 84 d post 89 lo st (en_up f.1 8 i 5 x, f.2)) := ru_putZ (show en_cd 84 86 = some (.putfield 331, 3, 8, 5) by decide +kernel) (by decide +kernel) (by decide +kernel) (by decide +kernel)
theorem r84_89 : en_R cs 84 d post 89 (a0 :: a1 :: a2 :: a3 :: a4 :: a5 :: some (.inr q) :: lo) st f = en_R cs 84 d post 91 (a0 :: a1 :: a2 :: a3 :: a4 :: a5 :: some (.inr q) :: lo) (.inr q :: st) f := ru_aload2 (show en_cd 84 89 = some (.aload 6, 2, 0, 0) by decide +kernel) rfl
theorem r84_91 : en_R cs 84 d post 91 (a0 :: a1 :: a2 :: a3 :: a4 :: some (.inl x) :: lo) st f = en_R cs 84 d post 93 (a0 :: a1 :: a2 :: a3 :: a4 :: some (.inl x) :: lo) (.inl x :: st) f := ru_load2 (show en_cd 84 91 = some (.iload 5, 2, 0, 0) by decide +kernel) rfl
theorem r84_93 : en_R cs 84 d post 93 lo (.inl x :: .inr (8, i) :: st) f = (i < 16 ∧ en_R cs 84 d post 96 lo st (en_up f.1 8 i 6 x, f.2)) := ru_putI (show en_cd 84 93 = some (.putfield 334, 3, 8, 6) by decide +kernel) (by decide +kernel) (by decide +kernel) (by decide +kernel)
theorem r84_96 : en_R cs 84 d post 96 (a0 :: a1 :: some (.inl x) :: lo) st f = en_R cs 84 d post 97 (a0 :: a1 :: some (.inl x) :: lo) (.inl x :: st) f := ru_load1 (show en_cd 84 96 = some (.iload_n 2, 1, 0, 0) by decide +kernel) rfl
theorem r84_97 : en_R cs 84 d post 97 (a0 :: a1 :: a2 :: some (.inl x) :: lo) st f = en_R cs 84 d post 98 (a0 :: a1 :: a2 :: some (.inl x) :: lo) (.inl x :: st) f := ru_load1 (show en_cd 84 97 = some (.iload_n 3, 1, 0, 0) by decide +kernel) rfl
theorem r84_98 : en_R cs 84 d post 98 lo (.inl b :: .inl a :: st) f = en_R cs 84 d post 99 lo (.inl (a + b) :: st) f := ru_iadd (show en_cd 84 98 = some (.iadd, 1, 0, 0) by decide +kernel)
theorem r84_99 : en_R cs 84 d post 99 (some (.inr q) :: lo) st f = en_R cs 84 d post 100 (some (.inr q) :: lo) (.inr q :: st) f := ru_aload1 (show en_cd 84 99 = some (.aload_n 0, 1, 0, 0) by decide +kernel) rfl
theorem r84_100 : en_R cs 84 d post 100 lo (.inr (0, i) :: st) f = (i < 1 ∧ en_R cs 84 d post 103 lo (.inr (1, i) :: st) f) := ru_getR (show en_cd 84 100 = some (.getfield 11, 3, 0, 0) by decide +kernel) (by decide +kernel) (by decide +kernel)
theorem r84_103 : en_R cs 84 d post 103 (a0 :: some (.inl x) :: lo) st f = en_R cs 84 d post 104 (a0 :: some (.inl x) :: lo) (.inl x :: st) f := ru_load1 (show en_cd 84 103 = some (.iload_n 1, 1, 0, 0) by decide +kernel) rfl
theorem r84_104 : en_R cs 84 d post 104 lo (.inl x :: .inr (1, i) :: st) f = (i < 1 ∧ en_inr x 6 = true ∧ en_R cs 84 d post 105 lo (.inr (3, x.toNatClampNeg) :: st) f) := ru_aald (show en_cd 84 104 = some (.aaload, 1, 0, 0) by decide +kernel) (by decide +kernel) (by decide +kernel) (by decide +kernel) (by decide +kernel)
theorem r84_105 : en_R cs 84 d post 105 lo (.inr (3, i) :: st) f = (i < 6 ∧ en_R cs 84 d post 108 lo (.inl (f.1 3 i 10) :: st) f) := ru_getI (show en_cd 84 105 = some (.getfield 337, 3, 3, 10) by decide +kernel) (by decide +kernel) (by decide +kernel) (by decide +kernel)
theorem r84_108 : en_R cs 84 d post 108 lo (.inl b :: .inl a :: st) f = (if a ≤ b then en_R cs 84 d post 117 lo st f else en_R cs 84 d post 111 lo st f) := ru_icle (show en_cd 84 108 = some (.if_icmp .le 9, 3, 0, 0) by decide +kernel) (by decide +kernel)
theorem r84_111 : en_R cs 84 d post 111 (a0 :: a1 :: a2 :: a3 :: a4 :: a5 :: some (.inr q) :: lo) st f = en_R cs 84 d post 113 (a0 :: a1 :: a2 :: a3 :: a4 :: a5 :: some (.inr q) :: lo) (.inr q :: st) f := ru_aload2 (show en_cd 84 111 = some (.aload 6, 2, 0, 0) by decide +kernel) rfl
theorem r84_113 : en_R cs 84 d post 113 lo st f = en_R cs 84 d post 114 lo (.inl 4 :: st) f := ru_iconst (show en_cd 84 113 = some (.iconst 4, 1, 0, 0) by decide +kernel) (by decide +kernel)
theorem r84_114 : en_R cs 84 d post 114 lo (u1 :: .inr (8, i) :: st) f = (st.length ≤ 8 ∧ i < 16 ∧ en_Ev d 12 [.inr (8, i), u1] f (fun r g => en_R cs 84 d post 117 lo (r.toList ++ st) g)) := ru_iv (al := [u1]) (show en_cd 84 114 = some (.invokevirtual 180, 3, 12, 0) by decide +kernel) (by decide +kernel) (show en_np 12 = 1 by decide +kernel) (by decide +kernel) rfl
theorem r84_117 : en_R cs 84 d post 117 (some (.inr q) :: lo) st f = en_R cs 84 d post 118 (some (.inr q) :: lo) (.inr q :: st) f := ru_aload1 (show en_cd 84 117 = some (.aload_n 0, 1, 0, 0) by decide +kernel) rfl
theorem r84_118 : en_R cs 84 d post 118 lo (u :: st) f = en_R cs 84 d post 119 lo (u :: u :: st) f := ru_dup (show en_cd 84 118 = some (.dup, 1, 0, 0) by decide +kernel)
theorem r84_119 : en_R cs 84 d post 119 lo (.inr (0, i) :: st) f = (i < 1 ∧ en_R cs 84 d post 122 lo (.inl (f.1 0 i 4) :: st) f) := ru_getI (show en_cd 84 119 = some (.getfield 174, 3, 0, 4) by decide +kernel) (by decide +kernel) (by decide +kernel) (by decide +kernel)
theorem r84_122 : en_R cs 84 d post 122 lo (u :: w :: st) f = en_R cs 84 d post 123 lo (u :: w :: u :: st) f := ru_dup_x1 (show en_cd 84 122 = some (.dup_x1, 1, 0, 0) by decide +kernel)
theorem r84_123 : en_R cs 84 d post 123 lo st f = en_R cs 84 d post 124 lo (.inl 1 :: st) f := ru_iconst (show en_cd 84 123 = some (.iconst 1, 1, 0, 0) by decide +kernel) (by decide +kernel)
theorem r84_124 : en_R cs 84 d post 124 lo (.inl b :: .inl a :: st) f = en_R cs 84 d post 125 lo (.inl (a + b) :: st) f := ru_iadd (show en_cd 84 124 = some (.iadd, 1, 0, 0) by decide +kernel)
theorem r84_125 : en_R cs 84 d post 125 lo (.inl x :: .inr (0, i) :: st) f = (i < 1 ∧ en_R cs 84 d post 128 lo st (en_up f.1 0 i 4 x, f.2)) := ru_putI (show en_cd 84 125 = some (.putfield 174, 3, 0, 4) by decide +kernel) (by decide +kernel) (by decide +kernel) (by decide +kernel)
theorem r84_128 : en_R cs 84 d post 128 lo ([.inl x]) f = post (some (.inl x)) f := ru_ire1 (show en_cd 84 128 = some (.ireturn, 1, 0, 0) by decide +kernel) (by decide +kernel)
theorem r85_0 : en_R cs 85 d post 0 lo st f = en_R cs 85 d post 1 lo (.inl 0 :: st) f := ru_iconst (show en_cd 85 0 = some (.iconst 0, 1, 0, 0) by decide +kernel) (by decide +kernel)
theorem r85_1 : en_R cs 85 d post 1 (a0 :: a1 :: a2 :: lo) (.inl x :: st) f = en_R cs 85 d post 2 (a0 :: a1 :: some (.inl x) :: lo) st f := ru_istore1 (show en_cd 85 1 = some (.istore_n 2, 1, 0, 0) by decide +kernel) (Nat.lt_of_lt_of_le (by decide : 2 < 3) (Nat.le_add_left 3 lo.length))
theorem r85_2 : en_R cs 85 d post 2 (a0 :: a1 :: some (.inl x) :: lo) st f = en_R cs 85 d post 3 (a0 :: a1 :: some (.inl x) :: lo) (.inl x :: st) f := ru_load1 (show en_cd 85 2 = some (.iload_n 2, 1, 0, 0) by decide +kernel) rfl
theorem r85_3 : en_R cs 85 d post 3 (some (.inr q) :: lo) st f = en_R cs 85 d post 4 (some (.inr q) :: lo) (.inr q :: st) f := ru_aload1 (show en_cd 85 3 = some (.aload_n 0, 1, 0, 0) by decide +kernel) rfl
theorem r85_4 : en_R cs 85 d post 4 lo (.inr (0, i) :: st) f = (i < 1 ∧ en_R cs 85 d post 7 lo (.inl (f.1 0 i 4) :: st) f) := ru_getI (show en_cd 85 4 = some (.getfield 174, 3, 0, 4) by decide +kernel) (by decide +kernel) (by decide +kernel) (by decide +kernel)
theorem r85_7 : en_R cs 85 d post 7 lo (.inl b :: .inl a :: st) f = (if b ≤ a then en_R cs 85 d post 43 lo st f else en_R cs 85 d post 10 lo st f) := ru_icge (show en_cd 85 7 = some (.if_icmp .ge 36, 3, 0, 0) by decide +kernel) (by decide +kernel)
theorem r85_10 : en_R cs 85 d post 10 (some (.inr q) :: lo) st f = en_R cs 85 d post 11 (some (.inr q) :: lo) (.inr q :: st) f := ru_aload1 (show en_cd 85 10 = some (.aload_n 0, 1, 0, 0) by decide +kernel) rfl
theorem r85_11 : en_R cs 85 d post 11 lo (.inr (0, i) :: st) f = (i < 1 ∧ en_R cs 85 d post 14 lo (.inr (2, i) :: st) f) := ru_getR (show en_cd 85 11 = some (.getfield 17, 3, 0, 1) by decide +kernel) (by decide +kernel) (by decide +kernel)
theorem r85_14 : en_R cs 85 d post 14 (a0 :: a1 :: some (.inl x) :: lo) st f = en_R cs 85 d post 15 (a0 :: a1 :: some (.inl x) :: lo) (.inl x :: st) f := ru_load1 (show en_cd 85 14 = some (.iload_n 2, 1, 0, 0) by decide +kernel) rfl
theorem r85_15 : en_R cs 85 d post 15 lo (.inl x :: .inr (2, i) :: st) f = (i < 1 ∧ en_inr x 16 = true ∧ en_R cs 85 d post 16 lo (.inr (8, x.toNatClampNeg) :: st) f) := ru_aald (show en_cd 85 15 = some (.aaload, 1, 0, 0) by decide +kernel) (by decide +kernel) (by decide +kernel) (by decide +kernel) (by decide +kernel)
theorem r85_16 : en_R cs 85 d post 16 lo (.inr (8, i) :: st) f = (i < 16 ∧ en_R cs 85 d post 19 lo (.inl (f.1 8 i 2) :: st) f) := ru_getI (show en_cd 85 16 = some (.getfield 177, 3, 8, 2) by decide +kernel) (by decide +kernel) (by decide +kernel) (by decide +kernel)
theorem r85_19 : en_R cs 85 d post 19 (a0 :: some (.inl x) :: lo) st f = en_R cs 85 d post 20 (a0 :: some (.inl x) :: lo) (.inl x :: st) f := ru_load1 (show en_cd 85 19 = some (.iload_n 1, 1, 0, 0) by decide +kernel) rfl
theorem r85_20 : en_R cs 85 d post 20 lo (.inl b :: .inl a :: st) f = (if a = b then en_R cs 85 d post 23 lo st f else en_R cs 85 d post 37 lo st f) := ru_icne (show en_cd 85 20 = some (.if_icmp .ne 17, 3, 0, 0) by decide +kernel) (by decide +kernel)
theorem r85_23 : en_R cs 85 d post 23 (some (.inr q) :: lo) st f = en_R cs 85 d post 24 (some (.inr q) :: lo) (.inr q :: st) f := ru_aload1 (show en_cd 85 23 = some (.aload_n 0, 1, 0, 0) by decide +kernel) rfl
theorem r85_24 : en_R cs 85 d post 24 lo (.inr (0, i) :: st) f = (i < 1 ∧ en_R cs 85 d post 27 lo (.inr (2, i) :: st) f) := ru_getR (show en_cd 85 24 = some (.getfield 17, 3, 0, 1) by decide +kernel) (by decide +kernel) (by decide +kernel)
theorem r85_27 : en_R cs 85 d post 27 (a0 :: a1 :: some (.inl x) :: lo) st f = en_R cs 85 d post 28 (a0 :: a1 :: some (.inl x) :: lo) (.inl x :: st) f := ru_load1 (show en_cd 85 27 = some (.iload_n 2, 1, 0, 0) by decide +kernel) rfl
theorem r85_28 : en_R cs 85 d post 28 lo (.inl x :: .inr (2, i) :: st) f = (i < 1 ∧ en_inr x 16 = true ∧ en_R cs 85 d post 29 lo (.inr (8, x.toNatClampNeg) :: st) f) := ru_aald (show en_cd 85 28 = some (.aaload, 1, 0, 0) by decide +kernel) (by decide +kernel) (by decide +kernel) (by decide +kernel) (by decide +kernel)
theorem r85_29 : en_R cs 85 d post 29 lo (.inr (8, i) :: st) f = (i < 16 ∧ en_R cs 85 d post 32 lo (.inl (f.1 8 i 7) :: st) f) := ru_getI (show en_cd 85 29 = some (.getfield 126, 3, 8, 7) by decide +kernel) (by decide +kernel) (by decide +kernel) (by decide +kernel)
theorem r85_32 : en_R cs 85 d post 32 lo (.inl a :: st) f = (if a = 0 then en_R cs 85 d post 35 lo st f else en_R cs 85 d post 37 lo st f) := ru_ifne (show en_cd 85 32 = some (.ifCond .ne 5, 3, 0, 0) by decide +kernel) (by decide +kernel)
theorem r85_35 : en_R cs 85 d post 35 (a0 :: a1 :: some (.inl x) :: lo) st f = en_R cs 85 d post 36 (a0 :: a1 :: some (.inl x) :: lo) (.inl x :: st) f := ru_load1 (show en_cd 85 35 = some (.iload_n 2, 1, 0, 0) by decide +kernel) rfl
theorem r85_36 : en_R cs 85 d post 36 lo ([.inl x]) f = post (some (.inl x)) f := ru_ire1 (show en_cd 85 36 = some (.ireturn, 1, 0, 0) by decide +kernel) (by decide +kernel)
theorem r85_37 : en_R cs 85 d post 37 (a0 :: a1 :: some (.inl x) :: lo) st f = en_R cs 85 d post 40 (a0 :: a1 :: some (.inl (x + 1)) :: lo) st f := ru_iinc (show en_cd 85 37 = some (.iinc 2 1, 3, 0, 0) by decide +kernel) (by decide +kernel) rfl
theorem r85_40 : en_R cs 85 d post 40 lo st f = en_R cs 85 d post 2 lo st f := ru_goto (show en_cd 85 40 = some (.goto (-38), 3, 0, 0) by decide +kernel) (by decide +kernel)
theorem r85_43 : en_R cs 85 d post 43 lo st f = en_R cs 85 d post 44 lo (.inl (-1) :: st) f := ru_iconst (show en_cd 85 43 = some (.iconst (-1), 1, 0, 0) by decide +kernel) (by decide +kernel)
theorem r85_44 : en_R cs 85 d post 44 lo ([.inl x]) f = post (some (.inl x)) f := ru_ire1 (show en_cd 85 44 = some (.ireturn, 1, 0, 0) by decide +kernel) (by decide +kernel)
end RuAll
end
section
/-! ENTRIES of the methods (by program), and rows for running -/
theorem en_Ev_e {d y n : Nat} {a : List en_V} {f : en_T} {Q : en_Q} (hm : en_mL y = n) (h : a.length ≤ n) : en_Ev (d + 1) y a f Q = en_R en_s0 y d Q 0 (a.map some ++ List.replicate (n - a.length) none) [] f := by
  subst hm
  exact en_Ev_s h
section EnEntry
variable {d : Nat} {f : en_T} {Q : en_Q} {u0 u1 u2 u3 u4 u5 : en_V}
theorem e0 : en_Ev (d + 1) 0 [u0, u1, u2] f Q = en_R en_s0 0 d Q 0 [some u0, some u1, some u2, none] [] f := en_Ev_e (a := [u0, u1, u2]) (show en_mL 0 = 4 by decide +kernel) (show 3 ≤ 4 by decide)
theorem e1 : en_Ev (d + 1) 1 [u0] f Q = en_R en_s0 1 d Q 0 [some u0] [] f := en_Ev_e (a := [u0]) (show en_mL 1 = 1 by decide +kernel) (show 1 ≤ 1 by decide)
theorem e2 : en_Ev (d + 1) 2 [u0, u1] f Q = en_R en_s0 2 d Q 0 [some u0, some u1] [] f := en_Ev_e (a := [u0, u1]) (show en_mL 2 = 2 by decide +kernel) (show 2 ≤ 2 by decide)
theorem e3 : en_Ev (d + 1) 3 [u0] f Q = en_R en_s0 3 d Q 0 [some u0] [] f := en_Ev_e (a := [u0]) (show en_mL 3 = 1 by decide +kernel) (show 1 ≤ 1 by decide)
theorem e4 : en_Ev (d + 1) 4 [u0] f Q = en_R en_s0 4 d Q 0 [some u0] [] f := en_Ev_e (a := [u0]) (show en_mL 4 = 1 by decide +kernel) (show 1 ≤ 1 by decide)
theorem e5 : en_Ev (d + 1) 5 [u0, u1] f Q = en_R en_s0 5 d Q 0 [some u0, some u1] [] f := en_Ev_e (a := [u0, u1]) (show en_mL 5 = 2 by decide +kernel) (show 2 ≤ 2 by decide)
theorem e6 : en_Ev (d + 1) 6 [u0, u1] f Q = en_R en_s0 6 d Q 0 [some u0, some u1] [] f := en_Ev_e (a := [u0, u1]) (show en_mL 6 = 2 by decide +kernel) (show 2 ≤ 2 by decide)
theorem e7 : en_Ev (d + 1) 7 [u0] f Q = en_R en_s0 7 d Q 0 [some u0, none] [] f := en_Ev_e (a := [u0]) (show en_mL 7 = 2 by decide +kernel) (show 1 ≤ 2 by decide)
theorem e8 : en_Ev (d + 1) 8 [u0, u1] f Q = en_R en_s0 8 d Q 0 [some u0, some u1] [] f := en_Ev_e (a := [u0, u1]) (show en_mL 8 = 2 by decide +kernel) (show 2 ≤ 2 by decide)
theorem e9 : en_Ev (d + 1) 9 [u0, u1] f Q = en_R en_s0 9 d Q 0 [some u0, some u1] [] f := en_Ev_e (a := [u0, u1]) (show en_mL 9 = 2 by decide +kernel) (show 2 ≤ 2 by decide)
theorem e10 : en_Ev (d + 1) 10 [u0, u1] f Q = en_R en_s0 10 d Q 0 [some u0, some u1] [] f := en_Ev_e (a := [u0, u1]) (show en_mL 10 = 2 by decide +kernel) (show 2 ≤ 2 by decide)
theorem e11 : en_Ev (d + 1) 11 [u0, u1] f Q = en_R en_s0 11 d Q 0 [some u0, some u1] [] f := en_Ev_e (a := [u0, u1]) (show en_mL 11 = 2 by decide +kernel) (show 2 ≤ 2 by decide)
theorem e12 : en_Ev (d + 1) 12 [u0, u1] f Q = en_R en_s0 12 d Q 0 [some u0, some u1] [] f := en_Ev_e (a := [u0, u1]) (show en_mL 12 = 2 by decide +kernel) (show 2 ≤ 2 by decide)
theorem e13 : en_Ev (d + 1) 13 [u0, u1, u2] f Q = en_R en_s0 13 d Q 0 [some u0, some u1, some u2] [] f := en_Ev_e (a := [u0, u1, u2]) (show en_mL 13 = 3 by decide +kernel) (show 3 ≤ 3 by decide)
theorem e14 : en_Ev (d + 1) 14 [u0] f Q = en_R en_s0 14 d Q 0 [some u0, none] [] f := en_Ev_e (a := [u0]) (show en_mL 14 = 2 by decide +kernel) (show 1 ≤ 2 by decide)
theorem e15 : en_Ev (d + 1) 15 [u0, u1] f Q = en_R en_s0 15 d Q 0 [some u0, some u1] [] f := en_Ev_e (a := [u0, u1]) (show en_mL 15 = 2 by decide +kernel) (show 2 ≤ 2 by decide)
theorem e16 : en_Ev (d + 1) 16 [u0, u1] f Q = en_R en_s0 16 d Q 0 [some u0, some u1] [] f := en_Ev_e (a := [u0, u1]) (show en_mL 16 = 2 by decide +kernel) (show 2 ≤ 2 by decide)
theorem e17 : en_Ev (d + 1) 17 [u0, u1, u2, u3] f Q = en_R en_s0 17 d Q 0 [some u0, some u1, some u2, some u3] [] f := en_Ev_e (a := [u0, u1, u2, u3]) (show en_mL 17 = 4 by decide +kernel) (show 4 ≤ 4 by decide)
theorem e18 : en_Ev (d + 1) 18 [u0] f Q = en_R en_s0 18 d Q 0 [some u0] [] f := en_Ev_e (a := [u0]) (show en_mL 18 = 1 by decide +kernel) (show 1 ≤ 1 by decide)
theorem e19 : en_Ev (d + 1) 19 [u0, u1] f Q = en_R en_s0 19 d Q 0 [some u0, some u1] [] f := en_Ev_e (a := [u0, u1]) (show en_mL 19 = 2 by decide +kernel) (show 2 ≤ 2 by decide)
theorem e20 : en_Ev (d + 1) 20 [u0, u1] f Q = en_R en_s0 20 d Q 0 [some u0, some u1] [] f := en_Ev_e (a := [u0, u1]) (show en_mL 20 = 2 by decide +kernel) (show 2 ≤ 2 by decide)
theorem e21 : en_Ev (d + 1) 21 [u0, u1, u2] f Q = en_R en_s0 21 d Q 0 [some u0, some u1, some u2] [] f := en_Ev_e (a := [u0, u1, u2]) (show en_mL 21 = 3 by decide +kernel) (show 3 ≤ 3 by decide)
theorem e22 : en_Ev (d + 1) 22 [u0, u1] f Q = en_R en_s0 22 d Q 0 [some u0, some u1] [] f := en_Ev_e (a := [u0, u1]) (show en_mL 22 = 2 by decide +kernel) (show 2 ≤ 2 by decide)
theorem e23 : en_Ev (d + 1) 23 [u0] f Q = en_R en_s0 23 d Q 0 [some u0] [] f := en_Ev_e (a := [u0]) (show en_mL 23 = 1 by decide +kernel) (show 1 ≤ 1 by decide)
theorem e24 : en_Ev (d + 1) 24 [u0] f Q = en_R en_s0 24 d Q 0 [some u0, none] [] f := en_Ev_e (a := [u0]) (show en_mL 24 = 2 by decide +kernel) (show 1 ≤ 2 by decide)
theorem e25 : en_Ev (d + 1) 25 [u0] f Q = en_R en_s0 25 d Q 0 [some u0] [] f := en_Ev_e (a := [u0]) (show en_mL 25 = 1 by decide +kernel) (show 1 ≤ 1 by decide)
theorem e26 : en_Ev (d + 1) 26 [u0] f Q = en_R en_s0 26 d Q 0 [some u0] [] f := en_Ev_e (a := [u0]) (show en_mL 26 = 1 by decide +kernel) (show 1 ≤ 1 by decide)
theorem e27 : en_Ev (d + 1) 27 [u0, u1] f Q = en_R en_s0 27 d Q 0 [some u0, some u1] [] f := en_Ev_e (a := [u0, u1]) (show en_mL 27 = 2 by decide +kernel) (show 2 ≤ 2 by decide)
theorem e28 : en_Ev (d + 1) 28 [u0] f Q = en_R en_s0 28 d Q 0 [some u0] [] f := en_Ev_e (a := [u0]) (show en_mL 28 = 1 by decide +kernel) (show 1 ≤ 1 by decide)
theorem e29 : en_Ev (d + 1) 29 [u0, u1] f Q = en_R en_s0 29 d Q 0 [some u0, some u1] [] f := en_Ev_e (a := [u0, u1]) (show en_mL 29 = 2 by decide +kernel) (show 2 ≤ 2 by decide)
theorem e30 : en_Ev (d + 1) 30 [u0, u1] f Q = en_R en_s0 30 d Q 0 [some u0, some u1] [] f := en_Ev_e (a := [u0, u1]) (show en_mL 30 = 2 by decide +kernel) (show 2 ≤ 2 by decide)
theorem e31 : en_Ev (d + 1) 31 [u0, u1] f Q = en_R en_s0 31 d Q 0 [some u0, some u1] [] f := en_Ev_e (a := [u0, u1]) (show en_mL 31 = 2 by decide +kernel) (show 2 ≤ 2 by decide)
theorem e32 : en_Ev (d + 1) 32 [u0, u1] f Q = en_R en_s0 32 d Q 0 [some u0, some u1] [] f := en_Ev_e (a := [u0, u1]) (show en_mL 32 = 2 by decide +kernel) (show 2 ≤ 2 by decide)
theorem e33 : en_Ev (d + 1) 33 [u0, u1, u2, u3, u4] f Q = en_R en_s0 33 d Q 0 [some u0, some u1, some u2, some u3, some u4] [] f := en_Ev_e (a := [u0, u1, u2, u3, u4]) (show en_mL 33 = 5 by decide +kernel) (show 5 ≤ 5 by decide)
theorem e34 : en_Ev (d + 1) 34 [u0, u1] f Q = en_R en_s0 34 d Q 0 [some u0, some u1, none, none, none] [] f := en_Ev_e (a := [u0, u1]) (show en_mL 34 = 5 by decide +kernel) (show 2 ≤ 5 by decide)
theorem e35 : en_Ev (d + 1) 35 [u0, u1, u2] f Q = en_R en_s0 35 d Q 0 [some u0, some u1, some u2] [] f := en_Ev_e (a := [u0, u1, u2]) (show en_mL 35 = 3 by decide +kernel) (show 3 ≤ 3 by decide)
theorem e36 : en_Ev (d + 1) 36 [u0, u1, u2] f Q = en_R en_s0 36 d Q 0 [some u0, some u1, some u2] [] f := en_Ev_e (a := [u0, u1, u2]) (show en_mL 36 = 3 by decide +kernel) (show 3 ≤ 3 by decide)
theorem e37 : en_Ev (d + 1) 37 [u0, u1, u2, u3] f Q = en_R en_s0 37 d Q 0 [some u0, some u1, some u2, some u3] [] f := en_Ev_e (a := [u0, u1, u2, u3]) (show en_mL 37 = 4 by decide +kernel) (show 4 ≤ 4 by decide)
theorem e38 : en_Ev (d + 1) 38 [u0, u1, u2, u3, u4] f Q = en_R en_s0 38 d Q 0 [some u0, some u1, some u2, some u3, some u4] [] f := en_Ev_e (a := [u0, u1, u2, u3, u4]) (show en_mL 38 = 5 by decide +kernel) (show 5 ≤ 5 by decide)
theorem e39 : en_Ev (d + 1) 39 [u0, u1] f Q = en_R en_s0 39 d Q 0 [some u0, some u1, none, none, none] [] f := en_Ev_e (a := [u0, u1]) (show en_mL 39 = 5 by decide +kernel) (show 2 ≤ 5 by decide)
theorem e40 : en_Ev (d + 1) 40 [u0, u1] f Q = en_R en_s0 40 d Q 0 [some u0, some u1] [] f := en_Ev_e (a := [u0, u1]) (show en_mL 40 = 2 by decide +kernel) (show 2 ≤ 2 by decide)
theorem e41 : en_Ev (d + 1) 41 [u0, u1] f Q = en_R en_s0 41 d Q 0 [some u0, some u1] [] f := en_Ev_e (a := [u0, u1]) (show en_mL 41 = 2 by decide +kernel) (show 2 ≤ 2 by decide)
theorem e42 : en_Ev (d + 1) 42 [u0, u1] f Q = en_R en_s0 42 d Q 0 [some u0, some u1] [] f := en_Ev_e (a := [u0, u1]) (show en_mL 42 = 2 by decide +kernel) (show 2 ≤ 2 by decide)
theorem e43 : en_Ev (d + 1) 43 [u0, u1, u2] f Q = en_R en_s0 43 d Q 0 [some u0, some u1, some u2] [] f := en_Ev_e (a := [u0, u1, u2]) (show en_mL 43 = 3 by decide +kernel) (show 3 ≤ 3 by decide)
theorem e44 : en_Ev (d + 1) 44 [u0, u1, u2] f Q = en_R en_s0 44 d Q 0 [some u0, some u1, some u2] [] f := en_Ev_e (a := [u0, u1, u2]) (show en_mL 44 = 3 by decide +kernel) (show 3 ≤ 3 by decide)
theorem e45 : en_Ev (d + 1) 45 [u0] f Q = en_R en_s0 45 d Q 0 [some u0] [] f := en_Ev_e (a := [u0]) (show en_mL 45 = 1 by decide +kernel) (show 1 ≤ 1 by decide)
theorem e46 : en_Ev (d + 1) 46 [u0, u1] f Q = en_R en_s0 46 d Q 0 [some u0, some u1] [] f := en_Ev_e (a := [u0, u1]) (show en_mL 46 = 2 by decide +kernel) (show 2 ≤ 2 by decide)
theorem e47 : en_Ev (d + 1) 47 [u0] f Q = en_R en_s0 47 d Q 0 [some u0] [] f := en_Ev_e (a := [u0]) (show en_mL 47 = 1 by decide +kernel) (show 1 ≤ 1 by decide)
theorem e48 : en_Ev (d + 1) 48 [u0] f Q = en_R en_s0 48 d Q 0 [some u0] [] f := en_Ev_e (a := [u0]) (show en_mL 48 = 1 by decide +kernel) (show 1 ≤ 1 by decide)
theorem e49 : en_Ev (d + 1) 49 [u0] f Q = en_R en_s0 49 d Q 0 [some u0] [] f := en_Ev_e (a := [u0]) (show en_mL 49 = 1 by decide +kernel) (show 1 ≤ 1 by decide)
theorem e50 : en_Ev (d + 1) 50 [u0] f Q = en_R en_s0 50 d Q 0 [some u0] [] f := en_Ev_e (a := [u0]) (show en_mL 50 = 1 by decide +kernel) (show 1 ≤ 1 by decide)
theorem e51 : en_Ev (d + 1) 51 [u0] f Q = en_R en_s0 51 d Q 0 [some u0] [] f := en_Ev_e (a := [u0]) (show en_mL 51 = 1 by decide +kernel) (show 1 ≤ 1 by decide)
theorem e52 : en_Ev (d + 1) 52 [u0, u1] f Q = en_R en_s0 52 d Q 0 [some u0, some u1] [] f := en_Ev_e (a := [u0, u1]) (show en_mL 52 = 2 by decide +kernel) (show 2 ≤ 2 by decide)
theorem e53 : en_Ev (d + 1) 53 [u0, u1, u2] f Q = en_R en_s0 53 d Q 0 [some u0, some u1, some u2] [] f := en_Ev_e (a := [u0, u1, u2]) (show en_mL 53 = 3 by decide +kernel) (show 3 ≤ 3 by decide)
theorem e54 : en_Ev (d + 1) 54 [u0, u1] f Q = en_R en_s0 54 d Q 0 [some u0, some u1] [] f := en_Ev_e (a := [u0, u1]) (show en_mL 54 = 2 by decide +kernel) (show 2 ≤ 2 by decide)
theorem e55 : en_Ev (d + 1) 55 [u0] f Q = en_R en_s0 55 d Q 0 [some u0, none] [] f := en_Ev_e (a := [u0]) (show en_mL 55 = 2 by decide +kernel) (show 1 ≤ 2 by decide)
theorem e56 : en_Ev (d + 1) 56 [u0, u1] f Q = en_R en_s0 56 d Q 0 [some u0, some u1, none] [] f := en_Ev_e (a := [u0, u1]) (show en_mL 56 = 3 by decide +kernel) (show 2 ≤ 3 by decide)
theorem e57 : en_Ev (d + 1) 57 [u0, u1, u2] f Q = en_R en_s0 57 d Q 0 [some u0, some u1, some u2] [] f := en_Ev_e (a := [u0, u1, u2]) (show en_mL 57 = 3 by decide +kernel) (show 3 ≤ 3 by decide)
theorem e58 : en_Ev (d + 1) 58 [u0, u1] f Q = en_R en_s0 58 d Q 0 [some u0, some u1, none] [] f := en_Ev_e (a := [u0, u1]) (show en_mL 58 = 3 by decide +kernel) (show 2 ≤ 3 by decide)
theorem e59 : en_Ev (d + 1) 59 [u0, u1] f Q = en_R en_s0 59 d Q 0 [some u0, some u1, none] [] f := en_Ev_e (a := [u0, u1]) (show en_mL 59 = 3 by decide +kernel) (show 2 ≤ 3 by decide)
theorem e60 : en_Ev (d + 1) 60 [u0, u1] f Q = en_R en_s0 60 d Q 0 [some u0, some u1] [] f := en_Ev_e (a := [u0, u1]) (show en_mL 60 = 2 by decide +kernel) (show 2 ≤ 2 by decide)
theorem e61 : en_Ev (d + 1) 61 [u0] f Q = en_R en_s0 61 d Q 0 [some u0, none, none] [] f := en_Ev_e (a := [u0]) (show en_mL 61 = 3 by decide +kernel) (show 1 ≤ 3 by decide)
theorem e62 : en_Ev (d + 1) 62 [u0, u1, u2] f Q = en_R en_s0 62 d Q 0 [some u0, some u1, some u2, none] [] f := en_Ev_e (a := [u0, u1, u2]) (show en_mL 62 = 4 by decide +kernel) (show 3 ≤ 4 by decide)
theorem e63 : en_Ev (d + 1) 63 [u0, u1] f Q = en_R en_s0 63 d Q 0 [some u0, some u1] [] f := en_Ev_e (a := [u0, u1]) (show en_mL 63 = 2 by decide +kernel) (show 2 ≤ 2 by decide)
theorem e64 : en_Ev (d + 1) 64 [u0, u1, u2] f Q = en_R en_s0 64 d Q 0 [some u0, some u1, some u2, none, none, none] [] f := en_Ev_e (a := [u0, u1, u2]) (show en_mL 64 = 6 by decide +kernel) (show 3 ≤ 6 by decide)
theorem e65 : en_Ev (d + 1) 65 [u0, u1] f Q = en_R en_s0 65 d Q 0 [some u0, some u1, none] [] f := en_Ev_e (a := [u0, u1]) (show en_mL 65 = 3 by decide +kernel) (show 2 ≤ 3 by decide)
theorem e66 : en_Ev (d + 1) 66 [u0, u1, u2] f Q = en_R en_s0 66 d Q 0 [some u0, some u1, some u2, none, none] [] f := en_Ev_e (a := [u0, u1, u2]) (show en_mL 66 = 5 by decide +kernel) (show 3 ≤ 5 by decide)
theorem e67 : en_Ev (d + 1) 67 [u0, u1, u2] f Q = en_R en_s0 67 d Q 0 [some u0, some u1, some u2, none, none, none] [] f := en_Ev_e (a := [u0, u1, u2]) (show en_mL 67 = 6 by decide +kernel) (show 3 ≤ 6 by decide)
theorem e68 : en_Ev (d + 1) 68 [u0, u1] f Q = en_R en_s0 68 d Q 0 [some u0, some u1, none, none, none, none] [] f := en_Ev_e (a := [u0, u1]) (show en_mL 68 = 6 by decide +kernel) (show 2 ≤ 6 by decide)
theorem e69 : en_Ev (d + 1) 69 [u0, u1] f Q = en_R en_s0 69 d Q 0 [some u0, some u1, none, none, none] [] f := en_Ev_e (a := [u0, u1]) (show en_mL 69 = 5 by decide +kernel) (show 2 ≤ 5 by decide)
theorem e70 : en_Ev (d + 1) 70 [u0] f Q = en_R en_s0 70 d Q 0 [some u0, none, none] [] f := en_Ev_e (a := [u0]) (show en_mL 70 = 3 by decide +kernel) (show 1 ≤ 3 by decide)
theorem e71 : en_Ev (d + 1) 71 [u0, u1] f Q = en_R en_s0 71 d Q 0 [some u0, some u1] [] f := en_Ev_e (a := [u0, u1]) (show en_mL 71 = 2 by decide +kernel) (show 2 ≤ 2 by decide)
theorem e72 : en_Ev (d + 1) 72 [u0, u1] f Q = en_R en_s0 72 d Q 0 [some u0, some u1, none, none] [] f := en_Ev_e (a := [u0, u1]) (show en_mL 72 = 4 by decide +kernel) (show 2 ≤ 4 by decide)
theorem e73 : en_Ev (d + 1) 73 [u0, u1] f Q = en_R en_s0 73 d Q 0 [some u0, some u1, none, none] [] f := en_Ev_e (a := [u0, u1]) (show en_mL 73 = 4 by decide +kernel) (show 2 ≤ 4 by decide)
theorem e74 : en_Ev (d + 1) 74 [u0] f Q = en_R en_s0 74 d Q 0 [some u0, none] [] f := en_Ev_e (a := [u0]) (show en_mL 74 = 2 by decide +kernel) (show 1 ≤ 2 by decide)
theorem e75 : en_Ev (d + 1) 75 [u0, u1] f Q = en_R en_s0 75 d Q 0 [some u0, some u1, none] [] f := en_Ev_e (a := [u0, u1]) (show en_mL 75 = 3 by decide +kernel) (show 2 ≤ 3 by decide)
theorem e76 : en_Ev (d + 1) 76 [u0, u1] f Q = en_R en_s0 76 d Q 0 [some u0, some u1, none] [] f := en_Ev_e (a := [u0, u1]) (show en_mL 76 = 3 by decide +kernel) (show 2 ≤ 3 by decide)
theorem e77 : en_Ev (d + 1) 77 [u0, u1] f Q = en_R en_s0 77 d Q 0 [some u0, some u1, none, none, none, none] [] f := en_Ev_e (a := [u0, u1]) (show en_mL 77 = 6 by decide +kernel) (show 2 ≤ 6 by decide)
theorem e78 : en_Ev (d + 1) 78 [u0, u1] f Q = en_R en_s0 78 d Q 0 [some u0, some u1, none] [] f := en_Ev_e (a := [u0, u1]) (show en_mL 78 = 3 by decide +kernel) (show 2 ≤ 3 by decide)
theorem e79 : en_Ev (d + 1) 79 [u0, u1] f Q = en_R en_s0 79 d Q 0 [some u0, some u1, none, none] [] f := en_Ev_e (a := [u0, u1]) (show en_mL 79 = 4 by decide +kernel) (show 2 ≤ 4 by decide)
theorem e80 : en_Ev (d + 1) 80 [u0] f Q = en_R en_s0 80 d Q 0 [some u0, none, none, none] [] f := en_Ev_e (a := [u0]) (show en_mL 80 = 4 by decide +kernel) (show 1 ≤ 4 by decide)
theorem e81 : en_Ev (d + 1) 81 [u0, u1] f Q = en_R en_s0 81 d Q 0 [some u0, some u1, none, none, none] [] f := en_Ev_e (a := [u0, u1]) (show en_mL 81 = 5 by decide +kernel) (show 2 ≤ 5 by decide)
theorem e82 : en_Ev (d + 1) 82 [u0, u1, u2] f Q = en_R en_s0 82 d Q 0 [some u0, some u1, some u2] [] f := en_Ev_e (a := [u0, u1, u2]) (show en_mL 82 = 3 by decide +kernel) (show 3 ≤ 3 by decide)
theorem e83 : en_Ev (d + 1) 83 [u0, u1] f Q = en_R en_s0 83 d Q 0 [some u0, some u1] [] f := en_Ev_e (a := [u0, u1]) (show en_mL 83 = 2 by decide +kernel) (show 2 ≤ 2 by decide)
theorem e84 : en_Ev (d + 1) 84 [u0, u1, u2, u3, u4, u5] f Q = en_R en_s0 84 d Q 0 [some u0, some u1, some u2, some u3, some u4, some u5, none] [] f := en_Ev_e (a := [u0, u1, u2, u3, u4, u5]) (show en_mL 84 = 7 by decide +kernel) (show 6 ≤ 7 by decide)
theorem e85 : en_Ev (d + 1) 85 [u0, u1] f Q = en_R en_s0 85 d Q 0 [some u0, some u1, none] [] f := en_Ev_e (a := [u0, u1]) (show en_mL 85 = 3 by decide +kernel) (show 2 ≤ 3 by decide)
theorem e86 : en_Ev (d + 1) 86 [u0] f Q = en_R en_s0 86 d Q 0 [some u0] [] f := en_Ev_e (a := [u0]) (show en_mL 86 = 1 by decide +kernel) (show 1 ≤ 1 by decide)
theorem e87 : en_Ev (d + 1) 87 [u0] f Q = en_R en_s0 87 d Q 0 [some u0] [] f := en_Ev_e (a := [u0]) (show en_mL 87 = 1 by decide +kernel) (show 1 ≤ 1 by decide)
theorem e88 : en_Ev (d + 1) 88 [u0, u1, u2] f Q = en_R en_s0 88 d Q 0 [some u0, some u1, some u2] [] f := en_Ev_e (a := [u0, u1, u2]) (show en_mL 88 = 3 by decide +kernel) (show 3 ≤ 3 by decide)
theorem e89 : en_Ev (d + 1) 89 [u0, u1] f Q = en_R en_s0 89 d Q 0 [some u0, some u1, none] [] f := en_Ev_e (a := [u0, u1]) (show en_mL 89 = 3 by decide +kernel) (show 2 ≤ 3 by decide)
theorem e90 : en_Ev (d + 1) 90 [u0, u1, u2, u3, u4] f Q = en_R en_s0 90 d Q 0 [some u0, some u1, some u2, some u3, some u4, none, none] [] f := en_Ev_e (a := [u0, u1, u2, u3, u4]) (show en_mL 90 = 7 by decide +kernel) (show 5 ≤ 7 by decide)
theorem e91 : en_Ev (d + 1) 91 [u0, u1] f Q = en_R en_s0 91 d Q 0 [some u0, some u1] [] f := en_Ev_e (a := [u0, u1]) (show en_mL 91 = 2 by decide +kernel) (show 2 ≤ 2 by decide)
theorem e92 : en_Ev (d + 1) 92 [u0, u1] f Q = en_R en_s0 92 d Q 0 [some u0, some u1, none] [] f := en_Ev_e (a := [u0, u1]) (show en_mL 92 = 3 by decide +kernel) (show 2 ≤ 3 by decide)
theorem e93 : en_Ev (d + 1) 93 [u0, u1, u2] f Q = en_R en_s0 93 d Q 0 [some u0, some u1, some u2] [] f := en_Ev_e (a := [u0, u1, u2]) (show en_mL 93 = 3 by decide +kernel) (show 3 ≤ 3 by decide)
theorem e94 : en_Ev (d + 1) 94 [u0, u1, u2] f Q = en_R en_s0 94 d Q 0 [some u0, some u1, some u2] [] f := en_Ev_e (a := [u0, u1, u2]) (show en_mL 94 = 3 by decide +kernel) (show 3 ≤ 3 by decide)
theorem e95 : en_Ev (d + 1) 95 [u0, u1] f Q = en_R en_s0 95 d Q 0 [some u0, some u1, none, none] [] f := en_Ev_e (a := [u0, u1]) (show en_mL 95 = 4 by decide +kernel) (show 2 ≤ 4 by decide)
theorem e96 : en_Ev (d + 1) 96 [u0, u1, u2, u3] f Q = en_R en_s0 96 d Q 0 [some u0, some u1, some u2, some u3, none, none] [] f := en_Ev_e (a := [u0, u1, u2, u3]) (show en_mL 96 = 6 by decide +kernel) (show 4 ≤ 6 by decide)
theorem e97 : en_Ev (d + 1) 97 [u0, u1] f Q = en_R en_s0 97 d Q 0 [some u0, some u1, none, none] [] f := en_Ev_e (a := [u0, u1]) (show en_mL 97 = 4 by decide +kernel) (show 2 ≤ 4 by decide)
theorem e98 : en_Ev (d + 1) 98 [u0, u1] f Q = en_R en_s0 98 d Q 0 [some u0, some u1, none, none] [] f := en_Ev_e (a := [u0, u1]) (show en_mL 98 = 4 by decide +kernel) (show 2 ≤ 4 by decide)
theorem e99 : en_Ev (d + 1) 99 [u0, u1] f Q = en_R en_s0 99 d Q 0 [some u0, some u1, none, none] [] f := en_Ev_e (a := [u0, u1]) (show en_mL 99 = 4 by decide +kernel) (show 2 ≤ 4 by decide)
theorem e100 : en_Ev (d + 1) 100 [u0, u1, u2, u3, u4] f Q = en_R en_s0 100 d Q 0 [some u0, some u1, some u2, some u3, some u4, none, none, none] [] f := en_Ev_e (a := [u0, u1, u2, u3, u4]) (show en_mL 100 = 8 by decide +kernel) (show 5 ≤ 8 by decide)
theorem e101 : en_Ev (d + 1) 101 [u0, u1] f Q = en_R en_s0 101 d Q 0 [some u0, some u1, none, none] [] f := en_Ev_e (a := [u0, u1]) (show en_mL 101 = 4 by decide +kernel) (show 2 ≤ 4 by decide)
theorem e102 : en_Ev (d + 1) 102 [u0, u1] f Q = en_R en_s0 102 d Q 0 [some u0, some u1, none] [] f := en_Ev_e (a := [u0, u1]) (show en_mL 102 = 3 by decide +kernel) (show 2 ≤ 3 by decide)
theorem e103 : en_Ev (d + 1) 103 [u0, u1, u2] f Q = en_R en_s0 103 d Q 0 [some u0, some u1, some u2] [] f := en_Ev_e (a := [u0, u1, u2]) (show en_mL 103 = 3 by decide +kernel) (show 3 ≤ 3 by decide)
theorem e104 : en_Ev (d + 1) 104 [u0, u1, u2] f Q = en_R en_s0 104 d Q 0 [some u0, some u1, some u2] [] f := en_Ev_e (a := [u0, u1, u2]) (show en_mL 104 = 3 by decide +kernel) (show 3 ≤ 3 by decide)
theorem e105 : en_Ev (d + 1) 105 [u0] f Q = en_R en_s0 105 d Q 0 [some u0, none] [] f := en_Ev_e (a := [u0]) (show en_mL 105 = 2 by decide +kernel) (show 1 ≤ 2 by decide)
theorem e106 : en_Ev (d + 1) 106 [u0] f Q = en_R en_s0 106 d Q 0 [some u0, none, none, none, none] [] f := en_Ev_e (a := [u0]) (show en_mL 106 = 5 by decide +kernel) (show 1 ≤ 5 by decide)
theorem e107 : en_Ev (d + 1) 107 [u0, u1, u2] f Q = en_R en_s0 107 d Q 0 [some u0, some u1, some u2] [] f := en_Ev_e (a := [u0, u1, u2]) (show en_mL 107 = 3 by decide +kernel) (show 3 ≤ 3 by decide)
theorem e108 : en_Ev (d + 1) 108 [u0, u1] f Q = en_R en_s0 108 d Q 0 [some u0, some u1, none, none] [] f := en_Ev_e (a := [u0, u1]) (show en_mL 108 = 4 by decide +kernel) (show 2 ≤ 4 by decide)
theorem e109 : en_Ev (d + 1) 109 [u0, u1, u2] f Q = en_R en_s0 109 d Q 0 [some u0, some u1, some u2] [] f := en_Ev_e (a := [u0, u1, u2]) (show en_mL 109 = 3 by decide +kernel) (show 3 ≤ 3 by decide)
theorem e110 : en_Ev (d + 1) 110 [u0] f Q = en_R en_s0 110 d Q 0 [some u0, none, none] [] f := en_Ev_e (a := [u0]) (show en_mL 110 = 3 by decide +kernel) (show 1 ≤ 3 by decide)
theorem e111 : en_Ev (d + 1) 111 [u0, u1] f Q = en_R en_s0 111 d Q 0 [some u0, some u1, none, none, none, none] [] f := en_Ev_e (a := [u0, u1]) (show en_mL 111 = 6 by decide +kernel) (show 2 ≤ 6 by decide)
theorem e112 : en_Ev (d + 1) 112 [u0, u1] f Q = en_R en_s0 112 d Q 0 [some u0, some u1, none] [] f := en_Ev_e (a := [u0, u1]) (show en_mL 112 = 3 by decide +kernel) (show 2 ≤ 3 by decide)
theorem e113 : en_Ev (d + 1) 113 [u0, u1, u2, u3, u4, u5] f Q = en_R en_s0 113 d Q 0 [some u0, some u1, some u2, some u3, some u4, some u5, none] [] f := en_Ev_e (a := [u0, u1, u2, u3, u4, u5]) (show en_mL 113 = 7 by decide +kernel) (show 6 ≤ 7 by decide)
theorem e114 : en_Ev (d + 1) 114 [u0, u1, u2, u3] f Q = en_R en_s0 114 d Q 0 [some u0, some u1, some u2, some u3] [] f := en_Ev_e (a := [u0, u1, u2, u3]) (show en_mL 114 = 4 by decide +kernel) (show 4 ≤ 4 by decide)
theorem e115 : en_Ev (d + 1) 115 [u0, u1, u2, u3, u4] f Q = en_R en_s0 115 d Q 0 [some u0, some u1, some u2, some u3, some u4] [] f := en_Ev_e (a := [u0, u1, u2, u3, u4]) (show en_mL 115 = 5 by decide +kernel) (show 5 ≤ 5 by decide)
theorem e116 : en_Ev (d + 1) 116 [u0, u1] f Q = en_R en_s0 116 d Q 0 [some u0, some u1, none, none, none, none, none] [] f := en_Ev_e (a := [u0, u1]) (show en_mL 116 = 7 by decide +kernel) (show 2 ≤ 7 by decide)
theorem e117 : en_Ev (d + 1) 117 [u0] f Q = en_R en_s0 117 d Q 0 [some u0, none, none] [] f := en_Ev_e (a := [u0]) (show en_mL 117 = 3 by decide +kernel) (show 1 ≤ 3 by decide)
theorem e118 : en_Ev (d + 1) 118 [u0] f Q = en_R en_s0 118 d Q 0 [some u0, none, none, none] [] f := en_Ev_e (a := [u0]) (show en_mL 118 = 4 by decide +kernel) (show 1 ≤ 4 by decide)
theorem e119 : en_Ev (d + 1) 119 [u0, u1] f Q = en_R en_s0 119 d Q 0 [some u0, some u1, none, none] [] f := en_Ev_e (a := [u0, u1]) (show en_mL 119 = 4 by decide +kernel) (show 2 ≤ 4 by decide)
theorem e120 : en_Ev (d + 1) 120 [u0, u1] f Q = en_R en_s0 120 d Q 0 [some u0, some u1] [] f := en_Ev_e (a := [u0, u1]) (show en_mL 120 = 2 by decide +kernel) (show 2 ≤ 2 by decide)
theorem e121 : en_Ev (d + 1) 121 [u0, u1] f Q = en_R en_s0 121 d Q 0 [some u0, some u1] [] f := en_Ev_e (a := [u0, u1]) (show en_mL 121 = 2 by decide +kernel) (show 2 ≤ 2 by decide)
theorem e122 : en_Ev (d + 1) 122 [u0, u1] f Q = en_R en_s0 122 d Q 0 [some u0, some u1] [] f := en_Ev_e (a := [u0, u1]) (show en_mL 122 = 2 by decide +kernel) (show 2 ≤ 2 by decide)
theorem e123 : en_Ev (d + 1) 123 [u0, u1, u2] f Q = en_R en_s0 123 d Q 0 [some u0, some u1, some u2] [] f := en_Ev_e (a := [u0, u1, u2]) (show en_mL 123 = 3 by decide +kernel) (show 3 ≤ 3 by decide)
theorem e124 : en_Ev (d + 1) 124 [u0, u1, u2] f Q = en_R en_s0 124 d Q 0 [some u0, some u1, some u2] [] f := en_Ev_e (a := [u0, u1, u2]) (show en_mL 124 = 3 by decide +kernel) (show 3 ≤ 3 by decide)
theorem e125 : en_Ev (d + 1) 125 [u0] f Q = en_R en_s0 125 d Q 0 [some u0] [] f := en_Ev_e (a := [u0]) (show en_mL 125 = 1 by decide +kernel) (show 1 ≤ 1 by decide)
theorem e126 : en_Ev (d + 1) 126 [u0, u1] f Q = en_R en_s0 126 d Q 0 [some u0, some u1] [] f := en_Ev_e (a := [u0, u1]) (show en_mL 126 = 2 by decide +kernel) (show 2 ≤ 2 by decide)
theorem e127 : en_Ev (d + 1) 127 [u0] f Q = en_R en_s0 127 d Q 0 [some u0] [] f := en_Ev_e (a := [u0]) (show en_mL 127 = 1 by decide +kernel) (show 1 ≤ 1 by decide)
end EnEntry
theorem cb_0 : en_isz 0 = true := rfl
theorem cb_1 : en_isz 1 = true := rfl
theorem cb_i {c : Prop} {h : Decidable c} : en_isz (@ite _ c h 1 0) = true := by by_cases hc : c <;> simp [hc] <;> rfl
theorem cb_j {c : Prop} {h : Decidable c} : en_isz (@ite _ c h 0 1) = true := by by_cases hc : c <;> simp [hc] <;> rfl
theorem cb_01 : (0 : Nat) < 1 := Nat.zero_lt_one
theorem cb_in {j n : Nat} (h : j < n) (hn : n < 2 ^ 31) : en_inr (nI j) n = true := by
  have h1 := nI_in h hn
  unfold en_inr
  simp only [Bool.and_eq_true, Bool.not_eq_true', decide_eq_false_iff_not]
  exact ⟨fun q => h1 (Or.inl q), fun q => h1 (Or.inr q)⟩
theorem cb_c6 {j : Nat} (h : j < 6) : (nI j).toNatClampNeg = j := nI_clamp (by omega)
theorem cb_c16 {j : Nat} (h : j < 16) : (nI j).toNatClampNeg = j := nI_clamp (by omega)
theorem cb_in6 {j : Nat} (h : j < 6) : en_inr (nI j) 6 = true := cb_in h (by omega)
theorem cb_in16 {j : Nat} (h : j < 16) : en_inr (nI j) 16 = true := cb_in h (by omega)
theorem cb_e0 {c : Prop} {h : Decidable c} : (@ite Int32 c h 1 0 = 0) = ¬ c := by by_cases hc : c <;> simp [hc]
theorem cb_e1 {c : Prop} {h : Decidable c} : (@ite Int32 c h 0 1 = 0) = c := by by_cases hc : c <;> simp [hc]
theorem cl_0 : (0 : Int32).toNatClampNeg = 0 := by decide
theorem cl_1 : (1 : Int32).toNatClampNeg = 1 := by decide
theorem cl_2 : (2 : Int32).toNatClampNeg = 2 := by decide
theorem cl_3 : (3 : Int32).toNatClampNeg = 3 := by decide
theorem cl_4 : (4 : Int32).toNatClampNeg = 4 := by decide
theorem cl_5 : (5 : Int32).toNatClampNeg = 5 := by decide
theorem cl_6 : (6 : Int32).toNatClampNeg = 6 := by decide
theorem cl_7 : (7 : Int32).toNatClampNeg = 7 := by decide
theorem cl_8 : (8 : Int32).toNatClampNeg = 8 := by decide
theorem cl_9 : (9 : Int32).toNatClampNeg = 9 := by decide
theorem cl_10 : (10 : Int32).toNatClampNeg = 10 := by decide
theorem cl_11 : (11 : Int32).toNatClampNeg = 11 := by decide
theorem cl_12 : (12 : Int32).toNatClampNeg = 12 := by decide
theorem cl_13 : (13 : Int32).toNatClampNeg = 13 := by decide
theorem cl_14 : (14 : Int32).toNatClampNeg = 14 := by decide
theorem cl_15 : (15 : Int32).toNatClampNeg = 15 := by decide
theorem cl_16 : (16 : Int32).toNatClampNeg = 16 := by decide
theorem ci_6_0 : en_inr (0 : Int32) 6 = true := by decide
theorem ci_6_1 : en_inr (1 : Int32) 6 = true := by decide
theorem ci_6_2 : en_inr (2 : Int32) 6 = true := by decide
theorem ci_6_3 : en_inr (3 : Int32) 6 = true := by decide
theorem ci_6_4 : en_inr (4 : Int32) 6 = true := by decide
theorem ci_6_5 : en_inr (5 : Int32) 6 = true := by decide
theorem ci_8_0 : en_inr (0 : Int32) 8 = true := by decide
theorem ci_8_1 : en_inr (1 : Int32) 8 = true := by decide
theorem ci_8_2 : en_inr (2 : Int32) 8 = true := by decide
theorem ci_8_3 : en_inr (3 : Int32) 8 = true := by decide
theorem ci_8_4 : en_inr (4 : Int32) 8 = true := by decide
theorem ci_8_5 : en_inr (5 : Int32) 8 = true := by decide
theorem ci_8_6 : en_inr (6 : Int32) 8 = true := by decide
theorem ci_8_7 : en_inr (7 : Int32) 8 = true := by decide
theorem ci_16_0 : en_inr (0 : Int32) 16 = true := by decide
theorem ci_16_1 : en_inr (1 : Int32) 16 = true := by decide
theorem ci_16_2 : en_inr (2 : Int32) 16 = true := by decide
theorem ci_16_3 : en_inr (3 : Int32) 16 = true := by decide
theorem ci_16_4 : en_inr (4 : Int32) 16 = true := by decide
theorem ci_16_5 : en_inr (5 : Int32) 16 = true := by decide
theorem ci_16_6 : en_inr (6 : Int32) 16 = true := by decide
theorem ci_16_7 : en_inr (7 : Int32) 16 = true := by decide
theorem ci_16_8 : en_inr (8 : Int32) 16 = true := by decide
theorem ci_16_9 : en_inr (9 : Int32) 16 = true := by decide
theorem ci_16_10 : en_inr (10 : Int32) 16 = true := by decide
theorem ci_16_11 : en_inr (11 : Int32) 16 = true := by decide
theorem ci_16_12 : en_inr (12 : Int32) 16 = true := by decide
theorem ci_16_13 : en_inr (13 : Int32) 16 = true := by decide
theorem ci_16_14 : en_inr (14 : Int32) 16 = true := by decide
theorem ci_16_15 : en_inr (15 : Int32) 16 = true := by decide
theorem ci_4_0 : en_inr (0 : Int32) 4 = true := by decide
theorem ci_4_1 : en_inr (1 : Int32) 4 = true := by decide
theorem ci_4_2 : en_inr (2 : Int32) 4 = true := by decide
theorem ci_4_3 : en_inr (3 : Int32) 4 = true := by decide
theorem ci_40_0 : en_inr (0 : Int32) 40 = true := by decide
theorem ci_40_1 : en_inr (1 : Int32) 40 = true := by decide
theorem ci_40_2 : en_inr (2 : Int32) 40 = true := by decide
theorem ci_40_3 : en_inr (3 : Int32) 40 = true := by decide
theorem ci_40_4 : en_inr (4 : Int32) 40 = true := by decide
theorem ci_40_5 : en_inr (5 : Int32) 40 = true := by decide
theorem ci_40_6 : en_inr (6 : Int32) 40 = true := by decide
theorem ci_40_7 : en_inr (7 : Int32) 40 = true := by decide
theorem ci_40_8 : en_inr (8 : Int32) 40 = true := by decide
theorem ci_40_9 : en_inr (9 : Int32) 40 = true := by decide
theorem ci_40_10 : en_inr (10 : Int32) 40 = true := by decide
theorem ci_40_11 : en_inr (11 : Int32) 40 = true := by decide
theorem ci_40_12 : en_inr (12 : Int32) 40 = true := by decide
theorem ci_40_13 : en_inr (13 : Int32) 40 = true := by decide
theorem ci_40_14 : en_inr (14 : Int32) 40 = true := by decide
theorem ci_40_15 : en_inr (15 : Int32) 40 = true := by decide
theorem cq_m1_0 : ((-1 : Int32) = (0 : Int32)) = False := by decide
theorem cq_m1_1 : ((-1 : Int32) = (1 : Int32)) = False := by decide
theorem cq_m1_2 : ((-1 : Int32) = (2 : Int32)) = False := by decide
theorem cq_m1_3 : ((-1 : Int32) = (3 : Int32)) = False := by decide
theorem cq_m1_4 : ((-1 : Int32) = (4 : Int32)) = False := by decide
theorem cq_m1_5 : ((-1 : Int32) = (5 : Int32)) = False := by decide
theorem cq_m1_6 : ((-1 : Int32) = (6 : Int32)) = False := by decide
theorem cq_m1_7 : ((-1 : Int32) = (7 : Int32)) = False := by decide
theorem cq_m1_8 : ((-1 : Int32) = (8 : Int32)) = False := by decide
theorem cq_0_m1 : ((0 : Int32) = (-1 : Int32)) = False := by decide
theorem cq_0_1 : ((0 : Int32) = (1 : Int32)) = False := by decide
theorem cq_0_2 : ((0 : Int32) = (2 : Int32)) = False := by decide
theorem cq_0_3 : ((0 : Int32) = (3 : Int32)) = False := by decide
theorem cq_0_4 : ((0 : Int32) = (4 : Int32)) = False := by decide
theorem cq_0_5 : ((0 : Int32) = (5 : Int32)) = False := by decide
theorem cq_0_6 : ((0 : Int32) = (6 : Int32)) = False := by decide
theorem cq_0_7 : ((0 : Int32) = (7 : Int32)) = False := by decide
theorem cq_0_8 : ((0 : Int32) = (8 : Int32)) = False := by decide
theorem cq_1_m1 : ((1 : Int32) = (-1 : Int32)) = False := by decide
theorem cq_1_0 : ((1 : Int32) = (0 : Int32)) = False := by decide
theorem cq_1_2 : ((1 : Int32) = (2 : Int32)) = False := by decide
theorem cq_1_3 : ((1 : Int32) = (3 : Int32)) = False := by decide
theorem cq_1_4 : ((1 : Int32) = (4 : Int32)) = False := by decide
theorem cq_1_5 : ((1 : Int32) = (5 : Int32)) = False := by decide
theorem cq_1_6 : ((1 : Int32) = (6 : Int32)) = False := by decide
theorem cq_1_7 : ((1 : Int32) = (7 : Int32)) = False := by decide
theorem cq_1_8 : ((1 : Int32) = (8 : Int32)) = False := by decide
theorem cq_2_m1 : ((2 : Int32) = (-1 : Int32)) = False := by decide
theorem cq_2_0 : ((2 : Int32) = (0 : Int32)) = False := by decide
theorem cq_2_1 : ((2 : Int32) = (1 : Int32)) = False := by decide
theorem cq_2_3 : ((2 : Int32) = (3 : Int32)) = False := by decide
theorem cq_2_4 : ((2 : Int32) = (4 : Int32)) = False := by decide
theorem cq_2_5 : ((2 : Int32) = (5 : Int32)) = False := by decide
theorem cq_2_6 : ((2 : Int32) = (6 : Int32)) = False := by decide
theorem cq_2_7 : ((2 : Int32) = (7 : Int32)) = False := by decide
theorem cq_2_8 : ((2 : Int32) = (8 : Int32)) = False := by decide
theorem cq_3_m1 : ((3 : Int32) = (-1 : Int32)) = False := by decide
theorem cq_3_0 : ((3 : Int32) = (0 : Int32)) = False := by decide
theorem cq_3_1 : ((3 : Int32) = (1 : Int32)) = False := by decide
theorem cq_3_2 : ((3 : Int32) = (2 : Int32)) = False := by decide
theorem cq_3_4 : ((3 : Int32) = (4 : Int32)) = False := by decide
theorem cq_3_5 : ((3 : Int32) = (5 : Int32)) = False := by decide
theorem cq_3_6 : ((3 : Int32) = (6 : Int32)) = False := by decide
theorem cq_3_7 : ((3 : Int32) = (7 : Int32)) = False := by decide
theorem cq_3_8 : ((3 : Int32) = (8 : Int32)) = False := by decide
theorem cq_4_m1 : ((4 : Int32) = (-1 : Int32)) = False := by decide
theorem cq_4_0 : ((4 : Int32) = (0 : Int32)) = False := by decide
theorem cq_4_1 : ((4 : Int32) = (1 : Int32)) = False := by decide
theorem cq_4_2 : ((4 : Int32) = (2 : Int32)) = False := by decide
theorem cq_4_3 : ((4 : Int32) = (3 : Int32)) = False := by decide
theorem cq_4_5 : ((4 : Int32) = (5 : Int32)) = False := by decide
theorem cq_4_6 : ((4 : Int32) = (6 : Int32)) = False := by decide
theorem cq_4_7 : ((4 : Int32) = (7 : Int32)) = False := by decide
theorem cq_4_8 : ((4 : Int32) = (8 : Int32)) = False := by decide
theorem cq_5_m1 : ((5 : Int32) = (-1 : Int32)) = False := by decide
theorem cq_5_0 : ((5 : Int32) = (0 : Int32)) = False := by decide
theorem cq_5_1 : ((5 : Int32) = (1 : Int32)) = False := by decide
theorem cq_5_2 : ((5 : Int32) = (2 : Int32)) = False := by decide
theorem cq_5_3 : ((5 : Int32) = (3 : Int32)) = False := by decide
theorem cq_5_4 : ((5 : Int32) = (4 : Int32)) = False := by decide
theorem cq_5_6 : ((5 : Int32) = (6 : Int32)) = False := by decide
theorem cq_5_7 : ((5 : Int32) = (7 : Int32)) = False := by decide
theorem cq_5_8 : ((5 : Int32) = (8 : Int32)) = False := by decide
theorem cq_6_m1 : ((6 : Int32) = (-1 : Int32)) = False := by decide
theorem cq_6_0 : ((6 : Int32) = (0 : Int32)) = False := by decide
theorem cq_6_1 : ((6 : Int32) = (1 : Int32)) = False := by decide
theorem cq_6_2 : ((6 : Int32) = (2 : Int32)) = False := by decide
theorem cq_6_3 : ((6 : Int32) = (3 : Int32)) = False := by decide
theorem cq_6_4 : ((6 : Int32) = (4 : Int32)) = False := by decide
theorem cq_6_5 : ((6 : Int32) = (5 : Int32)) = False := by decide
theorem cq_6_7 : ((6 : Int32) = (7 : Int32)) = False := by decide
theorem cq_6_8 : ((6 : Int32) = (8 : Int32)) = False := by decide
theorem cq_7_m1 : ((7 : Int32) = (-1 : Int32)) = False := by decide
theorem cq_7_0 : ((7 : Int32) = (0 : Int32)) = False := by decide
theorem cq_7_1 : ((7 : Int32) = (1 : Int32)) = False := by decide
theorem cq_7_2 : ((7 : Int32) = (2 : Int32)) = False := by decide
theorem cq_7_3 : ((7 : Int32) = (3 : Int32)) = False := by decide
theorem cq_7_4 : ((7 : Int32) = (4 : Int32)) = False := by decide
theorem cq_7_5 : ((7 : Int32) = (5 : Int32)) = False := by decide
theorem cq_7_6 : ((7 : Int32) = (6 : Int32)) = False := by decide
theorem cq_7_8 : ((7 : Int32) = (8 : Int32)) = False := by decide
theorem cq_8_m1 : ((8 : Int32) = (-1 : Int32)) = False := by decide
theorem cq_8_0 : ((8 : Int32) = (0 : Int32)) = False := by decide
theorem cq_8_1 : ((8 : Int32) = (1 : Int32)) = False := by decide
theorem cq_8_2 : ((8 : Int32) = (2 : Int32)) = False := by decide
theorem cq_8_3 : ((8 : Int32) = (3 : Int32)) = False := by decide
theorem cq_8_4 : ((8 : Int32) = (4 : Int32)) = False := by decide
theorem cq_8_5 : ((8 : Int32) = (5 : Int32)) = False := by decide
theorem cq_8_6 : ((8 : Int32) = (6 : Int32)) = False := by decide
theorem cq_8_7 : ((8 : Int32) = (7 : Int32)) = False := by decide
theorem cb_rng {x : Int32} {n : Nat} {m : Int32} (hm : m = nI n) (hn : n < 2 ^ 31) (h0 : 0 ≤ x) (h1 : x < m) : en_inr x n = true := by
  subst hm
  have h2 : 0 ≤ x.toInt := Jvm.Kit.i32_nonneg.mp h0
  have h3 := Int32.lt_iff_toInt_lt.mp h1
  rw [nI_toInt hn] at h3
  have h4 := vp_in_iff.mpr ⟨h2, h3⟩
  unfold en_inr
  simp only [Bool.and_eq_true, Bool.not_eq_true', decide_eq_false_iff_not]
  exact ⟨fun q => h4 (Or.inl q), fun q => h4 (Or.inr q)⟩
theorem en_ua {f : en_F} {k i j k' i' j' : Nat} {x : Int32} : en_up f k i j x k' i' j' = if k' = k ∧ i' = i ∧ j' = j then x else f k' i' j' := rfl
theorem cr_rem {a m : Nat} {x y : Int32} (hx : x = nI a) (hy : y = nI m) (ha : a < 2 ^ 31) (h0 : 0 < m) (hm : m < 2 ^ 31) : x - x / y * y = nI (a % m) := by
  subst hx; subst hy; exact pk_rem ha h0 hm
theorem cb_lt {a b : Nat} (ha : a < 2 ^ 31) (hb : b < 2 ^ 31) : (nI a < nI b) = (a < b) := propext (nI_ltI ha hb)
theorem cb_ix (x : Int32) {n : Nat} (hn : n < 2 ^ 31) (h0 : ¬ x < 0) (h1 : x < nI n) : ∃ j : Nat, j < n ∧ x = nI j := by
  rcases pk_ix x hn with h | h | h
  · exact absurd h h0
  · exact absurd h1 (by simpa using h)
  · exact h
theorem cb_le {a b : Int32} : (a ≤ b) = ¬ (b < a) := by simp
theorem cb_nn {c : Prop} : (¬ ¬ c) = c := by simp
theorem cb_rg {x : Int32} {n : Nat} {m : Int32} (hm : m = nI n) (hn : n < 2 ^ 31) (h0 : ¬ x < 0) (h1 : x < m) : en_inr x n = true := cb_rng hm hn (by simpa using h0) h1
theorem cb_nle {a b : Int32} : (¬ a ≤ b) = (b < a) := by simp
theorem cb_nlt {a b : Int32} : (¬ a < b) = (b ≤ a) := by simp
end
section
/-! THE CLASS AS PURE FUNCTIONS, 1: Disk, Order, Line, KeyLog, Device, Port (f: kinds 0 bus, 3 Port, 4 Device, 5 Disk, 6 content, 7 codes, 8 Order, 9 numbers, 10 Line, 11 losses, 12 KeyLog, 13 recentKeys) -/
section Cx1
variable {d p k n : Nat} {f : en_T} {Q : en_Q} {v w a b x : Int32}
-- Port.isFull
set_option maxRecDepth 100000 in
set_option maxHeartbeats 4000000 in
theorem cv_isFull (hp : p < 6) : en_Ev (d + 1) 26 [.inr (3, p)] f Q = Q (some (.inl (if f.1 4 p 3 = 0 then 0 else 1))) f := by
  simp only [e26, r26_0, r26_1, r26_4, r26_7, r26_10, r26_11, r26_14, r26_15, true_and, and_true, Option.toList_some, Option.toList_none, List.cons_append, List.nil_append, List.length_nil, List.length_cons, Nat.reduceAdd, Nat.reduceLeDiff, Nat.zero_le, cb_0, cb_1, cb_01, cb_i, cb_j, eq_self, cb_le, cb_nn, ↓reduceIte, en_ua, Nat.reduceEqDiff, false_and, and_false, and_self, hp]
  by_cases h : f.1 4 p 3 = 0 <;> simp [h]
-- Port.isReadyAs
set_option maxRecDepth 100000 in
set_option maxHeartbeats 4000000 in
theorem cv_isReadyAs (hp : p < 6) : en_Ev (d + 1) 27 [.inr (3, p), .inl v] f Q = Q (some (.inl (if f.1 3 p 3 = 3 ∧ f.1 3 p 9 = v then 1 else 0))) f := by
  simp only [e27, r27_0, r27_1, r27_4, r27_5, r27_8, r27_9, r27_12, r27_13, r27_16, r27_17, r27_20, r27_21, true_and, and_true, Option.toList_some, Option.toList_none, List.cons_append, List.nil_append, List.length_nil, List.length_cons, Nat.reduceAdd, Nat.reduceLeDiff, Nat.zero_le, cb_0, cb_1, cb_01, cb_i, cb_j, eq_self, cb_le, cb_nn, ↓reduceIte, en_ua, Nat.reduceEqDiff, false_and, and_false, and_self, hp]
  by_cases h : f.1 3 p 3 = 3 <;> by_cases h2 : f.1 3 p 9 = v <;> simp [h, h2]
def cx_lose (f : en_F) (p : Nat) : en_F := en_up (en_up (en_up f 4 p 3 0) 4 p 8 0) 3 p 1 0
set_option maxRecDepth 100000 in
set_option maxHeartbeats 4000000 in
theorem cv_lose (hp : p < 6) : en_Ev (d + 1) 28 [.inr (3, p)] f Q = Q none (cx_lose f.1 p, f.2) := by
  simp only [e28, r28_0, r28_1, r28_4, r28_5, r28_8, r28_9, r28_12, r28_13, r28_16, r28_17, r28_18, r28_21, true_and, and_true, Option.toList_some, Option.toList_none, List.cons_append, List.nil_append, List.length_nil, List.length_cons, Nat.reduceAdd, Nat.reduceLeDiff, Nat.zero_le, cb_0, cb_1, cb_01, cb_i, cb_j, eq_self, cb_le, cb_nn, ↓reduceIte, en_ua, Nat.reduceEqDiff, false_and, and_false, and_self, hp]; rfl
def cx_leave (f : en_F) (p : Nat) (v : Int32) : en_F := en_up (en_up (en_up f 3 p 3 v) 3 p 1 0) 3 p 4 0
set_option maxRecDepth 100000 in
set_option maxHeartbeats 4000000 in
theorem cv_leave (hp : p < 6) : en_Ev (d + 1) 29 [.inr (3, p), .inl v] f Q = Q none (cx_leave f.1 p v, f.2) := by
  simp only [e29, r29_0, r29_1, r29_2, r29_5, r29_6, r29_7, r29_10, r29_11, r29_12, r29_15, true_and, and_true, Option.toList_some, Option.toList_none, List.cons_append, List.nil_append, List.length_nil, List.length_cons, Nat.reduceAdd, Nat.reduceLeDiff, Nat.zero_le, cb_0, cb_1, cb_01, cb_i, cb_j, eq_self, cb_le, cb_nn, ↓reduceIte, en_ua, Nat.reduceEqDiff, false_and, and_false, and_self, hp]; rfl
def cx_rest (f : en_F) (p : Nat) : en_F := en_up (en_up (en_up f 5 p 3 0) 5 p 4 0) 5 p 6 0
set_option maxRecDepth 100000 in
set_option maxHeartbeats 4000000 in
theorem cv_rest (hp : p < 6) : en_Ev (d + 1) 1 [.inr (5, p)] f Q = Q none (cx_rest f.1 p, f.2) := by
  simp only [e1, r1_0, r1_1, r1_2, r1_5, r1_6, r1_7, r1_10, r1_11, r1_12, r1_15, true_and, and_true, Option.toList_some, Option.toList_none, List.cons_append, List.nil_append, List.length_nil, List.length_cons, Nat.reduceAdd, Nat.reduceLeDiff, Nat.zero_le, cb_0, cb_1, cb_01, cb_i, cb_j, eq_self, cb_le, cb_nn, ↓reduceIte, en_ua, Nat.reduceEqDiff, false_and, and_false, and_self, hp]; rfl
-- Disk.mustTakeData, mustMakePacket
set_option maxRecDepth 100000 in
set_option maxHeartbeats 4000000 in
theorem cv_mustTake (hp : p < 6) : en_Ev (d + 1) 3 [.inr (5, p)] f Q = Q (some (.inl (if f.1 5 p 4 = 2 ∧ 0 < f.1 5 p 6 then 1 else 0))) f := by
  simp only [e3, r3_0, r3_1, r3_4, r3_5, r3_8, r3_9, r3_12, r3_15, r3_16, r3_19, r3_20, true_and, and_true, Option.toList_some, Option.toList_none, List.cons_append, List.nil_append, List.length_nil, List.length_cons, Nat.reduceAdd, Nat.reduceLeDiff, Nat.zero_le, cb_0, cb_1, cb_01, cb_i, cb_j, eq_self, cb_le, cb_nn, ↓reduceIte, en_ua, Nat.reduceEqDiff, false_and, and_false, and_self, hp]
  by_cases h : f.1 5 p 4 = 2 <;> by_cases h2 : 0 < f.1 5 p 6 <;> simp [h, h2]
set_option maxRecDepth 100000 in
set_option maxHeartbeats 4000000 in
theorem cv_mustMake (hp : p < 6) : en_Ev (d + 1) 4 [.inr (5, p)] f Q = Q (some (.inl (if f.1 5 p 4 = 1 ∨ (f.1 5 p 4 = 2 ∧ f.1 5 p 6 = 0) then 1 else 0))) f := by
  simp only [e4, r4_0, r4_1, r4_4, r4_5, r4_8, r4_9, r4_12, r4_13, r4_16, r4_17, r4_20, r4_23, r4_24, r4_27, r4_28, true_and, and_true, Option.toList_some, Option.toList_none, List.cons_append, List.nil_append, List.length_nil, List.length_cons, Nat.reduceAdd, Nat.reduceLeDiff, Nat.zero_le, cb_0, cb_1, cb_01, cb_i, cb_j, eq_self, cb_le, cb_nn, ↓reduceIte, en_ua, Nat.reduceEqDiff, false_and, and_false, and_self, hp]
  by_cases h : f.1 5 p 4 = 1 <;> by_cases h2 : f.1 5 p 4 = 2 <;> by_cases h3 : f.1 5 p 6 = 0 <;> simp [h, h2, h3]
/-- Disk.becomeNew -/
def cx_knew (f : en_F) (p : Nat) (v w : Int32) : en_F := fun k i j => if k = 6 ∧ i = p ∧ j < 8 then 0 else en_up (en_up f 5 p 1 v) 5 p 2 w k i j
theorem cx_knew_eq (f : en_F) (p : Nat) (v w : Int32) : en_up (en_up (en_up (en_up (en_up (en_up (en_up (en_up (en_up (en_up f 5 p 1 v) 5 p 2 w) 6 p 0 0) 6 p 1 0) 6 p 2 0) 6 p 3 0) 6 p 4 0) 6 p 5 0) 6 p 6 0) 6 p 7 0 = cx_knew f p v w := by
  funext k i j
  by_cases hk : k = 6
  · subst hk
    by_cases hi : i = p
    · subst hi
      by_cases hj : j < 8
      · rcases (by omega : j = 0 ∨ j = 1 ∨ j = 2 ∨ j = 3 ∨ j = 4 ∨ j = 5 ∨ j = 6 ∨ j = 7) with rfl | rfl | rfl | rfl | rfl | rfl | rfl | rfl <;> simp [en_up, cx_knew]
      · have : j ≠ 0 ∧ j ≠ 1 ∧ j ≠ 2 ∧ j ≠ 3 ∧ j ≠ 4 ∧ j ≠ 5 ∧ j ≠ 6 ∧ j ≠ 7 := by omega
        simp [en_up, cx_knew, this, hj]
    · simp [en_up, cx_knew, hi]
  · simp [en_up, cx_knew, hk]
set_option maxRecDepth 100000 in
set_option maxHeartbeats 4000000 in
theorem cv_knew (hp : p < 6) : en_Ev (d + 1) 0 [.inr (5, p), .inl v, .inl w] f Q = Q none (cx_knew f.1 p v w, f.2) := by
  simp only [e0, r0_0, r0_1, r0_2, r0_5, r0_6, r0_7, r0_10, r0_11, r0_12, r0_13, r0_15, r0_18, r0_19, r0_22, r0_23, r0_24, r0_25, r0_28, r0_31, true_and, and_true, Option.toList_some, Option.toList_none, List.cons_append, List.nil_append, List.length_nil, List.length_cons, Nat.reduceAdd, Nat.reduceLeDiff, Nat.zero_le, cb_0, cb_1, cb_01, cb_i, cb_j, eq_self, cb_le, cb_nn, ↓reduceIte, en_ua, Nat.reduceEqDiff, false_and, and_false, and_self, Int32.reduceLT, Int32.reduceAdd, Int32.reduceSub, Int32.reduceMul, Int32.reduceDiv, not_true_eq_false, not_false_eq_true, false_implies, true_implies, implies_true, cl_0, cl_1, cl_2, cl_3, cl_4, cl_5, cl_6, cl_7, cl_8, cl_9, cl_10, cl_11, cl_12, cl_13, cl_14, cl_15, cl_16, ci_6_0, ci_6_1, ci_6_2, ci_6_3, ci_6_4, ci_6_5, ci_8_0, ci_8_1, ci_8_2, ci_8_3, ci_8_4, ci_8_5, ci_8_6, ci_8_7, ci_16_0, ci_16_1, ci_16_2, ci_16_3, ci_16_4, ci_16_5, ci_16_6, ci_16_7, ci_16_8, ci_16_9, ci_16_10, ci_16_11, ci_16_12, ci_16_13, ci_16_14, ci_16_15, ci_4_0, ci_4_1, ci_4_2, ci_4_3, ci_40_0, ci_40_1, ci_40_2, ci_40_3, ci_40_4, ci_40_5, ci_40_6, ci_40_7, ci_40_8, ci_40_9, ci_40_10, ci_40_11, ci_40_12, ci_40_13, ci_40_14, ci_40_15, cq_m1_0, cq_m1_1, cq_m1_2, cq_m1_3, cq_m1_4, cq_m1_5, cq_m1_6, cq_m1_7, cq_m1_8, cq_0_m1, cq_0_1, cq_0_2, cq_0_3, cq_0_4, cq_0_5, cq_0_6, cq_0_7, cq_0_8, cq_1_m1, cq_1_0, cq_1_2, cq_1_3, cq_1_4, cq_1_5, cq_1_6, cq_1_7, cq_1_8, cq_2_m1, cq_2_0, cq_2_1, cq_2_3, cq_2_4, cq_2_5, cq_2_6, cq_2_7, cq_2_8, cq_3_m1, cq_3_0, cq_3_1, cq_3_2, cq_3_4, cq_3_5, cq_3_6, cq_3_7, cq_3_8, cq_4_m1, cq_4_0, cq_4_1, cq_4_2, cq_4_3, cq_4_5, cq_4_6, cq_4_7, cq_4_8, cq_5_m1, cq_5_0, cq_5_1, cq_5_2, cq_5_3, cq_5_4, cq_5_6, cq_5_7, cq_5_8, cq_6_m1, cq_6_0, cq_6_1, cq_6_2, cq_6_3, cq_6_4, cq_6_5, cq_6_7, cq_6_8, cq_7_m1, cq_7_0, cq_7_1, cq_7_2, cq_7_3, cq_7_4, cq_7_5, cq_7_6, cq_7_8, cq_8_m1, cq_8_0, cq_8_1, cq_8_2, cq_8_3, cq_8_4, cq_8_5, cq_8_6, cq_8_7, hp]
  rw [cx_knew_eq]
/-- Disk.blockAt -/
def cx_blockAt (f : en_F) (p : Nat) (v : Int32) : Int32 := if ¬ v < 0 ∧ v < f 5 p 1 ∧ v < 8 then f 6 p v.toNatClampNeg else 0
set_option maxRecDepth 100000 in
set_option maxHeartbeats 4000000 in
theorem cv_blockAt (hp : p < 6) : en_Ev (d + 1) 2 [.inr (5, p), .inl v] f Q = Q (some (.inl (cx_blockAt f.1 p v))) f := by
  simp only [e2, r2_0, r2_1, r2_4, r2_5, r2_6, r2_9, r2_12, r2_13, r2_15, r2_18, r2_19, r2_22, r2_23, r2_24, r2_27, r2_28, true_and, and_true, Option.toList_some, Option.toList_none, List.cons_append, List.nil_append, List.length_nil, List.length_cons, Nat.reduceAdd, Nat.reduceLeDiff, Nat.zero_le, cb_0, cb_1, cb_01, cb_i, cb_j, eq_self, cb_le, cb_nn, ↓reduceIte, en_ua, Nat.reduceEqDiff, false_and, and_false, and_self, hp]
  unfold cx_blockAt
  by_cases h : v < 0 <;> by_cases h2 : v < f.1 5 p 1 <;> by_cases h3 : v < 8 <;> simp [h, h2, h3]
  · intro _; exact cb_rg (m := 8) rfl (by decide) h h3
/-- Disk.takeCommand, take, make -/
def cx_takeC (f : en_F) (p : Nat) (v : Int32) : en_F := en_up (en_up (en_up (en_up f 5 p 3 (f 5 p 2)) 5 p 4 (if v &&& 64 = 0 then 1 else 2)) 5 p 5 (v >>> (3 &&& 31) &&& 7)) 5 p 6 (v &&& 7)
set_option maxRecDepth 100000 in
set_option maxHeartbeats 4000000 in
theorem cv_takeC (hp : p < 6) : en_Ev (d + 1) 6 [.inr (5, p), .inl v] f Q = Q none (cx_takeC f.1 p v, f.2) := by
  simp only [e6, r6_0, r6_1, r6_2, r6_5, r6_8, r6_9, r6_10, r6_12, r6_13, r6_16, r6_17, r6_20, r6_21, r6_24, r6_25, r6_26, r6_27, r6_28, r6_30, r6_31, r6_34, r6_35, r6_36, r6_38, r6_39, r6_42, true_and, and_true, Option.toList_some, Option.toList_none, List.cons_append, List.nil_append, List.length_nil, List.length_cons, Nat.reduceAdd, Nat.reduceLeDiff, Nat.zero_le, cb_0, cb_1, cb_01, cb_i, cb_j, eq_self, cb_le, cb_nn, ↓reduceIte, en_ua, Nat.reduceEqDiff, false_and, and_false, and_self, hp]
  unfold cx_takeC
  by_cases h : v &&& 64 = 0 <;> simp [h]
def cx_take (f : en_F) (p : Nat) (v : Int32) : en_F := if f 5 p 4 = 0 then cx_takeC f p v else if (f 5 p 4 = 2 ∧ 0 < f 5 p 6) ∧ ¬ f 5 p 5 < 0 ∧ f 5 p 5 < 8 then en_up (en_up (en_up f 6 p (f 5 p 5).toNatClampNeg v) 5 p 5 (f 5 p 5 + 1)) 5 p 6 (f 5 p 6 - 1) else f
set_option maxRecDepth 100000 in
set_option maxHeartbeats 4000000 in
theorem cv_take (hp : p < 6) : en_Ev (d + 2) 5 [.inr (5, p), .inl v] f Q = Q none (cx_take f.1 p v, f.2) := by
  simp only [e5, r5_0, r5_1, r5_4, r5_7, r5_8, r5_9, r5_12, r5_15, r5_16, r5_19, r5_22, r5_23, r5_26, r5_29, r5_30, r5_33, r5_35, r5_38, r5_39, r5_42, r5_43, r5_46, r5_47, r5_48, r5_49, r5_50, r5_53, r5_54, r5_55, r5_58, r5_59, r5_60, r5_63, r5_64, r5_65, r5_68, true_and, and_true, Option.toList_some, Option.toList_none, List.cons_append, List.nil_append, List.length_nil, List.length_cons, Nat.reduceAdd, Nat.reduceLeDiff, Nat.zero_le, cb_0, cb_1, cb_01, cb_i, cb_j, eq_self, cb_le, cb_nn, ↓reduceIte, en_ua, Nat.reduceEqDiff, false_and, and_false, and_self, hp, cv_takeC hp, cv_mustTake hp, cb_e0]
  unfold cx_take
  by_cases h : f.1 5 p 4 = 0
  · simp [h]
  · by_cases h2 : f.1 5 p 4 = 2 ∧ 0 < f.1 5 p 6
    · by_cases h3 : f.1 5 p 5 < 0 <;> by_cases h4 : f.1 5 p 5 < 8 <;> simp [h, h2, h3, h4, en_up]
      · intro _; exact cb_rg (m := 8) rfl (by decide) h3 h4
    · simp [h, h2]
def cx_kmake (f : en_F) (p : Nat) : Int32 × en_F := if f 5 p 6 = 0 then (0, en_up f 5 p 4 0) else (if ¬ f 5 p 5 < 0 ∧ f 5 p 5 < 8 then f 6 p (f 5 p 5).toNatClampNeg else 0, en_up (en_up f 5 p 5 (f 5 p 5 + 1)) 5 p 6 (f 5 p 6 - 1))
set_option maxRecDepth 100000 in
set_option maxHeartbeats 4000000 in
theorem cv_kmake (hp : p < 6) : en_Ev (d + 1) 7 [.inr (5, p)] f Q = Q (some (.inl (cx_kmake f.1 p).1)) ((cx_kmake f.1 p).2, f.2) := by
  simp only [e7, r7_0, r7_1, r7_4, r7_7, r7_8, r7_9, r7_12, r7_13, r7_14, r7_15, r7_18, r7_21, r7_22, r7_25, r7_27, r7_30, r7_31, r7_34, r7_35, r7_38, r7_39, r7_42, r7_43, r7_44, r7_45, r7_46, r7_49, r7_50, r7_51, r7_54, r7_55, r7_56, r7_59, r7_60, r7_61, r7_64, r7_65, true_and, and_true, Option.toList_some, Option.toList_none, List.cons_append, List.nil_append, List.length_nil, List.length_cons, Nat.reduceAdd, Nat.reduceLeDiff, Nat.zero_le, cb_0, cb_1, cb_01, cb_i, cb_j, eq_self, cb_le, cb_nn, ↓reduceIte, en_ua, Nat.reduceEqDiff, false_and, and_false, and_self, hp]
  unfold cx_kmake
  by_cases h : f.1 5 p 6 = 0
  · simp [h]
  · by_cases h3 : f.1 5 p 5 < 0 <;> by_cases h4 : f.1 5 p 5 < 8 <;> simp [h, h3, h4, en_up]
    · intro _; exact cb_rg (m := 8) rfl (by decide) h3 h4
end Cx1
end
section
/-! THE CLASS AS PURE FUNCTIONS, 2: Order, Line, KeyLog -/
section Cx2
variable {d p k n m : Nat} {f : en_T} {Q : en_Q} {v w a b x : Int32}
-- Order.goesOut
set_option maxRecDepth 100000 in
set_option maxHeartbeats 4000000 in
theorem cv_goesOut (hk : k < 16) : en_Ev (d + 1) 8 [.inr (8, k), .inl v] f Q = Q (some (.inl (if v = 0 ∨ (¬ f.1 8 k 5 = 0 ∧ ¬ f.1 8 k 4 < v) then 1 else 0))) f := by
  simp only [e8, r8_0, r8_1, r8_4, r8_5, r8_8, r8_11, r8_12, r8_13, r8_16, r8_19, r8_20, r8_23, r8_24, true_and, and_true, Option.toList_some, Option.toList_none, List.cons_append, List.nil_append, List.length_nil, List.length_cons, Nat.reduceAdd, Nat.reduceLeDiff, Nat.zero_le, cb_0, cb_1, cb_01, cb_i, cb_j, eq_self, cb_le, cb_nn, ↓reduceIte, en_ua, Nat.reduceEqDiff, false_and, and_false, and_self, hk]
  by_cases h : v = 0 <;> by_cases h2 : f.1 8 k 5 = 0 <;> by_cases h3 : f.1 8 k 4 < v <;> simp [h, h2, h3]
def cx_packetAt (f : en_F) (k : Nat) (v : Int32) : Int32 := if 0 < v then f 8 k 6 + v - 1 else f 8 k 4 ||| f 8 k 3 <<< ((3 : Int32) &&& 31) ||| (if f 8 k 5 = 0 then 0 else 64)
set_option maxRecDepth 100000 in
set_option maxHeartbeats 4000000 in
theorem cv_packetAt (hk : k < 16) : en_Ev (d + 1) 9 [.inr (8, k), .inl v] f Q = Q (some (.inl (cx_packetAt f.1 k v))) f := by
  simp only [e9, r9_0, r9_1, r9_4, r9_5, r9_8, r9_9, r9_10, r9_11, r9_12, r9_13, r9_14, r9_17, r9_18, r9_21, r9_22, r9_23, r9_24, r9_25, r9_28, r9_31, r9_33, r9_36, r9_37, r9_38, true_and, and_true, Option.toList_some, Option.toList_none, List.cons_append, List.nil_append, List.length_nil, List.length_cons, Nat.reduceAdd, Nat.reduceLeDiff, Nat.zero_le, cb_0, cb_1, cb_01, cb_i, cb_j, eq_self, cb_le, cb_nn, ↓reduceIte, en_ua, Nat.reduceEqDiff, false_and, and_false, and_self, hk]
  unfold cx_packetAt
  by_cases h : 0 < v <;> by_cases h2 : f.1 8 k 5 = 0 <;> simp [h, h2]
def cx_keep (f : en_F) (k : Nat) (v : Int32) : en_F := if f 8 k 1 < 4 then en_up (en_up f 9 k (f 8 k 1).toNatClampNeg v) 8 k 1 (f 8 k 1 + 1) else f
set_option maxRecDepth 100000 in
set_option maxHeartbeats 4000000 in
theorem cv_keep (hk : k < 16) (h0 : ¬ f.1 8 k 1 < 0) : en_Ev (d + 1) 10 [.inr (8, k), .inl v] f Q = Q none (cx_keep f.1 k v, f.2) := by
  simp only [e10, r10_0, r10_1, r10_4, r10_5, r10_8, r10_9, r10_12, r10_13, r10_16, r10_17, r10_18, r10_19, r10_20, r10_23, r10_24, r10_25, r10_28, true_and, and_true, Option.toList_some, Option.toList_none, List.cons_append, List.nil_append, List.length_nil, List.length_cons, Nat.reduceAdd, Nat.reduceLeDiff, Nat.zero_le, cb_0, cb_1, cb_01, cb_i, cb_j, eq_self, cb_le, cb_nn, ↓reduceIte, en_ua, Nat.reduceEqDiff, false_and, and_false, and_self, hk]
  unfold cx_keep
  by_cases h : f.1 8 k 1 < 4
  · have h1 : en_inr (f.1 8 k 1) 4 = true := cb_rg (m := 4) rfl (by decide) h0 h
    simp [h, h1]
  · simp [h]
set_option maxRecDepth 100000 in
set_option maxHeartbeats 4000000 in
theorem cv_takenNumber (hk : k < 16) (h4 : ¬ 4 < f.1 8 k 1) : en_Ev (d + 1) 11 [.inr (8, k), .inl v] f Q = Q (some (.inl (if ¬ v < 0 ∧ v < f.1 8 k 1 then f.1 9 k v.toNatClampNeg else 0))) f := by
  simp only [e11, r11_0, r11_1, r11_4, r11_5, r11_6, r11_9, r11_12, r11_13, r11_16, r11_17, r11_18, r11_21, r11_22, true_and, and_true, Option.toList_some, Option.toList_none, List.cons_append, List.nil_append, List.length_nil, List.length_cons, Nat.reduceAdd, Nat.reduceLeDiff, Nat.zero_le, cb_0, cb_1, cb_01, cb_i, cb_j, eq_self, cb_le, cb_nn, ↓reduceIte, en_ua, Nat.reduceEqDiff, false_and, and_false, and_self, hk]
  by_cases h : v < 0
  · simp [h]
  · by_cases h2 : v < f.1 8 k 1
    · have h3 : v < 4 := Int32.lt_of_lt_of_le h2 (by simpa using h4)
      have h1 : en_inr v 4 = true := cb_rg (m := 4) rfl (by decide) h h3
      simp [h, h2, h1]
    · simp [h, h2]
def cx_end (f : en_F) (k : Nat) (v : Int32) : en_F := if f 8 k 7 = 0 then en_up f 8 k 7 v else f
set_option maxRecDepth 100000 in
set_option maxHeartbeats 4000000 in
theorem cv_end (hk : k < 16) : en_Ev (d + 1) 12 [.inr (8, k), .inl v] f Q = Q none (cx_end f.1 k v, f.2) := by
  simp only [e12, r12_0, r12_1, r12_4, r12_7, r12_8, r12_9, r12_12, true_and, and_true, Option.toList_some, Option.toList_none, List.cons_append, List.nil_append, List.length_nil, List.length_cons, Nat.reduceAdd, Nat.reduceLeDiff, Nat.zero_le, cb_0, cb_1, cb_01, cb_i, cb_j, eq_self, cb_le, cb_nn, ↓reduceIte, en_ua, Nat.reduceEqDiff, false_and, and_false, and_self, hk]
  unfold cx_end
  by_cases h : f.1 8 k 7 = 0 <;> simp [h]
-- Line
theorem cx_p40 {n m : Nat} (hn : n < 40) (h1 : 1 ≤ m) (hm : m ≤ 40) : (nI n + nI m - 1) - (nI n + nI m - 1) / 40 * 40 = nI ((n + m - 1) % 40) :=
  cr_rem (by rw [nI_add, show (1 : Int32) = nI 1 from rfl, pk_sub (by omega)]) (m := 40) rfl (by omega) (by omega) (by omega)
set_option maxRecDepth 100000 in
set_option maxHeartbeats 4000000 in
theorem cv_plan (hn : n < 40) (h : f.1 10 0 1 = nI n) (h1 : 1 ≤ m) (hm : m ≤ 40) : en_Ev (d + 1) 13 [.inr (10, 0), .inl (nI m), .inl v] f Q = Q none (en_up f.1 11 0 ((n + m - 1) % 40) (if v = 3 then 0 else v + 1), f.2) := by
  have h2 : (n + m - 1) % 40 < 40 := Nat.mod_lt _ (by omega)
  have h3 : en_inr (nI ((n + m - 1) % 40)) 40 = true := cb_in h2 (by omega)
  have h4 : (nI ((n + m - 1) % 40)).toNatClampNeg = (n + m - 1) % 40 := nI_clamp (by omega)
  have h5 : ¬ (40 : Int32) = 0 := by decide
  simp only [e13, r13_0, r13_1, r13_4, r13_5, r13_8, r13_9, r13_10, r13_11, r13_12, r13_14, r13_15, r13_16, r13_17, r13_20, r13_21, r13_24, r13_25, r13_26, r13_27, r13_28, true_and, and_true, Option.toList_some, Option.toList_none, List.cons_append, List.nil_append, List.length_nil, List.length_cons, Nat.reduceAdd, Nat.reduceLeDiff, Nat.zero_le, cb_0, cb_1, cb_01, cb_i, cb_j, eq_self, cb_le, cb_nn, ↓reduceIte, en_ua, Nat.reduceEqDiff, false_and, and_false, and_self, h, cx_p40 hn h1 hm, h3, h4, h5, not_false_eq_true]
  by_cases h6 : v = 3 <;> simp [h6, h3, h4]
def cx_nx (f : en_F) (n : Nat) : en_F := en_up (en_up (en_up f 11 0 n 0) 10 0 1 (nI ((n + 1) % 40))) 10 0 2 (f 10 0 2 + 1)
theorem cx_n40 {n : Nat} (hn : n < 40) : (nI n + 1) - (nI n + 1) / 40 * 40 = nI ((n + 1) % 40) :=
  cr_rem (by rw [nI_1]) (m := 40) rfl (by omega) (by omega) (by omega)
set_option maxRecDepth 100000 in
set_option maxHeartbeats 4000000 in
theorem cv_nx (hn : n < 40) (h : f.1 10 0 1 = nI n) : en_Ev (d + 1) 14 [.inr (10, 0)] f Q = Q (some (.inl (if f.1 11 0 n = 0 then 3 else f.1 11 0 n - 1))) (cx_nx f.1 n, f.2) := by
  have h3 : en_inr (nI n) 40 = true := cb_in hn (by omega)
  have h4 : (nI n).toNatClampNeg = n := nI_clamp (by omega)
  have h5 : ¬ (40 : Int32) = 0 := by decide
  simp only [e14, r14_0, r14_1, r14_4, r14_5, r14_8, r14_9, r14_10, r14_11, r14_14, r14_15, r14_18, r14_19, r14_20, r14_21, r14_22, r14_25, r14_26, r14_27, r14_29, r14_30, r14_33, r14_34, r14_35, r14_38, r14_39, r14_40, r14_43, r14_44, r14_47, r14_48, r14_51, r14_52, r14_53, r14_54, true_and, and_true, Option.toList_some, Option.toList_none, List.cons_append, List.nil_append, List.length_nil, List.length_cons, Nat.reduceAdd, Nat.reduceLeDiff, Nat.zero_le, cb_0, cb_1, cb_01, cb_i, cb_j, eq_self, cb_le, cb_nn, ↓reduceIte, en_ua, Nat.reduceEqDiff, false_and, and_false, and_self, h, cx_n40 hn, h3, h4, h5, not_false_eq_true]
  by_cases h6 : f.1 11 0 n = 0 <;> simp [h6, cx_nx]
-- KeyLog
def cx_add (f : en_F) (n : Nat) (v : Int32) : en_F := en_up (en_up (en_up f 13 0 n v) 12 0 1 (nI ((n + 1) % 8))) 12 0 2 (f 12 0 2 + 1)
theorem cx_n8 {n : Nat} (hn : n < 8) : (nI n + 1) - (nI n + 1) / 8 * 8 = nI ((n + 1) % 8) :=
  cr_rem (by rw [nI_1]) (m := 8) rfl (by omega) (by omega) (by omega)
set_option maxRecDepth 100000 in
set_option maxHeartbeats 4000000 in
theorem cv_add (hn : n < 8) (h : f.1 12 0 1 = nI n) : en_Ev (d + 1) 15 [.inr (12, 0), .inl v] f Q = Q none (cx_add f.1 n v, f.2) := by
  have h3 : en_inr (nI n) 8 = true := cb_in hn (by omega)
  have h4 : (nI n).toNatClampNeg = n := nI_clamp (by omega)
  have h5 : ¬ (8 : Int32) = 0 := by decide
  simp only [e15, r15_0, r15_1, r15_4, r15_5, r15_8, r15_9, r15_10, r15_11, r15_12, r15_15, r15_16, r15_17, r15_19, r15_20, r15_23, r15_24, r15_25, r15_28, r15_29, r15_30, r15_33, true_and, and_true, Option.toList_some, Option.toList_none, List.cons_append, List.nil_append, List.length_nil, List.length_cons, Nat.reduceAdd, Nat.reduceLeDiff, Nat.zero_le, cb_0, cb_1, cb_01, cb_i, cb_j, eq_self, cb_le, cb_nn, ↓reduceIte, en_ua, Nat.reduceEqDiff, false_and, and_false, and_self, h, cx_n8 hn, h3, h4, h5, not_false_eq_true]
  rfl
theorem cx_b8 {n m : Nat} (hn : n < 8) (hm : m < 8) : (nI n + 8 - 1 - nI m) - (nI n + 8 - 1 - nI m) / 8 * 8 = nI ((n + 7 - m) % 8) :=
  cr_rem (by rw [show (8 : Int32) = nI 8 from rfl, nI_add, show (1 : Int32) = nI 1 from rfl, pk_sub (by omega), pk_sub (by omega)]; rfl) (m := 8) rfl (by omega) (by omega) (by omega)
def cx_recent (f : en_F) (n : Nat) (v : Int32) : Int32 := if ¬ v < 0 ∧ v < 8 ∧ v < f 12 0 2 then f 13 0 ((n + 7 - v.toNatClampNeg) % 8) else -1
set_option maxRecDepth 100000 in
set_option maxHeartbeats 4000000 in
theorem cv_recent (hn : n < 8) (h : f.1 12 0 1 = nI n) : en_Ev (d + 1) 16 [.inr (12, 0), .inl v] f Q = Q (some (.inl (cx_recent f.1 n v))) f := by
  have h5 : ¬ (8 : Int32) = 0 := by decide
  by_cases h1 : v < 0
  · simp only [e16, r16_0, r16_1, r16_4, r16_5, r16_7, r16_10, r16_11, r16_12, r16_15, r16_18, r16_19, r16_20, r16_21, r16_24, r16_25, r16_28, r16_30, r16_31, r16_32, r16_33, r16_34, r16_35, r16_37, r16_38, r16_39, true_and, and_true, Option.toList_some, Option.toList_none, List.cons_append, List.nil_append, List.length_nil, List.length_cons, Nat.reduceAdd, Nat.reduceLeDiff, Nat.zero_le, cb_0, cb_1, cb_01, cb_i, cb_j, eq_self, cb_le, cb_nn, ↓reduceIte, en_ua, Nat.reduceEqDiff, false_and, and_false, and_self, h, h1]
    simp [cx_recent, h1]
  · by_cases h2 : v < 8
    · obtain ⟨j, hj, rfl⟩ := cb_ix v (n := 8) (by omega) h1 h2
      have h6 : (n + 7 - j) % 8 < 8 := Nat.mod_lt _ (by omega)
      have h3 : en_inr (nI ((n + 7 - j) % 8)) 8 = true := cb_in h6 (by omega)
      have h4 : (nI ((n + 7 - j) % 8)).toNatClampNeg = (n + 7 - j) % 8 := nI_clamp (by omega)
      have h7 : (nI j).toNatClampNeg = j := nI_clamp (by omega)
      simp only [e16, r16_0, r16_1, r16_4, r16_5, r16_7, r16_10, r16_11, r16_12, r16_15, r16_18, r16_19, r16_20, r16_21, r16_24, r16_25, r16_28, r16_30, r16_31, r16_32, r16_33, r16_34, r16_35, r16_37, r16_38, r16_39, true_and, and_true, Option.toList_some, Option.toList_none, List.cons_append, List.nil_append, List.length_nil, List.length_cons, Nat.reduceAdd, Nat.reduceLeDiff, Nat.zero_le, cb_0, cb_1, cb_01, cb_i, cb_j, eq_self, cb_le, cb_nn, ↓reduceIte, en_ua, Nat.reduceEqDiff, false_and, and_false, and_self, h, h1, h2, cx_b8 hn hj, h3, h4, h5, not_false_eq_true]
      by_cases h8 : nI j < f.1 12 0 2 <;> simp [cx_recent, h1, h2, h7, h8]
    · simp only [e16, r16_0, r16_1, r16_4, r16_5, r16_7, r16_10, r16_11, r16_12, r16_15, r16_18, r16_19, r16_20, r16_21, r16_24, r16_25, r16_28, r16_30, r16_31, r16_32, r16_33, r16_34, r16_35, r16_37, r16_38, r16_39, true_and, and_true, Option.toList_some, Option.toList_none, List.cons_append, List.nil_append, List.length_nil, List.length_cons, Nat.reduceAdd, Nat.reduceLeDiff, Nat.zero_le, cb_0, cb_1, cb_01, cb_i, cb_j, eq_self, cb_le, cb_nn, ↓reduceIte, en_ua, Nat.reduceEqDiff, false_and, and_false, and_self, h, h1, h2, not_false_eq_true]
      simp [cx_recent, h2]
end Cx2
end
section
/-! THE CLASS AS PURE FUNCTIONS, 3: Device, Port -/
section Cx3
variable {d p k n m q : Nat} {f : en_T} {Q : en_Q} {v w a b x : Int32}
def cx_dres (f : en_F) (p : Nat) : en_F := cx_rest (en_up (en_up (en_up (en_up (en_up (en_up f 4 p 6 0) 4 p 7 0) 4 p 8 0) 4 p 9 0) 4 p 10 0) 4 p 11 0) p
set_option maxRecDepth 100000 in
set_option maxHeartbeats 800000 in
theorem cv_dres (hp : p < 6) : en_Ev (d + 2) 18 [.inr (4, p)] f Q = Q none (cx_dres f.1 p, f.2) := by
  simp only [e18, r18_0, r18_1, r18_2, r18_5, r18_6, r18_7, r18_10, r18_11, r18_12, r18_15, r18_16, r18_17, r18_20, r18_21, r18_22, r18_25, r18_26, r18_27, r18_30, r18_31, r18_34, r18_37, true_and, and_true, Option.toList_some, Option.toList_none, List.cons_append, List.nil_append, List.length_nil, List.length_cons, Nat.reduceAdd, Nat.reduceLeDiff, Nat.zero_le, cb_0, cb_1, cb_01, cb_i, cb_j, eq_self, cb_le, cb_nn, ↓reduceIte, en_ua, Nat.reduceEqDiff, false_and, and_false, and_self, hp, ↓cv_rest hp]; rfl
def cx_dnew (f : en_F) (p : Nat) (k a b : Int32) : en_F := cx_dres (cx_knew (en_up (en_up (en_up (en_up f 4 p 3 k) 4 p 4 (if k = 2 then a else 0)) 4 p 5 (if k = 2 then b else if k = 3 then 4 else 0)) 4 p 2 0) p (if k = 1 then a else 0) (if k = 1 then b else 0)) p
set_option maxRecDepth 100000 in
set_option maxHeartbeats 800000 in
theorem cv_dnew (hp : p < 6) : en_Ev (d + 3) 17 [.inr (4, p), .inl v, .inl a, .inl b] f Q = Q none (cx_dnew f.1 p v a b, f.2) := by
  by_cases h1 : v = 1
  · subst h1
    simp only [e17, r17_0, r17_1, r17_2, r17_5, r17_6, r17_7, r17_8, r17_11, r17_12, r17_15, r17_16, r17_19, r17_20, r17_21, r17_22, r17_25, r17_26, r17_29, r17_30, r17_31, r17_34, r17_35, r17_38, r17_39, r17_42, r17_43, r17_44, r17_47, r17_48, r17_51, r17_52, r17_53, r17_56, r17_57, r17_60, r17_61, r17_62, r17_63, r17_66, r17_67, r17_70, r17_71, r17_74, r17_75, r17_78, true_and, and_true, Option.toList_some, Option.toList_none, List.cons_append, List.nil_append, List.length_nil, List.length_cons, Nat.reduceAdd, Nat.reduceLeDiff, Nat.zero_le, cb_0, cb_1, cb_01, cb_i, cb_j, eq_self, cb_le, cb_nn, ↓reduceIte, en_ua, Nat.reduceEqDiff, false_and, and_false, and_self, Int32.reduceLT, Int32.reduceAdd, Int32.reduceSub, Int32.reduceMul, Int32.reduceDiv, not_true_eq_false, not_false_eq_true, false_implies, true_implies, implies_true, cl_0, cl_1, cl_2, cl_3, cl_4, cl_5, cl_6, cl_7, cl_8, cl_9, cl_10, cl_11, cl_12, cl_13, cl_14, cl_15, cl_16, ci_6_0, ci_6_1, ci_6_2, ci_6_3, ci_6_4, ci_6_5, ci_8_0, ci_8_1, ci_8_2, ci_8_3, ci_8_4, ci_8_5, ci_8_6, ci_8_7, ci_16_0, ci_16_1, ci_16_2, ci_16_3, ci_16_4, ci_16_5, ci_16_6, ci_16_7, ci_16_8, ci_16_9, ci_16_10, ci_16_11, ci_16_12, ci_16_13, ci_16_14, ci_16_15, ci_4_0, ci_4_1, ci_4_2, ci_4_3, ci_40_0, ci_40_1, ci_40_2, ci_40_3, ci_40_4, ci_40_5, ci_40_6, ci_40_7, ci_40_8, ci_40_9, ci_40_10, ci_40_11, ci_40_12, ci_40_13, ci_40_14, ci_40_15, cq_m1_0, cq_m1_1, cq_m1_2, cq_m1_3, cq_m1_4, cq_m1_5, cq_m1_6, cq_m1_7, cq_m1_8, cq_0_m1, cq_0_1, cq_0_2, cq_0_3, cq_0_4, cq_0_5, cq_0_6, cq_0_7, cq_0_8, cq_1_m1, cq_1_0, cq_1_2, cq_1_3, cq_1_4, cq_1_5, cq_1_6, cq_1_7, cq_1_8, cq_2_m1, cq_2_0, cq_2_1, cq_2_3, cq_2_4, cq_2_5, cq_2_6, cq_2_7, cq_2_8, cq_3_m1, cq_3_0, cq_3_1, cq_3_2, cq_3_4, cq_3_5, cq_3_6, cq_3_7, cq_3_8, cq_4_m1, cq_4_0, cq_4_1, cq_4_2, cq_4_3, cq_4_5, cq_4_6, cq_4_7, cq_4_8, cq_5_m1, cq_5_0, cq_5_1, cq_5_2, cq_5_3, cq_5_4, cq_5_6, cq_5_7, cq_5_8, cq_6_m1, cq_6_0, cq_6_1, cq_6_2, cq_6_3, cq_6_4, cq_6_5, cq_6_7, cq_6_8, cq_7_m1, cq_7_0, cq_7_1, cq_7_2, cq_7_3, cq_7_4, cq_7_5, cq_7_6, cq_7_8, cq_8_m1, cq_8_0, cq_8_1, cq_8_2, cq_8_3, cq_8_4, cq_8_5, cq_8_6, cq_8_7, hp, ↓cv_knew hp, ↓cv_dres hp]
    simp [cx_dnew]
  · by_cases h2 : v = 2
    · subst h2
      simp only [e17, r17_0, r17_1, r17_2, r17_5, r17_6, r17_7, r17_8, r17_11, r17_12, r17_15, r17_16, r17_19, r17_20, r17_21, r17_22, r17_25, r17_26, r17_29, r17_30, r17_31, r17_34, r17_35, r17_38, r17_39, r17_42, r17_43, r17_44, r17_47, r17_48, r17_51, r17_52, r17_53, r17_56, r17_57, r17_60, r17_61, r17_62, r17_63, r17_66, r17_67, r17_70, r17_71, r17_74, r17_75, r17_78, true_and, and_true, Option.toList_some, Option.toList_none, List.cons_append, List.nil_append, List.length_nil, List.length_cons, Nat.reduceAdd, Nat.reduceLeDiff, Nat.zero_le, cb_0, cb_1, cb_01, cb_i, cb_j, eq_self, cb_le, cb_nn, ↓reduceIte, en_ua, Nat.reduceEqDiff, false_and, and_false, and_self, Int32.reduceLT, Int32.reduceAdd, Int32.reduceSub, Int32.reduceMul, Int32.reduceDiv, not_true_eq_false, not_false_eq_true, false_implies, true_implies, implies_true, cl_0, cl_1, cl_2, cl_3, cl_4, cl_5, cl_6, cl_7, cl_8, cl_9, cl_10, cl_11, cl_12, cl_13, cl_14, cl_15, cl_16, ci_6_0, ci_6_1, ci_6_2, ci_6_3, ci_6_4, ci_6_5, ci_8_0, ci_8_1, ci_8_2, ci_8_3, ci_8_4, ci_8_5, ci_8_6, ci_8_7, ci_16_0, ci_16_1, ci_16_2, ci_16_3, ci_16_4, ci_16_5, ci_16_6, ci_16_7, ci_16_8, ci_16_9, ci_16_10, ci_16_11, ci_16_12, ci_16_13, ci_16_14, ci_16_15, ci_4_0, ci_4_1, ci_4_2, ci_4_3, ci_40_0, ci_40_1, ci_40_2, ci_40_3, ci_40_4, ci_40_5, ci_40_6, ci_40_7, ci_40_8, ci_40_9, ci_40_10, ci_40_11, ci_40_12, ci_40_13, ci_40_14, ci_40_15, cq_m1_0, cq_m1_1, cq_m1_2, cq_m1_3, cq_m1_4, cq_m1_5, cq_m1_6, cq_m1_7, cq_m1_8, cq_0_m1, cq_0_1, cq_0_2, cq_0_3, cq_0_4, cq_0_5, cq_0_6, cq_0_7, cq_0_8, cq_1_m1, cq_1_0, cq_1_2, cq_1_3, cq_1_4, cq_1_5, cq_1_6, cq_1_7, cq_1_8, cq_2_m1, cq_2_0, cq_2_1, cq_2_3, cq_2_4, cq_2_5, cq_2_6, cq_2_7, cq_2_8, cq_3_m1, cq_3_0, cq_3_1, cq_3_2, cq_3_4, cq_3_5, cq_3_6, cq_3_7, cq_3_8, cq_4_m1, cq_4_0, cq_4_1, cq_4_2, cq_4_3, cq_4_5, cq_4_6, cq_4_7, cq_4_8, cq_5_m1, cq_5_0, cq_5_1, cq_5_2, cq_5_3, cq_5_4, cq_5_6, cq_5_7, cq_5_8, cq_6_m1, cq_6_0, cq_6_1, cq_6_2, cq_6_3, cq_6_4, cq_6_5, cq_6_7, cq_6_8, cq_7_m1, cq_7_0, cq_7_1, cq_7_2, cq_7_3, cq_7_4, cq_7_5, cq_7_6, cq_7_8, cq_8_m1, cq_8_0, cq_8_1, cq_8_2, cq_8_3, cq_8_4, cq_8_5, cq_8_6, cq_8_7, hp, ↓cv_knew hp, ↓cv_dres hp]
      simp [cx_dnew]
    · by_cases h3 : v = 3
      · subst h3
        simp only [e17, r17_0, r17_1, r17_2, r17_5, r17_6, r17_7, r17_8, r17_11, r17_12, r17_15, r17_16, r17_19, r17_20, r17_21, r17_22, r17_25, r17_26, r17_29, r17_30, r17_31, r17_34, r17_35, r17_38, r17_39, r17_42, r17_43, r17_44, r17_47, r17_48, r17_51, r17_52, r17_53, r17_56, r17_57, r17_60, r17_61, r17_62, r17_63, r17_66, r17_67, r17_70, r17_71, r17_74, r17_75, r17_78, true_and, and_true, Option.toList_some, Option.toList_none, List.cons_append, List.nil_append, List.length_nil, List.length_cons, Nat.reduceAdd, Nat.reduceLeDiff, Nat.zero_le, cb_0, cb_1, cb_01, cb_i, cb_j, eq_self, cb_le, cb_nn, ↓reduceIte, en_ua, Nat.reduceEqDiff, false_and, and_false, and_self, Int32.reduceLT, Int32.reduceAdd, Int32.reduceSub, Int32.reduceMul, Int32.reduceDiv, not_true_eq_false, not_false_eq_true, false_implies, true_implies, implies_true, cl_0, cl_1, cl_2, cl_3, cl_4, cl_5, cl_6, cl_7, cl_8, cl_9, cl_10, cl_11, cl_12, cl_13, cl_14, cl_15, cl_16, ci_6_0, ci_6_1, ci_6_2, ci_6_3, ci_6_4, ci_6_5, ci_8_0, ci_8_1, ci_8_2, ci_8_3, ci_8_4, ci_8_5, ci_8_6, ci_8_7, ci_16_0, ci_16_1, ci_16_2, ci_16_3, ci_16_4, ci_16_5, ci_16_6, ci_16_7, ci_16_8, ci_16_9, ci_16_10, ci_16_11, ci_16_12, ci_16_13, ci_16_14, ci_16_15, ci_4_0, ci_4_1, ci_4_2, ci_4_3, ci_40_0, ci_40_1, ci_40_2, ci_40_3, ci_40_4, ci_40_5, ci_40_6, ci_40_7, ci_40_8, ci_40_9, ci_40_10, ci_40_11, ci_40_12, ci_40_13, ci_40_14, ci_40_15, cq_m1_0, cq_m1_1, cq_m1_2, cq_m1_3, cq_m1_4, cq_m1_5, cq_m1_6, cq_m1_7, cq_m1_8, cq_0_m1, cq_0_1, cq_0_2, cq_0_3, cq_0_4, cq_0_5, cq_0_6, cq_0_7, cq_0_8, cq_1_m1, cq_1_0, cq_1_2, cq_1_3, cq_1_4, cq_1_5, cq_1_6, cq_1_7, cq_1_8, cq_2_m1, cq_2_0, cq_2_1, cq_2_3, cq_2_4, cq_2_5, cq_2_6, cq_2_7, cq_2_8, cq_3_m1, cq_3_0, cq_3_1, cq_3_2, cq_3_4, cq_3_5, cq_3_6, cq_3_7, cq_3_8, cq_4_m1, cq_4_0, cq_4_1, cq_4_2, cq_4_3, cq_4_5, cq_4_6, cq_4_7, cq_4_8, cq_5_m1, cq_5_0, cq_5_1, cq_5_2, cq_5_3, cq_5_4, cq_5_6, cq_5_7, cq_5_8, cq_6_m1, cq_6_0, cq_6_1, cq_6_2, cq_6_3, cq_6_4, cq_6_5, cq_6_7, cq_6_8, cq_7_m1, cq_7_0, cq_7_1, cq_7_2, cq_7_3, cq_7_4, cq_7_5, cq_7_6, cq_7_8, cq_8_m1, cq_8_0, cq_8_1, cq_8_2, cq_8_3, cq_8_4, cq_8_5, cq_8_6, cq_8_7, hp, ↓cv_knew hp, ↓cv_dres hp]
        simp [cx_dnew]
      · simp only [e17, r17_0, r17_1, r17_2, r17_5, r17_6, r17_7, r17_8, r17_11, r17_12, r17_15, r17_16, r17_19, r17_20, r17_21, r17_22, r17_25, r17_26, r17_29, r17_30, r17_31, r17_34, r17_35, r17_38, r17_39, r17_42, r17_43, r17_44, r17_47, r17_48, r17_51, r17_52, r17_53, r17_56, r17_57, r17_60, r17_61, r17_62, r17_63, r17_66, r17_67, r17_70, r17_71, r17_74, r17_75, r17_78, true_and, and_true, Option.toList_some, Option.toList_none, List.cons_append, List.nil_append, List.length_nil, List.length_cons, Nat.reduceAdd, Nat.reduceLeDiff, Nat.zero_le, cb_0, cb_1, cb_01, cb_i, cb_j, eq_self, cb_le, cb_nn, ↓reduceIte, en_ua, Nat.reduceEqDiff, false_and, and_false, and_self, Int32.reduceLT, Int32.reduceAdd, Int32.reduceSub, Int32.reduceMul, Int32.reduceDiv, not_true_eq_false, not_false_eq_true, false_implies, true_implies, implies_true, cl_0, cl_1, cl_2, cl_3, cl_4, cl_5, cl_6, cl_7, cl_8, cl_9, cl_10, cl_11, cl_12, cl_13, cl_14, cl_15, cl_16, ci_6_0, ci_6_1, ci_6_2, ci_6_3, ci_6_4, ci_6_5, ci_8_0, ci_8_1, ci_8_2, ci_8_3, ci_8_4, ci_8_5, ci_8_6, ci_8_7, ci_16_0, ci_16_1, ci_16_2, ci_16_3, ci_16_4, ci_16_5, ci_16_6, ci_16_7, ci_16_8, ci_16_9, ci_16_10, ci_16_11, ci_16_12, ci_16_13, ci_16_14, ci_16_15, ci_4_0, ci_4_1, ci_4_2, ci_4_3, ci_40_0, ci_40_1, ci_40_2, ci_40_3, ci_40_4, ci_40_5, ci_40_6, ci_40_7, ci_40_8, ci_40_9, ci_40_10, ci_40_11, ci_40_12, ci_40_13, ci_40_14, ci_40_15, cq_m1_0, cq_m1_1, cq_m1_2, cq_m1_3, cq_m1_4, cq_m1_5, cq_m1_6, cq_m1_7, cq_m1_8, cq_0_m1, cq_0_1, cq_0_2, cq_0_3, cq_0_4, cq_0_5, cq_0_6, cq_0_7, cq_0_8, cq_1_m1, cq_1_0, cq_1_2, cq_1_3, cq_1_4, cq_1_5, cq_1_6, cq_1_7, cq_1_8, cq_2_m1, cq_2_0, cq_2_1, cq_2_3, cq_2_4, cq_2_5, cq_2_6, cq_2_7, cq_2_8, cq_3_m1, cq_3_0, cq_3_1, cq_3_2, cq_3_4, cq_3_5, cq_3_6, cq_3_7, cq_3_8, cq_4_m1, cq_4_0, cq_4_1, cq_4_2, cq_4_3, cq_4_5, cq_4_6, cq_4_7, cq_4_8, cq_5_m1, cq_5_0, cq_5_1, cq_5_2, cq_5_3, cq_5_4, cq_5_6, cq_5_7, cq_5_8, cq_6_m1, cq_6_0, cq_6_1, cq_6_2, cq_6_3, cq_6_4, cq_6_5, cq_6_7, cq_6_8, cq_7_m1, cq_7_0, cq_7_1, cq_7_2, cq_7_3, cq_7_4, cq_7_5, cq_7_6, cq_7_8, cq_8_m1, cq_8_0, cq_8_1, cq_8_2, cq_8_3, cq_8_4, cq_8_5, cq_8_6, cq_8_7, hp, h1, h2, h3, ↓cv_knew hp, ↓cv_dres hp]
        simp [cx_dnew, h1, h2, h3]
set_option maxRecDepth 100000 in
set_option maxHeartbeats 800000 in
theorem cv_listensTo (hp : p < 6) : en_Ev (d + 1) 19 [.inr (4, p), .inl v] f Q = Q (some (.inl (if v = f.1 4 p 6 ∨ v = f.1 4 p 7 then 1 else 0))) f := by
  simp only [e19, r19_0, r19_1, r19_2, r19_5, r19_8, r19_9, r19_10, r19_13, r19_16, r19_17, r19_20, r19_21, true_and, and_true, Option.toList_some, Option.toList_none, List.cons_append, List.nil_append, List.length_nil, List.length_cons, Nat.reduceAdd, Nat.reduceLeDiff, Nat.zero_le, cb_0, cb_1, cb_01, cb_i, cb_j, eq_self, cb_le, cb_nn, ↓reduceIte, en_ua, Nat.reduceEqDiff, false_and, and_false, and_self, hp]
  by_cases h : v = f.1 4 p 6 <;> by_cases h2 : v = f.1 4 p 7 <;> simp [h, h2]
  all_goals simp_all
def cx_addCode (f : en_F) (p : Nat) (v : Int32) : Int32 × en_F := if f 4 p 3 = 2 ∧ f 4 p 2 < 4 then (1, en_up (en_up f 7 p (f 4 p 2).toNatClampNeg v) 4 p 2 (f 4 p 2 + 1)) else (0, f)
set_option maxRecDepth 100000 in
set_option maxHeartbeats 800000 in
theorem cv_addCode (hp : p < 6) (h0 : ¬ f.1 4 p 2 < 0) : en_Ev (d + 1) 20 [.inr (4, p), .inl v] f Q = Q (some (.inl (cx_addCode f.1 p v).1)) ((cx_addCode f.1 p v).2, f.2) := by
  simp only [e20, r20_0, r20_1, r20_4, r20_5, r20_8, r20_9, r20_12, r20_13, r20_16, r20_17, r20_18, r20_19, r20_22, r20_23, r20_26, r20_27, r20_28, r20_29, r20_30, r20_33, r20_34, r20_35, r20_38, r20_39, true_and, and_true, Option.toList_some, Option.toList_none, List.cons_append, List.nil_append, List.length_nil, List.length_cons, Nat.reduceAdd, Nat.reduceLeDiff, Nat.zero_le, cb_0, cb_1, cb_01, cb_i, cb_j, eq_self, cb_le, cb_nn, ↓reduceIte, en_ua, Nat.reduceEqDiff, false_and, and_false, and_self, hp]
  unfold cx_addCode
  by_cases h : f.1 4 p 3 = 2
  · by_cases h2 : f.1 4 p 2 < 4
    · have h1 : en_inr (f.1 4 p 2) 4 = true := cb_rg (m := 4) rfl (by decide) h0 h2
      simp [h, h1, h2]
    · simp [h, h2]
  · simp [h]
def cx_agrees (f : en_F) (p : Nat) (t s : Int32) : Int32 × en_F := if t = f 4 p 10 then (if (f 5 p 4 = 2 ∧ 0 < f 5 p 6) ∧ ¬ f 5 p 3 = 0 then (0, en_up f 5 p 3 (f 5 p 3 - 1)) else (1, en_up (cx_take f p s) 4 p 10 ((cx_take f p s) 4 p 10 ^^^ 1))) else (1, f)
set_option maxRecDepth 100000 in
set_option maxHeartbeats 800000 in
theorem cv_agrees (hp : p < 6) : en_Ev (d + 3) 21 [.inr (4, p), .inl v, .inl w] f Q = Q (some (.inl (cx_agrees f.1 p v w).1)) ((cx_agrees f.1 p v w).2, f.2) := by
  simp only [e21, r21_0, r21_1, r21_2, r21_5, r21_8, r21_9, r21_10, r21_11, r21_14, r21_17, r21_20, r21_21, r21_24, r21_27, r21_30, r21_31, r21_34, r21_35, r21_38, r21_39, r21_40, r21_43, r21_44, r21_45, r21_46, r21_49, r21_50, r21_53, r21_54, r21_55, r21_58, r21_59, r21_60, r21_63, r21_64, true_and, and_true, Option.toList_some, Option.toList_none, List.cons_append, List.nil_append, List.length_nil, List.length_cons, Nat.reduceAdd, Nat.reduceLeDiff, Nat.zero_le, cb_0, cb_1, cb_01, cb_i, cb_j, eq_self, cb_le, cb_nn, ↓reduceIte, en_ua, Nat.reduceEqDiff, false_and, and_false, and_self, hp, ↓cv_mustTake hp, ↓cv_take hp, cb_e0]
  unfold cx_agrees
  by_cases h : v = f.1 4 p 10
  · by_cases h2 : f.1 5 p 4 = 2 ∧ 0 < f.1 5 p 6
    · by_cases h3 : f.1 5 p 3 = 0 <;> simp [h, h2, h3]
    · simp [h, h2]
  · simp [h]
def cx_hold (f : en_F) (p : Nat) (v : Int32) : en_F := en_up (en_up f 4 p 12 v) 4 p 11 1
set_option maxRecDepth 100000 in
set_option maxHeartbeats 800000 in
theorem cv_hold (hp : p < 6) : en_Ev (d + 1) 22 [.inr (4, p), .inl v] f Q = Q none (cx_hold f.1 p v, f.2) := by
  simp only [e22, r22_0, r22_1, r22_2, r22_5, r22_6, r22_7, r22_10, true_and, and_true, Option.toList_some, Option.toList_none, List.cons_append, List.nil_append, List.length_nil, List.length_cons, Nat.reduceAdd, Nat.reduceLeDiff, Nat.zero_le, cb_0, cb_1, cb_01, cb_i, cb_j, eq_self, cb_le, cb_nn, ↓reduceIte, en_ua, Nat.reduceEqDiff, false_and, and_false, and_self, hp]; rfl
def cx_letGo (f : en_F) (p : Nat) : en_F := en_up (en_up f 4 p 11 0) 4 p 9 (f 4 p 9 ^^^ 1)
set_option maxRecDepth 100000 in
set_option maxHeartbeats 800000 in
theorem cv_letGo (hp : p < 6) : en_Ev (d + 1) 23 [.inr (4, p)] f Q = Q none (cx_letGo f.1 p, f.2) := by
  simp only [e23, r23_0, r23_1, r23_2, r23_5, r23_6, r23_7, r23_10, r23_11, r23_12, r23_15, true_and, and_true, Option.toList_some, Option.toList_none, List.cons_append, List.nil_append, List.length_nil, List.length_cons, Nat.reduceAdd, Nat.reduceLeDiff, Nat.zero_le, cb_0, cb_1, cb_01, cb_i, cb_j, eq_self, cb_le, cb_nn, ↓reduceIte, en_ua, Nat.reduceEqDiff, false_and, and_false, and_self, hp]; rfl
/-- the oldest code is held, the others move up -/
def cx_hold1 (f : en_F) (p n : Nat) : en_F := match n with
  | 0 => f
  | 1 => en_up (cx_hold f p (f 7 p 0)) 4 p 2 0
  | 2 => en_up (en_up (cx_hold f p (f 7 p 0)) 4 p 2 1) 7 p 0 (f 7 p 1)
  | 3 => en_up (en_up (en_up (cx_hold f p (f 7 p 0)) 4 p 2 2) 7 p 0 (f 7 p 1)) 7 p 1 (f 7 p 2)
  | _ => en_up (en_up (en_up (en_up (cx_hold f p (f 7 p 0)) 4 p 2 3) 7 p 0 (f 7 p 1)) 7 p 1 (f 7 p 2)) 7 p 2 (f 7 p 3)
theorem cx_hold_r (f : en_F) (p : Nat) (v : Int32) {k i j : Nat} (h : ¬ (k = 4 ∧ 11 ≤ j)) : cx_hold f p v k i j = f k i j := by
  unfold cx_hold en_up
  rw [if_neg (by omega), if_neg (by omega)]
theorem cx_hold_7 (f : en_F) (p : Nat) (v : Int32) {i j : Nat} : cx_hold f p v 7 i j = f 7 i j := cx_hold_r f p v (by omega)
theorem cx_hold_2 (f : en_F) (p : Nat) (v : Int32) {i : Nat} : cx_hold f p v 4 i 2 = f 4 i 2 := cx_hold_r f p v (by omega)
set_option maxRecDepth 100000 in
set_option maxHeartbeats 800000 in
theorem cv_hold1 (hp : p < 6) (hn : n ≤ 4) (h : f.1 4 p 2 = nI n) : en_Ev (d + 2) 24 [.inr (4, p)] f Q = Q none (cx_hold1 f.1 p n, f.2) := by
  rcases (by omega : n = 0 ∨ n = 1 ∨ n = 2 ∨ n = 3 ∨ n = 4) with rfl | rfl | rfl | rfl | rfl
  · replace h : f.1 4 p 2 = 0 := h
    simp only [e24, r24_0, r24_1, r24_4, r24_7, r24_8, r24_9, r24_10, r24_13, r24_14, r24_15, r24_18, r24_19, r24_20, r24_23, r24_24, r24_25, r24_28, r24_29, r24_30, r24_31, r24_32, r24_35, r24_38, r24_39, r24_42, r24_43, r24_44, r24_47, r24_48, r24_49, r24_50, r24_51, r24_52, r24_55, r24_58, true_and, and_true, Option.toList_some, Option.toList_none, List.cons_append, List.nil_append, List.length_nil, List.length_cons, Nat.reduceAdd, Nat.reduceLeDiff, Nat.zero_le, cb_0, cb_1, cb_01, cb_i, cb_j, eq_self, cb_le, cb_nn, ↓reduceIte, en_ua, Nat.reduceEqDiff, false_and, and_false, and_self, Int32.reduceLT, Int32.reduceAdd, Int32.reduceSub, Int32.reduceMul, Int32.reduceDiv, not_true_eq_false, not_false_eq_true, false_implies, true_implies, implies_true, cl_0, cl_1, cl_2, cl_3, cl_4, cl_5, cl_6, cl_7, cl_8, cl_9, cl_10, cl_11, cl_12, cl_13, cl_14, cl_15, cl_16, ci_6_0, ci_6_1, ci_6_2, ci_6_3, ci_6_4, ci_6_5, ci_8_0, ci_8_1, ci_8_2, ci_8_3, ci_8_4, ci_8_5, ci_8_6, ci_8_7, ci_16_0, ci_16_1, ci_16_2, ci_16_3, ci_16_4, ci_16_5, ci_16_6, ci_16_7, ci_16_8, ci_16_9, ci_16_10, ci_16_11, ci_16_12, ci_16_13, ci_16_14, ci_16_15, ci_4_0, ci_4_1, ci_4_2, ci_4_3, ci_40_0, ci_40_1, ci_40_2, ci_40_3, ci_40_4, ci_40_5, ci_40_6, ci_40_7, ci_40_8, ci_40_9, ci_40_10, ci_40_11, ci_40_12, ci_40_13, ci_40_14, ci_40_15, cq_m1_0, cq_m1_1, cq_m1_2, cq_m1_3, cq_m1_4, cq_m1_5, cq_m1_6, cq_m1_7, cq_m1_8, cq_0_m1, cq_0_1, cq_0_2, cq_0_3, cq_0_4, cq_0_5, cq_0_6, cq_0_7, cq_0_8, cq_1_m1, cq_1_0, cq_1_2, cq_1_3, cq_1_4, cq_1_5, cq_1_6, cq_1_7, cq_1_8, cq_2_m1, cq_2_0, cq_2_1, cq_2_3, cq_2_4, cq_2_5, cq_2_6, cq_2_7, cq_2_8, cq_3_m1, cq_3_0, cq_3_1, cq_3_2, cq_3_4, cq_3_5, cq_3_6, cq_3_7, cq_3_8, cq_4_m1, cq_4_0, cq_4_1, cq_4_2, cq_4_3, cq_4_5, cq_4_6, cq_4_7, cq_4_8, cq_5_m1, cq_5_0, cq_5_1, cq_5_2, cq_5_3, cq_5_4, cq_5_6, cq_5_7, cq_5_8, cq_6_m1, cq_6_0, cq_6_1, cq_6_2, cq_6_3, cq_6_4, cq_6_5, cq_6_7, cq_6_8, cq_7_m1, cq_7_0, cq_7_1, cq_7_2, cq_7_3, cq_7_4, cq_7_5, cq_7_6, cq_7_8, cq_8_m1, cq_8_0, cq_8_1, cq_8_2, cq_8_3, cq_8_4, cq_8_5, cq_8_6, cq_8_7, hp, h]; rfl
  · replace h : f.1 4 p 2 = 1 := h
    simp only [e24, r24_0, r24_1, r24_4, r24_7, r24_8, r24_9, r24_10, r24_13, r24_14, r24_15, r24_18, r24_19, r24_20, r24_23, r24_24, r24_25, r24_28, r24_29, r24_30, r24_31, r24_32, r24_35, r24_38, r24_39, r24_42, r24_43, r24_44, r24_47, r24_48, r24_49, r24_50, r24_51, r24_52, r24_55, r24_58, true_and, and_true, Option.toList_some, Option.toList_none, List.cons_append, List.nil_append, List.length_nil, List.length_cons, Nat.reduceAdd, Nat.reduceLeDiff, Nat.zero_le, cb_0, cb_1, cb_01, cb_i, cb_j, eq_self, cb_le, cb_nn, ↓reduceIte, en_ua, Nat.reduceEqDiff, false_and, and_false, and_self, Int32.reduceLT, Int32.reduceAdd, Int32.reduceSub, Int32.reduceMul, Int32.reduceDiv, not_true_eq_false, not_false_eq_true, false_implies, true_implies, implies_true, cl_0, cl_1, cl_2, cl_3, cl_4, cl_5, cl_6, cl_7, cl_8, cl_9, cl_10, cl_11, cl_12, cl_13, cl_14, cl_15, cl_16, ci_6_0, ci_6_1, ci_6_2, ci_6_3, ci_6_4, ci_6_5, ci_8_0, ci_8_1, ci_8_2, ci_8_3, ci_8_4, ci_8_5, ci_8_6, ci_8_7, ci_16_0, ci_16_1, ci_16_2, ci_16_3, ci_16_4, ci_16_5, ci_16_6, ci_16_7, ci_16_8, ci_16_9, ci_16_10, ci_16_11, ci_16_12, ci_16_13, ci_16_14, ci_16_15, ci_4_0, ci_4_1, ci_4_2, ci_4_3, ci_40_0, ci_40_1, ci_40_2, ci_40_3, ci_40_4, ci_40_5, ci_40_6, ci_40_7, ci_40_8, ci_40_9, ci_40_10, ci_40_11, ci_40_12, ci_40_13, ci_40_14, ci_40_15, cq_m1_0, cq_m1_1, cq_m1_2, cq_m1_3, cq_m1_4, cq_m1_5, cq_m1_6, cq_m1_7, cq_m1_8, cq_0_m1, cq_0_1, cq_0_2, cq_0_3, cq_0_4, cq_0_5, cq_0_6, cq_0_7, cq_0_8, cq_1_m1, cq_1_0, cq_1_2, cq_1_3, cq_1_4, cq_1_5, cq_1_6, cq_1_7, cq_1_8, cq_2_m1, cq_2_0, cq_2_1, cq_2_3, cq_2_4, cq_2_5, cq_2_6, cq_2_7, cq_2_8, cq_3_m1, cq_3_0, cq_3_1, cq_3_2, cq_3_4, cq_3_5, cq_3_6, cq_3_7, cq_3_8, cq_4_m1, cq_4_0, cq_4_1, cq_4_2, cq_4_3, cq_4_5, cq_4_6, cq_4_7, cq_4_8, cq_5_m1, cq_5_0, cq_5_1, cq_5_2, cq_5_3, cq_5_4, cq_5_6, cq_5_7, cq_5_8, cq_6_m1, cq_6_0, cq_6_1, cq_6_2, cq_6_3, cq_6_4, cq_6_5, cq_6_7, cq_6_8, cq_7_m1, cq_7_0, cq_7_1, cq_7_2, cq_7_3, cq_7_4, cq_7_5, cq_7_6, cq_7_8, cq_8_m1, cq_8_0, cq_8_1, cq_8_2, cq_8_3, cq_8_4, cq_8_5, cq_8_6, cq_8_7, hp, h, ↓cv_hold hp, cx_hold_7, cx_hold_2]; rfl
  · replace h : f.1 4 p 2 = 2 := h
    simp only [e24, r24_0, r24_1, r24_4, r24_7, r24_8, r24_9, r24_10, r24_13, r24_14, r24_15, r24_18, r24_19, r24_20, r24_23, r24_24, r24_25, r24_28, r24_29, r24_30, r24_31, r24_32, r24_35, r24_38, r24_39, r24_42, r24_43, r24_44, r24_47, r24_48, r24_49, r24_50, r24_51, r24_52, r24_55, r24_58, true_and, and_true, Option.toList_some, Option.toList_none, List.cons_append, List.nil_append, List.length_nil, List.length_cons, Nat.reduceAdd, Nat.reduceLeDiff, Nat.zero_le, cb_0, cb_1, cb_01, cb_i, cb_j, eq_self, cb_le, cb_nn, ↓reduceIte, en_ua, Nat.reduceEqDiff, false_and, and_false, and_self, Int32.reduceLT, Int32.reduceAdd, Int32.reduceSub, Int32.reduceMul, Int32.reduceDiv, not_true_eq_false, not_false_eq_true, false_implies, true_implies, implies_true, cl_0, cl_1, cl_2, cl_3, cl_4, cl_5, cl_6, cl_7, cl_8, cl_9, cl_10, cl_11, cl_12, cl_13, cl_14, cl_15, cl_16, ci_6_0, ci_6_1, ci_6_2, ci_6_3, ci_6_4, ci_6_5, ci_8_0, ci_8_1, ci_8_2, ci_8_3, ci_8_4, ci_8_5, ci_8_6, ci_8_7, ci_16_0, ci_16_1, ci_16_2, ci_16_3, ci_16_4, ci_16_5, ci_16_6, ci_16_7, ci_16_8, ci_16_9, ci_16_10, ci_16_11, ci_16_12, ci_16_13, ci_16_14, ci_16_15, ci_4_0, ci_4_1, ci_4_2, ci_4_3, ci_40_0, ci_40_1, ci_40_2, ci_40_3, ci_40_4, ci_40_5, ci_40_6, ci_40_7, ci_40_8, ci_40_9, ci_40_10, ci_40_11, ci_40_12, ci_40_13, ci_40_14, ci_40_15, cq_m1_0, cq_m1_1, cq_m1_2, cq_m1_3, cq_m1_4, cq_m1_5, cq_m1_6, cq_m1_7, cq_m1_8, cq_0_m1, cq_0_1, cq_0_2, cq_0_3, cq_0_4, cq_0_5, cq_0_6, cq_0_7, cq_0_8, cq_1_m1, cq_1_0, cq_1_2, cq_1_3, cq_1_4, cq_1_5, cq_1_6, cq_1_7, cq_1_8, cq_2_m1, cq_2_0, cq_2_1, cq_2_3, cq_2_4, cq_2_5, cq_2_6, cq_2_7, cq_2_8, cq_3_m1, cq_3_0, cq_3_1, cq_3_2, cq_3_4, cq_3_5, cq_3_6, cq_3_7, cq_3_8, cq_4_m1, cq_4_0, cq_4_1, cq_4_2, cq_4_3, cq_4_5, cq_4_6, cq_4_7, cq_4_8, cq_5_m1, cq_5_0, cq_5_1, cq_5_2, cq_5_3, cq_5_4, cq_5_6, cq_5_7, cq_5_8, cq_6_m1, cq_6_0, cq_6_1, cq_6_2, cq_6_3, cq_6_4, cq_6_5, cq_6_7, cq_6_8, cq_7_m1, cq_7_0, cq_7_1, cq_7_2, cq_7_3, cq_7_4, cq_7_5, cq_7_6, cq_7_8, cq_8_m1, cq_8_0, cq_8_1, cq_8_2, cq_8_3, cq_8_4, cq_8_5, cq_8_6, cq_8_7, hp, h, ↓cv_hold hp, cx_hold_7, cx_hold_2]; rfl
  · replace h : f.1 4 p 2 = 3 := h
    simp only [e24, r24_0, r24_1, r24_4, r24_7, r24_8, r24_9, r24_10, r24_13, r24_14, r24_15, r24_18, r24_19, r24_20, r24_23, r24_24, r24_25, r24_28, r24_29, r24_30, r24_31, r24_32, r24_35, r24_38, r24_39, r24_42, r24_43, r24_44, r24_47, r24_48, r24_49, r24_50, r24_51, r24_52, r24_55, r24_58, true_and, and_true, Option.toList_some, Option.toList_none, List.cons_append, List.nil_append, List.length_nil, List.length_cons, Nat.reduceAdd, Nat.reduceLeDiff, Nat.zero_le, cb_0, cb_1, cb_01, cb_i, cb_j, eq_self, cb_le, cb_nn, ↓reduceIte, en_ua, Nat.reduceEqDiff, false_and, and_false, and_self, Int32.reduceLT, Int32.reduceAdd, Int32.reduceSub, Int32.reduceMul, Int32.reduceDiv, not_true_eq_false, not_false_eq_true, false_implies, true_implies, implies_true, cl_0, cl_1, cl_2, cl_3, cl_4, cl_5, cl_6, cl_7, cl_8, cl_9, cl_10, cl_11, cl_12, cl_13, cl_14, cl_15, cl_16, ci_6_0, ci_6_1, ci_6_2, ci_6_3, ci_6_4, ci_6_5, ci_8_0, ci_8_1, ci_8_2, ci_8_3, ci_8_4, ci_8_5, ci_8_6, ci_8_7, ci_16_0, ci_16_1, ci_16_2, ci_16_3, ci_16_4, ci_16_5, ci_16_6, ci_16_7, ci_16_8, ci_16_9, ci_16_10, ci_16_11, ci_16_12, ci_16_13, ci_16_14, ci_16_15, ci_4_0, ci_4_1, ci_4_2, ci_4_3, ci_40_0, ci_40_1, ci_40_2, ci_40_3, ci_40_4, ci_40_5, ci_40_6, ci_40_7, ci_40_8, ci_40_9, ci_40_10, ci_40_11, ci_40_12, ci_40_13, ci_40_14, ci_40_15, cq_m1_0, cq_m1_1, cq_m1_2, cq_m1_3, cq_m1_4, cq_m1_5, cq_m1_6, cq_m1_7, cq_m1_8, cq_0_m1, cq_0_1, cq_0_2, cq_0_3, cq_0_4, cq_0_5, cq_0_6, cq_0_7, cq_0_8, cq_1_m1, cq_1_0, cq_1_2, cq_1_3, cq_1_4, cq_1_5, cq_1_6, cq_1_7, cq_1_8, cq_2_m1, cq_2_0, cq_2_1, cq_2_3, cq_2_4, cq_2_5, cq_2_6, cq_2_7, cq_2_8, cq_3_m1, cq_3_0, cq_3_1, cq_3_2, cq_3_4, cq_3_5, cq_3_6, cq_3_7, cq_3_8, cq_4_m1, cq_4_0, cq_4_1, cq_4_2, cq_4_3, cq_4_5, cq_4_6, cq_4_7, cq_4_8, cq_5_m1, cq_5_0, cq_5_1, cq_5_2, cq_5_3, cq_5_4, cq_5_6, cq_5_7, cq_5_8, cq_6_m1, cq_6_0, cq_6_1, cq_6_2, cq_6_3, cq_6_4, cq_6_5, cq_6_7, cq_6_8, cq_7_m1, cq_7_0, cq_7_1, cq_7_2, cq_7_3, cq_7_4, cq_7_5, cq_7_6, cq_7_8, cq_8_m1, cq_8_0, cq_8_1, cq_8_2, cq_8_3, cq_8_4, cq_8_5, cq_8_6, cq_8_7, hp, h, ↓cv_hold hp, cx_hold_7, cx_hold_2]; rfl
  · replace h : f.1 4 p 2 = 4 := h
    simp only [e24, r24_0, r24_1, r24_4, r24_7, r24_8, r24_9, r24_10, r24_13, r24_14, r24_15, r24_18, r24_19, r24_20, r24_23, r24_24, r24_25, r24_28, r24_29, r24_30, r24_31, r24_32, r24_35, r24_38, r24_39, r24_42, r24_43, r24_44, r24_47, r24_48, r24_49, r24_50, r24_51, r24_52, r24_55, r24_58, true_and, and_true, Option.toList_some, Option.toList_none, List.cons_append, List.nil_append, List.length_nil, List.length_cons, Nat.reduceAdd, Nat.reduceLeDiff, Nat.zero_le, cb_0, cb_1, cb_01, cb_i, cb_j, eq_self, cb_le, cb_nn, ↓reduceIte, en_ua, Nat.reduceEqDiff, false_and, and_false, and_self, Int32.reduceLT, Int32.reduceAdd, Int32.reduceSub, Int32.reduceMul, Int32.reduceDiv, not_true_eq_false, not_false_eq_true, false_implies, true_implies, implies_true, cl_0, cl_1, cl_2, cl_3, cl_4, cl_5, cl_6, cl_7, cl_8, cl_9, cl_10, cl_11, cl_12, cl_13, cl_14, cl_15, cl_16, ci_6_0, ci_6_1, ci_6_2, ci_6_3, ci_6_4, ci_6_5, ci_8_0, ci_8_1, ci_8_2, ci_8_3, ci_8_4, ci_8_5, ci_8_6, ci_8_7, ci_16_0, ci_16_1, ci_16_2, ci_16_3, ci_16_4, ci_16_5, ci_16_6, ci_16_7, ci_16_8, ci_16_9, ci_16_10, ci_16_11, ci_16_12, ci_16_13, ci_16_14, ci_16_15, ci_4_0, ci_4_1, ci_4_2, ci_4_3, ci_40_0, ci_40_1, ci_40_2, ci_40_3, ci_40_4, ci_40_5, ci_40_6, ci_40_7, ci_40_8, ci_40_9, ci_40_10, ci_40_11, ci_40_12, ci_40_13, ci_40_14, ci_40_15, cq_m1_0, cq_m1_1, cq_m1_2, cq_m1_3, cq_m1_4, cq_m1_5, cq_m1_6, cq_m1_7, cq_m1_8, cq_0_m1, cq_0_1, cq_0_2, cq_0_3, cq_0_4, cq_0_5, cq_0_6, cq_0_7, cq_0_8, cq_1_m1, cq_1_0, cq_1_2, cq_1_3, cq_1_4, cq_1_5, cq_1_6, cq_1_7, cq_1_8, cq_2_m1, cq_2_0, cq_2_1, cq_2_3, cq_2_4, cq_2_5, cq_2_6, cq_2_7, cq_2_8, cq_3_m1, cq_3_0, cq_3_1, cq_3_2, cq_3_4, cq_3_5, cq_3_6, cq_3_7, cq_3_8, cq_4_m1, cq_4_0, cq_4_1, cq_4_2, cq_4_3, cq_4_5, cq_4_6, cq_4_7, cq_4_8, cq_5_m1, cq_5_0, cq_5_1, cq_5_2, cq_5_3, cq_5_4, cq_5_6, cq_5_7, cq_5_8, cq_6_m1, cq_6_0, cq_6_1, cq_6_2, cq_6_3, cq_6_4, cq_6_5, cq_6_7, cq_6_8, cq_7_m1, cq_7_0, cq_7_1, cq_7_2, cq_7_3, cq_7_4, cq_7_5, cq_7_6, cq_7_8, cq_8_m1, cq_8_0, cq_8_1, cq_8_2, cq_8_3, cq_8_4, cq_8_5, cq_8_6, cq_8_7, hp, h, ↓cv_hold hp, cx_hold_7, cx_hold_2]; rfl
def cx_holdK (f : en_F) (p : Nat) : en_F := if f 5 p 4 = 1 ∨ (f 5 p 4 = 2 ∧ f 5 p 6 = 0) then (if f 5 p 3 = 0 then cx_hold (cx_kmake f p).2 p (cx_kmake f p).1 else en_up f 5 p 3 (f 5 p 3 - 1)) else f
set_option maxRecDepth 100000 in
set_option maxHeartbeats 800000 in
theorem cv_holdK (hp : p < 6) : en_Ev (d + 2) 25 [.inr (4, p)] f Q = Q none (cx_holdK f.1 p, f.2) := by
  simp only [e25, r25_0, r25_1, r25_4, r25_7, r25_10, r25_11, r25_12, r25_15, r25_18, r25_21, r25_22, r25_25, r25_26, r25_29, r25_30, r25_31, r25_34, r25_37, r25_38, r25_39, r25_42, r25_45, r25_48, true_and, and_true, Option.toList_some, Option.toList_none, List.cons_append, List.nil_append, List.length_nil, List.length_cons, Nat.reduceAdd, Nat.reduceLeDiff, Nat.zero_le, cb_0, cb_1, cb_01, cb_i, cb_j, eq_self, cb_le, cb_nn, ↓reduceIte, en_ua, Nat.reduceEqDiff, false_and, and_false, and_self, hp, ↓cv_mustMake hp, ↓cv_kmake hp, ↓cv_hold hp, cb_e0]
  unfold cx_holdK
  by_cases h : f.1 5 p 4 = 1 ∨ (f.1 5 p 4 = 2 ∧ f.1 5 p 6 = 0)
  · by_cases h2 : f.1 5 p 3 = 0 <;> simp [h, h2]
  · simp [h]
-- Port
def cx_reset (f : en_F) (p : Nat) (a : Int32) : en_F := en_up (en_up (en_up (en_up (en_up (en_up (cx_dres (en_up f 3 p 1 1) p) 3 p 5 0) 3 p 6 0) 3 p 7 0) 3 p 8 0) 3 p 4 a) 3 p 3 2
set_option maxRecDepth 100000 in
set_option maxHeartbeats 800000 in
theorem cv_reset (hp : p < 6) : en_Ev (d + 3) 30 [.inr (3, p), .inl v] f Q = Q none (cx_reset f.1 p v, f.2) := by
  simp only [e30, r30_0, r30_1, r30_2, r30_5, r30_6, r30_9, r30_12, r30_13, r30_14, r30_17, r30_18, r30_19, r30_22, r30_23, r30_24, r30_27, r30_28, r30_29, r30_32, r30_33, r30_34, r30_37, r30_38, r30_39, r30_42, true_and, and_true, Option.toList_some, Option.toList_none, List.cons_append, List.nil_append, List.length_nil, List.length_cons, Nat.reduceAdd, Nat.reduceLeDiff, Nat.zero_le, cb_0, cb_1, cb_01, cb_i, cb_j, eq_self, cb_le, cb_nn, ↓reduceIte, en_ua, Nat.reduceEqDiff, false_and, and_false, and_self, hp, ↓cv_dres hp]; rfl
def cx_learn (f : en_F) (p q : Nat) : en_F := en_up (en_up (en_up (en_up f 3 p 9 (f 4 q 3)) 3 p 10 (f 5 q 1)) 3 p 11 (f 4 q 4)) 3 p 12 (f 4 q 5)
set_option maxRecDepth 100000 in
set_option maxHeartbeats 800000 in
theorem cv_learn (hp : p < 6) (hq : q < 6) : en_Ev (d + 1) 31 [.inr (3, p), .inr (4, q)] f Q = Q none (cx_learn f.1 p q, f.2) := by
  simp only [e31, r31_0, r31_1, r31_2, r31_5, r31_8, r31_9, r31_10, r31_13, r31_16, r31_19, r31_20, r31_21, r31_24, r31_27, r31_28, r31_29, r31_32, r31_35, true_and, and_true, Option.toList_some, Option.toList_none, List.cons_append, List.nil_append, List.length_nil, List.length_cons, Nat.reduceAdd, Nat.reduceLeDiff, Nat.zero_le, cb_0, cb_1, cb_01, cb_i, cb_j, eq_self, cb_le, cb_nn, ↓reduceIte, en_ua, Nat.reduceEqDiff, false_and, and_false, and_self, hp, hq]; rfl
def cx_cf (f : en_F) (p : Nat) (b : Int32) : en_F := en_up f 3 p 7 (if b = 0 then 0 else f 3 p 7 + 1)
set_option maxRecDepth 100000 in
set_option maxHeartbeats 800000 in
theorem cv_cf (hp : p < 6) : en_Ev (d + 1) 32 [.inr (3, p), .inl v] f Q = Q (some (.inl (if (if v = 0 then 0 else f.1 3 p 7 + 1) < 3 then 0 else 1))) (cx_cf f.1 p v, f.2) := by
  simp only [e32, r32_0, r32_1, r32_2, r32_5, r32_6, r32_9, r32_10, r32_11, r32_14, r32_15, r32_18, r32_19, r32_22, r32_23, r32_26, r32_27, r32_30, r32_31, true_and, and_true, Option.toList_some, Option.toList_none, List.cons_append, List.nil_append, List.length_nil, List.length_cons, Nat.reduceAdd, Nat.reduceLeDiff, Nat.zero_le, cb_0, cb_1, cb_01, cb_i, cb_j, eq_self, cb_le, cb_nn, ↓reduceIte, en_ua, Nat.reduceEqDiff, false_and, and_false, and_self, hp]
  by_cases h : v = 0
  · simp [h, cx_cf]
  · by_cases h2 : f.1 3 p 7 + 1 < 3 <;> simp [h, h2, cx_cf]
end Cx3
end
section
/-! THE CLASS AS PURE FUNCTIONS, 4: PluggedBus, which ports there are, what the host hears -/
section Cx4
variable {d p k n m q : Nat} {f : en_T} {Q : en_Q} {v w a b x : Int32}
theorem cs_lt2 (hp : p < 6) : (nI p < 2) = (p < 2) := cb_lt (b := 2) (by omega) (by omega)
theorem cs_lt6 (hp : p < 6) : (nI p < 6) = True := by
  rw [show (6 : Int32) = nI 6 from rfl, cb_lt (by omega) (by omega)]
  simp [hp]
theorem cs_lt0 (hp : p < 6) : (nI p < 0) = False := by simp [nI_pos (show p < 2 ^ 31 by omega)]
theorem cs_hub (h2 : ¬ p < 2) (hp : p < 6) : nI p / 2 - 1 = nI (p / 2 - 1) := by
  rw [show (2 : Int32) = nI 2 from rfl, pk_div (by omega) (by omega) (by omega), show (1 : Int32) = nI 1 from rfl, pk_sub (by omega)]
theorem cs_fb : 2 * nI p + 2 = nI (2 * p + 2) := by
  rw [show (2 : Int32) = nI 2 from rfl, pk_mul, nI_add]
set_option maxRecDepth 100000 in
set_option maxHeartbeats 800000 in
theorem cv_isPort : en_Ev (d + 1) 49 [.inl v] f Q = Q (some (.inl (if ¬ v < 0 ∧ v < 6 then 1 else 0))) f := by
  simp only [e49, r49_0, r49_1, r49_4, r49_5, r49_7, r49_10, r49_11, r49_14, r49_15, true_and, and_true, Option.toList_some, Option.toList_none, List.cons_append, List.nil_append, List.length_nil, List.length_cons, Nat.reduceAdd, Nat.reduceLeDiff, Nat.zero_le, cb_0, cb_1, cb_01, cb_i, cb_j, eq_self, cb_le, cb_nn, ↓reduceIte, en_ua, Nat.reduceEqDiff, false_and, and_false, and_self]
  by_cases h : v < 0 <;> by_cases h2 : v < 6 <;> simp [h, h2]
set_option maxRecDepth 100000 in
set_option maxHeartbeats 800000 in
theorem cv_hubPortOf : en_Ev (d + 1) 50 [.inl v] f Q = Q (some (.inl (v / 2 - 1))) f := by
  simp only [e50, r50_0, r50_1, r50_2, r50_3, r50_4, r50_5, true_and, and_true, Option.toList_some, Option.toList_none, List.cons_append, List.nil_append, List.length_nil, List.length_cons, Nat.reduceAdd, Nat.reduceLeDiff, Nat.zero_le, cb_0, cb_1, cb_01, cb_i, cb_j, eq_self, cb_le, cb_nn, ↓reduceIte, en_ua, Nat.reduceEqDiff, false_and, and_false, and_self, Int32.reduceLT, Int32.reduceAdd, Int32.reduceSub, Int32.reduceMul, Int32.reduceDiv, not_true_eq_false, not_false_eq_true, false_implies, true_implies, implies_true, cl_0, cl_1, cl_2, cl_3, cl_4, cl_5, cl_6, cl_7, cl_8, cl_9, cl_10, cl_11, cl_12, cl_13, cl_14, cl_15, cl_16, ci_6_0, ci_6_1, ci_6_2, ci_6_3, ci_6_4, ci_6_5, ci_8_0, ci_8_1, ci_8_2, ci_8_3, ci_8_4, ci_8_5, ci_8_6, ci_8_7, ci_16_0, ci_16_1, ci_16_2, ci_16_3, ci_16_4, ci_16_5, ci_16_6, ci_16_7, ci_16_8, ci_16_9, ci_16_10, ci_16_11, ci_16_12, ci_16_13, ci_16_14, ci_16_15, ci_4_0, ci_4_1, ci_4_2, ci_4_3, ci_40_0, ci_40_1, ci_40_2, ci_40_3, ci_40_4, ci_40_5, ci_40_6, ci_40_7, ci_40_8, ci_40_9, ci_40_10, ci_40_11, ci_40_12, ci_40_13, ci_40_14, ci_40_15, cq_m1_0, cq_m1_1, cq_m1_2, cq_m1_3, cq_m1_4, cq_m1_5, cq_m1_6, cq_m1_7, cq_m1_8, cq_0_m1, cq_0_1, cq_0_2, cq_0_3, cq_0_4, cq_0_5, cq_0_6, cq_0_7, cq_0_8, cq_1_m1, cq_1_0, cq_1_2, cq_1_3, cq_1_4, cq_1_5, cq_1_6, cq_1_7, cq_1_8, cq_2_m1, cq_2_0, cq_2_1, cq_2_3, cq_2_4, cq_2_5, cq_2_6, cq_2_7, cq_2_8, cq_3_m1, cq_3_0, cq_3_1, cq_3_2, cq_3_4, cq_3_5, cq_3_6, cq_3_7, cq_3_8, cq_4_m1, cq_4_0, cq_4_1, cq_4_2, cq_4_3, cq_4_5, cq_4_6, cq_4_7, cq_4_8, cq_5_m1, cq_5_0, cq_5_1, cq_5_2, cq_5_3, cq_5_4, cq_5_6, cq_5_7, cq_5_8, cq_6_m1, cq_6_0, cq_6_1, cq_6_2, cq_6_3, cq_6_4, cq_6_5, cq_6_7, cq_6_8, cq_7_m1, cq_7_0, cq_7_1, cq_7_2, cq_7_3, cq_7_4, cq_7_5, cq_7_6, cq_7_8, cq_8_m1, cq_8_0, cq_8_1, cq_8_2, cq_8_3, cq_8_4, cq_8_5, cq_8_6, cq_8_7]
set_option maxRecDepth 100000 in
set_option maxHeartbeats 800000 in
theorem cv_firstBehind : en_Ev (d + 1) 51 [.inl v] f Q = Q (some (.inl (2 * v + 2))) f := by
  simp only [e51, r51_0, r51_1, r51_2, r51_3, r51_4, r51_5, true_and, and_true, Option.toList_some, Option.toList_none, List.cons_append, List.nil_append, List.length_nil, List.length_cons, Nat.reduceAdd, Nat.reduceLeDiff, Nat.zero_le, cb_0, cb_1, cb_01, cb_i, cb_j, eq_self, cb_le, cb_nn, ↓reduceIte, en_ua, Nat.reduceEqDiff, false_and, and_false, and_self, Int32.reduceLT, Int32.reduceAdd, Int32.reduceSub, Int32.reduceMul, Int32.reduceDiv, not_true_eq_false, not_false_eq_true, false_implies, true_implies, implies_true, cl_0, cl_1, cl_2, cl_3, cl_4, cl_5, cl_6, cl_7, cl_8, cl_9, cl_10, cl_11, cl_12, cl_13, cl_14, cl_15, cl_16, ci_6_0, ci_6_1, ci_6_2, ci_6_3, ci_6_4, ci_6_5, ci_8_0, ci_8_1, ci_8_2, ci_8_3, ci_8_4, ci_8_5, ci_8_6, ci_8_7, ci_16_0, ci_16_1, ci_16_2, ci_16_3, ci_16_4, ci_16_5, ci_16_6, ci_16_7, ci_16_8, ci_16_9, ci_16_10, ci_16_11, ci_16_12, ci_16_13, ci_16_14, ci_16_15, ci_4_0, ci_4_1, ci_4_2, ci_4_3, ci_40_0, ci_40_1, ci_40_2, ci_40_3, ci_40_4, ci_40_5, ci_40_6, ci_40_7, ci_40_8, ci_40_9, ci_40_10, ci_40_11, ci_40_12, ci_40_13, ci_40_14, ci_40_15, cq_m1_0, cq_m1_1, cq_m1_2, cq_m1_3, cq_m1_4, cq_m1_5, cq_m1_6, cq_m1_7, cq_m1_8, cq_0_m1, cq_0_1, cq_0_2, cq_0_3, cq_0_4, cq_0_5, cq_0_6, cq_0_7, cq_0_8, cq_1_m1, cq_1_0, cq_1_2, cq_1_3, cq_1_4, cq_1_5, cq_1_6, cq_1_7, cq_1_8, cq_2_m1, cq_2_0, cq_2_1, cq_2_3, cq_2_4, cq_2_5, cq_2_6, cq_2_7, cq_2_8, cq_3_m1, cq_3_0, cq_3_1, cq_3_2, cq_3_4, cq_3_5, cq_3_6, cq_3_7, cq_3_8, cq_4_m1, cq_4_0, cq_4_1, cq_4_2, cq_4_3, cq_4_5, cq_4_6, cq_4_7, cq_4_8, cq_5_m1, cq_5_0, cq_5_1, cq_5_2, cq_5_3, cq_5_4, cq_5_6, cq_5_7, cq_5_8, cq_6_m1, cq_6_0, cq_6_1, cq_6_2, cq_6_3, cq_6_4, cq_6_5, cq_6_7, cq_6_8, cq_7_m1, cq_7_0, cq_7_1, cq_7_2, cq_7_3, cq_7_4, cq_7_5, cq_7_6, cq_7_8, cq_8_m1, cq_8_0, cq_8_1, cq_8_2, cq_8_3, cq_8_4, cq_8_5, cq_8_6, cq_8_7]
set_option maxRecDepth 100000 in
set_option maxHeartbeats 800000 in
theorem cv_isThere (hp : p < 6) : en_Ev (d + 2) 52 [.inr (0, 0), .inl (nI p)] f Q = Q (some (.inl (if p < 2 ∨ f.1 4 (p / 2 - 1) 3 = 3 then 1 else 0))) f := by
  by_cases h2 : p < 2
  · simp only [e52, r52_0, r52_1, r52_4, r52_7, r52_8, r52_9, r52_12, r52_13, r52_16, r52_17, r52_20, r52_21, r52_24, r52_27, r52_28, r52_31, r52_32, r52_35, r52_36, true_and, and_true, Option.toList_some, Option.toList_none, List.cons_append, List.nil_append, List.length_nil, List.length_cons, Nat.reduceAdd, Nat.reduceLeDiff, Nat.zero_le, cb_0, cb_1, cb_01, cb_i, cb_j, eq_self, cb_le, cb_nn, ↓reduceIte, en_ua, Nat.reduceEqDiff, false_and, and_false, and_self, Int32.reduceLT, Int32.reduceAdd, Int32.reduceSub, Int32.reduceMul, Int32.reduceDiv, not_true_eq_false, not_false_eq_true, false_implies, true_implies, implies_true, cl_0, cl_1, cl_2, cl_3, cl_4, cl_5, cl_6, cl_7, cl_8, cl_9, cl_10, cl_11, cl_12, cl_13, cl_14, cl_15, cl_16, ci_6_0, ci_6_1, ci_6_2, ci_6_3, ci_6_4, ci_6_5, ci_8_0, ci_8_1, ci_8_2, ci_8_3, ci_8_4, ci_8_5, ci_8_6, ci_8_7, ci_16_0, ci_16_1, ci_16_2, ci_16_3, ci_16_4, ci_16_5, ci_16_6, ci_16_7, ci_16_8, ci_16_9, ci_16_10, ci_16_11, ci_16_12, ci_16_13, ci_16_14, ci_16_15, ci_4_0, ci_4_1, ci_4_2, ci_4_3, ci_40_0, ci_40_1, ci_40_2, ci_40_3, ci_40_4, ci_40_5, ci_40_6, ci_40_7, ci_40_8, ci_40_9, ci_40_10, ci_40_11, ci_40_12, ci_40_13, ci_40_14, ci_40_15, cq_m1_0, cq_m1_1, cq_m1_2, cq_m1_3, cq_m1_4, cq_m1_5, cq_m1_6, cq_m1_7, cq_m1_8, cq_0_m1, cq_0_1, cq_0_2, cq_0_3, cq_0_4, cq_0_5, cq_0_6, cq_0_7, cq_0_8, cq_1_m1, cq_1_0, cq_1_2, cq_1_3, cq_1_4, cq_1_5, cq_1_6, cq_1_7, cq_1_8, cq_2_m1, cq_2_0, cq_2_1, cq_2_3, cq_2_4, cq_2_5, cq_2_6, cq_2_7, cq_2_8, cq_3_m1, cq_3_0, cq_3_1, cq_3_2, cq_3_4, cq_3_5, cq_3_6, cq_3_7, cq_3_8, cq_4_m1, cq_4_0, cq_4_1, cq_4_2, cq_4_3, cq_4_5, cq_4_6, cq_4_7, cq_4_8, cq_5_m1, cq_5_0, cq_5_1, cq_5_2, cq_5_3, cq_5_4, cq_5_6, cq_5_7, cq_5_8, cq_6_m1, cq_6_0, cq_6_1, cq_6_2, cq_6_3, cq_6_4, cq_6_5, cq_6_7, cq_6_8, cq_7_m1, cq_7_0, cq_7_1, cq_7_2, cq_7_3, cq_7_4, cq_7_5, cq_7_6, cq_7_8, cq_8_m1, cq_8_0, cq_8_1, cq_8_2, cq_8_3, cq_8_4, cq_8_5, cq_8_6, cq_8_7, ↓cv_isPort, ↓cv_hubPortOf, cs_lt2 hp, cs_lt6 hp, cs_lt0 hp, h2]
    simp
  · have hq : p / 2 - 1 < 6 := by omega
    simp only [e52, r52_0, r52_1, r52_4, r52_7, r52_8, r52_9, r52_12, r52_13, r52_16, r52_17, r52_20, r52_21, r52_24, r52_27, r52_28, r52_31, r52_32, r52_35, r52_36, true_and, and_true, Option.toList_some, Option.toList_none, List.cons_append, List.nil_append, List.length_nil, List.length_cons, Nat.reduceAdd, Nat.reduceLeDiff, Nat.zero_le, cb_0, cb_1, cb_01, cb_i, cb_j, eq_self, cb_le, cb_nn, ↓reduceIte, en_ua, Nat.reduceEqDiff, false_and, and_false, and_self, Int32.reduceLT, Int32.reduceAdd, Int32.reduceSub, Int32.reduceMul, Int32.reduceDiv, not_true_eq_false, not_false_eq_true, false_implies, true_implies, implies_true, cl_0, cl_1, cl_2, cl_3, cl_4, cl_5, cl_6, cl_7, cl_8, cl_9, cl_10, cl_11, cl_12, cl_13, cl_14, cl_15, cl_16, ci_6_0, ci_6_1, ci_6_2, ci_6_3, ci_6_4, ci_6_5, ci_8_0, ci_8_1, ci_8_2, ci_8_3, ci_8_4, ci_8_5, ci_8_6, ci_8_7, ci_16_0, ci_16_1, ci_16_2, ci_16_3, ci_16_4, ci_16_5, ci_16_6, ci_16_7, ci_16_8, ci_16_9, ci_16_10, ci_16_11, ci_16_12, ci_16_13, ci_16_14, ci_16_15, ci_4_0, ci_4_1, ci_4_2, ci_4_3, ci_40_0, ci_40_1, ci_40_2, ci_40_3, ci_40_4, ci_40_5, ci_40_6, ci_40_7, ci_40_8, ci_40_9, ci_40_10, ci_40_11, ci_40_12, ci_40_13, ci_40_14, ci_40_15, cq_m1_0, cq_m1_1, cq_m1_2, cq_m1_3, cq_m1_4, cq_m1_5, cq_m1_6, cq_m1_7, cq_m1_8, cq_0_m1, cq_0_1, cq_0_2, cq_0_3, cq_0_4, cq_0_5, cq_0_6, cq_0_7, cq_0_8, cq_1_m1, cq_1_0, cq_1_2, cq_1_3, cq_1_4, cq_1_5, cq_1_6, cq_1_7, cq_1_8, cq_2_m1, cq_2_0, cq_2_1, cq_2_3, cq_2_4, cq_2_5, cq_2_6, cq_2_7, cq_2_8, cq_3_m1, cq_3_0, cq_3_1, cq_3_2, cq_3_4, cq_3_5, cq_3_6, cq_3_7, cq_3_8, cq_4_m1, cq_4_0, cq_4_1, cq_4_2, cq_4_3, cq_4_5, cq_4_6, cq_4_7, cq_4_8, cq_5_m1, cq_5_0, cq_5_1, cq_5_2, cq_5_3, cq_5_4, cq_5_6, cq_5_7, cq_5_8, cq_6_m1, cq_6_0, cq_6_1, cq_6_2, cq_6_3, cq_6_4, cq_6_5, cq_6_7, cq_6_8, cq_7_m1, cq_7_0, cq_7_1, cq_7_2, cq_7_3, cq_7_4, cq_7_5, cq_7_6, cq_7_8, cq_8_m1, cq_8_0, cq_8_1, cq_8_2, cq_8_3, cq_8_4, cq_8_5, cq_8_6, cq_8_7, ↓cv_isPort, ↓cv_hubPortOf, cs_lt2 hp, cs_lt6 hp, cs_lt0 hp, h2, cs_hub h2 hp, cb_in6 hq, cb_c6 hq, hq]
    by_cases h3 : f.1 4 (p / 2 - 1) 3 = 3 <;> simp [h3]
set_option maxRecDepth 100000 in
set_option maxHeartbeats 800000 in
theorem cv_isThere0 (h : ¬ (¬ v < 0 ∧ v < 6)) : en_Ev (d + 2) 52 [.inr (0, 0), .inl v] f Q = Q (some (.inl 0)) f := by
  simp only [e52, r52_0, r52_1, r52_4, r52_7, r52_8, r52_9, r52_12, r52_13, r52_16, r52_17, r52_20, r52_21, r52_24, r52_27, r52_28, r52_31, r52_32, r52_35, r52_36, true_and, and_true, Option.toList_some, Option.toList_none, List.cons_append, List.nil_append, List.length_nil, List.length_cons, Nat.reduceAdd, Nat.reduceLeDiff, Nat.zero_le, cb_0, cb_1, cb_01, cb_i, cb_j, eq_self, cb_le, cb_nn, ↓reduceIte, en_ua, Nat.reduceEqDiff, false_and, and_false, and_self, Int32.reduceLT, Int32.reduceAdd, Int32.reduceSub, Int32.reduceMul, Int32.reduceDiv, not_true_eq_false, not_false_eq_true, false_implies, true_implies, implies_true, cl_0, cl_1, cl_2, cl_3, cl_4, cl_5, cl_6, cl_7, cl_8, cl_9, cl_10, cl_11, cl_12, cl_13, cl_14, cl_15, cl_16, ci_6_0, ci_6_1, ci_6_2, ci_6_3, ci_6_4, ci_6_5, ci_8_0, ci_8_1, ci_8_2, ci_8_3, ci_8_4, ci_8_5, ci_8_6, ci_8_7, ci_16_0, ci_16_1, ci_16_2, ci_16_3, ci_16_4, ci_16_5, ci_16_6, ci_16_7, ci_16_8, ci_16_9, ci_16_10, ci_16_11, ci_16_12, ci_16_13, ci_16_14, ci_16_15, ci_4_0, ci_4_1, ci_4_2, ci_4_3, ci_40_0, ci_40_1, ci_40_2, ci_40_3, ci_40_4, ci_40_5, ci_40_6, ci_40_7, ci_40_8, ci_40_9, ci_40_10, ci_40_11, ci_40_12, ci_40_13, ci_40_14, ci_40_15, cq_m1_0, cq_m1_1, cq_m1_2, cq_m1_3, cq_m1_4, cq_m1_5, cq_m1_6, cq_m1_7, cq_m1_8, cq_0_m1, cq_0_1, cq_0_2, cq_0_3, cq_0_4, cq_0_5, cq_0_6, cq_0_7, cq_0_8, cq_1_m1, cq_1_0, cq_1_2, cq_1_3, cq_1_4, cq_1_5, cq_1_6, cq_1_7, cq_1_8, cq_2_m1, cq_2_0, cq_2_1, cq_2_3, cq_2_4, cq_2_5, cq_2_6, cq_2_7, cq_2_8, cq_3_m1, cq_3_0, cq_3_1, cq_3_2, cq_3_4, cq_3_5, cq_3_6, cq_3_7, cq_3_8, cq_4_m1, cq_4_0, cq_4_1, cq_4_2, cq_4_3, cq_4_5, cq_4_6, cq_4_7, cq_4_8, cq_5_m1, cq_5_0, cq_5_1, cq_5_2, cq_5_3, cq_5_4, cq_5_6, cq_5_7, cq_5_8, cq_6_m1, cq_6_0, cq_6_1, cq_6_2, cq_6_3, cq_6_4, cq_6_5, cq_6_7, cq_6_8, cq_7_m1, cq_7_0, cq_7_1, cq_7_2, cq_7_3, cq_7_4, cq_7_5, cq_7_6, cq_7_8, cq_8_m1, cq_8_0, cq_8_1, cq_8_2, cq_8_3, cq_8_4, cq_8_5, cq_8_6, cq_8_7, ↓cv_isPort, h]
theorem r53_1 {cs : en_S} {post : en_Q} {lo : en_L} {st : List en_V} : en_R cs 53 d post 1 lo (.inl x :: st) f = (if x = 1 then en_R cs 53 d post 28 lo st f else if x = 2 then en_R cs 53 d post 54 lo st f else if x = 3 then en_R cs 53 d post 82 lo st f else en_R cs 53 d post 96 lo st f) := by
  have hc : en_cd 53 1 = some (.tableswitch 95 1 3 #[27, 53, 81], 27, 0, 0) := by decide +kernel
  by_cases h1 : x = 1
  · subst h1; exact en_R_n (by rw [en_stp_c hc]; rfl)
  · by_cases h2 : x = 2
    · subst h2; exact en_R_n (by rw [en_stp_c hc]; rfl)
    · by_cases h3 : x = 3
      · subst h3; exact en_R_n (by rw [en_stp_c hc]; rfl)
      · rw [if_neg h1, if_neg h2, if_neg h3]
        refine en_R_n (by
          rw [en_stp_c hc]
          show en_tsw 1 lo (.inl x :: st) f 95 1 3 #[27, 53, 81] = _
          have g1 : x.toInt ≠ 1 := fun z => h1 (Int32.toInt_inj.mp z)
          have g2 : x.toInt ≠ 2 := fun z => h2 (Int32.toInt_inj.mp z)
          have g3 : x.toInt ≠ 3 := fun z => h3 (Int32.toInt_inj.mp z)
          show (if x.toInt < 1 then en_jp 1 95 lo st f else if 3 < x.toInt then en_jp 1 95 lo st f else _) = _
          by_cases z : x.toInt < 1
          · rw [if_pos z]; rfl
          · rw [if_neg z, if_pos (by omega)]; rfl)
def cx_isDev (v a b : Int32) : Prop := (v = 1 ∧ (¬ a < 1 ∧ ¬ 8 < a) ∧ ¬ b < 0 ∧ ¬ 3 < b) ∨ (v = 2 ∧ (¬ a < 1 ∧ ¬ 8 < a) ∧ ¬ b < 1 ∧ ¬ 60 < b) ∨ (v = 3 ∧ a = 0 ∧ b = 0)
noncomputable def cx_isDevI (v a b : Int32) : Int32 := @ite _ (cx_isDev v a b) (Classical.propDecidable _) 1 0
set_option maxRecDepth 100000 in
set_option maxHeartbeats 800000 in
theorem cv_isDevice : en_Ev (d + 1) 53 [.inl v, .inl a, .inl b] f Q = Q (some (.inl (cx_isDevI v a b))) f := by
  simp only [e53, r53_0, r53_28, r53_29, r53_30, r53_33, r53_34, r53_36, r53_39, r53_40, r53_43, r53_44, r53_45, r53_48, r53_49, r53_52, r53_53, r53_54, r53_55, r53_56, r53_59, r53_60, r53_62, r53_65, r53_66, r53_67, r53_70, r53_71, r53_73, r53_76, r53_77, r53_80, r53_81, r53_82, r53_83, r53_86, r53_87, r53_90, r53_91, r53_94, r53_95, r53_96, r53_97, r53_1, true_and, and_true, Option.toList_some, Option.toList_none, List.cons_append, List.nil_append, List.length_nil, List.length_cons, Nat.reduceAdd, Nat.reduceLeDiff, Nat.zero_le, cb_0, cb_1, cb_01, cb_i, cb_j, eq_self, cb_le, cb_nn, ↓reduceIte, en_ua, Nat.reduceEqDiff, false_and, and_false, and_self, Int32.reduceLT, Int32.reduceAdd, Int32.reduceSub, Int32.reduceMul, Int32.reduceDiv, not_true_eq_false, not_false_eq_true, false_implies, true_implies, implies_true, cl_0, cl_1, cl_2, cl_3, cl_4, cl_5, cl_6, cl_7, cl_8, cl_9, cl_10, cl_11, cl_12, cl_13, cl_14, cl_15, cl_16, ci_6_0, ci_6_1, ci_6_2, ci_6_3, ci_6_4, ci_6_5, ci_8_0, ci_8_1, ci_8_2, ci_8_3, ci_8_4, ci_8_5, ci_8_6, ci_8_7, ci_16_0, ci_16_1, ci_16_2, ci_16_3, ci_16_4, ci_16_5, ci_16_6, ci_16_7, ci_16_8, ci_16_9, ci_16_10, ci_16_11, ci_16_12, ci_16_13, ci_16_14, ci_16_15, ci_4_0, ci_4_1, ci_4_2, ci_4_3, ci_40_0, ci_40_1, ci_40_2, ci_40_3, ci_40_4, ci_40_5, ci_40_6, ci_40_7, ci_40_8, ci_40_9, ci_40_10, ci_40_11, ci_40_12, ci_40_13, ci_40_14, ci_40_15, cq_m1_0, cq_m1_1, cq_m1_2, cq_m1_3, cq_m1_4, cq_m1_5, cq_m1_6, cq_m1_7, cq_m1_8, cq_0_m1, cq_0_1, cq_0_2, cq_0_3, cq_0_4, cq_0_5, cq_0_6, cq_0_7, cq_0_8, cq_1_m1, cq_1_0, cq_1_2, cq_1_3, cq_1_4, cq_1_5, cq_1_6, cq_1_7, cq_1_8, cq_2_m1, cq_2_0, cq_2_1, cq_2_3, cq_2_4, cq_2_5, cq_2_6, cq_2_7, cq_2_8, cq_3_m1, cq_3_0, cq_3_1, cq_3_2, cq_3_4, cq_3_5, cq_3_6, cq_3_7, cq_3_8, cq_4_m1, cq_4_0, cq_4_1, cq_4_2, cq_4_3, cq_4_5, cq_4_6, cq_4_7, cq_4_8, cq_5_m1, cq_5_0, cq_5_1, cq_5_2, cq_5_3, cq_5_4, cq_5_6, cq_5_7, cq_5_8, cq_6_m1, cq_6_0, cq_6_1, cq_6_2, cq_6_3, cq_6_4, cq_6_5, cq_6_7, cq_6_8, cq_7_m1, cq_7_0, cq_7_1, cq_7_2, cq_7_3, cq_7_4, cq_7_5, cq_7_6, cq_7_8, cq_8_m1, cq_8_0, cq_8_1, cq_8_2, cq_8_3, cq_8_4, cq_8_5, cq_8_6, cq_8_7]
  unfold cx_isDevI cx_isDev
  by_cases h1 : v = 1
  · subst h1
    by_cases g1 : a < 1 <;> by_cases g2 : 8 < a <;> by_cases g3 : b < 0 <;> by_cases g4 : 3 < b <;> simp [g1, g2, g3, g4]
  · by_cases h2 : v = 2
    · subst h2
      by_cases g1 : a < 1 <;> by_cases g2 : 8 < a <;> by_cases g3 : b < 1 <;> by_cases g4 : 60 < b <;> simp [g1, g2, g3, g4]
    · by_cases h3 : v = 3
      · subst h3
        by_cases g1 : a = 0 <;> by_cases g2 : b = 0 <;> simp [g1, g2]
      · simp [h1, h2, h3]
def cx_mark (f : en_F) (p : Nat) : en_F := if p < 2 ∨ ¬ f 4 (p / 2 - 1) 8 = 0 then en_up f 3 p 2 1 else f
set_option maxRecDepth 100000 in
set_option maxHeartbeats 800000 in
theorem cv_mark (hp : p < 6) : en_Ev (d + 2) 54 [.inr (0, 0), .inl (nI p)] f Q = Q none (cx_mark f.1 p, f.2) := by
  unfold cx_mark
  by_cases h2 : p < 2
  · simp only [e54, r54_0, r54_1, r54_2, r54_5, r54_6, r54_9, r54_10, r54_13, r54_14, r54_17, r54_20, r54_23, r54_24, r54_27, r54_28, r54_29, r54_30, r54_33, true_and, and_true, Option.toList_some, Option.toList_none, List.cons_append, List.nil_append, List.length_nil, List.length_cons, Nat.reduceAdd, Nat.reduceLeDiff, Nat.zero_le, cb_0, cb_1, cb_01, cb_i, cb_j, eq_self, cb_le, cb_nn, ↓reduceIte, en_ua, Nat.reduceEqDiff, false_and, and_false, and_self, Int32.reduceLT, Int32.reduceAdd, Int32.reduceSub, Int32.reduceMul, Int32.reduceDiv, not_true_eq_false, not_false_eq_true, false_implies, true_implies, implies_true, cl_0, cl_1, cl_2, cl_3, cl_4, cl_5, cl_6, cl_7, cl_8, cl_9, cl_10, cl_11, cl_12, cl_13, cl_14, cl_15, cl_16, ci_6_0, ci_6_1, ci_6_2, ci_6_3, ci_6_4, ci_6_5, ci_8_0, ci_8_1, ci_8_2, ci_8_3, ci_8_4, ci_8_5, ci_8_6, ci_8_7, ci_16_0, ci_16_1, ci_16_2, ci_16_3, ci_16_4, ci_16_5, ci_16_6, ci_16_7, ci_16_8, ci_16_9, ci_16_10, ci_16_11, ci_16_12, ci_16_13, ci_16_14, ci_16_15, ci_4_0, ci_4_1, ci_4_2, ci_4_3, ci_40_0, ci_40_1, ci_40_2, ci_40_3, ci_40_4, ci_40_5, ci_40_6, ci_40_7, ci_40_8, ci_40_9, ci_40_10, ci_40_11, ci_40_12, ci_40_13, ci_40_14, ci_40_15, cq_m1_0, cq_m1_1, cq_m1_2, cq_m1_3, cq_m1_4, cq_m1_5, cq_m1_6, cq_m1_7, cq_m1_8, cq_0_m1, cq_0_1, cq_0_2, cq_0_3, cq_0_4, cq_0_5, cq_0_6, cq_0_7, cq_0_8, cq_1_m1, cq_1_0, cq_1_2, cq_1_3, cq_1_4, cq_1_5, cq_1_6, cq_1_7, cq_1_8, cq_2_m1, cq_2_0, cq_2_1, cq_2_3, cq_2_4, cq_2_5, cq_2_6, cq_2_7, cq_2_8, cq_3_m1, cq_3_0, cq_3_1, cq_3_2, cq_3_4, cq_3_5, cq_3_6, cq_3_7, cq_3_8, cq_4_m1, cq_4_0, cq_4_1, cq_4_2, cq_4_3, cq_4_5, cq_4_6, cq_4_7, cq_4_8, cq_5_m1, cq_5_0, cq_5_1, cq_5_2, cq_5_3, cq_5_4, cq_5_6, cq_5_7, cq_5_8, cq_6_m1, cq_6_0, cq_6_1, cq_6_2, cq_6_3, cq_6_4, cq_6_5, cq_6_7, cq_6_8, cq_7_m1, cq_7_0, cq_7_1, cq_7_2, cq_7_3, cq_7_4, cq_7_5, cq_7_6, cq_7_8, cq_8_m1, cq_8_0, cq_8_1, cq_8_2, cq_8_3, cq_8_4, cq_8_5, cq_8_6, cq_8_7, ↓cv_hubPortOf, cs_lt2 hp, h2, cb_in6 hp, cb_c6 hp, hp]
    simp
  · have hq : p / 2 - 1 < 6 := by omega
    simp only [e54, r54_0, r54_1, r54_2, r54_5, r54_6, r54_9, r54_10, r54_13, r54_14, r54_17, r54_20, r54_23, r54_24, r54_27, r54_28, r54_29, r54_30, r54_33, true_and, and_true, Option.toList_some, Option.toList_none, List.cons_append, List.nil_append, List.length_nil, List.length_cons, Nat.reduceAdd, Nat.reduceLeDiff, Nat.zero_le, cb_0, cb_1, cb_01, cb_i, cb_j, eq_self, cb_le, cb_nn, ↓reduceIte, en_ua, Nat.reduceEqDiff, false_and, and_false, and_self, Int32.reduceLT, Int32.reduceAdd, Int32.reduceSub, Int32.reduceMul, Int32.reduceDiv, not_true_eq_false, not_false_eq_true, false_implies, true_implies, implies_true, cl_0, cl_1, cl_2, cl_3, cl_4, cl_5, cl_6, cl_7, cl_8, cl_9, cl_10, cl_11, cl_12, cl_13, cl_14, cl_15, cl_16, ci_6_0, ci_6_1, ci_6_2, ci_6_3, ci_6_4, ci_6_5, ci_8_0, ci_8_1, ci_8_2, ci_8_3, ci_8_4, ci_8_5, ci_8_6, ci_8_7, ci_16_0, ci_16_1, ci_16_2, ci_16_3, ci_16_4, ci_16_5, ci_16_6, ci_16_7, ci_16_8, ci_16_9, ci_16_10, ci_16_11, ci_16_12, ci_16_13, ci_16_14, ci_16_15, ci_4_0, ci_4_1, ci_4_2, ci_4_3, ci_40_0, ci_40_1, ci_40_2, ci_40_3, ci_40_4, ci_40_5, ci_40_6, ci_40_7, ci_40_8, ci_40_9, ci_40_10, ci_40_11, ci_40_12, ci_40_13, ci_40_14, ci_40_15, cq_m1_0, cq_m1_1, cq_m1_2, cq_m1_3, cq_m1_4, cq_m1_5, cq_m1_6, cq_m1_7, cq_m1_8, cq_0_m1, cq_0_1, cq_0_2, cq_0_3, cq_0_4, cq_0_5, cq_0_6, cq_0_7, cq_0_8, cq_1_m1, cq_1_0, cq_1_2, cq_1_3, cq_1_4, cq_1_5, cq_1_6, cq_1_7, cq_1_8, cq_2_m1, cq_2_0, cq_2_1, cq_2_3, cq_2_4, cq_2_5, cq_2_6, cq_2_7, cq_2_8, cq_3_m1, cq_3_0, cq_3_1, cq_3_2, cq_3_4, cq_3_5, cq_3_6, cq_3_7, cq_3_8, cq_4_m1, cq_4_0, cq_4_1, cq_4_2, cq_4_3, cq_4_5, cq_4_6, cq_4_7, cq_4_8, cq_5_m1, cq_5_0, cq_5_1, cq_5_2, cq_5_3, cq_5_4, cq_5_6, cq_5_7, cq_5_8, cq_6_m1, cq_6_0, cq_6_1, cq_6_2, cq_6_3, cq_6_4, cq_6_5, cq_6_7, cq_6_8, cq_7_m1, cq_7_0, cq_7_1, cq_7_2, cq_7_3, cq_7_4, cq_7_5, cq_7_6, cq_7_8, cq_8_m1, cq_8_0, cq_8_1, cq_8_2, cq_8_3, cq_8_4, cq_8_5, cq_8_6, cq_8_7, ↓cv_hubPortOf, cs_lt2 hp, h2, cs_hub h2 hp, cb_in6 hq, cb_c6 hq, hq, cb_in6 hp, cb_c6 hp, hp]
    by_cases h3 : f.1 4 (p / 2 - 1) 8 = 0 <;> simp [h3]
def cx_tell (f : en_F) (p : Nat) : Int32 × en_F := if f 3 p 2 = 0 then (0, f) else (if f 4 p 3 = 0 then 1 else 3, en_up f 3 p 2 0)
set_option maxRecDepth 100000 in
set_option maxHeartbeats 800000 in
theorem cv_tell (hp : p < 6) : en_Ev (d + 2) 56 [.inr (0, 0), .inl (nI p)] f Q = Q (some (.inl (cx_tell f.1 p).1)) ((cx_tell f.1 p).2, f.2) := by
  unfold cx_tell
  simp only [e56, r56_0, r56_1, r56_4, r56_5, r56_6, r56_7, r56_8, r56_11, r56_14, r56_15, r56_16, r56_17, r56_18, r56_21, r56_22, r56_25, r56_28, r56_29, r56_32, r56_33, true_and, and_true, Option.toList_some, Option.toList_none, List.cons_append, List.nil_append, List.length_nil, List.length_cons, Nat.reduceAdd, Nat.reduceLeDiff, Nat.zero_le, cb_0, cb_1, cb_01, cb_i, cb_j, eq_self, cb_le, cb_nn, ↓reduceIte, en_ua, Nat.reduceEqDiff, false_and, and_false, and_self, Int32.reduceLT, Int32.reduceAdd, Int32.reduceSub, Int32.reduceMul, Int32.reduceDiv, not_true_eq_false, not_false_eq_true, false_implies, true_implies, implies_true, cl_0, cl_1, cl_2, cl_3, cl_4, cl_5, cl_6, cl_7, cl_8, cl_9, cl_10, cl_11, cl_12, cl_13, cl_14, cl_15, cl_16, ci_6_0, ci_6_1, ci_6_2, ci_6_3, ci_6_4, ci_6_5, ci_8_0, ci_8_1, ci_8_2, ci_8_3, ci_8_4, ci_8_5, ci_8_6, ci_8_7, ci_16_0, ci_16_1, ci_16_2, ci_16_3, ci_16_4, ci_16_5, ci_16_6, ci_16_7, ci_16_8, ci_16_9, ci_16_10, ci_16_11, ci_16_12, ci_16_13, ci_16_14, ci_16_15, ci_4_0, ci_4_1, ci_4_2, ci_4_3, ci_40_0, ci_40_1, ci_40_2, ci_40_3, ci_40_4, ci_40_5, ci_40_6, ci_40_7, ci_40_8, ci_40_9, ci_40_10, ci_40_11, ci_40_12, ci_40_13, ci_40_14, ci_40_15, cq_m1_0, cq_m1_1, cq_m1_2, cq_m1_3, cq_m1_4, cq_m1_5, cq_m1_6, cq_m1_7, cq_m1_8, cq_0_m1, cq_0_1, cq_0_2, cq_0_3, cq_0_4, cq_0_5, cq_0_6, cq_0_7, cq_0_8, cq_1_m1, cq_1_0, cq_1_2, cq_1_3, cq_1_4, cq_1_5, cq_1_6, cq_1_7, cq_1_8, cq_2_m1, cq_2_0, cq_2_1, cq_2_3, cq_2_4, cq_2_5, cq_2_6, cq_2_7, cq_2_8, cq_3_m1, cq_3_0, cq_3_1, cq_3_2, cq_3_4, cq_3_5, cq_3_6, cq_3_7, cq_3_8, cq_4_m1, cq_4_0, cq_4_1, cq_4_2, cq_4_3, cq_4_5, cq_4_6, cq_4_7, cq_4_8, cq_5_m1, cq_5_0, cq_5_1, cq_5_2, cq_5_3, cq_5_4, cq_5_6, cq_5_7, cq_5_8, cq_6_m1, cq_6_0, cq_6_1, cq_6_2, cq_6_3, cq_6_4, cq_6_5, cq_6_7, cq_6_8, cq_7_m1, cq_7_0, cq_7_1, cq_7_2, cq_7_3, cq_7_4, cq_7_5, cq_7_6, cq_7_8, cq_8_m1, cq_8_0, cq_8_1, cq_8_2, cq_8_3, cq_8_4, cq_8_5, cq_8_6, cq_8_7, ↓cv_isFull hp, cb_in6 hp, cb_c6 hp, hp, cb_e1]
  by_cases h3 : f.1 3 p 2 = 0
  · simp [h3]
  · by_cases h4 : f.1 4 p 3 = 0 <;> simp [h3, h4]
/-- the orders below n of port p that aren't over are over: GONE -/
def cx_relO (g : en_F) (p n : Nat) : en_F := fun k i j => if (k = 8 ∧ j = 7) ∧ i < n ∧ g 8 i 2 = nI p ∧ g 8 i 7 = 0 then 3 else g k i j
theorem cx_relO_r {g : en_F} {p n k i j : Nat} (h : ¬ (k = 8 ∧ j = 7)) : cx_relO g p n k i j = g k i j := if_neg (fun q => h q.1)
theorem cx_relO_0 {g : en_F} {p : Nat} : cx_relO g p 0 = g := by
  funext k i j
  exact if_neg (fun q => Nat.not_lt_zero _ q.2.1)
theorem cx_relO_s {g : en_F} {p n : Nat} : (if g 8 n 2 = nI p then cx_end (cx_relO g p n) n 3 else cx_relO g p n) = cx_relO g p (n + 1) := by
  have e7 : cx_relO g p n 8 n 7 = g 8 n 7 := if_neg (fun q => Nat.lt_irrefl _ q.2.1)
  funext k i j
  by_cases hk : k = 8 ∧ j = 7
  · obtain ⟨rfl, rfl⟩ := hk
    by_cases hi : i = n
    · subst hi
      by_cases h1 : g 8 i 2 = nI p <;> by_cases h2 : g 8 i 7 = 0 <;> simp [cx_relO, cx_end, h1, h2, en_up]
    · have hlt : (i < n + 1) = (i < n) := by simp; omega
      by_cases h1 : g 8 n 2 = nI p <;> by_cases h2 : g 8 n 7 = 0 <;> simp [cx_relO, cx_end, h1, h2, en_up, hi, hlt]
  · rw [cx_relO_r hk]
    have hup : ∀ h : en_F, en_up h 8 n 7 3 k i j = h k i j := fun h => by
      unfold en_up
      rw [if_neg (fun q => hk ⟨q.1, q.2.2⟩)]
    by_cases h1 : g 8 n 2 = nI p
    · rw [if_pos h1]
      unfold cx_end
      rw [e7]
      by_cases h2 : g 8 n 7 = 0
      · rw [if_pos h2, hup, cx_relO_r hk]
      · rw [if_neg h2, cx_relO_r hk]
    · rw [if_neg h1, cx_relO_r hk]
set_option maxRecDepth 100000 in
set_option maxHeartbeats 800000 in
theorem cv_relL {g f2 : en_F} (hp : p < 6) (hn : n ≤ 16) (hc : g 0 0 4 = nI n) : ∀ m i, i + m = n → en_R en_s0 59 (d + 1) Q 12 [some (.inr (0, 0)), some (.inl (nI p)), some (.inl (nI i))] [] (cx_relO g p i, f2) = Q none (cx_relO g p n, f2) := by
  intro m
  induction m with
  | zero =>
    intro i hi
    have e : i = n := by omega
    subst e
    simp only [r59_0, r59_1, r59_4, r59_5, r59_6, r59_7, r59_10, r59_11, r59_12, r59_13, r59_14, r59_17, r59_20, r59_21, r59_24, r59_25, r59_26, r59_29, r59_30, r59_33, r59_34, r59_37, r59_38, r59_39, r59_40, r59_43, r59_46, r59_49, true_and, and_true, Option.toList_some, Option.toList_none, List.cons_append, List.nil_append, List.length_nil, List.length_cons, Nat.reduceAdd, Nat.reduceLeDiff, Nat.zero_le, cb_0, cb_1, cb_01, cb_i, cb_j, eq_self, cb_le, cb_nn, ↓reduceIte, en_ua, Nat.reduceEqDiff, false_and, and_false, and_self, cx_relO_r (g := g) (p := p) (n := i) (show ¬ (0 = 8 ∧ 4 = 7) by omega), hc, cb_lt (show i < 2 ^ 31 by omega) (show i < 2 ^ 31 by omega), Nat.lt_irrefl, not_false_eq_true]
  | succ m ih =>
    intro i hi
    have hin : i < n := by omega
    have hi16 : i < 16 := by omega
    rw [r59_12]
    simp only [r59_0, r59_1, r59_4, r59_5, r59_6, r59_7, r59_10, r59_11, r59_13, r59_14, r59_17, r59_20, r59_21, r59_24, r59_25, r59_26, r59_29, r59_30, r59_33, r59_34, r59_37, r59_38, r59_39, r59_40, r59_43, r59_46, r59_49, true_and, and_true, Option.toList_some, Option.toList_none, List.cons_append, List.nil_append, List.length_nil, List.length_cons, Nat.reduceAdd, Nat.reduceLeDiff, Nat.zero_le, cb_0, cb_1, cb_01, cb_i, cb_j, eq_self, cb_le, cb_nn, ↓reduceIte, en_ua, Nat.reduceEqDiff, false_and, and_false, and_self, cx_relO_r (g := g) (p := p) (n := i) (show ¬ (0 = 8 ∧ 4 = 7) by omega), hc, cb_lt (show i < 2 ^ 31 by omega) (show n < 2 ^ 31 by omega), hin, not_true_eq_false, cb_in16 hi16, cb_c16 hi16, hi16, cx_relO_r (g := g) (p := p) (n := i) (show ¬ (8 = 8 ∧ 2 = 7) by omega), ↓cv_end hi16, nI_1]
    have e1 := ih (i + 1) (by omega)
    rw [← cx_relO_s] at e1
    by_cases h1 : g 8 i 2 = nI p
    · rw [if_pos h1] at e1 ⊢; exact e1
    · rw [if_neg h1] at e1 ⊢; exact e1
def cx_rel (f : en_F) (p n : Nat) : en_F := cx_relO (cx_leave f p 0) p n
set_option maxRecDepth 100000 in
set_option maxHeartbeats 800000 in
theorem cv_rel (hp : p < 6) (hn : n ≤ 16) (hc : f.1 0 0 4 = nI n) : en_Ev (d + 2) 59 [.inr (0, 0), .inl (nI p)] f Q = Q none (cx_rel f.1 p n, f.2) := by
  simp only [e59, r59_0, r59_1, r59_4, r59_5, r59_6, r59_7, r59_10, r59_11, r59_13, r59_14, r59_17, r59_20, r59_21, r59_24, r59_25, r59_26, r59_29, r59_30, r59_33, r59_34, r59_37, r59_38, r59_39, r59_40, r59_43, r59_46, r59_49, true_and, and_true, Option.toList_some, Option.toList_none, List.cons_append, List.nil_append, List.length_nil, List.length_cons, Nat.reduceAdd, Nat.reduceLeDiff, Nat.zero_le, cb_0, cb_1, cb_01, cb_i, cb_j, eq_self, cb_le, cb_nn, ↓reduceIte, en_ua, Nat.reduceEqDiff, false_and, and_false, and_self, cb_in6 hp, cb_c6 hp, hp, ↓cv_leave hp]
  have := cv_relL (d := d) (Q := Q) (g := cx_leave f.1 p 0) (f2 := f.2) hp hn (show cx_leave f.1 p 0 0 0 4 = nI n by rw [← hc]; rfl) n 0 (by omega)
  rw [cx_relO_0] at this
  exact this
end Cx4
end
section
/-! THE CLASS AS PURE FUNCTIONS, 5: detaching, hearing, who is meant -/
section Cx5
variable {d p k n m q i : Nat} {f : en_T} {Q : en_Q} {v w a b x : Int32}
theorem cs_l6 (h : i ≤ 6) : (nI i < 6) = (i < 6) := cb_lt (b := 6) (by omega) (by omega)
theorem cs_l2 (h : i ≤ 2) : (nI i < 2) = (i < 2) := cb_lt (b := 2) (by omega) (by omega)
theorem cx_rel_k {f : en_F} {p n k i j : Nat} (h : k ≠ 8) (h2 : k ≠ 3) : cx_rel f p n k i j = f k i j := by
  unfold cx_rel
  rw [cx_relO_r (fun q => h q.1)]
  simp [cx_leave, en_up, h2]
def cx_det (f : en_F) (p n : Nat) : en_F := if (f 3 p 3 = 3 ∧ f 3 p 9 = 3) ∧ p < 2 then cx_rel (cx_rel (cx_rel f p n) (2 * p + 2) n) (2 * p + 3) n else cx_rel f p n
theorem cx_det_k {f : en_F} {p n k i j : Nat} (h : k ≠ 8) (h2 : k ≠ 3) : cx_det f p n k i j = f k i j := by
  unfold cx_det
  split
  · rw [cx_rel_k h h2, cx_rel_k h h2, cx_rel_k h h2]
  · rw [cx_rel_k h h2]
set_option maxRecDepth 100000 in
set_option maxHeartbeats 800000 in
theorem cv_det (hp : p < 6) (hn : n ≤ 16) (hc : f.1 0 0 4 = nI n) : en_Ev (d + 3) 58 [.inr (0, 0), .inl (nI p)] f Q = Q none (cx_det f.1 p n, f.2) := by
  have hc1 : (cx_rel f.1 p n) 0 0 4 = nI n := by rw [cx_rel_k (by omega) (by omega)]; exact hc
  have hc2 : (cx_rel (cx_rel f.1 p n) (2 * p + 2) n) 0 0 4 = nI n := by rw [cx_rel_k (by omega) (by omega)]; exact hc1
  by_cases h2 : p < 2
  · have hq : 2 * p + 2 < 6 := by omega
    have hq1 : 2 * p + 2 + 1 < 6 := by omega
    simp only [e58, r58_0, r58_1, r58_4, r58_5, r58_6, r58_7, r58_10, r58_11, r58_12, r58_13, r58_16, r58_17, r58_20, r58_21, r58_22, r58_25, r58_26, r58_27, r58_30, r58_33, r58_34, r58_35, r58_38, r58_39, r58_40, r58_43, true_and, and_true, Option.toList_some, Option.toList_none, List.cons_append, List.nil_append, List.length_nil, List.length_cons, Nat.reduceAdd, Nat.reduceLeDiff, Nat.zero_le, cb_0, cb_1, cb_01, cb_i, cb_j, eq_self, cb_le, cb_nn, ↓reduceIte, en_ua, Nat.reduceEqDiff, false_and, and_false, and_self, Int32.reduceLT, Int32.reduceAdd, Int32.reduceSub, Int32.reduceMul, Int32.reduceDiv, not_true_eq_false, not_false_eq_true, false_implies, true_implies, implies_true, cl_0, cl_1, cl_2, cl_3, cl_4, cl_5, cl_6, cl_7, cl_8, cl_9, cl_10, cl_11, cl_12, cl_13, cl_14, cl_15, cl_16, ci_6_0, ci_6_1, ci_6_2, ci_6_3, ci_6_4, ci_6_5, ci_8_0, ci_8_1, ci_8_2, ci_8_3, ci_8_4, ci_8_5, ci_8_6, ci_8_7, ci_16_0, ci_16_1, ci_16_2, ci_16_3, ci_16_4, ci_16_5, ci_16_6, ci_16_7, ci_16_8, ci_16_9, ci_16_10, ci_16_11, ci_16_12, ci_16_13, ci_16_14, ci_16_15, ci_4_0, ci_4_1, ci_4_2, ci_4_3, ci_40_0, ci_40_1, ci_40_2, ci_40_3, ci_40_4, ci_40_5, ci_40_6, ci_40_7, ci_40_8, ci_40_9, ci_40_10, ci_40_11, ci_40_12, ci_40_13, ci_40_14, ci_40_15, cq_m1_0, cq_m1_1, cq_m1_2, cq_m1_3, cq_m1_4, cq_m1_5, cq_m1_6, cq_m1_7, cq_m1_8, cq_0_m1, cq_0_1, cq_0_2, cq_0_3, cq_0_4, cq_0_5, cq_0_6, cq_0_7, cq_0_8, cq_1_m1, cq_1_0, cq_1_2, cq_1_3, cq_1_4, cq_1_5, cq_1_6, cq_1_7, cq_1_8, cq_2_m1, cq_2_0, cq_2_1, cq_2_3, cq_2_4, cq_2_5, cq_2_6, cq_2_7, cq_2_8, cq_3_m1, cq_3_0, cq_3_1, cq_3_2, cq_3_4, cq_3_5, cq_3_6, cq_3_7, cq_3_8, cq_4_m1, cq_4_0, cq_4_1, cq_4_2, cq_4_3, cq_4_5, cq_4_6, cq_4_7, cq_4_8, cq_5_m1, cq_5_0, cq_5_1, cq_5_2, cq_5_3, cq_5_4, cq_5_6, cq_5_7, cq_5_8, cq_6_m1, cq_6_0, cq_6_1, cq_6_2, cq_6_3, cq_6_4, cq_6_5, cq_6_7, cq_6_8, cq_7_m1, cq_7_0, cq_7_1, cq_7_2, cq_7_3, cq_7_4, cq_7_5, cq_7_6, cq_7_8, cq_8_m1, cq_8_0, cq_8_1, cq_8_2, cq_8_3, cq_8_4, cq_8_5, cq_8_6, cq_8_7, cb_in6 hp, cb_c6 hp, hp, ↓cv_isReadyAs hp, ↓cv_rel (f := f) hp hn hc, ↓cv_firstBehind, ↓cv_rel (p := 2 * p + 2) (f := (cx_rel f.1 p n, f.2)) hq hn hc1, ↓cv_rel (p := 2 * p + 2 + 1) (f := (cx_rel (cx_rel f.1 p n) (2 * p + 2) n, f.2)) hq1 hn hc2, cs_lt2 hp, h2, cs_fb, nI_1, cb_e0]
    unfold cx_det
    by_cases h3 : f.1 3 p 3 = 3 ∧ f.1 3 p 9 = 3
    · simp [h3, h2]
    · simp [h3]
  · simp only [e58, r58_0, r58_1, r58_4, r58_5, r58_6, r58_7, r58_10, r58_11, r58_12, r58_13, r58_16, r58_17, r58_20, r58_21, r58_22, r58_25, r58_26, r58_27, r58_30, r58_33, r58_34, r58_35, r58_38, r58_39, r58_40, r58_43, true_and, and_true, Option.toList_some, Option.toList_none, List.cons_append, List.nil_append, List.length_nil, List.length_cons, Nat.reduceAdd, Nat.reduceLeDiff, Nat.zero_le, cb_0, cb_1, cb_01, cb_i, cb_j, eq_self, cb_le, cb_nn, ↓reduceIte, en_ua, Nat.reduceEqDiff, false_and, and_false, and_self, Int32.reduceLT, Int32.reduceAdd, Int32.reduceSub, Int32.reduceMul, Int32.reduceDiv, not_true_eq_false, not_false_eq_true, false_implies, true_implies, implies_true, cl_0, cl_1, cl_2, cl_3, cl_4, cl_5, cl_6, cl_7, cl_8, cl_9, cl_10, cl_11, cl_12, cl_13, cl_14, cl_15, cl_16, ci_6_0, ci_6_1, ci_6_2, ci_6_3, ci_6_4, ci_6_5, ci_8_0, ci_8_1, ci_8_2, ci_8_3, ci_8_4, ci_8_5, ci_8_6, ci_8_7, ci_16_0, ci_16_1, ci_16_2, ci_16_3, ci_16_4, ci_16_5, ci_16_6, ci_16_7, ci_16_8, ci_16_9, ci_16_10, ci_16_11, ci_16_12, ci_16_13, ci_16_14, ci_16_15, ci_4_0, ci_4_1, ci_4_2, ci_4_3, ci_40_0, ci_40_1, ci_40_2, ci_40_3, ci_40_4, ci_40_5, ci_40_6, ci_40_7, ci_40_8, ci_40_9, ci_40_10, ci_40_11, ci_40_12, ci_40_13, ci_40_14, ci_40_15, cq_m1_0, cq_m1_1, cq_m1_2, cq_m1_3, cq_m1_4, cq_m1_5, cq_m1_6, cq_m1_7, cq_m1_8, cq_0_m1, cq_0_1, cq_0_2, cq_0_3, cq_0_4, cq_0_5, cq_0_6, cq_0_7, cq_0_8, cq_1_m1, cq_1_0, cq_1_2, cq_1_3, cq_1_4, cq_1_5, cq_1_6, cq_1_7, cq_1_8, cq_2_m1, cq_2_0, cq_2_1, cq_2_3, cq_2_4, cq_2_5, cq_2_6, cq_2_7, cq_2_8, cq_3_m1, cq_3_0, cq_3_1, cq_3_2, cq_3_4, cq_3_5, cq_3_6, cq_3_7, cq_3_8, cq_4_m1, cq_4_0, cq_4_1, cq_4_2, cq_4_3, cq_4_5, cq_4_6, cq_4_7, cq_4_8, cq_5_m1, cq_5_0, cq_5_1, cq_5_2, cq_5_3, cq_5_4, cq_5_6, cq_5_7, cq_5_8, cq_6_m1, cq_6_0, cq_6_1, cq_6_2, cq_6_3, cq_6_4, cq_6_5, cq_6_7, cq_6_8, cq_7_m1, cq_7_0, cq_7_1, cq_7_2, cq_7_3, cq_7_4, cq_7_5, cq_7_6, cq_7_8, cq_8_m1, cq_8_0, cq_8_1, cq_8_2, cq_8_3, cq_8_4, cq_8_5, cq_8_6, cq_8_7, cb_in6 hp, cb_c6 hp, hp, ↓cv_isReadyAs hp, ↓cv_rel (f := f) hp hn hc, cs_lt2 hp, h2, cb_e0]
    unfold cx_det
    simp [h2]
def cx_hear (f : en_F) (p : Nat) (v : Int32) (n : Nat) : en_F := if v &&& 1 = 0 then f else if v &&& 2 = 0 then cx_det f p n else en_up (cx_det f p n) 3 p 3 1
theorem cx_hear_k {f : en_F} {p n k i j : Nat} {v : Int32} (h : k ≠ 8) (h2 : k ≠ 3) : cx_hear f p v n k i j = f k i j := by
  unfold cx_hear
  split
  · rfl
  · split
    · rw [cx_det_k h h2]
    · unfold en_up; rw [if_neg (fun q => h2 q.1), cx_det_k h h2]
set_option maxRecDepth 100000 in
set_option maxHeartbeats 800000 in
theorem cv_hear (hp : p < 6) (hn : n ≤ 16) (hc : f.1 0 0 4 = nI n) : en_Ev (d + 4) 57 [.inr (0, 0), .inl (nI p), .inl v] f Q = Q none (cx_hear f.1 p v n, f.2) := by
  simp only [e57, r57_0, r57_1, r57_2, r57_3, r57_6, r57_7, r57_8, r57_9, r57_12, r57_13, r57_14, r57_15, r57_18, r57_19, r57_22, r57_23, r57_24, r57_25, r57_28, true_and, and_true, Option.toList_some, Option.toList_none, List.cons_append, List.nil_append, List.length_nil, List.length_cons, Nat.reduceAdd, Nat.reduceLeDiff, Nat.zero_le, cb_0, cb_1, cb_01, cb_i, cb_j, eq_self, cb_le, cb_nn, ↓reduceIte, en_ua, Nat.reduceEqDiff, false_and, and_false, and_self, Int32.reduceLT, Int32.reduceAdd, Int32.reduceSub, Int32.reduceMul, Int32.reduceDiv, not_true_eq_false, not_false_eq_true, false_implies, true_implies, implies_true, cl_0, cl_1, cl_2, cl_3, cl_4, cl_5, cl_6, cl_7, cl_8, cl_9, cl_10, cl_11, cl_12, cl_13, cl_14, cl_15, cl_16, ci_6_0, ci_6_1, ci_6_2, ci_6_3, ci_6_4, ci_6_5, ci_8_0, ci_8_1, ci_8_2, ci_8_3, ci_8_4, ci_8_5, ci_8_6, ci_8_7, ci_16_0, ci_16_1, ci_16_2, ci_16_3, ci_16_4, ci_16_5, ci_16_6, ci_16_7, ci_16_8, ci_16_9, ci_16_10, ci_16_11, ci_16_12, ci_16_13, ci_16_14, ci_16_15, ci_4_0, ci_4_1, ci_4_2, ci_4_3, ci_40_0, ci_40_1, ci_40_2, ci_40_3, ci_40_4, ci_40_5, ci_40_6, ci_40_7, ci_40_8, ci_40_9, ci_40_10, ci_40_11, ci_40_12, ci_40_13, ci_40_14, ci_40_15, cq_m1_0, cq_m1_1, cq_m1_2, cq_m1_3, cq_m1_4, cq_m1_5, cq_m1_6, cq_m1_7, cq_m1_8, cq_0_m1, cq_0_1, cq_0_2, cq_0_3, cq_0_4, cq_0_5, cq_0_6, cq_0_7, cq_0_8, cq_1_m1, cq_1_0, cq_1_2, cq_1_3, cq_1_4, cq_1_5, cq_1_6, cq_1_7, cq_1_8, cq_2_m1, cq_2_0, cq_2_1, cq_2_3, cq_2_4, cq_2_5, cq_2_6, cq_2_7, cq_2_8, cq_3_m1, cq_3_0, cq_3_1, cq_3_2, cq_3_4, cq_3_5, cq_3_6, cq_3_7, cq_3_8, cq_4_m1, cq_4_0, cq_4_1, cq_4_2, cq_4_3, cq_4_5, cq_4_6, cq_4_7, cq_4_8, cq_5_m1, cq_5_0, cq_5_1, cq_5_2, cq_5_3, cq_5_4, cq_5_6, cq_5_7, cq_5_8, cq_6_m1, cq_6_0, cq_6_1, cq_6_2, cq_6_3, cq_6_4, cq_6_5, cq_6_7, cq_6_8, cq_7_m1, cq_7_0, cq_7_1, cq_7_2, cq_7_3, cq_7_4, cq_7_5, cq_7_6, cq_7_8, cq_8_m1, cq_8_0, cq_8_1, cq_8_2, cq_8_3, cq_8_4, cq_8_5, cq_8_6, cq_8_7, cb_in6 hp, cb_c6 hp, hp, ↓cv_det (f := f) hp hn hc]
  unfold cx_hear
  by_cases h1 : v &&& 1 = 0
  · simp [h1]
  · by_cases h2 : v &&& 2 = 0 <;> simp [h1, h2]
def cx_detF (f : en_F) (p n : Nat) : en_F := en_up (cx_det f p n) 3 p 3 4
set_option maxRecDepth 100000 in
set_option maxHeartbeats 800000 in
theorem cv_detF (hp : p < 6) (hn : n ≤ 16) (hc : f.1 0 0 4 = nI n) : en_Ev (d + 4) 60 [.inr (0, 0), .inl (nI p)] f Q = Q none (cx_detF f.1 p n, f.2) := by
  simp only [e60, r60_0, r60_1, r60_2, r60_5, r60_6, r60_9, r60_10, r60_11, r60_12, r60_15, true_and, and_true, Option.toList_some, Option.toList_none, List.cons_append, List.nil_append, List.length_nil, List.length_cons, Nat.reduceAdd, Nat.reduceLeDiff, Nat.zero_le, cb_0, cb_1, cb_01, cb_i, cb_j, eq_self, cb_le, cb_nn, ↓reduceIte, en_ua, Nat.reduceEqDiff, false_and, and_false, and_self, Int32.reduceLT, Int32.reduceAdd, Int32.reduceSub, Int32.reduceMul, Int32.reduceDiv, not_true_eq_false, not_false_eq_true, false_implies, true_implies, implies_true, cl_0, cl_1, cl_2, cl_3, cl_4, cl_5, cl_6, cl_7, cl_8, cl_9, cl_10, cl_11, cl_12, cl_13, cl_14, cl_15, cl_16, ci_6_0, ci_6_1, ci_6_2, ci_6_3, ci_6_4, ci_6_5, ci_8_0, ci_8_1, ci_8_2, ci_8_3, ci_8_4, ci_8_5, ci_8_6, ci_8_7, ci_16_0, ci_16_1, ci_16_2, ci_16_3, ci_16_4, ci_16_5, ci_16_6, ci_16_7, ci_16_8, ci_16_9, ci_16_10, ci_16_11, ci_16_12, ci_16_13, ci_16_14, ci_16_15, ci_4_0, ci_4_1, ci_4_2, ci_4_3, ci_40_0, ci_40_1, ci_40_2, ci_40_3, ci_40_4, ci_40_5, ci_40_6, ci_40_7, ci_40_8, ci_40_9, ci_40_10, ci_40_11, ci_40_12, ci_40_13, ci_40_14, ci_40_15, cq_m1_0, cq_m1_1, cq_m1_2, cq_m1_3, cq_m1_4, cq_m1_5, cq_m1_6, cq_m1_7, cq_m1_8, cq_0_m1, cq_0_1, cq_0_2, cq_0_3, cq_0_4, cq_0_5, cq_0_6, cq_0_7, cq_0_8, cq_1_m1, cq_1_0, cq_1_2, cq_1_3, cq_1_4, cq_1_5, cq_1_6, cq_1_7, cq_1_8, cq_2_m1, cq_2_0, cq_2_1, cq_2_3, cq_2_4, cq_2_5, cq_2_6, cq_2_7, cq_2_8, cq_3_m1, cq_3_0, cq_3_1, cq_3_2, cq_3_4, cq_3_5, cq_3_6, cq_3_7, cq_3_8, cq_4_m1, cq_4_0, cq_4_1, cq_4_2, cq_4_3, cq_4_5, cq_4_6, cq_4_7, cq_4_8, cq_5_m1, cq_5_0, cq_5_1, cq_5_2, cq_5_3, cq_5_4, cq_5_6, cq_5_7, cq_5_8, cq_6_m1, cq_6_0, cq_6_1, cq_6_2, cq_6_3, cq_6_4, cq_6_5, cq_6_7, cq_6_8, cq_7_m1, cq_7_0, cq_7_1, cq_7_2, cq_7_3, cq_7_4, cq_7_5, cq_7_6, cq_7_8, cq_8_m1, cq_8_0, cq_8_1, cq_8_2, cq_8_3, cq_8_4, cq_8_5, cq_8_6, cq_8_7, cb_in6 hp, cb_c6 hp, hp, ↓cv_det (f := f) hp hn hc]
  rfl
theorem cx_tell_k {f : en_F} {p k i j : Nat} (h2 : k ≠ 3) : (cx_tell f p).2 k i j = f k i j := by
  unfold cx_tell
  split
  · rfl
  · show en_up f 3 p 2 0 k i j = _
    unfold en_up; rw [if_neg (fun q => h2 q.1)]
def cx_own1 (f : en_F) (p n : Nat) : en_F := cx_hear (cx_tell f p).2 p (cx_tell f p).1 n
theorem cx_own1_k {f : en_F} {p n k i j : Nat} (h : k ≠ 8) (h2 : k ≠ 3) : cx_own1 f p n k i j = f k i j := by
  unfold cx_own1
  rw [cx_hear_k h h2, cx_tell_k h2]
def cx_own (f : en_F) (n : Nat) : en_F := cx_own1 (cx_own1 f 0 n) 1 n
set_option maxRecDepth 100000 in
set_option maxHeartbeats 800000 in
theorem cv_own (hn : n ≤ 16) (hc : f.1 0 0 4 = nI n) : en_Ev (d + 5) 55 [.inr (0, 0)] f Q = Q none (cx_own f.1 n, f.2) := by
  have step : ∀ (p : Nat) (f : en_T), p < 2 → f.1 0 0 4 = nI n → en_R en_s0 55 (d + 4) Q 2 [some (.inr (0, 0)), some (.inl (nI p))] [] f = en_R en_s0 55 (d + 4) Q 2 [some (.inr (0, 0)), some (.inl (nI (p + 1)))] [] (cx_own1 f.1 p n, f.2) := by
    intro p f h2 hc
    have hp : p < 6 := by omega
    have hc1 : (cx_tell f.1 p).2 0 0 4 = nI n := by rw [cx_tell_k (by omega)]; exact hc
    rw [r55_2]
    simp only [r55_0, r55_1, r55_3, r55_4, r55_7, r55_8, r55_9, r55_10, r55_11, r55_14, r55_17, r55_20, r55_23, true_and, and_true, Option.toList_some, Option.toList_none, List.cons_append, List.nil_append, List.length_nil, List.length_cons, Nat.reduceAdd, Nat.reduceLeDiff, Nat.zero_le, cb_0, cb_1, cb_01, cb_i, cb_j, eq_self, cb_le, cb_nn, ↓reduceIte, en_ua, Nat.reduceEqDiff, false_and, and_false, and_self, Int32.reduceLT, Int32.reduceAdd, Int32.reduceSub, Int32.reduceMul, Int32.reduceDiv, not_true_eq_false, not_false_eq_true, false_implies, true_implies, implies_true, cl_0, cl_1, cl_2, cl_3, cl_4, cl_5, cl_6, cl_7, cl_8, cl_9, cl_10, cl_11, cl_12, cl_13, cl_14, cl_15, cl_16, ci_6_0, ci_6_1, ci_6_2, ci_6_3, ci_6_4, ci_6_5, ci_8_0, ci_8_1, ci_8_2, ci_8_3, ci_8_4, ci_8_5, ci_8_6, ci_8_7, ci_16_0, ci_16_1, ci_16_2, ci_16_3, ci_16_4, ci_16_5, ci_16_6, ci_16_7, ci_16_8, ci_16_9, ci_16_10, ci_16_11, ci_16_12, ci_16_13, ci_16_14, ci_16_15, ci_4_0, ci_4_1, ci_4_2, ci_4_3, ci_40_0, ci_40_1, ci_40_2, ci_40_3, ci_40_4, ci_40_5, ci_40_6, ci_40_7, ci_40_8, ci_40_9, ci_40_10, ci_40_11, ci_40_12, ci_40_13, ci_40_14, ci_40_15, cq_m1_0, cq_m1_1, cq_m1_2, cq_m1_3, cq_m1_4, cq_m1_5, cq_m1_6, cq_m1_7, cq_m1_8, cq_0_m1, cq_0_1, cq_0_2, cq_0_3, cq_0_4, cq_0_5, cq_0_6, cq_0_7, cq_0_8, cq_1_m1, cq_1_0, cq_1_2, cq_1_3, cq_1_4, cq_1_5, cq_1_6, cq_1_7, cq_1_8, cq_2_m1, cq_2_0, cq_2_1, cq_2_3, cq_2_4, cq_2_5, cq_2_6, cq_2_7, cq_2_8, cq_3_m1, cq_3_0, cq_3_1, cq_3_2, cq_3_4, cq_3_5, cq_3_6, cq_3_7, cq_3_8, cq_4_m1, cq_4_0, cq_4_1, cq_4_2, cq_4_3, cq_4_5, cq_4_6, cq_4_7, cq_4_8, cq_5_m1, cq_5_0, cq_5_1, cq_5_2, cq_5_3, cq_5_4, cq_5_6, cq_5_7, cq_5_8, cq_6_m1, cq_6_0, cq_6_1, cq_6_2, cq_6_3, cq_6_4, cq_6_5, cq_6_7, cq_6_8, cq_7_m1, cq_7_0, cq_7_1, cq_7_2, cq_7_3, cq_7_4, cq_7_5, cq_7_6, cq_7_8, cq_8_m1, cq_8_0, cq_8_1, cq_8_2, cq_8_3, cq_8_4, cq_8_5, cq_8_6, cq_8_7, hp, cs_lt2 hp, h2, ↓cv_tell hp, ↓cv_hear (f := ((cx_tell f.1 p).2, f.2)) hp hn hc1, nI_1]
    rfl
  have e0 : en_Ev (d + 5) 55 [.inr (0, 0)] f Q = en_R en_s0 55 (d + 4) Q 2 [some (.inr (0, 0)), some (.inl (nI 0))] [] f := by
    simp only [e55, r55_0, r55_1, r55_3, r55_4, r55_7, r55_8, r55_9, r55_10, r55_11, r55_14, r55_17, r55_20, r55_23, true_and, and_true, Option.toList_some, Option.toList_none, List.cons_append, List.nil_append, List.length_nil, List.length_cons, Nat.reduceAdd, Nat.reduceLeDiff, Nat.zero_le, cb_0, cb_1, cb_01, cb_i, cb_j, eq_self, cb_le, cb_nn, ↓reduceIte, en_ua, Nat.reduceEqDiff, false_and, and_false, and_self]; rfl
  rw [e0, step 0 f (by omega) hc, step 1 _ (by omega) (by show (cx_own1 f.1 0 n) 0 0 4 = nI n; rw [cx_own1_k (by omega) (by omega)]; exact hc)]
  rw [r55_2]
  simp only [r55_0, r55_1, r55_3, r55_4, r55_7, r55_8, r55_9, r55_10, r55_11, r55_14, r55_17, r55_20, r55_23, true_and, and_true, Option.toList_some, Option.toList_none, List.cons_append, List.nil_append, List.length_nil, List.length_cons, Nat.reduceAdd, Nat.reduceLeDiff, Nat.zero_le, cb_0, cb_1, cb_01, cb_i, cb_j, eq_self, cb_le, cb_nn, ↓reduceIte, en_ua, Nat.reduceEqDiff, false_and, and_false, and_self, Int32.reduceLT, Int32.reduceAdd, Int32.reduceSub, Int32.reduceMul, Int32.reduceDiv, not_true_eq_false, not_false_eq_true, false_implies, true_implies, implies_true, cl_0, cl_1, cl_2, cl_3, cl_4, cl_5, cl_6, cl_7, cl_8, cl_9, cl_10, cl_11, cl_12, cl_13, cl_14, cl_15, cl_16, ci_6_0, ci_6_1, ci_6_2, ci_6_3, ci_6_4, ci_6_5, ci_8_0, ci_8_1, ci_8_2, ci_8_3, ci_8_4, ci_8_5, ci_8_6, ci_8_7, ci_16_0, ci_16_1, ci_16_2, ci_16_3, ci_16_4, ci_16_5, ci_16_6, ci_16_7, ci_16_8, ci_16_9, ci_16_10, ci_16_11, ci_16_12, ci_16_13, ci_16_14, ci_16_15, ci_4_0, ci_4_1, ci_4_2, ci_4_3, ci_40_0, ci_40_1, ci_40_2, ci_40_3, ci_40_4, ci_40_5, ci_40_6, ci_40_7, ci_40_8, ci_40_9, ci_40_10, ci_40_11, ci_40_12, ci_40_13, ci_40_14, ci_40_15, cq_m1_0, cq_m1_1, cq_m1_2, cq_m1_3, cq_m1_4, cq_m1_5, cq_m1_6, cq_m1_7, cq_m1_8, cq_0_m1, cq_0_1, cq_0_2, cq_0_3, cq_0_4, cq_0_5, cq_0_6, cq_0_7, cq_0_8, cq_1_m1, cq_1_0, cq_1_2, cq_1_3, cq_1_4, cq_1_5, cq_1_6, cq_1_7, cq_1_8, cq_2_m1, cq_2_0, cq_2_1, cq_2_3, cq_2_4, cq_2_5, cq_2_6, cq_2_7, cq_2_8, cq_3_m1, cq_3_0, cq_3_1, cq_3_2, cq_3_4, cq_3_5, cq_3_6, cq_3_7, cq_3_8, cq_4_m1, cq_4_0, cq_4_1, cq_4_2, cq_4_3, cq_4_5, cq_4_6, cq_4_7, cq_4_8, cq_5_m1, cq_5_0, cq_5_1, cq_5_2, cq_5_3, cq_5_4, cq_5_6, cq_5_7, cq_5_8, cq_6_m1, cq_6_0, cq_6_1, cq_6_2, cq_6_3, cq_6_4, cq_6_5, cq_6_7, cq_6_8, cq_7_m1, cq_7_0, cq_7_1, cq_7_2, cq_7_3, cq_7_4, cq_7_5, cq_7_6, cq_7_8, cq_8_m1, cq_8_0, cq_8_1, cq_8_2, cq_8_3, cq_8_4, cq_8_5, cq_8_6, cq_8_7, cs_l2 (i := 1 + 1) (by omega), Nat.reduceAdd, Nat.lt_irrefl]
  rfl
/-- the sum of the costs of READY keyboards and hubs -/
def cx_rc (f : en_F) : Nat → Nat → Int32 → Int32
  | 0, _, s => s
  | m + 1, i, s => cx_rc f m (i + 1) (if f 3 i 3 = 3 ∧ (f 3 i 9 = 2 ∨ f 3 i 9 = 3) then s + f 3 i 12 else s)
set_option maxRecDepth 100000 in
set_option maxHeartbeats 800000 in
theorem cv_rcL : ∀ m i s, i + m = 6 → en_R en_s0 61 (d + 1) Q 4 [some (.inr (0, 0)), some (.inl s), some (.inl (nI i))] [] f = Q (some (.inl (cx_rc f.1 m i s))) f := by
  intro m
  induction m with
  | zero =>
    intro i s hi
    have e : i = 6 := by omega
    subst e
    simp only [r61_0, r61_1, r61_2, r61_3, r61_4, r61_5, r61_7, r61_10, r61_11, r61_14, r61_15, r61_16, r61_17, r61_20, r61_23, r61_24, r61_27, r61_28, r61_29, r61_30, r61_33, r61_36, r61_37, r61_38, r61_41, r61_42, r61_43, r61_46, r61_47, r61_48, r61_51, r61_54, r61_55, true_and, and_true, Option.toList_some, Option.toList_none, List.cons_append, List.nil_append, List.length_nil, List.length_cons, Nat.reduceAdd, Nat.reduceLeDiff, Nat.zero_le, cb_0, cb_1, cb_01, cb_i, cb_j, eq_self, cb_le, cb_nn, ↓reduceIte, en_ua, Nat.reduceEqDiff, false_and, and_false, and_self, cs_l6 (i := 6) (by omega), Nat.lt_irrefl, not_false_eq_true, cx_rc]
  | succ m ih =>
    intro i s hi
    have hp : i < 6 := by omega
    rw [r61_4]
    simp only [r61_0, r61_1, r61_2, r61_3, r61_5, r61_7, r61_10, r61_11, r61_14, r61_15, r61_16, r61_17, r61_20, r61_23, r61_24, r61_27, r61_28, r61_29, r61_30, r61_33, r61_36, r61_37, r61_38, r61_41, r61_42, r61_43, r61_46, r61_47, r61_48, r61_51, r61_54, r61_55, true_and, and_true, Option.toList_some, Option.toList_none, List.cons_append, List.nil_append, List.length_nil, List.length_cons, Nat.reduceAdd, Nat.reduceLeDiff, Nat.zero_le, cb_0, cb_1, cb_01, cb_i, cb_j, eq_self, cb_le, cb_nn, ↓reduceIte, en_ua, Nat.reduceEqDiff, false_and, and_false, and_self, Int32.reduceLT, Int32.reduceAdd, Int32.reduceSub, Int32.reduceMul, Int32.reduceDiv, not_true_eq_false, not_false_eq_true, false_implies, true_implies, implies_true, cl_0, cl_1, cl_2, cl_3, cl_4, cl_5, cl_6, cl_7, cl_8, cl_9, cl_10, cl_11, cl_12, cl_13, cl_14, cl_15, cl_16, ci_6_0, ci_6_1, ci_6_2, ci_6_3, ci_6_4, ci_6_5, ci_8_0, ci_8_1, ci_8_2, ci_8_3, ci_8_4, ci_8_5, ci_8_6, ci_8_7, ci_16_0, ci_16_1, ci_16_2, ci_16_3, ci_16_4, ci_16_5, ci_16_6, ci_16_7, ci_16_8, ci_16_9, ci_16_10, ci_16_11, ci_16_12, ci_16_13, ci_16_14, ci_16_15, ci_4_0, ci_4_1, ci_4_2, ci_4_3, ci_40_0, ci_40_1, ci_40_2, ci_40_3, ci_40_4, ci_40_5, ci_40_6, ci_40_7, ci_40_8, ci_40_9, ci_40_10, ci_40_11, ci_40_12, ci_40_13, ci_40_14, ci_40_15, cq_m1_0, cq_m1_1, cq_m1_2, cq_m1_3, cq_m1_4, cq_m1_5, cq_m1_6, cq_m1_7, cq_m1_8, cq_0_m1, cq_0_1, cq_0_2, cq_0_3, cq_0_4, cq_0_5, cq_0_6, cq_0_7, cq_0_8, cq_1_m1, cq_1_0, cq_1_2, cq_1_3, cq_1_4, cq_1_5, cq_1_6, cq_1_7, cq_1_8, cq_2_m1, cq_2_0, cq_2_1, cq_2_3, cq_2_4, cq_2_5, cq_2_6, cq_2_7, cq_2_8, cq_3_m1, cq_3_0, cq_3_1, cq_3_2, cq_3_4, cq_3_5, cq_3_6, cq_3_7, cq_3_8, cq_4_m1, cq_4_0, cq_4_1, cq_4_2, cq_4_3, cq_4_5, cq_4_6, cq_4_7, cq_4_8, cq_5_m1, cq_5_0, cq_5_1, cq_5_2, cq_5_3, cq_5_4, cq_5_6, cq_5_7, cq_5_8, cq_6_m1, cq_6_0, cq_6_1, cq_6_2, cq_6_3, cq_6_4, cq_6_5, cq_6_7, cq_6_8, cq_7_m1, cq_7_0, cq_7_1, cq_7_2, cq_7_3, cq_7_4, cq_7_5, cq_7_6, cq_7_8, cq_8_m1, cq_8_0, cq_8_1, cq_8_2, cq_8_3, cq_8_4, cq_8_5, cq_8_6, cq_8_7, cs_l6 (show i ≤ 6 by omega), hp, cb_in6 hp, cb_c6 hp, ↓cv_isReadyAs hp, nI_1, ih (i + 1) _ (by omega), cb_e0, cx_rc]
    by_cases h : f.1 3 i 3 = 3
    · by_cases h2 : f.1 3 i 9 = 2
      · simp [h, h2]
      · by_cases h3 : f.1 3 i 9 = 3 <;> simp [h, h2, h3]
    · simp [h]
set_option maxRecDepth 100000 in
set_option maxHeartbeats 800000 in
theorem cv_rc : en_Ev (d + 2) 61 [.inr (0, 0)] f Q = Q (some (.inl (cx_rc f.1 6 0 0))) f := by
  have e0 : en_Ev (d + 2) 61 [.inr (0, 0)] f Q = en_R en_s0 61 (d + 1) Q 4 [some (.inr (0, 0)), some (.inl 0), some (.inl (nI 0))] [] f := by
    simp only [e61, r61_0, r61_1, r61_2, r61_3, r61_5, r61_7, r61_10, r61_11, r61_14, r61_15, r61_16, r61_17, r61_20, r61_23, r61_24, r61_27, r61_28, r61_29, r61_30, r61_33, r61_36, r61_37, r61_38, r61_41, r61_42, r61_43, r61_46, r61_47, r61_48, r61_51, r61_54, r61_55, true_and, and_true, Option.toList_some, Option.toList_none, List.cons_append, List.nil_append, List.length_nil, List.length_cons, Nat.reduceAdd, Nat.reduceLeDiff, Nat.zero_le, cb_0, cb_1, cb_01, cb_i, cb_j, eq_self, cb_le, cb_nn, ↓reduceIte, en_ua, Nat.reduceEqDiff, false_and, and_false, and_self]; rfl
  rw [e0, cv_rcL 6 0 0 rfl]
def cx_hears (f : en_F) (p : Nat) : Bool := decide (¬ f 4 p 3 = 0 ∧ ¬ f 3 p 1 = 0 ∧ (p < 2 ∨ ¬ f 3 (p / 2 - 1) 1 = 0))
set_option maxRecDepth 100000 in
set_option maxHeartbeats 800000 in
theorem cv_hears (hp : p < 6) : en_Ev (d + 2) 63 [.inr (0, 0), .inl (nI p)] f Q = Q (some (.inl (if cx_hears f.1 p = true then 1 else 0))) f := by
  unfold cx_hears
  by_cases h2 : p < 2
  · simp only [e63, r63_0, r63_1, r63_4, r63_5, r63_6, r63_9, r63_12, r63_13, r63_16, r63_17, r63_18, r63_21, r63_24, r63_25, r63_26, r63_29, r63_30, r63_33, r63_34, r63_37, r63_38, r63_41, r63_44, r63_45, r63_48, r63_49, true_and, and_true, Option.toList_some, Option.toList_none, List.cons_append, List.nil_append, List.length_nil, List.length_cons, Nat.reduceAdd, Nat.reduceLeDiff, Nat.zero_le, cb_0, cb_1, cb_01, cb_i, cb_j, eq_self, cb_le, cb_nn, ↓reduceIte, en_ua, Nat.reduceEqDiff, false_and, and_false, and_self, Int32.reduceLT, Int32.reduceAdd, Int32.reduceSub, Int32.reduceMul, Int32.reduceDiv, not_true_eq_false, not_false_eq_true, false_implies, true_implies, implies_true, cl_0, cl_1, cl_2, cl_3, cl_4, cl_5, cl_6, cl_7, cl_8, cl_9, cl_10, cl_11, cl_12, cl_13, cl_14, cl_15, cl_16, ci_6_0, ci_6_1, ci_6_2, ci_6_3, ci_6_4, ci_6_5, ci_8_0, ci_8_1, ci_8_2, ci_8_3, ci_8_4, ci_8_5, ci_8_6, ci_8_7, ci_16_0, ci_16_1, ci_16_2, ci_16_3, ci_16_4, ci_16_5, ci_16_6, ci_16_7, ci_16_8, ci_16_9, ci_16_10, ci_16_11, ci_16_12, ci_16_13, ci_16_14, ci_16_15, ci_4_0, ci_4_1, ci_4_2, ci_4_3, ci_40_0, ci_40_1, ci_40_2, ci_40_3, ci_40_4, ci_40_5, ci_40_6, ci_40_7, ci_40_8, ci_40_9, ci_40_10, ci_40_11, ci_40_12, ci_40_13, ci_40_14, ci_40_15, cq_m1_0, cq_m1_1, cq_m1_2, cq_m1_3, cq_m1_4, cq_m1_5, cq_m1_6, cq_m1_7, cq_m1_8, cq_0_m1, cq_0_1, cq_0_2, cq_0_3, cq_0_4, cq_0_5, cq_0_6, cq_0_7, cq_0_8, cq_1_m1, cq_1_0, cq_1_2, cq_1_3, cq_1_4, cq_1_5, cq_1_6, cq_1_7, cq_1_8, cq_2_m1, cq_2_0, cq_2_1, cq_2_3, cq_2_4, cq_2_5, cq_2_6, cq_2_7, cq_2_8, cq_3_m1, cq_3_0, cq_3_1, cq_3_2, cq_3_4, cq_3_5, cq_3_6, cq_3_7, cq_3_8, cq_4_m1, cq_4_0, cq_4_1, cq_4_2, cq_4_3, cq_4_5, cq_4_6, cq_4_7, cq_4_8, cq_5_m1, cq_5_0, cq_5_1, cq_5_2, cq_5_3, cq_5_4, cq_5_6, cq_5_7, cq_5_8, cq_6_m1, cq_6_0, cq_6_1, cq_6_2, cq_6_3, cq_6_4, cq_6_5, cq_6_7, cq_6_8, cq_7_m1, cq_7_0, cq_7_1, cq_7_2, cq_7_3, cq_7_4, cq_7_5, cq_7_6, cq_7_8, cq_8_m1, cq_8_0, cq_8_1, cq_8_2, cq_8_3, cq_8_4, cq_8_5, cq_8_6, cq_8_7, ↓cv_isFull hp, ↓cv_hubPortOf, cs_lt2 hp, h2, cb_in6 hp, cb_c6 hp, hp, cb_e1]
    by_cases h3 : f.1 4 p 3 = 0 <;> by_cases h4 : f.1 3 p 1 = 0 <;> simp [h3, h4, h2]
  · have hq : p / 2 - 1 < 6 := by omega
    simp only [e63, r63_0, r63_1, r63_4, r63_5, r63_6, r63_9, r63_12, r63_13, r63_16, r63_17, r63_18, r63_21, r63_24, r63_25, r63_26, r63_29, r63_30, r63_33, r63_34, r63_37, r63_38, r63_41, r63_44, r63_45, r63_48, r63_49, true_and, and_true, Option.toList_some, Option.toList_none, List.cons_append, List.nil_append, List.length_nil, List.length_cons, Nat.reduceAdd, Nat.reduceLeDiff, Nat.zero_le, cb_0, cb_1, cb_01, cb_i, cb_j, eq_self, cb_le, cb_nn, ↓reduceIte, en_ua, Nat.reduceEqDiff, false_and, and_false, and_self, Int32.reduceLT, Int32.reduceAdd, Int32.reduceSub, Int32.reduceMul, Int32.reduceDiv, not_true_eq_false, not_false_eq_true, false_implies, true_implies, implies_true, cl_0, cl_1, cl_2, cl_3, cl_4, cl_5, cl_6, cl_7, cl_8, cl_9, cl_10, cl_11, cl_12, cl_13, cl_14, cl_15, cl_16, ci_6_0, ci_6_1, ci_6_2, ci_6_3, ci_6_4, ci_6_5, ci_8_0, ci_8_1, ci_8_2, ci_8_3, ci_8_4, ci_8_5, ci_8_6, ci_8_7, ci_16_0, ci_16_1, ci_16_2, ci_16_3, ci_16_4, ci_16_5, ci_16_6, ci_16_7, ci_16_8, ci_16_9, ci_16_10, ci_16_11, ci_16_12, ci_16_13, ci_16_14, ci_16_15, ci_4_0, ci_4_1, ci_4_2, ci_4_3, ci_40_0, ci_40_1, ci_40_2, ci_40_3, ci_40_4, ci_40_5, ci_40_6, ci_40_7, ci_40_8, ci_40_9, ci_40_10, ci_40_11, ci_40_12, ci_40_13, ci_40_14, ci_40_15, cq_m1_0, cq_m1_1, cq_m1_2, cq_m1_3, cq_m1_4, cq_m1_5, cq_m1_6, cq_m1_7, cq_m1_8, cq_0_m1, cq_0_1, cq_0_2, cq_0_3, cq_0_4, cq_0_5, cq_0_6, cq_0_7, cq_0_8, cq_1_m1, cq_1_0, cq_1_2, cq_1_3, cq_1_4, cq_1_5, cq_1_6, cq_1_7, cq_1_8, cq_2_m1, cq_2_0, cq_2_1, cq_2_3, cq_2_4, cq_2_5, cq_2_6, cq_2_7, cq_2_8, cq_3_m1, cq_3_0, cq_3_1, cq_3_2, cq_3_4, cq_3_5, cq_3_6, cq_3_7, cq_3_8, cq_4_m1, cq_4_0, cq_4_1, cq_4_2, cq_4_3, cq_4_5, cq_4_6, cq_4_7, cq_4_8, cq_5_m1, cq_5_0, cq_5_1, cq_5_2, cq_5_3, cq_5_4, cq_5_6, cq_5_7, cq_5_8, cq_6_m1, cq_6_0, cq_6_1, cq_6_2, cq_6_3, cq_6_4, cq_6_5, cq_6_7, cq_6_8, cq_7_m1, cq_7_0, cq_7_1, cq_7_2, cq_7_3, cq_7_4, cq_7_5, cq_7_6, cq_7_8, cq_8_m1, cq_8_0, cq_8_1, cq_8_2, cq_8_3, cq_8_4, cq_8_5, cq_8_6, cq_8_7, ↓cv_isFull hp, ↓cv_hubPortOf, cs_lt2 hp, h2, cs_hub h2 hp, cb_in6 hq, cb_c6 hq, hq, cb_in6 hp, cb_c6 hp, hp, cb_e1]
    by_cases h3 : f.1 4 p 3 = 0 <;> by_cases h4 : f.1 3 p 1 = 0 <;> by_cases h5 : f.1 3 (p / 2 - 1) 1 = 0 <;> simp [h3, h4, h5, h2]
/-- the first place from i on with c, of m places, or -1 -/
def cx_fst (c : Nat → Bool) : Nat → Nat → Int32
  | 0, _ => -1
  | m + 1, i => if c i = true then nI i else cx_fst c m (i + 1)
def cx_lis (f : en_F) (v : Int32) (p : Nat) : Bool := cx_hears f p && decide (v = f 4 p 6 ∨ v = f 4 p 7)
set_option maxRecDepth 100000 in
set_option maxHeartbeats 800000 in
theorem cv_meantL : ∀ m i, i + m = 6 → en_R en_s0 62 (d + 2) Q 8 [some (.inr (0, 0)), some (.inl v), some (.inl w), some (.inl (nI i))] [] f = Q (some (.inl (cx_fst (cx_lis f.1 v) m i))) f := by
  intro m
  induction m with
  | zero =>
    intro i hi
    have e : i = 6 := by omega
    subst e
    simp only [r62_0, r62_1, r62_4, r62_5, r62_6, r62_7, r62_8, r62_9, r62_11, r62_14, r62_15, r62_16, r62_19, r62_22, r62_23, r62_26, r62_27, r62_28, r62_31, r62_32, r62_35, r62_38, r62_39, r62_40, r62_43, r62_46, r62_47, true_and, and_true, Option.toList_some, Option.toList_none, List.cons_append, List.nil_append, List.length_nil, List.length_cons, Nat.reduceAdd, Nat.reduceLeDiff, Nat.zero_le, cb_0, cb_1, cb_01, cb_i, cb_j, eq_self, cb_le, cb_nn, ↓reduceIte, en_ua, Nat.reduceEqDiff, false_and, and_false, and_self, cs_l6 (i := 6) (by omega), Nat.lt_irrefl, not_false_eq_true, cx_fst]
  | succ m ih =>
    intro i hi
    have hp : i < 6 := by omega
    rw [r62_8]
    simp only [r62_0, r62_1, r62_4, r62_5, r62_6, r62_7, r62_9, r62_11, r62_14, r62_15, r62_16, r62_19, r62_22, r62_23, r62_26, r62_27, r62_28, r62_31, r62_32, r62_35, r62_38, r62_39, r62_40, r62_43, r62_46, r62_47, true_and, and_true, Option.toList_some, Option.toList_none, List.cons_append, List.nil_append, List.length_nil, List.length_cons, Nat.reduceAdd, Nat.reduceLeDiff, Nat.zero_le, cb_0, cb_1, cb_01, cb_i, cb_j, eq_self, cb_le, cb_nn, ↓reduceIte, en_ua, Nat.reduceEqDiff, false_and, and_false, and_self, Int32.reduceLT, Int32.reduceAdd, Int32.reduceSub, Int32.reduceMul, Int32.reduceDiv, not_true_eq_false, not_false_eq_true, false_implies, true_implies, implies_true, cl_0, cl_1, cl_2, cl_3, cl_4, cl_5, cl_6, cl_7, cl_8, cl_9, cl_10, cl_11, cl_12, cl_13, cl_14, cl_15, cl_16, ci_6_0, ci_6_1, ci_6_2, ci_6_3, ci_6_4, ci_6_5, ci_8_0, ci_8_1, ci_8_2, ci_8_3, ci_8_4, ci_8_5, ci_8_6, ci_8_7, ci_16_0, ci_16_1, ci_16_2, ci_16_3, ci_16_4, ci_16_5, ci_16_6, ci_16_7, ci_16_8, ci_16_9, ci_16_10, ci_16_11, ci_16_12, ci_16_13, ci_16_14, ci_16_15, ci_4_0, ci_4_1, ci_4_2, ci_4_3, ci_40_0, ci_40_1, ci_40_2, ci_40_3, ci_40_4, ci_40_5, ci_40_6, ci_40_7, ci_40_8, ci_40_9, ci_40_10, ci_40_11, ci_40_12, ci_40_13, ci_40_14, ci_40_15, cq_m1_0, cq_m1_1, cq_m1_2, cq_m1_3, cq_m1_4, cq_m1_5, cq_m1_6, cq_m1_7, cq_m1_8, cq_0_m1, cq_0_1, cq_0_2, cq_0_3, cq_0_4, cq_0_5, cq_0_6, cq_0_7, cq_0_8, cq_1_m1, cq_1_0, cq_1_2, cq_1_3, cq_1_4, cq_1_5, cq_1_6, cq_1_7, cq_1_8, cq_2_m1, cq_2_0, cq_2_1, cq_2_3, cq_2_4, cq_2_5, cq_2_6, cq_2_7, cq_2_8, cq_3_m1, cq_3_0, cq_3_1, cq_3_2, cq_3_4, cq_3_5, cq_3_6, cq_3_7, cq_3_8, cq_4_m1, cq_4_0, cq_4_1, cq_4_2, cq_4_3, cq_4_5, cq_4_6, cq_4_7, cq_4_8, cq_5_m1, cq_5_0, cq_5_1, cq_5_2, cq_5_3, cq_5_4, cq_5_6, cq_5_7, cq_5_8, cq_6_m1, cq_6_0, cq_6_1, cq_6_2, cq_6_3, cq_6_4, cq_6_5, cq_6_7, cq_6_8, cq_7_m1, cq_7_0, cq_7_1, cq_7_2, cq_7_3, cq_7_4, cq_7_5, cq_7_6, cq_7_8, cq_8_m1, cq_8_0, cq_8_1, cq_8_2, cq_8_3, cq_8_4, cq_8_5, cq_8_6, cq_8_7, cs_l6 (show i ≤ 6 by omega), hp, cb_in6 hp, cb_c6 hp, ↓cv_hears hp, ↓cv_listensTo hp, nI_1, ih (i + 1) (by omega), cb_e0, cx_fst, cx_lis]
    by_cases h : cx_hears f.1 i = true
    · by_cases h2 : v = f.1 4 i 6 ∨ v = f.1 4 i 7 <;> simp [h, h2]
    · simp [h]
def cx_meant (f : en_F) (v w : Int32) : Int32 := if w = 0 then -1 else cx_fst (cx_lis f v) 6 0
set_option maxRecDepth 100000 in
set_option maxHeartbeats 800000 in
theorem cv_meant : en_Ev (d + 3) 62 [.inr (0, 0), .inl v, .inl w] f Q = Q (some (.inl (cx_meant f.1 v w))) f := by
  have e0 : en_Ev (d + 3) 62 [.inr (0, 0), .inl v, .inl w] f Q = if w = 0 then Q (some (.inl (-1))) f else en_R en_s0 62 (d + 2) Q 8 [some (.inr (0, 0)), some (.inl v), some (.inl w), some (.inl (nI 0))] [] f := by
    simp only [e62, r62_0, r62_1, r62_4, r62_5, r62_6, r62_7, r62_9, r62_11, r62_14, r62_15, r62_16, r62_19, r62_22, r62_23, r62_26, r62_27, r62_28, r62_31, r62_32, r62_35, r62_38, r62_39, r62_40, r62_43, r62_46, r62_47, true_and, and_true, Option.toList_some, Option.toList_none, List.cons_append, List.nil_append, List.length_nil, List.length_cons, Nat.reduceAdd, Nat.reduceLeDiff, Nat.zero_le, cb_0, cb_1, cb_01, cb_i, cb_j, eq_self, cb_le, cb_nn, ↓reduceIte, en_ua, Nat.reduceEqDiff, false_and, and_false, and_self]; rfl
  rw [e0, cv_meantL 6 0 rfl]
  unfold cx_meant
  by_cases h : w = 0 <;> simp [h]
def cx_tkn (f : en_F) (v : Int32) (p : Nat) : Bool := decide (f 3 p 4 = v)
/-- isTaken -/
def cx_any (c : Nat → Bool) : Nat → Nat → Bool
  | 0, _ => false
  | m + 1, i => c i || cx_any c m (i + 1)
set_option maxRecDepth 100000 in
set_option maxHeartbeats 800000 in
theorem cv_takenL : ∀ m i, i + m = 6 → en_R en_s0 76 d Q 2 [some (.inr (0, 0)), some (.inl v), some (.inl (nI i))] [] f = Q (some (.inl (if cx_any (cx_tkn f.1 v) m i = true then 1 else 0))) f := by
  intro m
  induction m with
  | zero =>
    intro i hi
    have e : i = 6 := by omega
    subst e
    simp only [r76_0, r76_1, r76_2, r76_3, r76_5, r76_8, r76_9, r76_12, r76_13, r76_14, r76_17, r76_18, r76_21, r76_22, r76_23, r76_26, r76_29, r76_30, true_and, and_true, Option.toList_some, Option.toList_none, List.cons_append, List.nil_append, List.length_nil, List.length_cons, Nat.reduceAdd, Nat.reduceLeDiff, Nat.zero_le, cb_0, cb_1, cb_01, cb_i, cb_j, eq_self, cb_le, cb_nn, ↓reduceIte, en_ua, Nat.reduceEqDiff, false_and, and_false, and_self, cs_l6 (i := 6) (by omega), Nat.lt_irrefl, not_false_eq_true, cx_any]
    simp
  | succ m ih =>
    intro i hi
    have hp : i < 6 := by omega
    rw [r76_2]
    simp only [r76_0, r76_1, r76_3, r76_5, r76_8, r76_9, r76_12, r76_13, r76_14, r76_17, r76_18, r76_21, r76_22, r76_23, r76_26, r76_29, r76_30, true_and, and_true, Option.toList_some, Option.toList_none, List.cons_append, List.nil_append, List.length_nil, List.length_cons, Nat.reduceAdd, Nat.reduceLeDiff, Nat.zero_le, cb_0, cb_1, cb_01, cb_i, cb_j, eq_self, cb_le, cb_nn, ↓reduceIte, en_ua, Nat.reduceEqDiff, false_and, and_false, and_self, Int32.reduceLT, Int32.reduceAdd, Int32.reduceSub, Int32.reduceMul, Int32.reduceDiv, not_true_eq_false, not_false_eq_true, false_implies, true_implies, implies_true, cl_0, cl_1, cl_2, cl_3, cl_4, cl_5, cl_6, cl_7, cl_8, cl_9, cl_10, cl_11, cl_12, cl_13, cl_14, cl_15, cl_16, ci_6_0, ci_6_1, ci_6_2, ci_6_3, ci_6_4, ci_6_5, ci_8_0, ci_8_1, ci_8_2, ci_8_3, ci_8_4, ci_8_5, ci_8_6, ci_8_7, ci_16_0, ci_16_1, ci_16_2, ci_16_3, ci_16_4, ci_16_5, ci_16_6, ci_16_7, ci_16_8, ci_16_9, ci_16_10, ci_16_11, ci_16_12, ci_16_13, ci_16_14, ci_16_15, ci_4_0, ci_4_1, ci_4_2, ci_4_3, ci_40_0, ci_40_1, ci_40_2, ci_40_3, ci_40_4, ci_40_5, ci_40_6, ci_40_7, ci_40_8, ci_40_9, ci_40_10, ci_40_11, ci_40_12, ci_40_13, ci_40_14, ci_40_15, cq_m1_0, cq_m1_1, cq_m1_2, cq_m1_3, cq_m1_4, cq_m1_5, cq_m1_6, cq_m1_7, cq_m1_8, cq_0_m1, cq_0_1, cq_0_2, cq_0_3, cq_0_4, cq_0_5, cq_0_6, cq_0_7, cq_0_8, cq_1_m1, cq_1_0, cq_1_2, cq_1_3, cq_1_4, cq_1_5, cq_1_6, cq_1_7, cq_1_8, cq_2_m1, cq_2_0, cq_2_1, cq_2_3, cq_2_4, cq_2_5, cq_2_6, cq_2_7, cq_2_8, cq_3_m1, cq_3_0, cq_3_1, cq_3_2, cq_3_4, cq_3_5, cq_3_6, cq_3_7, cq_3_8, cq_4_m1, cq_4_0, cq_4_1, cq_4_2, cq_4_3, cq_4_5, cq_4_6, cq_4_7, cq_4_8, cq_5_m1, cq_5_0, cq_5_1, cq_5_2, cq_5_3, cq_5_4, cq_5_6, cq_5_7, cq_5_8, cq_6_m1, cq_6_0, cq_6_1, cq_6_2, cq_6_3, cq_6_4, cq_6_5, cq_6_7, cq_6_8, cq_7_m1, cq_7_0, cq_7_1, cq_7_2, cq_7_3, cq_7_4, cq_7_5, cq_7_6, cq_7_8, cq_8_m1, cq_8_0, cq_8_1, cq_8_2, cq_8_3, cq_8_4, cq_8_5, cq_8_6, cq_8_7, cs_l6 (show i ≤ 6 by omega), hp, cb_in6 hp, cb_c6 hp, nI_1, ih (i + 1) (by omega), cx_any, cx_tkn]
    by_cases h : f.1 3 i 4 = v <;> simp [h]
set_option maxRecDepth 100000 in
set_option maxHeartbeats 800000 in
theorem cv_taken : en_Ev (d + 1) 76 [.inr (0, 0), .inl v] f Q = Q (some (.inl (if cx_any (cx_tkn f.1 v) 6 0 = true then 1 else 0))) f := by
  have e0 : en_Ev (d + 1) 76 [.inr (0, 0), .inl v] f Q = en_R en_s0 76 d Q 2 [some (.inr (0, 0)), some (.inl v), some (.inl (nI 0))] [] f := by
    simp only [e76, r76_0, r76_1, r76_3, r76_5, r76_8, r76_9, r76_12, r76_13, r76_14, r76_17, r76_18, r76_21, r76_22, r76_23, r76_26, r76_29, r76_30, true_and, and_true, Option.toList_some, Option.toList_none, List.cons_append, List.nil_append, List.length_nil, List.length_cons, Nat.reduceAdd, Nat.reduceLeDiff, Nat.zero_le, cb_0, cb_1, cb_01, cb_i, cb_j, eq_self, cb_le, cb_nn, ↓reduceIte, en_ua, Nat.reduceEqDiff, false_and, and_false, and_self]; rfl
  rw [e0, cv_takenL 6 0 rfl]
def cx_ohp (f : en_F) (v : Int32) (k : Nat) : Bool := decide (f 8 k 2 = v ∧ f 8 k 7 = 0)
set_option maxRecDepth 100000 in
set_option maxHeartbeats 800000 in
theorem cv_inHandL (hn : n ≤ 16) (hc : f.1 0 0 4 = nI n) : ∀ m i, i + m = n → en_R en_s0 85 d Q 2 [some (.inr (0, 0)), some (.inl v), some (.inl (nI i))] [] f = Q (some (.inl (cx_fst (cx_ohp f.1 v) m i))) f := by
  intro m
  induction m with
  | zero =>
    intro i hi
    have e : i = n := by omega
    subst e
    simp only [r85_0, r85_1, r85_2, r85_3, r85_4, r85_7, r85_10, r85_11, r85_14, r85_15, r85_16, r85_19, r85_20, r85_23, r85_24, r85_27, r85_28, r85_29, r85_32, r85_35, r85_36, r85_37, r85_40, r85_43, r85_44, true_and, and_true, Option.toList_some, Option.toList_none, List.cons_append, List.nil_append, List.length_nil, List.length_cons, Nat.reduceAdd, Nat.reduceLeDiff, Nat.zero_le, cb_0, cb_1, cb_01, cb_i, cb_j, eq_self, cb_le, cb_nn, ↓reduceIte, en_ua, Nat.reduceEqDiff, false_and, and_false, and_self, hc, cb_lt (show i < 2 ^ 31 by omega) (show i < 2 ^ 31 by omega), Nat.lt_irrefl, not_false_eq_true, cx_fst]
  | succ m ih =>
    intro i hi
    have hin : i < n := by omega
    have hi16 : i < 16 := by omega
    rw [r85_2]
    simp only [r85_0, r85_1, r85_3, r85_4, r85_7, r85_10, r85_11, r85_14, r85_15, r85_16, r85_19, r85_20, r85_23, r85_24, r85_27, r85_28, r85_29, r85_32, r85_35, r85_36, r85_37, r85_40, r85_43, r85_44, true_and, and_true, Option.toList_some, Option.toList_none, List.cons_append, List.nil_append, List.length_nil, List.length_cons, Nat.reduceAdd, Nat.reduceLeDiff, Nat.zero_le, cb_0, cb_1, cb_01, cb_i, cb_j, eq_self, cb_le, cb_nn, ↓reduceIte, en_ua, Nat.reduceEqDiff, false_and, and_false, and_self, Int32.reduceLT, Int32.reduceAdd, Int32.reduceSub, Int32.reduceMul, Int32.reduceDiv, not_true_eq_false, not_false_eq_true, false_implies, true_implies, implies_true, cl_0, cl_1, cl_2, cl_3, cl_4, cl_5, cl_6, cl_7, cl_8, cl_9, cl_10, cl_11, cl_12, cl_13, cl_14, cl_15, cl_16, ci_6_0, ci_6_1, ci_6_2, ci_6_3, ci_6_4, ci_6_5, ci_8_0, ci_8_1, ci_8_2, ci_8_3, ci_8_4, ci_8_5, ci_8_6, ci_8_7, ci_16_0, ci_16_1, ci_16_2, ci_16_3, ci_16_4, ci_16_5, ci_16_6, ci_16_7, ci_16_8, ci_16_9, ci_16_10, ci_16_11, ci_16_12, ci_16_13, ci_16_14, ci_16_15, ci_4_0, ci_4_1, ci_4_2, ci_4_3, ci_40_0, ci_40_1, ci_40_2, ci_40_3, ci_40_4, ci_40_5, ci_40_6, ci_40_7, ci_40_8, ci_40_9, ci_40_10, ci_40_11, ci_40_12, ci_40_13, ci_40_14, ci_40_15, cq_m1_0, cq_m1_1, cq_m1_2, cq_m1_3, cq_m1_4, cq_m1_5, cq_m1_6, cq_m1_7, cq_m1_8, cq_0_m1, cq_0_1, cq_0_2, cq_0_3, cq_0_4, cq_0_5, cq_0_6, cq_0_7, cq_0_8, cq_1_m1, cq_1_0, cq_1_2, cq_1_3, cq_1_4, cq_1_5, cq_1_6, cq_1_7, cq_1_8, cq_2_m1, cq_2_0, cq_2_1, cq_2_3, cq_2_4, cq_2_5, cq_2_6, cq_2_7, cq_2_8, cq_3_m1, cq_3_0, cq_3_1, cq_3_2, cq_3_4, cq_3_5, cq_3_6, cq_3_7, cq_3_8, cq_4_m1, cq_4_0, cq_4_1, cq_4_2, cq_4_3, cq_4_5, cq_4_6, cq_4_7, cq_4_8, cq_5_m1, cq_5_0, cq_5_1, cq_5_2, cq_5_3, cq_5_4, cq_5_6, cq_5_7, cq_5_8, cq_6_m1, cq_6_0, cq_6_1, cq_6_2, cq_6_3, cq_6_4, cq_6_5, cq_6_7, cq_6_8, cq_7_m1, cq_7_0, cq_7_1, cq_7_2, cq_7_3, cq_7_4, cq_7_5, cq_7_6, cq_7_8, cq_8_m1, cq_8_0, cq_8_1, cq_8_2, cq_8_3, cq_8_4, cq_8_5, cq_8_6, cq_8_7, hc, cb_lt (show i < 2 ^ 31 by omega) (show n < 2 ^ 31 by omega), hin, hi16, cb_in16 hi16, cb_c16 hi16, nI_1, ih (i + 1) (by omega), cx_fst, cx_ohp]
    by_cases h : f.1 8 i 2 = v <;> by_cases h2 : f.1 8 i 7 = 0 <;> simp [h, h2]
def cx_inHand (f : en_F) (v : Int32) (n : Nat) : Int32 := cx_fst (cx_ohp f v) n 0
set_option maxRecDepth 100000 in
set_option maxHeartbeats 800000 in
theorem cv_inHand (hn : n ≤ 16) (hc : f.1 0 0 4 = nI n) : en_Ev (d + 1) 85 [.inr (0, 0), .inl v] f Q = Q (some (.inl (cx_inHand f.1 v n))) f := by
  have e0 : en_Ev (d + 1) 85 [.inr (0, 0), .inl v] f Q = en_R en_s0 85 d Q 2 [some (.inr (0, 0)), some (.inl v), some (.inl (nI 0))] [] f := by
    simp only [e85, r85_0, r85_1, r85_3, r85_4, r85_7, r85_10, r85_11, r85_14, r85_15, r85_16, r85_19, r85_20, r85_23, r85_24, r85_27, r85_28, r85_29, r85_32, r85_35, r85_36, r85_37, r85_40, r85_43, r85_44, true_and, and_true, Option.toList_some, Option.toList_none, List.cons_append, List.nil_append, List.length_nil, List.length_cons, Nat.reduceAdd, Nat.reduceLeDiff, Nat.zero_le, cb_0, cb_1, cb_01, cb_i, cb_j, eq_self, cb_le, cb_nn, ↓reduceIte, en_ua, Nat.reduceEqDiff, false_and, and_false, and_self]; rfl
  rw [e0, cv_inHandL hn hc n 0 (by omega)]
  rfl
end Cx5
end
