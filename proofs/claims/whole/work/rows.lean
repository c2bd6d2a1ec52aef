section
-- ===== PART A: goes FIRST, ahead of the names: the tables' words, and 'selects' of the private methods out of them =====
/-- a private method of a class that the tables say can be made, by its rows of tables_1 -/
def lw_okq (q : MethodName × Nat) : Prop := (q.1.cls ≠ "java/lang/invoke/MethodHandle" ∧ q.1.cls ≠ "java/lang/invoke/VarHandle") ∧ Cond.instantiable q.1.cls q.2 ∈ tables_1 ∧ Cond.privateMethod q.1 ∈ tables_1 ∧ Cond.instanceMethod q.1 ∈ tables_1
theorem lw_p0 : lw_okq (⟨"PortLook", "finding", "(I)I"⟩, 19) := ⟨⟨by decide +kernel, by decide +kernel⟩, List.mem_of_getElem? (i := 17) (by decide +kernel), List.mem_of_getElem? (i := 189) (by decide +kernel), List.mem_of_getElem? (i := 190) (by decide +kernel)⟩
theorem lw_p1 : lw_okq (⟨"PortLook", "shipAt", "(I)LPortLook$Ship;"⟩, 19) := ⟨⟨by decide +kernel, by decide +kernel⟩, List.mem_of_getElem? (i := 17) (by decide +kernel), List.mem_of_getElem? (i := 271) (by decide +kernel), List.mem_of_getElem? (i := 272) (by decide +kernel)⟩
theorem lw_p2 : lw_okq (⟨"PortLook", "fleetBits", "(II)I"⟩, 19) := ⟨⟨by decide +kernel, by decide +kernel⟩, List.mem_of_getElem? (i := 17) (by decide +kernel), List.mem_of_getElem? (i := 317) (by decide +kernel), List.mem_of_getElem? (i := 318) (by decide +kernel)⟩
theorem lw_p3 : lw_okq (⟨"PortLook", "callAt", "(I)LPortLook$Call;"⟩, 19) := ⟨⟨by decide +kernel, by decide +kernel⟩, List.mem_of_getElem? (i := 17) (by decide +kernel), List.mem_of_getElem? (i := 373) (by decide +kernel), List.mem_of_getElem? (i := 374) (by decide +kernel)⟩
theorem lw_p4 : lw_okq (⟨"PortLook", "treatyInForce", "(I)LPortLook$Treaty;"⟩, 19) := ⟨⟨by decide +kernel, by decide +kernel⟩, List.mem_of_getElem? (i := 17) (by decide +kernel), List.mem_of_getElem? (i := 462) (by decide +kernel), List.mem_of_getElem? (i := 463) (by decide +kernel)⟩
theorem lw_p5 : lw_okq (⟨"PortLook", "banIfDue", "(LPortLook$Ship;)V"⟩, 19) := ⟨⟨by decide +kernel, by decide +kernel⟩, List.mem_of_getElem? (i := 17) (by decide +kernel), List.mem_of_getElem? (i := 504) (by decide +kernel), List.mem_of_getElem? (i := 505) (by decide +kernel)⟩
theorem lw_p6 : lw_okq (⟨"PortLook", "isFlagDark", "(LPortLook$Ship;)Z"⟩, 19) := ⟨⟨by decide +kernel, by decide +kernel⟩, List.mem_of_getElem? (i := 17) (by decide +kernel), List.mem_of_getElem? (i := 508) (by decide +kernel), List.mem_of_getElem? (i := 509) (by decide +kernel)⟩
theorem lw_p7 : lw_okq (⟨"PortLook", "isDarkGroup", "(II)Z"⟩, 19) := ⟨⟨by decide +kernel, by decide +kernel⟩, List.mem_of_getElem? (i := 17) (by decide +kernel), List.mem_of_getElem? (i := 512) (by decide +kernel), List.mem_of_getElem? (i := 513) (by decide +kernel)⟩
theorem lw_p8 : lw_okq (⟨"PortLook", "tallyUp", "(II)V"⟩, 19) := ⟨⟨by decide +kernel, by decide +kernel⟩, List.mem_of_getElem? (i := 17) (by decide +kernel), List.mem_of_getElem? (i := 516) (by decide +kernel), List.mem_of_getElem? (i := 517) (by decide +kernel)⟩
theorem lw_p9 : lw_okq (⟨"PortLook", "isInLast", "(II)Z"⟩, 19) := ⟨⟨by decide +kernel, by decide +kernel⟩, List.mem_of_getElem? (i := 17) (by decide +kernel), List.mem_of_getElem? (i := 524) (by decide +kernel), List.mem_of_getElem? (i := 525) (by decide +kernel)⟩
theorem lw_p10 : lw_okq (⟨"PortLook", "lookAt", "(I)LPortLook$Look;"⟩, 19) := ⟨⟨by decide +kernel, by decide +kernel⟩, List.mem_of_getElem? (i := 17) (by decide +kernel), List.mem_of_getElem? (i := 543) (by decide +kernel), List.mem_of_getElem? (i := 544) (by decide +kernel)⟩
theorem lw_p11 : lw_okq (⟨"PortLook", "riskOf", "(LPortLook$Ship;)I"⟩, 19) := ⟨⟨by decide +kernel, by decide +kernel⟩, List.mem_of_getElem? (i := 17) (by decide +kernel), List.mem_of_getElem? (i := 558) (by decide +kernel), List.mem_of_getElem? (i := 559) (by decide +kernel)⟩
theorem lw_p12 : lw_okq (⟨"PortLook", "holdsInFleet", "(LPortLook$Ship;)I"⟩, 19) := ⟨⟨by decide +kernel, by decide +kernel⟩, List.mem_of_getElem? (i := 17) (by decide +kernel), List.mem_of_getElem? (i := 562) (by decide +kernel), List.mem_of_getElem? (i := 563) (by decide +kernel)⟩
theorem lw_p13 : lw_okq (⟨"PortLook", "gatherBoarding", "(I)V"⟩, 19) := ⟨⟨by decide +kernel, by decide +kernel⟩, List.mem_of_getElem? (i := 17) (by decide +kernel), List.mem_of_getElem? (i := 576) (by decide +kernel), List.mem_of_getElem? (i := 577) (by decide +kernel)⟩
theorem lw_p14 : lw_okq (⟨"PortLook$Boarding", "attempt", "(IIIII)V"⟩, 7) := ⟨⟨by decide +kernel, by decide +kernel⟩, List.mem_of_getElem? (i := 87) (by decide +kernel), List.mem_of_getElem? (i := 592) (by decide +kernel), List.mem_of_getElem? (i := 593) (by decide +kernel)⟩
theorem lw_p15 : lw_okq (⟨"PortLook", "shipsInPorts", "()I"⟩, 19) := ⟨⟨by decide +kernel, by decide +kernel⟩, List.mem_of_getElem? (i := 17) (by decide +kernel), List.mem_of_getElem? (i := 679) (by decide +kernel), List.mem_of_getElem? (i := 680) (by decide +kernel)⟩
def lw_privs_1 : List (MethodName × Nat) := [(⟨"PortLook", "finding", "(I)I"⟩, 19), (⟨"PortLook", "shipAt", "(I)LPortLook$Ship;"⟩, 19), (⟨"PortLook", "fleetBits", "(II)I"⟩, 19), (⟨"PortLook", "callAt", "(I)LPortLook$Call;"⟩, 19), (⟨"PortLook", "treatyInForce", "(I)LPortLook$Treaty;"⟩, 19), (⟨"PortLook", "banIfDue", "(LPortLook$Ship;)V"⟩, 19), (⟨"PortLook", "isFlagDark", "(LPortLook$Ship;)Z"⟩, 19), (⟨"PortLook", "isDarkGroup", "(II)Z"⟩, 19), (⟨"PortLook", "tallyUp", "(II)V"⟩, 19), (⟨"PortLook", "isInLast", "(II)Z"⟩, 19), (⟨"PortLook", "lookAt", "(I)LPortLook$Look;"⟩, 19), (⟨"PortLook", "riskOf", "(LPortLook$Ship;)I"⟩, 19), (⟨"PortLook", "holdsInFleet", "(LPortLook$Ship;)I"⟩, 19), (⟨"PortLook", "gatherBoarding", "(I)V"⟩, 19), (⟨"PortLook$Boarding", "attempt", "(IIIII)V"⟩, 7), (⟨"PortLook", "shipsInPorts", "()I"⟩, 19)]
theorem lw_r1 : ∀ q ∈ lw_privs_1, lw_okq q := List.forall_mem_cons.mpr ⟨lw_p0, List.forall_mem_cons.mpr ⟨lw_p1, List.forall_mem_cons.mpr ⟨lw_p2, List.forall_mem_cons.mpr ⟨lw_p3, List.forall_mem_cons.mpr ⟨lw_p4, List.forall_mem_cons.mpr ⟨lw_p5, List.forall_mem_cons.mpr ⟨lw_p6, List.forall_mem_cons.mpr ⟨lw_p7, List.forall_mem_cons.mpr ⟨lw_p8, List.forall_mem_cons.mpr ⟨lw_p9, List.forall_mem_cons.mpr ⟨lw_p10, List.forall_mem_cons.mpr ⟨lw_p11, List.forall_mem_cons.mpr ⟨lw_p12, List.forall_mem_cons.mpr ⟨lw_p13, List.forall_mem_cons.mpr ⟨lw_p14, List.forall_mem_cons.mpr ⟨lw_p15, fun _ h => absurd h List.not_mem_nil⟩⟩⟩⟩⟩⟩⟩⟩⟩⟩⟩⟩⟩⟩⟩⟩
theorem lw_p16 : lw_okq (⟨"PortLook", "heldCalls", "()I"⟩, 19) := ⟨⟨by decide +kernel, by decide +kernel⟩, List.mem_of_getElem? (i := 17) (by decide +kernel), List.mem_of_getElem? (i := 683) (by decide +kernel), List.mem_of_getElem? (i := 684) (by decide +kernel)⟩
theorem lw_p17 : lw_okq (⟨"PortLook", "bannedShips", "()I"⟩, 19) := ⟨⟨by decide +kernel, by decide +kernel⟩, List.mem_of_getElem? (i := 17) (by decide +kernel), List.mem_of_getElem? (i := 687) (by decide +kernel), List.mem_of_getElem? (i := 688) (by decide +kernel)⟩
theorem lw_p18 : lw_okq (⟨"PortLookModel", "finding", "(I)I"⟩, 48) := ⟨⟨by decide +kernel, by decide +kernel⟩, List.mem_of_getElem? (i := 695) (by decide +kernel), List.mem_of_getElem? (i := 854) (by decide +kernel), List.mem_of_getElem? (i := 855) (by decide +kernel)⟩
theorem lw_p19 : lw_okq (⟨"PortLookModel", "isShip", "(I)Z"⟩, 48) := ⟨⟨by decide +kernel, by decide +kernel⟩, List.mem_of_getElem? (i := 695) (by decide +kernel), List.mem_of_getElem? (i := 863) (by decide +kernel), List.mem_of_getElem? (i := 864) (by decide +kernel)⟩
theorem lw_p20 : lw_okq (⟨"PortLookModel", "isUnder", "(II)Z"⟩, 48) := ⟨⟨by decide +kernel, by decide +kernel⟩, List.mem_of_getElem? (i := 695) (by decide +kernel), List.mem_of_getElem? (i := 867) (by decide +kernel), List.mem_of_getElem? (i := 868) (by decide +kernel)⟩
theorem lw_p21 : lw_okq (⟨"PortLookModel", "hoursOf", "(I)I"⟩, 48) := ⟨⟨by decide +kernel, by decide +kernel⟩, List.mem_of_getElem? (i := 695) (by decide +kernel), List.mem_of_getElem? (i := 871) (by decide +kernel), List.mem_of_getElem? (i := 872) (by decide +kernel)⟩
theorem lw_p22 : lw_okq (⟨"PortLookModel", "hadOn", "(III)I"⟩, 48) := ⟨⟨by decide +kernel, by decide +kernel⟩, List.mem_of_getElem? (i := 695) (by decide +kernel), List.mem_of_getElem? (i := 879) (by decide +kernel), List.mem_of_getElem? (i := 880) (by decide +kernel)⟩
theorem lw_p23 : lw_okq (⟨"PortLookModel", "fleetOf", "(II)I"⟩, 48) := ⟨⟨by decide +kernel, by decide +kernel⟩, List.mem_of_getElem? (i := 695) (by decide +kernel), List.mem_of_getElem? (i := 902) (by decide +kernel), List.mem_of_getElem? (i := 903) (by decide +kernel)⟩
theorem lw_p24 : lw_okq (⟨"PortLookModel", "onesOf", "(I)I"⟩, 48) := ⟨⟨by decide +kernel, by decide +kernel⟩, List.mem_of_getElem? (i := 695) (by decide +kernel), List.mem_of_getElem? (i := 906) (by decide +kernel), List.mem_of_getElem? (i := 907) (by decide +kernel)⟩
theorem lw_p25 : lw_okq (⟨"PortLookModel", "openCall", "(I)I"⟩, 48) := ⟨⟨by decide +kernel, by decide +kernel⟩, List.mem_of_getElem? (i := 695) (by decide +kernel), List.mem_of_getElem? (i := 918) (by decide +kernel), List.mem_of_getElem? (i := 919) (by decide +kernel)⟩
theorem lw_p26 : lw_okq (⟨"PortLookModel", "isCall", "(I)Z"⟩, 48) := ⟨⟨by decide +kernel, by decide +kernel⟩, List.mem_of_getElem? (i := 695) (by decide +kernel), List.mem_of_getElem? (i := 926) (by decide +kernel), List.mem_of_getElem? (i := 927) (by decide +kernel)⟩
theorem lw_p27 : lw_okq (⟨"PortLookModel", "looksAt", "(I)I"⟩, 48) := ⟨⟨by decide +kernel, by decide +kernel⟩, List.mem_of_getElem? (i := 695) (by decide +kernel), List.mem_of_getElem? (i := 934) (by decide +kernel), List.mem_of_getElem? (i := 935) (by decide +kernel)⟩
theorem lw_p28 : lw_okq (⟨"PortLookModel", "readAll", "()I"⟩, 48) := ⟨⟨by decide +kernel, by decide +kernel⟩, List.mem_of_getElem? (i := 695) (by decide +kernel), List.mem_of_getElem? (i := 946) (by decide +kernel), List.mem_of_getElem? (i := 947) (by decide +kernel)⟩
theorem lw_p29 : lw_okq (⟨"PortLookModel", "rowEnd", "(I)I"⟩, 48) := ⟨⟨by decide +kernel, by decide +kernel⟩, List.mem_of_getElem? (i := 695) (by decide +kernel), List.mem_of_getElem? (i := 950) (by decide +kernel), List.mem_of_getElem? (i := 951) (by decide +kernel)⟩
theorem lw_p30 : lw_okq (⟨"PortLookModel", "isByte", "(II)Z"⟩, 48) := ⟨⟨by decide +kernel, by decide +kernel⟩, List.mem_of_getElem? (i := 695) (by decide +kernel), List.mem_of_getElem? (i := 954) (by decide +kernel), List.mem_of_getElem? (i := 955) (by decide +kernel)⟩
theorem lw_p31 : lw_okq (⟨"PortLookModel", "isDigit", "(I)Z"⟩, 48) := ⟨⟨by decide +kernel, by decide +kernel⟩, List.mem_of_getElem? (i := 695) (by decide +kernel), List.mem_of_getElem? (i := 958) (by decide +kernel), List.mem_of_getElem? (i := 959) (by decide +kernel)⟩
def lw_privs_2 : List (MethodName × Nat) := [(⟨"PortLook", "heldCalls", "()I"⟩, 19), (⟨"PortLook", "bannedShips", "()I"⟩, 19), (⟨"PortLookModel", "finding", "(I)I"⟩, 48), (⟨"PortLookModel", "isShip", "(I)Z"⟩, 48), (⟨"PortLookModel", "isUnder", "(II)Z"⟩, 48), (⟨"PortLookModel", "hoursOf", "(I)I"⟩, 48), (⟨"PortLookModel", "hadOn", "(III)I"⟩, 48), (⟨"PortLookModel", "fleetOf", "(II)I"⟩, 48), (⟨"PortLookModel", "onesOf", "(I)I"⟩, 48), (⟨"PortLookModel", "openCall", "(I)I"⟩, 48), (⟨"PortLookModel", "isCall", "(I)Z"⟩, 48), (⟨"PortLookModel", "looksAt", "(I)I"⟩, 48), (⟨"PortLookModel", "readAll", "()I"⟩, 48), (⟨"PortLookModel", "rowEnd", "(I)I"⟩, 48), (⟨"PortLookModel", "isByte", "(II)Z"⟩, 48), (⟨"PortLookModel", "isDigit", "(I)Z"⟩, 48)]
theorem lw_r2 : ∀ q ∈ lw_privs_2, lw_okq q := List.forall_mem_cons.mpr ⟨lw_p16, List.forall_mem_cons.mpr ⟨lw_p17, List.forall_mem_cons.mpr ⟨lw_p18, List.forall_mem_cons.mpr ⟨lw_p19, List.forall_mem_cons.mpr ⟨lw_p20, List.forall_mem_cons.mpr ⟨lw_p21, List.forall_mem_cons.mpr ⟨lw_p22, List.forall_mem_cons.mpr ⟨lw_p23, List.forall_mem_cons.mpr ⟨lw_p24, List.forall_mem_cons.mpr ⟨lw_p25, List.forall_mem_cons.mpr ⟨lw_p26, List.forall_mem_cons.mpr ⟨lw_p27, List.forall_mem_cons.mpr ⟨lw_p28, List.forall_mem_cons.mpr ⟨lw_p29, List.forall_mem_cons.mpr ⟨lw_p30, List.forall_mem_cons.mpr ⟨lw_p31, fun _ h => absurd h List.not_mem_nil⟩⟩⟩⟩⟩⟩⟩⟩⟩⟩⟩⟩⟩⟩⟩⟩
theorem lw_p32 : lw_okq (⟨"PortLookModel", "kindAt", "(I)I"⟩, 48) := ⟨⟨by decide +kernel, by decide +kernel⟩, List.mem_of_getElem? (i := 695) (by decide +kernel), List.mem_of_getElem? (i := 962) (by decide +kernel), List.mem_of_getElem? (i := 963) (by decide +kernel)⟩
theorem lw_p33 : lw_okq (⟨"PortLookModel", "rowLeast", "(I)I"⟩, 48) := ⟨⟨by decide +kernel, by decide +kernel⟩, List.mem_of_getElem? (i := 695) (by decide +kernel), List.mem_of_getElem? (i := 966) (by decide +kernel), List.mem_of_getElem? (i := 967) (by decide +kernel)⟩
theorem lw_p34 : lw_okq (⟨"PortLookModel", "rowTells", "(II)V"⟩, 48) := ⟨⟨by decide +kernel, by decide +kernel⟩, List.mem_of_getElem? (i := 695) (by decide +kernel), List.mem_of_getElem? (i := 970) (by decide +kernel), List.mem_of_getElem? (i := 971) (by decide +kernel)⟩
theorem lw_p35 : lw_okq (⟨"PortLookModel", "forceOn", "(I)I"⟩, 48) := ⟨⟨by decide +kernel, by decide +kernel⟩, List.mem_of_getElem? (i := 695) (by decide +kernel), List.mem_of_getElem? (i := 978) (by decide +kernel), List.mem_of_getElem? (i := 979) (by decide +kernel)⟩
theorem lw_p36 : lw_okq (⟨"PortLookModel", "wouldHold", "(II)Z"⟩, 48) := ⟨⟨by decide +kernel, by decide +kernel⟩, List.mem_of_getElem? (i := 695) (by decide +kernel), List.mem_of_getElem? (i := 986) (by decide +kernel), List.mem_of_getElem? (i := 987) (by decide +kernel)⟩
theorem lw_p37 : lw_okq (⟨"PortLookModel", "ban", "(I)V"⟩, 48) := ⟨⟨by decide +kernel, by decide +kernel⟩, List.mem_of_getElem? (i := 695) (by decide +kernel), List.mem_of_getElem? (i := 990) (by decide +kernel), List.mem_of_getElem? (i := 991) (by decide +kernel)⟩
theorem lw_p38 : lw_okq (⟨"PortLookModel", "darkOf", "(II)I"⟩, 48) := ⟨⟨by decide +kernel, by decide +kernel⟩, List.mem_of_getElem? (i := 695) (by decide +kernel), List.mem_of_getElem? (i := 994) (by decide +kernel), List.mem_of_getElem? (i := 995) (by decide +kernel)⟩
theorem lw_p39 : lw_okq (⟨"PortLookModel", "counted", "(IIZ)I"⟩, 48) := ⟨⟨by decide +kernel, by decide +kernel⟩, List.mem_of_getElem? (i := 695) (by decide +kernel), List.mem_of_getElem? (i := 998) (by decide +kernel), List.mem_of_getElem? (i := 999) (by decide +kernel)⟩
theorem lw_p40 : lw_okq (⟨"PortLookModel", "shipOf", "(I)I"⟩, 48) := ⟨⟨by decide +kernel, by decide +kernel⟩, List.mem_of_getElem? (i := 695) (by decide +kernel), List.mem_of_getElem? (i := 1002) (by decide +kernel), List.mem_of_getElem? (i := 1003) (by decide +kernel)⟩
theorem lw_p41 : lw_okq (⟨"PortLookModel", "isLook", "(I)Z"⟩, 48) := ⟨⟨by decide +kernel, by decide +kernel⟩, List.mem_of_getElem? (i := 695) (by decide +kernel), List.mem_of_getElem? (i := 1011) (by decide +kernel), List.mem_of_getElem? (i := 1012) (by decide +kernel)⟩
theorem lw_p42 : lw_okq (⟨"PortLookModel", "riskOf", "(I)I"⟩, 48) := ⟨⟨by decide +kernel, by decide +kernel⟩, List.mem_of_getElem? (i := 695) (by decide +kernel), List.mem_of_getElem? (i := 1023) (by decide +kernel), List.mem_of_getElem? (i := 1024) (by decide +kernel)⟩
theorem lw_p43 : lw_okq (⟨"PortLookModel", "gather", "(I)V"⟩, 48) := ⟨⟨by decide +kernel, by decide +kernel⟩, List.mem_of_getElem? (i := 695) (by decide +kernel), List.mem_of_getElem? (i := 1031) (by decide +kernel), List.mem_of_getElem? (i := 1032) (by decide +kernel)⟩
theorem lw_p44 : lw_okq (⟨"PortLookModel", "tryFrom", "(IIII)V"⟩, 48) := ⟨⟨by decide +kernel, by decide +kernel⟩, List.mem_of_getElem? (i := 695) (by decide +kernel), List.mem_of_getElem? (i := 1035) (by decide +kernel), List.mem_of_getElem? (i := 1036) (by decide +kernel)⟩
theorem lw_p45 : lw_okq (⟨"PortLookModel", "restIn", "(III)I"⟩, 48) := ⟨⟨by decide +kernel, by decide +kernel⟩, List.mem_of_getElem? (i := 695) (by decide +kernel), List.mem_of_getElem? (i := 1044) (by decide +kernel), List.mem_of_getElem? (i := 1045) (by decide +kernel)⟩
theorem lw_p46 : lw_okq (⟨"PortLookModel", "isRest", "(II)Z"⟩, 48) := ⟨⟨by decide +kernel, by decide +kernel⟩, List.mem_of_getElem? (i := 695) (by decide +kernel), List.mem_of_getElem? (i := 1048) (by decide +kernel), List.mem_of_getElem? (i := 1049) (by decide +kernel)⟩
theorem lw_p47 : lw_okq (⟨"PortLookModel", "areDoubles", "(II)Z"⟩, 48) := ⟨⟨by decide +kernel, by decide +kernel⟩, List.mem_of_getElem? (i := 695) (by decide +kernel), List.mem_of_getElem? (i := 1072) (by decide +kernel), List.mem_of_getElem? (i := 1073) (by decide +kernel)⟩
def lw_privs_3 : List (MethodName × Nat) := [(⟨"PortLookModel", "kindAt", "(I)I"⟩, 48), (⟨"PortLookModel", "rowLeast", "(I)I"⟩, 48), (⟨"PortLookModel", "rowTells", "(II)V"⟩, 48), (⟨"PortLookModel", "forceOn", "(I)I"⟩, 48), (⟨"PortLookModel", "wouldHold", "(II)Z"⟩, 48), (⟨"PortLookModel", "ban", "(I)V"⟩, 48), (⟨"PortLookModel", "darkOf", "(II)I"⟩, 48), (⟨"PortLookModel", "counted", "(IIZ)I"⟩, 48), (⟨"PortLookModel", "shipOf", "(I)I"⟩, 48), (⟨"PortLookModel", "isLook", "(I)Z"⟩, 48), (⟨"PortLookModel", "riskOf", "(I)I"⟩, 48), (⟨"PortLookModel", "gather", "(I)V"⟩, 48), (⟨"PortLookModel", "tryFrom", "(IIII)V"⟩, 48), (⟨"PortLookModel", "restIn", "(III)I"⟩, 48), (⟨"PortLookModel", "isRest", "(II)Z"⟩, 48), (⟨"PortLookModel", "areDoubles", "(II)Z"⟩, 48)]
theorem lw_r3 : ∀ q ∈ lw_privs_3, lw_okq q := List.forall_mem_cons.mpr ⟨lw_p32, List.forall_mem_cons.mpr ⟨lw_p33, List.forall_mem_cons.mpr ⟨lw_p34, List.forall_mem_cons.mpr ⟨lw_p35, List.forall_mem_cons.mpr ⟨lw_p36, List.forall_mem_cons.mpr ⟨lw_p37, List.forall_mem_cons.mpr ⟨lw_p38, List.forall_mem_cons.mpr ⟨lw_p39, List.forall_mem_cons.mpr ⟨lw_p40, List.forall_mem_cons.mpr ⟨lw_p41, List.forall_mem_cons.mpr ⟨lw_p42, List.forall_mem_cons.mpr ⟨lw_p43, List.forall_mem_cons.mpr ⟨lw_p44, List.forall_mem_cons.mpr ⟨lw_p45, List.forall_mem_cons.mpr ⟨lw_p46, List.forall_mem_cons.mpr ⟨lw_p47, fun _ h => absurd h List.not_mem_nil⟩⟩⟩⟩⟩⟩⟩⟩⟩⟩⟩⟩⟩⟩⟩⟩
def lw_privs : List (MethodName × Nat) := lw_privs_1 ++ (lw_privs_2 ++ (lw_privs_3))
def lw_tbl : List Cond := k2_sels lw_privs ++ tables_1
theorem lw_privs_ok : ∀ q ∈ lw_privs, lw_okq q := by
  show ∀ q ∈ lw_privs_1 ++ (lw_privs_2 ++ (lw_privs_3)), lw_okq q
  exact List.forall_mem_append.mpr ⟨lw_r1, List.forall_mem_append.mpr ⟨lw_r2, lw_r3⟩⟩
end
section
def RX0 : String := "PortLook$Boarding"
def TX0 : u_T := fun k => match k with
  | 0 => ("PortLook$Boarding", "numbers", "[I", true)
  | 1 => ("PortLook$Boarding", "hours", "[I", true)
  | 2 => ("PortLook$Boarding", "risks", "[I", true)
  | 3 => ("PortLook$Boarding", "tried", "[I", true)
  | 4 => ("PortLook$Boarding", "best", "[I", true)
  | 5 => ("PortLook$Boarding", "size", "I", false)
  | _ => ("PortLook$Boarding", "bestRisk", "I", false)
def tyX0 : Nat → FieldType := fun k => match k with
  | 0 => .array .int
  | 1 => .array .int
  | 2 => .array .int
  | 3 => .array .int
  | 4 => .array .int
  | 5 => .int
  | _ => .int
abbrev wsX00 : List Cond := u_ws RX0 TX0 7
theorem nmX0 : ∀ a, a < 7 → ∀ b, b < 7 → a ≠ b → (TX0 a).2.1 ≠ (TX0 b).2.1 := by decide +kernel
theorem tyX0_ok : ∀ k, k < 7 → parseFieldDescriptor (TX0 k).2.2.1 = some (tyX0 k) := by decide +kernel
abbrev cX0_init : ByteArray := prog_2_method_1_code
def yX0_init : MethodName := ⟨RX0, "<init>", "()V"⟩
abbrev cX0_add : ByteArray := prog_2_method_2_code
def yX0_add : MethodName := ⟨RX0, "add", "(III)V"⟩
abbrev cX0_placeOf : ByteArray := prog_2_method_3_code
def yX0_placeOf : MethodName := ⟨RX0, "placeOf", "(I)I"⟩
abbrev cX0_settle : ByteArray := prog_2_method_4_code
def yX0_settle : MethodName := ⟨RX0, "settle", "(II)V"⟩
abbrev cX0_attempt : ByteArray := prog_2_method_5_code
def yX0_attempt : MethodName := ⟨RX0, "attempt", "(IIIII)V"⟩
def RX1 : String := "PortLook$Call"
def TX1 : u_T := fun k => match k with
  | 0 => ("PortLook$Call", "number", "I", true)
  | 1 => ("PortLook$Call", "ship", "LPortLook$Ship;", true)
  | 2 => ("PortLook$Call", "port", "I", true)
  | 3 => ("PortLook$Call", "from", "I", true)
  | 4 => ("PortLook$Call", "overOn", "I", false)
  | 5 => ("PortLook$Call", "held", "Z", false)
  | _ => ("PortLook$Call", "looksAtIt", "I", false)
def tyX1 : Nat → FieldType := fun k => match k with
  | 0 => .int
  | 1 => .object "PortLook$Ship"
  | 2 => .int
  | 3 => .int
  | 4 => .int
  | 5 => .boolean
  | _ => .int
abbrev wsX10 : List Cond := u_ws RX1 TX1 7
theorem nmX1 : ∀ a, a < 7 → ∀ b, b < 7 → a ≠ b → (TX1 a).2.1 ≠ (TX1 b).2.1 := by decide +kernel
theorem tyX1_ok : ∀ k, k < 7 → parseFieldDescriptor (TX1 k).2.2.1 = some (tyX1 k) := by decide +kernel
abbrev cX1_init : ByteArray := prog_3_method_1_code
def yX1_init : MethodName := ⟨RX1, "<init>", "(ILPortLook$Ship;II)V"⟩
abbrev cX1_isOver : ByteArray := prog_3_method_2_code
def yX1_isOver : MethodName := ⟨RX1, "isOver", "()Z"⟩
def RX2 : String := "PortLook$Look"
def TX2 : u_T := fun k => match k with
  | 0 => ("PortLook$Look", "call", "LPortLook$Call;", true)
  | 1 => ("PortLook$Look", "inspector", "I", true)
  | 2 => ("PortLook$Look", "madeOn", "I", true)
  | 3 => ("PortLook$Look", "faults", "I", true)
  | 4 => ("PortLook$Look", "holds", "Z", true)
  | _ => ("PortLook$Look", "chance", "I", false)
def tyX2 : Nat → FieldType := fun k => match k with
  | 0 => .object "PortLook$Call"
  | 1 => .int
  | 2 => .int
  | 3 => .int
  | 4 => .boolean
  | _ => .int
abbrev wsX20 : List Cond := u_ws RX2 TX2 6
theorem nmX2 : ∀ a, a < 6 → ∀ b, b < 6 → a ≠ b → (TX2 a).2.1 ≠ (TX2 b).2.1 := by decide +kernel
theorem tyX2_ok : ∀ k, k < 6 → parseFieldDescriptor (TX2 k).2.2.1 = some (tyX2 k) := by decide +kernel
abbrev cX2_init : ByteArray := prog_4_method_1_code
def yX2_init : MethodName := ⟨RX2, "<init>", "(LPortLook$Call;IIIZ)V"⟩
abbrev cX2_isDrawn : ByteArray := prog_4_method_2_code
def yX2_isDrawn : MethodName := ⟨RX2, "isDrawn", "()Z"⟩
abbrev cX2_isDoubleOf : ByteArray := prog_4_method_3_code
def yX2_isDoubleOf : MethodName := ⟨RX2, "isDoubleOf", "(LPortLook$Look;)Z"⟩
def RX3 : String := "PortLook$Owners"
def TX3 : u_T := fun k => match k with
  | 0 => ("PortLook$Owners", "group", "[I", true)
  | _ => ("PortLook$Owners", "words", "I", false)
def tyX3 : Nat → FieldType := fun k => match k with
  | 0 => .array .int
  | _ => .int
abbrev wsX30 : List Cond := u_ws RX3 TX3 2
theorem nmX3 : ∀ a, a < 2 → ∀ b, b < 2 → a ≠ b → (TX3 a).2.1 ≠ (TX3 b).2.1 := by decide +kernel
theorem tyX3_ok : ∀ k, k < 2 → parseFieldDescriptor (TX3 k).2.2.1 = some (tyX3 k) := by decide +kernel
abbrev cX3_init : ByteArray := prog_5_method_1_code
def yX3_init : MethodName := ⟨RX3, "<init>", "()V"⟩
abbrev cX3_join : ByteArray := prog_5_method_2_code
def yX3_join : MethodName := ⟨RX3, "join", "(II)V"⟩
abbrev cX3_areOne : ByteArray := prog_5_method_3_code
def yX3_areOne : MethodName := ⟨RX3, "areOne", "(II)Z"⟩
def RX4 : String := "PortLook$RestWeek"
def TX4 : u_T := fun k => match k with
  | _ => ("PortLook$RestWeek", "days", "[I", true)
def tyX4 : Nat → FieldType := fun k => match k with
  | _ => .array .int
abbrev wsX40 : List Cond := u_ws RX4 TX4 1
theorem nmX4 : ∀ a, a < 1 → ∀ b, b < 1 → a ≠ b → (TX4 a).2.1 ≠ (TX4 b).2.1 := by decide +kernel
theorem tyX4_ok : ∀ k, k < 1 → parseFieldDescriptor (TX4 k).2.2.1 = some (tyX4 k) := by decide +kernel
abbrev cX4_init : ByteArray := prog_6_method_1_code
def yX4_init : MethodName := ⟨RX4, "<init>", "()V"⟩
abbrev cX4_putDay : ByteArray := prog_6_method_2_code
def yX4_putDay : MethodName := ⟨RX4, "putDay", "(I)V"⟩
abbrev cX4_hoursOfRest : ByteArray := prog_6_method_3_code
def yX4_hoursOfRest : MethodName := ⟨RX4, "hoursOfRest", "()I"⟩
abbrev cX4_restIn : ByteArray := prog_6_method_4_code
def yX4_restIn : MethodName := ⟨RX4, "restIn", "(I)I"⟩
abbrev cX4_firstWrong : ByteArray := prog_6_method_5_code
def yX4_firstWrong : MethodName := ⟨RX4, "firstWrong", "()I"⟩
def RX5 : String := "PortLook$Ship"
def TX5 : u_T := fun k => match k with
  | 0 => ("PortLook$Ship", "number", "I", true)
  | 1 => ("PortLook$Ship", "kind", "I", true)
  | 2 => ("PortLook$Ship", "society", "I", true)
  | 3 => ("PortLook$Ship", "built", "I", true)
  | 4 => ("PortLook$Ship", "latest", "[LPortLook$Trait;", true)
  | 5 => ("PortLook$Ship", "week", "LPortLook$RestWeek;", true)
  | 6 => ("PortLook$Ship", "berth", "LPortLook$Call;", false)
  | 7 => ("PortLook$Ship", "lastLook", "I", false)
  | 8 => ("PortLook$Ship", "bannedSince", "I", false)
  | _ => ("PortLook$Ship", "bans", "I", false)
def tyX5 : Nat → FieldType := fun k => match k with
  | 0 => .int
  | 1 => .int
  | 2 => .int
  | 3 => .int
  | 4 => .array (.object "PortLook$Trait")
  | 5 => .object "PortLook$RestWeek"
  | 6 => .object "PortLook$Call"
  | 7 => .int
  | 8 => .int
  | _ => .int
abbrev wsX50 : List Cond := u_ws RX5 TX5 10
theorem nmX5 : ∀ a, a < 10 → ∀ b, b < 10 → a ≠ b → (TX5 a).2.1 ≠ (TX5 b).2.1 := by decide +kernel
theorem tyX5_ok : ∀ k, k < 10 → parseFieldDescriptor (TX5 k).2.2.1 = some (tyX5 k) := by decide +kernel
abbrev cX5_init : ByteArray := prog_7_method_1_code
def yX5_init : MethodName := ⟨RX5, "<init>", "(IIII)V"⟩
abbrev cX5_traitOn : ByteArray := prog_7_method_2_code
def yX5_traitOn : MethodName := ⟨RX5, "traitOn", "(II)I"⟩
abbrev cX5_setTrait : ByteArray := prog_7_method_3_code
def yX5_setTrait : MethodName := ⟨RX5, "setTrait", "(III)V"⟩
abbrev cX5_isBanned : ByteArray := prog_7_method_4_code
def yX5_isBanned : MethodName := ⟨RX5, "isBanned", "()Z"⟩
def RX6 : String := "PortLook$Tally"
def TX6 : u_T := fun k => match k with
  | 0 => ("PortLook$Tally", "looks", "I", false)
  | 1 => ("PortLook$Tally", "holds", "I", false)
  | 2 => ("PortLook$Tally", "allLooks", "I", false)
  | _ => ("PortLook$Tally", "allHolds", "I", false)
def tyX6 : Nat → FieldType := fun k => match k with
  | 0 => .int
  | 1 => .int
  | 2 => .int
  | _ => .int
abbrev wsX60 : List Cond := u_ws RX6 TX6 4
theorem nmX6 : ∀ a, a < 4 → ∀ b, b < 4 → a ≠ b → (TX6 a).2.1 ≠ (TX6 b).2.1 := by decide +kernel
theorem tyX6_ok : ∀ k, k < 4 → parseFieldDescriptor (TX6 k).2.2.1 = some (tyX6 k) := by decide +kernel
abbrev cX6_init : ByteArray := prog_8_method_1_code
def yX6_init : MethodName := ⟨RX6, "<init>", "()V"⟩
abbrev cX6_clear : ByteArray := prog_8_method_2_code
def yX6_clear : MethodName := ⟨RX6, "clear", "()V"⟩
abbrev cX6_add : ByteArray := prog_8_method_3_code
def yX6_add : MethodName := ⟨RX6, "add", "(ZZ)V"⟩
abbrev cX6_isDark : ByteArray := prog_8_method_4_code
def yX6_isDark : MethodName := ⟨RX6, "isDark", "()Z"⟩
def RX7 : String := "PortLook$Tape"
def TX7 : u_T := fun k => match k with
  | 0 => ("PortLook$Tape", "bytes", "[I", true)
  | 1 => ("PortLook$Tape", "length", "I", false)
  | _ => ("PortLook$Tape", "at", "I", false)
def tyX7 : Nat → FieldType := fun k => match k with
  | 0 => .array .int
  | 1 => .int
  | _ => .int
abbrev wsX70 : List Cond := u_ws RX7 TX7 3
theorem nmX7 : ∀ a, a < 3 → ∀ b, b < 3 → a ≠ b → (TX7 a).2.1 ≠ (TX7 b).2.1 := by decide +kernel
theorem tyX7_ok : ∀ k, k < 3 → parseFieldDescriptor (TX7 k).2.2.1 = some (tyX7 k) := by decide +kernel
abbrev cX7_init : ByteArray := prog_9_method_1_code
def yX7_init : MethodName := ⟨RX7, "<init>", "()V"⟩
abbrev cX7_put : ByteArray := prog_9_method_2_code
def yX7_put : MethodName := ⟨RX7, "put", "(I)V"⟩
abbrev cX7_readInto : ByteArray := prog_9_method_3_code
def yX7_readInto : MethodName := ⟨RX7, "readInto", "(LPortLook$Treaty;)Z"⟩
abbrev cX7_readRow : ByteArray := prog_9_method_4_code
def yX7_readRow : MethodName := ⟨RX7, "readRow", "(LPortLook$Treaty;)Z"⟩
abbrev cX7_readGrave : ByteArray := prog_9_method_5_code
def yX7_readGrave : MethodName := ⟨RX7, "readGrave", "(LPortLook$Treaty;)Z"⟩
abbrev cX7_readWeight : ByteArray := prog_9_method_6_code
def yX7_readWeight : MethodName := ⟨RX7, "readWeight", "(LPortLook$Treaty;)Z"⟩
abbrev cX7_readLimit : ByteArray := prog_9_method_7_code
def yX7_readLimit : MethodName := ⟨RX7, "readLimit", "(LPortLook$Treaty;)Z"⟩
abbrev cX7_take : ByteArray := prog_9_method_8_code
def yX7_take : MethodName := ⟨RX7, "take", "(I)Z"⟩
abbrev cX7_takeDigit : ByteArray := prog_9_method_9_code
def yX7_takeDigit : MethodName := ⟨RX7, "takeDigit", "()I"⟩
abbrev cX7_takeKind : ByteArray := prog_9_method_10_code
def yX7_takeKind : MethodName := ⟨RX7, "takeKind", "()I"⟩
def RX8 : String := "PortLook$Trait"
def TX8 : u_T := fun k => match k with
  | 0 => ("PortLook$Trait", "from", "I", true)
  | 1 => ("PortLook$Trait", "value", "I", true)
  | _ => ("PortLook$Trait", "ahead", "LPortLook$Trait;", true)
def tyX8 : Nat → FieldType := fun k => match k with
  | 0 => .int
  | 1 => .int
  | _ => .object "PortLook$Trait"
abbrev wsX80 : List Cond := u_ws RX8 TX8 3
theorem nmX8 : ∀ a, a < 3 → ∀ b, b < 3 → a ≠ b → (TX8 a).2.1 ≠ (TX8 b).2.1 := by decide +kernel
theorem tyX8_ok : ∀ k, k < 3 → parseFieldDescriptor (TX8 k).2.2.1 = some (tyX8 k) := by decide +kernel
abbrev cX8_init : ByteArray := prog_10_method_1_code
def yX8_init : MethodName := ⟨RX8, "<init>", "(IILPortLook$Trait;)V"⟩
def RX9 : String := "PortLook$Treaty"
def TX9 : u_T := fun k => match k with
  | 0 => ("PortLook$Treaty", "from", "I", true)
  | 1 => ("PortLook$Treaty", "weights", "[I", true)
  | 2 => ("PortLook$Treaty", "grave", "[I", true)
  | _ => ("PortLook$Treaty", "limit", "I", false)
def tyX9 : Nat → FieldType := fun k => match k with
  | 0 => .int
  | 1 => .array .int
  | 2 => .array .int
  | _ => .int
abbrev wsX90 : List Cond := u_ws RX9 TX9 4
theorem nmX9 : ∀ a, a < 4 → ∀ b, b < 4 → a ≠ b → (TX9 a).2.1 ≠ (TX9 b).2.1 := by decide +kernel
theorem tyX9_ok : ∀ k, k < 4 → parseFieldDescriptor (TX9 k).2.2.1 = some (tyX9 k) := by decide +kernel
abbrev cX9_init : ByteArray := prog_11_method_1_code
def yX9_init : MethodName := ⟨RX9, "<init>", "(I)V"⟩
abbrev cX9_addGrave : ByteArray := prog_11_method_2_code
def yX9_addGrave : MethodName := ⟨RX9, "addGrave", "(II)V"⟩
abbrev cX9_holdsFor : ByteArray := prog_11_method_3_code
def yX9_holdsFor : MethodName := ⟨RX9, "holdsFor", "(II)Z"⟩
def RX10 : String := "PortLook"
def TX10 : u_T := fun k => match k with
  | 0 => ("PortLook", "ships", "[LPortLook$Ship;", true)
  | 1 => ("PortLook", "shipCount", "I", false)
  | 2 => ("PortLook", "changeCount", "I", false)
  | 3 => ("PortLook", "owners", "LPortLook$Owners;", true)
  | 4 => ("PortLook", "calls", "[LPortLook$Call;", true)
  | 5 => ("PortLook", "callCount", "I", false)
  | 6 => ("PortLook", "looks", "[LPortLook$Look;", true)
  | 7 => ("PortLook", "lookCount", "I", false)
  | 8 => ("PortLook", "treaties", "[LPortLook$Treaty;", true)
  | 9 => ("PortLook", "treatyCount", "I", false)
  | 10 => ("PortLook", "tape", "LPortLook$Tape;", true)
  | 11 => ("PortLook", "today", "I", false)
  | 12 => ("PortLook", "banMonths", "I", false)
  | 13 => ("PortLook", "drawnCount", "I", false)
  | 14 => ("PortLook", "waiting", "[I", true)
  | 15 => ("PortLook", "waitingCount", "I", false)
  | 16 => ("PortLook", "findings", "[I", true)
  | 17 => ("PortLook", "tally", "LPortLook$Tally;", true)
  | _ => ("PortLook", "boarding", "LPortLook$Boarding;", true)
def tyX10 : Nat → FieldType := fun k => match k with
  | 0 => .array (.object "PortLook$Ship")
  | 1 => .int
  | 2 => .int
  | 3 => .object "PortLook$Owners"
  | 4 => .array (.object "PortLook$Call")
  | 5 => .int
  | 6 => .array (.object "PortLook$Look")
  | 7 => .int
  | 8 => .array (.object "PortLook$Treaty")
  | 9 => .int
  | 10 => .object "PortLook$Tape"
  | 11 => .int
  | 12 => .int
  | 13 => .int
  | 14 => .array .int
  | 15 => .int
  | 16 => .array .int
  | 17 => .object "PortLook$Tally"
  | _ => .object "PortLook$Boarding"
abbrev wsX100 : List Cond := u_ws RX10 TX10 19
theorem nmX10 : ∀ a, a < 19 → ∀ b, b < 19 → a ≠ b → (TX10 a).2.1 ≠ (TX10 b).2.1 := by decide +kernel
theorem tyX10_ok : ∀ k, k < 19 → parseFieldDescriptor (TX10 k).2.2.1 = some (tyX10 k) := by decide +kernel
abbrev cX10_init : ByteArray := prog_1_method_1_code
def yX10_init : MethodName := ⟨RX10, "<init>", "()V"⟩
abbrev cX10_ship : ByteArray := prog_1_method_2_code
def yX10_ship : MethodName := ⟨RX10, "ship", "(III)I"⟩
abbrev cX10_as : ByteArray := prog_1_method_3_code
def yX10_as : MethodName := ⟨RX10, "as", "(II)I"⟩
abbrev cX10_change : ByteArray := prog_1_method_4_code
def yX10_change : MethodName := ⟨RX10, "change", "(III)I"⟩
abbrev cX10_has : ByteArray := prog_1_method_5_code
def yX10_has : MethodName := ⟨RX10, "has", "(III)I"⟩
abbrev cX10_named : ByteArray := prog_1_method_6_code
def yX10_named : MethodName := ⟨RX10, "named", "(II)I"⟩
abbrev cX10_one : ByteArray := prog_1_method_7_code
def yX10_one : MethodName := ⟨RX10, "one", "(II)I"⟩
abbrev cX10_fleet : ByteArray := prog_1_method_8_code
def yX10_fleet : MethodName := ⟨RX10, "fleet", "(II)I"⟩
abbrev cX10_day : ByteArray := prog_1_method_9_code
def yX10_day : MethodName := ⟨RX10, "day", "(I)I"⟩
abbrev cX10_call : ByteArray := prog_1_method_10_code
def yX10_call : MethodName := ⟨RX10, "call", "(II)I"⟩
abbrev cX10_leave : ByteArray := prog_1_method_11_code
def yX10_leave : MethodName := ⟨RX10, "leave", "(I)I"⟩
abbrev cX10_of : ByteArray := prog_1_method_12_code
def yX10_of : MethodName := ⟨RX10, "of", "(II)I"⟩
abbrev cX10_feed : ByteArray := prog_1_method_13_code
def yX10_feed : MethodName := ⟨RX10, "feed", "(I)I"⟩
abbrev cX10_treaty : ByteArray := prog_1_method_14_code
def yX10_treaty : MethodName := ⟨RX10, "treaty", "(I)I"⟩
abbrev cX10_says : ByteArray := prog_1_method_15_code
def yX10_says : MethodName := ⟨RX10, "says", "(II)I"⟩
abbrev cX10_look : ByteArray := prog_1_method_16_code
def yX10_look : MethodName := ⟨RX10, "look", "(III)I"⟩
abbrev cX10_told : ByteArray := prog_1_method_17_code
def yX10_told : MethodName := ⟨RX10, "told", "(II)I"⟩
abbrev cX10_share : ByteArray := prog_1_method_18_code
def yX10_share : MethodName := ⟨RX10, "share", "(III)I"⟩
abbrev cX10_risk : ByteArray := prog_1_method_19_code
def yX10_risk : MethodName := ⟨RX10, "risk", "(I)I"⟩
abbrev cX10_board : ByteArray := prog_1_method_20_code
def yX10_board : MethodName := ⟨RX10, "board", "(III)I"⟩
abbrev cX10_rest : ByteArray := prog_1_method_21_code
def yX10_rest : MethodName := ⟨RX10, "rest", "(II)I"⟩
abbrev cX10_tired : ByteArray := prog_1_method_22_code
def yX10_tired : MethodName := ⟨RX10, "tired", "(II)I"⟩
abbrev cX10_months : ByteArray := prog_1_method_23_code
def yX10_months : MethodName := ⟨RX10, "months", "(I)I"⟩
abbrev cX10_banned : ByteArray := prog_1_method_24_code
def yX10_banned : MethodName := ⟨RX10, "banned", "(II)I"⟩
abbrev cX10_lift : ByteArray := prog_1_method_25_code
def yX10_lift : MethodName := ⟨RX10, "lift", "(I)I"⟩
abbrev cX10_were : ByteArray := prog_1_method_26_code
def yX10_were : MethodName := ⟨RX10, "were", "(II)I"⟩
abbrev cX10_habit : ByteArray := prog_1_method_27_code
def yX10_habit : MethodName := ⟨RX10, "habit", "(I)I"⟩
abbrev cX10_draw : ByteArray := prog_1_method_28_code
def yX10_draw : MethodName := ⟨RX10, "draw", "(II)I"⟩
abbrev cX10_rate : ByteArray := prog_1_method_29_code
def yX10_rate : MethodName := ⟨RX10, "rate", "()I"⟩
abbrev cX10_tell : ByteArray := prog_1_method_30_code
def yX10_tell : MethodName := ⟨RX10, "tell", "(I)I"⟩
abbrev cX10_check : ByteArray := prog_1_method_31_code
def yX10_check : MethodName := ⟨RX10, "check", "()I"⟩
abbrev cX10_count : ByteArray := prog_1_method_32_code
def yX10_count : MethodName := ⟨RX10, "count", "(I)I"⟩
abbrev cX10_found : ByteArray := prog_1_method_33_code
def yX10_found : MethodName := ⟨RX10, "found", "(I)I"⟩
abbrev cX10_finding : ByteArray := prog_1_method_34_code
def yX10_finding : MethodName := ⟨RX10, "finding", "(I)I"⟩
abbrev cX10_isBelow : ByteArray := prog_1_method_35_code
def yX10_isBelow : MethodName := ⟨RX10, "isBelow", "(II)Z"⟩
abbrev cX10_isKindAndClass : ByteArray := prog_1_method_36_code
def yX10_isKindAndClass : MethodName := ⟨RX10, "isKindAndClass", "(I)Z"⟩
abbrev cX10_isNameOwnerAndFlag : ByteArray := prog_1_method_37_code
def yX10_isNameOwnerAndFlag : MethodName := ⟨RX10, "isNameOwnerAndFlag", "(I)Z"⟩
abbrev cX10_areHours : ByteArray := prog_1_method_38_code
def yX10_areHours : MethodName := ⟨RX10, "areHours", "(I)Z"⟩
abbrev cX10_valuesOf : ByteArray := prog_1_method_39_code
def yX10_valuesOf : MethodName := ⟨RX10, "valuesOf", "(I)I"⟩
abbrev cX10_groupsOf : ByteArray := prog_1_method_40_code
def yX10_groupsOf : MethodName := ⟨RX10, "groupsOf", "(I)I"⟩
abbrev cX10_isUnder : ByteArray := prog_1_method_41_code
def yX10_isUnder : MethodName := ⟨RX10, "isUnder", "(II)Z"⟩
abbrev cX10_shipAt : ByteArray := prog_1_method_42_code
def yX10_shipAt : MethodName := ⟨RX10, "shipAt", "(I)LPortLook$Ship;"⟩
abbrev cX10_callAt : ByteArray := prog_1_method_43_code
def yX10_callAt : MethodName := ⟨RX10, "callAt", "(I)LPortLook$Call;"⟩
abbrev cX10_lookAt : ByteArray := prog_1_method_44_code
def yX10_lookAt : MethodName := ⟨RX10, "lookAt", "(I)LPortLook$Look;"⟩
abbrev cX10_treatyInForce : ByteArray := prog_1_method_45_code
def yX10_treatyInForce : MethodName := ⟨RX10, "treatyInForce", "(I)LPortLook$Treaty;"⟩
abbrev cX10_fleetBits : ByteArray := prog_1_method_46_code
def yX10_fleetBits : MethodName := ⟨RX10, "fleetBits", "(II)I"⟩
abbrev cX10_isInLast : ByteArray := prog_1_method_47_code
def yX10_isInLast : MethodName := ⟨RX10, "isInLast", "(II)Z"⟩
abbrev cX10_tallyUp : ByteArray := prog_1_method_48_code
def yX10_tallyUp : MethodName := ⟨RX10, "tallyUp", "(II)V"⟩
abbrev cX10_isOfGroup : ByteArray := prog_1_method_49_code
def yX10_isOfGroup : MethodName := ⟨RX10, "isOfGroup", "(LPortLook$Look;II)Z"⟩
abbrev cX10_isDarkGroup : ByteArray := prog_1_method_50_code
def yX10_isDarkGroup : MethodName := ⟨RX10, "isDarkGroup", "(II)Z"⟩
abbrev cX10_isFlagDark : ByteArray := prog_1_method_51_code
def yX10_isFlagDark : MethodName := ⟨RX10, "isFlagDark", "(LPortLook$Ship;)Z"⟩
abbrev cX10_riskOf : ByteArray := prog_1_method_52_code
def yX10_riskOf : MethodName := ⟨RX10, "riskOf", "(LPortLook$Ship;)I"⟩
abbrev cX10_holdsInFleet : ByteArray := prog_1_method_53_code
def yX10_holdsInFleet : MethodName := ⟨RX10, "holdsInFleet", "(LPortLook$Ship;)I"⟩
abbrev cX10_gatherBoarding : ByteArray := prog_1_method_54_code
def yX10_gatherBoarding : MethodName := ⟨RX10, "gatherBoarding", "(I)V"⟩
abbrev cX10_banIfDue : ByteArray := prog_1_method_55_code
def yX10_banIfDue : MethodName := ⟨RX10, "banIfDue", "(LPortLook$Ship;)V"⟩
abbrev cX10_shipsInPorts : ByteArray := prog_1_method_56_code
def yX10_shipsInPorts : MethodName := ⟨RX10, "shipsInPorts", "()I"⟩
abbrev cX10_heldCalls : ByteArray := prog_1_method_57_code
def yX10_heldCalls : MethodName := ⟨RX10, "heldCalls", "()I"⟩
abbrev cX10_bannedShips : ByteArray := prog_1_method_58_code
def yX10_bannedShips : MethodName := ⟨RX10, "bannedShips", "()I"⟩
def RX11 : String := "PortLookModel"
def TX11 : u_T := fun k => match k with
  | 0 => ("PortLookModel", "day", "I", false)
  | 1 => ("PortLookModel", "ships", "I", false)
  | 2 => ("PortLookModel", "kind", "[I", true)
  | 3 => ("PortLookModel", "grade", "[I", true)
  | 4 => ("PortLookModel", "built", "[I", true)
  | 5 => ("PortLookModel", "came", "[I", true)
  | 6 => ("PortLookModel", "changes", "I", false)
  | 7 => ("PortLookModel", "changeOf", "[I", true)
  | 8 => ("PortLookModel", "changeDay", "[I", true)
  | 9 => ("PortLookModel", "changeTo", "[I", true)
  | 10 => ("PortLookModel", "words", "I", false)
  | 11 => ("PortLookModel", "wordA", "[I", true)
  | 12 => ("PortLookModel", "wordB", "[I", true)
  | 13 => ("PortLookModel", "calls", "I", false)
  | 14 => ("PortLookModel", "callShip", "[I", true)
  | 15 => ("PortLookModel", "callPort", "[I", true)
  | 16 => ("PortLookModel", "callFrom", "[I", true)
  | 17 => ("PortLookModel", "callOver", "[I", true)
  | 18 => ("PortLookModel", "isHeld", "[Z", true)
  | 19 => ("PortLookModel", "tapes", "I", false)
  | 20 => ("PortLookModel", "tape", "[I", true)
  | 21 => ("PortLookModel", "treaties", "I", false)
  | 22 => ("PortLookModel", "treatyDay", "[I", true)
  | 23 => ("PortLookModel", "limit", "[I", true)
  | 24 => ("PortLookModel", "weight", "[I", true)
  | 25 => ("PortLookModel", "grave", "[I", true)
  | 26 => ("PortLookModel", "looks", "I", false)
  | 27 => ("PortLookModel", "lookCall", "[I", true)
  | 28 => ("PortLookModel", "lookBy", "[I", true)
  | 29 => ("PortLookModel", "lookDay", "[I", true)
  | 30 => ("PortLookModel", "lookFaults", "[I", true)
  | 31 => ("PortLookModel", "doesHold", "[Z", true)
  | 32 => ("PortLookModel", "chance", "[I", true)
  | 33 => ("PortLookModel", "drawn", "I", false)
  | 34 => ("PortLookModel", "resting", "[I", true)
  | 35 => ("PortLookModel", "months", "I", false)
  | 36 => ("PortLookModel", "isBanned", "[Z", true)
  | 37 => ("PortLookModel", "bans", "[I", true)
  | 38 => ("PortLookModel", "bannedOn", "[I", true)
  | 39 => ("PortLookModel", "waits", "I", false)
  | 40 => ("PortLookModel", "waiting", "[I", true)
  | 41 => ("PortLookModel", "found", "[I", true)
  | 42 => ("PortLookModel", "there", "I", false)
  | 43 => ("PortLookModel", "who", "[I", true)
  | 44 => ("PortLookModel", "risks", "[I", true)
  | 45 => ("PortLookModel", "to", "[I", true)
  | 46 => ("PortLookModel", "bestTo", "[I", true)
  | _ => ("PortLookModel", "bestRisk", "I", false)
def tyX11 : Nat → FieldType := fun k => match k with
  | 0 => .int
  | 1 => .int
  | 2 => .array .int
  | 3 => .array .int
  | 4 => .array .int
  | 5 => .array .int
  | 6 => .int
  | 7 => .array .int
  | 8 => .array .int
  | 9 => .array .int
  | 10 => .int
  | 11 => .array .int
  | 12 => .array .int
  | 13 => .int
  | 14 => .array .int
  | 15 => .array .int
  | 16 => .array .int
  | 17 => .array .int
  | 18 => .array .boolean
  | 19 => .int
  | 20 => .array .int
  | 21 => .int
  | 22 => .array .int
  | 23 => .array .int
  | 24 => .array .int
  | 25 => .array .int
  | 26 => .int
  | 27 => .array .int
  | 28 => .array .int
  | 29 => .array .int
  | 30 => .array .int
  | 31 => .array .boolean
  | 32 => .array .int
  | 33 => .int
  | 34 => .array .int
  | 35 => .int
  | 36 => .array .boolean
  | 37 => .array .int
  | 38 => .array .int
  | 39 => .int
  | 40 => .array .int
  | 41 => .array .int
  | 42 => .int
  | 43 => .array .int
  | 44 => .array .int
  | 45 => .array .int
  | 46 => .array .int
  | _ => .int
abbrev wsX110 : List Cond := u_ws RX11 TX11 48
theorem nmX11 : ∀ a, a < 48 → ∀ b, b < 48 → a ≠ b → (TX11 a).2.1 ≠ (TX11 b).2.1 := by decide +kernel
theorem tyX11_ok : ∀ k, k < 48 → parseFieldDescriptor (TX11 k).2.2.1 = some (tyX11 k) := by decide +kernel
abbrev cX11_init : ByteArray := prog_13_method_1_code
def yX11_init : MethodName := ⟨RX11, "<init>", "()V"⟩
abbrev cX11_finding : ByteArray := prog_13_method_2_code
def yX11_finding : MethodName := ⟨RX11, "finding", "(I)I"⟩
abbrev cX11_isIn : ByteArray := prog_13_method_3_code
def yX11_isIn : MethodName := ⟨RX11, "isIn", "(III)Z"⟩
abbrev cX11_isShip : ByteArray := prog_13_method_4_code
def yX11_isShip : MethodName := ⟨RX11, "isShip", "(I)Z"⟩
abbrev cX11_isCall : ByteArray := prog_13_method_5_code
def yX11_isCall : MethodName := ⟨RX11, "isCall", "(I)Z"⟩
abbrev cX11_isLook : ByteArray := prog_13_method_6_code
def yX11_isLook : MethodName := ⟨RX11, "isLook", "(I)Z"⟩
abbrev cX11_isDay : ByteArray := prog_13_method_7_code
def yX11_isDay : MethodName := ⟨RX11, "isDay", "(I)Z"⟩
abbrev cX11_ship : ByteArray := prog_13_method_8_code
def yX11_ship : MethodName := ⟨RX11, "ship", "(III)I"⟩
abbrev cX11_isUnder : ByteArray := prog_13_method_9_code
def yX11_isUnder : MethodName := ⟨RX11, "isUnder", "(II)Z"⟩
abbrev cX11_hoursOf : ByteArray := prog_13_method_10_code
def yX11_hoursOf : MethodName := ⟨RX11, "hoursOf", "(I)I"⟩
abbrev cX11_as : ByteArray := prog_13_method_11_code
def yX11_as : MethodName := ⟨RX11, "as", "(II)I"⟩
abbrev cX11_hadOn : ByteArray := prog_13_method_12_code
def yX11_hadOn : MethodName := ⟨RX11, "hadOn", "(III)I"⟩
abbrev cX11_change : ByteArray := prog_13_method_13_code
def yX11_change : MethodName := ⟨RX11, "change", "(III)I"⟩
abbrev cX11_has : ByteArray := prog_13_method_14_code
def yX11_has : MethodName := ⟨RX11, "has", "(III)I"⟩
abbrev cX11_named : ByteArray := prog_13_method_15_code
def yX11_named : MethodName := ⟨RX11, "named", "(II)I"⟩
abbrev cX11_one : ByteArray := prog_13_method_16_code
def yX11_one : MethodName := ⟨RX11, "one", "(II)I"⟩
abbrev cX11_onesOf : ByteArray := prog_13_method_17_code
def yX11_onesOf : MethodName := ⟨RX11, "onesOf", "(I)I"⟩
abbrev cX11_fleetOf : ByteArray := prog_13_method_18_code
def yX11_fleetOf : MethodName := ⟨RX11, "fleetOf", "(II)I"⟩
abbrev cX11_fleet : ByteArray := prog_13_method_19_code
def yX11_fleet : MethodName := ⟨RX11, "fleet", "(II)I"⟩
abbrev cX11_day : ByteArray := prog_13_method_20_code
def yX11_day : MethodName := ⟨RX11, "day", "(I)I"⟩
abbrev cX11_openCall : ByteArray := prog_13_method_21_code
def yX11_openCall : MethodName := ⟨RX11, "openCall", "(I)I"⟩
abbrev cX11_call : ByteArray := prog_13_method_22_code
def yX11_call : MethodName := ⟨RX11, "call", "(II)I"⟩
abbrev cX11_leave : ByteArray := prog_13_method_23_code
def yX11_leave : MethodName := ⟨RX11, "leave", "(I)I"⟩
abbrev cX11_looksAt : ByteArray := prog_13_method_24_code
def yX11_looksAt : MethodName := ⟨RX11, "looksAt", "(I)I"⟩
abbrev cX11_of : ByteArray := prog_13_method_25_code
def yX11_of : MethodName := ⟨RX11, "of", "(II)I"⟩
abbrev cX11_feed : ByteArray := prog_13_method_26_code
def yX11_feed : MethodName := ⟨RX11, "feed", "(I)I"⟩
abbrev cX11_isDigit : ByteArray := prog_13_method_27_code
def yX11_isDigit : MethodName := ⟨RX11, "isDigit", "(I)Z"⟩
abbrev cX11_isByte : ByteArray := prog_13_method_28_code
def yX11_isByte : MethodName := ⟨RX11, "isByte", "(II)Z"⟩
abbrev cX11_kindAt : ByteArray := prog_13_method_29_code
def yX11_kindAt : MethodName := ⟨RX11, "kindAt", "(I)I"⟩
abbrev cX11_rowEnd : ByteArray := prog_13_method_30_code
def yX11_rowEnd : MethodName := ⟨RX11, "rowEnd", "(I)I"⟩
abbrev cX11_rowLeast : ByteArray := prog_13_method_31_code
def yX11_rowLeast : MethodName := ⟨RX11, "rowLeast", "(I)I"⟩
abbrev cX11_rowTells : ByteArray := prog_13_method_32_code
def yX11_rowTells : MethodName := ⟨RX11, "rowTells", "(II)V"⟩
abbrev cX11_readAll : ByteArray := prog_13_method_33_code
def yX11_readAll : MethodName := ⟨RX11, "readAll", "()I"⟩
abbrev cX11_treaty : ByteArray := prog_13_method_34_code
def yX11_treaty : MethodName := ⟨RX11, "treaty", "(I)I"⟩
abbrev cX11_forceOn : ByteArray := prog_13_method_35_code
def yX11_forceOn : MethodName := ⟨RX11, "forceOn", "(I)I"⟩
abbrev cX11_says : ByteArray := prog_13_method_36_code
def yX11_says : MethodName := ⟨RX11, "says", "(II)I"⟩
abbrev cX11_wouldHold : ByteArray := prog_13_method_37_code
def yX11_wouldHold : MethodName := ⟨RX11, "wouldHold", "(II)Z"⟩
abbrev cX11_shipOf : ByteArray := prog_13_method_38_code
def yX11_shipOf : MethodName := ⟨RX11, "shipOf", "(I)I"⟩
abbrev cX11_ban : ByteArray := prog_13_method_39_code
def yX11_ban : MethodName := ⟨RX11, "ban", "(I)V"⟩
abbrev cX11_look : ByteArray := prog_13_method_40_code
def yX11_look : MethodName := ⟨RX11, "look", "(III)I"⟩
abbrev cX11_told : ByteArray := prog_13_method_41_code
def yX11_told : MethodName := ⟨RX11, "told", "(II)I"⟩
abbrev cX11_counted : ByteArray := prog_13_method_42_code
def yX11_counted : MethodName := ⟨RX11, "counted", "(IIZ)I"⟩
abbrev cX11_darkOf : ByteArray := prog_13_method_43_code
def yX11_darkOf : MethodName := ⟨RX11, "darkOf", "(II)I"⟩
abbrev cX11_share : ByteArray := prog_13_method_44_code
def yX11_share : MethodName := ⟨RX11, "share", "(III)I"⟩
abbrev cX11_riskOf : ByteArray := prog_13_method_45_code
def yX11_riskOf : MethodName := ⟨RX11, "riskOf", "(I)I"⟩
abbrev cX11_risk : ByteArray := prog_13_method_46_code
def yX11_risk : MethodName := ⟨RX11, "risk", "(I)I"⟩
abbrev cX11_gather : ByteArray := prog_13_method_47_code
def yX11_gather : MethodName := ⟨RX11, "gather", "(I)V"⟩
abbrev cX11_tryFrom : ByteArray := prog_13_method_48_code
def yX11_tryFrom : MethodName := ⟨RX11, "tryFrom", "(IIII)V"⟩
abbrev cX11_board : ByteArray := prog_13_method_49_code
def yX11_board : MethodName := ⟨RX11, "board", "(III)I"⟩
abbrev cX11_isRest : ByteArray := prog_13_method_50_code
def yX11_isRest : MethodName := ⟨RX11, "isRest", "(II)Z"⟩
abbrev cX11_restIn : ByteArray := prog_13_method_51_code
def yX11_restIn : MethodName := ⟨RX11, "restIn", "(III)I"⟩
abbrev cX11_rest : ByteArray := prog_13_method_52_code
def yX11_rest : MethodName := ⟨RX11, "rest", "(II)I"⟩
abbrev cX11_tired : ByteArray := prog_13_method_53_code
def yX11_tired : MethodName := ⟨RX11, "tired", "(II)I"⟩
abbrev cX11_months : ByteArray := prog_13_method_54_code
def yX11_months : MethodName := ⟨RX11, "months", "(I)I"⟩
abbrev cX11_banned : ByteArray := prog_13_method_55_code
def yX11_banned : MethodName := ⟨RX11, "banned", "(II)I"⟩
abbrev cX11_lift : ByteArray := prog_13_method_56_code
def yX11_lift : MethodName := ⟨RX11, "lift", "(I)I"⟩
abbrev cX11_ones : ByteArray := prog_13_method_57_code
def yX11_ones : MethodName := ⟨RX11, "ones", "(I)I"⟩
abbrev cX11_areDoubles : ByteArray := prog_13_method_58_code
def yX11_areDoubles : MethodName := ⟨RX11, "areDoubles", "(II)Z"⟩
abbrev cX11_were : ByteArray := prog_13_method_59_code
def yX11_were : MethodName := ⟨RX11, "were", "(II)I"⟩
abbrev cX11_habit : ByteArray := prog_13_method_60_code
def yX11_habit : MethodName := ⟨RX11, "habit", "(I)I"⟩
abbrev cX11_draw : ByteArray := prog_13_method_61_code
def yX11_draw : MethodName := ⟨RX11, "draw", "(II)I"⟩
abbrev cX11_rate : ByteArray := prog_13_method_62_code
def yX11_rate : MethodName := ⟨RX11, "rate", "()I"⟩
abbrev cX11_tell : ByteArray := prog_13_method_63_code
def yX11_tell : MethodName := ⟨RX11, "tell", "(I)I"⟩
abbrev cX11_check : ByteArray := prog_13_method_64_code
def yX11_check : MethodName := ⟨RX11, "check", "()I"⟩
abbrev cX11_count : ByteArray := prog_13_method_65_code
def yX11_count : MethodName := ⟨RX11, "count", "(I)I"⟩
abbrev cX11_found : ByteArray := prog_13_method_66_code
def yX11_found : MethodName := ⟨RX11, "found", "(I)I"⟩
def RJ6 : String := "java/lang/Integer"
def TJ6 : u_T := fun k => match k with
  | _ => ("", "", "", false)
def tyJ6 : Nat → FieldType := fun k => match k with
  | _ => .int
theorem nmJ6 : ∀ a, a < 0 → ∀ b, b < 0 → a ≠ b → (TJ6 a).2.1 ≠ (TJ6 b).2.1 := by decide +kernel
theorem tyJ6_ok : ∀ k, k < 0 → parseFieldDescriptor (TJ6 k).2.2.1 = some (tyJ6 k) := by decide +kernel
abbrev cJ6_bitCount_0f7a4 : ByteArray := prog_14_method_49_code
def yJ6_bitCount_0f7a4 : MethodName := ⟨RJ6, "bitCount", "(I)I"⟩
def RJ9 : String := "java/lang/Math"
def TJ9 : u_T := fun k => match k with
  | _ => ("", "", "", false)
def tyJ9 : Nat → FieldType := fun k => match k with
  | _ => .int
theorem nmJ9 : ∀ a, a < 0 → ∀ b, b < 0 → a ≠ b → (TJ9 a).2.1 ≠ (TJ9 b).2.1 := by decide +kernel
theorem tyJ9_ok : ∀ k, k < 0 → parseFieldDescriptor (TJ9 k).2.2.1 = some (tyJ9 k) := by decide +kernel
abbrev cJ9_min_7cf53 : ByteArray := prog_15_method_69_code
def yJ9_min_7cf53 : MethodName := ⟨RJ9, "min", "(II)I"⟩
def RJ10 : String := "java/lang/System"
def TJ10 : u_T := fun k => match k with
  | _ => ("", "", "", false)
def tyJ10 : Nat → FieldType := fun k => match k with
  | _ => .int
theorem nmJ10 : ∀ a, a < 0 → ∀ b, b < 0 → a ≠ b → (TJ10 a).2.1 ≠ (TJ10 b).2.1 := by decide +kernel
theorem tyJ10_ok : ∀ k, k < 0 → parseFieldDescriptor (TJ10 k).2.2.1 = some (tyJ10 k) := by decide +kernel
def RL : String := "PortLookLaw"
abbrev cL_law : ByteArray := code
def yL_law : MethodName := ⟨RL, "law", "([I)Z"⟩
abbrev vwCl : List vw_C := [(RX0, TX0, 7), (RX1, TX1, 7), (RX2, TX2, 6), (RX3, TX3, 2), (RX4, TX4, 1), (RX5, TX5, 10), (RX6, TX6, 4), (RX7, TX7, 3), (RX8, TX8, 3), (RX9, TX9, 4), (RX10, TX10, 19), (RX11, TX11, 48)]
end
section
theorem dX0_init_0 : decode cX0_init 0 = .ok (.aload_n 0, 1) := by decide +kernel
theorem dX0_init_1 : decode cX0_init 1 = .ok (.invokespecial 3, 3) := by decide +kernel
theorem dX0_init_4 : decode cX0_init 4 = .ok (.aload_n 0, 1) := by decide +kernel
theorem dX0_init_5 : decode cX0_init 5 = .ok (.bipush 8, 2) := by decide +kernel
theorem dX0_init_7 : decode cX0_init 7 = .ok (.newarray .int, 2) := by decide +kernel
theorem dX0_init_9 : decode cX0_init 9 = .ok (.putfield 9, 3) := by decide +kernel
theorem dX0_init_12 : decode cX0_init 12 = .ok (.aload_n 0, 1) := by decide +kernel
theorem dX0_init_13 : decode cX0_init 13 = .ok (.bipush 8, 2) := by decide +kernel
theorem dX0_init_15 : decode cX0_init 15 = .ok (.newarray .int, 2) := by decide +kernel
theorem dX0_init_17 : decode cX0_init 17 = .ok (.putfield 15, 3) := by decide +kernel
theorem dX0_init_20 : decode cX0_init 20 = .ok (.aload_n 0, 1) := by decide +kernel
theorem dX0_init_21 : decode cX0_init 21 = .ok (.bipush 8, 2) := by decide +kernel
theorem dX0_init_23 : decode cX0_init 23 = .ok (.newarray .int, 2) := by decide +kernel
theorem dX0_init_25 : decode cX0_init 25 = .ok (.putfield 18, 3) := by decide +kernel
theorem dX0_init_28 : decode cX0_init 28 = .ok (.aload_n 0, 1) := by decide +kernel
theorem dX0_init_29 : decode cX0_init 29 = .ok (.bipush 8, 2) := by decide +kernel
theorem dX0_init_31 : decode cX0_init 31 = .ok (.newarray .int, 2) := by decide +kernel
theorem dX0_init_33 : decode cX0_init 33 = .ok (.putfield 21, 3) := by decide +kernel
theorem dX0_init_36 : decode cX0_init 36 = .ok (.aload_n 0, 1) := by decide +kernel
theorem dX0_init_37 : decode cX0_init 37 = .ok (.bipush 8, 2) := by decide +kernel
theorem dX0_init_39 : decode cX0_init 39 = .ok (.newarray .int, 2) := by decide +kernel
theorem dX0_init_41 : decode cX0_init 41 = .ok (.putfield 24, 3) := by decide +kernel
theorem dX0_init_44 : decode cX0_init 44 = .ok (.return_, 1) := by decide +kernel
theorem dX0_add_0 : decode cX0_add 0 = .ok (.aload_n 0, 1) := by decide +kernel
theorem dX0_add_1 : decode cX0_add 1 = .ok (.getfield 9, 3) := by decide +kernel
theorem dX0_add_4 : decode cX0_add 4 = .ok (.aload_n 0, 1) := by decide +kernel
theorem dX0_add_5 : decode cX0_add 5 = .ok (.getfield 27, 3) := by decide +kernel
theorem dX0_add_8 : decode cX0_add 8 = .ok (.iload_n 1, 1) := by decide +kernel
theorem dX0_add_9 : decode cX0_add 9 = .ok (.iastore, 1) := by decide +kernel
theorem dX0_add_10 : decode cX0_add 10 = .ok (.aload_n 0, 1) := by decide +kernel
theorem dX0_add_11 : decode cX0_add 11 = .ok (.getfield 15, 3) := by decide +kernel
theorem dX0_add_14 : decode cX0_add 14 = .ok (.aload_n 0, 1) := by decide +kernel
theorem dX0_add_15 : decode cX0_add 15 = .ok (.getfield 27, 3) := by decide +kernel
theorem dX0_add_18 : decode cX0_add 18 = .ok (.iload_n 2, 1) := by decide +kernel
theorem dX0_add_19 : decode cX0_add 19 = .ok (.iastore, 1) := by decide +kernel
theorem dX0_add_20 : decode cX0_add 20 = .ok (.aload_n 0, 1) := by decide +kernel
theorem dX0_add_21 : decode cX0_add 21 = .ok (.getfield 18, 3) := by decide +kernel
theorem dX0_add_24 : decode cX0_add 24 = .ok (.aload_n 0, 1) := by decide +kernel
theorem dX0_add_25 : decode cX0_add 25 = .ok (.getfield 27, 3) := by decide +kernel
theorem dX0_add_28 : decode cX0_add 28 = .ok (.iload_n 3, 1) := by decide +kernel
theorem dX0_add_29 : decode cX0_add 29 = .ok (.iastore, 1) := by decide +kernel
theorem dX0_add_30 : decode cX0_add 30 = .ok (.aload_n 0, 1) := by decide +kernel
theorem dX0_add_31 : decode cX0_add 31 = .ok (.dup, 1) := by decide +kernel
theorem dX0_add_32 : decode cX0_add 32 = .ok (.getfield 27, 3) := by decide +kernel
theorem dX0_add_35 : decode cX0_add 35 = .ok (.iconst 1, 1) := by decide +kernel
theorem dX0_add_36 : decode cX0_add 36 = .ok (.iadd, 1) := by decide +kernel
theorem dX0_add_37 : decode cX0_add 37 = .ok (.putfield 27, 3) := by decide +kernel
theorem dX0_add_40 : decode cX0_add 40 = .ok (.return_, 1) := by decide +kernel
theorem dX0_placeOf_0 : decode cX0_placeOf 0 = .ok (.iconst 0, 1) := by decide +kernel
theorem dX0_placeOf_1 : decode cX0_placeOf 1 = .ok (.istore_n 2, 1) := by decide +kernel
theorem dX0_placeOf_2 : decode cX0_placeOf 2 = .ok (.iload_n 2, 1) := by decide +kernel
theorem dX0_placeOf_3 : decode cX0_placeOf 3 = .ok (.aload_n 0, 1) := by decide +kernel
theorem dX0_placeOf_4 : decode cX0_placeOf 4 = .ok (.getfield 27, 3) := by decide +kernel
theorem dX0_placeOf_7 : decode cX0_placeOf 7 = .ok (.if_icmp .ge 21, 3) := by decide +kernel
theorem dX0_placeOf_10 : decode cX0_placeOf 10 = .ok (.aload_n 0, 1) := by decide +kernel
theorem dX0_placeOf_11 : decode cX0_placeOf 11 = .ok (.getfield 9, 3) := by decide +kernel
theorem dX0_placeOf_14 : decode cX0_placeOf 14 = .ok (.iload_n 2, 1) := by decide +kernel
theorem dX0_placeOf_15 : decode cX0_placeOf 15 = .ok (.iaload, 1) := by decide +kernel
theorem dX0_placeOf_16 : decode cX0_placeOf 16 = .ok (.iload_n 1, 1) := by decide +kernel
theorem dX0_placeOf_17 : decode cX0_placeOf 17 = .ok (.if_icmp .ne 5, 3) := by decide +kernel
theorem dX0_placeOf_20 : decode cX0_placeOf 20 = .ok (.iload_n 2, 1) := by decide +kernel
theorem dX0_placeOf_21 : decode cX0_placeOf 21 = .ok (.ireturn, 1) := by decide +kernel
theorem dX0_placeOf_22 : decode cX0_placeOf 22 = .ok (.iinc 2 1, 3) := by decide +kernel
theorem dX0_placeOf_25 : decode cX0_placeOf 25 = .ok (.goto (-23), 3) := by decide +kernel
theorem dX0_placeOf_28 : decode cX0_placeOf 28 = .ok (.iconst (-1), 1) := by decide +kernel
theorem dX0_placeOf_29 : decode cX0_placeOf 29 = .ok (.ireturn, 1) := by decide +kernel
theorem dX0_settle_0 : decode cX0_settle 0 = .ok (.iconst 0, 1) := by decide +kernel
theorem dX0_settle_1 : decode cX0_settle 1 = .ok (.istore_n 3, 1) := by decide +kernel
theorem dX0_settle_2 : decode cX0_settle 2 = .ok (.iconst 0, 1) := by decide +kernel
theorem dX0_settle_3 : decode cX0_settle 3 = .ok (.istore 4, 2) := by decide +kernel
theorem dX0_settle_5 : decode cX0_settle 5 = .ok (.iload 4, 2) := by decide +kernel
theorem dX0_settle_7 : decode cX0_settle 7 = .ok (.aload_n 0, 1) := by decide +kernel
theorem dX0_settle_8 : decode cX0_settle 8 = .ok (.getfield 27, 3) := by decide +kernel
theorem dX0_settle_11 : decode cX0_settle 11 = .ok (.if_icmp .ge 19, 3) := by decide +kernel
theorem dX0_settle_14 : decode cX0_settle 14 = .ok (.iload_n 3, 1) := by decide +kernel
theorem dX0_settle_15 : decode cX0_settle 15 = .ok (.aload_n 0, 1) := by decide +kernel
theorem dX0_settle_16 : decode cX0_settle 16 = .ok (.getfield 18, 3) := by decide +kernel
theorem dX0_settle_19 : decode cX0_settle 19 = .ok (.iload 4, 2) := by decide +kernel
theorem dX0_settle_21 : decode cX0_settle 21 = .ok (.iaload, 1) := by decide +kernel
theorem dX0_settle_22 : decode cX0_settle 22 = .ok (.iadd, 1) := by decide +kernel
theorem dX0_settle_23 : decode cX0_settle 23 = .ok (.istore_n 3, 1) := by decide +kernel
theorem dX0_settle_24 : decode cX0_settle 24 = .ok (.iinc 4 1, 3) := by decide +kernel
theorem dX0_settle_27 : decode cX0_settle 27 = .ok (.goto (-22), 3) := by decide +kernel
theorem dX0_settle_30 : decode cX0_settle 30 = .ok (.aload_n 0, 1) := by decide +kernel
theorem dX0_settle_31 : decode cX0_settle 31 = .ok (.iconst (-1), 1) := by decide +kernel
theorem dX0_settle_32 : decode cX0_settle 32 = .ok (.putfield 31, 3) := by decide +kernel
theorem dX0_settle_35 : decode cX0_settle 35 = .ok (.aload_n 0, 1) := by decide +kernel
theorem dX0_settle_36 : decode cX0_settle 36 = .ok (.iconst 0, 1) := by decide +kernel
theorem dX0_settle_37 : decode cX0_settle 37 = .ok (.iload_n 1, 1) := by decide +kernel
theorem dX0_settle_38 : decode cX0_settle 38 = .ok (.iload_n 2, 1) := by decide +kernel
theorem dX0_settle_39 : decode cX0_settle 39 = .ok (.iconst 0, 1) := by decide +kernel
theorem dX0_settle_40 : decode cX0_settle 40 = .ok (.iload_n 3, 1) := by decide +kernel
theorem dX0_settle_41 : decode cX0_settle 41 = .ok (.invokevirtual 34, 3) := by decide +kernel
theorem dX0_settle_44 : decode cX0_settle 44 = .ok (.return_, 1) := by decide +kernel
theorem dX0_attempt_0 : decode cX0_attempt 0 = .ok (.iload 4, 2) := by decide +kernel
theorem dX0_attempt_2 : decode cX0_attempt 2 = .ok (.iload 5, 2) := by decide +kernel
theorem dX0_attempt_4 : decode cX0_attempt 4 = .ok (.iadd, 1) := by decide +kernel
theorem dX0_attempt_5 : decode cX0_attempt 5 = .ok (.aload_n 0, 1) := by decide +kernel
theorem dX0_attempt_6 : decode cX0_attempt 6 = .ok (.getfield 31, 3) := by decide +kernel
theorem dX0_attempt_9 : decode cX0_attempt 9 = .ok (.if_icmp .gt 4, 3) := by decide +kernel
theorem dX0_attempt_12 : decode cX0_attempt 12 = .ok (.return_, 1) := by decide +kernel
theorem dX0_attempt_13 : decode cX0_attempt 13 = .ok (.iload_n 1, 1) := by decide +kernel
theorem dX0_attempt_14 : decode cX0_attempt 14 = .ok (.aload_n 0, 1) := by decide +kernel
theorem dX0_attempt_15 : decode cX0_attempt 15 = .ok (.getfield 27, 3) := by decide +kernel
theorem dX0_attempt_18 : decode cX0_attempt 18 = .ok (.if_icmp .lt 27, 3) := by decide +kernel
theorem dX0_attempt_21 : decode cX0_attempt 21 = .ok (.aload_n 0, 1) := by decide +kernel
theorem dX0_attempt_22 : decode cX0_attempt 22 = .ok (.iload 4, 2) := by decide +kernel
theorem dX0_attempt_24 : decode cX0_attempt 24 = .ok (.putfield 31, 3) := by decide +kernel
theorem dX0_attempt_27 : decode cX0_attempt 27 = .ok (.aload_n 0, 1) := by decide +kernel
theorem dX0_attempt_28 : decode cX0_attempt 28 = .ok (.getfield 21, 3) := by decide +kernel
theorem dX0_attempt_31 : decode cX0_attempt 31 = .ok (.iconst 0, 1) := by decide +kernel
theorem dX0_attempt_32 : decode cX0_attempt 32 = .ok (.aload_n 0, 1) := by decide +kernel
theorem dX0_attempt_33 : decode cX0_attempt 33 = .ok (.getfield 24, 3) := by decide +kernel
theorem dX0_attempt_36 : decode cX0_attempt 36 = .ok (.iconst 0, 1) := by decide +kernel
theorem dX0_attempt_37 : decode cX0_attempt 37 = .ok (.aload_n 0, 1) := by decide +kernel
theorem dX0_attempt_38 : decode cX0_attempt 38 = .ok (.getfield 27, 3) := by decide +kernel
theorem dX0_attempt_41 : decode cX0_attempt 41 = .ok (.invokestatic 38, 3) := by decide +kernel
theorem dX0_attempt_44 : decode cX0_attempt 44 = .ok (.return_, 1) := by decide +kernel
theorem dX0_attempt_45 : decode cX0_attempt 45 = .ok (.aload_n 0, 1) := by decide +kernel
theorem dX0_attempt_46 : decode cX0_attempt 46 = .ok (.getfield 15, 3) := by decide +kernel
theorem dX0_attempt_49 : decode cX0_attempt 49 = .ok (.iload_n 1, 1) := by decide +kernel
theorem dX0_attempt_50 : decode cX0_attempt 50 = .ok (.iaload, 1) := by decide +kernel
theorem dX0_attempt_51 : decode cX0_attempt 51 = .ok (.istore 6, 2) := by decide +kernel
theorem dX0_attempt_53 : decode cX0_attempt 53 = .ok (.aload_n 0, 1) := by decide +kernel
theorem dX0_attempt_54 : decode cX0_attempt 54 = .ok (.getfield 18, 3) := by decide +kernel
theorem dX0_attempt_57 : decode cX0_attempt 57 = .ok (.iload_n 1, 1) := by decide +kernel
theorem dX0_attempt_58 : decode cX0_attempt 58 = .ok (.iaload, 1) := by decide +kernel
theorem dX0_attempt_59 : decode cX0_attempt 59 = .ok (.istore 7, 2) := by decide +kernel
theorem dX0_attempt_61 : decode cX0_attempt 61 = .ok (.iload 6, 2) := by decide +kernel
theorem dX0_attempt_63 : decode cX0_attempt 63 = .ok (.iload_n 2, 1) := by decide +kernel
theorem dX0_attempt_64 : decode cX0_attempt 64 = .ok (.if_icmp .gt 32, 3) := by decide +kernel
theorem dX0_attempt_67 : decode cX0_attempt 67 = .ok (.aload_n 0, 1) := by decide +kernel
theorem dX0_attempt_68 : decode cX0_attempt 68 = .ok (.getfield 21, 3) := by decide +kernel
theorem dX0_attempt_71 : decode cX0_attempt 71 = .ok (.iload_n 1, 1) := by decide +kernel
theorem dX0_attempt_72 : decode cX0_attempt 72 = .ok (.iconst 1, 1) := by decide +kernel
theorem dX0_attempt_73 : decode cX0_attempt 73 = .ok (.iastore, 1) := by decide +kernel
theorem dX0_attempt_74 : decode cX0_attempt 74 = .ok (.aload_n 0, 1) := by decide +kernel
theorem dX0_attempt_75 : decode cX0_attempt 75 = .ok (.iload_n 1, 1) := by decide +kernel
theorem dX0_attempt_76 : decode cX0_attempt 76 = .ok (.iconst 1, 1) := by decide +kernel
theorem dX0_attempt_77 : decode cX0_attempt 77 = .ok (.iadd, 1) := by decide +kernel
theorem dX0_attempt_78 : decode cX0_attempt 78 = .ok (.iload_n 2, 1) := by decide +kernel
theorem dX0_attempt_79 : decode cX0_attempt 79 = .ok (.iload 6, 2) := by decide +kernel
theorem dX0_attempt_81 : decode cX0_attempt 81 = .ok (.isub, 1) := by decide +kernel
theorem dX0_attempt_82 : decode cX0_attempt 82 = .ok (.iload_n 3, 1) := by decide +kernel
theorem dX0_attempt_83 : decode cX0_attempt 83 = .ok (.iload 4, 2) := by decide +kernel
theorem dX0_attempt_85 : decode cX0_attempt 85 = .ok (.iload 7, 2) := by decide +kernel
theorem dX0_attempt_87 : decode cX0_attempt 87 = .ok (.iadd, 1) := by decide +kernel
theorem dX0_attempt_88 : decode cX0_attempt 88 = .ok (.iload 5, 2) := by decide +kernel
theorem dX0_attempt_90 : decode cX0_attempt 90 = .ok (.iload 7, 2) := by decide +kernel
theorem dX0_attempt_92 : decode cX0_attempt 92 = .ok (.isub, 1) := by decide +kernel
theorem dX0_attempt_93 : decode cX0_attempt 93 = .ok (.invokevirtual 34, 3) := by decide +kernel
theorem dX0_attempt_96 : decode cX0_attempt 96 = .ok (.iload 6, 2) := by decide +kernel
theorem dX0_attempt_98 : decode cX0_attempt 98 = .ok (.iload_n 3, 1) := by decide +kernel
theorem dX0_attempt_99 : decode cX0_attempt 99 = .ok (.if_icmp .gt 32, 3) := by decide +kernel
theorem dX0_attempt_102 : decode cX0_attempt 102 = .ok (.aload_n 0, 1) := by decide +kernel
theorem dX0_attempt_103 : decode cX0_attempt 103 = .ok (.getfield 21, 3) := by decide +kernel
theorem dX0_attempt_106 : decode cX0_attempt 106 = .ok (.iload_n 1, 1) := by decide +kernel
theorem dX0_attempt_107 : decode cX0_attempt 107 = .ok (.iconst 2, 1) := by decide +kernel
theorem dX0_attempt_108 : decode cX0_attempt 108 = .ok (.iastore, 1) := by decide +kernel
theorem dX0_attempt_109 : decode cX0_attempt 109 = .ok (.aload_n 0, 1) := by decide +kernel
theorem dX0_attempt_110 : decode cX0_attempt 110 = .ok (.iload_n 1, 1) := by decide +kernel
theorem dX0_attempt_111 : decode cX0_attempt 111 = .ok (.iconst 1, 1) := by decide +kernel
theorem dX0_attempt_112 : decode cX0_attempt 112 = .ok (.iadd, 1) := by decide +kernel
theorem dX0_attempt_113 : decode cX0_attempt 113 = .ok (.iload_n 2, 1) := by decide +kernel
theorem dX0_attempt_114 : decode cX0_attempt 114 = .ok (.iload_n 3, 1) := by decide +kernel
theorem dX0_attempt_115 : decode cX0_attempt 115 = .ok (.iload 6, 2) := by decide +kernel
theorem dX0_attempt_117 : decode cX0_attempt 117 = .ok (.isub, 1) := by decide +kernel
theorem dX0_attempt_118 : decode cX0_attempt 118 = .ok (.iload 4, 2) := by decide +kernel
theorem dX0_attempt_120 : decode cX0_attempt 120 = .ok (.iload 7, 2) := by decide +kernel
theorem dX0_attempt_122 : decode cX0_attempt 122 = .ok (.iadd, 1) := by decide +kernel
theorem dX0_attempt_123 : decode cX0_attempt 123 = .ok (.iload 5, 2) := by decide +kernel
theorem dX0_attempt_125 : decode cX0_attempt 125 = .ok (.iload 7, 2) := by decide +kernel
theorem dX0_attempt_127 : decode cX0_attempt 127 = .ok (.isub, 1) := by decide +kernel
theorem dX0_attempt_128 : decode cX0_attempt 128 = .ok (.invokevirtual 34, 3) := by decide +kernel
theorem dX0_attempt_131 : decode cX0_attempt 131 = .ok (.aload_n 0, 1) := by decide +kernel
theorem dX0_attempt_132 : decode cX0_attempt 132 = .ok (.getfield 21, 3) := by decide +kernel
theorem dX0_attempt_135 : decode cX0_attempt 135 = .ok (.iload_n 1, 1) := by decide +kernel
theorem dX0_attempt_136 : decode cX0_attempt 136 = .ok (.iconst 0, 1) := by decide +kernel
theorem dX0_attempt_137 : decode cX0_attempt 137 = .ok (.iastore, 1) := by decide +kernel
theorem dX0_attempt_138 : decode cX0_attempt 138 = .ok (.aload_n 0, 1) := by decide +kernel
theorem dX0_attempt_139 : decode cX0_attempt 139 = .ok (.iload_n 1, 1) := by decide +kernel
theorem dX0_attempt_140 : decode cX0_attempt 140 = .ok (.iconst 1, 1) := by decide +kernel
theorem dX0_attempt_141 : decode cX0_attempt 141 = .ok (.iadd, 1) := by decide +kernel
theorem dX0_attempt_142 : decode cX0_attempt 142 = .ok (.iload_n 2, 1) := by decide +kernel
theorem dX0_attempt_143 : decode cX0_attempt 143 = .ok (.iload_n 3, 1) := by decide +kernel
theorem dX0_attempt_144 : decode cX0_attempt 144 = .ok (.iload 4, 2) := by decide +kernel
theorem dX0_attempt_146 : decode cX0_attempt 146 = .ok (.iload 5, 2) := by decide +kernel
theorem dX0_attempt_148 : decode cX0_attempt 148 = .ok (.iload 7, 2) := by decide +kernel
theorem dX0_attempt_150 : decode cX0_attempt 150 = .ok (.isub, 1) := by decide +kernel
theorem dX0_attempt_151 : decode cX0_attempt 151 = .ok (.invokevirtual 34, 3) := by decide +kernel
theorem dX0_attempt_154 : decode cX0_attempt 154 = .ok (.return_, 1) := by decide +kernel
theorem dX1_init_0 : decode cX1_init 0 = .ok (.aload_n 0, 1) := by decide +kernel
theorem dX1_init_1 : decode cX1_init 1 = .ok (.invokespecial 1, 3) := by decide +kernel
theorem dX1_init_4 : decode cX1_init 4 = .ok (.aload_n 0, 1) := by decide +kernel
theorem dX1_init_5 : decode cX1_init 5 = .ok (.iconst (-1), 1) := by decide +kernel
theorem dX1_init_6 : decode cX1_init 6 = .ok (.putfield 7, 3) := by decide +kernel
theorem dX1_init_9 : decode cX1_init 9 = .ok (.aload_n 0, 1) := by decide +kernel
theorem dX1_init_10 : decode cX1_init 10 = .ok (.iload_n 1, 1) := by decide +kernel
theorem dX1_init_11 : decode cX1_init 11 = .ok (.putfield 13, 3) := by decide +kernel
theorem dX1_init_14 : decode cX1_init 14 = .ok (.aload_n 0, 1) := by decide +kernel
theorem dX1_init_15 : decode cX1_init 15 = .ok (.aload_n 2, 1) := by decide +kernel
theorem dX1_init_16 : decode cX1_init 16 = .ok (.putfield 16, 3) := by decide +kernel
theorem dX1_init_19 : decode cX1_init 19 = .ok (.aload_n 0, 1) := by decide +kernel
theorem dX1_init_20 : decode cX1_init 20 = .ok (.iload_n 3, 1) := by decide +kernel
theorem dX1_init_21 : decode cX1_init 21 = .ok (.putfield 20, 3) := by decide +kernel
theorem dX1_init_24 : decode cX1_init 24 = .ok (.aload_n 0, 1) := by decide +kernel
theorem dX1_init_25 : decode cX1_init 25 = .ok (.iload 4, 2) := by decide +kernel
theorem dX1_init_27 : decode cX1_init 27 = .ok (.putfield 23, 3) := by decide +kernel
theorem dX1_init_30 : decode cX1_init 30 = .ok (.return_, 1) := by decide +kernel
theorem dX1_isOver_0 : decode cX1_isOver 0 = .ok (.aload_n 0, 1) := by decide +kernel
theorem dX1_isOver_1 : decode cX1_isOver 1 = .ok (.getfield 7, 3) := by decide +kernel
theorem dX1_isOver_4 : decode cX1_isOver 4 = .ok (.ifCond .lt 7, 3) := by decide +kernel
theorem dX1_isOver_7 : decode cX1_isOver 7 = .ok (.iconst 1, 1) := by decide +kernel
theorem dX1_isOver_8 : decode cX1_isOver 8 = .ok (.goto 4, 3) := by decide +kernel
theorem dX1_isOver_11 : decode cX1_isOver 11 = .ok (.iconst 0, 1) := by decide +kernel
theorem dX1_isOver_12 : decode cX1_isOver 12 = .ok (.ireturn, 1) := by decide +kernel
theorem dX2_init_0 : decode cX2_init 0 = .ok (.aload_n 0, 1) := by decide +kernel
theorem dX2_init_1 : decode cX2_init 1 = .ok (.invokespecial 1, 3) := by decide +kernel
theorem dX2_init_4 : decode cX2_init 4 = .ok (.aload_n 0, 1) := by decide +kernel
theorem dX2_init_5 : decode cX2_init 5 = .ok (.aload_n 1, 1) := by decide +kernel
theorem dX2_init_6 : decode cX2_init 6 = .ok (.putfield 7, 3) := by decide +kernel
theorem dX2_init_9 : decode cX2_init 9 = .ok (.aload_n 0, 1) := by decide +kernel
theorem dX2_init_10 : decode cX2_init 10 = .ok (.iload_n 2, 1) := by decide +kernel
theorem dX2_init_11 : decode cX2_init 11 = .ok (.putfield 13, 3) := by decide +kernel
theorem dX2_init_14 : decode cX2_init 14 = .ok (.aload_n 0, 1) := by decide +kernel
theorem dX2_init_15 : decode cX2_init 15 = .ok (.iload_n 3, 1) := by decide +kernel
theorem dX2_init_16 : decode cX2_init 16 = .ok (.putfield 17, 3) := by decide +kernel
theorem dX2_init_19 : decode cX2_init 19 = .ok (.aload_n 0, 1) := by decide +kernel
theorem dX2_init_20 : decode cX2_init 20 = .ok (.iload 4, 2) := by decide +kernel
theorem dX2_init_22 : decode cX2_init 22 = .ok (.putfield 20, 3) := by decide +kernel
theorem dX2_init_25 : decode cX2_init 25 = .ok (.aload_n 0, 1) := by decide +kernel
theorem dX2_init_26 : decode cX2_init 26 = .ok (.iload 5, 2) := by decide +kernel
theorem dX2_init_28 : decode cX2_init 28 = .ok (.putfield 23, 3) := by decide +kernel
theorem dX2_init_31 : decode cX2_init 31 = .ok (.return_, 1) := by decide +kernel
theorem dX2_isDrawn_0 : decode cX2_isDrawn 0 = .ok (.aload_n 0, 1) := by decide +kernel
theorem dX2_isDrawn_1 : decode cX2_isDrawn 1 = .ok (.getfield 27, 3) := by decide +kernel
theorem dX2_isDrawn_4 : decode cX2_isDrawn 4 = .ok (.ifCond .le 7, 3) := by decide +kernel
theorem dX2_isDrawn_7 : decode cX2_isDrawn 7 = .ok (.iconst 1, 1) := by decide +kernel
theorem dX2_isDrawn_8 : decode cX2_isDrawn 8 = .ok (.goto 4, 3) := by decide +kernel
theorem dX2_isDrawn_11 : decode cX2_isDrawn 11 = .ok (.iconst 0, 1) := by decide +kernel
theorem dX2_isDrawn_12 : decode cX2_isDrawn 12 = .ok (.ireturn, 1) := by decide +kernel
theorem dX2_isDoubleOf_0 : decode cX2_isDoubleOf 0 = .ok (.aload_n 0, 1) := by decide +kernel
theorem dX2_isDoubleOf_1 : decode cX2_isDoubleOf 1 = .ok (.getfield 7, 3) := by decide +kernel
theorem dX2_isDoubleOf_4 : decode cX2_isDoubleOf 4 = .ok (.aload_n 1, 1) := by decide +kernel
theorem dX2_isDoubleOf_5 : decode cX2_isDoubleOf 5 = .ok (.getfield 7, 3) := by decide +kernel
theorem dX2_isDoubleOf_8 : decode cX2_isDoubleOf 8 = .ok (.if_acmp .ne 18, 3) := by decide +kernel
theorem dX2_isDoubleOf_11 : decode cX2_isDoubleOf 11 = .ok (.aload_n 0, 1) := by decide +kernel
theorem dX2_isDoubleOf_12 : decode cX2_isDoubleOf 12 = .ok (.getfield 13, 3) := by decide +kernel
theorem dX2_isDoubleOf_15 : decode cX2_isDoubleOf 15 = .ok (.aload_n 1, 1) := by decide +kernel
theorem dX2_isDoubleOf_16 : decode cX2_isDoubleOf 16 = .ok (.getfield 13, 3) := by decide +kernel
theorem dX2_isDoubleOf_19 : decode cX2_isDoubleOf 19 = .ok (.if_icmp .eq 7, 3) := by decide +kernel
theorem dX2_isDoubleOf_22 : decode cX2_isDoubleOf 22 = .ok (.iconst 1, 1) := by decide +kernel
theorem dX2_isDoubleOf_23 : decode cX2_isDoubleOf 23 = .ok (.goto 4, 3) := by decide +kernel
theorem dX2_isDoubleOf_26 : decode cX2_isDoubleOf 26 = .ok (.iconst 0, 1) := by decide +kernel
theorem dX2_isDoubleOf_27 : decode cX2_isDoubleOf 27 = .ok (.ireturn, 1) := by decide +kernel
theorem dX3_init_0 : decode cX3_init 0 = .ok (.aload_n 0, 1) := by decide +kernel
theorem dX3_init_1 : decode cX3_init 1 = .ok (.invokespecial 3, 3) := by decide +kernel
theorem dX3_init_4 : decode cX3_init 4 = .ok (.aload_n 0, 1) := by decide +kernel
theorem dX3_init_5 : decode cX3_init 5 = .ok (.bipush 10, 2) := by decide +kernel
theorem dX3_init_7 : decode cX3_init 7 = .ok (.newarray .int, 2) := by decide +kernel
theorem dX3_init_9 : decode cX3_init 9 = .ok (.dup, 1) := by decide +kernel
theorem dX3_init_10 : decode cX3_init 10 = .ok (.iconst 0, 1) := by decide +kernel
theorem dX3_init_11 : decode cX3_init 11 = .ok (.iconst 0, 1) := by decide +kernel
theorem dX3_init_12 : decode cX3_init 12 = .ok (.iastore, 1) := by decide +kernel
theorem dX3_init_13 : decode cX3_init 13 = .ok (.dup, 1) := by decide +kernel
theorem dX3_init_14 : decode cX3_init 14 = .ok (.iconst 1, 1) := by decide +kernel
theorem dX3_init_15 : decode cX3_init 15 = .ok (.iconst 1, 1) := by decide +kernel
theorem dX3_init_16 : decode cX3_init 16 = .ok (.iastore, 1) := by decide +kernel
theorem dX3_init_17 : decode cX3_init 17 = .ok (.dup, 1) := by decide +kernel
theorem dX3_init_18 : decode cX3_init 18 = .ok (.iconst 2, 1) := by decide +kernel
theorem dX3_init_19 : decode cX3_init 19 = .ok (.iconst 2, 1) := by decide +kernel
theorem dX3_init_20 : decode cX3_init 20 = .ok (.iastore, 1) := by decide +kernel
theorem dX3_init_21 : decode cX3_init 21 = .ok (.dup, 1) := by decide +kernel
theorem dX3_init_22 : decode cX3_init 22 = .ok (.iconst 3, 1) := by decide +kernel
theorem dX3_init_23 : decode cX3_init 23 = .ok (.iconst 3, 1) := by decide +kernel
theorem dX3_init_24 : decode cX3_init 24 = .ok (.iastore, 1) := by decide +kernel
theorem dX3_init_25 : decode cX3_init 25 = .ok (.dup, 1) := by decide +kernel
theorem dX3_init_26 : decode cX3_init 26 = .ok (.iconst 4, 1) := by decide +kernel
theorem dX3_init_27 : decode cX3_init 27 = .ok (.iconst 4, 1) := by decide +kernel
theorem dX3_init_28 : decode cX3_init 28 = .ok (.iastore, 1) := by decide +kernel
theorem dX3_init_29 : decode cX3_init 29 = .ok (.dup, 1) := by decide +kernel
theorem dX3_init_30 : decode cX3_init 30 = .ok (.iconst 5, 1) := by decide +kernel
theorem dX3_init_31 : decode cX3_init 31 = .ok (.iconst 5, 1) := by decide +kernel
theorem dX3_init_32 : decode cX3_init 32 = .ok (.iastore, 1) := by decide +kernel
theorem dX3_init_33 : decode cX3_init 33 = .ok (.dup, 1) := by decide +kernel
theorem dX3_init_34 : decode cX3_init 34 = .ok (.bipush 6, 2) := by decide +kernel
theorem dX3_init_36 : decode cX3_init 36 = .ok (.bipush 6, 2) := by decide +kernel
theorem dX3_init_38 : decode cX3_init 38 = .ok (.iastore, 1) := by decide +kernel
theorem dX3_init_39 : decode cX3_init 39 = .ok (.dup, 1) := by decide +kernel
theorem dX3_init_40 : decode cX3_init 40 = .ok (.bipush 7, 2) := by decide +kernel
theorem dX3_init_42 : decode cX3_init 42 = .ok (.bipush 7, 2) := by decide +kernel
theorem dX3_init_44 : decode cX3_init 44 = .ok (.iastore, 1) := by decide +kernel
theorem dX3_init_45 : decode cX3_init 45 = .ok (.dup, 1) := by decide +kernel
theorem dX3_init_46 : decode cX3_init 46 = .ok (.bipush 8, 2) := by decide +kernel
theorem dX3_init_48 : decode cX3_init 48 = .ok (.bipush 8, 2) := by decide +kernel
theorem dX3_init_50 : decode cX3_init 50 = .ok (.iastore, 1) := by decide +kernel
theorem dX3_init_51 : decode cX3_init 51 = .ok (.dup, 1) := by decide +kernel
theorem dX3_init_52 : decode cX3_init 52 = .ok (.bipush 9, 2) := by decide +kernel
theorem dX3_init_54 : decode cX3_init 54 = .ok (.bipush 9, 2) := by decide +kernel
theorem dX3_init_56 : decode cX3_init 56 = .ok (.iastore, 1) := by decide +kernel
theorem dX3_init_57 : decode cX3_init 57 = .ok (.putfield 9, 3) := by decide +kernel
theorem dX3_init_60 : decode cX3_init 60 = .ok (.return_, 1) := by decide +kernel
theorem dX3_join_0 : decode cX3_join 0 = .ok (.aload_n 0, 1) := by decide +kernel
theorem dX3_join_1 : decode cX3_join 1 = .ok (.getfield 9, 3) := by decide +kernel
theorem dX3_join_4 : decode cX3_join 4 = .ok (.iload_n 1, 1) := by decide +kernel
theorem dX3_join_5 : decode cX3_join 5 = .ok (.iaload, 1) := by decide +kernel
theorem dX3_join_6 : decode cX3_join 6 = .ok (.istore_n 3, 1) := by decide +kernel
theorem dX3_join_7 : decode cX3_join 7 = .ok (.aload_n 0, 1) := by decide +kernel
theorem dX3_join_8 : decode cX3_join 8 = .ok (.getfield 9, 3) := by decide +kernel
theorem dX3_join_11 : decode cX3_join 11 = .ok (.iload_n 2, 1) := by decide +kernel
theorem dX3_join_12 : decode cX3_join 12 = .ok (.iaload, 1) := by decide +kernel
theorem dX3_join_13 : decode cX3_join 13 = .ok (.istore 4, 2) := by decide +kernel
theorem dX3_join_15 : decode cX3_join 15 = .ok (.iconst 0, 1) := by decide +kernel
theorem dX3_join_16 : decode cX3_join 16 = .ok (.istore 5, 2) := by decide +kernel
theorem dX3_join_18 : decode cX3_join 18 = .ok (.iload 5, 2) := by decide +kernel
theorem dX3_join_20 : decode cX3_join 20 = .ok (.bipush 10, 2) := by decide +kernel
theorem dX3_join_22 : decode cX3_join 22 = .ok (.if_icmp .ge 29, 3) := by decide +kernel
theorem dX3_join_25 : decode cX3_join 25 = .ok (.aload_n 0, 1) := by decide +kernel
theorem dX3_join_26 : decode cX3_join 26 = .ok (.getfield 9, 3) := by decide +kernel
theorem dX3_join_29 : decode cX3_join 29 = .ok (.iload 5, 2) := by decide +kernel
theorem dX3_join_31 : decode cX3_join 31 = .ok (.iaload, 1) := by decide +kernel
theorem dX3_join_32 : decode cX3_join 32 = .ok (.iload 4, 2) := by decide +kernel
theorem dX3_join_34 : decode cX3_join 34 = .ok (.if_icmp .ne 11, 3) := by decide +kernel
theorem dX3_join_37 : decode cX3_join 37 = .ok (.aload_n 0, 1) := by decide +kernel
theorem dX3_join_38 : decode cX3_join 38 = .ok (.getfield 9, 3) := by decide +kernel
theorem dX3_join_41 : decode cX3_join 41 = .ok (.iload 5, 2) := by decide +kernel
theorem dX3_join_43 : decode cX3_join 43 = .ok (.iload_n 3, 1) := by decide +kernel
theorem dX3_join_44 : decode cX3_join 44 = .ok (.iastore, 1) := by decide +kernel
theorem dX3_join_45 : decode cX3_join 45 = .ok (.iinc 5 1, 3) := by decide +kernel
theorem dX3_join_48 : decode cX3_join 48 = .ok (.goto (-30), 3) := by decide +kernel
theorem dX3_join_51 : decode cX3_join 51 = .ok (.aload_n 0, 1) := by decide +kernel
theorem dX3_join_52 : decode cX3_join 52 = .ok (.dup, 1) := by decide +kernel
theorem dX3_join_53 : decode cX3_join 53 = .ok (.getfield 15, 3) := by decide +kernel
theorem dX3_join_56 : decode cX3_join 56 = .ok (.iconst 1, 1) := by decide +kernel
theorem dX3_join_57 : decode cX3_join 57 = .ok (.iadd, 1) := by decide +kernel
theorem dX3_join_58 : decode cX3_join 58 = .ok (.putfield 15, 3) := by decide +kernel
theorem dX3_join_61 : decode cX3_join 61 = .ok (.return_, 1) := by decide +kernel
theorem dX3_areOne_0 : decode cX3_areOne 0 = .ok (.aload_n 0, 1) := by decide +kernel
theorem dX3_areOne_1 : decode cX3_areOne 1 = .ok (.getfield 9, 3) := by decide +kernel
theorem dX3_areOne_4 : decode cX3_areOne 4 = .ok (.iload_n 1, 1) := by decide +kernel
theorem dX3_areOne_5 : decode cX3_areOne 5 = .ok (.iaload, 1) := by decide +kernel
theorem dX3_areOne_6 : decode cX3_areOne 6 = .ok (.aload_n 0, 1) := by decide +kernel
theorem dX3_areOne_7 : decode cX3_areOne 7 = .ok (.getfield 9, 3) := by decide +kernel
theorem dX3_areOne_10 : decode cX3_areOne 10 = .ok (.iload_n 2, 1) := by decide +kernel
theorem dX3_areOne_11 : decode cX3_areOne 11 = .ok (.iaload, 1) := by decide +kernel
theorem dX3_areOne_12 : decode cX3_areOne 12 = .ok (.if_icmp .ne 7, 3) := by decide +kernel
theorem dX3_areOne_15 : decode cX3_areOne 15 = .ok (.iconst 1, 1) := by decide +kernel
theorem dX3_areOne_16 : decode cX3_areOne 16 = .ok (.goto 4, 3) := by decide +kernel
theorem dX3_areOne_19 : decode cX3_areOne 19 = .ok (.iconst 0, 1) := by decide +kernel
theorem dX3_areOne_20 : decode cX3_areOne 20 = .ok (.ireturn, 1) := by decide +kernel
theorem dX4_init_0 : decode cX4_init 0 = .ok (.aload_n 0, 1) := by decide +kernel
theorem dX4_init_1 : decode cX4_init 1 = .ok (.invokespecial 3, 3) := by decide +kernel
theorem dX4_init_4 : decode cX4_init 4 = .ok (.aload_n 0, 1) := by decide +kernel
theorem dX4_init_5 : decode cX4_init 5 = .ok (.bipush 7, 2) := by decide +kernel
theorem dX4_init_7 : decode cX4_init 7 = .ok (.newarray .int, 2) := by decide +kernel
theorem dX4_init_9 : decode cX4_init 9 = .ok (.putfield 9, 3) := by decide +kernel
theorem dX4_init_12 : decode cX4_init 12 = .ok (.return_, 1) := by decide +kernel
theorem dX4_putDay_0 : decode cX4_putDay 0 = .ok (.iconst 1, 1) := by decide +kernel
theorem dX4_putDay_1 : decode cX4_putDay 1 = .ok (.istore_n 2, 1) := by decide +kernel
theorem dX4_putDay_2 : decode cX4_putDay 2 = .ok (.iload_n 2, 1) := by decide +kernel
theorem dX4_putDay_3 : decode cX4_putDay 3 = .ok (.bipush 7, 2) := by decide +kernel
theorem dX4_putDay_5 : decode cX4_putDay 5 = .ok (.if_icmp .ge 23, 3) := by decide +kernel
theorem dX4_putDay_8 : decode cX4_putDay 8 = .ok (.aload_n 0, 1) := by decide +kernel
theorem dX4_putDay_9 : decode cX4_putDay 9 = .ok (.getfield 9, 3) := by decide +kernel
theorem dX4_putDay_12 : decode cX4_putDay 12 = .ok (.iload_n 2, 1) := by decide +kernel
theorem dX4_putDay_13 : decode cX4_putDay 13 = .ok (.iconst 1, 1) := by decide +kernel
theorem dX4_putDay_14 : decode cX4_putDay 14 = .ok (.isub, 1) := by decide +kernel
theorem dX4_putDay_15 : decode cX4_putDay 15 = .ok (.aload_n 0, 1) := by decide +kernel
theorem dX4_putDay_16 : decode cX4_putDay 16 = .ok (.getfield 9, 3) := by decide +kernel
theorem dX4_putDay_19 : decode cX4_putDay 19 = .ok (.iload_n 2, 1) := by decide +kernel
theorem dX4_putDay_20 : decode cX4_putDay 20 = .ok (.iaload, 1) := by decide +kernel
theorem dX4_putDay_21 : decode cX4_putDay 21 = .ok (.iastore, 1) := by decide +kernel
theorem dX4_putDay_22 : decode cX4_putDay 22 = .ok (.iinc 2 1, 3) := by decide +kernel
theorem dX4_putDay_25 : decode cX4_putDay 25 = .ok (.goto (-23), 3) := by decide +kernel
theorem dX4_putDay_28 : decode cX4_putDay 28 = .ok (.aload_n 0, 1) := by decide +kernel
theorem dX4_putDay_29 : decode cX4_putDay 29 = .ok (.getfield 9, 3) := by decide +kernel
theorem dX4_putDay_32 : decode cX4_putDay 32 = .ok (.bipush 6, 2) := by decide +kernel
theorem dX4_putDay_34 : decode cX4_putDay 34 = .ok (.iload_n 1, 1) := by decide +kernel
theorem dX4_putDay_35 : decode cX4_putDay 35 = .ok (.iastore, 1) := by decide +kernel
theorem dX4_putDay_36 : decode cX4_putDay 36 = .ok (.return_, 1) := by decide +kernel
theorem dX4_hoursOfRest_0 : decode cX4_hoursOfRest 0 = .ok (.iconst 0, 1) := by decide +kernel
theorem dX4_hoursOfRest_1 : decode cX4_hoursOfRest 1 = .ok (.istore_n 1, 1) := by decide +kernel
theorem dX4_hoursOfRest_2 : decode cX4_hoursOfRest 2 = .ok (.iconst 0, 1) := by decide +kernel
theorem dX4_hoursOfRest_3 : decode cX4_hoursOfRest 3 = .ok (.istore_n 2, 1) := by decide +kernel
theorem dX4_hoursOfRest_4 : decode cX4_hoursOfRest 4 = .ok (.iload_n 2, 1) := by decide +kernel
theorem dX4_hoursOfRest_5 : decode cX4_hoursOfRest 5 = .ok (.bipush 7, 2) := by decide +kernel
theorem dX4_hoursOfRest_7 : decode cX4_hoursOfRest 7 = .ok (.if_icmp .ge 21, 3) := by decide +kernel
theorem dX4_hoursOfRest_10 : decode cX4_hoursOfRest 10 = .ok (.iload_n 1, 1) := by decide +kernel
theorem dX4_hoursOfRest_11 : decode cX4_hoursOfRest 11 = .ok (.aload_n 0, 1) := by decide +kernel
theorem dX4_hoursOfRest_12 : decode cX4_hoursOfRest 12 = .ok (.getfield 9, 3) := by decide +kernel
theorem dX4_hoursOfRest_15 : decode cX4_hoursOfRest 15 = .ok (.iload_n 2, 1) := by decide +kernel
theorem dX4_hoursOfRest_16 : decode cX4_hoursOfRest 16 = .ok (.iaload, 1) := by decide +kernel
theorem dX4_hoursOfRest_17 : decode cX4_hoursOfRest 17 = .ok (.invokestatic 15, 3) := by decide +kernel
theorem dX4_hoursOfRest_20 : decode cX4_hoursOfRest 20 = .ok (.iadd, 1) := by decide +kernel
theorem dX4_hoursOfRest_21 : decode cX4_hoursOfRest 21 = .ok (.istore_n 1, 1) := by decide +kernel
theorem dX4_hoursOfRest_22 : decode cX4_hoursOfRest 22 = .ok (.iinc 2 1, 3) := by decide +kernel
theorem dX4_hoursOfRest_25 : decode cX4_hoursOfRest 25 = .ok (.goto (-21), 3) := by decide +kernel
theorem dX4_hoursOfRest_28 : decode cX4_hoursOfRest 28 = .ok (.iload_n 1, 1) := by decide +kernel
theorem dX4_hoursOfRest_29 : decode cX4_hoursOfRest 29 = .ok (.ireturn, 1) := by decide +kernel
theorem dX4_restIn_0 : decode cX4_restIn 0 = .ok (.aload_n 0, 1) := by decide +kernel
theorem dX4_restIn_1 : decode cX4_restIn 1 = .ok (.getfield 9, 3) := by decide +kernel
theorem dX4_restIn_4 : decode cX4_restIn 4 = .ok (.iload_n 1, 1) := by decide +kernel
theorem dX4_restIn_5 : decode cX4_restIn 5 = .ok (.bipush 24, 2) := by decide +kernel
theorem dX4_restIn_7 : decode cX4_restIn 7 = .ok (.idiv, 1) := by decide +kernel
theorem dX4_restIn_8 : decode cX4_restIn 8 = .ok (.iaload, 1) := by decide +kernel
theorem dX4_restIn_9 : decode cX4_restIn 9 = .ok (.iload_n 1, 1) := by decide +kernel
theorem dX4_restIn_10 : decode cX4_restIn 10 = .ok (.bipush 24, 2) := by decide +kernel
theorem dX4_restIn_12 : decode cX4_restIn 12 = .ok (.irem, 1) := by decide +kernel
theorem dX4_restIn_13 : decode cX4_restIn 13 = .ok (.ishr, 1) := by decide +kernel
theorem dX4_restIn_14 : decode cX4_restIn 14 = .ok (.iconst 1, 1) := by decide +kernel
theorem dX4_restIn_15 : decode cX4_restIn 15 = .ok (.iand, 1) := by decide +kernel
theorem dX4_restIn_16 : decode cX4_restIn 16 = .ok (.ireturn, 1) := by decide +kernel
theorem dX4_firstWrong_0 : decode cX4_firstWrong 0 = .ok (.iconst 0, 1) := by decide +kernel
theorem dX4_firstWrong_1 : decode cX4_firstWrong 1 = .ok (.istore_n 1, 1) := by decide +kernel
theorem dX4_firstWrong_2 : decode cX4_firstWrong 2 = .ok (.iconst 0, 1) := by decide +kernel
theorem dX4_firstWrong_3 : decode cX4_firstWrong 3 = .ok (.istore_n 2, 1) := by decide +kernel
theorem dX4_firstWrong_4 : decode cX4_firstWrong 4 = .ok (.iload_n 2, 1) := by decide +kernel
theorem dX4_firstWrong_5 : decode cX4_firstWrong 5 = .ok (.sipush 168, 3) := by decide +kernel
theorem dX4_firstWrong_8 : decode cX4_firstWrong 8 = .ok (.if_icmp .ge 48, 3) := by decide +kernel
theorem dX4_firstWrong_11 : decode cX4_firstWrong 11 = .ok (.iload_n 1, 1) := by decide +kernel
theorem dX4_firstWrong_12 : decode cX4_firstWrong 12 = .ok (.aload_n 0, 1) := by decide +kernel
theorem dX4_firstWrong_13 : decode cX4_firstWrong 13 = .ok (.iload_n 2, 1) := by decide +kernel
theorem dX4_firstWrong_14 : decode cX4_firstWrong 14 = .ok (.invokevirtual 21, 3) := by decide +kernel
theorem dX4_firstWrong_17 : decode cX4_firstWrong 17 = .ok (.iadd, 1) := by decide +kernel
theorem dX4_firstWrong_18 : decode cX4_firstWrong 18 = .ok (.istore_n 1, 1) := by decide +kernel
theorem dX4_firstWrong_19 : decode cX4_firstWrong 19 = .ok (.iload_n 2, 1) := by decide +kernel
theorem dX4_firstWrong_20 : decode cX4_firstWrong 20 = .ok (.bipush 24, 2) := by decide +kernel
theorem dX4_firstWrong_22 : decode cX4_firstWrong 22 = .ok (.if_icmp .lt 14, 3) := by decide +kernel
theorem dX4_firstWrong_25 : decode cX4_firstWrong 25 = .ok (.iload_n 1, 1) := by decide +kernel
theorem dX4_firstWrong_26 : decode cX4_firstWrong 26 = .ok (.aload_n 0, 1) := by decide +kernel
theorem dX4_firstWrong_27 : decode cX4_firstWrong 27 = .ok (.iload_n 2, 1) := by decide +kernel
theorem dX4_firstWrong_28 : decode cX4_firstWrong 28 = .ok (.bipush 24, 2) := by decide +kernel
theorem dX4_firstWrong_30 : decode cX4_firstWrong 30 = .ok (.isub, 1) := by decide +kernel
theorem dX4_firstWrong_31 : decode cX4_firstWrong 31 = .ok (.invokevirtual 21, 3) := by decide +kernel
theorem dX4_firstWrong_34 : decode cX4_firstWrong 34 = .ok (.isub, 1) := by decide +kernel
theorem dX4_firstWrong_35 : decode cX4_firstWrong 35 = .ok (.istore_n 1, 1) := by decide +kernel
theorem dX4_firstWrong_36 : decode cX4_firstWrong 36 = .ok (.iload_n 2, 1) := by decide +kernel
theorem dX4_firstWrong_37 : decode cX4_firstWrong 37 = .ok (.bipush 23, 2) := by decide +kernel
theorem dX4_firstWrong_39 : decode cX4_firstWrong 39 = .ok (.if_icmp .lt 11, 3) := by decide +kernel
theorem dX4_firstWrong_42 : decode cX4_firstWrong 42 = .ok (.iload_n 1, 1) := by decide +kernel
theorem dX4_firstWrong_43 : decode cX4_firstWrong 43 = .ok (.bipush 10, 2) := by decide +kernel
theorem dX4_firstWrong_45 : decode cX4_firstWrong 45 = .ok (.if_icmp .ge 5, 3) := by decide +kernel
theorem dX4_firstWrong_48 : decode cX4_firstWrong 48 = .ok (.iload_n 2, 1) := by decide +kernel
theorem dX4_firstWrong_49 : decode cX4_firstWrong 49 = .ok (.ireturn, 1) := by decide +kernel
theorem dX4_firstWrong_50 : decode cX4_firstWrong 50 = .ok (.iinc 2 1, 3) := by decide +kernel
theorem dX4_firstWrong_53 : decode cX4_firstWrong 53 = .ok (.goto (-49), 3) := by decide +kernel
theorem dX4_firstWrong_56 : decode cX4_firstWrong 56 = .ok (.iconst (-1), 1) := by decide +kernel
theorem dX4_firstWrong_57 : decode cX4_firstWrong 57 = .ok (.ireturn, 1) := by decide +kernel
theorem dX5_init_0 : decode cX5_init 0 = .ok (.aload_n 0, 1) := by decide +kernel
theorem dX5_init_1 : decode cX5_init 1 = .ok (.invokespecial 3, 3) := by decide +kernel
theorem dX5_init_4 : decode cX5_init 4 = .ok (.aload_n 0, 1) := by decide +kernel
theorem dX5_init_5 : decode cX5_init 5 = .ok (.iconst 3, 1) := by decide +kernel
theorem dX5_init_6 : decode cX5_init 6 = .ok (.anewarray 9, 3) := by decide +kernel
theorem dX5_init_9 : decode cX5_init 9 = .ok (.putfield 11, 3) := by decide +kernel
theorem dX5_init_12 : decode cX5_init 12 = .ok (.aload_n 0, 1) := by decide +kernel
theorem dX5_init_13 : decode cX5_init 13 = .ok (.new 17, 3) := by decide +kernel
theorem dX5_init_16 : decode cX5_init 16 = .ok (.dup, 1) := by decide +kernel
theorem dX5_init_17 : decode cX5_init 17 = .ok (.invokespecial 19, 3) := by decide +kernel
theorem dX5_init_20 : decode cX5_init 20 = .ok (.putfield 20, 3) := by decide +kernel
theorem dX5_init_23 : decode cX5_init 23 = .ok (.aload_n 0, 1) := by decide +kernel
theorem dX5_init_24 : decode cX5_init 24 = .ok (.iconst (-1), 1) := by decide +kernel
theorem dX5_init_25 : decode cX5_init 25 = .ok (.putfield 24, 3) := by decide +kernel
theorem dX5_init_28 : decode cX5_init 28 = .ok (.aload_n 0, 1) := by decide +kernel
theorem dX5_init_29 : decode cX5_init 29 = .ok (.iconst (-1), 1) := by decide +kernel
theorem dX5_init_30 : decode cX5_init 30 = .ok (.putfield 28, 3) := by decide +kernel
theorem dX5_init_33 : decode cX5_init 33 = .ok (.aload_n 0, 1) := by decide +kernel
theorem dX5_init_34 : decode cX5_init 34 = .ok (.iload_n 1, 1) := by decide +kernel
theorem dX5_init_35 : decode cX5_init 35 = .ok (.putfield 31, 3) := by decide +kernel
theorem dX5_init_38 : decode cX5_init 38 = .ok (.aload_n 0, 1) := by decide +kernel
theorem dX5_init_39 : decode cX5_init 39 = .ok (.iload_n 2, 1) := by decide +kernel
theorem dX5_init_40 : decode cX5_init 40 = .ok (.bipush 10, 2) := by decide +kernel
theorem dX5_init_42 : decode cX5_init 42 = .ok (.idiv, 1) := by decide +kernel
theorem dX5_init_43 : decode cX5_init 43 = .ok (.putfield 34, 3) := by decide +kernel
theorem dX5_init_46 : decode cX5_init 46 = .ok (.aload_n 0, 1) := by decide +kernel
theorem dX5_init_47 : decode cX5_init 47 = .ok (.iload_n 2, 1) := by decide +kernel
theorem dX5_init_48 : decode cX5_init 48 = .ok (.bipush 10, 2) := by decide +kernel
theorem dX5_init_50 : decode cX5_init 50 = .ok (.irem, 1) := by decide +kernel
theorem dX5_init_51 : decode cX5_init 51 = .ok (.putfield 37, 3) := by decide +kernel
theorem dX5_init_54 : decode cX5_init 54 = .ok (.aload_n 0, 1) := by decide +kernel
theorem dX5_init_55 : decode cX5_init 55 = .ok (.iload 4, 2) := by decide +kernel
theorem dX5_init_57 : decode cX5_init 57 = .ok (.putfield 40, 3) := by decide +kernel
theorem dX5_init_60 : decode cX5_init 60 = .ok (.aload_n 0, 1) := by decide +kernel
theorem dX5_init_61 : decode cX5_init 61 = .ok (.getfield 11, 3) := by decide +kernel
theorem dX5_init_64 : decode cX5_init 64 = .ok (.iconst 0, 1) := by decide +kernel
theorem dX5_init_65 : decode cX5_init 65 = .ok (.new 9, 3) := by decide +kernel
theorem dX5_init_68 : decode cX5_init 68 = .ok (.dup, 1) := by decide +kernel
theorem dX5_init_69 : decode cX5_init 69 = .ok (.iconst 0, 1) := by decide +kernel
theorem dX5_init_70 : decode cX5_init 70 = .ok (.iload_n 3, 1) := by decide +kernel
theorem dX5_init_71 : decode cX5_init 71 = .ok (.bipush 100, 2) := by decide +kernel
theorem dX5_init_73 : decode cX5_init 73 = .ok (.idiv, 1) := by decide +kernel
theorem dX5_init_74 : decode cX5_init 74 = .ok (.aconst_null, 1) := by decide +kernel
theorem dX5_init_75 : decode cX5_init 75 = .ok (.invokespecial 43, 3) := by decide +kernel
theorem dX5_init_78 : decode cX5_init 78 = .ok (.aastore, 1) := by decide +kernel
theorem dX5_init_79 : decode cX5_init 79 = .ok (.aload_n 0, 1) := by decide +kernel
theorem dX5_init_80 : decode cX5_init 80 = .ok (.getfield 11, 3) := by decide +kernel
theorem dX5_init_83 : decode cX5_init 83 = .ok (.iconst 2, 1) := by decide +kernel
theorem dX5_init_84 : decode cX5_init 84 = .ok (.new 9, 3) := by decide +kernel
theorem dX5_init_87 : decode cX5_init 87 = .ok (.dup, 1) := by decide +kernel
theorem dX5_init_88 : decode cX5_init 88 = .ok (.iconst 0, 1) := by decide +kernel
theorem dX5_init_89 : decode cX5_init 89 = .ok (.iload_n 3, 1) := by decide +kernel
theorem dX5_init_90 : decode cX5_init 90 = .ok (.bipush 10, 2) := by decide +kernel
theorem dX5_init_92 : decode cX5_init 92 = .ok (.idiv, 1) := by decide +kernel
theorem dX5_init_93 : decode cX5_init 93 = .ok (.bipush 10, 2) := by decide +kernel
theorem dX5_init_95 : decode cX5_init 95 = .ok (.irem, 1) := by decide +kernel
theorem dX5_init_96 : decode cX5_init 96 = .ok (.aconst_null, 1) := by decide +kernel
theorem dX5_init_97 : decode cX5_init 97 = .ok (.invokespecial 43, 3) := by decide +kernel
theorem dX5_init_100 : decode cX5_init 100 = .ok (.aastore, 1) := by decide +kernel
theorem dX5_init_101 : decode cX5_init 101 = .ok (.aload_n 0, 1) := by decide +kernel
theorem dX5_init_102 : decode cX5_init 102 = .ok (.getfield 11, 3) := by decide +kernel
theorem dX5_init_105 : decode cX5_init 105 = .ok (.iconst 1, 1) := by decide +kernel
theorem dX5_init_106 : decode cX5_init 106 = .ok (.new 9, 3) := by decide +kernel
theorem dX5_init_109 : decode cX5_init 109 = .ok (.dup, 1) := by decide +kernel
theorem dX5_init_110 : decode cX5_init 110 = .ok (.iconst 0, 1) := by decide +kernel
theorem dX5_init_111 : decode cX5_init 111 = .ok (.iload_n 3, 1) := by decide +kernel
theorem dX5_init_112 : decode cX5_init 112 = .ok (.bipush 10, 2) := by decide +kernel
theorem dX5_init_114 : decode cX5_init 114 = .ok (.irem, 1) := by decide +kernel
theorem dX5_init_115 : decode cX5_init 115 = .ok (.aconst_null, 1) := by decide +kernel
theorem dX5_init_116 : decode cX5_init 116 = .ok (.invokespecial 43, 3) := by decide +kernel
theorem dX5_init_119 : decode cX5_init 119 = .ok (.aastore, 1) := by decide +kernel
theorem dX5_init_120 : decode cX5_init 120 = .ok (.return_, 1) := by decide +kernel
theorem dX5_traitOn_0 : decode cX5_traitOn 0 = .ok (.aload_n 0, 1) := by decide +kernel
theorem dX5_traitOn_1 : decode cX5_traitOn 1 = .ok (.getfield 11, 3) := by decide +kernel
theorem dX5_traitOn_4 : decode cX5_traitOn 4 = .ok (.iload_n 1, 1) := by decide +kernel
theorem dX5_traitOn_5 : decode cX5_traitOn 5 = .ok (.aaload, 1) := by decide +kernel
theorem dX5_traitOn_6 : decode cX5_traitOn 6 = .ok (.astore_n 3, 1) := by decide +kernel
theorem dX5_traitOn_7 : decode cX5_traitOn 7 = .ok (.aload_n 3, 1) := by decide +kernel
theorem dX5_traitOn_8 : decode cX5_traitOn 8 = .ok (.getfield 46, 3) := by decide +kernel
theorem dX5_traitOn_11 : decode cX5_traitOn 11 = .ok (.ifnull 19, 3) := by decide +kernel
theorem dX5_traitOn_14 : decode cX5_traitOn 14 = .ok (.aload_n 3, 1) := by decide +kernel
theorem dX5_traitOn_15 : decode cX5_traitOn 15 = .ok (.getfield 50, 3) := by decide +kernel
theorem dX5_traitOn_18 : decode cX5_traitOn 18 = .ok (.iload_n 2, 1) := by decide +kernel
theorem dX5_traitOn_19 : decode cX5_traitOn 19 = .ok (.if_icmp .le 11, 3) := by decide +kernel
theorem dX5_traitOn_22 : decode cX5_traitOn 22 = .ok (.aload_n 3, 1) := by decide +kernel
theorem dX5_traitOn_23 : decode cX5_traitOn 23 = .ok (.getfield 46, 3) := by decide +kernel
theorem dX5_traitOn_26 : decode cX5_traitOn 26 = .ok (.astore_n 3, 1) := by decide +kernel
theorem dX5_traitOn_27 : decode cX5_traitOn 27 = .ok (.goto (-20), 3) := by decide +kernel
theorem dX5_traitOn_30 : decode cX5_traitOn 30 = .ok (.aload_n 3, 1) := by decide +kernel
theorem dX5_traitOn_31 : decode cX5_traitOn 31 = .ok (.getfield 53, 3) := by decide +kernel
theorem dX5_traitOn_34 : decode cX5_traitOn 34 = .ok (.ireturn, 1) := by decide +kernel
theorem dX5_setTrait_0 : decode cX5_setTrait 0 = .ok (.aload_n 0, 1) := by decide +kernel
theorem dX5_setTrait_1 : decode cX5_setTrait 1 = .ok (.getfield 11, 3) := by decide +kernel
theorem dX5_setTrait_4 : decode cX5_setTrait 4 = .ok (.iload_n 1, 1) := by decide +kernel
theorem dX5_setTrait_5 : decode cX5_setTrait 5 = .ok (.new 9, 3) := by decide +kernel
theorem dX5_setTrait_8 : decode cX5_setTrait 8 = .ok (.dup, 1) := by decide +kernel
theorem dX5_setTrait_9 : decode cX5_setTrait 9 = .ok (.iload_n 2, 1) := by decide +kernel
theorem dX5_setTrait_10 : decode cX5_setTrait 10 = .ok (.iload_n 3, 1) := by decide +kernel
theorem dX5_setTrait_11 : decode cX5_setTrait 11 = .ok (.aload_n 0, 1) := by decide +kernel
theorem dX5_setTrait_12 : decode cX5_setTrait 12 = .ok (.getfield 11, 3) := by decide +kernel
theorem dX5_setTrait_15 : decode cX5_setTrait 15 = .ok (.iload_n 1, 1) := by decide +kernel
theorem dX5_setTrait_16 : decode cX5_setTrait 16 = .ok (.aaload, 1) := by decide +kernel
theorem dX5_setTrait_17 : decode cX5_setTrait 17 = .ok (.invokespecial 43, 3) := by decide +kernel
theorem dX5_setTrait_20 : decode cX5_setTrait 20 = .ok (.aastore, 1) := by decide +kernel
theorem dX5_setTrait_21 : decode cX5_setTrait 21 = .ok (.return_, 1) := by decide +kernel
theorem dX5_isBanned_0 : decode cX5_isBanned 0 = .ok (.aload_n 0, 1) := by decide +kernel
theorem dX5_isBanned_1 : decode cX5_isBanned 1 = .ok (.getfield 28, 3) := by decide +kernel
theorem dX5_isBanned_4 : decode cX5_isBanned 4 = .ok (.ifCond .lt 7, 3) := by decide +kernel
theorem dX5_isBanned_7 : decode cX5_isBanned 7 = .ok (.iconst 1, 1) := by decide +kernel
theorem dX5_isBanned_8 : decode cX5_isBanned 8 = .ok (.goto 4, 3) := by decide +kernel
theorem dX5_isBanned_11 : decode cX5_isBanned 11 = .ok (.iconst 0, 1) := by decide +kernel
theorem dX5_isBanned_12 : decode cX5_isBanned 12 = .ok (.ireturn, 1) := by decide +kernel
theorem dX6_init_0 : decode cX6_init 0 = .ok (.aload_n 0, 1) := by decide +kernel
theorem dX6_init_1 : decode cX6_init 1 = .ok (.invokespecial 1, 3) := by decide +kernel
theorem dX6_init_4 : decode cX6_init 4 = .ok (.return_, 1) := by decide +kernel
theorem dX6_clear_0 : decode cX6_clear 0 = .ok (.aload_n 0, 1) := by decide +kernel
theorem dX6_clear_1 : decode cX6_clear 1 = .ok (.iconst 0, 1) := by decide +kernel
theorem dX6_clear_2 : decode cX6_clear 2 = .ok (.putfield 7, 3) := by decide +kernel
theorem dX6_clear_5 : decode cX6_clear 5 = .ok (.aload_n 0, 1) := by decide +kernel
theorem dX6_clear_6 : decode cX6_clear 6 = .ok (.iconst 0, 1) := by decide +kernel
theorem dX6_clear_7 : decode cX6_clear 7 = .ok (.putfield 13, 3) := by decide +kernel
theorem dX6_clear_10 : decode cX6_clear 10 = .ok (.aload_n 0, 1) := by decide +kernel
theorem dX6_clear_11 : decode cX6_clear 11 = .ok (.iconst 0, 1) := by decide +kernel
theorem dX6_clear_12 : decode cX6_clear 12 = .ok (.putfield 16, 3) := by decide +kernel
theorem dX6_clear_15 : decode cX6_clear 15 = .ok (.aload_n 0, 1) := by decide +kernel
theorem dX6_clear_16 : decode cX6_clear 16 = .ok (.iconst 0, 1) := by decide +kernel
theorem dX6_clear_17 : decode cX6_clear 17 = .ok (.putfield 19, 3) := by decide +kernel
theorem dX6_clear_20 : decode cX6_clear 20 = .ok (.return_, 1) := by decide +kernel
theorem dX6_add_0 : decode cX6_add 0 = .ok (.aload_n 0, 1) := by decide +kernel
theorem dX6_add_1 : decode cX6_add 1 = .ok (.dup, 1) := by decide +kernel
theorem dX6_add_2 : decode cX6_add 2 = .ok (.getfield 16, 3) := by decide +kernel
theorem dX6_add_5 : decode cX6_add 5 = .ok (.iconst 1, 1) := by decide +kernel
theorem dX6_add_6 : decode cX6_add 6 = .ok (.iadd, 1) := by decide +kernel
theorem dX6_add_7 : decode cX6_add 7 = .ok (.putfield 16, 3) := by decide +kernel
theorem dX6_add_10 : decode cX6_add 10 = .ok (.aload_n 0, 1) := by decide +kernel
theorem dX6_add_11 : decode cX6_add 11 = .ok (.dup, 1) := by decide +kernel
theorem dX6_add_12 : decode cX6_add 12 = .ok (.getfield 19, 3) := by decide +kernel
theorem dX6_add_15 : decode cX6_add 15 = .ok (.iload_n 2, 1) := by decide +kernel
theorem dX6_add_16 : decode cX6_add 16 = .ok (.ifCond .eq 7, 3) := by decide +kernel
theorem dX6_add_19 : decode cX6_add 19 = .ok (.iconst 1, 1) := by decide +kernel
theorem dX6_add_20 : decode cX6_add 20 = .ok (.goto 4, 3) := by decide +kernel
theorem dX6_add_23 : decode cX6_add 23 = .ok (.iconst 0, 1) := by decide +kernel
theorem dX6_add_24 : decode cX6_add 24 = .ok (.iadd, 1) := by decide +kernel
theorem dX6_add_25 : decode cX6_add 25 = .ok (.putfield 19, 3) := by decide +kernel
theorem dX6_add_28 : decode cX6_add 28 = .ok (.aload_n 0, 1) := by decide +kernel
theorem dX6_add_29 : decode cX6_add 29 = .ok (.dup, 1) := by decide +kernel
theorem dX6_add_30 : decode cX6_add 30 = .ok (.getfield 7, 3) := by decide +kernel
theorem dX6_add_33 : decode cX6_add 33 = .ok (.iload_n 1, 1) := by decide +kernel
theorem dX6_add_34 : decode cX6_add 34 = .ok (.ifCond .eq 7, 3) := by decide +kernel
theorem dX6_add_37 : decode cX6_add 37 = .ok (.iconst 1, 1) := by decide +kernel
theorem dX6_add_38 : decode cX6_add 38 = .ok (.goto 4, 3) := by decide +kernel
theorem dX6_add_41 : decode cX6_add 41 = .ok (.iconst 0, 1) := by decide +kernel
theorem dX6_add_42 : decode cX6_add 42 = .ok (.iadd, 1) := by decide +kernel
theorem dX6_add_43 : decode cX6_add 43 = .ok (.putfield 7, 3) := by decide +kernel
theorem dX6_add_46 : decode cX6_add 46 = .ok (.aload_n 0, 1) := by decide +kernel
theorem dX6_add_47 : decode cX6_add 47 = .ok (.dup, 1) := by decide +kernel
theorem dX6_add_48 : decode cX6_add 48 = .ok (.getfield 13, 3) := by decide +kernel
theorem dX6_add_51 : decode cX6_add 51 = .ok (.iload_n 1, 1) := by decide +kernel
theorem dX6_add_52 : decode cX6_add 52 = .ok (.ifCond .eq 11, 3) := by decide +kernel
theorem dX6_add_55 : decode cX6_add 55 = .ok (.iload_n 2, 1) := by decide +kernel
theorem dX6_add_56 : decode cX6_add 56 = .ok (.ifCond .eq 7, 3) := by decide +kernel
theorem dX6_add_59 : decode cX6_add 59 = .ok (.iconst 1, 1) := by decide +kernel
theorem dX6_add_60 : decode cX6_add 60 = .ok (.goto 4, 3) := by decide +kernel
theorem dX6_add_63 : decode cX6_add 63 = .ok (.iconst 0, 1) := by decide +kernel
theorem dX6_add_64 : decode cX6_add 64 = .ok (.iadd, 1) := by decide +kernel
theorem dX6_add_65 : decode cX6_add 65 = .ok (.putfield 13, 3) := by decide +kernel
theorem dX6_add_68 : decode cX6_add 68 = .ok (.return_, 1) := by decide +kernel
theorem dX6_isDark_0 : decode cX6_isDark 0 = .ok (.aload_n 0, 1) := by decide +kernel
theorem dX6_isDark_1 : decode cX6_isDark 1 = .ok (.getfield 13, 3) := by decide +kernel
theorem dX6_isDark_4 : decode cX6_isDark 4 = .ok (.aload_n 0, 1) := by decide +kernel
theorem dX6_isDark_5 : decode cX6_isDark 5 = .ok (.getfield 16, 3) := by decide +kernel
theorem dX6_isDark_8 : decode cX6_isDark 8 = .ok (.imul, 1) := by decide +kernel
theorem dX6_isDark_9 : decode cX6_isDark 9 = .ok (.aload_n 0, 1) := by decide +kernel
theorem dX6_isDark_10 : decode cX6_isDark 10 = .ok (.getfield 7, 3) := by decide +kernel
theorem dX6_isDark_13 : decode cX6_isDark 13 = .ok (.aload_n 0, 1) := by decide +kernel
theorem dX6_isDark_14 : decode cX6_isDark 14 = .ok (.getfield 19, 3) := by decide +kernel
theorem dX6_isDark_17 : decode cX6_isDark 17 = .ok (.imul, 1) := by decide +kernel
theorem dX6_isDark_18 : decode cX6_isDark 18 = .ok (.isub, 1) := by decide +kernel
theorem dX6_isDark_19 : decode cX6_isDark 19 = .ok (.istore_n 1, 1) := by decide +kernel
theorem dX6_isDark_20 : decode cX6_isDark 20 = .ok (.iload_n 1, 1) := by decide +kernel
theorem dX6_isDark_21 : decode cX6_isDark 21 = .ok (.ifCond .le 29, 3) := by decide +kernel
theorem dX6_isDark_24 : decode cX6_isDark 24 = .ok (.iload_n 1, 1) := by decide +kernel
theorem dX6_isDark_25 : decode cX6_isDark 25 = .ok (.iload_n 1, 1) := by decide +kernel
theorem dX6_isDark_26 : decode cX6_isDark 26 = .ok (.imul, 1) := by decide +kernel
theorem dX6_isDark_27 : decode cX6_isDark 27 = .ok (.iconst 4, 1) := by decide +kernel
theorem dX6_isDark_28 : decode cX6_isDark 28 = .ok (.aload_n 0, 1) := by decide +kernel
theorem dX6_isDark_29 : decode cX6_isDark 29 = .ok (.getfield 7, 3) := by decide +kernel
theorem dX6_isDark_32 : decode cX6_isDark 32 = .ok (.imul, 1) := by decide +kernel
theorem dX6_isDark_33 : decode cX6_isDark 33 = .ok (.aload_n 0, 1) := by decide +kernel
theorem dX6_isDark_34 : decode cX6_isDark 34 = .ok (.getfield 16, 3) := by decide +kernel
theorem dX6_isDark_37 : decode cX6_isDark 37 = .ok (.imul, 1) := by decide +kernel
theorem dX6_isDark_38 : decode cX6_isDark 38 = .ok (.aload_n 0, 1) := by decide +kernel
theorem dX6_isDark_39 : decode cX6_isDark 39 = .ok (.getfield 19, 3) := by decide +kernel
theorem dX6_isDark_42 : decode cX6_isDark 42 = .ok (.imul, 1) := by decide +kernel
theorem dX6_isDark_43 : decode cX6_isDark 43 = .ok (.if_icmp .le 7, 3) := by decide +kernel
theorem dX6_isDark_46 : decode cX6_isDark 46 = .ok (.iconst 1, 1) := by decide +kernel
theorem dX6_isDark_47 : decode cX6_isDark 47 = .ok (.goto 4, 3) := by decide +kernel
theorem dX6_isDark_50 : decode cX6_isDark 50 = .ok (.iconst 0, 1) := by decide +kernel
theorem dX6_isDark_51 : decode cX6_isDark 51 = .ok (.ireturn, 1) := by decide +kernel
theorem dX7_init_0 : decode cX7_init 0 = .ok (.aload_n 0, 1) := by decide +kernel
theorem dX7_init_1 : decode cX7_init 1 = .ok (.invokespecial 3, 3) := by decide +kernel
theorem dX7_init_4 : decode cX7_init 4 = .ok (.aload_n 0, 1) := by decide +kernel
theorem dX7_init_5 : decode cX7_init 5 = .ok (.bipush 60, 2) := by decide +kernel
theorem dX7_init_7 : decode cX7_init 7 = .ok (.newarray .int, 2) := by decide +kernel
theorem dX7_init_9 : decode cX7_init 9 = .ok (.putfield 9, 3) := by decide +kernel
theorem dX7_init_12 : decode cX7_init 12 = .ok (.return_, 1) := by decide +kernel
theorem dX7_put_0 : decode cX7_put 0 = .ok (.aload_n 0, 1) := by decide +kernel
theorem dX7_put_1 : decode cX7_put 1 = .ok (.getfield 9, 3) := by decide +kernel
theorem dX7_put_4 : decode cX7_put 4 = .ok (.aload_n 0, 1) := by decide +kernel
theorem dX7_put_5 : decode cX7_put 5 = .ok (.getfield 15, 3) := by decide +kernel
theorem dX7_put_8 : decode cX7_put 8 = .ok (.iload_n 1, 1) := by decide +kernel
theorem dX7_put_9 : decode cX7_put 9 = .ok (.iastore, 1) := by decide +kernel
theorem dX7_put_10 : decode cX7_put 10 = .ok (.aload_n 0, 1) := by decide +kernel
theorem dX7_put_11 : decode cX7_put 11 = .ok (.dup, 1) := by decide +kernel
theorem dX7_put_12 : decode cX7_put 12 = .ok (.getfield 15, 3) := by decide +kernel
theorem dX7_put_15 : decode cX7_put 15 = .ok (.iconst 1, 1) := by decide +kernel
theorem dX7_put_16 : decode cX7_put 16 = .ok (.iadd, 1) := by decide +kernel
theorem dX7_put_17 : decode cX7_put 17 = .ok (.putfield 15, 3) := by decide +kernel
theorem dX7_put_20 : decode cX7_put 20 = .ok (.return_, 1) := by decide +kernel
theorem dX7_readInto_0 : decode cX7_readInto 0 = .ok (.aload_n 0, 1) := by decide +kernel
theorem dX7_readInto_1 : decode cX7_readInto 1 = .ok (.iconst 0, 1) := by decide +kernel
theorem dX7_readInto_2 : decode cX7_readInto 2 = .ok (.putfield 19, 3) := by decide +kernel
theorem dX7_readInto_5 : decode cX7_readInto 5 = .ok (.iconst 1, 1) := by decide +kernel
theorem dX7_readInto_6 : decode cX7_readInto 6 = .ok (.istore_n 2, 1) := by decide +kernel
theorem dX7_readInto_7 : decode cX7_readInto 7 = .ok (.iconst 0, 1) := by decide +kernel
theorem dX7_readInto_8 : decode cX7_readInto 8 = .ok (.istore_n 3, 1) := by decide +kernel
theorem dX7_readInto_9 : decode cX7_readInto 9 = .ok (.iload_n 3, 1) := by decide +kernel
theorem dX7_readInto_10 : decode cX7_readInto 10 = .ok (.bipush 60, 2) := by decide +kernel
theorem dX7_readInto_12 : decode cX7_readInto 12 = .ok (.if_icmp .ge 30, 3) := by decide +kernel
theorem dX7_readInto_15 : decode cX7_readInto 15 = .ok (.iload_n 2, 1) := by decide +kernel
theorem dX7_readInto_16 : decode cX7_readInto 16 = .ok (.ifCond .eq 26, 3) := by decide +kernel
theorem dX7_readInto_19 : decode cX7_readInto 19 = .ok (.aload_n 0, 1) := by decide +kernel
theorem dX7_readInto_20 : decode cX7_readInto 20 = .ok (.getfield 19, 3) := by decide +kernel
theorem dX7_readInto_23 : decode cX7_readInto 23 = .ok (.aload_n 0, 1) := by decide +kernel
theorem dX7_readInto_24 : decode cX7_readInto 24 = .ok (.getfield 15, 3) := by decide +kernel
theorem dX7_readInto_27 : decode cX7_readInto 27 = .ok (.if_icmp .ge 15, 3) := by decide +kernel
theorem dX7_readInto_30 : decode cX7_readInto 30 = .ok (.aload_n 0, 1) := by decide +kernel
theorem dX7_readInto_31 : decode cX7_readInto 31 = .ok (.aload_n 1, 1) := by decide +kernel
theorem dX7_readInto_32 : decode cX7_readInto 32 = .ok (.invokevirtual 22, 3) := by decide +kernel
theorem dX7_readInto_35 : decode cX7_readInto 35 = .ok (.istore_n 2, 1) := by decide +kernel
theorem dX7_readInto_36 : decode cX7_readInto 36 = .ok (.iinc 3 1, 3) := by decide +kernel
theorem dX7_readInto_39 : decode cX7_readInto 39 = .ok (.goto (-30), 3) := by decide +kernel
theorem dX7_readInto_42 : decode cX7_readInto 42 = .ok (.iload_n 2, 1) := by decide +kernel
theorem dX7_readInto_43 : decode cX7_readInto 43 = .ok (.ireturn, 1) := by decide +kernel
theorem dX7_readRow_0 : decode cX7_readRow 0 = .ok (.aload_n 0, 1) := by decide +kernel
theorem dX7_readRow_1 : decode cX7_readRow 1 = .ok (.bipush 103, 2) := by decide +kernel
theorem dX7_readRow_3 : decode cX7_readRow 3 = .ok (.invokevirtual 26, 3) := by decide +kernel
theorem dX7_readRow_6 : decode cX7_readRow 6 = .ok (.ifCond .eq 9, 3) := by decide +kernel
theorem dX7_readRow_9 : decode cX7_readRow 9 = .ok (.aload_n 0, 1) := by decide +kernel
theorem dX7_readRow_10 : decode cX7_readRow 10 = .ok (.aload_n 1, 1) := by decide +kernel
theorem dX7_readRow_11 : decode cX7_readRow 11 = .ok (.invokevirtual 30, 3) := by decide +kernel
theorem dX7_readRow_14 : decode cX7_readRow 14 = .ok (.ireturn, 1) := by decide +kernel
theorem dX7_readRow_15 : decode cX7_readRow 15 = .ok (.aload_n 0, 1) := by decide +kernel
theorem dX7_readRow_16 : decode cX7_readRow 16 = .ok (.bipush 119, 2) := by decide +kernel
theorem dX7_readRow_18 : decode cX7_readRow 18 = .ok (.invokevirtual 26, 3) := by decide +kernel
theorem dX7_readRow_21 : decode cX7_readRow 21 = .ok (.ifCond .eq 9, 3) := by decide +kernel
theorem dX7_readRow_24 : decode cX7_readRow 24 = .ok (.aload_n 0, 1) := by decide +kernel
theorem dX7_readRow_25 : decode cX7_readRow 25 = .ok (.aload_n 1, 1) := by decide +kernel
theorem dX7_readRow_26 : decode cX7_readRow 26 = .ok (.invokevirtual 33, 3) := by decide +kernel
theorem dX7_readRow_29 : decode cX7_readRow 29 = .ok (.ireturn, 1) := by decide +kernel
theorem dX7_readRow_30 : decode cX7_readRow 30 = .ok (.aload_n 0, 1) := by decide +kernel
theorem dX7_readRow_31 : decode cX7_readRow 31 = .ok (.bipush 108, 2) := by decide +kernel
theorem dX7_readRow_33 : decode cX7_readRow 33 = .ok (.invokevirtual 26, 3) := by decide +kernel
theorem dX7_readRow_36 : decode cX7_readRow 36 = .ok (.ifCond .eq 15, 3) := by decide +kernel
theorem dX7_readRow_39 : decode cX7_readRow 39 = .ok (.aload_n 0, 1) := by decide +kernel
theorem dX7_readRow_40 : decode cX7_readRow 40 = .ok (.aload_n 1, 1) := by decide +kernel
theorem dX7_readRow_41 : decode cX7_readRow 41 = .ok (.invokevirtual 36, 3) := by decide +kernel
theorem dX7_readRow_44 : decode cX7_readRow 44 = .ok (.ifCond .eq 7, 3) := by decide +kernel
theorem dX7_readRow_47 : decode cX7_readRow 47 = .ok (.iconst 1, 1) := by decide +kernel
theorem dX7_readRow_48 : decode cX7_readRow 48 = .ok (.goto 4, 3) := by decide +kernel
theorem dX7_readRow_51 : decode cX7_readRow 51 = .ok (.iconst 0, 1) := by decide +kernel
theorem dX7_readRow_52 : decode cX7_readRow 52 = .ok (.ireturn, 1) := by decide +kernel
theorem dX7_readGrave_0 : decode cX7_readGrave 0 = .ok (.aload_n 0, 1) := by decide +kernel
theorem dX7_readGrave_1 : decode cX7_readGrave 1 = .ok (.invokevirtual 39, 3) := by decide +kernel
theorem dX7_readGrave_4 : decode cX7_readGrave 4 = .ok (.istore_n 2, 1) := by decide +kernel
theorem dX7_readGrave_5 : decode cX7_readGrave 5 = .ok (.iload_n 2, 1) := by decide +kernel
theorem dX7_readGrave_6 : decode cX7_readGrave 6 = .ok (.ifCond .ge 7, 3) := by decide +kernel
theorem dX7_readGrave_9 : decode cX7_readGrave 9 = .ok (.iconst (-1), 1) := by decide +kernel
theorem dX7_readGrave_10 : decode cX7_readGrave 10 = .ok (.goto 7, 3) := by decide +kernel
theorem dX7_readGrave_13 : decode cX7_readGrave 13 = .ok (.aload_n 0, 1) := by decide +kernel
theorem dX7_readGrave_14 : decode cX7_readGrave 14 = .ok (.invokevirtual 43, 3) := by decide +kernel
theorem dX7_readGrave_17 : decode cX7_readGrave 17 = .ok (.istore_n 3, 1) := by decide +kernel
theorem dX7_readGrave_18 : decode cX7_readGrave 18 = .ok (.iload_n 3, 1) := by decide +kernel
theorem dX7_readGrave_19 : decode cX7_readGrave 19 = .ok (.ifCond .lt 12, 3) := by decide +kernel
theorem dX7_readGrave_22 : decode cX7_readGrave 22 = .ok (.aload_n 0, 1) := by decide +kernel
theorem dX7_readGrave_23 : decode cX7_readGrave 23 = .ok (.bipush 59, 2) := by decide +kernel
theorem dX7_readGrave_25 : decode cX7_readGrave 25 = .ok (.invokevirtual 26, 3) := by decide +kernel
theorem dX7_readGrave_28 : decode cX7_readGrave 28 = .ok (.ifCond .ne 5, 3) := by decide +kernel
theorem dX7_readGrave_31 : decode cX7_readGrave 31 = .ok (.iconst 0, 1) := by decide +kernel
theorem dX7_readGrave_32 : decode cX7_readGrave 32 = .ok (.ireturn, 1) := by decide +kernel
theorem dX7_readGrave_33 : decode cX7_readGrave 33 = .ok (.aload_n 1, 1) := by decide +kernel
theorem dX7_readGrave_34 : decode cX7_readGrave 34 = .ok (.iload_n 2, 1) := by decide +kernel
theorem dX7_readGrave_35 : decode cX7_readGrave 35 = .ok (.iload_n 3, 1) := by decide +kernel
theorem dX7_readGrave_36 : decode cX7_readGrave 36 = .ok (.invokevirtual 46, 3) := by decide +kernel
theorem dX7_readGrave_39 : decode cX7_readGrave 39 = .ok (.iconst 1, 1) := by decide +kernel
theorem dX7_readGrave_40 : decode cX7_readGrave 40 = .ok (.ireturn, 1) := by decide +kernel
theorem dX7_readWeight_0 : decode cX7_readWeight 0 = .ok (.aload_n 0, 1) := by decide +kernel
theorem dX7_readWeight_1 : decode cX7_readWeight 1 = .ok (.invokevirtual 39, 3) := by decide +kernel
theorem dX7_readWeight_4 : decode cX7_readWeight 4 = .ok (.istore_n 2, 1) := by decide +kernel
theorem dX7_readWeight_5 : decode cX7_readWeight 5 = .ok (.iload_n 2, 1) := by decide +kernel
theorem dX7_readWeight_6 : decode cX7_readWeight 6 = .ok (.ifCond .ge 7, 3) := by decide +kernel
theorem dX7_readWeight_9 : decode cX7_readWeight 9 = .ok (.iconst (-1), 1) := by decide +kernel
theorem dX7_readWeight_10 : decode cX7_readWeight 10 = .ok (.goto 7, 3) := by decide +kernel
theorem dX7_readWeight_13 : decode cX7_readWeight 13 = .ok (.aload_n 0, 1) := by decide +kernel
theorem dX7_readWeight_14 : decode cX7_readWeight 14 = .ok (.invokevirtual 39, 3) := by decide +kernel
theorem dX7_readWeight_17 : decode cX7_readWeight 17 = .ok (.istore_n 3, 1) := by decide +kernel
theorem dX7_readWeight_18 : decode cX7_readWeight 18 = .ok (.iload_n 3, 1) := by decide +kernel
theorem dX7_readWeight_19 : decode cX7_readWeight 19 = .ok (.ifCond .lt 12, 3) := by decide +kernel
theorem dX7_readWeight_22 : decode cX7_readWeight 22 = .ok (.aload_n 0, 1) := by decide +kernel
theorem dX7_readWeight_23 : decode cX7_readWeight 23 = .ok (.bipush 59, 2) := by decide +kernel
theorem dX7_readWeight_25 : decode cX7_readWeight 25 = .ok (.invokevirtual 26, 3) := by decide +kernel
theorem dX7_readWeight_28 : decode cX7_readWeight 28 = .ok (.ifCond .ne 5, 3) := by decide +kernel
theorem dX7_readWeight_31 : decode cX7_readWeight 31 = .ok (.iconst 0, 1) := by decide +kernel
theorem dX7_readWeight_32 : decode cX7_readWeight 32 = .ok (.ireturn, 1) := by decide +kernel
theorem dX7_readWeight_33 : decode cX7_readWeight 33 = .ok (.aload_n 1, 1) := by decide +kernel
theorem dX7_readWeight_34 : decode cX7_readWeight 34 = .ok (.getfield 52, 3) := by decide +kernel
theorem dX7_readWeight_37 : decode cX7_readWeight 37 = .ok (.iload_n 2, 1) := by decide +kernel
theorem dX7_readWeight_38 : decode cX7_readWeight 38 = .ok (.iload_n 3, 1) := by decide +kernel
theorem dX7_readWeight_39 : decode cX7_readWeight 39 = .ok (.iastore, 1) := by decide +kernel
theorem dX7_readWeight_40 : decode cX7_readWeight 40 = .ok (.iconst 1, 1) := by decide +kernel
theorem dX7_readWeight_41 : decode cX7_readWeight 41 = .ok (.ireturn, 1) := by decide +kernel
theorem dX7_readLimit_0 : decode cX7_readLimit 0 = .ok (.aload_n 0, 1) := by decide +kernel
theorem dX7_readLimit_1 : decode cX7_readLimit 1 = .ok (.invokevirtual 39, 3) := by decide +kernel
theorem dX7_readLimit_4 : decode cX7_readLimit 4 = .ok (.istore_n 2, 1) := by decide +kernel
theorem dX7_readLimit_5 : decode cX7_readLimit 5 = .ok (.iload_n 2, 1) := by decide +kernel
theorem dX7_readLimit_6 : decode cX7_readLimit 6 = .ok (.ifCond .ge 5, 3) := by decide +kernel
theorem dX7_readLimit_9 : decode cX7_readLimit 9 = .ok (.iconst 0, 1) := by decide +kernel
theorem dX7_readLimit_10 : decode cX7_readLimit 10 = .ok (.ireturn, 1) := by decide +kernel
theorem dX7_readLimit_11 : decode cX7_readLimit 11 = .ok (.aload_n 0, 1) := by decide +kernel
theorem dX7_readLimit_12 : decode cX7_readLimit 12 = .ok (.invokevirtual 39, 3) := by decide +kernel
theorem dX7_readLimit_15 : decode cX7_readLimit 15 = .ok (.istore_n 3, 1) := by decide +kernel
theorem dX7_readLimit_16 : decode cX7_readLimit 16 = .ok (.iload_n 3, 1) := by decide +kernel
theorem dX7_readLimit_17 : decode cX7_readLimit 17 = .ok (.ifCond .lt 10, 3) := by decide +kernel
theorem dX7_readLimit_20 : decode cX7_readLimit 20 = .ok (.bipush 10, 2) := by decide +kernel
theorem dX7_readLimit_22 : decode cX7_readLimit 22 = .ok (.iload_n 2, 1) := by decide +kernel
theorem dX7_readLimit_23 : decode cX7_readLimit 23 = .ok (.imul, 1) := by decide +kernel
theorem dX7_readLimit_24 : decode cX7_readLimit 24 = .ok (.iload_n 3, 1) := by decide +kernel
theorem dX7_readLimit_25 : decode cX7_readLimit 25 = .ok (.iadd, 1) := by decide +kernel
theorem dX7_readLimit_26 : decode cX7_readLimit 26 = .ok (.istore_n 2, 1) := by decide +kernel
theorem dX7_readLimit_27 : decode cX7_readLimit 27 = .ok (.aload_n 0, 1) := by decide +kernel
theorem dX7_readLimit_28 : decode cX7_readLimit 28 = .ok (.bipush 59, 2) := by decide +kernel
theorem dX7_readLimit_30 : decode cX7_readLimit 30 = .ok (.invokevirtual 26, 3) := by decide +kernel
theorem dX7_readLimit_33 : decode cX7_readLimit 33 = .ok (.ifCond .ne 5, 3) := by decide +kernel
theorem dX7_readLimit_36 : decode cX7_readLimit 36 = .ok (.iconst 0, 1) := by decide +kernel
theorem dX7_readLimit_37 : decode cX7_readLimit 37 = .ok (.ireturn, 1) := by decide +kernel
theorem dX7_readLimit_38 : decode cX7_readLimit 38 = .ok (.aload_n 1, 1) := by decide +kernel
theorem dX7_readLimit_39 : decode cX7_readLimit 39 = .ok (.iload_n 2, 1) := by decide +kernel
theorem dX7_readLimit_40 : decode cX7_readLimit 40 = .ok (.putfield 55, 3) := by decide +kernel
theorem dX7_readLimit_43 : decode cX7_readLimit 43 = .ok (.iconst 1, 1) := by decide +kernel
theorem dX7_readLimit_44 : decode cX7_readLimit 44 = .ok (.ireturn, 1) := by decide +kernel
theorem dX7_take_0 : decode cX7_take 0 = .ok (.aload_n 0, 1) := by decide +kernel
theorem dX7_take_1 : decode cX7_take 1 = .ok (.getfield 19, 3) := by decide +kernel
theorem dX7_take_4 : decode cX7_take 4 = .ok (.aload_n 0, 1) := by decide +kernel
theorem dX7_take_5 : decode cX7_take 5 = .ok (.getfield 15, 3) := by decide +kernel
theorem dX7_take_8 : decode cX7_take 8 = .ok (.if_icmp .ge 16, 3) := by decide +kernel
theorem dX7_take_11 : decode cX7_take 11 = .ok (.aload_n 0, 1) := by decide +kernel
theorem dX7_take_12 : decode cX7_take 12 = .ok (.getfield 9, 3) := by decide +kernel
theorem dX7_take_15 : decode cX7_take 15 = .ok (.aload_n 0, 1) := by decide +kernel
theorem dX7_take_16 : decode cX7_take 16 = .ok (.getfield 19, 3) := by decide +kernel
theorem dX7_take_19 : decode cX7_take 19 = .ok (.iaload, 1) := by decide +kernel
theorem dX7_take_20 : decode cX7_take 20 = .ok (.iload_n 1, 1) := by decide +kernel
theorem dX7_take_21 : decode cX7_take 21 = .ok (.if_icmp .eq 5, 3) := by decide +kernel
theorem dX7_take_24 : decode cX7_take 24 = .ok (.iconst 0, 1) := by decide +kernel
theorem dX7_take_25 : decode cX7_take 25 = .ok (.ireturn, 1) := by decide +kernel
theorem dX7_take_26 : decode cX7_take 26 = .ok (.aload_n 0, 1) := by decide +kernel
theorem dX7_take_27 : decode cX7_take 27 = .ok (.dup, 1) := by decide +kernel
theorem dX7_take_28 : decode cX7_take 28 = .ok (.getfield 19, 3) := by decide +kernel
theorem dX7_take_31 : decode cX7_take 31 = .ok (.iconst 1, 1) := by decide +kernel
theorem dX7_take_32 : decode cX7_take 32 = .ok (.iadd, 1) := by decide +kernel
theorem dX7_take_33 : decode cX7_take 33 = .ok (.putfield 19, 3) := by decide +kernel
theorem dX7_take_36 : decode cX7_take 36 = .ok (.iconst 1, 1) := by decide +kernel
theorem dX7_take_37 : decode cX7_take 37 = .ok (.ireturn, 1) := by decide +kernel
theorem dX7_takeDigit_0 : decode cX7_takeDigit 0 = .ok (.aload_n 0, 1) := by decide +kernel
theorem dX7_takeDigit_1 : decode cX7_takeDigit 1 = .ok (.getfield 19, 3) := by decide +kernel
theorem dX7_takeDigit_4 : decode cX7_takeDigit 4 = .ok (.aload_n 0, 1) := by decide +kernel
theorem dX7_takeDigit_5 : decode cX7_takeDigit 5 = .ok (.getfield 15, 3) := by decide +kernel
theorem dX7_takeDigit_8 : decode cX7_takeDigit 8 = .ok (.if_icmp .ge 31, 3) := by decide +kernel
theorem dX7_takeDigit_11 : decode cX7_takeDigit 11 = .ok (.aload_n 0, 1) := by decide +kernel
theorem dX7_takeDigit_12 : decode cX7_takeDigit 12 = .ok (.getfield 9, 3) := by decide +kernel
theorem dX7_takeDigit_15 : decode cX7_takeDigit 15 = .ok (.aload_n 0, 1) := by decide +kernel
theorem dX7_takeDigit_16 : decode cX7_takeDigit 16 = .ok (.getfield 19, 3) := by decide +kernel
theorem dX7_takeDigit_19 : decode cX7_takeDigit 19 = .ok (.iaload, 1) := by decide +kernel
theorem dX7_takeDigit_20 : decode cX7_takeDigit 20 = .ok (.bipush 48, 2) := by decide +kernel
theorem dX7_takeDigit_22 : decode cX7_takeDigit 22 = .ok (.if_icmp .lt 17, 3) := by decide +kernel
theorem dX7_takeDigit_25 : decode cX7_takeDigit 25 = .ok (.aload_n 0, 1) := by decide +kernel
theorem dX7_takeDigit_26 : decode cX7_takeDigit 26 = .ok (.getfield 9, 3) := by decide +kernel
theorem dX7_takeDigit_29 : decode cX7_takeDigit 29 = .ok (.aload_n 0, 1) := by decide +kernel
theorem dX7_takeDigit_30 : decode cX7_takeDigit 30 = .ok (.getfield 19, 3) := by decide +kernel
theorem dX7_takeDigit_33 : decode cX7_takeDigit 33 = .ok (.iaload, 1) := by decide +kernel
theorem dX7_takeDigit_34 : decode cX7_takeDigit 34 = .ok (.bipush 57, 2) := by decide +kernel
theorem dX7_takeDigit_36 : decode cX7_takeDigit 36 = .ok (.if_icmp .le 5, 3) := by decide +kernel
theorem dX7_takeDigit_39 : decode cX7_takeDigit 39 = .ok (.iconst (-1), 1) := by decide +kernel
theorem dX7_takeDigit_40 : decode cX7_takeDigit 40 = .ok (.ireturn, 1) := by decide +kernel
theorem dX7_takeDigit_41 : decode cX7_takeDigit 41 = .ok (.aload_n 0, 1) := by decide +kernel
theorem dX7_takeDigit_42 : decode cX7_takeDigit 42 = .ok (.dup, 1) := by decide +kernel
theorem dX7_takeDigit_43 : decode cX7_takeDigit 43 = .ok (.getfield 19, 3) := by decide +kernel
theorem dX7_takeDigit_46 : decode cX7_takeDigit 46 = .ok (.iconst 1, 1) := by decide +kernel
theorem dX7_takeDigit_47 : decode cX7_takeDigit 47 = .ok (.iadd, 1) := by decide +kernel
theorem dX7_takeDigit_48 : decode cX7_takeDigit 48 = .ok (.putfield 19, 3) := by decide +kernel
theorem dX7_takeDigit_51 : decode cX7_takeDigit 51 = .ok (.aload_n 0, 1) := by decide +kernel
theorem dX7_takeDigit_52 : decode cX7_takeDigit 52 = .ok (.getfield 9, 3) := by decide +kernel
theorem dX7_takeDigit_55 : decode cX7_takeDigit 55 = .ok (.aload_n 0, 1) := by decide +kernel
theorem dX7_takeDigit_56 : decode cX7_takeDigit 56 = .ok (.getfield 19, 3) := by decide +kernel
theorem dX7_takeDigit_59 : decode cX7_takeDigit 59 = .ok (.iconst 1, 1) := by decide +kernel
theorem dX7_takeDigit_60 : decode cX7_takeDigit 60 = .ok (.isub, 1) := by decide +kernel
theorem dX7_takeDigit_61 : decode cX7_takeDigit 61 = .ok (.iaload, 1) := by decide +kernel
theorem dX7_takeDigit_62 : decode cX7_takeDigit 62 = .ok (.bipush 48, 2) := by decide +kernel
theorem dX7_takeDigit_64 : decode cX7_takeDigit 64 = .ok (.isub, 1) := by decide +kernel
theorem dX7_takeDigit_65 : decode cX7_takeDigit 65 = .ok (.ireturn, 1) := by decide +kernel
theorem dX7_takeKind_0 : decode cX7_takeKind 0 = .ok (.aload_n 0, 1) := by decide +kernel
theorem dX7_takeKind_1 : decode cX7_takeKind 1 = .ok (.bipush 115, 2) := by decide +kernel
theorem dX7_takeKind_3 : decode cX7_takeKind 3 = .ok (.invokevirtual 26, 3) := by decide +kernel
theorem dX7_takeKind_6 : decode cX7_takeKind 6 = .ok (.ifCond .eq 5, 3) := by decide +kernel
theorem dX7_takeKind_9 : decode cX7_takeKind 9 = .ok (.iconst 0, 1) := by decide +kernel
theorem dX7_takeKind_10 : decode cX7_takeKind 10 = .ok (.ireturn, 1) := by decide +kernel
theorem dX7_takeKind_11 : decode cX7_takeKind 11 = .ok (.aload_n 0, 1) := by decide +kernel
theorem dX7_takeKind_12 : decode cX7_takeKind 12 = .ok (.bipush 116, 2) := by decide +kernel
theorem dX7_takeKind_14 : decode cX7_takeKind 14 = .ok (.invokevirtual 26, 3) := by decide +kernel
theorem dX7_takeKind_17 : decode cX7_takeKind 17 = .ok (.ifCond .eq 5, 3) := by decide +kernel
theorem dX7_takeKind_20 : decode cX7_takeKind 20 = .ok (.iconst 1, 1) := by decide +kernel
theorem dX7_takeKind_21 : decode cX7_takeKind 21 = .ok (.ireturn, 1) := by decide +kernel
theorem dX7_takeKind_22 : decode cX7_takeKind 22 = .ok (.aload_n 0, 1) := by decide +kernel
theorem dX7_takeKind_23 : decode cX7_takeKind 23 = .ok (.bipush 103, 2) := by decide +kernel
theorem dX7_takeKind_25 : decode cX7_takeKind 25 = .ok (.invokevirtual 26, 3) := by decide +kernel
theorem dX7_takeKind_28 : decode cX7_takeKind 28 = .ok (.ifCond .eq 5, 3) := by decide +kernel
theorem dX7_takeKind_31 : decode cX7_takeKind 31 = .ok (.iconst 2, 1) := by decide +kernel
theorem dX7_takeKind_32 : decode cX7_takeKind 32 = .ok (.ireturn, 1) := by decide +kernel
theorem dX7_takeKind_33 : decode cX7_takeKind 33 = .ok (.aload_n 0, 1) := by decide +kernel
theorem dX7_takeKind_34 : decode cX7_takeKind 34 = .ok (.bipush 102, 2) := by decide +kernel
theorem dX7_takeKind_36 : decode cX7_takeKind 36 = .ok (.invokevirtual 26, 3) := by decide +kernel
theorem dX7_takeKind_39 : decode cX7_takeKind 39 = .ok (.ifCond .eq 7, 3) := by decide +kernel
theorem dX7_takeKind_42 : decode cX7_takeKind 42 = .ok (.iconst 3, 1) := by decide +kernel
theorem dX7_takeKind_43 : decode cX7_takeKind 43 = .ok (.goto 4, 3) := by decide +kernel
theorem dX7_takeKind_46 : decode cX7_takeKind 46 = .ok (.iconst (-1), 1) := by decide +kernel
theorem dX7_takeKind_47 : decode cX7_takeKind 47 = .ok (.ireturn, 1) := by decide +kernel
theorem dX8_init_0 : decode cX8_init 0 = .ok (.aload_n 0, 1) := by decide +kernel
theorem dX8_init_1 : decode cX8_init 1 = .ok (.invokespecial 1, 3) := by decide +kernel
theorem dX8_init_4 : decode cX8_init 4 = .ok (.aload_n 0, 1) := by decide +kernel
theorem dX8_init_5 : decode cX8_init 5 = .ok (.iload_n 1, 1) := by decide +kernel
theorem dX8_init_6 : decode cX8_init 6 = .ok (.putfield 7, 3) := by decide +kernel
theorem dX8_init_9 : decode cX8_init 9 = .ok (.aload_n 0, 1) := by decide +kernel
theorem dX8_init_10 : decode cX8_init 10 = .ok (.iload_n 2, 1) := by decide +kernel
theorem dX8_init_11 : decode cX8_init 11 = .ok (.putfield 13, 3) := by decide +kernel
theorem dX8_init_14 : decode cX8_init 14 = .ok (.aload_n 0, 1) := by decide +kernel
theorem dX8_init_15 : decode cX8_init 15 = .ok (.aload_n 3, 1) := by decide +kernel
theorem dX8_init_16 : decode cX8_init 16 = .ok (.putfield 16, 3) := by decide +kernel
theorem dX8_init_19 : decode cX8_init 19 = .ok (.return_, 1) := by decide +kernel
theorem dX9_init_0 : decode cX9_init 0 = .ok (.aload_n 0, 1) := by decide +kernel
theorem dX9_init_1 : decode cX9_init 1 = .ok (.invokespecial 3, 3) := by decide +kernel
theorem dX9_init_4 : decode cX9_init 4 = .ok (.aload_n 0, 1) := by decide +kernel
theorem dX9_init_5 : decode cX9_init 5 = .ok (.bipush 10, 2) := by decide +kernel
theorem dX9_init_7 : decode cX9_init 7 = .ok (.newarray .int, 2) := by decide +kernel
theorem dX9_init_9 : decode cX9_init 9 = .ok (.dup, 1) := by decide +kernel
theorem dX9_init_10 : decode cX9_init 10 = .ok (.iconst 0, 1) := by decide +kernel
theorem dX9_init_11 : decode cX9_init 11 = .ok (.iconst 1, 1) := by decide +kernel
theorem dX9_init_12 : decode cX9_init 12 = .ok (.iastore, 1) := by decide +kernel
theorem dX9_init_13 : decode cX9_init 13 = .ok (.dup, 1) := by decide +kernel
theorem dX9_init_14 : decode cX9_init 14 = .ok (.iconst 1, 1) := by decide +kernel
theorem dX9_init_15 : decode cX9_init 15 = .ok (.iconst 1, 1) := by decide +kernel
theorem dX9_init_16 : decode cX9_init 16 = .ok (.iastore, 1) := by decide +kernel
theorem dX9_init_17 : decode cX9_init 17 = .ok (.dup, 1) := by decide +kernel
theorem dX9_init_18 : decode cX9_init 18 = .ok (.iconst 2, 1) := by decide +kernel
theorem dX9_init_19 : decode cX9_init 19 = .ok (.iconst 1, 1) := by decide +kernel
theorem dX9_init_20 : decode cX9_init 20 = .ok (.iastore, 1) := by decide +kernel
theorem dX9_init_21 : decode cX9_init 21 = .ok (.dup, 1) := by decide +kernel
theorem dX9_init_22 : decode cX9_init 22 = .ok (.iconst 3, 1) := by decide +kernel
theorem dX9_init_23 : decode cX9_init 23 = .ok (.iconst 1, 1) := by decide +kernel
theorem dX9_init_24 : decode cX9_init 24 = .ok (.iastore, 1) := by decide +kernel
theorem dX9_init_25 : decode cX9_init 25 = .ok (.dup, 1) := by decide +kernel
theorem dX9_init_26 : decode cX9_init 26 = .ok (.iconst 4, 1) := by decide +kernel
theorem dX9_init_27 : decode cX9_init 27 = .ok (.iconst 1, 1) := by decide +kernel
theorem dX9_init_28 : decode cX9_init 28 = .ok (.iastore, 1) := by decide +kernel
theorem dX9_init_29 : decode cX9_init 29 = .ok (.dup, 1) := by decide +kernel
theorem dX9_init_30 : decode cX9_init 30 = .ok (.iconst 5, 1) := by decide +kernel
theorem dX9_init_31 : decode cX9_init 31 = .ok (.iconst 1, 1) := by decide +kernel
theorem dX9_init_32 : decode cX9_init 32 = .ok (.iastore, 1) := by decide +kernel
theorem dX9_init_33 : decode cX9_init 33 = .ok (.dup, 1) := by decide +kernel
theorem dX9_init_34 : decode cX9_init 34 = .ok (.bipush 6, 2) := by decide +kernel
theorem dX9_init_36 : decode cX9_init 36 = .ok (.iconst 1, 1) := by decide +kernel
theorem dX9_init_37 : decode cX9_init 37 = .ok (.iastore, 1) := by decide +kernel
theorem dX9_init_38 : decode cX9_init 38 = .ok (.dup, 1) := by decide +kernel
theorem dX9_init_39 : decode cX9_init 39 = .ok (.bipush 7, 2) := by decide +kernel
theorem dX9_init_41 : decode cX9_init 41 = .ok (.iconst 1, 1) := by decide +kernel
theorem dX9_init_42 : decode cX9_init 42 = .ok (.iastore, 1) := by decide +kernel
theorem dX9_init_43 : decode cX9_init 43 = .ok (.dup, 1) := by decide +kernel
theorem dX9_init_44 : decode cX9_init 44 = .ok (.bipush 8, 2) := by decide +kernel
theorem dX9_init_46 : decode cX9_init 46 = .ok (.iconst 1, 1) := by decide +kernel
theorem dX9_init_47 : decode cX9_init 47 = .ok (.iastore, 1) := by decide +kernel
theorem dX9_init_48 : decode cX9_init 48 = .ok (.dup, 1) := by decide +kernel
theorem dX9_init_49 : decode cX9_init 49 = .ok (.bipush 9, 2) := by decide +kernel
theorem dX9_init_51 : decode cX9_init 51 = .ok (.iconst 1, 1) := by decide +kernel
theorem dX9_init_52 : decode cX9_init 52 = .ok (.iastore, 1) := by decide +kernel
theorem dX9_init_53 : decode cX9_init 53 = .ok (.putfield 9, 3) := by decide +kernel
theorem dX9_init_56 : decode cX9_init 56 = .ok (.aload_n 0, 1) := by decide +kernel
theorem dX9_init_57 : decode cX9_init 57 = .ok (.iconst 4, 1) := by decide +kernel
theorem dX9_init_58 : decode cX9_init 58 = .ok (.newarray .int, 2) := by decide +kernel
theorem dX9_init_60 : decode cX9_init 60 = .ok (.putfield 15, 3) := by decide +kernel
theorem dX9_init_63 : decode cX9_init 63 = .ok (.aload_n 0, 1) := by decide +kernel
theorem dX9_init_64 : decode cX9_init 64 = .ok (.bipush 99, 2) := by decide +kernel
theorem dX9_init_66 : decode cX9_init 66 = .ok (.putfield 18, 3) := by decide +kernel
theorem dX9_init_69 : decode cX9_init 69 = .ok (.aload_n 0, 1) := by decide +kernel
theorem dX9_init_70 : decode cX9_init 70 = .ok (.iload_n 1, 1) := by decide +kernel
theorem dX9_init_71 : decode cX9_init 71 = .ok (.putfield 22, 3) := by decide +kernel
theorem dX9_init_74 : decode cX9_init 74 = .ok (.return_, 1) := by decide +kernel
theorem dX9_addGrave_0 : decode cX9_addGrave 0 = .ok (.iconst 0, 1) := by decide +kernel
theorem dX9_addGrave_1 : decode cX9_addGrave 1 = .ok (.istore_n 3, 1) := by decide +kernel
theorem dX9_addGrave_2 : decode cX9_addGrave 2 = .ok (.iload_n 3, 1) := by decide +kernel
theorem dX9_addGrave_3 : decode cX9_addGrave 3 = .ok (.iconst 4, 1) := by decide +kernel
theorem dX9_addGrave_4 : decode cX9_addGrave 4 = .ok (.if_icmp .ge 29, 3) := by decide +kernel
theorem dX9_addGrave_7 : decode cX9_addGrave 7 = .ok (.iload_n 3, 1) := by decide +kernel
theorem dX9_addGrave_8 : decode cX9_addGrave 8 = .ok (.iload_n 2, 1) := by decide +kernel
theorem dX9_addGrave_9 : decode cX9_addGrave 9 = .ok (.invokestatic 25, 3) := by decide +kernel
theorem dX9_addGrave_12 : decode cX9_addGrave 12 = .ok (.ifCond .eq 15, 3) := by decide +kernel
theorem dX9_addGrave_15 : decode cX9_addGrave 15 = .ok (.aload_n 0, 1) := by decide +kernel
theorem dX9_addGrave_16 : decode cX9_addGrave 16 = .ok (.getfield 15, 3) := by decide +kernel
theorem dX9_addGrave_19 : decode cX9_addGrave 19 = .ok (.iload_n 3, 1) := by decide +kernel
theorem dX9_addGrave_20 : decode cX9_addGrave 20 = .ok (.dup2, 1) := by decide +kernel
theorem dX9_addGrave_21 : decode cX9_addGrave 21 = .ok (.iaload, 1) := by decide +kernel
theorem dX9_addGrave_22 : decode cX9_addGrave 22 = .ok (.iconst 1, 1) := by decide +kernel
theorem dX9_addGrave_23 : decode cX9_addGrave 23 = .ok (.iload_n 1, 1) := by decide +kernel
theorem dX9_addGrave_24 : decode cX9_addGrave 24 = .ok (.ishl, 1) := by decide +kernel
theorem dX9_addGrave_25 : decode cX9_addGrave 25 = .ok (.ior, 1) := by decide +kernel
theorem dX9_addGrave_26 : decode cX9_addGrave 26 = .ok (.iastore, 1) := by decide +kernel
theorem dX9_addGrave_27 : decode cX9_addGrave 27 = .ok (.iinc 3 1, 3) := by decide +kernel
theorem dX9_addGrave_30 : decode cX9_addGrave 30 = .ok (.goto (-28), 3) := by decide +kernel
theorem dX9_addGrave_33 : decode cX9_addGrave 33 = .ok (.return_, 1) := by decide +kernel
theorem dX9_holdsFor_0 : decode cX9_holdsFor 0 = .ok (.iconst 0, 1) := by decide +kernel
theorem dX9_holdsFor_1 : decode cX9_holdsFor 1 = .ok (.istore_n 3, 1) := by decide +kernel
theorem dX9_holdsFor_2 : decode cX9_holdsFor 2 = .ok (.iconst 0, 1) := by decide +kernel
theorem dX9_holdsFor_3 : decode cX9_holdsFor 3 = .ok (.istore 4, 2) := by decide +kernel
theorem dX9_holdsFor_5 : decode cX9_holdsFor 5 = .ok (.iload 4, 2) := by decide +kernel
theorem dX9_holdsFor_7 : decode cX9_holdsFor 7 = .ok (.bipush 10, 2) := by decide +kernel
theorem dX9_holdsFor_9 : decode cX9_holdsFor 9 = .ok (.if_icmp .ge 26, 3) := by decide +kernel
theorem dX9_holdsFor_12 : decode cX9_holdsFor 12 = .ok (.iload_n 3, 1) := by decide +kernel
theorem dX9_holdsFor_13 : decode cX9_holdsFor 13 = .ok (.iload_n 2, 1) := by decide +kernel
theorem dX9_holdsFor_14 : decode cX9_holdsFor 14 = .ok (.iload 4, 2) := by decide +kernel
theorem dX9_holdsFor_16 : decode cX9_holdsFor 16 = .ok (.ishr, 1) := by decide +kernel
theorem dX9_holdsFor_17 : decode cX9_holdsFor 17 = .ok (.iconst 1, 1) := by decide +kernel
theorem dX9_holdsFor_18 : decode cX9_holdsFor 18 = .ok (.iand, 1) := by decide +kernel
theorem dX9_holdsFor_19 : decode cX9_holdsFor 19 = .ok (.aload_n 0, 1) := by decide +kernel
theorem dX9_holdsFor_20 : decode cX9_holdsFor 20 = .ok (.getfield 9, 3) := by decide +kernel
theorem dX9_holdsFor_23 : decode cX9_holdsFor 23 = .ok (.iload 4, 2) := by decide +kernel
theorem dX9_holdsFor_25 : decode cX9_holdsFor 25 = .ok (.iaload, 1) := by decide +kernel
theorem dX9_holdsFor_26 : decode cX9_holdsFor 26 = .ok (.imul, 1) := by decide +kernel
theorem dX9_holdsFor_27 : decode cX9_holdsFor 27 = .ok (.iadd, 1) := by decide +kernel
theorem dX9_holdsFor_28 : decode cX9_holdsFor 28 = .ok (.istore_n 3, 1) := by decide +kernel
theorem dX9_holdsFor_29 : decode cX9_holdsFor 29 = .ok (.iinc 4 1, 3) := by decide +kernel
theorem dX9_holdsFor_32 : decode cX9_holdsFor 32 = .ok (.goto (-27), 3) := by decide +kernel
theorem dX9_holdsFor_35 : decode cX9_holdsFor 35 = .ok (.aload_n 0, 1) := by decide +kernel
theorem dX9_holdsFor_36 : decode cX9_holdsFor 36 = .ok (.getfield 15, 3) := by decide +kernel
theorem dX9_holdsFor_39 : decode cX9_holdsFor 39 = .ok (.iload_n 1, 1) := by decide +kernel
theorem dX9_holdsFor_40 : decode cX9_holdsFor 40 = .ok (.iaload, 1) := by decide +kernel
theorem dX9_holdsFor_41 : decode cX9_holdsFor 41 = .ok (.iload_n 2, 1) := by decide +kernel
theorem dX9_holdsFor_42 : decode cX9_holdsFor 42 = .ok (.iand, 1) := by decide +kernel
theorem dX9_holdsFor_43 : decode cX9_holdsFor 43 = .ok (.ifCond .ne 11, 3) := by decide +kernel
theorem dX9_holdsFor_46 : decode cX9_holdsFor 46 = .ok (.iload_n 3, 1) := by decide +kernel
theorem dX9_holdsFor_47 : decode cX9_holdsFor 47 = .ok (.aload_n 0, 1) := by decide +kernel
theorem dX9_holdsFor_48 : decode cX9_holdsFor 48 = .ok (.getfield 18, 3) := by decide +kernel
theorem dX9_holdsFor_51 : decode cX9_holdsFor 51 = .ok (.if_icmp .lt 7, 3) := by decide +kernel
theorem dX9_holdsFor_54 : decode cX9_holdsFor 54 = .ok (.iconst 1, 1) := by decide +kernel
theorem dX9_holdsFor_55 : decode cX9_holdsFor 55 = .ok (.goto 4, 3) := by decide +kernel
theorem dX9_holdsFor_58 : decode cX9_holdsFor 58 = .ok (.iconst 0, 1) := by decide +kernel
theorem dX9_holdsFor_59 : decode cX9_holdsFor 59 = .ok (.ireturn, 1) := by decide +kernel
theorem dX10_init_0 : decode cX10_init 0 = .ok (.aload_n 0, 1) := by decide +kernel
theorem dX10_init_1 : decode cX10_init 1 = .ok (.invokespecial 3, 3) := by decide +kernel
theorem dX10_init_4 : decode cX10_init 4 = .ok (.aload_n 0, 1) := by decide +kernel
theorem dX10_init_5 : decode cX10_init 5 = .ok (.bipush 16, 2) := by decide +kernel
theorem dX10_init_7 : decode cX10_init 7 = .ok (.anewarray 9, 3) := by decide +kernel
theorem dX10_init_10 : decode cX10_init 10 = .ok (.putfield 11, 3) := by decide +kernel
theorem dX10_init_13 : decode cX10_init 13 = .ok (.aload_n 0, 1) := by decide +kernel
theorem dX10_init_14 : decode cX10_init 14 = .ok (.new 15, 3) := by decide +kernel
theorem dX10_init_17 : decode cX10_init 17 = .ok (.dup, 1) := by decide +kernel
theorem dX10_init_18 : decode cX10_init 18 = .ok (.invokespecial 17, 3) := by decide +kernel
theorem dX10_init_21 : decode cX10_init 21 = .ok (.putfield 18, 3) := by decide +kernel
theorem dX10_init_24 : decode cX10_init 24 = .ok (.aload_n 0, 1) := by decide +kernel
theorem dX10_init_25 : decode cX10_init 25 = .ok (.bipush 50, 2) := by decide +kernel
theorem dX10_init_27 : decode cX10_init 27 = .ok (.anewarray 22, 3) := by decide +kernel
theorem dX10_init_30 : decode cX10_init 30 = .ok (.putfield 24, 3) := by decide +kernel
theorem dX10_init_33 : decode cX10_init 33 = .ok (.aload_n 0, 1) := by decide +kernel
theorem dX10_init_34 : decode cX10_init 34 = .ok (.bipush 60, 2) := by decide +kernel
theorem dX10_init_36 : decode cX10_init 36 = .ok (.anewarray 28, 3) := by decide +kernel
theorem dX10_init_39 : decode cX10_init 39 = .ok (.putfield 30, 3) := by decide +kernel
theorem dX10_init_42 : decode cX10_init 42 = .ok (.aload_n 0, 1) := by decide +kernel
theorem dX10_init_43 : decode cX10_init 43 = .ok (.bipush 6, 2) := by decide +kernel
theorem dX10_init_45 : decode cX10_init 45 = .ok (.anewarray 34, 3) := by decide +kernel
theorem dX10_init_48 : decode cX10_init 48 = .ok (.putfield 36, 3) := by decide +kernel
theorem dX10_init_51 : decode cX10_init 51 = .ok (.aload_n 0, 1) := by decide +kernel
theorem dX10_init_52 : decode cX10_init 52 = .ok (.new 40, 3) := by decide +kernel
theorem dX10_init_55 : decode cX10_init 55 = .ok (.dup, 1) := by decide +kernel
theorem dX10_init_56 : decode cX10_init 56 = .ok (.invokespecial 42, 3) := by decide +kernel
theorem dX10_init_59 : decode cX10_init 59 = .ok (.putfield 43, 3) := by decide +kernel
theorem dX10_init_62 : decode cX10_init 62 = .ok (.aload_n 0, 1) := by decide +kernel
theorem dX10_init_63 : decode cX10_init 63 = .ok (.bipush 36, 2) := by decide +kernel
theorem dX10_init_65 : decode cX10_init 65 = .ok (.putfield 47, 3) := by decide +kernel
theorem dX10_init_68 : decode cX10_init 68 = .ok (.aload_n 0, 1) := by decide +kernel
theorem dX10_init_69 : decode cX10_init 69 = .ok (.bipush 16, 2) := by decide +kernel
theorem dX10_init_71 : decode cX10_init 71 = .ok (.newarray .int, 2) := by decide +kernel
theorem dX10_init_73 : decode cX10_init 73 = .ok (.putfield 51, 3) := by decide +kernel
theorem dX10_init_76 : decode cX10_init 76 = .ok (.aload_n 0, 1) := by decide +kernel
theorem dX10_init_77 : decode cX10_init 77 = .ok (.bipush 6, 2) := by decide +kernel
theorem dX10_init_79 : decode cX10_init 79 = .ok (.newarray .int, 2) := by decide +kernel
theorem dX10_init_81 : decode cX10_init 81 = .ok (.putfield 55, 3) := by decide +kernel
theorem dX10_init_84 : decode cX10_init 84 = .ok (.aload_n 0, 1) := by decide +kernel
theorem dX10_init_85 : decode cX10_init 85 = .ok (.new 58, 3) := by decide +kernel
theorem dX10_init_88 : decode cX10_init 88 = .ok (.dup, 1) := by decide +kernel
theorem dX10_init_89 : decode cX10_init 89 = .ok (.invokespecial 60, 3) := by decide +kernel
theorem dX10_init_92 : decode cX10_init 92 = .ok (.putfield 61, 3) := by decide +kernel
theorem dX10_init_95 : decode cX10_init 95 = .ok (.aload_n 0, 1) := by decide +kernel
theorem dX10_init_96 : decode cX10_init 96 = .ok (.new 65, 3) := by decide +kernel
theorem dX10_init_99 : decode cX10_init 99 = .ok (.dup, 1) := by decide +kernel
theorem dX10_init_100 : decode cX10_init 100 = .ok (.invokespecial 67, 3) := by decide +kernel
theorem dX10_init_103 : decode cX10_init 103 = .ok (.putfield 68, 3) := by decide +kernel
theorem dX10_init_106 : decode cX10_init 106 = .ok (.return_, 1) := by decide +kernel
theorem dX10_ship_0 : decode cX10_ship 0 = .ok (.iload_n 1, 1) := by decide +kernel
theorem dX10_ship_1 : decode cX10_ship 1 = .ok (.invokestatic 72, 3) := by decide +kernel
theorem dX10_ship_4 : decode cX10_ship 4 = .ok (.ifCond .eq 22, 3) := by decide +kernel
theorem dX10_ship_7 : decode cX10_ship 7 = .ok (.iload_n 2, 1) := by decide +kernel
theorem dX10_ship_8 : decode cX10_ship 8 = .ok (.invokestatic 76, 3) := by decide +kernel
theorem dX10_ship_11 : decode cX10_ship 11 = .ok (.ifCond .eq 15, 3) := by decide +kernel
theorem dX10_ship_14 : decode cX10_ship 14 = .ok (.iload_n 3, 1) := by decide +kernel
theorem dX10_ship_15 : decode cX10_ship 15 = .ok (.ifCond .lt 11, 3) := by decide +kernel
theorem dX10_ship_18 : decode cX10_ship 18 = .ok (.iload_n 3, 1) := by decide +kernel
theorem dX10_ship_19 : decode cX10_ship 19 = .ok (.aload_n 0, 1) := by decide +kernel
theorem dX10_ship_20 : decode cX10_ship 20 = .ok (.getfield 79, 3) := by decide +kernel
theorem dX10_ship_23 : decode cX10_ship 23 = .ok (.if_icmp .le 9, 3) := by decide +kernel
theorem dX10_ship_26 : decode cX10_ship 26 = .ok (.aload_n 0, 1) := by decide +kernel
theorem dX10_ship_27 : decode cX10_ship 27 = .ok (.iconst 1, 1) := by decide +kernel
theorem dX10_ship_28 : decode cX10_ship 28 = .ok (.invokevirtual 82, 3) := by decide +kernel
theorem dX10_ship_31 : decode cX10_ship 31 = .ok (.ireturn, 1) := by decide +kernel
theorem dX10_ship_32 : decode cX10_ship 32 = .ok (.aload_n 0, 1) := by decide +kernel
theorem dX10_ship_33 : decode cX10_ship 33 = .ok (.getfield 86, 3) := by decide +kernel
theorem dX10_ship_36 : decode cX10_ship 36 = .ok (.bipush 16, 2) := by decide +kernel
theorem dX10_ship_38 : decode cX10_ship 38 = .ok (.if_icmp .lt 9, 3) := by decide +kernel
theorem dX10_ship_41 : decode cX10_ship 41 = .ok (.aload_n 0, 1) := by decide +kernel
theorem dX10_ship_42 : decode cX10_ship 42 = .ok (.iconst 4, 1) := by decide +kernel
theorem dX10_ship_43 : decode cX10_ship 43 = .ok (.invokevirtual 82, 3) := by decide +kernel
theorem dX10_ship_46 : decode cX10_ship 46 = .ok (.ireturn, 1) := by decide +kernel
theorem dX10_ship_47 : decode cX10_ship 47 = .ok (.aload_n 0, 1) := by decide +kernel
theorem dX10_ship_48 : decode cX10_ship 48 = .ok (.getfield 11, 3) := by decide +kernel
theorem dX10_ship_51 : decode cX10_ship 51 = .ok (.aload_n 0, 1) := by decide +kernel
theorem dX10_ship_52 : decode cX10_ship 52 = .ok (.getfield 86, 3) := by decide +kernel
theorem dX10_ship_55 : decode cX10_ship 55 = .ok (.new 9, 3) := by decide +kernel
theorem dX10_ship_58 : decode cX10_ship 58 = .ok (.dup, 1) := by decide +kernel
theorem dX10_ship_59 : decode cX10_ship 59 = .ok (.aload_n 0, 1) := by decide +kernel
theorem dX10_ship_60 : decode cX10_ship 60 = .ok (.getfield 86, 3) := by decide +kernel
theorem dX10_ship_63 : decode cX10_ship 63 = .ok (.iload_n 1, 1) := by decide +kernel
theorem dX10_ship_64 : decode cX10_ship 64 = .ok (.iload_n 2, 1) := by decide +kernel
theorem dX10_ship_65 : decode cX10_ship 65 = .ok (.iload_n 3, 1) := by decide +kernel
theorem dX10_ship_66 : decode cX10_ship 66 = .ok (.invokespecial 89, 3) := by decide +kernel
theorem dX10_ship_69 : decode cX10_ship 69 = .ok (.aastore, 1) := by decide +kernel
theorem dX10_ship_70 : decode cX10_ship 70 = .ok (.aload_n 0, 1) := by decide +kernel
theorem dX10_ship_71 : decode cX10_ship 71 = .ok (.dup, 1) := by decide +kernel
theorem dX10_ship_72 : decode cX10_ship 72 = .ok (.getfield 86, 3) := by decide +kernel
theorem dX10_ship_75 : decode cX10_ship 75 = .ok (.iconst 1, 1) := by decide +kernel
theorem dX10_ship_76 : decode cX10_ship 76 = .ok (.iadd, 1) := by decide +kernel
theorem dX10_ship_77 : decode cX10_ship 77 = .ok (.putfield 86, 3) := by decide +kernel
theorem dX10_ship_80 : decode cX10_ship 80 = .ok (.aload_n 0, 1) := by decide +kernel
theorem dX10_ship_81 : decode cX10_ship 81 = .ok (.getfield 86, 3) := by decide +kernel
theorem dX10_ship_84 : decode cX10_ship 84 = .ok (.iconst 1, 1) := by decide +kernel
theorem dX10_ship_85 : decode cX10_ship 85 = .ok (.isub, 1) := by decide +kernel
theorem dX10_ship_86 : decode cX10_ship 86 = .ok (.ireturn, 1) := by decide +kernel
theorem dX10_as_0 : decode cX10_as 0 = .ok (.aload_n 0, 1) := by decide +kernel
theorem dX10_as_1 : decode cX10_as 1 = .ok (.iload_n 1, 1) := by decide +kernel
theorem dX10_as_2 : decode cX10_as 2 = .ok (.invokevirtual 92, 3) := by decide +kernel
theorem dX10_as_5 : decode cX10_as 5 = .ok (.astore_n 3, 1) := by decide +kernel
theorem dX10_as_6 : decode cX10_as 6 = .ok (.aload_n 3, 1) := by decide +kernel
theorem dX10_as_7 : decode cX10_as 7 = .ok (.ifnull 11, 3) := by decide +kernel
theorem dX10_as_10 : decode cX10_as 10 = .ok (.iload_n 2, 1) := by decide +kernel
theorem dX10_as_11 : decode cX10_as 11 = .ok (.iconst 4, 1) := by decide +kernel
theorem dX10_as_12 : decode cX10_as 12 = .ok (.invokestatic 96, 3) := by decide +kernel
theorem dX10_as_15 : decode cX10_as 15 = .ok (.ifCond .ne 9, 3) := by decide +kernel
theorem dX10_as_18 : decode cX10_as 18 = .ok (.aload_n 0, 1) := by decide +kernel
theorem dX10_as_19 : decode cX10_as 19 = .ok (.iconst 1, 1) := by decide +kernel
theorem dX10_as_20 : decode cX10_as 20 = .ok (.invokevirtual 82, 3) := by decide +kernel
theorem dX10_as_23 : decode cX10_as 23 = .ok (.ireturn, 1) := by decide +kernel
theorem dX10_as_24 : decode cX10_as 24 = .ok (.aload_n 3, 1) := by decide +kernel
theorem dX10_as_25 : decode cX10_as 25 = .ok (.getfield 100, 3) := by decide +kernel
theorem dX10_as_28 : decode cX10_as 28 = .ok (.iload_n 2, 1) := by decide +kernel
theorem dX10_as_29 : decode cX10_as 29 = .ok (.invokestatic 103, 3) := by decide +kernel
theorem dX10_as_32 : decode cX10_as 32 = .ok (.ifCond .ne 9, 3) := by decide +kernel
theorem dX10_as_35 : decode cX10_as 35 = .ok (.aload_n 0, 1) := by decide +kernel
theorem dX10_as_36 : decode cX10_as 36 = .ok (.iconst 5, 1) := by decide +kernel
theorem dX10_as_37 : decode cX10_as 37 = .ok (.invokevirtual 82, 3) := by decide +kernel
theorem dX10_as_40 : decode cX10_as 40 = .ok (.ireturn, 1) := by decide +kernel
theorem dX10_as_41 : decode cX10_as 41 = .ok (.getstatic 106, 3) := by decide +kernel
theorem dX10_as_44 : decode cX10_as 44 = .ok (.aload_n 3, 1) := by decide +kernel
theorem dX10_as_45 : decode cX10_as 45 = .ok (.getfield 100, 3) := by decide +kernel
theorem dX10_as_48 : decode cX10_as 48 = .ok (.iaload, 1) := by decide +kernel
theorem dX10_as_49 : decode cX10_as 49 = .ok (.ireturn, 1) := by decide +kernel
end
section
theorem dX10_change_0 : decode cX10_change 0 = .ok (.aload_n 0, 1) := by decide +kernel
theorem dX10_change_1 : decode cX10_change 1 = .ok (.iload_n 1, 1) := by decide +kernel
theorem dX10_change_2 : decode cX10_change 2 = .ok (.invokevirtual 92, 3) := by decide +kernel
theorem dX10_change_5 : decode cX10_change 5 = .ok (.astore 4, 2) := by decide +kernel
theorem dX10_change_7 : decode cX10_change 7 = .ok (.aload 4, 2) := by decide +kernel
theorem dX10_change_9 : decode cX10_change 9 = .ok (.ifnull 22, 3) := by decide +kernel
theorem dX10_change_12 : decode cX10_change 12 = .ok (.iload_n 2, 1) := by decide +kernel
theorem dX10_change_13 : decode cX10_change 13 = .ok (.iconst 3, 1) := by decide +kernel
theorem dX10_change_14 : decode cX10_change 14 = .ok (.invokestatic 96, 3) := by decide +kernel
theorem dX10_change_17 : decode cX10_change 17 = .ok (.ifCond .eq 14, 3) := by decide +kernel
theorem dX10_change_20 : decode cX10_change 20 = .ok (.iload_n 3, 1) := by decide +kernel
theorem dX10_change_21 : decode cX10_change 21 = .ok (.iload_n 2, 1) := by decide +kernel
theorem dX10_change_22 : decode cX10_change 22 = .ok (.invokestatic 109, 3) := by decide +kernel
theorem dX10_change_25 : decode cX10_change 25 = .ok (.invokestatic 96, 3) := by decide +kernel
theorem dX10_change_28 : decode cX10_change 28 = .ok (.ifCond .ne 9, 3) := by decide +kernel
theorem dX10_change_31 : decode cX10_change 31 = .ok (.aload_n 0, 1) := by decide +kernel
theorem dX10_change_32 : decode cX10_change 32 = .ok (.iconst 1, 1) := by decide +kernel
theorem dX10_change_33 : decode cX10_change 33 = .ok (.invokevirtual 82, 3) := by decide +kernel
theorem dX10_change_36 : decode cX10_change 36 = .ok (.ireturn, 1) := by decide +kernel
theorem dX10_change_37 : decode cX10_change 37 = .ok (.aload_n 0, 1) := by decide +kernel
theorem dX10_change_38 : decode cX10_change 38 = .ok (.getfield 112, 3) := by decide +kernel
theorem dX10_change_41 : decode cX10_change 41 = .ok (.bipush 60, 2) := by decide +kernel
theorem dX10_change_43 : decode cX10_change 43 = .ok (.if_icmp .lt 9, 3) := by decide +kernel
theorem dX10_change_46 : decode cX10_change 46 = .ok (.aload_n 0, 1) := by decide +kernel
theorem dX10_change_47 : decode cX10_change 47 = .ok (.iconst 4, 1) := by decide +kernel
theorem dX10_change_48 : decode cX10_change 48 = .ok (.invokevirtual 82, 3) := by decide +kernel
theorem dX10_change_51 : decode cX10_change 51 = .ok (.ireturn, 1) := by decide +kernel
theorem dX10_change_52 : decode cX10_change 52 = .ok (.aload 4, 2) := by decide +kernel
theorem dX10_change_54 : decode cX10_change 54 = .ok (.iload_n 2, 1) := by decide +kernel
theorem dX10_change_55 : decode cX10_change 55 = .ok (.aload_n 0, 1) := by decide +kernel
theorem dX10_change_56 : decode cX10_change 56 = .ok (.getfield 79, 3) := by decide +kernel
theorem dX10_change_59 : decode cX10_change 59 = .ok (.invokevirtual 115, 3) := by decide +kernel
theorem dX10_change_62 : decode cX10_change 62 = .ok (.istore 5, 2) := by decide +kernel
theorem dX10_change_64 : decode cX10_change 64 = .ok (.aload 4, 2) := by decide +kernel
theorem dX10_change_66 : decode cX10_change 66 = .ok (.iload_n 2, 1) := by decide +kernel
theorem dX10_change_67 : decode cX10_change 67 = .ok (.aload_n 0, 1) := by decide +kernel
theorem dX10_change_68 : decode cX10_change 68 = .ok (.getfield 79, 3) := by decide +kernel
theorem dX10_change_71 : decode cX10_change 71 = .ok (.iload_n 3, 1) := by decide +kernel
theorem dX10_change_72 : decode cX10_change 72 = .ok (.invokevirtual 119, 3) := by decide +kernel
theorem dX10_change_75 : decode cX10_change 75 = .ok (.aload_n 0, 1) := by decide +kernel
theorem dX10_change_76 : decode cX10_change 76 = .ok (.dup, 1) := by decide +kernel
theorem dX10_change_77 : decode cX10_change 77 = .ok (.getfield 112, 3) := by decide +kernel
theorem dX10_change_80 : decode cX10_change 80 = .ok (.iconst 1, 1) := by decide +kernel
theorem dX10_change_81 : decode cX10_change 81 = .ok (.iadd, 1) := by decide +kernel
theorem dX10_change_82 : decode cX10_change 82 = .ok (.putfield 112, 3) := by decide +kernel
theorem dX10_change_85 : decode cX10_change 85 = .ok (.iload 5, 2) := by decide +kernel
theorem dX10_change_87 : decode cX10_change 87 = .ok (.ireturn, 1) := by decide +kernel
theorem dX10_has_0 : decode cX10_has 0 = .ok (.aload_n 0, 1) := by decide +kernel
theorem dX10_has_1 : decode cX10_has 1 = .ok (.iload_n 1, 1) := by decide +kernel
theorem dX10_has_2 : decode cX10_has 2 = .ok (.invokevirtual 92, 3) := by decide +kernel
theorem dX10_has_5 : decode cX10_has 5 = .ok (.astore 4, 2) := by decide +kernel
theorem dX10_has_7 : decode cX10_has 7 = .ok (.aload 4, 2) := by decide +kernel
theorem dX10_has_9 : decode cX10_has 9 = .ok (.ifnull 21, 3) := by decide +kernel
theorem dX10_has_12 : decode cX10_has 12 = .ok (.iload_n 2, 1) := by decide +kernel
theorem dX10_has_13 : decode cX10_has 13 = .ok (.iconst 3, 1) := by decide +kernel
theorem dX10_has_14 : decode cX10_has 14 = .ok (.invokestatic 96, 3) := by decide +kernel
theorem dX10_has_17 : decode cX10_has 17 = .ok (.ifCond .eq 13, 3) := by decide +kernel
theorem dX10_has_20 : decode cX10_has 20 = .ok (.iload_n 3, 1) := by decide +kernel
theorem dX10_has_21 : decode cX10_has 21 = .ok (.sipush 10000, 3) := by decide +kernel
theorem dX10_has_24 : decode cX10_has 24 = .ok (.invokestatic 96, 3) := by decide +kernel
theorem dX10_has_27 : decode cX10_has 27 = .ok (.ifCond .ne 9, 3) := by decide +kernel
theorem dX10_has_30 : decode cX10_has 30 = .ok (.aload_n 0, 1) := by decide +kernel
theorem dX10_has_31 : decode cX10_has 31 = .ok (.iconst 1, 1) := by decide +kernel
theorem dX10_has_32 : decode cX10_has 32 = .ok (.invokevirtual 82, 3) := by decide +kernel
theorem dX10_has_35 : decode cX10_has 35 = .ok (.ireturn, 1) := by decide +kernel
theorem dX10_has_36 : decode cX10_has 36 = .ok (.aload 4, 2) := by decide +kernel
theorem dX10_has_38 : decode cX10_has 38 = .ok (.iload_n 2, 1) := by decide +kernel
theorem dX10_has_39 : decode cX10_has 39 = .ok (.iload_n 3, 1) := by decide +kernel
theorem dX10_has_40 : decode cX10_has 40 = .ok (.invokevirtual 115, 3) := by decide +kernel
theorem dX10_has_43 : decode cX10_has 43 = .ok (.ireturn, 1) := by decide +kernel
theorem dX10_named_0 : decode cX10_named 0 = .ok (.iload_n 1, 1) := by decide +kernel
theorem dX10_named_1 : decode cX10_named 1 = .ok (.bipush 100, 2) := by decide +kernel
theorem dX10_named_3 : decode cX10_named 3 = .ok (.invokestatic 96, 3) := by decide +kernel
theorem dX10_named_6 : decode cX10_named 6 = .ok (.ifCond .eq 13, 3) := by decide +kernel
theorem dX10_named_9 : decode cX10_named 9 = .ok (.iload_n 2, 1) := by decide +kernel
theorem dX10_named_10 : decode cX10_named 10 = .ok (.sipush 10000, 3) := by decide +kernel
theorem dX10_named_13 : decode cX10_named 13 = .ok (.invokestatic 96, 3) := by decide +kernel
theorem dX10_named_16 : decode cX10_named 16 = .ok (.ifCond .ne 9, 3) := by decide +kernel
theorem dX10_named_19 : decode cX10_named 19 = .ok (.aload_n 0, 1) := by decide +kernel
theorem dX10_named_20 : decode cX10_named 20 = .ok (.iconst 1, 1) := by decide +kernel
theorem dX10_named_21 : decode cX10_named 21 = .ok (.invokevirtual 82, 3) := by decide +kernel
theorem dX10_named_24 : decode cX10_named 24 = .ok (.ireturn, 1) := by decide +kernel
theorem dX10_named_25 : decode cX10_named 25 = .ok (.iconst 0, 1) := by decide +kernel
theorem dX10_named_26 : decode cX10_named 26 = .ok (.istore_n 3, 1) := by decide +kernel
theorem dX10_named_27 : decode cX10_named 27 = .ok (.iload_n 3, 1) := by decide +kernel
theorem dX10_named_28 : decode cX10_named 28 = .ok (.aload_n 0, 1) := by decide +kernel
theorem dX10_named_29 : decode cX10_named 29 = .ok (.getfield 86, 3) := by decide +kernel
theorem dX10_named_32 : decode cX10_named 32 = .ok (.if_icmp .ge 26, 3) := by decide +kernel
theorem dX10_named_35 : decode cX10_named 35 = .ok (.aload_n 0, 1) := by decide +kernel
theorem dX10_named_36 : decode cX10_named 36 = .ok (.getfield 11, 3) := by decide +kernel
theorem dX10_named_39 : decode cX10_named 39 = .ok (.iload_n 3, 1) := by decide +kernel
theorem dX10_named_40 : decode cX10_named 40 = .ok (.aaload, 1) := by decide +kernel
theorem dX10_named_41 : decode cX10_named 41 = .ok (.iconst 0, 1) := by decide +kernel
theorem dX10_named_42 : decode cX10_named 42 = .ok (.iload_n 2, 1) := by decide +kernel
theorem dX10_named_43 : decode cX10_named 43 = .ok (.invokevirtual 115, 3) := by decide +kernel
theorem dX10_named_46 : decode cX10_named 46 = .ok (.iload_n 1, 1) := by decide +kernel
theorem dX10_named_47 : decode cX10_named 47 = .ok (.if_icmp .ne 5, 3) := by decide +kernel
theorem dX10_named_50 : decode cX10_named 50 = .ok (.iload_n 3, 1) := by decide +kernel
theorem dX10_named_51 : decode cX10_named 51 = .ok (.ireturn, 1) := by decide +kernel
theorem dX10_named_52 : decode cX10_named 52 = .ok (.iinc 3 1, 3) := by decide +kernel
theorem dX10_named_55 : decode cX10_named 55 = .ok (.goto (-28), 3) := by decide +kernel
theorem dX10_named_58 : decode cX10_named 58 = .ok (.aload_n 0, 1) := by decide +kernel
theorem dX10_named_59 : decode cX10_named 59 = .ok (.iconst 2, 1) := by decide +kernel
theorem dX10_named_60 : decode cX10_named 60 = .ok (.invokevirtual 82, 3) := by decide +kernel
theorem dX10_named_63 : decode cX10_named 63 = .ok (.ireturn, 1) := by decide +kernel
theorem dX10_one_0 : decode cX10_one 0 = .ok (.iload_n 1, 1) := by decide +kernel
theorem dX10_one_1 : decode cX10_one 1 = .ok (.bipush 10, 2) := by decide +kernel
theorem dX10_one_3 : decode cX10_one 3 = .ok (.invokestatic 96, 3) := by decide +kernel
theorem dX10_one_6 : decode cX10_one 6 = .ok (.ifCond .eq 17, 3) := by decide +kernel
theorem dX10_one_9 : decode cX10_one 9 = .ok (.iload_n 2, 1) := by decide +kernel
theorem dX10_one_10 : decode cX10_one 10 = .ok (.bipush 10, 2) := by decide +kernel
theorem dX10_one_12 : decode cX10_one 12 = .ok (.invokestatic 96, 3) := by decide +kernel
theorem dX10_one_15 : decode cX10_one 15 = .ok (.ifCond .eq 8, 3) := by decide +kernel
theorem dX10_one_18 : decode cX10_one 18 = .ok (.iload_n 1, 1) := by decide +kernel
theorem dX10_one_19 : decode cX10_one 19 = .ok (.iload_n 2, 1) := by decide +kernel
theorem dX10_one_20 : decode cX10_one 20 = .ok (.if_icmp .ne 9, 3) := by decide +kernel
theorem dX10_one_23 : decode cX10_one 23 = .ok (.aload_n 0, 1) := by decide +kernel
theorem dX10_one_24 : decode cX10_one 24 = .ok (.iconst 1, 1) := by decide +kernel
theorem dX10_one_25 : decode cX10_one 25 = .ok (.invokevirtual 82, 3) := by decide +kernel
theorem dX10_one_28 : decode cX10_one 28 = .ok (.ireturn, 1) := by decide +kernel
theorem dX10_one_29 : decode cX10_one 29 = .ok (.aload_n 0, 1) := by decide +kernel
theorem dX10_one_30 : decode cX10_one 30 = .ok (.getfield 18, 3) := by decide +kernel
theorem dX10_one_33 : decode cX10_one 33 = .ok (.getfield 123, 3) := by decide +kernel
theorem dX10_one_36 : decode cX10_one 36 = .ok (.bipush 12, 2) := by decide +kernel
theorem dX10_one_38 : decode cX10_one 38 = .ok (.if_icmp .lt 9, 3) := by decide +kernel
theorem dX10_one_41 : decode cX10_one 41 = .ok (.aload_n 0, 1) := by decide +kernel
theorem dX10_one_42 : decode cX10_one 42 = .ok (.iconst 4, 1) := by decide +kernel
theorem dX10_one_43 : decode cX10_one 43 = .ok (.invokevirtual 82, 3) := by decide +kernel
theorem dX10_one_46 : decode cX10_one 46 = .ok (.ireturn, 1) := by decide +kernel
theorem dX10_one_47 : decode cX10_one 47 = .ok (.aload_n 0, 1) := by decide +kernel
theorem dX10_one_48 : decode cX10_one 48 = .ok (.getfield 18, 3) := by decide +kernel
theorem dX10_one_51 : decode cX10_one 51 = .ok (.iload_n 1, 1) := by decide +kernel
theorem dX10_one_52 : decode cX10_one 52 = .ok (.iload_n 2, 1) := by decide +kernel
theorem dX10_one_53 : decode cX10_one 53 = .ok (.invokevirtual 126, 3) := by decide +kernel
theorem dX10_one_56 : decode cX10_one 56 = .ok (.aload_n 0, 1) := by decide +kernel
theorem dX10_one_57 : decode cX10_one 57 = .ok (.getfield 18, 3) := by decide +kernel
theorem dX10_one_60 : decode cX10_one 60 = .ok (.getfield 123, 3) := by decide +kernel
theorem dX10_one_63 : decode cX10_one 63 = .ok (.ireturn, 1) := by decide +kernel
theorem dX10_fleet_0 : decode cX10_fleet 0 = .ok (.iload_n 1, 1) := by decide +kernel
theorem dX10_fleet_1 : decode cX10_fleet 1 = .ok (.bipush 10, 2) := by decide +kernel
theorem dX10_fleet_3 : decode cX10_fleet 3 = .ok (.invokestatic 96, 3) := by decide +kernel
theorem dX10_fleet_6 : decode cX10_fleet 6 = .ok (.ifCond .eq 13, 3) := by decide +kernel
theorem dX10_fleet_9 : decode cX10_fleet 9 = .ok (.iload_n 2, 1) := by decide +kernel
theorem dX10_fleet_10 : decode cX10_fleet 10 = .ok (.sipush 10000, 3) := by decide +kernel
theorem dX10_fleet_13 : decode cX10_fleet 13 = .ok (.invokestatic 96, 3) := by decide +kernel
theorem dX10_fleet_16 : decode cX10_fleet 16 = .ok (.ifCond .ne 9, 3) := by decide +kernel
theorem dX10_fleet_19 : decode cX10_fleet 19 = .ok (.aload_n 0, 1) := by decide +kernel
theorem dX10_fleet_20 : decode cX10_fleet 20 = .ok (.iconst 1, 1) := by decide +kernel
theorem dX10_fleet_21 : decode cX10_fleet 21 = .ok (.invokevirtual 82, 3) := by decide +kernel
theorem dX10_fleet_24 : decode cX10_fleet 24 = .ok (.ireturn, 1) := by decide +kernel
theorem dX10_fleet_25 : decode cX10_fleet 25 = .ok (.aload_n 0, 1) := by decide +kernel
theorem dX10_fleet_26 : decode cX10_fleet 26 = .ok (.iload_n 1, 1) := by decide +kernel
theorem dX10_fleet_27 : decode cX10_fleet 27 = .ok (.iload_n 2, 1) := by decide +kernel
theorem dX10_fleet_28 : decode cX10_fleet 28 = .ok (.invokevirtual 130, 3) := by decide +kernel
theorem dX10_fleet_31 : decode cX10_fleet 31 = .ok (.ireturn, 1) := by decide +kernel
theorem dX10_day_0 : decode cX10_day 0 = .ok (.iload_n 1, 1) := by decide +kernel
theorem dX10_day_1 : decode cX10_day 1 = .ok (.sipush 10000, 3) := by decide +kernel
theorem dX10_day_4 : decode cX10_day 4 = .ok (.invokestatic 96, 3) := by decide +kernel
theorem dX10_day_7 : decode cX10_day 7 = .ok (.ifCond .eq 11, 3) := by decide +kernel
theorem dX10_day_10 : decode cX10_day 10 = .ok (.iload_n 1, 1) := by decide +kernel
theorem dX10_day_11 : decode cX10_day 11 = .ok (.aload_n 0, 1) := by decide +kernel
theorem dX10_day_12 : decode cX10_day 12 = .ok (.getfield 79, 3) := by decide +kernel
theorem dX10_day_15 : decode cX10_day 15 = .ok (.if_icmp .ge 9, 3) := by decide +kernel
theorem dX10_day_18 : decode cX10_day 18 = .ok (.aload_n 0, 1) := by decide +kernel
theorem dX10_day_19 : decode cX10_day 19 = .ok (.iconst 1, 1) := by decide +kernel
theorem dX10_day_20 : decode cX10_day 20 = .ok (.invokevirtual 82, 3) := by decide +kernel
theorem dX10_day_23 : decode cX10_day 23 = .ok (.ireturn, 1) := by decide +kernel
theorem dX10_day_24 : decode cX10_day 24 = .ok (.iload_n 1, 1) := by decide +kernel
theorem dX10_day_25 : decode cX10_day 25 = .ok (.aload_n 0, 1) := by decide +kernel
theorem dX10_day_26 : decode cX10_day 26 = .ok (.getfield 79, 3) := by decide +kernel
theorem dX10_day_29 : decode cX10_day 29 = .ok (.isub, 1) := by decide +kernel
theorem dX10_day_30 : decode cX10_day 30 = .ok (.istore_n 2, 1) := by decide +kernel
theorem dX10_day_31 : decode cX10_day 31 = .ok (.aload_n 0, 1) := by decide +kernel
theorem dX10_day_32 : decode cX10_day 32 = .ok (.iload_n 1, 1) := by decide +kernel
theorem dX10_day_33 : decode cX10_day 33 = .ok (.putfield 79, 3) := by decide +kernel
theorem dX10_day_36 : decode cX10_day 36 = .ok (.iload_n 2, 1) := by decide +kernel
theorem dX10_day_37 : decode cX10_day 37 = .ok (.ireturn, 1) := by decide +kernel
theorem dX10_call_0 : decode cX10_call 0 = .ok (.aload_n 0, 1) := by decide +kernel
theorem dX10_call_1 : decode cX10_call 1 = .ok (.iload_n 1, 1) := by decide +kernel
theorem dX10_call_2 : decode cX10_call 2 = .ok (.invokevirtual 92, 3) := by decide +kernel
theorem dX10_call_5 : decode cX10_call 5 = .ok (.astore_n 3, 1) := by decide +kernel
theorem dX10_call_6 : decode cX10_call 6 = .ok (.aload_n 3, 1) := by decide +kernel
theorem dX10_call_7 : decode cX10_call 7 = .ok (.ifnull 11, 3) := by decide +kernel
theorem dX10_call_10 : decode cX10_call 10 = .ok (.iload_n 2, 1) := by decide +kernel
theorem dX10_call_11 : decode cX10_call 11 = .ok (.iconst 5, 1) := by decide +kernel
theorem dX10_call_12 : decode cX10_call 12 = .ok (.invokestatic 96, 3) := by decide +kernel
theorem dX10_call_15 : decode cX10_call 15 = .ok (.ifCond .ne 9, 3) := by decide +kernel
theorem dX10_call_18 : decode cX10_call 18 = .ok (.aload_n 0, 1) := by decide +kernel
theorem dX10_call_19 : decode cX10_call 19 = .ok (.iconst 1, 1) := by decide +kernel
theorem dX10_call_20 : decode cX10_call 20 = .ok (.invokevirtual 82, 3) := by decide +kernel
theorem dX10_call_23 : decode cX10_call 23 = .ok (.ireturn, 1) := by decide +kernel
theorem dX10_call_24 : decode cX10_call 24 = .ok (.aload_n 3, 1) := by decide +kernel
theorem dX10_call_25 : decode cX10_call 25 = .ok (.getfield 133, 3) := by decide +kernel
theorem dX10_call_28 : decode cX10_call 28 = .ok (.ifnonnull 10, 3) := by decide +kernel
theorem dX10_call_31 : decode cX10_call 31 = .ok (.aload_n 3, 1) := by decide +kernel
theorem dX10_call_32 : decode cX10_call 32 = .ok (.invokevirtual 137, 3) := by decide +kernel
theorem dX10_call_35 : decode cX10_call 35 = .ok (.ifCond .eq 9, 3) := by decide +kernel
theorem dX10_call_38 : decode cX10_call 38 = .ok (.aload_n 0, 1) := by decide +kernel
theorem dX10_call_39 : decode cX10_call 39 = .ok (.iconst 3, 1) := by decide +kernel
theorem dX10_call_40 : decode cX10_call 40 = .ok (.invokevirtual 82, 3) := by decide +kernel
theorem dX10_call_43 : decode cX10_call 43 = .ok (.ireturn, 1) := by decide +kernel
theorem dX10_call_44 : decode cX10_call 44 = .ok (.aload_n 0, 1) := by decide +kernel
theorem dX10_call_45 : decode cX10_call 45 = .ok (.getfield 141, 3) := by decide +kernel
theorem dX10_call_48 : decode cX10_call 48 = .ok (.bipush 50, 2) := by decide +kernel
theorem dX10_call_50 : decode cX10_call 50 = .ok (.if_icmp .lt 9, 3) := by decide +kernel
theorem dX10_call_53 : decode cX10_call 53 = .ok (.aload_n 0, 1) := by decide +kernel
theorem dX10_call_54 : decode cX10_call 54 = .ok (.iconst 4, 1) := by decide +kernel
theorem dX10_call_55 : decode cX10_call 55 = .ok (.invokevirtual 82, 3) := by decide +kernel
theorem dX10_call_58 : decode cX10_call 58 = .ok (.ireturn, 1) := by decide +kernel
theorem dX10_call_59 : decode cX10_call 59 = .ok (.new 22, 3) := by decide +kernel
theorem dX10_call_62 : decode cX10_call 62 = .ok (.dup, 1) := by decide +kernel
theorem dX10_call_63 : decode cX10_call 63 = .ok (.aload_n 0, 1) := by decide +kernel
theorem dX10_call_64 : decode cX10_call 64 = .ok (.getfield 141, 3) := by decide +kernel
theorem dX10_call_67 : decode cX10_call 67 = .ok (.aload_n 3, 1) := by decide +kernel
theorem dX10_call_68 : decode cX10_call 68 = .ok (.iload_n 2, 1) := by decide +kernel
theorem dX10_call_69 : decode cX10_call 69 = .ok (.aload_n 0, 1) := by decide +kernel
theorem dX10_call_70 : decode cX10_call 70 = .ok (.getfield 79, 3) := by decide +kernel
theorem dX10_call_73 : decode cX10_call 73 = .ok (.invokespecial 144, 3) := by decide +kernel
theorem dX10_call_76 : decode cX10_call 76 = .ok (.astore 4, 2) := by decide +kernel
theorem dX10_call_78 : decode cX10_call 78 = .ok (.aload_n 3, 1) := by decide +kernel
theorem dX10_call_79 : decode cX10_call 79 = .ok (.aload 4, 2) := by decide +kernel
theorem dX10_call_81 : decode cX10_call 81 = .ok (.putfield 133, 3) := by decide +kernel
theorem dX10_call_84 : decode cX10_call 84 = .ok (.aload_n 0, 1) := by decide +kernel
theorem dX10_call_85 : decode cX10_call 85 = .ok (.getfield 24, 3) := by decide +kernel
theorem dX10_call_88 : decode cX10_call 88 = .ok (.aload_n 0, 1) := by decide +kernel
theorem dX10_call_89 : decode cX10_call 89 = .ok (.getfield 141, 3) := by decide +kernel
theorem dX10_call_92 : decode cX10_call 92 = .ok (.aload 4, 2) := by decide +kernel
theorem dX10_call_94 : decode cX10_call 94 = .ok (.aastore, 1) := by decide +kernel
theorem dX10_call_95 : decode cX10_call 95 = .ok (.aload_n 0, 1) := by decide +kernel
theorem dX10_call_96 : decode cX10_call 96 = .ok (.dup, 1) := by decide +kernel
theorem dX10_call_97 : decode cX10_call 97 = .ok (.getfield 141, 3) := by decide +kernel
theorem dX10_call_100 : decode cX10_call 100 = .ok (.iconst 1, 1) := by decide +kernel
theorem dX10_call_101 : decode cX10_call 101 = .ok (.iadd, 1) := by decide +kernel
theorem dX10_call_102 : decode cX10_call 102 = .ok (.putfield 141, 3) := by decide +kernel
theorem dX10_call_105 : decode cX10_call 105 = .ok (.aload 4, 2) := by decide +kernel
theorem dX10_call_107 : decode cX10_call 107 = .ok (.getfield 147, 3) := by decide +kernel
theorem dX10_call_110 : decode cX10_call 110 = .ok (.ireturn, 1) := by decide +kernel
theorem dX10_leave_0 : decode cX10_leave 0 = .ok (.aload_n 0, 1) := by decide +kernel
theorem dX10_leave_1 : decode cX10_leave 1 = .ok (.iload_n 1, 1) := by decide +kernel
theorem dX10_leave_2 : decode cX10_leave 2 = .ok (.invokevirtual 150, 3) := by decide +kernel
theorem dX10_leave_5 : decode cX10_leave 5 = .ok (.astore_n 2, 1) := by decide +kernel
theorem dX10_leave_6 : decode cX10_leave 6 = .ok (.aload_n 2, 1) := by decide +kernel
theorem dX10_leave_7 : decode cX10_leave 7 = .ok (.ifnonnull 9, 3) := by decide +kernel
theorem dX10_leave_10 : decode cX10_leave 10 = .ok (.aload_n 0, 1) := by decide +kernel
theorem dX10_leave_11 : decode cX10_leave 11 = .ok (.iconst 1, 1) := by decide +kernel
theorem dX10_leave_12 : decode cX10_leave 12 = .ok (.invokevirtual 82, 3) := by decide +kernel
theorem dX10_leave_15 : decode cX10_leave 15 = .ok (.ireturn, 1) := by decide +kernel
theorem dX10_leave_16 : decode cX10_leave 16 = .ok (.aload_n 2, 1) := by decide +kernel
theorem dX10_leave_17 : decode cX10_leave 17 = .ok (.invokevirtual 154, 3) := by decide +kernel
theorem dX10_leave_20 : decode cX10_leave 20 = .ok (.ifCond .ne 10, 3) := by decide +kernel
theorem dX10_leave_23 : decode cX10_leave 23 = .ok (.aload_n 2, 1) := by decide +kernel
theorem dX10_leave_24 : decode cX10_leave 24 = .ok (.getfield 157, 3) := by decide +kernel
theorem dX10_leave_27 : decode cX10_leave 27 = .ok (.ifCond .eq 9, 3) := by decide +kernel
theorem dX10_leave_30 : decode cX10_leave 30 = .ok (.aload_n 0, 1) := by decide +kernel
theorem dX10_leave_31 : decode cX10_leave 31 = .ok (.iconst 3, 1) := by decide +kernel
theorem dX10_leave_32 : decode cX10_leave 32 = .ok (.invokevirtual 82, 3) := by decide +kernel
theorem dX10_leave_35 : decode cX10_leave 35 = .ok (.ireturn, 1) := by decide +kernel
theorem dX10_leave_36 : decode cX10_leave 36 = .ok (.aload_n 2, 1) := by decide +kernel
theorem dX10_leave_37 : decode cX10_leave 37 = .ok (.aload_n 0, 1) := by decide +kernel
theorem dX10_leave_38 : decode cX10_leave 38 = .ok (.getfield 79, 3) := by decide +kernel
theorem dX10_leave_41 : decode cX10_leave 41 = .ok (.putfield 161, 3) := by decide +kernel
theorem dX10_leave_44 : decode cX10_leave 44 = .ok (.aload_n 2, 1) := by decide +kernel
theorem dX10_leave_45 : decode cX10_leave 45 = .ok (.getfield 164, 3) := by decide +kernel
theorem dX10_leave_48 : decode cX10_leave 48 = .ok (.aconst_null, 1) := by decide +kernel
theorem dX10_leave_49 : decode cX10_leave 49 = .ok (.putfield 133, 3) := by decide +kernel
theorem dX10_leave_52 : decode cX10_leave 52 = .ok (.iconst 1, 1) := by decide +kernel
theorem dX10_leave_53 : decode cX10_leave 53 = .ok (.ireturn, 1) := by decide +kernel
theorem dX10_of_0 : decode cX10_of 0 = .ok (.aload_n 0, 1) := by decide +kernel
theorem dX10_of_1 : decode cX10_of 1 = .ok (.iload_n 1, 1) := by decide +kernel
theorem dX10_of_2 : decode cX10_of 2 = .ok (.invokevirtual 150, 3) := by decide +kernel
theorem dX10_of_5 : decode cX10_of 5 = .ok (.astore_n 3, 1) := by decide +kernel
theorem dX10_of_6 : decode cX10_of 6 = .ok (.aload_n 3, 1) := by decide +kernel
theorem dX10_of_7 : decode cX10_of 7 = .ok (.ifnonnull 9, 3) := by decide +kernel
theorem dX10_of_10 : decode cX10_of 10 = .ok (.aload_n 0, 1) := by decide +kernel
theorem dX10_of_11 : decode cX10_of 11 = .ok (.iconst 1, 1) := by decide +kernel
theorem dX10_of_12 : decode cX10_of 12 = .ok (.invokevirtual 82, 3) := by decide +kernel
theorem dX10_of_15 : decode cX10_of 15 = .ok (.ireturn, 1) := by decide +kernel
theorem dX10_of_16 : decode cX10_of 16 = .ok (.iload_n 2, 1) := by decide +kernel
theorem dX10_of_17 : decode cX10_of 17 = .ok (.tableswitch 80 0 5 #[39, 47, 52, 57, 62, 75], 39) := by decide +kernel
theorem dX10_of_56 : decode cX10_of 56 = .ok (.aload_n 3, 1) := by decide +kernel
theorem dX10_of_57 : decode cX10_of 57 = .ok (.getfield 164, 3) := by decide +kernel
theorem dX10_of_60 : decode cX10_of 60 = .ok (.getfield 168, 3) := by decide +kernel
theorem dX10_of_63 : decode cX10_of 63 = .ok (.ireturn, 1) := by decide +kernel
theorem dX10_of_64 : decode cX10_of 64 = .ok (.aload_n 3, 1) := by decide +kernel
theorem dX10_of_65 : decode cX10_of 65 = .ok (.getfield 169, 3) := by decide +kernel
theorem dX10_of_68 : decode cX10_of 68 = .ok (.ireturn, 1) := by decide +kernel
theorem dX10_of_69 : decode cX10_of 69 = .ok (.aload_n 3, 1) := by decide +kernel
theorem dX10_of_70 : decode cX10_of 70 = .ok (.getfield 172, 3) := by decide +kernel
theorem dX10_of_73 : decode cX10_of 73 = .ok (.ireturn, 1) := by decide +kernel
theorem dX10_of_74 : decode cX10_of 74 = .ok (.aload_n 3, 1) := by decide +kernel
theorem dX10_of_75 : decode cX10_of 75 = .ok (.getfield 161, 3) := by decide +kernel
theorem dX10_of_78 : decode cX10_of 78 = .ok (.ireturn, 1) := by decide +kernel
theorem dX10_of_79 : decode cX10_of 79 = .ok (.aload_n 3, 1) := by decide +kernel
theorem dX10_of_80 : decode cX10_of 80 = .ok (.getfield 157, 3) := by decide +kernel
theorem dX10_of_83 : decode cX10_of 83 = .ok (.ifCond .eq 7, 3) := by decide +kernel
theorem dX10_of_86 : decode cX10_of 86 = .ok (.iconst 1, 1) := by decide +kernel
theorem dX10_of_87 : decode cX10_of 87 = .ok (.goto 4, 3) := by decide +kernel
theorem dX10_of_90 : decode cX10_of 90 = .ok (.iconst 0, 1) := by decide +kernel
theorem dX10_of_91 : decode cX10_of 91 = .ok (.ireturn, 1) := by decide +kernel
theorem dX10_of_92 : decode cX10_of 92 = .ok (.aload_n 3, 1) := by decide +kernel
theorem dX10_of_93 : decode cX10_of 93 = .ok (.getfield 175, 3) := by decide +kernel
theorem dX10_of_96 : decode cX10_of 96 = .ok (.ireturn, 1) := by decide +kernel
theorem dX10_of_97 : decode cX10_of 97 = .ok (.aload_n 0, 1) := by decide +kernel
theorem dX10_of_98 : decode cX10_of 98 = .ok (.iconst 1, 1) := by decide +kernel
theorem dX10_of_99 : decode cX10_of 99 = .ok (.invokevirtual 82, 3) := by decide +kernel
theorem dX10_of_102 : decode cX10_of 102 = .ok (.ireturn, 1) := by decide +kernel
theorem dX10_feed_0 : decode cX10_feed 0 = .ok (.iload_n 1, 1) := by decide +kernel
theorem dX10_feed_1 : decode cX10_feed 1 = .ok (.sipush 256, 3) := by decide +kernel
theorem dX10_feed_4 : decode cX10_feed 4 = .ok (.invokestatic 96, 3) := by decide +kernel
theorem dX10_feed_7 : decode cX10_feed 7 = .ok (.ifCond .ne 9, 3) := by decide +kernel
theorem dX10_feed_10 : decode cX10_feed 10 = .ok (.aload_n 0, 1) := by decide +kernel
theorem dX10_feed_11 : decode cX10_feed 11 = .ok (.iconst 1, 1) := by decide +kernel
theorem dX10_feed_12 : decode cX10_feed 12 = .ok (.invokevirtual 82, 3) := by decide +kernel
theorem dX10_feed_15 : decode cX10_feed 15 = .ok (.ireturn, 1) := by decide +kernel
theorem dX10_feed_16 : decode cX10_feed 16 = .ok (.aload_n 0, 1) := by decide +kernel
theorem dX10_feed_17 : decode cX10_feed 17 = .ok (.getfield 43, 3) := by decide +kernel
theorem dX10_feed_20 : decode cX10_feed 20 = .ok (.getfield 178, 3) := by decide +kernel
theorem dX10_feed_23 : decode cX10_feed 23 = .ok (.bipush 60, 2) := by decide +kernel
theorem dX10_feed_25 : decode cX10_feed 25 = .ok (.if_icmp .lt 9, 3) := by decide +kernel
theorem dX10_feed_28 : decode cX10_feed 28 = .ok (.aload_n 0, 1) := by decide +kernel
theorem dX10_feed_29 : decode cX10_feed 29 = .ok (.iconst 4, 1) := by decide +kernel
theorem dX10_feed_30 : decode cX10_feed 30 = .ok (.invokevirtual 82, 3) := by decide +kernel
theorem dX10_feed_33 : decode cX10_feed 33 = .ok (.ireturn, 1) := by decide +kernel
theorem dX10_feed_34 : decode cX10_feed 34 = .ok (.aload_n 0, 1) := by decide +kernel
theorem dX10_feed_35 : decode cX10_feed 35 = .ok (.getfield 43, 3) := by decide +kernel
theorem dX10_feed_38 : decode cX10_feed 38 = .ok (.iload_n 1, 1) := by decide +kernel
theorem dX10_feed_39 : decode cX10_feed 39 = .ok (.invokevirtual 181, 3) := by decide +kernel
theorem dX10_feed_42 : decode cX10_feed 42 = .ok (.aload_n 0, 1) := by decide +kernel
theorem dX10_feed_43 : decode cX10_feed 43 = .ok (.getfield 43, 3) := by decide +kernel
theorem dX10_feed_46 : decode cX10_feed 46 = .ok (.getfield 178, 3) := by decide +kernel
theorem dX10_feed_49 : decode cX10_feed 49 = .ok (.ireturn, 1) := by decide +kernel
theorem dX10_treaty_0 : decode cX10_treaty 0 = .ok (.iload_n 1, 1) := by decide +kernel
theorem dX10_treaty_1 : decode cX10_treaty 1 = .ok (.sipush 10000, 3) := by decide +kernel
theorem dX10_treaty_4 : decode cX10_treaty 4 = .ok (.invokestatic 96, 3) := by decide +kernel
theorem dX10_treaty_7 : decode cX10_treaty 7 = .ok (.ifCond .ne 9, 3) := by decide +kernel
theorem dX10_treaty_10 : decode cX10_treaty 10 = .ok (.aload_n 0, 1) := by decide +kernel
theorem dX10_treaty_11 : decode cX10_treaty 11 = .ok (.iconst 1, 1) := by decide +kernel
theorem dX10_treaty_12 : decode cX10_treaty 12 = .ok (.invokevirtual 82, 3) := by decide +kernel
theorem dX10_treaty_15 : decode cX10_treaty 15 = .ok (.ireturn, 1) := by decide +kernel
theorem dX10_treaty_16 : decode cX10_treaty 16 = .ok (.aload_n 0, 1) := by decide +kernel
theorem dX10_treaty_17 : decode cX10_treaty 17 = .ok (.getfield 185, 3) := by decide +kernel
theorem dX10_treaty_20 : decode cX10_treaty 20 = .ok (.bipush 6, 2) := by decide +kernel
theorem dX10_treaty_22 : decode cX10_treaty 22 = .ok (.if_icmp .lt 9, 3) := by decide +kernel
theorem dX10_treaty_25 : decode cX10_treaty 25 = .ok (.aload_n 0, 1) := by decide +kernel
theorem dX10_treaty_26 : decode cX10_treaty 26 = .ok (.iconst 4, 1) := by decide +kernel
theorem dX10_treaty_27 : decode cX10_treaty 27 = .ok (.invokevirtual 82, 3) := by decide +kernel
theorem dX10_treaty_30 : decode cX10_treaty 30 = .ok (.ireturn, 1) := by decide +kernel
theorem dX10_treaty_31 : decode cX10_treaty 31 = .ok (.new 34, 3) := by decide +kernel
theorem dX10_treaty_34 : decode cX10_treaty 34 = .ok (.dup, 1) := by decide +kernel
theorem dX10_treaty_35 : decode cX10_treaty 35 = .ok (.iload_n 1, 1) := by decide +kernel
theorem dX10_treaty_36 : decode cX10_treaty 36 = .ok (.invokespecial 188, 3) := by decide +kernel
theorem dX10_treaty_39 : decode cX10_treaty 39 = .ok (.astore_n 2, 1) := by decide +kernel
theorem dX10_treaty_40 : decode cX10_treaty 40 = .ok (.aload_n 0, 1) := by decide +kernel
theorem dX10_treaty_41 : decode cX10_treaty 41 = .ok (.getfield 43, 3) := by decide +kernel
theorem dX10_treaty_44 : decode cX10_treaty 44 = .ok (.aload_n 2, 1) := by decide +kernel
theorem dX10_treaty_45 : decode cX10_treaty 45 = .ok (.invokevirtual 190, 3) := by decide +kernel
theorem dX10_treaty_48 : decode cX10_treaty 48 = .ok (.istore_n 3, 1) := by decide +kernel
theorem dX10_treaty_49 : decode cX10_treaty 49 = .ok (.aload_n 0, 1) := by decide +kernel
theorem dX10_treaty_50 : decode cX10_treaty 50 = .ok (.getfield 43, 3) := by decide +kernel
theorem dX10_treaty_53 : decode cX10_treaty 53 = .ok (.iconst 0, 1) := by decide +kernel
theorem dX10_treaty_54 : decode cX10_treaty 54 = .ok (.putfield 178, 3) := by decide +kernel
theorem dX10_treaty_57 : decode cX10_treaty 57 = .ok (.iload_n 3, 1) := by decide +kernel
theorem dX10_treaty_58 : decode cX10_treaty 58 = .ok (.ifCond .ne 14, 3) := by decide +kernel
theorem dX10_treaty_61 : decode cX10_treaty 61 = .ok (.bipush (-10), 2) := by decide +kernel
theorem dX10_treaty_63 : decode cX10_treaty 63 = .ok (.aload_n 0, 1) := by decide +kernel
theorem dX10_treaty_64 : decode cX10_treaty 64 = .ok (.getfield 43, 3) := by decide +kernel
theorem dX10_treaty_67 : decode cX10_treaty 67 = .ok (.getfield 194, 3) := by decide +kernel
theorem dX10_treaty_70 : decode cX10_treaty 70 = .ok (.isub, 1) := by decide +kernel
theorem dX10_treaty_71 : decode cX10_treaty 71 = .ok (.ireturn, 1) := by decide +kernel
theorem dX10_treaty_72 : decode cX10_treaty 72 = .ok (.aload_n 0, 1) := by decide +kernel
theorem dX10_treaty_73 : decode cX10_treaty 73 = .ok (.getfield 36, 3) := by decide +kernel
theorem dX10_treaty_76 : decode cX10_treaty 76 = .ok (.aload_n 0, 1) := by decide +kernel
theorem dX10_treaty_77 : decode cX10_treaty 77 = .ok (.getfield 185, 3) := by decide +kernel
theorem dX10_treaty_80 : decode cX10_treaty 80 = .ok (.aload_n 2, 1) := by decide +kernel
theorem dX10_treaty_81 : decode cX10_treaty 81 = .ok (.aastore, 1) := by decide +kernel
theorem dX10_treaty_82 : decode cX10_treaty 82 = .ok (.aload_n 0, 1) := by decide +kernel
theorem dX10_treaty_83 : decode cX10_treaty 83 = .ok (.dup, 1) := by decide +kernel
theorem dX10_treaty_84 : decode cX10_treaty 84 = .ok (.getfield 185, 3) := by decide +kernel
theorem dX10_treaty_87 : decode cX10_treaty 87 = .ok (.iconst 1, 1) := by decide +kernel
theorem dX10_treaty_88 : decode cX10_treaty 88 = .ok (.iadd, 1) := by decide +kernel
theorem dX10_treaty_89 : decode cX10_treaty 89 = .ok (.putfield 185, 3) := by decide +kernel
theorem dX10_treaty_92 : decode cX10_treaty 92 = .ok (.aload_n 0, 1) := by decide +kernel
theorem dX10_treaty_93 : decode cX10_treaty 93 = .ok (.getfield 185, 3) := by decide +kernel
theorem dX10_treaty_96 : decode cX10_treaty 96 = .ok (.ireturn, 1) := by decide +kernel
theorem dX10_says_0 : decode cX10_says 0 = .ok (.iload_n 2, 1) := by decide +kernel
theorem dX10_says_1 : decode cX10_says 1 = .ok (.bipush 10, 2) := by decide +kernel
theorem dX10_says_3 : decode cX10_says 3 = .ok (.if_icmp .lt 13, 3) := by decide +kernel
theorem dX10_says_6 : decode cX10_says 6 = .ok (.iload_n 2, 1) := by decide +kernel
theorem dX10_says_7 : decode cX10_says 7 = .ok (.bipush 20, 2) := by decide +kernel
theorem dX10_says_9 : decode cX10_says 9 = .ok (.if_icmp .ge 7, 3) := by decide +kernel
theorem dX10_says_12 : decode cX10_says 12 = .ok (.iconst 1, 1) := by decide +kernel
theorem dX10_says_13 : decode cX10_says 13 = .ok (.goto 4, 3) := by decide +kernel
theorem dX10_says_16 : decode cX10_says 16 = .ok (.iconst 0, 1) := by decide +kernel
theorem dX10_says_17 : decode cX10_says 17 = .ok (.istore_n 3, 1) := by decide +kernel
theorem dX10_says_18 : decode cX10_says 18 = .ok (.iload_n 2, 1) := by decide +kernel
theorem dX10_says_19 : decode cX10_says 19 = .ok (.bipush 20, 2) := by decide +kernel
theorem dX10_says_21 : decode cX10_says 21 = .ok (.if_icmp .lt 13, 3) := by decide +kernel
theorem dX10_says_24 : decode cX10_says 24 = .ok (.iload_n 2, 1) := by decide +kernel
theorem dX10_says_25 : decode cX10_says 25 = .ok (.bipush 24, 2) := by decide +kernel
theorem dX10_says_27 : decode cX10_says 27 = .ok (.if_icmp .ge 7, 3) := by decide +kernel
theorem dX10_says_30 : decode cX10_says 30 = .ok (.iconst 1, 1) := by decide +kernel
theorem dX10_says_31 : decode cX10_says 31 = .ok (.goto 4, 3) := by decide +kernel
theorem dX10_says_34 : decode cX10_says 34 = .ok (.iconst 0, 1) := by decide +kernel
theorem dX10_says_35 : decode cX10_says 35 = .ok (.istore 4, 2) := by decide +kernel
theorem dX10_says_37 : decode cX10_says 37 = .ok (.iload_n 1, 1) := by decide +kernel
theorem dX10_says_38 : decode cX10_says 38 = .ok (.sipush 10000, 3) := by decide +kernel
theorem dX10_says_41 : decode cX10_says 41 = .ok (.invokestatic 96, 3) := by decide +kernel
theorem dX10_says_44 : decode cX10_says 44 = .ok (.ifCond .eq 16, 3) := by decide +kernel
theorem dX10_says_47 : decode cX10_says 47 = .ok (.iload_n 2, 1) := by decide +kernel
theorem dX10_says_48 : decode cX10_says 48 = .ok (.ifCond .eq 18, 3) := by decide +kernel
theorem dX10_says_51 : decode cX10_says 51 = .ok (.iload_n 3, 1) := by decide +kernel
theorem dX10_says_52 : decode cX10_says 52 = .ok (.ifCond .ne 14, 3) := by decide +kernel
theorem dX10_says_55 : decode cX10_says 55 = .ok (.iload 4, 2) := by decide +kernel
theorem dX10_says_57 : decode cX10_says 57 = .ok (.ifCond .ne 9, 3) := by decide +kernel
theorem dX10_says_60 : decode cX10_says 60 = .ok (.aload_n 0, 1) := by decide +kernel
theorem dX10_says_61 : decode cX10_says 61 = .ok (.iconst 1, 1) := by decide +kernel
theorem dX10_says_62 : decode cX10_says 62 = .ok (.invokevirtual 82, 3) := by decide +kernel
theorem dX10_says_65 : decode cX10_says 65 = .ok (.ireturn, 1) := by decide +kernel
theorem dX10_says_66 : decode cX10_says 66 = .ok (.aload_n 0, 1) := by decide +kernel
theorem dX10_says_67 : decode cX10_says 67 = .ok (.iload_n 1, 1) := by decide +kernel
theorem dX10_says_68 : decode cX10_says 68 = .ok (.invokevirtual 197, 3) := by decide +kernel
theorem dX10_says_71 : decode cX10_says 71 = .ok (.astore 5, 2) := by decide +kernel
theorem dX10_says_73 : decode cX10_says 73 = .ok (.aload 5, 2) := by decide +kernel
theorem dX10_says_75 : decode cX10_says 75 = .ok (.ifnonnull 9, 3) := by decide +kernel
theorem dX10_says_78 : decode cX10_says 78 = .ok (.aload_n 0, 1) := by decide +kernel
theorem dX10_says_79 : decode cX10_says 79 = .ok (.iconst 2, 1) := by decide +kernel
theorem dX10_says_80 : decode cX10_says 80 = .ok (.invokevirtual 82, 3) := by decide +kernel
theorem dX10_says_83 : decode cX10_says 83 = .ok (.ireturn, 1) := by decide +kernel
theorem dX10_says_84 : decode cX10_says 84 = .ok (.iload_n 3, 1) := by decide +kernel
theorem dX10_says_85 : decode cX10_says 85 = .ok (.ifCond .eq 14, 3) := by decide +kernel
theorem dX10_says_88 : decode cX10_says 88 = .ok (.aload 5, 2) := by decide +kernel
theorem dX10_says_90 : decode cX10_says 90 = .ok (.getfield 201, 3) := by decide +kernel
theorem dX10_says_93 : decode cX10_says 93 = .ok (.iload_n 2, 1) := by decide +kernel
theorem dX10_says_94 : decode cX10_says 94 = .ok (.bipush 10, 2) := by decide +kernel
theorem dX10_says_96 : decode cX10_says 96 = .ok (.isub, 1) := by decide +kernel
theorem dX10_says_97 : decode cX10_says 97 = .ok (.iaload, 1) := by decide +kernel
theorem dX10_says_98 : decode cX10_says 98 = .ok (.ireturn, 1) := by decide +kernel
theorem dX10_says_99 : decode cX10_says 99 = .ok (.iload 4, 2) := by decide +kernel
theorem dX10_says_101 : decode cX10_says 101 = .ok (.ifCond .eq 16, 3) := by decide +kernel
theorem dX10_says_104 : decode cX10_says 104 = .ok (.aload 5, 2) := by decide +kernel
theorem dX10_says_106 : decode cX10_says 106 = .ok (.getfield 204, 3) := by decide +kernel
theorem dX10_says_109 : decode cX10_says 109 = .ok (.iload_n 2, 1) := by decide +kernel
theorem dX10_says_110 : decode cX10_says 110 = .ok (.bipush 20, 2) := by decide +kernel
theorem dX10_says_112 : decode cX10_says 112 = .ok (.isub, 1) := by decide +kernel
theorem dX10_says_113 : decode cX10_says 113 = .ok (.iaload, 1) := by decide +kernel
theorem dX10_says_114 : decode cX10_says 114 = .ok (.goto 8, 3) := by decide +kernel
theorem dX10_says_117 : decode cX10_says 117 = .ok (.aload 5, 2) := by decide +kernel
theorem dX10_says_119 : decode cX10_says 119 = .ok (.getfield 207, 3) := by decide +kernel
theorem dX10_says_122 : decode cX10_says 122 = .ok (.ireturn, 1) := by decide +kernel
theorem dX10_look_0 : decode cX10_look 0 = .ok (.aload_n 0, 1) := by decide +kernel
theorem dX10_look_1 : decode cX10_look 1 = .ok (.iload_n 1, 1) := by decide +kernel
theorem dX10_look_2 : decode cX10_look 2 = .ok (.invokevirtual 150, 3) := by decide +kernel
theorem dX10_look_5 : decode cX10_look 5 = .ok (.astore 4, 2) := by decide +kernel
theorem dX10_look_7 : decode cX10_look 7 = .ok (.aload 4, 2) := by decide +kernel
theorem dX10_look_9 : decode cX10_look 9 = .ok (.ifnull 22, 3) := by decide +kernel
theorem dX10_look_12 : decode cX10_look 12 = .ok (.iload_n 2, 1) := by decide +kernel
theorem dX10_look_13 : decode cX10_look 13 = .ok (.bipush 6, 2) := by decide +kernel
theorem dX10_look_15 : decode cX10_look 15 = .ok (.invokestatic 96, 3) := by decide +kernel
theorem dX10_look_18 : decode cX10_look 18 = .ok (.ifCond .eq 13, 3) := by decide +kernel
theorem dX10_look_21 : decode cX10_look 21 = .ok (.iload_n 3, 1) := by decide +kernel
theorem dX10_look_22 : decode cX10_look 22 = .ok (.sipush 1024, 3) := by decide +kernel
theorem dX10_look_25 : decode cX10_look 25 = .ok (.invokestatic 96, 3) := by decide +kernel
theorem dX10_look_28 : decode cX10_look 28 = .ok (.ifCond .ne 9, 3) := by decide +kernel
theorem dX10_look_31 : decode cX10_look 31 = .ok (.aload_n 0, 1) := by decide +kernel
theorem dX10_look_32 : decode cX10_look 32 = .ok (.iconst 1, 1) := by decide +kernel
theorem dX10_look_33 : decode cX10_look 33 = .ok (.invokevirtual 82, 3) := by decide +kernel
theorem dX10_look_36 : decode cX10_look 36 = .ok (.ireturn, 1) := by decide +kernel
theorem dX10_look_37 : decode cX10_look 37 = .ok (.aload 4, 2) := by decide +kernel
theorem dX10_look_39 : decode cX10_look 39 = .ok (.invokevirtual 154, 3) := by decide +kernel
theorem dX10_look_42 : decode cX10_look 42 = .ok (.ifCond .eq 9, 3) := by decide +kernel
theorem dX10_look_45 : decode cX10_look 45 = .ok (.aload_n 0, 1) := by decide +kernel
theorem dX10_look_46 : decode cX10_look 46 = .ok (.iconst 3, 1) := by decide +kernel
theorem dX10_look_47 : decode cX10_look 47 = .ok (.invokevirtual 82, 3) := by decide +kernel
theorem dX10_look_50 : decode cX10_look 50 = .ok (.ireturn, 1) := by decide +kernel
theorem dX10_look_51 : decode cX10_look 51 = .ok (.aload_n 0, 1) := by decide +kernel
theorem dX10_look_52 : decode cX10_look 52 = .ok (.getfield 210, 3) := by decide +kernel
theorem dX10_look_55 : decode cX10_look 55 = .ok (.bipush 60, 2) := by decide +kernel
theorem dX10_look_57 : decode cX10_look 57 = .ok (.if_icmp .lt 9, 3) := by decide +kernel
theorem dX10_look_60 : decode cX10_look 60 = .ok (.aload_n 0, 1) := by decide +kernel
theorem dX10_look_61 : decode cX10_look 61 = .ok (.iconst 4, 1) := by decide +kernel
theorem dX10_look_62 : decode cX10_look 62 = .ok (.invokevirtual 82, 3) := by decide +kernel
theorem dX10_look_65 : decode cX10_look 65 = .ok (.ireturn, 1) := by decide +kernel
theorem dX10_look_66 : decode cX10_look 66 = .ok (.aload_n 0, 1) := by decide +kernel
theorem dX10_look_67 : decode cX10_look 67 = .ok (.aload_n 0, 1) := by decide +kernel
theorem dX10_look_68 : decode cX10_look 68 = .ok (.getfield 79, 3) := by decide +kernel
theorem dX10_look_71 : decode cX10_look 71 = .ok (.invokevirtual 197, 3) := by decide +kernel
theorem dX10_look_74 : decode cX10_look 74 = .ok (.astore 5, 2) := by decide +kernel
theorem dX10_look_76 : decode cX10_look 76 = .ok (.aload 5, 2) := by decide +kernel
theorem dX10_look_78 : decode cX10_look 78 = .ok (.ifnull 24, 3) := by decide +kernel
theorem dX10_look_81 : decode cX10_look 81 = .ok (.aload 5, 2) := by decide +kernel
theorem dX10_look_83 : decode cX10_look 83 = .ok (.aload 4, 2) := by decide +kernel
theorem dX10_look_85 : decode cX10_look 85 = .ok (.getfield 164, 3) := by decide +kernel
theorem dX10_look_88 : decode cX10_look 88 = .ok (.getfield 100, 3) := by decide +kernel
theorem dX10_look_91 : decode cX10_look 91 = .ok (.iload_n 3, 1) := by decide +kernel
theorem dX10_look_92 : decode cX10_look 92 = .ok (.invokevirtual 213, 3) := by decide +kernel
theorem dX10_look_95 : decode cX10_look 95 = .ok (.ifCond .eq 7, 3) := by decide +kernel
theorem dX10_look_98 : decode cX10_look 98 = .ok (.iconst 1, 1) := by decide +kernel
theorem dX10_look_99 : decode cX10_look 99 = .ok (.goto 4, 3) := by decide +kernel
theorem dX10_look_102 : decode cX10_look 102 = .ok (.iconst 0, 1) := by decide +kernel
theorem dX10_look_103 : decode cX10_look 103 = .ok (.istore 6, 2) := by decide +kernel
theorem dX10_look_105 : decode cX10_look 105 = .ok (.aload_n 0, 1) := by decide +kernel
theorem dX10_look_106 : decode cX10_look 106 = .ok (.getfield 30, 3) := by decide +kernel
theorem dX10_look_109 : decode cX10_look 109 = .ok (.aload_n 0, 1) := by decide +kernel
theorem dX10_look_110 : decode cX10_look 110 = .ok (.getfield 210, 3) := by decide +kernel
theorem dX10_look_113 : decode cX10_look 113 = .ok (.new 28, 3) := by decide +kernel
theorem dX10_look_116 : decode cX10_look 116 = .ok (.dup, 1) := by decide +kernel
theorem dX10_look_117 : decode cX10_look 117 = .ok (.aload 4, 2) := by decide +kernel
theorem dX10_look_119 : decode cX10_look 119 = .ok (.iload_n 2, 1) := by decide +kernel
theorem dX10_look_120 : decode cX10_look 120 = .ok (.aload_n 0, 1) := by decide +kernel
theorem dX10_look_121 : decode cX10_look 121 = .ok (.getfield 79, 3) := by decide +kernel
theorem dX10_look_124 : decode cX10_look 124 = .ok (.iload_n 3, 1) := by decide +kernel
theorem dX10_look_125 : decode cX10_look 125 = .ok (.iload 6, 2) := by decide +kernel
theorem dX10_look_127 : decode cX10_look 127 = .ok (.invokespecial 216, 3) := by decide +kernel
theorem dX10_look_130 : decode cX10_look 130 = .ok (.aastore, 1) := by decide +kernel
theorem dX10_look_131 : decode cX10_look 131 = .ok (.aload_n 0, 1) := by decide +kernel
theorem dX10_look_132 : decode cX10_look 132 = .ok (.dup, 1) := by decide +kernel
theorem dX10_look_133 : decode cX10_look 133 = .ok (.getfield 210, 3) := by decide +kernel
theorem dX10_look_136 : decode cX10_look 136 = .ok (.iconst 1, 1) := by decide +kernel
theorem dX10_look_137 : decode cX10_look 137 = .ok (.iadd, 1) := by decide +kernel
theorem dX10_look_138 : decode cX10_look 138 = .ok (.putfield 210, 3) := by decide +kernel
theorem dX10_look_141 : decode cX10_look 141 = .ok (.aload 4, 2) := by decide +kernel
theorem dX10_look_143 : decode cX10_look 143 = .ok (.dup, 1) := by decide +kernel
theorem dX10_look_144 : decode cX10_look 144 = .ok (.getfield 175, 3) := by decide +kernel
theorem dX10_look_147 : decode cX10_look 147 = .ok (.iconst 1, 1) := by decide +kernel
theorem dX10_look_148 : decode cX10_look 148 = .ok (.iadd, 1) := by decide +kernel
theorem dX10_look_149 : decode cX10_look 149 = .ok (.putfield 175, 3) := by decide +kernel
theorem dX10_look_152 : decode cX10_look 152 = .ok (.aload 4, 2) := by decide +kernel
theorem dX10_look_154 : decode cX10_look 154 = .ok (.iload 6, 2) := by decide +kernel
theorem dX10_look_156 : decode cX10_look 156 = .ok (.putfield 157, 3) := by decide +kernel
theorem dX10_look_159 : decode cX10_look 159 = .ok (.aload 4, 2) := by decide +kernel
theorem dX10_look_161 : decode cX10_look 161 = .ok (.getfield 164, 3) := by decide +kernel
theorem dX10_look_164 : decode cX10_look 164 = .ok (.aload_n 0, 1) := by decide +kernel
theorem dX10_look_165 : decode cX10_look 165 = .ok (.getfield 79, 3) := by decide +kernel
theorem dX10_look_168 : decode cX10_look 168 = .ok (.putfield 219, 3) := by decide +kernel
theorem dX10_look_171 : decode cX10_look 171 = .ok (.iload 6, 2) := by decide +kernel
theorem dX10_look_173 : decode cX10_look 173 = .ok (.ifCond .eq 12, 3) := by decide +kernel
theorem dX10_look_176 : decode cX10_look 176 = .ok (.aload_n 0, 1) := by decide +kernel
theorem dX10_look_177 : decode cX10_look 177 = .ok (.aload 4, 2) := by decide +kernel
theorem dX10_look_179 : decode cX10_look 179 = .ok (.getfield 164, 3) := by decide +kernel
theorem dX10_look_182 : decode cX10_look 182 = .ok (.invokevirtual 222, 3) := by decide +kernel
theorem dX10_look_185 : decode cX10_look 185 = .ok (.aload_n 0, 1) := by decide +kernel
theorem dX10_look_186 : decode cX10_look 186 = .ok (.getfield 210, 3) := by decide +kernel
theorem dX10_look_189 : decode cX10_look 189 = .ok (.iconst 1, 1) := by decide +kernel
theorem dX10_look_190 : decode cX10_look 190 = .ok (.isub, 1) := by decide +kernel
theorem dX10_look_191 : decode cX10_look 191 = .ok (.ireturn, 1) := by decide +kernel
theorem dX10_told_0 : decode cX10_told 0 = .ok (.aload_n 0, 1) := by decide +kernel
theorem dX10_told_1 : decode cX10_told 1 = .ok (.iload_n 1, 1) := by decide +kernel
theorem dX10_told_2 : decode cX10_told 2 = .ok (.invokevirtual 226, 3) := by decide +kernel
theorem dX10_told_5 : decode cX10_told 5 = .ok (.astore_n 3, 1) := by decide +kernel
theorem dX10_told_6 : decode cX10_told 6 = .ok (.aload_n 3, 1) := by decide +kernel
theorem dX10_told_7 : decode cX10_told 7 = .ok (.ifnonnull 9, 3) := by decide +kernel
theorem dX10_told_10 : decode cX10_told 10 = .ok (.aload_n 0, 1) := by decide +kernel
theorem dX10_told_11 : decode cX10_told 11 = .ok (.iconst 1, 1) := by decide +kernel
theorem dX10_told_12 : decode cX10_told 12 = .ok (.invokevirtual 82, 3) := by decide +kernel
theorem dX10_told_15 : decode cX10_told 15 = .ok (.ireturn, 1) := by decide +kernel
theorem dX10_told_16 : decode cX10_told 16 = .ok (.iload_n 2, 1) := by decide +kernel
theorem dX10_told_17 : decode cX10_told 17 = .ok (.tableswitch 71 0 4 #[35, 43, 48, 53, 58], 35) := by decide +kernel
theorem dX10_told_52 : decode cX10_told 52 = .ok (.aload_n 3, 1) := by decide +kernel
theorem dX10_told_53 : decode cX10_told 53 = .ok (.getfield 230, 3) := by decide +kernel
theorem dX10_told_56 : decode cX10_told 56 = .ok (.getfield 147, 3) := by decide +kernel
theorem dX10_told_59 : decode cX10_told 59 = .ok (.ireturn, 1) := by decide +kernel
theorem dX10_told_60 : decode cX10_told 60 = .ok (.aload_n 3, 1) := by decide +kernel
theorem dX10_told_61 : decode cX10_told 61 = .ok (.getfield 233, 3) := by decide +kernel
theorem dX10_told_64 : decode cX10_told 64 = .ok (.ireturn, 1) := by decide +kernel
theorem dX10_told_65 : decode cX10_told 65 = .ok (.aload_n 3, 1) := by decide +kernel
theorem dX10_told_66 : decode cX10_told 66 = .ok (.getfield 236, 3) := by decide +kernel
theorem dX10_told_69 : decode cX10_told 69 = .ok (.ireturn, 1) := by decide +kernel
theorem dX10_told_70 : decode cX10_told 70 = .ok (.aload_n 3, 1) := by decide +kernel
theorem dX10_told_71 : decode cX10_told 71 = .ok (.getfield 239, 3) := by decide +kernel
theorem dX10_told_74 : decode cX10_told 74 = .ok (.ireturn, 1) := by decide +kernel
theorem dX10_told_75 : decode cX10_told 75 = .ok (.aload_n 3, 1) := by decide +kernel
theorem dX10_told_76 : decode cX10_told 76 = .ok (.getfield 242, 3) := by decide +kernel
theorem dX10_told_79 : decode cX10_told 79 = .ok (.ifCond .eq 7, 3) := by decide +kernel
theorem dX10_told_82 : decode cX10_told 82 = .ok (.iconst 1, 1) := by decide +kernel
theorem dX10_told_83 : decode cX10_told 83 = .ok (.goto 4, 3) := by decide +kernel
theorem dX10_told_86 : decode cX10_told 86 = .ok (.iconst 0, 1) := by decide +kernel
theorem dX10_told_87 : decode cX10_told 87 = .ok (.ireturn, 1) := by decide +kernel
theorem dX10_told_88 : decode cX10_told 88 = .ok (.aload_n 0, 1) := by decide +kernel
theorem dX10_told_89 : decode cX10_told 89 = .ok (.iconst 1, 1) := by decide +kernel
theorem dX10_told_90 : decode cX10_told 90 = .ok (.invokevirtual 82, 3) := by decide +kernel
theorem dX10_told_93 : decode cX10_told 93 = .ok (.ireturn, 1) := by decide +kernel
theorem dX10_share_0 : decode cX10_share 0 = .ok (.iload_n 1, 1) := by decide +kernel
theorem dX10_share_1 : decode cX10_share 1 = .ok (.iconst 3, 1) := by decide +kernel
theorem dX10_share_2 : decode cX10_share 2 = .ok (.invokestatic 96, 3) := by decide +kernel
theorem dX10_share_5 : decode cX10_share 5 = .ok (.ifCond .eq 22, 3) := by decide +kernel
theorem dX10_share_8 : decode cX10_share 8 = .ok (.iload_n 2, 1) := by decide +kernel
theorem dX10_share_9 : decode cX10_share 9 = .ok (.iload_n 1, 1) := by decide +kernel
theorem dX10_share_10 : decode cX10_share 10 = .ok (.invokestatic 245, 3) := by decide +kernel
theorem dX10_share_13 : decode cX10_share 13 = .ok (.invokestatic 96, 3) := by decide +kernel
theorem dX10_share_16 : decode cX10_share 16 = .ok (.ifCond .eq 11, 3) := by decide +kernel
theorem dX10_share_19 : decode cX10_share 19 = .ok (.iload_n 3, 1) := by decide +kernel
theorem dX10_share_20 : decode cX10_share 20 = .ok (.iconst 3, 1) := by decide +kernel
theorem dX10_share_21 : decode cX10_share 21 = .ok (.invokestatic 96, 3) := by decide +kernel
theorem dX10_share_24 : decode cX10_share 24 = .ok (.ifCond .ne 9, 3) := by decide +kernel
theorem dX10_share_27 : decode cX10_share 27 = .ok (.aload_n 0, 1) := by decide +kernel
theorem dX10_share_28 : decode cX10_share 28 = .ok (.iconst 1, 1) := by decide +kernel
theorem dX10_share_29 : decode cX10_share 29 = .ok (.invokevirtual 82, 3) := by decide +kernel
theorem dX10_share_32 : decode cX10_share 32 = .ok (.ireturn, 1) := by decide +kernel
theorem dX10_share_33 : decode cX10_share 33 = .ok (.aload_n 0, 1) := by decide +kernel
theorem dX10_share_34 : decode cX10_share 34 = .ok (.iload_n 1, 1) := by decide +kernel
theorem dX10_share_35 : decode cX10_share 35 = .ok (.iload_n 2, 1) := by decide +kernel
theorem dX10_share_36 : decode cX10_share 36 = .ok (.invokevirtual 248, 3) := by decide +kernel
theorem dX10_share_39 : decode cX10_share 39 = .ok (.iload_n 3, 1) := by decide +kernel
theorem dX10_share_40 : decode cX10_share 40 = .ok (.ifCond .ne 11, 3) := by decide +kernel
theorem dX10_share_43 : decode cX10_share 43 = .ok (.aload_n 0, 1) := by decide +kernel
theorem dX10_share_44 : decode cX10_share 44 = .ok (.getfield 61, 3) := by decide +kernel
theorem dX10_share_47 : decode cX10_share 47 = .ok (.getfield 251, 3) := by decide +kernel
theorem dX10_share_50 : decode cX10_share 50 = .ok (.ireturn, 1) := by decide +kernel
theorem dX10_share_51 : decode cX10_share 51 = .ok (.iload_n 3, 1) := by decide +kernel
theorem dX10_share_52 : decode cX10_share 52 = .ok (.iconst 1, 1) := by decide +kernel
theorem dX10_share_53 : decode cX10_share 53 = .ok (.if_icmp .ne 11, 3) := by decide +kernel
theorem dX10_share_56 : decode cX10_share 56 = .ok (.aload_n 0, 1) := by decide +kernel
theorem dX10_share_57 : decode cX10_share 57 = .ok (.getfield 61, 3) := by decide +kernel
theorem dX10_share_60 : decode cX10_share 60 = .ok (.getfield 253, 3) := by decide +kernel
theorem dX10_share_63 : decode cX10_share 63 = .ok (.ireturn, 1) := by decide +kernel
theorem dX10_share_64 : decode cX10_share 64 = .ok (.aload_n 0, 1) := by decide +kernel
theorem dX10_share_65 : decode cX10_share 65 = .ok (.getfield 61, 3) := by decide +kernel
theorem dX10_share_68 : decode cX10_share 68 = .ok (.invokevirtual 255, 3) := by decide +kernel
theorem dX10_share_71 : decode cX10_share 71 = .ok (.ifCond .eq 7, 3) := by decide +kernel
theorem dX10_share_74 : decode cX10_share 74 = .ok (.iconst 1, 1) := by decide +kernel
theorem dX10_share_75 : decode cX10_share 75 = .ok (.goto 4, 3) := by decide +kernel
theorem dX10_share_78 : decode cX10_share 78 = .ok (.iconst 0, 1) := by decide +kernel
theorem dX10_share_79 : decode cX10_share 79 = .ok (.ireturn, 1) := by decide +kernel
theorem dX10_risk_0 : decode cX10_risk 0 = .ok (.aload_n 0, 1) := by decide +kernel
theorem dX10_risk_1 : decode cX10_risk 1 = .ok (.iload_n 1, 1) := by decide +kernel
theorem dX10_risk_2 : decode cX10_risk 2 = .ok (.invokevirtual 92, 3) := by decide +kernel
theorem dX10_risk_5 : decode cX10_risk 5 = .ok (.astore_n 2, 1) := by decide +kernel
theorem dX10_risk_6 : decode cX10_risk 6 = .ok (.aload_n 2, 1) := by decide +kernel
theorem dX10_risk_7 : decode cX10_risk 7 = .ok (.ifnonnull 11, 3) := by decide +kernel
theorem dX10_risk_10 : decode cX10_risk 10 = .ok (.aload_n 0, 1) := by decide +kernel
theorem dX10_risk_11 : decode cX10_risk 11 = .ok (.iconst 1, 1) := by decide +kernel
theorem dX10_risk_12 : decode cX10_risk 12 = .ok (.invokevirtual 82, 3) := by decide +kernel
theorem dX10_risk_15 : decode cX10_risk 15 = .ok (.goto 8, 3) := by decide +kernel
theorem dX10_risk_18 : decode cX10_risk 18 = .ok (.aload_n 0, 1) := by decide +kernel
theorem dX10_risk_19 : decode cX10_risk 19 = .ok (.aload_n 2, 1) := by decide +kernel
theorem dX10_risk_20 : decode cX10_risk 20 = .ok (.invokevirtual 258, 3) := by decide +kernel
theorem dX10_risk_23 : decode cX10_risk 23 = .ok (.ireturn, 1) := by decide +kernel
theorem dX10_board_0 : decode cX10_board 0 = .ok (.iload_n 1, 1) := by decide +kernel
theorem dX10_board_1 : decode cX10_board 1 = .ok (.iconst 5, 1) := by decide +kernel
theorem dX10_board_2 : decode cX10_board 2 = .ok (.invokestatic 96, 3) := by decide +kernel
theorem dX10_board_5 : decode cX10_board 5 = .ok (.ifCond .eq 23, 3) := by decide +kernel
theorem dX10_board_8 : decode cX10_board 8 = .ok (.iload_n 2, 1) := by decide +kernel
theorem dX10_board_9 : decode cX10_board 9 = .ok (.invokestatic 262, 3) := by decide +kernel
theorem dX10_board_12 : decode cX10_board 12 = .ok (.ifCond .eq 16, 3) := by decide +kernel
theorem dX10_board_15 : decode cX10_board 15 = .ok (.iload_n 3, 1) := by decide +kernel
theorem dX10_board_16 : decode cX10_board 16 = .ok (.iconst (-1), 1) := by decide +kernel
theorem dX10_board_17 : decode cX10_board 17 = .ok (.if_icmp .lt 11, 3) := by decide +kernel
theorem dX10_board_20 : decode cX10_board 20 = .ok (.iload_n 3, 1) := by decide +kernel
theorem dX10_board_21 : decode cX10_board 21 = .ok (.aload_n 0, 1) := by decide +kernel
theorem dX10_board_22 : decode cX10_board 22 = .ok (.getfield 86, 3) := by decide +kernel
theorem dX10_board_25 : decode cX10_board 25 = .ok (.if_icmp .lt 9, 3) := by decide +kernel
theorem dX10_board_28 : decode cX10_board 28 = .ok (.aload_n 0, 1) := by decide +kernel
theorem dX10_board_29 : decode cX10_board 29 = .ok (.iconst 1, 1) := by decide +kernel
theorem dX10_board_30 : decode cX10_board 30 = .ok (.invokevirtual 82, 3) := by decide +kernel
theorem dX10_board_33 : decode cX10_board 33 = .ok (.ireturn, 1) := by decide +kernel
theorem dX10_board_34 : decode cX10_board 34 = .ok (.aload_n 0, 1) := by decide +kernel
theorem dX10_board_35 : decode cX10_board 35 = .ok (.iload_n 1, 1) := by decide +kernel
theorem dX10_board_36 : decode cX10_board 36 = .ok (.invokevirtual 265, 3) := by decide +kernel
theorem dX10_board_39 : decode cX10_board 39 = .ok (.aload_n 0, 1) := by decide +kernel
theorem dX10_board_40 : decode cX10_board 40 = .ok (.getfield 68, 3) := by decide +kernel
theorem dX10_board_43 : decode cX10_board 43 = .ok (.iload_n 3, 1) := by decide +kernel
theorem dX10_board_44 : decode cX10_board 44 = .ok (.invokevirtual 268, 3) := by decide +kernel
theorem dX10_board_47 : decode cX10_board 47 = .ok (.istore 4, 2) := by decide +kernel
theorem dX10_board_49 : decode cX10_board 49 = .ok (.iload_n 3, 1) := by decide +kernel
theorem dX10_board_50 : decode cX10_board 50 = .ok (.ifCond .lt 14, 3) := by decide +kernel
theorem dX10_board_53 : decode cX10_board 53 = .ok (.iload 4, 2) := by decide +kernel
theorem dX10_board_55 : decode cX10_board 55 = .ok (.ifCond .ge 9, 3) := by decide +kernel
theorem dX10_board_58 : decode cX10_board 58 = .ok (.aload_n 0, 1) := by decide +kernel
theorem dX10_board_59 : decode cX10_board 59 = .ok (.iconst 2, 1) := by decide +kernel
theorem dX10_board_60 : decode cX10_board 60 = .ok (.invokevirtual 82, 3) := by decide +kernel
theorem dX10_board_63 : decode cX10_board 63 = .ok (.ireturn, 1) := by decide +kernel
theorem dX10_board_64 : decode cX10_board 64 = .ok (.aload_n 0, 1) := by decide +kernel
theorem dX10_board_65 : decode cX10_board 65 = .ok (.getfield 68, 3) := by decide +kernel
theorem dX10_board_68 : decode cX10_board 68 = .ok (.iload_n 2, 1) := by decide +kernel
theorem dX10_board_69 : decode cX10_board 69 = .ok (.bipush 100, 2) := by decide +kernel
theorem dX10_board_71 : decode cX10_board 71 = .ok (.idiv, 1) := by decide +kernel
theorem dX10_board_72 : decode cX10_board 72 = .ok (.iload_n 2, 1) := by decide +kernel
theorem dX10_board_73 : decode cX10_board 73 = .ok (.bipush 100, 2) := by decide +kernel
theorem dX10_board_75 : decode cX10_board 75 = .ok (.irem, 1) := by decide +kernel
theorem dX10_board_76 : decode cX10_board 76 = .ok (.invokevirtual 271, 3) := by decide +kernel
theorem dX10_board_79 : decode cX10_board 79 = .ok (.iload 4, 2) := by decide +kernel
theorem dX10_board_81 : decode cX10_board 81 = .ok (.ifCond .ge 13, 3) := by decide +kernel
theorem dX10_board_84 : decode cX10_board 84 = .ok (.aload_n 0, 1) := by decide +kernel
theorem dX10_board_85 : decode cX10_board 85 = .ok (.getfield 68, 3) := by decide +kernel
theorem dX10_board_88 : decode cX10_board 88 = .ok (.getfield 274, 3) := by decide +kernel
theorem dX10_board_91 : decode cX10_board 91 = .ok (.goto 13, 3) := by decide +kernel
theorem dX10_board_94 : decode cX10_board 94 = .ok (.aload_n 0, 1) := by decide +kernel
theorem dX10_board_95 : decode cX10_board 95 = .ok (.getfield 68, 3) := by decide +kernel
theorem dX10_board_98 : decode cX10_board 98 = .ok (.getfield 277, 3) := by decide +kernel
theorem dX10_board_101 : decode cX10_board 101 = .ok (.iload 4, 2) := by decide +kernel
theorem dX10_board_103 : decode cX10_board 103 = .ok (.iaload, 1) := by decide +kernel
theorem dX10_board_104 : decode cX10_board 104 = .ok (.ireturn, 1) := by decide +kernel
theorem dX10_rest_0 : decode cX10_rest 0 = .ok (.aload_n 0, 1) := by decide +kernel
theorem dX10_rest_1 : decode cX10_rest 1 = .ok (.iload_n 1, 1) := by decide +kernel
theorem dX10_rest_2 : decode cX10_rest 2 = .ok (.invokevirtual 92, 3) := by decide +kernel
theorem dX10_rest_5 : decode cX10_rest 5 = .ok (.astore_n 3, 1) := by decide +kernel
theorem dX10_rest_6 : decode cX10_rest 6 = .ok (.aload_n 3, 1) := by decide +kernel
theorem dX10_rest_7 : decode cX10_rest 7 = .ok (.ifnull 13, 3) := by decide +kernel
theorem dX10_rest_10 : decode cX10_rest 10 = .ok (.iload_n 2, 1) := by decide +kernel
theorem dX10_rest_11 : decode cX10_rest 11 = .ok (.ldc_w 280, 3) := by decide +kernel
theorem dX10_rest_14 : decode cX10_rest 14 = .ok (.invokestatic 96, 3) := by decide +kernel
theorem dX10_rest_17 : decode cX10_rest 17 = .ok (.ifCond .ne 9, 3) := by decide +kernel
theorem dX10_rest_20 : decode cX10_rest 20 = .ok (.aload_n 0, 1) := by decide +kernel
theorem dX10_rest_21 : decode cX10_rest 21 = .ok (.iconst 1, 1) := by decide +kernel
theorem dX10_rest_22 : decode cX10_rest 22 = .ok (.invokevirtual 82, 3) := by decide +kernel
theorem dX10_rest_25 : decode cX10_rest 25 = .ok (.ireturn, 1) := by decide +kernel
theorem dX10_rest_26 : decode cX10_rest 26 = .ok (.aload_n 3, 1) := by decide +kernel
theorem dX10_rest_27 : decode cX10_rest 27 = .ok (.getfield 281, 3) := by decide +kernel
theorem dX10_rest_30 : decode cX10_rest 30 = .ok (.iload_n 2, 1) := by decide +kernel
theorem dX10_rest_31 : decode cX10_rest 31 = .ok (.invokevirtual 285, 3) := by decide +kernel
theorem dX10_rest_34 : decode cX10_rest 34 = .ok (.aload_n 3, 1) := by decide +kernel
theorem dX10_rest_35 : decode cX10_rest 35 = .ok (.getfield 281, 3) := by decide +kernel
theorem dX10_rest_38 : decode cX10_rest 38 = .ok (.invokevirtual 290, 3) := by decide +kernel
theorem dX10_rest_41 : decode cX10_rest 41 = .ok (.ireturn, 1) := by decide +kernel
theorem dX10_tired_0 : decode cX10_tired 0 = .ok (.aload_n 0, 1) := by decide +kernel
theorem dX10_tired_1 : decode cX10_tired 1 = .ok (.iload_n 1, 1) := by decide +kernel
theorem dX10_tired_2 : decode cX10_tired 2 = .ok (.invokevirtual 92, 3) := by decide +kernel
theorem dX10_tired_5 : decode cX10_tired 5 = .ok (.astore_n 3, 1) := by decide +kernel
theorem dX10_tired_6 : decode cX10_tired 6 = .ok (.aload_n 3, 1) := by decide +kernel
theorem dX10_tired_7 : decode cX10_tired 7 = .ok (.ifnull 11, 3) := by decide +kernel
theorem dX10_tired_10 : decode cX10_tired 10 = .ok (.iload_n 2, 1) := by decide +kernel
theorem dX10_tired_11 : decode cX10_tired 11 = .ok (.iconst 3, 1) := by decide +kernel
theorem dX10_tired_12 : decode cX10_tired 12 = .ok (.invokestatic 96, 3) := by decide +kernel
theorem dX10_tired_15 : decode cX10_tired 15 = .ok (.ifCond .ne 9, 3) := by decide +kernel
theorem dX10_tired_18 : decode cX10_tired 18 = .ok (.aload_n 0, 1) := by decide +kernel
theorem dX10_tired_19 : decode cX10_tired 19 = .ok (.iconst 1, 1) := by decide +kernel
theorem dX10_tired_20 : decode cX10_tired 20 = .ok (.invokevirtual 82, 3) := by decide +kernel
theorem dX10_tired_23 : decode cX10_tired 23 = .ok (.ireturn, 1) := by decide +kernel
theorem dX10_tired_24 : decode cX10_tired 24 = .ok (.iload_n 2, 1) := by decide +kernel
theorem dX10_tired_25 : decode cX10_tired 25 = .ok (.iconst 2, 1) := by decide +kernel
theorem dX10_tired_26 : decode cX10_tired 26 = .ok (.if_icmp .ne 11, 3) := by decide +kernel
theorem dX10_tired_29 : decode cX10_tired 29 = .ok (.aload_n 3, 1) := by decide +kernel
theorem dX10_tired_30 : decode cX10_tired 30 = .ok (.getfield 281, 3) := by decide +kernel
theorem dX10_tired_33 : decode cX10_tired 33 = .ok (.invokevirtual 290, 3) := by decide +kernel
theorem dX10_tired_36 : decode cX10_tired 36 = .ok (.ireturn, 1) := by decide +kernel
theorem dX10_tired_37 : decode cX10_tired 37 = .ok (.iload_n 2, 1) := by decide +kernel
theorem dX10_tired_38 : decode cX10_tired 38 = .ok (.iconst 1, 1) := by decide +kernel
theorem dX10_tired_39 : decode cX10_tired 39 = .ok (.if_icmp .ne 21, 3) := by decide +kernel
theorem dX10_tired_42 : decode cX10_tired 42 = .ok (.aload_n 3, 1) := by decide +kernel
theorem dX10_tired_43 : decode cX10_tired 43 = .ok (.getfield 281, 3) := by decide +kernel
theorem dX10_tired_46 : decode cX10_tired 46 = .ok (.invokevirtual 290, 3) := by decide +kernel
theorem dX10_tired_49 : decode cX10_tired 49 = .ok (.bipush 77, 2) := by decide +kernel
theorem dX10_tired_51 : decode cX10_tired 51 = .ok (.if_icmp .ge 7, 3) := by decide +kernel
theorem dX10_tired_54 : decode cX10_tired 54 = .ok (.iconst 1, 1) := by decide +kernel
theorem dX10_tired_55 : decode cX10_tired 55 = .ok (.goto 4, 3) := by decide +kernel
theorem dX10_tired_58 : decode cX10_tired 58 = .ok (.iconst 0, 1) := by decide +kernel
theorem dX10_tired_59 : decode cX10_tired 59 = .ok (.ireturn, 1) := by decide +kernel
theorem dX10_tired_60 : decode cX10_tired 60 = .ok (.aload_n 3, 1) := by decide +kernel
theorem dX10_tired_61 : decode cX10_tired 61 = .ok (.getfield 281, 3) := by decide +kernel
theorem dX10_tired_64 : decode cX10_tired 64 = .ok (.invokevirtual 294, 3) := by decide +kernel
theorem dX10_tired_67 : decode cX10_tired 67 = .ok (.istore 4, 2) := by decide +kernel
theorem dX10_tired_69 : decode cX10_tired 69 = .ok (.iload 4, 2) := by decide +kernel
theorem dX10_tired_71 : decode cX10_tired 71 = .ok (.ifCond .ge 11, 3) := by decide +kernel
theorem dX10_tired_74 : decode cX10_tired 74 = .ok (.aload_n 0, 1) := by decide +kernel
theorem dX10_tired_75 : decode cX10_tired 75 = .ok (.iconst 2, 1) := by decide +kernel
theorem dX10_tired_76 : decode cX10_tired 76 = .ok (.invokevirtual 82, 3) := by decide +kernel
theorem dX10_tired_79 : decode cX10_tired 79 = .ok (.goto 5, 3) := by decide +kernel
theorem dX10_tired_82 : decode cX10_tired 82 = .ok (.iload 4, 2) := by decide +kernel
theorem dX10_tired_84 : decode cX10_tired 84 = .ok (.ireturn, 1) := by decide +kernel
theorem dX10_months_0 : decode cX10_months 0 = .ok (.iload_n 1, 1) := by decide +kernel
theorem dX10_months_1 : decode cX10_months 1 = .ok (.iconst 1, 1) := by decide +kernel
theorem dX10_months_2 : decode cX10_months 2 = .ok (.if_icmp .lt 9, 3) := by decide +kernel
theorem dX10_months_5 : decode cX10_months 5 = .ok (.iload_n 1, 1) := by decide +kernel
theorem dX10_months_6 : decode cX10_months 6 = .ok (.bipush 99, 2) := by decide +kernel
theorem dX10_months_8 : decode cX10_months 8 = .ok (.if_icmp .le 9, 3) := by decide +kernel
theorem dX10_months_11 : decode cX10_months 11 = .ok (.aload_n 0, 1) := by decide +kernel
theorem dX10_months_12 : decode cX10_months 12 = .ok (.iconst 1, 1) := by decide +kernel
theorem dX10_months_13 : decode cX10_months 13 = .ok (.invokevirtual 82, 3) := by decide +kernel
theorem dX10_months_16 : decode cX10_months 16 = .ok (.ireturn, 1) := by decide +kernel
theorem dX10_months_17 : decode cX10_months 17 = .ok (.aload_n 0, 1) := by decide +kernel
theorem dX10_months_18 : decode cX10_months 18 = .ok (.getfield 47, 3) := by decide +kernel
theorem dX10_months_21 : decode cX10_months 21 = .ok (.istore_n 2, 1) := by decide +kernel
theorem dX10_months_22 : decode cX10_months 22 = .ok (.aload_n 0, 1) := by decide +kernel
theorem dX10_months_23 : decode cX10_months 23 = .ok (.iload_n 1, 1) := by decide +kernel
theorem dX10_months_24 : decode cX10_months 24 = .ok (.putfield 47, 3) := by decide +kernel
theorem dX10_months_27 : decode cX10_months 27 = .ok (.iload_n 2, 1) := by decide +kernel
theorem dX10_months_28 : decode cX10_months 28 = .ok (.ireturn, 1) := by decide +kernel
theorem dX10_banned_0 : decode cX10_banned 0 = .ok (.aload_n 0, 1) := by decide +kernel
theorem dX10_banned_1 : decode cX10_banned 1 = .ok (.iload_n 1, 1) := by decide +kernel
theorem dX10_banned_2 : decode cX10_banned 2 = .ok (.invokevirtual 92, 3) := by decide +kernel
theorem dX10_banned_5 : decode cX10_banned 5 = .ok (.astore_n 3, 1) := by decide +kernel
theorem dX10_banned_6 : decode cX10_banned 6 = .ok (.aload_n 3, 1) := by decide +kernel
theorem dX10_banned_7 : decode cX10_banned 7 = .ok (.ifnull 11, 3) := by decide +kernel
theorem dX10_banned_10 : decode cX10_banned 10 = .ok (.iload_n 2, 1) := by decide +kernel
theorem dX10_banned_11 : decode cX10_banned 11 = .ok (.iconst 3, 1) := by decide +kernel
theorem dX10_banned_12 : decode cX10_banned 12 = .ok (.invokestatic 96, 3) := by decide +kernel
theorem dX10_banned_15 : decode cX10_banned 15 = .ok (.ifCond .ne 9, 3) := by decide +kernel
theorem dX10_banned_18 : decode cX10_banned 18 = .ok (.aload_n 0, 1) := by decide +kernel
theorem dX10_banned_19 : decode cX10_banned 19 = .ok (.iconst 1, 1) := by decide +kernel
theorem dX10_banned_20 : decode cX10_banned 20 = .ok (.invokevirtual 82, 3) := by decide +kernel
theorem dX10_banned_23 : decode cX10_banned 23 = .ok (.ireturn, 1) := by decide +kernel
theorem dX10_banned_24 : decode cX10_banned 24 = .ok (.iload_n 2, 1) := by decide +kernel
theorem dX10_banned_25 : decode cX10_banned 25 = .ok (.ifCond .ne 16, 3) := by decide +kernel
theorem dX10_banned_28 : decode cX10_banned 28 = .ok (.aload_n 3, 1) := by decide +kernel
theorem dX10_banned_29 : decode cX10_banned 29 = .ok (.invokevirtual 137, 3) := by decide +kernel
theorem dX10_banned_32 : decode cX10_banned 32 = .ok (.ifCond .eq 7, 3) := by decide +kernel
theorem dX10_banned_35 : decode cX10_banned 35 = .ok (.iconst 1, 1) := by decide +kernel
theorem dX10_banned_36 : decode cX10_banned 36 = .ok (.goto 4, 3) := by decide +kernel
theorem dX10_banned_39 : decode cX10_banned 39 = .ok (.iconst 0, 1) := by decide +kernel
theorem dX10_banned_40 : decode cX10_banned 40 = .ok (.ireturn, 1) := by decide +kernel
theorem dX10_banned_41 : decode cX10_banned 41 = .ok (.iload_n 2, 1) := by decide +kernel
theorem dX10_banned_42 : decode cX10_banned 42 = .ok (.iconst 1, 1) := by decide +kernel
theorem dX10_banned_43 : decode cX10_banned 43 = .ok (.if_icmp .ne 8, 3) := by decide +kernel
theorem dX10_banned_46 : decode cX10_banned 46 = .ok (.aload_n 3, 1) := by decide +kernel
theorem dX10_banned_47 : decode cX10_banned 47 = .ok (.getfield 297, 3) := by decide +kernel
theorem dX10_banned_50 : decode cX10_banned 50 = .ok (.ireturn, 1) := by decide +kernel
theorem dX10_banned_51 : decode cX10_banned 51 = .ok (.aload_n 3, 1) := by decide +kernel
theorem dX10_banned_52 : decode cX10_banned 52 = .ok (.invokevirtual 137, 3) := by decide +kernel
theorem dX10_banned_55 : decode cX10_banned 55 = .ok (.ifCond .eq 10, 3) := by decide +kernel
theorem dX10_banned_58 : decode cX10_banned 58 = .ok (.aload_n 3, 1) := by decide +kernel
theorem dX10_banned_59 : decode cX10_banned 59 = .ok (.getfield 300, 3) := by decide +kernel
theorem dX10_banned_62 : decode cX10_banned 62 = .ok (.goto 8, 3) := by decide +kernel
theorem dX10_banned_65 : decode cX10_banned 65 = .ok (.aload_n 0, 1) := by decide +kernel
theorem dX10_banned_66 : decode cX10_banned 66 = .ok (.iconst 2, 1) := by decide +kernel
theorem dX10_banned_67 : decode cX10_banned 67 = .ok (.invokevirtual 82, 3) := by decide +kernel
theorem dX10_banned_70 : decode cX10_banned 70 = .ok (.ireturn, 1) := by decide +kernel
theorem dX10_lift_0 : decode cX10_lift 0 = .ok (.aload_n 0, 1) := by decide +kernel
theorem dX10_lift_1 : decode cX10_lift 1 = .ok (.iload_n 1, 1) := by decide +kernel
theorem dX10_lift_2 : decode cX10_lift 2 = .ok (.invokevirtual 92, 3) := by decide +kernel
theorem dX10_lift_5 : decode cX10_lift 5 = .ok (.astore_n 2, 1) := by decide +kernel
theorem dX10_lift_6 : decode cX10_lift 6 = .ok (.aload_n 2, 1) := by decide +kernel
theorem dX10_lift_7 : decode cX10_lift 7 = .ok (.ifnonnull 9, 3) := by decide +kernel
theorem dX10_lift_10 : decode cX10_lift 10 = .ok (.aload_n 0, 1) := by decide +kernel
theorem dX10_lift_11 : decode cX10_lift 11 = .ok (.iconst 1, 1) := by decide +kernel
theorem dX10_lift_12 : decode cX10_lift 12 = .ok (.invokevirtual 82, 3) := by decide +kernel
theorem dX10_lift_15 : decode cX10_lift 15 = .ok (.ireturn, 1) := by decide +kernel
theorem dX10_lift_16 : decode cX10_lift 16 = .ok (.aload_n 2, 1) := by decide +kernel
theorem dX10_lift_17 : decode cX10_lift 17 = .ok (.invokevirtual 137, 3) := by decide +kernel
theorem dX10_lift_20 : decode cX10_lift 20 = .ok (.ifCond .eq 29, 3) := by decide +kernel
theorem dX10_lift_23 : decode cX10_lift 23 = .ok (.aload_n 2, 1) := by decide +kernel
theorem dX10_lift_24 : decode cX10_lift 24 = .ok (.getfield 133, 3) := by decide +kernel
theorem dX10_lift_27 : decode cX10_lift 27 = .ok (.ifnonnull 22, 3) := by decide +kernel
theorem dX10_lift_30 : decode cX10_lift 30 = .ok (.aload_n 0, 1) := by decide +kernel
theorem dX10_lift_31 : decode cX10_lift 31 = .ok (.getfield 79, 3) := by decide +kernel
theorem dX10_lift_34 : decode cX10_lift 34 = .ok (.aload_n 2, 1) := by decide +kernel
theorem dX10_lift_35 : decode cX10_lift 35 = .ok (.getfield 300, 3) := by decide +kernel
theorem dX10_lift_38 : decode cX10_lift 38 = .ok (.isub, 1) := by decide +kernel
theorem dX10_lift_39 : decode cX10_lift 39 = .ok (.bipush 90, 2) := by decide +kernel
theorem dX10_lift_41 : decode cX10_lift 41 = .ok (.aload_n 2, 1) := by decide +kernel
theorem dX10_lift_42 : decode cX10_lift 42 = .ok (.getfield 297, 3) := by decide +kernel
theorem dX10_lift_45 : decode cX10_lift 45 = .ok (.imul, 1) := by decide +kernel
theorem dX10_lift_46 : decode cX10_lift 46 = .ok (.if_icmp .ge 9, 3) := by decide +kernel
theorem dX10_lift_49 : decode cX10_lift 49 = .ok (.aload_n 0, 1) := by decide +kernel
theorem dX10_lift_50 : decode cX10_lift 50 = .ok (.iconst 3, 1) := by decide +kernel
theorem dX10_lift_51 : decode cX10_lift 51 = .ok (.invokevirtual 82, 3) := by decide +kernel
theorem dX10_lift_54 : decode cX10_lift 54 = .ok (.ireturn, 1) := by decide +kernel
theorem dX10_lift_55 : decode cX10_lift 55 = .ok (.aload_n 2, 1) := by decide +kernel
theorem dX10_lift_56 : decode cX10_lift 56 = .ok (.iconst (-1), 1) := by decide +kernel
theorem dX10_lift_57 : decode cX10_lift 57 = .ok (.putfield 300, 3) := by decide +kernel
theorem dX10_lift_60 : decode cX10_lift 60 = .ok (.iconst 1, 1) := by decide +kernel
theorem dX10_lift_61 : decode cX10_lift 61 = .ok (.ireturn, 1) := by decide +kernel
theorem dX10_were_0 : decode cX10_were 0 = .ok (.aload_n 0, 1) := by decide +kernel
theorem dX10_were_1 : decode cX10_were 1 = .ok (.iload_n 1, 1) := by decide +kernel
theorem dX10_were_2 : decode cX10_were 2 = .ok (.invokevirtual 226, 3) := by decide +kernel
theorem dX10_were_5 : decode cX10_were 5 = .ok (.astore_n 3, 1) := by decide +kernel
theorem dX10_were_6 : decode cX10_were 6 = .ok (.aload_n 0, 1) := by decide +kernel
theorem dX10_were_7 : decode cX10_were 7 = .ok (.iload_n 2, 1) := by decide +kernel
theorem dX10_were_8 : decode cX10_were 8 = .ok (.invokevirtual 226, 3) := by decide +kernel
theorem dX10_were_11 : decode cX10_were 11 = .ok (.astore 4, 2) := by decide +kernel
theorem dX10_were_13 : decode cX10_were 13 = .ok (.aload_n 3, 1) := by decide +kernel
theorem dX10_were_14 : decode cX10_were 14 = .ok (.ifnull 8, 3) := by decide +kernel
theorem dX10_were_17 : decode cX10_were 17 = .ok (.aload 4, 2) := by decide +kernel
theorem dX10_were_19 : decode cX10_were 19 = .ok (.ifnonnull 9, 3) := by decide +kernel
theorem dX10_were_22 : decode cX10_were 22 = .ok (.aload_n 0, 1) := by decide +kernel
theorem dX10_were_23 : decode cX10_were 23 = .ok (.iconst 1, 1) := by decide +kernel
theorem dX10_were_24 : decode cX10_were 24 = .ok (.invokevirtual 82, 3) := by decide +kernel
theorem dX10_were_27 : decode cX10_were 27 = .ok (.ireturn, 1) := by decide +kernel
theorem dX10_were_28 : decode cX10_were 28 = .ok (.aload_n 3, 1) := by decide +kernel
theorem dX10_were_29 : decode cX10_were 29 = .ok (.aload 4, 2) := by decide +kernel
theorem dX10_were_31 : decode cX10_were 31 = .ok (.invokevirtual 303, 3) := by decide +kernel
theorem dX10_were_34 : decode cX10_were 34 = .ok (.ifCond .ne 9, 3) := by decide +kernel
theorem dX10_were_37 : decode cX10_were 37 = .ok (.aload_n 0, 1) := by decide +kernel
theorem dX10_were_38 : decode cX10_were 38 = .ok (.iconst 3, 1) := by decide +kernel
theorem dX10_were_39 : decode cX10_were 39 = .ok (.invokevirtual 82, 3) := by decide +kernel
theorem dX10_were_42 : decode cX10_were 42 = .ok (.ireturn, 1) := by decide +kernel
theorem dX10_were_43 : decode cX10_were 43 = .ok (.aload_n 3, 1) := by decide +kernel
theorem dX10_were_44 : decode cX10_were 44 = .ok (.getfield 239, 3) := by decide +kernel
theorem dX10_were_47 : decode cX10_were 47 = .ok (.aload 4, 2) := by decide +kernel
theorem dX10_were_49 : decode cX10_were 49 = .ok (.getfield 239, 3) := by decide +kernel
theorem dX10_were_52 : decode cX10_were 52 = .ok (.iand, 1) := by decide +kernel
theorem dX10_were_53 : decode cX10_were 53 = .ok (.invokestatic 307, 3) := by decide +kernel
theorem dX10_were_56 : decode cX10_were 56 = .ok (.istore 5, 2) := by decide +kernel
theorem dX10_were_58 : decode cX10_were 58 = .ok (.iload 5, 2) := by decide +kernel
theorem dX10_were_60 : decode cX10_were 60 = .ok (.ifCond .ne 9, 3) := by decide +kernel
theorem dX10_were_63 : decode cX10_were 63 = .ok (.aload_n 0, 1) := by decide +kernel
theorem dX10_were_64 : decode cX10_were 64 = .ok (.iconst 2, 1) := by decide +kernel
theorem dX10_were_65 : decode cX10_were 65 = .ok (.invokevirtual 82, 3) := by decide +kernel
theorem dX10_were_68 : decode cX10_were 68 = .ok (.ireturn, 1) := by decide +kernel
theorem dX10_were_69 : decode cX10_were 69 = .ok (.aload_n 3, 1) := by decide +kernel
theorem dX10_were_70 : decode cX10_were 70 = .ok (.getfield 239, 3) := by decide +kernel
theorem dX10_were_73 : decode cX10_were 73 = .ok (.invokestatic 307, 3) := by decide +kernel
theorem dX10_were_76 : decode cX10_were 76 = .ok (.aload 4, 2) := by decide +kernel
theorem dX10_were_78 : decode cX10_were 78 = .ok (.getfield 239, 3) := by decide +kernel
theorem dX10_were_81 : decode cX10_were 81 = .ok (.invokestatic 307, 3) := by decide +kernel
theorem dX10_were_84 : decode cX10_were 84 = .ok (.imul, 1) := by decide +kernel
theorem dX10_were_85 : decode cX10_were 85 = .ok (.iload 5, 2) := by decide +kernel
theorem dX10_were_87 : decode cX10_were 87 = .ok (.idiv, 1) := by decide +kernel
theorem dX10_were_88 : decode cX10_were 88 = .ok (.ireturn, 1) := by decide +kernel
theorem dX10_habit_0 : decode cX10_habit 0 = .ok (.iload_n 1, 1) := by decide +kernel
theorem dX10_habit_1 : decode cX10_habit 1 = .ok (.bipush 6, 2) := by decide +kernel
theorem dX10_habit_3 : decode cX10_habit 3 = .ok (.invokestatic 96, 3) := by decide +kernel
theorem dX10_habit_6 : decode cX10_habit 6 = .ok (.ifCond .ne 9, 3) := by decide +kernel
theorem dX10_habit_9 : decode cX10_habit 9 = .ok (.aload_n 0, 1) := by decide +kernel
theorem dX10_habit_10 : decode cX10_habit 10 = .ok (.iconst 1, 1) := by decide +kernel
theorem dX10_habit_11 : decode cX10_habit 11 = .ok (.invokevirtual 82, 3) := by decide +kernel
theorem dX10_habit_14 : decode cX10_habit 14 = .ok (.ireturn, 1) := by decide +kernel
theorem dX10_habit_15 : decode cX10_habit 15 = .ok (.iconst 0, 1) := by decide +kernel
theorem dX10_habit_16 : decode cX10_habit 16 = .ok (.istore_n 2, 1) := by decide +kernel
theorem dX10_habit_17 : decode cX10_habit 17 = .ok (.iconst 0, 1) := by decide +kernel
theorem dX10_habit_18 : decode cX10_habit 18 = .ok (.istore_n 3, 1) := by decide +kernel
theorem dX10_habit_19 : decode cX10_habit 19 = .ok (.iconst 0, 1) := by decide +kernel
theorem dX10_habit_20 : decode cX10_habit 20 = .ok (.istore 4, 2) := by decide +kernel
theorem dX10_habit_22 : decode cX10_habit 22 = .ok (.iload 4, 2) := by decide +kernel
theorem dX10_habit_24 : decode cX10_habit 24 = .ok (.aload_n 0, 1) := by decide +kernel
theorem dX10_habit_25 : decode cX10_habit 25 = .ok (.getfield 210, 3) := by decide +kernel
theorem dX10_habit_28 : decode cX10_habit 28 = .ok (.if_icmp .ge 95, 3) := by decide +kernel
theorem dX10_habit_31 : decode cX10_habit 31 = .ok (.aload_n 0, 1) := by decide +kernel
theorem dX10_habit_32 : decode cX10_habit 32 = .ok (.getfield 30, 3) := by decide +kernel
theorem dX10_habit_35 : decode cX10_habit 35 = .ok (.iload 4, 2) := by decide +kernel
theorem dX10_habit_37 : decode cX10_habit 37 = .ok (.aaload, 1) := by decide +kernel
theorem dX10_habit_38 : decode cX10_habit 38 = .ok (.astore 5, 2) := by decide +kernel
theorem dX10_habit_40 : decode cX10_habit 40 = .ok (.aload 5, 2) := by decide +kernel
theorem dX10_habit_42 : decode cX10_habit 42 = .ok (.getfield 233, 3) := by decide +kernel
theorem dX10_habit_45 : decode cX10_habit 45 = .ok (.iload_n 1, 1) := by decide +kernel
theorem dX10_habit_46 : decode cX10_habit 46 = .ok (.if_icmp .eq 6, 3) := by decide +kernel
theorem dX10_habit_49 : decode cX10_habit 49 = .ok (.goto 68, 3) := by decide +kernel
theorem dX10_habit_52 : decode cX10_habit 52 = .ok (.iconst 0, 1) := by decide +kernel
theorem dX10_habit_53 : decode cX10_habit 53 = .ok (.istore 6, 2) := by decide +kernel
theorem dX10_habit_55 : decode cX10_habit 55 = .ok (.iload 6, 2) := by decide +kernel
theorem dX10_habit_57 : decode cX10_habit 57 = .ok (.aload_n 0, 1) := by decide +kernel
theorem dX10_habit_58 : decode cX10_habit 58 = .ok (.getfield 210, 3) := by decide +kernel
theorem dX10_habit_61 : decode cX10_habit 61 = .ok (.if_icmp .ge 56, 3) := by decide +kernel
theorem dX10_habit_64 : decode cX10_habit 64 = .ok (.aload_n 0, 1) := by decide +kernel
theorem dX10_habit_65 : decode cX10_habit 65 = .ok (.getfield 30, 3) := by decide +kernel
theorem dX10_habit_68 : decode cX10_habit 68 = .ok (.iload 6, 2) := by decide +kernel
theorem dX10_habit_70 : decode cX10_habit 70 = .ok (.aaload, 1) := by decide +kernel
theorem dX10_habit_71 : decode cX10_habit 71 = .ok (.astore 7, 2) := by decide +kernel
theorem dX10_habit_73 : decode cX10_habit 73 = .ok (.aload 5, 2) := by decide +kernel
theorem dX10_habit_75 : decode cX10_habit 75 = .ok (.aload 7, 2) := by decide +kernel
theorem dX10_habit_77 : decode cX10_habit 77 = .ok (.invokevirtual 303, 3) := by decide +kernel
theorem dX10_habit_80 : decode cX10_habit 80 = .ok (.ifCond .eq 31, 3) := by decide +kernel
theorem dX10_habit_83 : decode cX10_habit 83 = .ok (.iload_n 2, 1) := by decide +kernel
theorem dX10_habit_84 : decode cX10_habit 84 = .ok (.aload 5, 2) := by decide +kernel
theorem dX10_habit_86 : decode cX10_habit 86 = .ok (.getfield 239, 3) := by decide +kernel
theorem dX10_habit_89 : decode cX10_habit 89 = .ok (.aload 7, 2) := by decide +kernel
theorem dX10_habit_91 : decode cX10_habit 91 = .ok (.getfield 239, 3) := by decide +kernel
theorem dX10_habit_94 : decode cX10_habit 94 = .ok (.iand, 1) := by decide +kernel
theorem dX10_habit_95 : decode cX10_habit 95 = .ok (.invokestatic 307, 3) := by decide +kernel
theorem dX10_habit_98 : decode cX10_habit 98 = .ok (.iadd, 1) := by decide +kernel
theorem dX10_habit_99 : decode cX10_habit 99 = .ok (.istore_n 2, 1) := by decide +kernel
theorem dX10_habit_100 : decode cX10_habit 100 = .ok (.iload_n 3, 1) := by decide +kernel
theorem dX10_habit_101 : decode cX10_habit 101 = .ok (.aload 7, 2) := by decide +kernel
theorem dX10_habit_103 : decode cX10_habit 103 = .ok (.getfield 239, 3) := by decide +kernel
theorem dX10_habit_106 : decode cX10_habit 106 = .ok (.invokestatic 307, 3) := by decide +kernel
theorem dX10_habit_109 : decode cX10_habit 109 = .ok (.iadd, 1) := by decide +kernel
theorem dX10_habit_110 : decode cX10_habit 110 = .ok (.istore_n 3, 1) := by decide +kernel
theorem dX10_habit_111 : decode cX10_habit 111 = .ok (.iinc 6 1, 3) := by decide +kernel
theorem dX10_habit_114 : decode cX10_habit 114 = .ok (.goto (-59), 3) := by decide +kernel
theorem dX10_habit_117 : decode cX10_habit 117 = .ok (.iinc 4 1, 3) := by decide +kernel
theorem dX10_habit_120 : decode cX10_habit 120 = .ok (.goto (-98), 3) := by decide +kernel
theorem dX10_habit_123 : decode cX10_habit 123 = .ok (.iload_n 3, 1) := by decide +kernel
theorem dX10_habit_124 : decode cX10_habit 124 = .ok (.ifCond .ne 11, 3) := by decide +kernel
theorem dX10_habit_127 : decode cX10_habit 127 = .ok (.aload_n 0, 1) := by decide +kernel
theorem dX10_habit_128 : decode cX10_habit 128 = .ok (.iconst 2, 1) := by decide +kernel
theorem dX10_habit_129 : decode cX10_habit 129 = .ok (.invokevirtual 82, 3) := by decide +kernel
theorem dX10_habit_132 : decode cX10_habit 132 = .ok (.goto 9, 3) := by decide +kernel
theorem dX10_habit_135 : decode cX10_habit 135 = .ok (.bipush 100, 2) := by decide +kernel
theorem dX10_habit_137 : decode cX10_habit 137 = .ok (.iload_n 2, 1) := by decide +kernel
theorem dX10_habit_138 : decode cX10_habit 138 = .ok (.imul, 1) := by decide +kernel
theorem dX10_habit_139 : decode cX10_habit 139 = .ok (.iload_n 3, 1) := by decide +kernel
theorem dX10_habit_140 : decode cX10_habit 140 = .ok (.idiv, 1) := by decide +kernel
theorem dX10_habit_141 : decode cX10_habit 141 = .ok (.ireturn, 1) := by decide +kernel
theorem dX10_draw_0 : decode cX10_draw 0 = .ok (.aload_n 0, 1) := by decide +kernel
theorem dX10_draw_1 : decode cX10_draw 1 = .ok (.iload_n 1, 1) := by decide +kernel
theorem dX10_draw_2 : decode cX10_draw 2 = .ok (.invokevirtual 226, 3) := by decide +kernel
theorem dX10_draw_5 : decode cX10_draw 5 = .ok (.astore_n 3, 1) := by decide +kernel
theorem dX10_draw_6 : decode cX10_draw 6 = .ok (.aload_n 3, 1) := by decide +kernel
theorem dX10_draw_7 : decode cX10_draw 7 = .ok (.ifnull 14, 3) := by decide +kernel
theorem dX10_draw_10 : decode cX10_draw 10 = .ok (.iload_n 2, 1) := by decide +kernel
theorem dX10_draw_11 : decode cX10_draw 11 = .ok (.iconst 1, 1) := by decide +kernel
theorem dX10_draw_12 : decode cX10_draw 12 = .ok (.if_icmp .lt 9, 3) := by decide +kernel
theorem dX10_draw_15 : decode cX10_draw 15 = .ok (.iload_n 2, 1) := by decide +kernel
theorem dX10_draw_16 : decode cX10_draw 16 = .ok (.bipush 100, 2) := by decide +kernel
theorem dX10_draw_18 : decode cX10_draw 18 = .ok (.if_icmp .le 9, 3) := by decide +kernel
theorem dX10_draw_21 : decode cX10_draw 21 = .ok (.aload_n 0, 1) := by decide +kernel
theorem dX10_draw_22 : decode cX10_draw 22 = .ok (.iconst 1, 1) := by decide +kernel
theorem dX10_draw_23 : decode cX10_draw 23 = .ok (.invokevirtual 82, 3) := by decide +kernel
theorem dX10_draw_26 : decode cX10_draw 26 = .ok (.ireturn, 1) := by decide +kernel
theorem dX10_draw_27 : decode cX10_draw 27 = .ok (.aload_n 3, 1) := by decide +kernel
theorem dX10_draw_28 : decode cX10_draw 28 = .ok (.invokevirtual 312, 3) := by decide +kernel
theorem dX10_draw_31 : decode cX10_draw 31 = .ok (.ifCond .eq 9, 3) := by decide +kernel
theorem dX10_draw_34 : decode cX10_draw 34 = .ok (.aload_n 0, 1) := by decide +kernel
theorem dX10_draw_35 : decode cX10_draw 35 = .ok (.iconst 3, 1) := by decide +kernel
theorem dX10_draw_36 : decode cX10_draw 36 = .ok (.invokevirtual 82, 3) := by decide +kernel
theorem dX10_draw_39 : decode cX10_draw 39 = .ok (.ireturn, 1) := by decide +kernel
theorem dX10_draw_40 : decode cX10_draw 40 = .ok (.aload_n 3, 1) := by decide +kernel
theorem dX10_draw_41 : decode cX10_draw 41 = .ok (.iload_n 2, 1) := by decide +kernel
theorem dX10_draw_42 : decode cX10_draw 42 = .ok (.putfield 315, 3) := by decide +kernel
theorem dX10_draw_45 : decode cX10_draw 45 = .ok (.aload_n 0, 1) := by decide +kernel
theorem dX10_draw_46 : decode cX10_draw 46 = .ok (.dup, 1) := by decide +kernel
theorem dX10_draw_47 : decode cX10_draw 47 = .ok (.getfield 318, 3) := by decide +kernel
theorem dX10_draw_50 : decode cX10_draw 50 = .ok (.iconst 1, 1) := by decide +kernel
theorem dX10_draw_51 : decode cX10_draw 51 = .ok (.iadd, 1) := by decide +kernel
theorem dX10_draw_52 : decode cX10_draw 52 = .ok (.putfield 318, 3) := by decide +kernel
theorem dX10_draw_55 : decode cX10_draw 55 = .ok (.aload_n 0, 1) := by decide +kernel
theorem dX10_draw_56 : decode cX10_draw 56 = .ok (.getfield 318, 3) := by decide +kernel
theorem dX10_draw_59 : decode cX10_draw 59 = .ok (.ireturn, 1) := by decide +kernel
theorem dX10_rate_0 : decode cX10_rate 0 = .ok (.iconst 0, 1) := by decide +kernel
theorem dX10_rate_1 : decode cX10_rate 1 = .ok (.istore_n 1, 1) := by decide +kernel
theorem dX10_rate_2 : decode cX10_rate 2 = .ok (.iconst 0, 1) := by decide +kernel
theorem dX10_rate_3 : decode cX10_rate 3 = .ok (.istore_n 2, 1) := by decide +kernel
theorem dX10_rate_4 : decode cX10_rate 4 = .ok (.iconst 0, 1) := by decide +kernel
theorem dX10_rate_5 : decode cX10_rate 5 = .ok (.istore_n 3, 1) := by decide +kernel
theorem dX10_rate_6 : decode cX10_rate 6 = .ok (.iload_n 3, 1) := by decide +kernel
theorem dX10_rate_7 : decode cX10_rate 7 = .ok (.aload_n 0, 1) := by decide +kernel
theorem dX10_rate_8 : decode cX10_rate 8 = .ok (.getfield 210, 3) := by decide +kernel
theorem dX10_rate_11 : decode cX10_rate 11 = .ok (.if_icmp .ge 58, 3) := by decide +kernel
theorem dX10_rate_14 : decode cX10_rate 14 = .ok (.aload_n 0, 1) := by decide +kernel
theorem dX10_rate_15 : decode cX10_rate 15 = .ok (.getfield 30, 3) := by decide +kernel
theorem dX10_rate_18 : decode cX10_rate 18 = .ok (.iload_n 3, 1) := by decide +kernel
theorem dX10_rate_19 : decode cX10_rate 19 = .ok (.aaload, 1) := by decide +kernel
theorem dX10_rate_20 : decode cX10_rate 20 = .ok (.astore 4, 2) := by decide +kernel
theorem dX10_rate_22 : decode cX10_rate 22 = .ok (.aload 4, 2) := by decide +kernel
theorem dX10_rate_24 : decode cX10_rate 24 = .ok (.invokevirtual 312, 3) := by decide +kernel
theorem dX10_rate_27 : decode cX10_rate 27 = .ok (.ifCond .eq 36, 3) := by decide +kernel
theorem dX10_rate_30 : decode cX10_rate 30 = .ok (.sipush 10000, 3) := by decide +kernel
theorem dX10_rate_33 : decode cX10_rate 33 = .ok (.aload 4, 2) := by decide +kernel
theorem dX10_rate_35 : decode cX10_rate 35 = .ok (.getfield 315, 3) := by decide +kernel
theorem dX10_rate_38 : decode cX10_rate 38 = .ok (.idiv, 1) := by decide +kernel
theorem dX10_rate_39 : decode cX10_rate 39 = .ok (.istore 5, 2) := by decide +kernel
theorem dX10_rate_41 : decode cX10_rate 41 = .ok (.iload_n 2, 1) := by decide +kernel
theorem dX10_rate_42 : decode cX10_rate 42 = .ok (.iload 5, 2) := by decide +kernel
theorem dX10_rate_44 : decode cX10_rate 44 = .ok (.iadd, 1) := by decide +kernel
theorem dX10_rate_45 : decode cX10_rate 45 = .ok (.istore_n 2, 1) := by decide +kernel
theorem dX10_rate_46 : decode cX10_rate 46 = .ok (.iload_n 1, 1) := by decide +kernel
theorem dX10_rate_47 : decode cX10_rate 47 = .ok (.aload 4, 2) := by decide +kernel
theorem dX10_rate_49 : decode cX10_rate 49 = .ok (.getfield 242, 3) := by decide +kernel
theorem dX10_rate_52 : decode cX10_rate 52 = .ok (.ifCond .eq 8, 3) := by decide +kernel
theorem dX10_rate_55 : decode cX10_rate 55 = .ok (.iload 5, 2) := by decide +kernel
theorem dX10_rate_57 : decode cX10_rate 57 = .ok (.goto 4, 3) := by decide +kernel
theorem dX10_rate_60 : decode cX10_rate 60 = .ok (.iconst 0, 1) := by decide +kernel
theorem dX10_rate_61 : decode cX10_rate 61 = .ok (.iadd, 1) := by decide +kernel
theorem dX10_rate_62 : decode cX10_rate 62 = .ok (.istore_n 1, 1) := by decide +kernel
theorem dX10_rate_63 : decode cX10_rate 63 = .ok (.iinc 3 1, 3) := by decide +kernel
theorem dX10_rate_66 : decode cX10_rate 66 = .ok (.goto (-60), 3) := by decide +kernel
theorem dX10_rate_69 : decode cX10_rate 69 = .ok (.iload_n 2, 1) := by decide +kernel
theorem dX10_rate_70 : decode cX10_rate 70 = .ok (.ifCond .ne 11, 3) := by decide +kernel
theorem dX10_rate_73 : decode cX10_rate 73 = .ok (.aload_n 0, 1) := by decide +kernel
theorem dX10_rate_74 : decode cX10_rate 74 = .ok (.iconst 2, 1) := by decide +kernel
theorem dX10_rate_75 : decode cX10_rate 75 = .ok (.invokevirtual 82, 3) := by decide +kernel
theorem dX10_rate_78 : decode cX10_rate 78 = .ok (.goto 10, 3) := by decide +kernel
theorem dX10_rate_81 : decode cX10_rate 81 = .ok (.iload_n 1, 1) := by decide +kernel
theorem dX10_rate_82 : decode cX10_rate 82 = .ok (.sipush 1000, 3) := by decide +kernel
theorem dX10_rate_85 : decode cX10_rate 85 = .ok (.imul, 1) := by decide +kernel
theorem dX10_rate_86 : decode cX10_rate 86 = .ok (.iload_n 2, 1) := by decide +kernel
theorem dX10_rate_87 : decode cX10_rate 87 = .ok (.idiv, 1) := by decide +kernel
theorem dX10_rate_88 : decode cX10_rate 88 = .ok (.ireturn, 1) := by decide +kernel
theorem dX10_tell_0 : decode cX10_tell 0 = .ok (.aload_n 0, 1) := by decide +kernel
theorem dX10_tell_1 : decode cX10_tell 1 = .ok (.getfield 321, 3) := by decide +kernel
theorem dX10_tell_4 : decode cX10_tell 4 = .ok (.bipush 16, 2) := by decide +kernel
theorem dX10_tell_6 : decode cX10_tell 6 = .ok (.if_icmp .lt 9, 3) := by decide +kernel
theorem dX10_tell_9 : decode cX10_tell 9 = .ok (.aload_n 0, 1) := by decide +kernel
theorem dX10_tell_10 : decode cX10_tell 10 = .ok (.iconst 4, 1) := by decide +kernel
theorem dX10_tell_11 : decode cX10_tell 11 = .ok (.invokevirtual 82, 3) := by decide +kernel
theorem dX10_tell_14 : decode cX10_tell 14 = .ok (.ireturn, 1) := by decide +kernel
theorem dX10_tell_15 : decode cX10_tell 15 = .ok (.aload_n 0, 1) := by decide +kernel
theorem dX10_tell_16 : decode cX10_tell 16 = .ok (.getfield 51, 3) := by decide +kernel
theorem dX10_tell_19 : decode cX10_tell 19 = .ok (.aload_n 0, 1) := by decide +kernel
theorem dX10_tell_20 : decode cX10_tell 20 = .ok (.getfield 321, 3) := by decide +kernel
theorem dX10_tell_23 : decode cX10_tell 23 = .ok (.iload_n 1, 1) := by decide +kernel
theorem dX10_tell_24 : decode cX10_tell 24 = .ok (.iastore, 1) := by decide +kernel
theorem dX10_tell_25 : decode cX10_tell 25 = .ok (.aload_n 0, 1) := by decide +kernel
theorem dX10_tell_26 : decode cX10_tell 26 = .ok (.dup, 1) := by decide +kernel
theorem dX10_tell_27 : decode cX10_tell 27 = .ok (.getfield 321, 3) := by decide +kernel
theorem dX10_tell_30 : decode cX10_tell 30 = .ok (.iconst 1, 1) := by decide +kernel
theorem dX10_tell_31 : decode cX10_tell 31 = .ok (.iadd, 1) := by decide +kernel
theorem dX10_tell_32 : decode cX10_tell 32 = .ok (.putfield 321, 3) := by decide +kernel
theorem dX10_tell_35 : decode cX10_tell 35 = .ok (.aload_n 0, 1) := by decide +kernel
theorem dX10_tell_36 : decode cX10_tell 36 = .ok (.getfield 321, 3) := by decide +kernel
theorem dX10_tell_39 : decode cX10_tell 39 = .ok (.ireturn, 1) := by decide +kernel
theorem dX10_check_0 : decode cX10_check 0 = .ok (.aload_n 0, 1) := by decide +kernel
theorem dX10_check_1 : decode cX10_check 1 = .ok (.getfield 321, 3) := by decide +kernel
theorem dX10_check_4 : decode cX10_check 4 = .ok (.istore_n 1, 1) := by decide +kernel
theorem dX10_check_5 : decode cX10_check 5 = .ok (.aload_n 0, 1) := by decide +kernel
theorem dX10_check_6 : decode cX10_check 6 = .ok (.iconst 0, 1) := by decide +kernel
theorem dX10_check_7 : decode cX10_check 7 = .ok (.putfield 321, 3) := by decide +kernel
theorem dX10_check_10 : decode cX10_check 10 = .ok (.iconst 0, 1) := by decide +kernel
theorem dX10_check_11 : decode cX10_check 11 = .ok (.istore_n 2, 1) := by decide +kernel
theorem dX10_check_12 : decode cX10_check 12 = .ok (.iload_n 2, 1) := by decide +kernel
theorem dX10_check_13 : decode cX10_check 13 = .ok (.iload_n 1, 1) := by decide +kernel
theorem dX10_check_14 : decode cX10_check 14 = .ok (.if_icmp .ge 37, 3) := by decide +kernel
theorem dX10_check_17 : decode cX10_check 17 = .ok (.aload_n 0, 1) := by decide +kernel
theorem dX10_check_18 : decode cX10_check 18 = .ok (.iload_n 2, 1) := by decide +kernel
theorem dX10_check_19 : decode cX10_check 19 = .ok (.invokevirtual 92, 3) := by decide +kernel
theorem dX10_check_22 : decode cX10_check 22 = .ok (.astore_n 3, 1) := by decide +kernel
theorem dX10_check_23 : decode cX10_check 23 = .ok (.aload_n 3, 1) := by decide +kernel
theorem dX10_check_24 : decode cX10_check 24 = .ok (.ifnull 17, 3) := by decide +kernel
theorem dX10_check_27 : decode cX10_check 27 = .ok (.aload_n 0, 1) := by decide +kernel
theorem dX10_check_28 : decode cX10_check 28 = .ok (.aload_n 3, 1) := by decide +kernel
theorem dX10_check_29 : decode cX10_check 29 = .ok (.invokevirtual 258, 3) := by decide +kernel
theorem dX10_check_32 : decode cX10_check 32 = .ok (.aload_n 0, 1) := by decide +kernel
theorem dX10_check_33 : decode cX10_check 33 = .ok (.getfield 51, 3) := by decide +kernel
theorem dX10_check_36 : decode cX10_check 36 = .ok (.iload_n 2, 1) := by decide +kernel
theorem dX10_check_37 : decode cX10_check 37 = .ok (.iaload, 1) := by decide +kernel
theorem dX10_check_38 : decode cX10_check 38 = .ok (.if_icmp .eq 7, 3) := by decide +kernel
theorem dX10_check_41 : decode cX10_check 41 = .ok (.iconst 1, 1) := by decide +kernel
theorem dX10_check_42 : decode cX10_check 42 = .ok (.iload_n 2, 1) := by decide +kernel
theorem dX10_check_43 : decode cX10_check 43 = .ok (.iadd, 1) := by decide +kernel
theorem dX10_check_44 : decode cX10_check 44 = .ok (.ireturn, 1) := by decide +kernel
theorem dX10_check_45 : decode cX10_check 45 = .ok (.iinc 2 1, 3) := by decide +kernel
theorem dX10_check_48 : decode cX10_check 48 = .ok (.goto (-36), 3) := by decide +kernel
theorem dX10_check_51 : decode cX10_check 51 = .ok (.iconst 0, 1) := by decide +kernel
theorem dX10_check_52 : decode cX10_check 52 = .ok (.ireturn, 1) := by decide +kernel
theorem dX10_count_0 : decode cX10_count 0 = .ok (.iload_n 1, 1) := by decide +kernel
theorem dX10_count_1 : decode cX10_count 1 = .ok (.tableswitch 126 0 11 #[63, 68, 73, 78, 83, 88, 96, 101, 106, 111, 116, 121], 63) := by decide +kernel
theorem dX10_count_64 : decode cX10_count 64 = .ok (.aload_n 0, 1) := by decide +kernel
theorem dX10_count_65 : decode cX10_count 65 = .ok (.getfield 86, 3) := by decide +kernel
theorem dX10_count_68 : decode cX10_count 68 = .ok (.ireturn, 1) := by decide +kernel
theorem dX10_count_69 : decode cX10_count 69 = .ok (.aload_n 0, 1) := by decide +kernel
theorem dX10_count_70 : decode cX10_count 70 = .ok (.getfield 112, 3) := by decide +kernel
theorem dX10_count_73 : decode cX10_count 73 = .ok (.ireturn, 1) := by decide +kernel
theorem dX10_count_74 : decode cX10_count 74 = .ok (.aload_n 0, 1) := by decide +kernel
theorem dX10_count_75 : decode cX10_count 75 = .ok (.getfield 141, 3) := by decide +kernel
theorem dX10_count_78 : decode cX10_count 78 = .ok (.ireturn, 1) := by decide +kernel
theorem dX10_count_79 : decode cX10_count 79 = .ok (.aload_n 0, 1) := by decide +kernel
theorem dX10_count_80 : decode cX10_count 80 = .ok (.getfield 210, 3) := by decide +kernel
theorem dX10_count_83 : decode cX10_count 83 = .ok (.ireturn, 1) := by decide +kernel
theorem dX10_count_84 : decode cX10_count 84 = .ok (.aload_n 0, 1) := by decide +kernel
theorem dX10_count_85 : decode cX10_count 85 = .ok (.getfield 185, 3) := by decide +kernel
theorem dX10_count_88 : decode cX10_count 88 = .ok (.ireturn, 1) := by decide +kernel
theorem dX10_count_89 : decode cX10_count 89 = .ok (.aload_n 0, 1) := by decide +kernel
theorem dX10_count_90 : decode cX10_count 90 = .ok (.getfield 43, 3) := by decide +kernel
theorem dX10_count_93 : decode cX10_count 93 = .ok (.getfield 178, 3) := by decide +kernel
theorem dX10_count_96 : decode cX10_count 96 = .ok (.ireturn, 1) := by decide +kernel
theorem dX10_count_97 : decode cX10_count 97 = .ok (.aload_n 0, 1) := by decide +kernel
theorem dX10_count_98 : decode cX10_count 98 = .ok (.getfield 79, 3) := by decide +kernel
theorem dX10_count_101 : decode cX10_count 101 = .ok (.ireturn, 1) := by decide +kernel
theorem dX10_count_102 : decode cX10_count 102 = .ok (.aload_n 0, 1) := by decide +kernel
theorem dX10_count_103 : decode cX10_count 103 = .ok (.getfield 318, 3) := by decide +kernel
theorem dX10_count_106 : decode cX10_count 106 = .ok (.ireturn, 1) := by decide +kernel
theorem dX10_count_107 : decode cX10_count 107 = .ok (.aload_n 0, 1) := by decide +kernel
theorem dX10_count_108 : decode cX10_count 108 = .ok (.invokevirtual 324, 3) := by decide +kernel
theorem dX10_count_111 : decode cX10_count 111 = .ok (.ireturn, 1) := by decide +kernel
theorem dX10_count_112 : decode cX10_count 112 = .ok (.aload_n 0, 1) := by decide +kernel
theorem dX10_count_113 : decode cX10_count 113 = .ok (.invokevirtual 327, 3) := by decide +kernel
theorem dX10_count_116 : decode cX10_count 116 = .ok (.ireturn, 1) := by decide +kernel
theorem dX10_count_117 : decode cX10_count 117 = .ok (.aload_n 0, 1) := by decide +kernel
theorem dX10_count_118 : decode cX10_count 118 = .ok (.invokevirtual 330, 3) := by decide +kernel
theorem dX10_count_121 : decode cX10_count 121 = .ok (.ireturn, 1) := by decide +kernel
theorem dX10_count_122 : decode cX10_count 122 = .ok (.aload_n 0, 1) := by decide +kernel
theorem dX10_count_123 : decode cX10_count 123 = .ok (.getfield 321, 3) := by decide +kernel
theorem dX10_count_126 : decode cX10_count 126 = .ok (.ireturn, 1) := by decide +kernel
theorem dX10_count_127 : decode cX10_count 127 = .ok (.aload_n 0, 1) := by decide +kernel
theorem dX10_count_128 : decode cX10_count 128 = .ok (.iconst 1, 1) := by decide +kernel
theorem dX10_count_129 : decode cX10_count 129 = .ok (.invokevirtual 82, 3) := by decide +kernel
theorem dX10_count_132 : decode cX10_count 132 = .ok (.ireturn, 1) := by decide +kernel
end
section
theorem dX10_found_0 : decode cX10_found 0 = .ok (.iload_n 1, 1) := by decide +kernel
theorem dX10_found_1 : decode cX10_found 1 = .ok (.iconst 1, 1) := by decide +kernel
theorem dX10_found_2 : decode cX10_found 2 = .ok (.if_icmp .lt 8, 3) := by decide +kernel
theorem dX10_found_5 : decode cX10_found 5 = .ok (.iload_n 1, 1) := by decide +kernel
theorem dX10_found_6 : decode cX10_found 6 = .ok (.iconst 5, 1) := by decide +kernel
theorem dX10_found_7 : decode cX10_found 7 = .ok (.if_icmp .le 9, 3) := by decide +kernel
theorem dX10_found_10 : decode cX10_found 10 = .ok (.aload_n 0, 1) := by decide +kernel
theorem dX10_found_11 : decode cX10_found 11 = .ok (.iconst 1, 1) := by decide +kernel
theorem dX10_found_12 : decode cX10_found 12 = .ok (.invokevirtual 82, 3) := by decide +kernel
theorem dX10_found_15 : decode cX10_found 15 = .ok (.ireturn, 1) := by decide +kernel
theorem dX10_found_16 : decode cX10_found 16 = .ok (.aload_n 0, 1) := by decide +kernel
theorem dX10_found_17 : decode cX10_found 17 = .ok (.getfield 55, 3) := by decide +kernel
theorem dX10_found_20 : decode cX10_found 20 = .ok (.iload_n 1, 1) := by decide +kernel
theorem dX10_found_21 : decode cX10_found 21 = .ok (.iaload, 1) := by decide +kernel
theorem dX10_found_22 : decode cX10_found 22 = .ok (.ireturn, 1) := by decide +kernel
theorem dX10_finding_0 : decode cX10_finding 0 = .ok (.aload_n 0, 1) := by decide +kernel
theorem dX10_finding_1 : decode cX10_finding 1 = .ok (.getfield 55, 3) := by decide +kernel
theorem dX10_finding_4 : decode cX10_finding 4 = .ok (.iload_n 1, 1) := by decide +kernel
theorem dX10_finding_5 : decode cX10_finding 5 = .ok (.dup2, 1) := by decide +kernel
theorem dX10_finding_6 : decode cX10_finding 6 = .ok (.iaload, 1) := by decide +kernel
theorem dX10_finding_7 : decode cX10_finding 7 = .ok (.iconst 1, 1) := by decide +kernel
theorem dX10_finding_8 : decode cX10_finding 8 = .ok (.iadd, 1) := by decide +kernel
theorem dX10_finding_9 : decode cX10_finding 9 = .ok (.iastore, 1) := by decide +kernel
theorem dX10_finding_10 : decode cX10_finding 10 = .ok (.ldc_w 333, 3) := by decide +kernel
theorem dX10_finding_13 : decode cX10_finding 13 = .ok (.iload_n 1, 1) := by decide +kernel
theorem dX10_finding_14 : decode cX10_finding 14 = .ok (.isub, 1) := by decide +kernel
theorem dX10_finding_15 : decode cX10_finding 15 = .ok (.ireturn, 1) := by decide +kernel
theorem dX10_isBelow_0 : decode cX10_isBelow 0 = .ok (.iload_n 0, 1) := by decide +kernel
theorem dX10_isBelow_1 : decode cX10_isBelow 1 = .ok (.ifCond .lt 12, 3) := by decide +kernel
theorem dX10_isBelow_4 : decode cX10_isBelow 4 = .ok (.iload_n 0, 1) := by decide +kernel
theorem dX10_isBelow_5 : decode cX10_isBelow 5 = .ok (.iload_n 1, 1) := by decide +kernel
theorem dX10_isBelow_6 : decode cX10_isBelow 6 = .ok (.if_icmp .ge 7, 3) := by decide +kernel
theorem dX10_isBelow_9 : decode cX10_isBelow 9 = .ok (.iconst 1, 1) := by decide +kernel
theorem dX10_isBelow_10 : decode cX10_isBelow 10 = .ok (.goto 4, 3) := by decide +kernel
theorem dX10_isBelow_13 : decode cX10_isBelow 13 = .ok (.iconst 0, 1) := by decide +kernel
theorem dX10_isBelow_14 : decode cX10_isBelow 14 = .ok (.ireturn, 1) := by decide +kernel
theorem dX10_isKindAndClass_0 : decode cX10_isKindAndClass 0 = .ok (.iload_n 0, 1) := by decide +kernel
theorem dX10_isKindAndClass_1 : decode cX10_isKindAndClass 1 = .ok (.bipush 40, 2) := by decide +kernel
theorem dX10_isKindAndClass_3 : decode cX10_isKindAndClass 3 = .ok (.invokestatic 96, 3) := by decide +kernel
theorem dX10_isKindAndClass_6 : decode cX10_isKindAndClass 6 = .ok (.ifCond .eq 15, 3) := by decide +kernel
theorem dX10_isKindAndClass_9 : decode cX10_isKindAndClass 9 = .ok (.iload_n 0, 1) := by decide +kernel
theorem dX10_isKindAndClass_10 : decode cX10_isKindAndClass 10 = .ok (.bipush 10, 2) := by decide +kernel
theorem dX10_isKindAndClass_12 : decode cX10_isKindAndClass 12 = .ok (.irem, 1) := by decide +kernel
theorem dX10_isKindAndClass_13 : decode cX10_isKindAndClass 13 = .ok (.iconst 4, 1) := by decide +kernel
theorem dX10_isKindAndClass_14 : decode cX10_isKindAndClass 14 = .ok (.if_icmp .ge 7, 3) := by decide +kernel
theorem dX10_isKindAndClass_17 : decode cX10_isKindAndClass 17 = .ok (.iconst 1, 1) := by decide +kernel
theorem dX10_isKindAndClass_18 : decode cX10_isKindAndClass 18 = .ok (.goto 4, 3) := by decide +kernel
theorem dX10_isKindAndClass_21 : decode cX10_isKindAndClass 21 = .ok (.iconst 0, 1) := by decide +kernel
theorem dX10_isKindAndClass_22 : decode cX10_isKindAndClass 22 = .ok (.ireturn, 1) := by decide +kernel
theorem dX10_isNameOwnerAndFlag_0 : decode cX10_isNameOwnerAndFlag 0 = .ok (.iload_n 0, 1) := by decide +kernel
theorem dX10_isNameOwnerAndFlag_1 : decode cX10_isNameOwnerAndFlag 1 = .ok (.sipush 10000, 3) := by decide +kernel
theorem dX10_isNameOwnerAndFlag_4 : decode cX10_isNameOwnerAndFlag 4 = .ok (.invokestatic 96, 3) := by decide +kernel
theorem dX10_isNameOwnerAndFlag_7 : decode cX10_isNameOwnerAndFlag 7 = .ok (.ifCond .eq 16, 3) := by decide +kernel
theorem dX10_isNameOwnerAndFlag_10 : decode cX10_isNameOwnerAndFlag 10 = .ok (.iload_n 0, 1) := by decide +kernel
theorem dX10_isNameOwnerAndFlag_11 : decode cX10_isNameOwnerAndFlag 11 = .ok (.bipush 10, 2) := by decide +kernel
theorem dX10_isNameOwnerAndFlag_13 : decode cX10_isNameOwnerAndFlag 13 = .ok (.irem, 1) := by decide +kernel
theorem dX10_isNameOwnerAndFlag_14 : decode cX10_isNameOwnerAndFlag 14 = .ok (.bipush 6, 2) := by decide +kernel
theorem dX10_isNameOwnerAndFlag_16 : decode cX10_isNameOwnerAndFlag 16 = .ok (.if_icmp .ge 7, 3) := by decide +kernel
theorem dX10_isNameOwnerAndFlag_19 : decode cX10_isNameOwnerAndFlag 19 = .ok (.iconst 1, 1) := by decide +kernel
theorem dX10_isNameOwnerAndFlag_20 : decode cX10_isNameOwnerAndFlag 20 = .ok (.goto 4, 3) := by decide +kernel
theorem dX10_isNameOwnerAndFlag_23 : decode cX10_isNameOwnerAndFlag 23 = .ok (.iconst 0, 1) := by decide +kernel
theorem dX10_isNameOwnerAndFlag_24 : decode cX10_isNameOwnerAndFlag 24 = .ok (.ireturn, 1) := by decide +kernel
theorem dX10_areHours_0 : decode cX10_areHours 0 = .ok (.iload_n 0, 1) := by decide +kernel
theorem dX10_areHours_1 : decode cX10_areHours 1 = .ok (.ifCond .lt 25, 3) := by decide +kernel
theorem dX10_areHours_4 : decode cX10_areHours 4 = .ok (.iload_n 0, 1) := by decide +kernel
theorem dX10_areHours_5 : decode cX10_areHours 5 = .ok (.bipush 100, 2) := by decide +kernel
theorem dX10_areHours_7 : decode cX10_areHours 7 = .ok (.idiv, 1) := by decide +kernel
theorem dX10_areHours_8 : decode cX10_areHours 8 = .ok (.bipush 24, 2) := by decide +kernel
theorem dX10_areHours_10 : decode cX10_areHours 10 = .ok (.if_icmp .gt 16, 3) := by decide +kernel
theorem dX10_areHours_13 : decode cX10_areHours 13 = .ok (.iload_n 0, 1) := by decide +kernel
theorem dX10_areHours_14 : decode cX10_areHours 14 = .ok (.bipush 100, 2) := by decide +kernel
theorem dX10_areHours_16 : decode cX10_areHours 16 = .ok (.irem, 1) := by decide +kernel
theorem dX10_areHours_17 : decode cX10_areHours 17 = .ok (.bipush 24, 2) := by decide +kernel
theorem dX10_areHours_19 : decode cX10_areHours 19 = .ok (.if_icmp .gt 7, 3) := by decide +kernel
theorem dX10_areHours_22 : decode cX10_areHours 22 = .ok (.iconst 1, 1) := by decide +kernel
theorem dX10_areHours_23 : decode cX10_areHours 23 = .ok (.goto 4, 3) := by decide +kernel
theorem dX10_areHours_26 : decode cX10_areHours 26 = .ok (.iconst 0, 1) := by decide +kernel
theorem dX10_areHours_27 : decode cX10_areHours 27 = .ok (.ireturn, 1) := by decide +kernel
theorem dX10_valuesOf_0 : decode cX10_valuesOf 0 = .ok (.iload_n 0, 1) := by decide +kernel
theorem dX10_valuesOf_1 : decode cX10_valuesOf 1 = .ok (.ifCond .ne 6, 3) := by decide +kernel
theorem dX10_valuesOf_4 : decode cX10_valuesOf 4 = .ok (.bipush 100, 2) := by decide +kernel
theorem dX10_valuesOf_6 : decode cX10_valuesOf 6 = .ok (.ireturn, 1) := by decide +kernel
theorem dX10_valuesOf_7 : decode cX10_valuesOf 7 = .ok (.iload_n 0, 1) := by decide +kernel
theorem dX10_valuesOf_8 : decode cX10_valuesOf 8 = .ok (.iconst 1, 1) := by decide +kernel
theorem dX10_valuesOf_9 : decode cX10_valuesOf 9 = .ok (.if_icmp .ne 8, 3) := by decide +kernel
theorem dX10_valuesOf_12 : decode cX10_valuesOf 12 = .ok (.bipush 6, 2) := by decide +kernel
theorem dX10_valuesOf_14 : decode cX10_valuesOf 14 = .ok (.goto 5, 3) := by decide +kernel
theorem dX10_valuesOf_17 : decode cX10_valuesOf 17 = .ok (.bipush 10, 2) := by decide +kernel
theorem dX10_valuesOf_19 : decode cX10_valuesOf 19 = .ok (.ireturn, 1) := by decide +kernel
theorem dX10_groupsOf_0 : decode cX10_groupsOf 0 = .ok (.iload_n 0, 1) := by decide +kernel
theorem dX10_groupsOf_1 : decode cX10_groupsOf 1 = .ok (.ifCond .ne 6, 3) := by decide +kernel
theorem dX10_groupsOf_4 : decode cX10_groupsOf 4 = .ok (.bipush 6, 2) := by decide +kernel
theorem dX10_groupsOf_6 : decode cX10_groupsOf 6 = .ok (.ireturn, 1) := by decide +kernel
theorem dX10_groupsOf_7 : decode cX10_groupsOf 7 = .ok (.iload_n 0, 1) := by decide +kernel
theorem dX10_groupsOf_8 : decode cX10_groupsOf 8 = .ok (.iconst 1, 1) := by decide +kernel
theorem dX10_groupsOf_9 : decode cX10_groupsOf 9 = .ok (.if_icmp .ne 7, 3) := by decide +kernel
theorem dX10_groupsOf_12 : decode cX10_groupsOf 12 = .ok (.iconst 4, 1) := by decide +kernel
theorem dX10_groupsOf_13 : decode cX10_groupsOf 13 = .ok (.goto 4, 3) := by decide +kernel
theorem dX10_groupsOf_16 : decode cX10_groupsOf 16 = .ok (.iconst 1, 1) := by decide +kernel
theorem dX10_groupsOf_17 : decode cX10_groupsOf 17 = .ok (.ireturn, 1) := by decide +kernel
theorem dX10_isUnder_0 : decode cX10_isUnder 0 = .ok (.iload_n 0, 1) := by decide +kernel
theorem dX10_isUnder_1 : decode cX10_isUnder 1 = .ok (.istore_n 2, 1) := by decide +kernel
theorem dX10_isUnder_2 : decode cX10_isUnder 2 = .ok (.iconst 0, 1) := by decide +kernel
theorem dX10_isUnder_3 : decode cX10_isUnder 3 = .ok (.istore_n 3, 1) := by decide +kernel
theorem dX10_isUnder_4 : decode cX10_isUnder 4 = .ok (.iload_n 3, 1) := by decide +kernel
theorem dX10_isUnder_5 : decode cX10_isUnder 5 = .ok (.iconst 4, 1) := by decide +kernel
theorem dX10_isUnder_6 : decode cX10_isUnder 6 = .ok (.if_icmp .ge 30, 3) := by decide +kernel
theorem dX10_isUnder_9 : decode cX10_isUnder 9 = .ok (.iload_n 2, 1) := by decide +kernel
theorem dX10_isUnder_10 : decode cX10_isUnder 10 = .ok (.iconst 4, 1) := by decide +kernel
theorem dX10_isUnder_11 : decode cX10_isUnder 11 = .ok (.invokestatic 96, 3) := by decide +kernel
theorem dX10_isUnder_14 : decode cX10_isUnder 14 = .ok (.ifCond .eq 22, 3) := by decide +kernel
theorem dX10_isUnder_17 : decode cX10_isUnder 17 = .ok (.iload_n 2, 1) := by decide +kernel
theorem dX10_isUnder_18 : decode cX10_isUnder 18 = .ok (.iload_n 1, 1) := by decide +kernel
theorem dX10_isUnder_19 : decode cX10_isUnder 19 = .ok (.if_icmp .ne 5, 3) := by decide +kernel
theorem dX10_isUnder_22 : decode cX10_isUnder 22 = .ok (.iconst 1, 1) := by decide +kernel
theorem dX10_isUnder_23 : decode cX10_isUnder 23 = .ok (.ireturn, 1) := by decide +kernel
theorem dX10_isUnder_24 : decode cX10_isUnder 24 = .ok (.getstatic 334, 3) := by decide +kernel
theorem dX10_isUnder_27 : decode cX10_isUnder 27 = .ok (.iload_n 2, 1) := by decide +kernel
theorem dX10_isUnder_28 : decode cX10_isUnder 28 = .ok (.iaload, 1) := by decide +kernel
theorem dX10_isUnder_29 : decode cX10_isUnder 29 = .ok (.istore_n 2, 1) := by decide +kernel
theorem dX10_isUnder_30 : decode cX10_isUnder 30 = .ok (.iinc 3 1, 3) := by decide +kernel
theorem dX10_isUnder_33 : decode cX10_isUnder 33 = .ok (.goto (-29), 3) := by decide +kernel
theorem dX10_isUnder_36 : decode cX10_isUnder 36 = .ok (.iconst 0, 1) := by decide +kernel
theorem dX10_isUnder_37 : decode cX10_isUnder 37 = .ok (.ireturn, 1) := by decide +kernel
theorem dX10_shipAt_0 : decode cX10_shipAt 0 = .ok (.iload_n 1, 1) := by decide +kernel
theorem dX10_shipAt_1 : decode cX10_shipAt 1 = .ok (.aload_n 0, 1) := by decide +kernel
theorem dX10_shipAt_2 : decode cX10_shipAt 2 = .ok (.getfield 86, 3) := by decide +kernel
theorem dX10_shipAt_5 : decode cX10_shipAt 5 = .ok (.invokestatic 96, 3) := by decide +kernel
theorem dX10_shipAt_8 : decode cX10_shipAt 8 = .ok (.ifCond .eq 12, 3) := by decide +kernel
theorem dX10_shipAt_11 : decode cX10_shipAt 11 = .ok (.aload_n 0, 1) := by decide +kernel
theorem dX10_shipAt_12 : decode cX10_shipAt 12 = .ok (.getfield 11, 3) := by decide +kernel
theorem dX10_shipAt_15 : decode cX10_shipAt 15 = .ok (.iload_n 1, 1) := by decide +kernel
theorem dX10_shipAt_16 : decode cX10_shipAt 16 = .ok (.aaload, 1) := by decide +kernel
theorem dX10_shipAt_17 : decode cX10_shipAt 17 = .ok (.goto 4, 3) := by decide +kernel
theorem dX10_shipAt_20 : decode cX10_shipAt 20 = .ok (.aconst_null, 1) := by decide +kernel
theorem dX10_shipAt_21 : decode cX10_shipAt 21 = .ok (.areturn, 1) := by decide +kernel
theorem dX10_callAt_0 : decode cX10_callAt 0 = .ok (.iload_n 1, 1) := by decide +kernel
theorem dX10_callAt_1 : decode cX10_callAt 1 = .ok (.aload_n 0, 1) := by decide +kernel
theorem dX10_callAt_2 : decode cX10_callAt 2 = .ok (.getfield 141, 3) := by decide +kernel
theorem dX10_callAt_5 : decode cX10_callAt 5 = .ok (.invokestatic 96, 3) := by decide +kernel
theorem dX10_callAt_8 : decode cX10_callAt 8 = .ok (.ifCond .eq 12, 3) := by decide +kernel
theorem dX10_callAt_11 : decode cX10_callAt 11 = .ok (.aload_n 0, 1) := by decide +kernel
theorem dX10_callAt_12 : decode cX10_callAt 12 = .ok (.getfield 24, 3) := by decide +kernel
theorem dX10_callAt_15 : decode cX10_callAt 15 = .ok (.iload_n 1, 1) := by decide +kernel
theorem dX10_callAt_16 : decode cX10_callAt 16 = .ok (.aaload, 1) := by decide +kernel
theorem dX10_callAt_17 : decode cX10_callAt 17 = .ok (.goto 4, 3) := by decide +kernel
theorem dX10_callAt_20 : decode cX10_callAt 20 = .ok (.aconst_null, 1) := by decide +kernel
theorem dX10_callAt_21 : decode cX10_callAt 21 = .ok (.areturn, 1) := by decide +kernel
theorem dX10_lookAt_0 : decode cX10_lookAt 0 = .ok (.iload_n 1, 1) := by decide +kernel
theorem dX10_lookAt_1 : decode cX10_lookAt 1 = .ok (.aload_n 0, 1) := by decide +kernel
theorem dX10_lookAt_2 : decode cX10_lookAt 2 = .ok (.getfield 210, 3) := by decide +kernel
theorem dX10_lookAt_5 : decode cX10_lookAt 5 = .ok (.invokestatic 96, 3) := by decide +kernel
theorem dX10_lookAt_8 : decode cX10_lookAt 8 = .ok (.ifCond .eq 12, 3) := by decide +kernel
theorem dX10_lookAt_11 : decode cX10_lookAt 11 = .ok (.aload_n 0, 1) := by decide +kernel
theorem dX10_lookAt_12 : decode cX10_lookAt 12 = .ok (.getfield 30, 3) := by decide +kernel
theorem dX10_lookAt_15 : decode cX10_lookAt 15 = .ok (.iload_n 1, 1) := by decide +kernel
theorem dX10_lookAt_16 : decode cX10_lookAt 16 = .ok (.aaload, 1) := by decide +kernel
theorem dX10_lookAt_17 : decode cX10_lookAt 17 = .ok (.goto 4, 3) := by decide +kernel
theorem dX10_lookAt_20 : decode cX10_lookAt 20 = .ok (.aconst_null, 1) := by decide +kernel
theorem dX10_lookAt_21 : decode cX10_lookAt 21 = .ok (.areturn, 1) := by decide +kernel
theorem dX10_treatyInForce_0 : decode cX10_treatyInForce 0 = .ok (.aload_n 0, 1) := by decide +kernel
theorem dX10_treatyInForce_1 : decode cX10_treatyInForce 1 = .ok (.getfield 185, 3) := by decide +kernel
theorem dX10_treatyInForce_4 : decode cX10_treatyInForce 4 = .ok (.iconst 1, 1) := by decide +kernel
theorem dX10_treatyInForce_5 : decode cX10_treatyInForce 5 = .ok (.isub, 1) := by decide +kernel
theorem dX10_treatyInForce_6 : decode cX10_treatyInForce 6 = .ok (.istore_n 2, 1) := by decide +kernel
theorem dX10_treatyInForce_7 : decode cX10_treatyInForce 7 = .ok (.iload_n 2, 1) := by decide +kernel
theorem dX10_treatyInForce_8 : decode cX10_treatyInForce 8 = .ok (.ifCond .lt 29, 3) := by decide +kernel
theorem dX10_treatyInForce_11 : decode cX10_treatyInForce 11 = .ok (.aload_n 0, 1) := by decide +kernel
theorem dX10_treatyInForce_12 : decode cX10_treatyInForce 12 = .ok (.getfield 36, 3) := by decide +kernel
theorem dX10_treatyInForce_15 : decode cX10_treatyInForce 15 = .ok (.iload_n 2, 1) := by decide +kernel
theorem dX10_treatyInForce_16 : decode cX10_treatyInForce 16 = .ok (.aaload, 1) := by decide +kernel
theorem dX10_treatyInForce_17 : decode cX10_treatyInForce 17 = .ok (.getfield 337, 3) := by decide +kernel
theorem dX10_treatyInForce_20 : decode cX10_treatyInForce 20 = .ok (.iload_n 1, 1) := by decide +kernel
theorem dX10_treatyInForce_21 : decode cX10_treatyInForce 21 = .ok (.if_icmp .gt 10, 3) := by decide +kernel
theorem dX10_treatyInForce_24 : decode cX10_treatyInForce 24 = .ok (.aload_n 0, 1) := by decide +kernel
theorem dX10_treatyInForce_25 : decode cX10_treatyInForce 25 = .ok (.getfield 36, 3) := by decide +kernel
theorem dX10_treatyInForce_28 : decode cX10_treatyInForce 28 = .ok (.iload_n 2, 1) := by decide +kernel
theorem dX10_treatyInForce_29 : decode cX10_treatyInForce 29 = .ok (.aaload, 1) := by decide +kernel
theorem dX10_treatyInForce_30 : decode cX10_treatyInForce 30 = .ok (.areturn, 1) := by decide +kernel
theorem dX10_treatyInForce_31 : decode cX10_treatyInForce 31 = .ok (.iinc 2 (-1), 3) := by decide +kernel
theorem dX10_treatyInForce_34 : decode cX10_treatyInForce 34 = .ok (.goto (-27), 3) := by decide +kernel
theorem dX10_treatyInForce_37 : decode cX10_treatyInForce 37 = .ok (.aconst_null, 1) := by decide +kernel
theorem dX10_treatyInForce_38 : decode cX10_treatyInForce 38 = .ok (.areturn, 1) := by decide +kernel
theorem dX10_fleetBits_0 : decode cX10_fleetBits 0 = .ok (.iconst 0, 1) := by decide +kernel
theorem dX10_fleetBits_1 : decode cX10_fleetBits 1 = .ok (.istore_n 3, 1) := by decide +kernel
theorem dX10_fleetBits_2 : decode cX10_fleetBits 2 = .ok (.iconst 0, 1) := by decide +kernel
theorem dX10_fleetBits_3 : decode cX10_fleetBits 3 = .ok (.istore 4, 2) := by decide +kernel
theorem dX10_fleetBits_5 : decode cX10_fleetBits 5 = .ok (.iload 4, 2) := by decide +kernel
theorem dX10_fleetBits_7 : decode cX10_fleetBits 7 = .ok (.aload_n 0, 1) := by decide +kernel
theorem dX10_fleetBits_8 : decode cX10_fleetBits 8 = .ok (.getfield 86, 3) := by decide +kernel
theorem dX10_fleetBits_11 : decode cX10_fleetBits 11 = .ok (.if_icmp .ge 39, 3) := by decide +kernel
theorem dX10_fleetBits_14 : decode cX10_fleetBits 14 = .ok (.aload_n 0, 1) := by decide +kernel
theorem dX10_fleetBits_15 : decode cX10_fleetBits 15 = .ok (.getfield 18, 3) := by decide +kernel
theorem dX10_fleetBits_18 : decode cX10_fleetBits 18 = .ok (.iload_n 1, 1) := by decide +kernel
theorem dX10_fleetBits_19 : decode cX10_fleetBits 19 = .ok (.aload_n 0, 1) := by decide +kernel
theorem dX10_fleetBits_20 : decode cX10_fleetBits 20 = .ok (.getfield 11, 3) := by decide +kernel
theorem dX10_fleetBits_23 : decode cX10_fleetBits 23 = .ok (.iload 4, 2) := by decide +kernel
theorem dX10_fleetBits_25 : decode cX10_fleetBits 25 = .ok (.aaload, 1) := by decide +kernel
theorem dX10_fleetBits_26 : decode cX10_fleetBits 26 = .ok (.iconst 2, 1) := by decide +kernel
theorem dX10_fleetBits_27 : decode cX10_fleetBits 27 = .ok (.iload_n 2, 1) := by decide +kernel
theorem dX10_fleetBits_28 : decode cX10_fleetBits 28 = .ok (.invokevirtual 115, 3) := by decide +kernel
theorem dX10_fleetBits_31 : decode cX10_fleetBits 31 = .ok (.invokevirtual 338, 3) := by decide +kernel
theorem dX10_fleetBits_34 : decode cX10_fleetBits 34 = .ok (.ifCond .eq 10, 3) := by decide +kernel
theorem dX10_fleetBits_37 : decode cX10_fleetBits 37 = .ok (.iload_n 3, 1) := by decide +kernel
theorem dX10_fleetBits_38 : decode cX10_fleetBits 38 = .ok (.iconst 1, 1) := by decide +kernel
theorem dX10_fleetBits_39 : decode cX10_fleetBits 39 = .ok (.iload 4, 2) := by decide +kernel
theorem dX10_fleetBits_41 : decode cX10_fleetBits 41 = .ok (.ishl, 1) := by decide +kernel
theorem dX10_fleetBits_42 : decode cX10_fleetBits 42 = .ok (.ior, 1) := by decide +kernel
theorem dX10_fleetBits_43 : decode cX10_fleetBits 43 = .ok (.istore_n 3, 1) := by decide +kernel
theorem dX10_fleetBits_44 : decode cX10_fleetBits 44 = .ok (.iinc 4 1, 3) := by decide +kernel
theorem dX10_fleetBits_47 : decode cX10_fleetBits 47 = .ok (.goto (-42), 3) := by decide +kernel
theorem dX10_fleetBits_50 : decode cX10_fleetBits 50 = .ok (.iload_n 3, 1) := by decide +kernel
theorem dX10_fleetBits_51 : decode cX10_fleetBits 51 = .ok (.ireturn, 1) := by decide +kernel
theorem dX10_isInLast_0 : decode cX10_isInLast 0 = .ok (.aload_n 0, 1) := by decide +kernel
theorem dX10_isInLast_1 : decode cX10_isInLast 1 = .ok (.getfield 79, 3) := by decide +kernel
theorem dX10_isInLast_4 : decode cX10_isInLast 4 = .ok (.iload_n 2, 1) := by decide +kernel
theorem dX10_isInLast_5 : decode cX10_isInLast 5 = .ok (.isub, 1) := by decide +kernel
theorem dX10_isInLast_6 : decode cX10_isInLast 6 = .ok (.iload_n 1, 1) := by decide +kernel
theorem dX10_isInLast_7 : decode cX10_isInLast 7 = .ok (.if_icmp .ge 7, 3) := by decide +kernel
theorem dX10_isInLast_10 : decode cX10_isInLast 10 = .ok (.iconst 1, 1) := by decide +kernel
theorem dX10_isInLast_11 : decode cX10_isInLast 11 = .ok (.goto 4, 3) := by decide +kernel
theorem dX10_isInLast_14 : decode cX10_isInLast 14 = .ok (.iconst 0, 1) := by decide +kernel
theorem dX10_isInLast_15 : decode cX10_isInLast 15 = .ok (.ireturn, 1) := by decide +kernel
theorem dX10_tallyUp_0 : decode cX10_tallyUp 0 = .ok (.aload_n 0, 1) := by decide +kernel
theorem dX10_tallyUp_1 : decode cX10_tallyUp 1 = .ok (.getfield 61, 3) := by decide +kernel
theorem dX10_tallyUp_4 : decode cX10_tallyUp 4 = .ok (.invokevirtual 341, 3) := by decide +kernel
theorem dX10_tallyUp_7 : decode cX10_tallyUp 7 = .ok (.iconst 0, 1) := by decide +kernel
theorem dX10_tallyUp_8 : decode cX10_tallyUp 8 = .ok (.istore_n 3, 1) := by decide +kernel
theorem dX10_tallyUp_9 : decode cX10_tallyUp 9 = .ok (.iload_n 3, 1) := by decide +kernel
theorem dX10_tallyUp_10 : decode cX10_tallyUp 10 = .ok (.aload_n 0, 1) := by decide +kernel
theorem dX10_tallyUp_11 : decode cX10_tallyUp 11 = .ok (.getfield 210, 3) := by decide +kernel
theorem dX10_tallyUp_14 : decode cX10_tallyUp 14 = .ok (.if_icmp .ge 51, 3) := by decide +kernel
theorem dX10_tallyUp_17 : decode cX10_tallyUp 17 = .ok (.aload_n 0, 1) := by decide +kernel
theorem dX10_tallyUp_18 : decode cX10_tallyUp 18 = .ok (.getfield 30, 3) := by decide +kernel
theorem dX10_tallyUp_21 : decode cX10_tallyUp 21 = .ok (.iload_n 3, 1) := by decide +kernel
theorem dX10_tallyUp_22 : decode cX10_tallyUp 22 = .ok (.aaload, 1) := by decide +kernel
theorem dX10_tallyUp_23 : decode cX10_tallyUp 23 = .ok (.astore 4, 2) := by decide +kernel
theorem dX10_tallyUp_25 : decode cX10_tallyUp 25 = .ok (.aload_n 0, 1) := by decide +kernel
theorem dX10_tallyUp_26 : decode cX10_tallyUp 26 = .ok (.sipush 1095, 3) := by decide +kernel
theorem dX10_tallyUp_29 : decode cX10_tallyUp 29 = .ok (.aload 4, 2) := by decide +kernel
theorem dX10_tallyUp_31 : decode cX10_tallyUp 31 = .ok (.getfield 236, 3) := by decide +kernel
theorem dX10_tallyUp_34 : decode cX10_tallyUp 34 = .ok (.invokevirtual 344, 3) := by decide +kernel
theorem dX10_tallyUp_37 : decode cX10_tallyUp 37 = .ok (.ifCond .eq 22, 3) := by decide +kernel
theorem dX10_tallyUp_40 : decode cX10_tallyUp 40 = .ok (.aload_n 0, 1) := by decide +kernel
theorem dX10_tallyUp_41 : decode cX10_tallyUp 41 = .ok (.getfield 61, 3) := by decide +kernel
theorem dX10_tallyUp_44 : decode cX10_tallyUp 44 = .ok (.aload 4, 2) := by decide +kernel
theorem dX10_tallyUp_46 : decode cX10_tallyUp 46 = .ok (.iload_n 1, 1) := by decide +kernel
theorem dX10_tallyUp_47 : decode cX10_tallyUp 47 = .ok (.iload_n 2, 1) := by decide +kernel
theorem dX10_tallyUp_48 : decode cX10_tallyUp 48 = .ok (.invokestatic 347, 3) := by decide +kernel
theorem dX10_tallyUp_51 : decode cX10_tallyUp 51 = .ok (.aload 4, 2) := by decide +kernel
theorem dX10_tallyUp_53 : decode cX10_tallyUp 53 = .ok (.getfield 242, 3) := by decide +kernel
theorem dX10_tallyUp_56 : decode cX10_tallyUp 56 = .ok (.invokevirtual 351, 3) := by decide +kernel
theorem dX10_tallyUp_59 : decode cX10_tallyUp 59 = .ok (.iinc 3 1, 3) := by decide +kernel
theorem dX10_tallyUp_62 : decode cX10_tallyUp 62 = .ok (.goto (-53), 3) := by decide +kernel
theorem dX10_tallyUp_65 : decode cX10_tallyUp 65 = .ok (.return_, 1) := by decide +kernel
theorem dX10_isOfGroup_0 : decode cX10_isOfGroup 0 = .ok (.aload_n 0, 1) := by decide +kernel
theorem dX10_isOfGroup_1 : decode cX10_isOfGroup 1 = .ok (.getfield 230, 3) := by decide +kernel
theorem dX10_isOfGroup_4 : decode cX10_isOfGroup 4 = .ok (.getfield 164, 3) := by decide +kernel
theorem dX10_isOfGroup_7 : decode cX10_isOfGroup 7 = .ok (.astore_n 3, 1) := by decide +kernel
theorem dX10_isOfGroup_8 : decode cX10_isOfGroup 8 = .ok (.iload_n 1, 1) := by decide +kernel
theorem dX10_isOfGroup_9 : decode cX10_isOfGroup 9 = .ok (.ifCond .ne 22, 3) := by decide +kernel
theorem dX10_isOfGroup_12 : decode cX10_isOfGroup 12 = .ok (.aload_n 3, 1) := by decide +kernel
theorem dX10_isOfGroup_13 : decode cX10_isOfGroup 13 = .ok (.iconst 1, 1) := by decide +kernel
theorem dX10_isOfGroup_14 : decode cX10_isOfGroup 14 = .ok (.aload_n 0, 1) := by decide +kernel
theorem dX10_isOfGroup_15 : decode cX10_isOfGroup 15 = .ok (.getfield 236, 3) := by decide +kernel
theorem dX10_isOfGroup_18 : decode cX10_isOfGroup 18 = .ok (.invokevirtual 115, 3) := by decide +kernel
theorem dX10_isOfGroup_21 : decode cX10_isOfGroup 21 = .ok (.iload_n 2, 1) := by decide +kernel
theorem dX10_isOfGroup_22 : decode cX10_isOfGroup 22 = .ok (.if_icmp .ne 7, 3) := by decide +kernel
theorem dX10_isOfGroup_25 : decode cX10_isOfGroup 25 = .ok (.iconst 1, 1) := by decide +kernel
theorem dX10_isOfGroup_26 : decode cX10_isOfGroup 26 = .ok (.goto 4, 3) := by decide +kernel
theorem dX10_isOfGroup_29 : decode cX10_isOfGroup 29 = .ok (.iconst 0, 1) := by decide +kernel
theorem dX10_isOfGroup_30 : decode cX10_isOfGroup 30 = .ok (.ireturn, 1) := by decide +kernel
theorem dX10_isOfGroup_31 : decode cX10_isOfGroup 31 = .ok (.iload_n 1, 1) := by decide +kernel
theorem dX10_isOfGroup_32 : decode cX10_isOfGroup 32 = .ok (.iconst 2, 1) := by decide +kernel
theorem dX10_isOfGroup_33 : decode cX10_isOfGroup 33 = .ok (.if_icmp .eq 11, 3) := by decide +kernel
theorem dX10_isOfGroup_36 : decode cX10_isOfGroup 36 = .ok (.aload_n 3, 1) := by decide +kernel
theorem dX10_isOfGroup_37 : decode cX10_isOfGroup 37 = .ok (.getfield 355, 3) := by decide +kernel
theorem dX10_isOfGroup_40 : decode cX10_isOfGroup 40 = .ok (.iload_n 2, 1) := by decide +kernel
theorem dX10_isOfGroup_41 : decode cX10_isOfGroup 41 = .ok (.if_icmp .ne 7, 3) := by decide +kernel
theorem dX10_isOfGroup_44 : decode cX10_isOfGroup 44 = .ok (.iconst 1, 1) := by decide +kernel
theorem dX10_isOfGroup_45 : decode cX10_isOfGroup 45 = .ok (.goto 4, 3) := by decide +kernel
theorem dX10_isOfGroup_48 : decode cX10_isOfGroup 48 = .ok (.iconst 0, 1) := by decide +kernel
theorem dX10_isOfGroup_49 : decode cX10_isOfGroup 49 = .ok (.ireturn, 1) := by decide +kernel
theorem dX10_isDarkGroup_0 : decode cX10_isDarkGroup 0 = .ok (.aload_n 0, 1) := by decide +kernel
theorem dX10_isDarkGroup_1 : decode cX10_isDarkGroup 1 = .ok (.iload_n 1, 1) := by decide +kernel
theorem dX10_isDarkGroup_2 : decode cX10_isDarkGroup 2 = .ok (.iload_n 2, 1) := by decide +kernel
theorem dX10_isDarkGroup_3 : decode cX10_isDarkGroup 3 = .ok (.invokevirtual 248, 3) := by decide +kernel
theorem dX10_isDarkGroup_6 : decode cX10_isDarkGroup 6 = .ok (.aload_n 0, 1) := by decide +kernel
theorem dX10_isDarkGroup_7 : decode cX10_isDarkGroup 7 = .ok (.getfield 61, 3) := by decide +kernel
theorem dX10_isDarkGroup_10 : decode cX10_isDarkGroup 10 = .ok (.invokevirtual 255, 3) := by decide +kernel
theorem dX10_isDarkGroup_13 : decode cX10_isDarkGroup 13 = .ok (.ireturn, 1) := by decide +kernel
theorem dX10_isFlagDark_0 : decode cX10_isFlagDark 0 = .ok (.aload_n 0, 1) := by decide +kernel
theorem dX10_isFlagDark_1 : decode cX10_isFlagDark 1 = .ok (.iconst 0, 1) := by decide +kernel
theorem dX10_isFlagDark_2 : decode cX10_isFlagDark 2 = .ok (.aload_n 1, 1) := by decide +kernel
theorem dX10_isFlagDark_3 : decode cX10_isFlagDark 3 = .ok (.iconst 1, 1) := by decide +kernel
theorem dX10_isFlagDark_4 : decode cX10_isFlagDark 4 = .ok (.aload_n 0, 1) := by decide +kernel
theorem dX10_isFlagDark_5 : decode cX10_isFlagDark 5 = .ok (.getfield 79, 3) := by decide +kernel
theorem dX10_isFlagDark_8 : decode cX10_isFlagDark 8 = .ok (.invokevirtual 115, 3) := by decide +kernel
theorem dX10_isFlagDark_11 : decode cX10_isFlagDark 11 = .ok (.invokevirtual 358, 3) := by decide +kernel
theorem dX10_isFlagDark_14 : decode cX10_isFlagDark 14 = .ok (.ireturn, 1) := by decide +kernel
theorem dX10_riskOf_0 : decode cX10_riskOf 0 = .ok (.iconst 1, 1) := by decide +kernel
theorem dX10_riskOf_1 : decode cX10_riskOf 1 = .ok (.istore_n 2, 1) := by decide +kernel
theorem dX10_riskOf_2 : decode cX10_riskOf 2 = .ok (.aload_n 0, 1) := by decide +kernel
theorem dX10_riskOf_3 : decode cX10_riskOf 3 = .ok (.getfield 79, 3) := by decide +kernel
theorem dX10_riskOf_6 : decode cX10_riskOf 6 = .ok (.aload_n 1, 1) := by decide +kernel
theorem dX10_riskOf_7 : decode cX10_riskOf 7 = .ok (.getfield 361, 3) := by decide +kernel
theorem dX10_riskOf_10 : decode cX10_riskOf 10 = .ok (.isub, 1) := by decide +kernel
theorem dX10_riskOf_11 : decode cX10_riskOf 11 = .ok (.sipush 5475, 3) := by decide +kernel
theorem dX10_riskOf_14 : decode cX10_riskOf 14 = .ok (.if_icmp .lt 6, 3) := by decide +kernel
theorem dX10_riskOf_17 : decode cX10_riskOf 17 = .ok (.iinc 2 2, 3) := by decide +kernel
theorem dX10_riskOf_20 : decode cX10_riskOf 20 = .ok (.aload_n 0, 1) := by decide +kernel
theorem dX10_riskOf_21 : decode cX10_riskOf 21 = .ok (.aload_n 1, 1) := by decide +kernel
theorem dX10_riskOf_22 : decode cX10_riskOf 22 = .ok (.invokevirtual 364, 3) := by decide +kernel
theorem dX10_riskOf_25 : decode cX10_riskOf 25 = .ok (.ifCond .eq 6, 3) := by decide +kernel
theorem dX10_riskOf_28 : decode cX10_riskOf 28 = .ok (.iinc 2 3, 3) := by decide +kernel
theorem dX10_riskOf_31 : decode cX10_riskOf 31 = .ok (.aload_n 0, 1) := by decide +kernel
theorem dX10_riskOf_32 : decode cX10_riskOf 32 = .ok (.iconst 1, 1) := by decide +kernel
theorem dX10_riskOf_33 : decode cX10_riskOf 33 = .ok (.aload_n 1, 1) := by decide +kernel
theorem dX10_riskOf_34 : decode cX10_riskOf 34 = .ok (.getfield 355, 3) := by decide +kernel
theorem dX10_riskOf_37 : decode cX10_riskOf 37 = .ok (.invokevirtual 358, 3) := by decide +kernel
theorem dX10_riskOf_40 : decode cX10_riskOf 40 = .ok (.ifCond .eq 6, 3) := by decide +kernel
theorem dX10_riskOf_43 : decode cX10_riskOf 43 = .ok (.iinc 2 2, 3) := by decide +kernel
theorem dX10_riskOf_46 : decode cX10_riskOf 46 = .ok (.iload_n 2, 1) := by decide +kernel
theorem dX10_riskOf_47 : decode cX10_riskOf 47 = .ok (.iconst 4, 1) := by decide +kernel
theorem dX10_riskOf_48 : decode cX10_riskOf 48 = .ok (.aload_n 0, 1) := by decide +kernel
theorem dX10_riskOf_49 : decode cX10_riskOf 49 = .ok (.aload_n 1, 1) := by decide +kernel
theorem dX10_riskOf_50 : decode cX10_riskOf 50 = .ok (.invokevirtual 368, 3) := by decide +kernel
theorem dX10_riskOf_53 : decode cX10_riskOf 53 = .ok (.invokestatic 371, 3) := by decide +kernel
theorem dX10_riskOf_56 : decode cX10_riskOf 56 = .ok (.iadd, 1) := by decide +kernel
theorem dX10_riskOf_57 : decode cX10_riskOf 57 = .ok (.istore_n 2, 1) := by decide +kernel
theorem dX10_riskOf_58 : decode cX10_riskOf 58 = .ok (.aload_n 1, 1) := by decide +kernel
theorem dX10_riskOf_59 : decode cX10_riskOf 59 = .ok (.getfield 219, 3) := by decide +kernel
theorem dX10_riskOf_62 : decode cX10_riskOf 62 = .ok (.ifCond .lt 10, 3) := by decide +kernel
theorem dX10_riskOf_65 : decode cX10_riskOf 65 = .ok (.aload_n 1, 1) := by decide +kernel
theorem dX10_riskOf_66 : decode cX10_riskOf 66 = .ok (.getfield 219, 3) := by decide +kernel
theorem dX10_riskOf_69 : decode cX10_riskOf 69 = .ok (.goto 7, 3) := by decide +kernel
theorem dX10_riskOf_72 : decode cX10_riskOf 72 = .ok (.aload_n 1, 1) := by decide +kernel
theorem dX10_riskOf_73 : decode cX10_riskOf 73 = .ok (.getfield 361, 3) := by decide +kernel
theorem dX10_riskOf_76 : decode cX10_riskOf 76 = .ok (.istore_n 3, 1) := by decide +kernel
theorem dX10_riskOf_77 : decode cX10_riskOf 77 = .ok (.iload_n 2, 1) := by decide +kernel
theorem dX10_riskOf_78 : decode cX10_riskOf 78 = .ok (.iconst 5, 1) := by decide +kernel
theorem dX10_riskOf_79 : decode cX10_riskOf 79 = .ok (.aload_n 0, 1) := by decide +kernel
theorem dX10_riskOf_80 : decode cX10_riskOf 80 = .ok (.getfield 79, 3) := by decide +kernel
theorem dX10_riskOf_83 : decode cX10_riskOf 83 = .ok (.iload_n 3, 1) := by decide +kernel
theorem dX10_riskOf_84 : decode cX10_riskOf 84 = .ok (.isub, 1) := by decide +kernel
theorem dX10_riskOf_85 : decode cX10_riskOf 85 = .ok (.sipush 365, 3) := by decide +kernel
theorem dX10_riskOf_88 : decode cX10_riskOf 88 = .ok (.idiv, 1) := by decide +kernel
theorem dX10_riskOf_89 : decode cX10_riskOf 89 = .ok (.invokestatic 371, 3) := by decide +kernel
theorem dX10_riskOf_92 : decode cX10_riskOf 92 = .ok (.iadd, 1) := by decide +kernel
theorem dX10_riskOf_93 : decode cX10_riskOf 93 = .ok (.istore_n 2, 1) := by decide +kernel
theorem dX10_riskOf_94 : decode cX10_riskOf 94 = .ok (.aload_n 1, 1) := by decide +kernel
theorem dX10_riskOf_95 : decode cX10_riskOf 95 = .ok (.getfield 100, 3) := by decide +kernel
theorem dX10_riskOf_98 : decode cX10_riskOf 98 = .ok (.iconst 1, 1) := by decide +kernel
theorem dX10_riskOf_99 : decode cX10_riskOf 99 = .ok (.invokestatic 103, 3) := by decide +kernel
theorem dX10_riskOf_102 : decode cX10_riskOf 102 = .ok (.ifCond .eq 9, 3) := by decide +kernel
theorem dX10_riskOf_105 : decode cX10_riskOf 105 = .ok (.iconst 2, 1) := by decide +kernel
theorem dX10_riskOf_106 : decode cX10_riskOf 106 = .ok (.iload_n 2, 1) := by decide +kernel
theorem dX10_riskOf_107 : decode cX10_riskOf 107 = .ok (.imul, 1) := by decide +kernel
theorem dX10_riskOf_108 : decode cX10_riskOf 108 = .ok (.goto 4, 3) := by decide +kernel
theorem dX10_riskOf_111 : decode cX10_riskOf 111 = .ok (.iload_n 2, 1) := by decide +kernel
theorem dX10_riskOf_112 : decode cX10_riskOf 112 = .ok (.ireturn, 1) := by decide +kernel
theorem dX10_holdsInFleet_0 : decode cX10_holdsInFleet 0 = .ok (.aload_n 0, 1) := by decide +kernel
theorem dX10_holdsInFleet_1 : decode cX10_holdsInFleet 1 = .ok (.aload_n 1, 1) := by decide +kernel
theorem dX10_holdsInFleet_2 : decode cX10_holdsInFleet 2 = .ok (.iconst 2, 1) := by decide +kernel
theorem dX10_holdsInFleet_3 : decode cX10_holdsInFleet 3 = .ok (.aload_n 0, 1) := by decide +kernel
theorem dX10_holdsInFleet_4 : decode cX10_holdsInFleet 4 = .ok (.getfield 79, 3) := by decide +kernel
theorem dX10_holdsInFleet_7 : decode cX10_holdsInFleet 7 = .ok (.invokevirtual 115, 3) := by decide +kernel
theorem dX10_holdsInFleet_10 : decode cX10_holdsInFleet 10 = .ok (.aload_n 0, 1) := by decide +kernel
theorem dX10_holdsInFleet_11 : decode cX10_holdsInFleet 11 = .ok (.getfield 79, 3) := by decide +kernel
theorem dX10_holdsInFleet_14 : decode cX10_holdsInFleet 14 = .ok (.invokevirtual 130, 3) := by decide +kernel
theorem dX10_holdsInFleet_17 : decode cX10_holdsInFleet 17 = .ok (.istore_n 2, 1) := by decide +kernel
theorem dX10_holdsInFleet_18 : decode cX10_holdsInFleet 18 = .ok (.iconst 0, 1) := by decide +kernel
theorem dX10_holdsInFleet_19 : decode cX10_holdsInFleet 19 = .ok (.istore_n 3, 1) := by decide +kernel
theorem dX10_holdsInFleet_20 : decode cX10_holdsInFleet 20 = .ok (.iconst 0, 1) := by decide +kernel
theorem dX10_holdsInFleet_21 : decode cX10_holdsInFleet 21 = .ok (.istore 4, 2) := by decide +kernel
theorem dX10_holdsInFleet_23 : decode cX10_holdsInFleet 23 = .ok (.iload 4, 2) := by decide +kernel
theorem dX10_holdsInFleet_25 : decode cX10_holdsInFleet 25 = .ok (.aload_n 0, 1) := by decide +kernel
theorem dX10_holdsInFleet_26 : decode cX10_holdsInFleet 26 = .ok (.getfield 210, 3) := by decide +kernel
theorem dX10_holdsInFleet_29 : decode cX10_holdsInFleet 29 = .ok (.if_icmp .ge 85, 3) := by decide +kernel
theorem dX10_holdsInFleet_32 : decode cX10_holdsInFleet 32 = .ok (.aload_n 0, 1) := by decide +kernel
theorem dX10_holdsInFleet_33 : decode cX10_holdsInFleet 33 = .ok (.getfield 30, 3) := by decide +kernel
theorem dX10_holdsInFleet_36 : decode cX10_holdsInFleet 36 = .ok (.iload 4, 2) := by decide +kernel
theorem dX10_holdsInFleet_38 : decode cX10_holdsInFleet 38 = .ok (.aaload, 1) := by decide +kernel
theorem dX10_holdsInFleet_39 : decode cX10_holdsInFleet 39 = .ok (.astore 5, 2) := by decide +kernel
theorem dX10_holdsInFleet_41 : decode cX10_holdsInFleet 41 = .ok (.aload 5, 2) := by decide +kernel
theorem dX10_holdsInFleet_43 : decode cX10_holdsInFleet 43 = .ok (.getfield 230, 3) := by decide +kernel
theorem dX10_holdsInFleet_46 : decode cX10_holdsInFleet 46 = .ok (.getfield 164, 3) := by decide +kernel
theorem dX10_holdsInFleet_49 : decode cX10_holdsInFleet 49 = .ok (.astore 6, 2) := by decide +kernel
theorem dX10_holdsInFleet_51 : decode cX10_holdsInFleet 51 = .ok (.aload 5, 2) := by decide +kernel
theorem dX10_holdsInFleet_53 : decode cX10_holdsInFleet 53 = .ok (.getfield 242, 3) := by decide +kernel
theorem dX10_holdsInFleet_56 : decode cX10_holdsInFleet 56 = .ok (.ifCond .eq 28, 3) := by decide +kernel
theorem dX10_holdsInFleet_59 : decode cX10_holdsInFleet 59 = .ok (.aload_n 0, 1) := by decide +kernel
theorem dX10_holdsInFleet_60 : decode cX10_holdsInFleet 60 = .ok (.sipush 365, 3) := by decide +kernel
theorem dX10_holdsInFleet_63 : decode cX10_holdsInFleet 63 = .ok (.aload 5, 2) := by decide +kernel
theorem dX10_holdsInFleet_65 : decode cX10_holdsInFleet 65 = .ok (.getfield 236, 3) := by decide +kernel
theorem dX10_holdsInFleet_68 : decode cX10_holdsInFleet 68 = .ok (.invokevirtual 344, 3) := by decide +kernel
theorem dX10_holdsInFleet_71 : decode cX10_holdsInFleet 71 = .ok (.ifCond .eq 13, 3) := by decide +kernel
theorem dX10_holdsInFleet_74 : decode cX10_holdsInFleet 74 = .ok (.aload 6, 2) := by decide +kernel
theorem dX10_holdsInFleet_76 : decode cX10_holdsInFleet 76 = .ok (.aload_n 1, 1) := by decide +kernel
theorem dX10_holdsInFleet_77 : decode cX10_holdsInFleet 77 = .ok (.if_acmp .eq 7, 3) := by decide +kernel
theorem dX10_holdsInFleet_80 : decode cX10_holdsInFleet 80 = .ok (.iconst 1, 1) := by decide +kernel
theorem dX10_holdsInFleet_81 : decode cX10_holdsInFleet 81 = .ok (.goto 4, 3) := by decide +kernel
theorem dX10_holdsInFleet_84 : decode cX10_holdsInFleet 84 = .ok (.iconst 0, 1) := by decide +kernel
theorem dX10_holdsInFleet_85 : decode cX10_holdsInFleet 85 = .ok (.istore 7, 2) := by decide +kernel
theorem dX10_holdsInFleet_87 : decode cX10_holdsInFleet 87 = .ok (.iload 7, 2) := by decide +kernel
theorem dX10_holdsInFleet_89 : decode cX10_holdsInFleet 89 = .ok (.ifCond .eq 19, 3) := by decide +kernel
theorem dX10_holdsInFleet_92 : decode cX10_holdsInFleet 92 = .ok (.iload_n 2, 1) := by decide +kernel
theorem dX10_holdsInFleet_93 : decode cX10_holdsInFleet 93 = .ok (.aload 6, 2) := by decide +kernel
theorem dX10_holdsInFleet_95 : decode cX10_holdsInFleet 95 = .ok (.getfield 168, 3) := by decide +kernel
theorem dX10_holdsInFleet_98 : decode cX10_holdsInFleet 98 = .ok (.ishr, 1) := by decide +kernel
theorem dX10_holdsInFleet_99 : decode cX10_holdsInFleet 99 = .ok (.iconst 1, 1) := by decide +kernel
theorem dX10_holdsInFleet_100 : decode cX10_holdsInFleet 100 = .ok (.iand, 1) := by decide +kernel
theorem dX10_holdsInFleet_101 : decode cX10_holdsInFleet 101 = .ok (.iconst 1, 1) := by decide +kernel
theorem dX10_holdsInFleet_102 : decode cX10_holdsInFleet 102 = .ok (.if_icmp .ne 6, 3) := by decide +kernel
theorem dX10_holdsInFleet_105 : decode cX10_holdsInFleet 105 = .ok (.iinc 3 1, 3) := by decide +kernel
theorem dX10_holdsInFleet_108 : decode cX10_holdsInFleet 108 = .ok (.iinc 4 1, 3) := by decide +kernel
theorem dX10_holdsInFleet_111 : decode cX10_holdsInFleet 111 = .ok (.goto (-88), 3) := by decide +kernel
theorem dX10_holdsInFleet_114 : decode cX10_holdsInFleet 114 = .ok (.iload_n 3, 1) := by decide +kernel
theorem dX10_holdsInFleet_115 : decode cX10_holdsInFleet 115 = .ok (.ireturn, 1) := by decide +kernel
theorem dX10_gatherBoarding_0 : decode cX10_gatherBoarding 0 = .ok (.aload_n 0, 1) := by decide +kernel
theorem dX10_gatherBoarding_1 : decode cX10_gatherBoarding 1 = .ok (.getfield 68, 3) := by decide +kernel
theorem dX10_gatherBoarding_4 : decode cX10_gatherBoarding 4 = .ok (.iconst 0, 1) := by decide +kernel
theorem dX10_gatherBoarding_5 : decode cX10_gatherBoarding 5 = .ok (.putfield 376, 3) := by decide +kernel
theorem dX10_gatherBoarding_8 : decode cX10_gatherBoarding 8 = .ok (.iconst 0, 1) := by decide +kernel
theorem dX10_gatherBoarding_9 : decode cX10_gatherBoarding 9 = .ok (.istore_n 2, 1) := by decide +kernel
theorem dX10_gatherBoarding_10 : decode cX10_gatherBoarding 10 = .ok (.iload_n 2, 1) := by decide +kernel
theorem dX10_gatherBoarding_11 : decode cX10_gatherBoarding 11 = .ok (.aload_n 0, 1) := by decide +kernel
theorem dX10_gatherBoarding_12 : decode cX10_gatherBoarding 12 = .ok (.getfield 86, 3) := by decide +kernel
theorem dX10_gatherBoarding_15 : decode cX10_gatherBoarding 15 = .ok (.if_icmp .ge 67, 3) := by decide +kernel
theorem dX10_gatherBoarding_18 : decode cX10_gatherBoarding 18 = .ok (.aload_n 0, 1) := by decide +kernel
theorem dX10_gatherBoarding_19 : decode cX10_gatherBoarding 19 = .ok (.getfield 68, 3) := by decide +kernel
theorem dX10_gatherBoarding_22 : decode cX10_gatherBoarding 22 = .ok (.getfield 376, 3) := by decide +kernel
theorem dX10_gatherBoarding_25 : decode cX10_gatherBoarding 25 = .ok (.bipush 8, 2) := by decide +kernel
theorem dX10_gatherBoarding_27 : decode cX10_gatherBoarding 27 = .ok (.if_icmp .ge 55, 3) := by decide +kernel
theorem dX10_gatherBoarding_30 : decode cX10_gatherBoarding 30 = .ok (.aload_n 0, 1) := by decide +kernel
theorem dX10_gatherBoarding_31 : decode cX10_gatherBoarding 31 = .ok (.getfield 11, 3) := by decide +kernel
theorem dX10_gatherBoarding_34 : decode cX10_gatherBoarding 34 = .ok (.iload_n 2, 1) := by decide +kernel
theorem dX10_gatherBoarding_35 : decode cX10_gatherBoarding 35 = .ok (.aaload, 1) := by decide +kernel
theorem dX10_gatherBoarding_36 : decode cX10_gatherBoarding 36 = .ok (.astore_n 3, 1) := by decide +kernel
theorem dX10_gatherBoarding_37 : decode cX10_gatherBoarding 37 = .ok (.aload_n 3, 1) := by decide +kernel
theorem dX10_gatherBoarding_38 : decode cX10_gatherBoarding 38 = .ok (.getfield 133, 3) := by decide +kernel
theorem dX10_gatherBoarding_41 : decode cX10_gatherBoarding 41 = .ok (.ifnull 35, 3) := by decide +kernel
theorem dX10_gatherBoarding_44 : decode cX10_gatherBoarding 44 = .ok (.aload_n 3, 1) := by decide +kernel
theorem dX10_gatherBoarding_45 : decode cX10_gatherBoarding 45 = .ok (.getfield 133, 3) := by decide +kernel
theorem dX10_gatherBoarding_48 : decode cX10_gatherBoarding 48 = .ok (.getfield 169, 3) := by decide +kernel
theorem dX10_gatherBoarding_51 : decode cX10_gatherBoarding 51 = .ok (.iload_n 1, 1) := by decide +kernel
theorem dX10_gatherBoarding_52 : decode cX10_gatherBoarding 52 = .ok (.if_icmp .ne 24, 3) := by decide +kernel
theorem dX10_gatherBoarding_55 : decode cX10_gatherBoarding 55 = .ok (.aload_n 0, 1) := by decide +kernel
theorem dX10_gatherBoarding_56 : decode cX10_gatherBoarding 56 = .ok (.getfield 68, 3) := by decide +kernel
theorem dX10_gatherBoarding_59 : decode cX10_gatherBoarding 59 = .ok (.iload_n 2, 1) := by decide +kernel
theorem dX10_gatherBoarding_60 : decode cX10_gatherBoarding 60 = .ok (.getstatic 106, 3) := by decide +kernel
theorem dX10_gatherBoarding_63 : decode cX10_gatherBoarding 63 = .ok (.aload_n 3, 1) := by decide +kernel
theorem dX10_gatherBoarding_64 : decode cX10_gatherBoarding 64 = .ok (.getfield 100, 3) := by decide +kernel
theorem dX10_gatherBoarding_67 : decode cX10_gatherBoarding 67 = .ok (.iaload, 1) := by decide +kernel
theorem dX10_gatherBoarding_68 : decode cX10_gatherBoarding 68 = .ok (.aload_n 0, 1) := by decide +kernel
theorem dX10_gatherBoarding_69 : decode cX10_gatherBoarding 69 = .ok (.aload_n 3, 1) := by decide +kernel
theorem dX10_gatherBoarding_70 : decode cX10_gatherBoarding 70 = .ok (.invokevirtual 258, 3) := by decide +kernel
theorem dX10_gatherBoarding_73 : decode cX10_gatherBoarding 73 = .ok (.invokevirtual 379, 3) := by decide +kernel
theorem dX10_gatherBoarding_76 : decode cX10_gatherBoarding 76 = .ok (.iinc 2 1, 3) := by decide +kernel
theorem dX10_gatherBoarding_79 : decode cX10_gatherBoarding 79 = .ok (.goto (-69), 3) := by decide +kernel
theorem dX10_gatherBoarding_82 : decode cX10_gatherBoarding 82 = .ok (.return_, 1) := by decide +kernel
theorem dX10_banIfDue_0 : decode cX10_banIfDue 0 = .ok (.aload_n 1, 1) := by decide +kernel
theorem dX10_banIfDue_1 : decode cX10_banIfDue 1 = .ok (.invokevirtual 137, 3) := by decide +kernel
theorem dX10_banIfDue_4 : decode cX10_banIfDue 4 = .ok (.ifCond .eq 4, 3) := by decide +kernel
theorem dX10_banIfDue_7 : decode cX10_banIfDue 7 = .ok (.return_, 1) := by decide +kernel
theorem dX10_banIfDue_8 : decode cX10_banIfDue 8 = .ok (.aload_n 0, 1) := by decide +kernel
theorem dX10_banIfDue_9 : decode cX10_banIfDue 9 = .ok (.aload_n 1, 1) := by decide +kernel
theorem dX10_banIfDue_10 : decode cX10_banIfDue 10 = .ok (.invokevirtual 364, 3) := by decide +kernel
theorem dX10_banIfDue_13 : decode cX10_banIfDue 13 = .ok (.ifCond .eq 14, 3) := by decide +kernel
theorem dX10_banIfDue_16 : decode cX10_banIfDue 16 = .ok (.aload_n 0, 1) := by decide +kernel
theorem dX10_banIfDue_17 : decode cX10_banIfDue 17 = .ok (.getfield 47, 3) := by decide +kernel
theorem dX10_banIfDue_20 : decode cX10_banIfDue 20 = .ok (.iconst 2, 1) := by decide +kernel
theorem dX10_banIfDue_21 : decode cX10_banIfDue 21 = .ok (.imul, 1) := by decide +kernel
theorem dX10_banIfDue_22 : decode cX10_banIfDue 22 = .ok (.iconst 3, 1) := by decide +kernel
theorem dX10_banIfDue_23 : decode cX10_banIfDue 23 = .ok (.idiv, 1) := by decide +kernel
theorem dX10_banIfDue_24 : decode cX10_banIfDue 24 = .ok (.goto 7, 3) := by decide +kernel
theorem dX10_banIfDue_27 : decode cX10_banIfDue 27 = .ok (.aload_n 0, 1) := by decide +kernel
theorem dX10_banIfDue_28 : decode cX10_banIfDue 28 = .ok (.getfield 47, 3) := by decide +kernel
theorem dX10_banIfDue_31 : decode cX10_banIfDue 31 = .ok (.istore_n 2, 1) := by decide +kernel
theorem dX10_banIfDue_32 : decode cX10_banIfDue 32 = .ok (.iconst 0, 1) := by decide +kernel
theorem dX10_banIfDue_33 : decode cX10_banIfDue 33 = .ok (.istore_n 3, 1) := by decide +kernel
theorem dX10_banIfDue_34 : decode cX10_banIfDue 34 = .ok (.iconst 0, 1) := by decide +kernel
theorem dX10_banIfDue_35 : decode cX10_banIfDue 35 = .ok (.istore 4, 2) := by decide +kernel
theorem dX10_banIfDue_37 : decode cX10_banIfDue 37 = .ok (.iload 4, 2) := by decide +kernel
theorem dX10_banIfDue_39 : decode cX10_banIfDue 39 = .ok (.aload_n 0, 1) := by decide +kernel
theorem dX10_banIfDue_40 : decode cX10_banIfDue 40 = .ok (.getfield 210, 3) := by decide +kernel
theorem dX10_banIfDue_43 : decode cX10_banIfDue 43 = .ok (.if_icmp .ge 57, 3) := by decide +kernel
theorem dX10_banIfDue_46 : decode cX10_banIfDue 46 = .ok (.aload_n 0, 1) := by decide +kernel
theorem dX10_banIfDue_47 : decode cX10_banIfDue 47 = .ok (.getfield 30, 3) := by decide +kernel
theorem dX10_banIfDue_50 : decode cX10_banIfDue 50 = .ok (.iload 4, 2) := by decide +kernel
theorem dX10_banIfDue_52 : decode cX10_banIfDue 52 = .ok (.aaload, 1) := by decide +kernel
theorem dX10_banIfDue_53 : decode cX10_banIfDue 53 = .ok (.astore 5, 2) := by decide +kernel
theorem dX10_banIfDue_55 : decode cX10_banIfDue 55 = .ok (.aload 5, 2) := by decide +kernel
theorem dX10_banIfDue_57 : decode cX10_banIfDue 57 = .ok (.getfield 242, 3) := by decide +kernel
theorem dX10_banIfDue_60 : decode cX10_banIfDue 60 = .ok (.ifCond .eq 34, 3) := by decide +kernel
theorem dX10_banIfDue_63 : decode cX10_banIfDue 63 = .ok (.aload 5, 2) := by decide +kernel
theorem dX10_banIfDue_65 : decode cX10_banIfDue 65 = .ok (.getfield 230, 3) := by decide +kernel
theorem dX10_banIfDue_68 : decode cX10_banIfDue 68 = .ok (.getfield 164, 3) := by decide +kernel
theorem dX10_banIfDue_71 : decode cX10_banIfDue 71 = .ok (.aload_n 1, 1) := by decide +kernel
theorem dX10_banIfDue_72 : decode cX10_banIfDue 72 = .ok (.if_acmp .ne 22, 3) := by decide +kernel
theorem dX10_banIfDue_75 : decode cX10_banIfDue 75 = .ok (.aload_n 0, 1) := by decide +kernel
theorem dX10_banIfDue_76 : decode cX10_banIfDue 76 = .ok (.iload_n 2, 1) := by decide +kernel
theorem dX10_banIfDue_77 : decode cX10_banIfDue 77 = .ok (.bipush 30, 2) := by decide +kernel
theorem dX10_banIfDue_79 : decode cX10_banIfDue 79 = .ok (.imul, 1) := by decide +kernel
theorem dX10_banIfDue_80 : decode cX10_banIfDue 80 = .ok (.aload 5, 2) := by decide +kernel
theorem dX10_banIfDue_82 : decode cX10_banIfDue 82 = .ok (.getfield 236, 3) := by decide +kernel
theorem dX10_banIfDue_85 : decode cX10_banIfDue 85 = .ok (.invokevirtual 344, 3) := by decide +kernel
theorem dX10_banIfDue_88 : decode cX10_banIfDue 88 = .ok (.ifCond .eq 6, 3) := by decide +kernel
theorem dX10_banIfDue_91 : decode cX10_banIfDue 91 = .ok (.iinc 3 1, 3) := by decide +kernel
theorem dX10_banIfDue_94 : decode cX10_banIfDue 94 = .ok (.iinc 4 1, 3) := by decide +kernel
theorem dX10_banIfDue_97 : decode cX10_banIfDue 97 = .ok (.goto (-60), 3) := by decide +kernel
theorem dX10_banIfDue_100 : decode cX10_banIfDue 100 = .ok (.iload_n 3, 1) := by decide +kernel
theorem dX10_banIfDue_101 : decode cX10_banIfDue 101 = .ok (.iconst 3, 1) := by decide +kernel
theorem dX10_banIfDue_102 : decode cX10_banIfDue 102 = .ok (.if_icmp .lt 21, 3) := by decide +kernel
theorem dX10_banIfDue_105 : decode cX10_banIfDue 105 = .ok (.aload_n 1, 1) := by decide +kernel
theorem dX10_banIfDue_106 : decode cX10_banIfDue 106 = .ok (.aload_n 0, 1) := by decide +kernel
theorem dX10_banIfDue_107 : decode cX10_banIfDue 107 = .ok (.getfield 79, 3) := by decide +kernel
theorem dX10_banIfDue_110 : decode cX10_banIfDue 110 = .ok (.putfield 300, 3) := by decide +kernel
theorem dX10_banIfDue_113 : decode cX10_banIfDue 113 = .ok (.aload_n 1, 1) := by decide +kernel
theorem dX10_banIfDue_114 : decode cX10_banIfDue 114 = .ok (.dup, 1) := by decide +kernel
theorem dX10_banIfDue_115 : decode cX10_banIfDue 115 = .ok (.getfield 297, 3) := by decide +kernel
theorem dX10_banIfDue_118 : decode cX10_banIfDue 118 = .ok (.iconst 1, 1) := by decide +kernel
theorem dX10_banIfDue_119 : decode cX10_banIfDue 119 = .ok (.iadd, 1) := by decide +kernel
theorem dX10_banIfDue_120 : decode cX10_banIfDue 120 = .ok (.putfield 297, 3) := by decide +kernel
theorem dX10_banIfDue_123 : decode cX10_banIfDue 123 = .ok (.return_, 1) := by decide +kernel
theorem dX10_shipsInPorts_0 : decode cX10_shipsInPorts 0 = .ok (.iconst 0, 1) := by decide +kernel
theorem dX10_shipsInPorts_1 : decode cX10_shipsInPorts 1 = .ok (.istore_n 1, 1) := by decide +kernel
theorem dX10_shipsInPorts_2 : decode cX10_shipsInPorts 2 = .ok (.iconst 0, 1) := by decide +kernel
theorem dX10_shipsInPorts_3 : decode cX10_shipsInPorts 3 = .ok (.istore_n 2, 1) := by decide +kernel
theorem dX10_shipsInPorts_4 : decode cX10_shipsInPorts 4 = .ok (.iload_n 2, 1) := by decide +kernel
theorem dX10_shipsInPorts_5 : decode cX10_shipsInPorts 5 = .ok (.aload_n 0, 1) := by decide +kernel
theorem dX10_shipsInPorts_6 : decode cX10_shipsInPorts 6 = .ok (.getfield 86, 3) := by decide +kernel
theorem dX10_shipsInPorts_9 : decode cX10_shipsInPorts 9 = .ok (.if_icmp .ge 29, 3) := by decide +kernel
theorem dX10_shipsInPorts_12 : decode cX10_shipsInPorts 12 = .ok (.iload_n 1, 1) := by decide +kernel
theorem dX10_shipsInPorts_13 : decode cX10_shipsInPorts 13 = .ok (.aload_n 0, 1) := by decide +kernel
theorem dX10_shipsInPorts_14 : decode cX10_shipsInPorts 14 = .ok (.getfield 11, 3) := by decide +kernel
theorem dX10_shipsInPorts_17 : decode cX10_shipsInPorts 17 = .ok (.iload_n 2, 1) := by decide +kernel
theorem dX10_shipsInPorts_18 : decode cX10_shipsInPorts 18 = .ok (.aaload, 1) := by decide +kernel
theorem dX10_shipsInPorts_19 : decode cX10_shipsInPorts 19 = .ok (.getfield 133, 3) := by decide +kernel
theorem dX10_shipsInPorts_22 : decode cX10_shipsInPorts 22 = .ok (.ifnull 7, 3) := by decide +kernel
theorem dX10_shipsInPorts_25 : decode cX10_shipsInPorts 25 = .ok (.iconst 1, 1) := by decide +kernel
theorem dX10_shipsInPorts_26 : decode cX10_shipsInPorts 26 = .ok (.goto 4, 3) := by decide +kernel
theorem dX10_shipsInPorts_29 : decode cX10_shipsInPorts 29 = .ok (.iconst 0, 1) := by decide +kernel
theorem dX10_shipsInPorts_30 : decode cX10_shipsInPorts 30 = .ok (.iadd, 1) := by decide +kernel
theorem dX10_shipsInPorts_31 : decode cX10_shipsInPorts 31 = .ok (.istore_n 1, 1) := by decide +kernel
theorem dX10_shipsInPorts_32 : decode cX10_shipsInPorts 32 = .ok (.iinc 2 1, 3) := by decide +kernel
theorem dX10_shipsInPorts_35 : decode cX10_shipsInPorts 35 = .ok (.goto (-31), 3) := by decide +kernel
theorem dX10_shipsInPorts_38 : decode cX10_shipsInPorts 38 = .ok (.iload_n 1, 1) := by decide +kernel
theorem dX10_shipsInPorts_39 : decode cX10_shipsInPorts 39 = .ok (.ireturn, 1) := by decide +kernel
theorem dX10_heldCalls_0 : decode cX10_heldCalls 0 = .ok (.iconst 0, 1) := by decide +kernel
theorem dX10_heldCalls_1 : decode cX10_heldCalls 1 = .ok (.istore_n 1, 1) := by decide +kernel
theorem dX10_heldCalls_2 : decode cX10_heldCalls 2 = .ok (.iconst 0, 1) := by decide +kernel
theorem dX10_heldCalls_3 : decode cX10_heldCalls 3 = .ok (.istore_n 2, 1) := by decide +kernel
theorem dX10_heldCalls_4 : decode cX10_heldCalls 4 = .ok (.iload_n 2, 1) := by decide +kernel
theorem dX10_heldCalls_5 : decode cX10_heldCalls 5 = .ok (.aload_n 0, 1) := by decide +kernel
theorem dX10_heldCalls_6 : decode cX10_heldCalls 6 = .ok (.getfield 141, 3) := by decide +kernel
theorem dX10_heldCalls_9 : decode cX10_heldCalls 9 = .ok (.if_icmp .ge 29, 3) := by decide +kernel
theorem dX10_heldCalls_12 : decode cX10_heldCalls 12 = .ok (.iload_n 1, 1) := by decide +kernel
theorem dX10_heldCalls_13 : decode cX10_heldCalls 13 = .ok (.aload_n 0, 1) := by decide +kernel
theorem dX10_heldCalls_14 : decode cX10_heldCalls 14 = .ok (.getfield 24, 3) := by decide +kernel
theorem dX10_heldCalls_17 : decode cX10_heldCalls 17 = .ok (.iload_n 2, 1) := by decide +kernel
theorem dX10_heldCalls_18 : decode cX10_heldCalls 18 = .ok (.aaload, 1) := by decide +kernel
theorem dX10_heldCalls_19 : decode cX10_heldCalls 19 = .ok (.getfield 157, 3) := by decide +kernel
theorem dX10_heldCalls_22 : decode cX10_heldCalls 22 = .ok (.ifCond .eq 7, 3) := by decide +kernel
theorem dX10_heldCalls_25 : decode cX10_heldCalls 25 = .ok (.iconst 1, 1) := by decide +kernel
theorem dX10_heldCalls_26 : decode cX10_heldCalls 26 = .ok (.goto 4, 3) := by decide +kernel
theorem dX10_heldCalls_29 : decode cX10_heldCalls 29 = .ok (.iconst 0, 1) := by decide +kernel
theorem dX10_heldCalls_30 : decode cX10_heldCalls 30 = .ok (.iadd, 1) := by decide +kernel
theorem dX10_heldCalls_31 : decode cX10_heldCalls 31 = .ok (.istore_n 1, 1) := by decide +kernel
theorem dX10_heldCalls_32 : decode cX10_heldCalls 32 = .ok (.iinc 2 1, 3) := by decide +kernel
theorem dX10_heldCalls_35 : decode cX10_heldCalls 35 = .ok (.goto (-31), 3) := by decide +kernel
theorem dX10_heldCalls_38 : decode cX10_heldCalls 38 = .ok (.iload_n 1, 1) := by decide +kernel
theorem dX10_heldCalls_39 : decode cX10_heldCalls 39 = .ok (.ireturn, 1) := by decide +kernel
theorem dX10_bannedShips_0 : decode cX10_bannedShips 0 = .ok (.iconst 0, 1) := by decide +kernel
theorem dX10_bannedShips_1 : decode cX10_bannedShips 1 = .ok (.istore_n 1, 1) := by decide +kernel
theorem dX10_bannedShips_2 : decode cX10_bannedShips 2 = .ok (.iconst 0, 1) := by decide +kernel
theorem dX10_bannedShips_3 : decode cX10_bannedShips 3 = .ok (.istore_n 2, 1) := by decide +kernel
theorem dX10_bannedShips_4 : decode cX10_bannedShips 4 = .ok (.iload_n 2, 1) := by decide +kernel
theorem dX10_bannedShips_5 : decode cX10_bannedShips 5 = .ok (.aload_n 0, 1) := by decide +kernel
theorem dX10_bannedShips_6 : decode cX10_bannedShips 6 = .ok (.getfield 86, 3) := by decide +kernel
theorem dX10_bannedShips_9 : decode cX10_bannedShips 9 = .ok (.if_icmp .ge 29, 3) := by decide +kernel
theorem dX10_bannedShips_12 : decode cX10_bannedShips 12 = .ok (.iload_n 1, 1) := by decide +kernel
theorem dX10_bannedShips_13 : decode cX10_bannedShips 13 = .ok (.aload_n 0, 1) := by decide +kernel
theorem dX10_bannedShips_14 : decode cX10_bannedShips 14 = .ok (.getfield 11, 3) := by decide +kernel
theorem dX10_bannedShips_17 : decode cX10_bannedShips 17 = .ok (.iload_n 2, 1) := by decide +kernel
theorem dX10_bannedShips_18 : decode cX10_bannedShips 18 = .ok (.aaload, 1) := by decide +kernel
theorem dX10_bannedShips_19 : decode cX10_bannedShips 19 = .ok (.invokevirtual 137, 3) := by decide +kernel
theorem dX10_bannedShips_22 : decode cX10_bannedShips 22 = .ok (.ifCond .eq 7, 3) := by decide +kernel
theorem dX10_bannedShips_25 : decode cX10_bannedShips 25 = .ok (.iconst 1, 1) := by decide +kernel
theorem dX10_bannedShips_26 : decode cX10_bannedShips 26 = .ok (.goto 4, 3) := by decide +kernel
theorem dX10_bannedShips_29 : decode cX10_bannedShips 29 = .ok (.iconst 0, 1) := by decide +kernel
theorem dX10_bannedShips_30 : decode cX10_bannedShips 30 = .ok (.iadd, 1) := by decide +kernel
theorem dX10_bannedShips_31 : decode cX10_bannedShips 31 = .ok (.istore_n 1, 1) := by decide +kernel
theorem dX10_bannedShips_32 : decode cX10_bannedShips 32 = .ok (.iinc 2 1, 3) := by decide +kernel
theorem dX10_bannedShips_35 : decode cX10_bannedShips 35 = .ok (.goto (-31), 3) := by decide +kernel
theorem dX10_bannedShips_38 : decode cX10_bannedShips 38 = .ok (.iload_n 1, 1) := by decide +kernel
theorem dX10_bannedShips_39 : decode cX10_bannedShips 39 = .ok (.ireturn, 1) := by decide +kernel
theorem dX11_init_0 : decode cX11_init 0 = .ok (.aload_n 0, 1) := by decide +kernel
theorem dX11_init_1 : decode cX11_init 1 = .ok (.invokespecial 1, 3) := by decide +kernel
theorem dX11_init_4 : decode cX11_init 4 = .ok (.aload_n 0, 1) := by decide +kernel
theorem dX11_init_5 : decode cX11_init 5 = .ok (.bipush 16, 2) := by decide +kernel
theorem dX11_init_7 : decode cX11_init 7 = .ok (.newarray .int, 2) := by decide +kernel
theorem dX11_init_9 : decode cX11_init 9 = .ok (.putfield 7, 3) := by decide +kernel
theorem dX11_init_12 : decode cX11_init 12 = .ok (.aload_n 0, 1) := by decide +kernel
theorem dX11_init_13 : decode cX11_init 13 = .ok (.bipush 16, 2) := by decide +kernel
theorem dX11_init_15 : decode cX11_init 15 = .ok (.newarray .int, 2) := by decide +kernel
theorem dX11_init_17 : decode cX11_init 17 = .ok (.putfield 13, 3) := by decide +kernel
theorem dX11_init_20 : decode cX11_init 20 = .ok (.aload_n 0, 1) := by decide +kernel
theorem dX11_init_21 : decode cX11_init 21 = .ok (.bipush 16, 2) := by decide +kernel
theorem dX11_init_23 : decode cX11_init 23 = .ok (.newarray .int, 2) := by decide +kernel
theorem dX11_init_25 : decode cX11_init 25 = .ok (.putfield 16, 3) := by decide +kernel
theorem dX11_init_28 : decode cX11_init 28 = .ok (.aload_n 0, 1) := by decide +kernel
theorem dX11_init_29 : decode cX11_init 29 = .ok (.bipush 48, 2) := by decide +kernel
theorem dX11_init_31 : decode cX11_init 31 = .ok (.newarray .int, 2) := by decide +kernel
theorem dX11_init_33 : decode cX11_init 33 = .ok (.putfield 19, 3) := by decide +kernel
theorem dX11_init_36 : decode cX11_init 36 = .ok (.aload_n 0, 1) := by decide +kernel
theorem dX11_init_37 : decode cX11_init 37 = .ok (.bipush 60, 2) := by decide +kernel
theorem dX11_init_39 : decode cX11_init 39 = .ok (.newarray .int, 2) := by decide +kernel
theorem dX11_init_41 : decode cX11_init 41 = .ok (.putfield 22, 3) := by decide +kernel
theorem dX11_init_44 : decode cX11_init 44 = .ok (.aload_n 0, 1) := by decide +kernel
theorem dX11_init_45 : decode cX11_init 45 = .ok (.bipush 60, 2) := by decide +kernel
theorem dX11_init_47 : decode cX11_init 47 = .ok (.newarray .int, 2) := by decide +kernel
theorem dX11_init_49 : decode cX11_init 49 = .ok (.putfield 25, 3) := by decide +kernel
theorem dX11_init_52 : decode cX11_init 52 = .ok (.aload_n 0, 1) := by decide +kernel
theorem dX11_init_53 : decode cX11_init 53 = .ok (.bipush 60, 2) := by decide +kernel
theorem dX11_init_55 : decode cX11_init 55 = .ok (.newarray .int, 2) := by decide +kernel
theorem dX11_init_57 : decode cX11_init 57 = .ok (.putfield 28, 3) := by decide +kernel
theorem dX11_init_60 : decode cX11_init 60 = .ok (.aload_n 0, 1) := by decide +kernel
theorem dX11_init_61 : decode cX11_init 61 = .ok (.bipush 12, 2) := by decide +kernel
theorem dX11_init_63 : decode cX11_init 63 = .ok (.newarray .int, 2) := by decide +kernel
theorem dX11_init_65 : decode cX11_init 65 = .ok (.putfield 31, 3) := by decide +kernel
theorem dX11_init_68 : decode cX11_init 68 = .ok (.aload_n 0, 1) := by decide +kernel
theorem dX11_init_69 : decode cX11_init 69 = .ok (.bipush 12, 2) := by decide +kernel
theorem dX11_init_71 : decode cX11_init 71 = .ok (.newarray .int, 2) := by decide +kernel
theorem dX11_init_73 : decode cX11_init 73 = .ok (.putfield 34, 3) := by decide +kernel
theorem dX11_init_76 : decode cX11_init 76 = .ok (.aload_n 0, 1) := by decide +kernel
theorem dX11_init_77 : decode cX11_init 77 = .ok (.bipush 50, 2) := by decide +kernel
theorem dX11_init_79 : decode cX11_init 79 = .ok (.newarray .int, 2) := by decide +kernel
theorem dX11_init_81 : decode cX11_init 81 = .ok (.putfield 37, 3) := by decide +kernel
theorem dX11_init_84 : decode cX11_init 84 = .ok (.aload_n 0, 1) := by decide +kernel
theorem dX11_init_85 : decode cX11_init 85 = .ok (.bipush 50, 2) := by decide +kernel
theorem dX11_init_87 : decode cX11_init 87 = .ok (.newarray .int, 2) := by decide +kernel
theorem dX11_init_89 : decode cX11_init 89 = .ok (.putfield 40, 3) := by decide +kernel
theorem dX11_init_92 : decode cX11_init 92 = .ok (.aload_n 0, 1) := by decide +kernel
theorem dX11_init_93 : decode cX11_init 93 = .ok (.bipush 50, 2) := by decide +kernel
theorem dX11_init_95 : decode cX11_init 95 = .ok (.newarray .int, 2) := by decide +kernel
theorem dX11_init_97 : decode cX11_init 97 = .ok (.putfield 43, 3) := by decide +kernel
theorem dX11_init_100 : decode cX11_init 100 = .ok (.aload_n 0, 1) := by decide +kernel
theorem dX11_init_101 : decode cX11_init 101 = .ok (.bipush 50, 2) := by decide +kernel
theorem dX11_init_103 : decode cX11_init 103 = .ok (.newarray .int, 2) := by decide +kernel
theorem dX11_init_105 : decode cX11_init 105 = .ok (.putfield 46, 3) := by decide +kernel
theorem dX11_init_108 : decode cX11_init 108 = .ok (.aload_n 0, 1) := by decide +kernel
theorem dX11_init_109 : decode cX11_init 109 = .ok (.bipush 50, 2) := by decide +kernel
theorem dX11_init_111 : decode cX11_init 111 = .ok (.newarray .boolean, 2) := by decide +kernel
theorem dX11_init_113 : decode cX11_init 113 = .ok (.putfield 49, 3) := by decide +kernel
theorem dX11_init_116 : decode cX11_init 116 = .ok (.aload_n 0, 1) := by decide +kernel
theorem dX11_init_117 : decode cX11_init 117 = .ok (.bipush 60, 2) := by decide +kernel
theorem dX11_init_119 : decode cX11_init 119 = .ok (.newarray .int, 2) := by decide +kernel
theorem dX11_init_121 : decode cX11_init 121 = .ok (.putfield 53, 3) := by decide +kernel
theorem dX11_init_124 : decode cX11_init 124 = .ok (.aload_n 0, 1) := by decide +kernel
theorem dX11_init_125 : decode cX11_init 125 = .ok (.bipush 6, 2) := by decide +kernel
theorem dX11_init_127 : decode cX11_init 127 = .ok (.newarray .int, 2) := by decide +kernel
theorem dX11_init_129 : decode cX11_init 129 = .ok (.putfield 56, 3) := by decide +kernel
theorem dX11_init_132 : decode cX11_init 132 = .ok (.aload_n 0, 1) := by decide +kernel
theorem dX11_init_133 : decode cX11_init 133 = .ok (.bipush 6, 2) := by decide +kernel
theorem dX11_init_135 : decode cX11_init 135 = .ok (.newarray .int, 2) := by decide +kernel
theorem dX11_init_137 : decode cX11_init 137 = .ok (.putfield 59, 3) := by decide +kernel
theorem dX11_init_140 : decode cX11_init 140 = .ok (.aload_n 0, 1) := by decide +kernel
theorem dX11_init_141 : decode cX11_init 141 = .ok (.bipush 60, 2) := by decide +kernel
theorem dX11_init_143 : decode cX11_init 143 = .ok (.newarray .int, 2) := by decide +kernel
theorem dX11_init_145 : decode cX11_init 145 = .ok (.putfield 62, 3) := by decide +kernel
theorem dX11_init_148 : decode cX11_init 148 = .ok (.aload_n 0, 1) := by decide +kernel
theorem dX11_init_149 : decode cX11_init 149 = .ok (.bipush 24, 2) := by decide +kernel
theorem dX11_init_151 : decode cX11_init 151 = .ok (.newarray .int, 2) := by decide +kernel
theorem dX11_init_153 : decode cX11_init 153 = .ok (.putfield 65, 3) := by decide +kernel
theorem dX11_init_156 : decode cX11_init 156 = .ok (.aload_n 0, 1) := by decide +kernel
theorem dX11_init_157 : decode cX11_init 157 = .ok (.bipush 60, 2) := by decide +kernel
theorem dX11_init_159 : decode cX11_init 159 = .ok (.newarray .int, 2) := by decide +kernel
theorem dX11_init_161 : decode cX11_init 161 = .ok (.putfield 68, 3) := by decide +kernel
theorem dX11_init_164 : decode cX11_init 164 = .ok (.aload_n 0, 1) := by decide +kernel
theorem dX11_init_165 : decode cX11_init 165 = .ok (.bipush 60, 2) := by decide +kernel
theorem dX11_init_167 : decode cX11_init 167 = .ok (.newarray .int, 2) := by decide +kernel
theorem dX11_init_169 : decode cX11_init 169 = .ok (.putfield 71, 3) := by decide +kernel
theorem dX11_init_172 : decode cX11_init 172 = .ok (.aload_n 0, 1) := by decide +kernel
theorem dX11_init_173 : decode cX11_init 173 = .ok (.bipush 60, 2) := by decide +kernel
theorem dX11_init_175 : decode cX11_init 175 = .ok (.newarray .int, 2) := by decide +kernel
theorem dX11_init_177 : decode cX11_init 177 = .ok (.putfield 74, 3) := by decide +kernel
theorem dX11_init_180 : decode cX11_init 180 = .ok (.aload_n 0, 1) := by decide +kernel
theorem dX11_init_181 : decode cX11_init 181 = .ok (.bipush 60, 2) := by decide +kernel
theorem dX11_init_183 : decode cX11_init 183 = .ok (.newarray .int, 2) := by decide +kernel
theorem dX11_init_185 : decode cX11_init 185 = .ok (.putfield 77, 3) := by decide +kernel
theorem dX11_init_188 : decode cX11_init 188 = .ok (.aload_n 0, 1) := by decide +kernel
theorem dX11_init_189 : decode cX11_init 189 = .ok (.bipush 60, 2) := by decide +kernel
theorem dX11_init_191 : decode cX11_init 191 = .ok (.newarray .boolean, 2) := by decide +kernel
theorem dX11_init_193 : decode cX11_init 193 = .ok (.putfield 80, 3) := by decide +kernel
theorem dX11_init_196 : decode cX11_init 196 = .ok (.aload_n 0, 1) := by decide +kernel
theorem dX11_init_197 : decode cX11_init 197 = .ok (.bipush 60, 2) := by decide +kernel
theorem dX11_init_199 : decode cX11_init 199 = .ok (.newarray .int, 2) := by decide +kernel
theorem dX11_init_201 : decode cX11_init 201 = .ok (.putfield 83, 3) := by decide +kernel
theorem dX11_init_204 : decode cX11_init 204 = .ok (.aload_n 0, 1) := by decide +kernel
theorem dX11_init_205 : decode cX11_init 205 = .ok (.bipush 112, 2) := by decide +kernel
theorem dX11_init_207 : decode cX11_init 207 = .ok (.newarray .int, 2) := by decide +kernel
theorem dX11_init_209 : decode cX11_init 209 = .ok (.putfield 86, 3) := by decide +kernel
theorem dX11_init_212 : decode cX11_init 212 = .ok (.aload_n 0, 1) := by decide +kernel
theorem dX11_init_213 : decode cX11_init 213 = .ok (.bipush 36, 2) := by decide +kernel
theorem dX11_init_215 : decode cX11_init 215 = .ok (.putfield 89, 3) := by decide +kernel
theorem dX11_init_218 : decode cX11_init 218 = .ok (.aload_n 0, 1) := by decide +kernel
theorem dX11_init_219 : decode cX11_init 219 = .ok (.bipush 16, 2) := by decide +kernel
theorem dX11_init_221 : decode cX11_init 221 = .ok (.newarray .boolean, 2) := by decide +kernel
theorem dX11_init_223 : decode cX11_init 223 = .ok (.putfield 93, 3) := by decide +kernel
theorem dX11_init_226 : decode cX11_init 226 = .ok (.aload_n 0, 1) := by decide +kernel
theorem dX11_init_227 : decode cX11_init 227 = .ok (.bipush 16, 2) := by decide +kernel
theorem dX11_init_229 : decode cX11_init 229 = .ok (.newarray .int, 2) := by decide +kernel
theorem dX11_init_231 : decode cX11_init 231 = .ok (.putfield 96, 3) := by decide +kernel
theorem dX11_init_234 : decode cX11_init 234 = .ok (.aload_n 0, 1) := by decide +kernel
theorem dX11_init_235 : decode cX11_init 235 = .ok (.bipush 16, 2) := by decide +kernel
theorem dX11_init_237 : decode cX11_init 237 = .ok (.newarray .int, 2) := by decide +kernel
theorem dX11_init_239 : decode cX11_init 239 = .ok (.putfield 99, 3) := by decide +kernel
theorem dX11_init_242 : decode cX11_init 242 = .ok (.aload_n 0, 1) := by decide +kernel
theorem dX11_init_243 : decode cX11_init 243 = .ok (.bipush 16, 2) := by decide +kernel
theorem dX11_init_245 : decode cX11_init 245 = .ok (.newarray .int, 2) := by decide +kernel
theorem dX11_init_247 : decode cX11_init 247 = .ok (.putfield 102, 3) := by decide +kernel
theorem dX11_init_250 : decode cX11_init 250 = .ok (.aload_n 0, 1) := by decide +kernel
theorem dX11_init_251 : decode cX11_init 251 = .ok (.bipush 6, 2) := by decide +kernel
theorem dX11_init_253 : decode cX11_init 253 = .ok (.newarray .int, 2) := by decide +kernel
theorem dX11_init_255 : decode cX11_init 255 = .ok (.putfield 105, 3) := by decide +kernel
theorem dX11_init_258 : decode cX11_init 258 = .ok (.aload_n 0, 1) := by decide +kernel
theorem dX11_init_259 : decode cX11_init 259 = .ok (.bipush 8, 2) := by decide +kernel
theorem dX11_init_261 : decode cX11_init 261 = .ok (.newarray .int, 2) := by decide +kernel
theorem dX11_init_263 : decode cX11_init 263 = .ok (.putfield 108, 3) := by decide +kernel
theorem dX11_init_266 : decode cX11_init 266 = .ok (.aload_n 0, 1) := by decide +kernel
theorem dX11_init_267 : decode cX11_init 267 = .ok (.bipush 8, 2) := by decide +kernel
theorem dX11_init_269 : decode cX11_init 269 = .ok (.newarray .int, 2) := by decide +kernel
theorem dX11_init_271 : decode cX11_init 271 = .ok (.putfield 111, 3) := by decide +kernel
theorem dX11_init_274 : decode cX11_init 274 = .ok (.aload_n 0, 1) := by decide +kernel
theorem dX11_init_275 : decode cX11_init 275 = .ok (.bipush 8, 2) := by decide +kernel
theorem dX11_init_277 : decode cX11_init 277 = .ok (.newarray .int, 2) := by decide +kernel
theorem dX11_init_279 : decode cX11_init 279 = .ok (.putfield 114, 3) := by decide +kernel
theorem dX11_init_282 : decode cX11_init 282 = .ok (.aload_n 0, 1) := by decide +kernel
theorem dX11_init_283 : decode cX11_init 283 = .ok (.bipush 8, 2) := by decide +kernel
theorem dX11_init_285 : decode cX11_init 285 = .ok (.newarray .int, 2) := by decide +kernel
theorem dX11_init_287 : decode cX11_init 287 = .ok (.putfield 117, 3) := by decide +kernel
theorem dX11_init_290 : decode cX11_init 290 = .ok (.return_, 1) := by decide +kernel
theorem dX11_finding_0 : decode cX11_finding 0 = .ok (.aload_n 0, 1) := by decide +kernel
theorem dX11_finding_1 : decode cX11_finding 1 = .ok (.getfield 105, 3) := by decide +kernel
theorem dX11_finding_4 : decode cX11_finding 4 = .ok (.iload_n 1, 1) := by decide +kernel
theorem dX11_finding_5 : decode cX11_finding 5 = .ok (.dup2, 1) := by decide +kernel
theorem dX11_finding_6 : decode cX11_finding 6 = .ok (.iaload, 1) := by decide +kernel
theorem dX11_finding_7 : decode cX11_finding 7 = .ok (.iconst 1, 1) := by decide +kernel
theorem dX11_finding_8 : decode cX11_finding 8 = .ok (.iadd, 1) := by decide +kernel
theorem dX11_finding_9 : decode cX11_finding 9 = .ok (.iastore, 1) := by decide +kernel
theorem dX11_finding_10 : decode cX11_finding 10 = .ok (.ldc 120, 2) := by decide +kernel
theorem dX11_finding_12 : decode cX11_finding 12 = .ok (.iload_n 1, 1) := by decide +kernel
theorem dX11_finding_13 : decode cX11_finding 13 = .ok (.isub, 1) := by decide +kernel
theorem dX11_finding_14 : decode cX11_finding 14 = .ok (.ireturn, 1) := by decide +kernel
theorem dX11_isIn_0 : decode cX11_isIn 0 = .ok (.iload_n 0, 1) := by decide +kernel
theorem dX11_isIn_1 : decode cX11_isIn 1 = .ok (.iload_n 1, 1) := by decide +kernel
theorem dX11_isIn_2 : decode cX11_isIn 2 = .ok (.if_icmp .lt 12, 3) := by decide +kernel
theorem dX11_isIn_5 : decode cX11_isIn 5 = .ok (.iload_n 0, 1) := by decide +kernel
theorem dX11_isIn_6 : decode cX11_isIn 6 = .ok (.iload_n 2, 1) := by decide +kernel
theorem dX11_isIn_7 : decode cX11_isIn 7 = .ok (.if_icmp .gt 7, 3) := by decide +kernel
theorem dX11_isIn_10 : decode cX11_isIn 10 = .ok (.iconst 1, 1) := by decide +kernel
theorem dX11_isIn_11 : decode cX11_isIn 11 = .ok (.goto 4, 3) := by decide +kernel
theorem dX11_isIn_14 : decode cX11_isIn 14 = .ok (.iconst 0, 1) := by decide +kernel
theorem dX11_isIn_15 : decode cX11_isIn 15 = .ok (.ireturn, 1) := by decide +kernel
theorem dX11_isShip_0 : decode cX11_isShip 0 = .ok (.iload_n 1, 1) := by decide +kernel
theorem dX11_isShip_1 : decode cX11_isShip 1 = .ok (.iconst 0, 1) := by decide +kernel
theorem dX11_isShip_2 : decode cX11_isShip 2 = .ok (.aload_n 0, 1) := by decide +kernel
theorem dX11_isShip_3 : decode cX11_isShip 3 = .ok (.getfield 121, 3) := by decide +kernel
theorem dX11_isShip_6 : decode cX11_isShip 6 = .ok (.iconst 1, 1) := by decide +kernel
theorem dX11_isShip_7 : decode cX11_isShip 7 = .ok (.isub, 1) := by decide +kernel
theorem dX11_isShip_8 : decode cX11_isShip 8 = .ok (.invokestatic 124, 3) := by decide +kernel
theorem dX11_isShip_11 : decode cX11_isShip 11 = .ok (.ireturn, 1) := by decide +kernel
theorem dX11_isCall_0 : decode cX11_isCall 0 = .ok (.iload_n 1, 1) := by decide +kernel
theorem dX11_isCall_1 : decode cX11_isCall 1 = .ok (.iconst 0, 1) := by decide +kernel
theorem dX11_isCall_2 : decode cX11_isCall 2 = .ok (.aload_n 0, 1) := by decide +kernel
theorem dX11_isCall_3 : decode cX11_isCall 3 = .ok (.getfield 128, 3) := by decide +kernel
theorem dX11_isCall_6 : decode cX11_isCall 6 = .ok (.iconst 1, 1) := by decide +kernel
theorem dX11_isCall_7 : decode cX11_isCall 7 = .ok (.isub, 1) := by decide +kernel
theorem dX11_isCall_8 : decode cX11_isCall 8 = .ok (.invokestatic 124, 3) := by decide +kernel
theorem dX11_isCall_11 : decode cX11_isCall 11 = .ok (.ireturn, 1) := by decide +kernel
theorem dX11_isLook_0 : decode cX11_isLook 0 = .ok (.iload_n 1, 1) := by decide +kernel
theorem dX11_isLook_1 : decode cX11_isLook 1 = .ok (.iconst 0, 1) := by decide +kernel
theorem dX11_isLook_2 : decode cX11_isLook 2 = .ok (.aload_n 0, 1) := by decide +kernel
theorem dX11_isLook_3 : decode cX11_isLook 3 = .ok (.getfield 131, 3) := by decide +kernel
theorem dX11_isLook_6 : decode cX11_isLook 6 = .ok (.iconst 1, 1) := by decide +kernel
theorem dX11_isLook_7 : decode cX11_isLook 7 = .ok (.isub, 1) := by decide +kernel
theorem dX11_isLook_8 : decode cX11_isLook 8 = .ok (.invokestatic 124, 3) := by decide +kernel
theorem dX11_isLook_11 : decode cX11_isLook 11 = .ok (.ireturn, 1) := by decide +kernel
theorem dX11_isDay_0 : decode cX11_isDay 0 = .ok (.iload_n 0, 1) := by decide +kernel
theorem dX11_isDay_1 : decode cX11_isDay 1 = .ok (.iconst 0, 1) := by decide +kernel
theorem dX11_isDay_2 : decode cX11_isDay 2 = .ok (.sipush 9999, 3) := by decide +kernel
theorem dX11_isDay_5 : decode cX11_isDay 5 = .ok (.invokestatic 124, 3) := by decide +kernel
theorem dX11_isDay_8 : decode cX11_isDay 8 = .ok (.ireturn, 1) := by decide +kernel
theorem dX11_ship_0 : decode cX11_ship 0 = .ok (.iload_n 1, 1) := by decide +kernel
theorem dX11_ship_1 : decode cX11_ship 1 = .ok (.ifCond .lt 53, 3) := by decide +kernel
theorem dX11_ship_4 : decode cX11_ship 4 = .ok (.iload_n 1, 1) := by decide +kernel
theorem dX11_ship_5 : decode cX11_ship 5 = .ok (.bipush 10, 2) := by decide +kernel
theorem dX11_ship_7 : decode cX11_ship 7 = .ok (.idiv, 1) := by decide +kernel
theorem dX11_ship_8 : decode cX11_ship 8 = .ok (.iconst 3, 1) := by decide +kernel
theorem dX11_ship_9 : decode cX11_ship 9 = .ok (.if_icmp .gt 45, 3) := by decide +kernel
theorem dX11_ship_12 : decode cX11_ship 12 = .ok (.iload_n 1, 1) := by decide +kernel
theorem dX11_ship_13 : decode cX11_ship 13 = .ok (.bipush 10, 2) := by decide +kernel
theorem dX11_ship_15 : decode cX11_ship 15 = .ok (.irem, 1) := by decide +kernel
theorem dX11_ship_16 : decode cX11_ship 16 = .ok (.iconst 3, 1) := by decide +kernel
theorem dX11_ship_17 : decode cX11_ship 17 = .ok (.if_icmp .gt 37, 3) := by decide +kernel
theorem dX11_ship_20 : decode cX11_ship 20 = .ok (.iload_n 2, 1) := by decide +kernel
theorem dX11_ship_21 : decode cX11_ship 21 = .ok (.ifCond .lt 33, 3) := by decide +kernel
theorem dX11_ship_24 : decode cX11_ship 24 = .ok (.iload_n 2, 1) := by decide +kernel
theorem dX11_ship_25 : decode cX11_ship 25 = .ok (.bipush 100, 2) := by decide +kernel
theorem dX11_ship_27 : decode cX11_ship 27 = .ok (.idiv, 1) := by decide +kernel
theorem dX11_ship_28 : decode cX11_ship 28 = .ok (.bipush 100, 2) := by decide +kernel
theorem dX11_ship_30 : decode cX11_ship 30 = .ok (.if_icmp .ge 24, 3) := by decide +kernel
theorem dX11_ship_33 : decode cX11_ship 33 = .ok (.iload_n 2, 1) := by decide +kernel
theorem dX11_ship_34 : decode cX11_ship 34 = .ok (.bipush 10, 2) := by decide +kernel
theorem dX11_ship_36 : decode cX11_ship 36 = .ok (.irem, 1) := by decide +kernel
theorem dX11_ship_37 : decode cX11_ship 37 = .ok (.bipush 6, 2) := by decide +kernel
theorem dX11_ship_39 : decode cX11_ship 39 = .ok (.if_icmp .ge 15, 3) := by decide +kernel
theorem dX11_ship_42 : decode cX11_ship 42 = .ok (.iload_n 3, 1) := by decide +kernel
theorem dX11_ship_43 : decode cX11_ship 43 = .ok (.iconst 0, 1) := by decide +kernel
theorem dX11_ship_44 : decode cX11_ship 44 = .ok (.aload_n 0, 1) := by decide +kernel
theorem dX11_ship_45 : decode cX11_ship 45 = .ok (.getfield 134, 3) := by decide +kernel
theorem dX11_ship_48 : decode cX11_ship 48 = .ok (.invokestatic 124, 3) := by decide +kernel
theorem dX11_ship_51 : decode cX11_ship 51 = .ok (.ifCond .ne 9, 3) := by decide +kernel
theorem dX11_ship_54 : decode cX11_ship 54 = .ok (.aload_n 0, 1) := by decide +kernel
theorem dX11_ship_55 : decode cX11_ship 55 = .ok (.iconst 1, 1) := by decide +kernel
theorem dX11_ship_56 : decode cX11_ship 56 = .ok (.invokevirtual 137, 3) := by decide +kernel
theorem dX11_ship_59 : decode cX11_ship 59 = .ok (.ireturn, 1) := by decide +kernel
theorem dX11_ship_60 : decode cX11_ship 60 = .ok (.aload_n 0, 1) := by decide +kernel
theorem dX11_ship_61 : decode cX11_ship 61 = .ok (.getfield 121, 3) := by decide +kernel
theorem dX11_ship_64 : decode cX11_ship 64 = .ok (.bipush 16, 2) := by decide +kernel
theorem dX11_ship_66 : decode cX11_ship 66 = .ok (.if_icmp .ne 9, 3) := by decide +kernel
theorem dX11_ship_69 : decode cX11_ship 69 = .ok (.aload_n 0, 1) := by decide +kernel
theorem dX11_ship_70 : decode cX11_ship 70 = .ok (.iconst 4, 1) := by decide +kernel
theorem dX11_ship_71 : decode cX11_ship 71 = .ok (.invokevirtual 137, 3) := by decide +kernel
theorem dX11_ship_74 : decode cX11_ship 74 = .ok (.ireturn, 1) := by decide +kernel
theorem dX11_ship_75 : decode cX11_ship 75 = .ok (.aload_n 0, 1) := by decide +kernel
theorem dX11_ship_76 : decode cX11_ship 76 = .ok (.getfield 7, 3) := by decide +kernel
theorem dX11_ship_79 : decode cX11_ship 79 = .ok (.aload_n 0, 1) := by decide +kernel
theorem dX11_ship_80 : decode cX11_ship 80 = .ok (.getfield 121, 3) := by decide +kernel
theorem dX11_ship_83 : decode cX11_ship 83 = .ok (.iload_n 1, 1) := by decide +kernel
theorem dX11_ship_84 : decode cX11_ship 84 = .ok (.bipush 10, 2) := by decide +kernel
theorem dX11_ship_86 : decode cX11_ship 86 = .ok (.idiv, 1) := by decide +kernel
theorem dX11_ship_87 : decode cX11_ship 87 = .ok (.iastore, 1) := by decide +kernel
theorem dX11_ship_88 : decode cX11_ship 88 = .ok (.aload_n 0, 1) := by decide +kernel
theorem dX11_ship_89 : decode cX11_ship 89 = .ok (.getfield 13, 3) := by decide +kernel
theorem dX11_ship_92 : decode cX11_ship 92 = .ok (.aload_n 0, 1) := by decide +kernel
theorem dX11_ship_93 : decode cX11_ship 93 = .ok (.getfield 121, 3) := by decide +kernel
theorem dX11_ship_96 : decode cX11_ship 96 = .ok (.iload_n 1, 1) := by decide +kernel
theorem dX11_ship_97 : decode cX11_ship 97 = .ok (.bipush 10, 2) := by decide +kernel
theorem dX11_ship_99 : decode cX11_ship 99 = .ok (.irem, 1) := by decide +kernel
theorem dX11_ship_100 : decode cX11_ship 100 = .ok (.iastore, 1) := by decide +kernel
theorem dX11_ship_101 : decode cX11_ship 101 = .ok (.aload_n 0, 1) := by decide +kernel
theorem dX11_ship_102 : decode cX11_ship 102 = .ok (.getfield 16, 3) := by decide +kernel
theorem dX11_ship_105 : decode cX11_ship 105 = .ok (.aload_n 0, 1) := by decide +kernel
theorem dX11_ship_106 : decode cX11_ship 106 = .ok (.getfield 121, 3) := by decide +kernel
theorem dX11_ship_109 : decode cX11_ship 109 = .ok (.iload_n 3, 1) := by decide +kernel
theorem dX11_ship_110 : decode cX11_ship 110 = .ok (.iastore, 1) := by decide +kernel
theorem dX11_ship_111 : decode cX11_ship 111 = .ok (.aload_n 0, 1) := by decide +kernel
theorem dX11_ship_112 : decode cX11_ship 112 = .ok (.getfield 19, 3) := by decide +kernel
theorem dX11_ship_115 : decode cX11_ship 115 = .ok (.iconst 3, 1) := by decide +kernel
theorem dX11_ship_116 : decode cX11_ship 116 = .ok (.aload_n 0, 1) := by decide +kernel
theorem dX11_ship_117 : decode cX11_ship 117 = .ok (.getfield 121, 3) := by decide +kernel
theorem dX11_ship_120 : decode cX11_ship 120 = .ok (.imul, 1) := by decide +kernel
theorem dX11_ship_121 : decode cX11_ship 121 = .ok (.iload_n 2, 1) := by decide +kernel
theorem dX11_ship_122 : decode cX11_ship 122 = .ok (.bipush 100, 2) := by decide +kernel
theorem dX11_ship_124 : decode cX11_ship 124 = .ok (.idiv, 1) := by decide +kernel
theorem dX11_ship_125 : decode cX11_ship 125 = .ok (.iastore, 1) := by decide +kernel
theorem dX11_ship_126 : decode cX11_ship 126 = .ok (.aload_n 0, 1) := by decide +kernel
theorem dX11_ship_127 : decode cX11_ship 127 = .ok (.getfield 19, 3) := by decide +kernel
theorem dX11_ship_130 : decode cX11_ship 130 = .ok (.iconst 3, 1) := by decide +kernel
theorem dX11_ship_131 : decode cX11_ship 131 = .ok (.aload_n 0, 1) := by decide +kernel
theorem dX11_ship_132 : decode cX11_ship 132 = .ok (.getfield 121, 3) := by decide +kernel
theorem dX11_ship_135 : decode cX11_ship 135 = .ok (.imul, 1) := by decide +kernel
theorem dX11_ship_136 : decode cX11_ship 136 = .ok (.iconst 1, 1) := by decide +kernel
theorem dX11_ship_137 : decode cX11_ship 137 = .ok (.iadd, 1) := by decide +kernel
theorem dX11_ship_138 : decode cX11_ship 138 = .ok (.iload_n 2, 1) := by decide +kernel
theorem dX11_ship_139 : decode cX11_ship 139 = .ok (.bipush 10, 2) := by decide +kernel
theorem dX11_ship_141 : decode cX11_ship 141 = .ok (.irem, 1) := by decide +kernel
theorem dX11_ship_142 : decode cX11_ship 142 = .ok (.iastore, 1) := by decide +kernel
theorem dX11_ship_143 : decode cX11_ship 143 = .ok (.aload_n 0, 1) := by decide +kernel
theorem dX11_ship_144 : decode cX11_ship 144 = .ok (.getfield 19, 3) := by decide +kernel
theorem dX11_ship_147 : decode cX11_ship 147 = .ok (.iconst 3, 1) := by decide +kernel
theorem dX11_ship_148 : decode cX11_ship 148 = .ok (.aload_n 0, 1) := by decide +kernel
theorem dX11_ship_149 : decode cX11_ship 149 = .ok (.getfield 121, 3) := by decide +kernel
theorem dX11_ship_152 : decode cX11_ship 152 = .ok (.imul, 1) := by decide +kernel
theorem dX11_ship_153 : decode cX11_ship 153 = .ok (.iconst 2, 1) := by decide +kernel
theorem dX11_ship_154 : decode cX11_ship 154 = .ok (.iadd, 1) := by decide +kernel
theorem dX11_ship_155 : decode cX11_ship 155 = .ok (.iload_n 2, 1) := by decide +kernel
theorem dX11_ship_156 : decode cX11_ship 156 = .ok (.bipush 10, 2) := by decide +kernel
theorem dX11_ship_158 : decode cX11_ship 158 = .ok (.idiv, 1) := by decide +kernel
theorem dX11_ship_159 : decode cX11_ship 159 = .ok (.bipush 10, 2) := by decide +kernel
theorem dX11_ship_161 : decode cX11_ship 161 = .ok (.irem, 1) := by decide +kernel
theorem dX11_ship_162 : decode cX11_ship 162 = .ok (.iastore, 1) := by decide +kernel
theorem dX11_ship_163 : decode cX11_ship 163 = .ok (.aload_n 0, 1) := by decide +kernel
theorem dX11_ship_164 : decode cX11_ship 164 = .ok (.dup, 1) := by decide +kernel
theorem dX11_ship_165 : decode cX11_ship 165 = .ok (.getfield 121, 3) := by decide +kernel
theorem dX11_ship_168 : decode cX11_ship 168 = .ok (.iconst 1, 1) := by decide +kernel
theorem dX11_ship_169 : decode cX11_ship 169 = .ok (.iadd, 1) := by decide +kernel
theorem dX11_ship_170 : decode cX11_ship 170 = .ok (.putfield 121, 3) := by decide +kernel
theorem dX11_ship_173 : decode cX11_ship 173 = .ok (.aload_n 0, 1) := by decide +kernel
theorem dX11_ship_174 : decode cX11_ship 174 = .ok (.getfield 121, 3) := by decide +kernel
theorem dX11_ship_177 : decode cX11_ship 177 = .ok (.iconst 1, 1) := by decide +kernel
theorem dX11_ship_178 : decode cX11_ship 178 = .ok (.isub, 1) := by decide +kernel
theorem dX11_ship_179 : decode cX11_ship 179 = .ok (.ireturn, 1) := by decide +kernel
theorem dX11_isUnder_0 : decode cX11_isUnder 0 = .ok (.iload_n 2, 1) := by decide +kernel
theorem dX11_isUnder_1 : decode cX11_isUnder 1 = .ok (.ifCond .eq 28, 3) := by decide +kernel
theorem dX11_isUnder_4 : decode cX11_isUnder 4 = .ok (.aload_n 0, 1) := by decide +kernel
theorem dX11_isUnder_5 : decode cX11_isUnder 5 = .ok (.getfield 7, 3) := by decide +kernel
theorem dX11_isUnder_8 : decode cX11_isUnder 8 = .ok (.iload_n 1, 1) := by decide +kernel
theorem dX11_isUnder_9 : decode cX11_isUnder 9 = .ok (.iaload, 1) := by decide +kernel
theorem dX11_isUnder_10 : decode cX11_isUnder 10 = .ok (.iload_n 2, 1) := by decide +kernel
theorem dX11_isUnder_11 : decode cX11_isUnder 11 = .ok (.if_icmp .eq 18, 3) := by decide +kernel
theorem dX11_isUnder_14 : decode cX11_isUnder 14 = .ok (.iload_n 2, 1) := by decide +kernel
theorem dX11_isUnder_15 : decode cX11_isUnder 15 = .ok (.iconst 1, 1) := by decide +kernel
theorem dX11_isUnder_16 : decode cX11_isUnder 16 = .ok (.if_icmp .ne 17, 3) := by decide +kernel
theorem dX11_isUnder_19 : decode cX11_isUnder 19 = .ok (.aload_n 0, 1) := by decide +kernel
theorem dX11_isUnder_20 : decode cX11_isUnder 20 = .ok (.getfield 7, 3) := by decide +kernel
theorem dX11_isUnder_23 : decode cX11_isUnder 23 = .ok (.iload_n 1, 1) := by decide +kernel
theorem dX11_isUnder_24 : decode cX11_isUnder 24 = .ok (.iaload, 1) := by decide +kernel
theorem dX11_isUnder_25 : decode cX11_isUnder 25 = .ok (.iconst 2, 1) := by decide +kernel
theorem dX11_isUnder_26 : decode cX11_isUnder 26 = .ok (.if_icmp .ne 7, 3) := by decide +kernel
theorem dX11_isUnder_29 : decode cX11_isUnder 29 = .ok (.iconst 1, 1) := by decide +kernel
theorem dX11_isUnder_30 : decode cX11_isUnder 30 = .ok (.goto 4, 3) := by decide +kernel
theorem dX11_isUnder_33 : decode cX11_isUnder 33 = .ok (.iconst 0, 1) := by decide +kernel
theorem dX11_isUnder_34 : decode cX11_isUnder 34 = .ok (.ireturn, 1) := by decide +kernel
theorem dX11_hoursOf_0 : decode cX11_hoursOf 0 = .ok (.aload_n 0, 1) := by decide +kernel
theorem dX11_hoursOf_1 : decode cX11_hoursOf 1 = .ok (.getfield 7, 3) := by decide +kernel
theorem dX11_hoursOf_4 : decode cX11_hoursOf 4 = .ok (.iload_n 1, 1) := by decide +kernel
theorem dX11_hoursOf_5 : decode cX11_hoursOf 5 = .ok (.iaload, 1) := by decide +kernel
theorem dX11_hoursOf_6 : decode cX11_hoursOf 6 = .ok (.iconst 1, 1) := by decide +kernel
theorem dX11_hoursOf_7 : decode cX11_hoursOf 7 = .ok (.if_icmp .ne 7, 3) := by decide +kernel
theorem dX11_hoursOf_10 : decode cX11_hoursOf 10 = .ok (.iconst 5, 1) := by decide +kernel
theorem dX11_hoursOf_11 : decode cX11_hoursOf 11 = .ok (.goto 33, 3) := by decide +kernel
theorem dX11_hoursOf_14 : decode cX11_hoursOf 14 = .ok (.aload_n 0, 1) := by decide +kernel
theorem dX11_hoursOf_15 : decode cX11_hoursOf 15 = .ok (.getfield 7, 3) := by decide +kernel
theorem dX11_hoursOf_18 : decode cX11_hoursOf 18 = .ok (.iload_n 1, 1) := by decide +kernel
theorem dX11_hoursOf_19 : decode cX11_hoursOf 19 = .ok (.iaload, 1) := by decide +kernel
theorem dX11_hoursOf_20 : decode cX11_hoursOf 20 = .ok (.iconst 2, 1) := by decide +kernel
theorem dX11_hoursOf_21 : decode cX11_hoursOf 21 = .ok (.if_icmp .ne 8, 3) := by decide +kernel
theorem dX11_hoursOf_24 : decode cX11_hoursOf 24 = .ok (.bipush 7, 2) := by decide +kernel
theorem dX11_hoursOf_26 : decode cX11_hoursOf 26 = .ok (.goto 18, 3) := by decide +kernel
theorem dX11_hoursOf_29 : decode cX11_hoursOf 29 = .ok (.aload_n 0, 1) := by decide +kernel
theorem dX11_hoursOf_30 : decode cX11_hoursOf 30 = .ok (.getfield 7, 3) := by decide +kernel
theorem dX11_hoursOf_33 : decode cX11_hoursOf 33 = .ok (.iload_n 1, 1) := by decide +kernel
theorem dX11_hoursOf_34 : decode cX11_hoursOf 34 = .ok (.iaload, 1) := by decide +kernel
theorem dX11_hoursOf_35 : decode cX11_hoursOf 35 = .ok (.iconst 3, 1) := by decide +kernel
theorem dX11_hoursOf_36 : decode cX11_hoursOf 36 = .ok (.if_icmp .ne 7, 3) := by decide +kernel
theorem dX11_hoursOf_39 : decode cX11_hoursOf 39 = .ok (.iconst 4, 1) := by decide +kernel
theorem dX11_hoursOf_40 : decode cX11_hoursOf 40 = .ok (.goto 4, 3) := by decide +kernel
theorem dX11_hoursOf_43 : decode cX11_hoursOf 43 = .ok (.iconst 3, 1) := by decide +kernel
theorem dX11_hoursOf_44 : decode cX11_hoursOf 44 = .ok (.ireturn, 1) := by decide +kernel
theorem dX11_as_0 : decode cX11_as 0 = .ok (.aload_n 0, 1) := by decide +kernel
theorem dX11_as_1 : decode cX11_as 1 = .ok (.iload_n 1, 1) := by decide +kernel
theorem dX11_as_2 : decode cX11_as 2 = .ok (.invokevirtual 141, 3) := by decide +kernel
theorem dX11_as_5 : decode cX11_as 5 = .ok (.ifCond .eq 12, 3) := by decide +kernel
theorem dX11_as_8 : decode cX11_as 8 = .ok (.iload_n 2, 1) := by decide +kernel
theorem dX11_as_9 : decode cX11_as 9 = .ok (.iconst 0, 1) := by decide +kernel
theorem dX11_as_10 : decode cX11_as 10 = .ok (.iconst 3, 1) := by decide +kernel
theorem dX11_as_11 : decode cX11_as 11 = .ok (.invokestatic 124, 3) := by decide +kernel
theorem dX11_as_14 : decode cX11_as 14 = .ok (.ifCond .ne 9, 3) := by decide +kernel
theorem dX11_as_17 : decode cX11_as 17 = .ok (.aload_n 0, 1) := by decide +kernel
theorem dX11_as_18 : decode cX11_as 18 = .ok (.iconst 1, 1) := by decide +kernel
theorem dX11_as_19 : decode cX11_as 19 = .ok (.invokevirtual 137, 3) := by decide +kernel
theorem dX11_as_22 : decode cX11_as 22 = .ok (.ireturn, 1) := by decide +kernel
theorem dX11_as_23 : decode cX11_as 23 = .ok (.aload_n 0, 1) := by decide +kernel
theorem dX11_as_24 : decode cX11_as 24 = .ok (.iload_n 1, 1) := by decide +kernel
theorem dX11_as_25 : decode cX11_as 25 = .ok (.iload_n 2, 1) := by decide +kernel
theorem dX11_as_26 : decode cX11_as 26 = .ok (.invokevirtual 145, 3) := by decide +kernel
theorem dX11_as_29 : decode cX11_as 29 = .ok (.ifCond .eq 11, 3) := by decide +kernel
theorem dX11_as_32 : decode cX11_as 32 = .ok (.aload_n 0, 1) := by decide +kernel
theorem dX11_as_33 : decode cX11_as 33 = .ok (.iload_n 1, 1) := by decide +kernel
theorem dX11_as_34 : decode cX11_as 34 = .ok (.invokevirtual 149, 3) := by decide +kernel
theorem dX11_as_37 : decode cX11_as 37 = .ok (.goto 8, 3) := by decide +kernel
theorem dX11_as_40 : decode cX11_as 40 = .ok (.aload_n 0, 1) := by decide +kernel
theorem dX11_as_41 : decode cX11_as 41 = .ok (.iconst 5, 1) := by decide +kernel
theorem dX11_as_42 : decode cX11_as 42 = .ok (.invokevirtual 137, 3) := by decide +kernel
theorem dX11_as_45 : decode cX11_as 45 = .ok (.ireturn, 1) := by decide +kernel
theorem dX11_hadOn_0 : decode cX11_hadOn 0 = .ok (.aload_n 0, 1) := by decide +kernel
theorem dX11_hadOn_1 : decode cX11_hadOn 1 = .ok (.getfield 19, 3) := by decide +kernel
theorem dX11_hadOn_4 : decode cX11_hadOn 4 = .ok (.iconst 3, 1) := by decide +kernel
theorem dX11_hadOn_5 : decode cX11_hadOn 5 = .ok (.iload_n 1, 1) := by decide +kernel
theorem dX11_hadOn_6 : decode cX11_hadOn 6 = .ok (.imul, 1) := by decide +kernel
theorem dX11_hadOn_7 : decode cX11_hadOn 7 = .ok (.iload_n 2, 1) := by decide +kernel
theorem dX11_hadOn_8 : decode cX11_hadOn 8 = .ok (.iadd, 1) := by decide +kernel
theorem dX11_hadOn_9 : decode cX11_hadOn 9 = .ok (.iaload, 1) := by decide +kernel
theorem dX11_hadOn_10 : decode cX11_hadOn 10 = .ok (.istore 4, 2) := by decide +kernel
theorem dX11_hadOn_12 : decode cX11_hadOn 12 = .ok (.iconst 0, 1) := by decide +kernel
theorem dX11_hadOn_13 : decode cX11_hadOn 13 = .ok (.istore 5, 2) := by decide +kernel
theorem dX11_hadOn_15 : decode cX11_hadOn 15 = .ok (.iload 5, 2) := by decide +kernel
theorem dX11_hadOn_17 : decode cX11_hadOn 17 = .ok (.aload_n 0, 1) := by decide +kernel
theorem dX11_hadOn_18 : decode cX11_hadOn 18 = .ok (.getfield 152, 3) := by decide +kernel
theorem dX11_hadOn_21 : decode cX11_hadOn 21 = .ok (.if_icmp .ge 49, 3) := by decide +kernel
theorem dX11_hadOn_24 : decode cX11_hadOn 24 = .ok (.aload_n 0, 1) := by decide +kernel
theorem dX11_hadOn_25 : decode cX11_hadOn 25 = .ok (.getfield 22, 3) := by decide +kernel
theorem dX11_hadOn_28 : decode cX11_hadOn 28 = .ok (.iload 5, 2) := by decide +kernel
theorem dX11_hadOn_30 : decode cX11_hadOn 30 = .ok (.iaload, 1) := by decide +kernel
theorem dX11_hadOn_31 : decode cX11_hadOn 31 = .ok (.iconst 3, 1) := by decide +kernel
theorem dX11_hadOn_32 : decode cX11_hadOn 32 = .ok (.iload_n 1, 1) := by decide +kernel
theorem dX11_hadOn_33 : decode cX11_hadOn 33 = .ok (.imul, 1) := by decide +kernel
theorem dX11_hadOn_34 : decode cX11_hadOn 34 = .ok (.iload_n 2, 1) := by decide +kernel
theorem dX11_hadOn_35 : decode cX11_hadOn 35 = .ok (.iadd, 1) := by decide +kernel
theorem dX11_hadOn_36 : decode cX11_hadOn 36 = .ok (.if_icmp .ne 24, 3) := by decide +kernel
theorem dX11_hadOn_39 : decode cX11_hadOn 39 = .ok (.aload_n 0, 1) := by decide +kernel
theorem dX11_hadOn_40 : decode cX11_hadOn 40 = .ok (.getfield 25, 3) := by decide +kernel
theorem dX11_hadOn_43 : decode cX11_hadOn 43 = .ok (.iload 5, 2) := by decide +kernel
theorem dX11_hadOn_45 : decode cX11_hadOn 45 = .ok (.iaload, 1) := by decide +kernel
theorem dX11_hadOn_46 : decode cX11_hadOn 46 = .ok (.iload_n 3, 1) := by decide +kernel
theorem dX11_hadOn_47 : decode cX11_hadOn 47 = .ok (.if_icmp .gt 13, 3) := by decide +kernel
theorem dX11_hadOn_50 : decode cX11_hadOn 50 = .ok (.aload_n 0, 1) := by decide +kernel
theorem dX11_hadOn_51 : decode cX11_hadOn 51 = .ok (.getfield 28, 3) := by decide +kernel
theorem dX11_hadOn_54 : decode cX11_hadOn 54 = .ok (.iload 5, 2) := by decide +kernel
theorem dX11_hadOn_56 : decode cX11_hadOn 56 = .ok (.iaload, 1) := by decide +kernel
theorem dX11_hadOn_57 : decode cX11_hadOn 57 = .ok (.goto 5, 3) := by decide +kernel
theorem dX11_hadOn_60 : decode cX11_hadOn 60 = .ok (.iload 4, 2) := by decide +kernel
theorem dX11_hadOn_62 : decode cX11_hadOn 62 = .ok (.istore 4, 2) := by decide +kernel
theorem dX11_hadOn_64 : decode cX11_hadOn 64 = .ok (.iinc 5 1, 3) := by decide +kernel
theorem dX11_hadOn_67 : decode cX11_hadOn 67 = .ok (.goto (-52), 3) := by decide +kernel
theorem dX11_hadOn_70 : decode cX11_hadOn 70 = .ok (.iload 4, 2) := by decide +kernel
theorem dX11_hadOn_72 : decode cX11_hadOn 72 = .ok (.ireturn, 1) := by decide +kernel
theorem dX11_change_0 : decode cX11_change 0 = .ok (.aload_n 0, 1) := by decide +kernel
theorem dX11_change_1 : decode cX11_change 1 = .ok (.iload_n 1, 1) := by decide +kernel
theorem dX11_change_2 : decode cX11_change 2 = .ok (.invokevirtual 141, 3) := by decide +kernel
theorem dX11_change_5 : decode cX11_change 5 = .ok (.ifCond .eq 40, 3) := by decide +kernel
theorem dX11_change_8 : decode cX11_change 8 = .ok (.iload_n 2, 1) := by decide +kernel
theorem dX11_change_9 : decode cX11_change 9 = .ok (.iconst 0, 1) := by decide +kernel
theorem dX11_change_10 : decode cX11_change 10 = .ok (.iconst 2, 1) := by decide +kernel
theorem dX11_change_11 : decode cX11_change 11 = .ok (.invokestatic 124, 3) := by decide +kernel
theorem dX11_change_14 : decode cX11_change 14 = .ok (.ifCond .eq 31, 3) := by decide +kernel
theorem dX11_change_17 : decode cX11_change 17 = .ok (.iload_n 3, 1) := by decide +kernel
theorem dX11_change_18 : decode cX11_change 18 = .ok (.iconst 0, 1) := by decide +kernel
theorem dX11_change_19 : decode cX11_change 19 = .ok (.iload_n 2, 1) := by decide +kernel
theorem dX11_change_20 : decode cX11_change 20 = .ok (.ifCond .ne 8, 3) := by decide +kernel
theorem dX11_change_23 : decode cX11_change 23 = .ok (.bipush 99, 2) := by decide +kernel
theorem dX11_change_25 : decode cX11_change 25 = .ok (.goto 14, 3) := by decide +kernel
theorem dX11_change_28 : decode cX11_change 28 = .ok (.iload_n 2, 1) := by decide +kernel
theorem dX11_change_29 : decode cX11_change 29 = .ok (.iconst 1, 1) := by decide +kernel
theorem dX11_change_30 : decode cX11_change 30 = .ok (.if_icmp .ne 7, 3) := by decide +kernel
theorem dX11_change_33 : decode cX11_change 33 = .ok (.iconst 5, 1) := by decide +kernel
theorem dX11_change_34 : decode cX11_change 34 = .ok (.goto 5, 3) := by decide +kernel
theorem dX11_change_37 : decode cX11_change 37 = .ok (.bipush 9, 2) := by decide +kernel
theorem dX11_change_39 : decode cX11_change 39 = .ok (.invokestatic 124, 3) := by decide +kernel
theorem dX11_change_42 : decode cX11_change 42 = .ok (.ifCond .ne 9, 3) := by decide +kernel
theorem dX11_change_45 : decode cX11_change 45 = .ok (.aload_n 0, 1) := by decide +kernel
theorem dX11_change_46 : decode cX11_change 46 = .ok (.iconst 1, 1) := by decide +kernel
theorem dX11_change_47 : decode cX11_change 47 = .ok (.invokevirtual 137, 3) := by decide +kernel
theorem dX11_change_50 : decode cX11_change 50 = .ok (.ireturn, 1) := by decide +kernel
theorem dX11_change_51 : decode cX11_change 51 = .ok (.aload_n 0, 1) := by decide +kernel
theorem dX11_change_52 : decode cX11_change 52 = .ok (.getfield 152, 3) := by decide +kernel
theorem dX11_change_55 : decode cX11_change 55 = .ok (.bipush 60, 2) := by decide +kernel
theorem dX11_change_57 : decode cX11_change 57 = .ok (.if_icmp .ne 9, 3) := by decide +kernel
theorem dX11_change_60 : decode cX11_change 60 = .ok (.aload_n 0, 1) := by decide +kernel
theorem dX11_change_61 : decode cX11_change 61 = .ok (.iconst 4, 1) := by decide +kernel
theorem dX11_change_62 : decode cX11_change 62 = .ok (.invokevirtual 137, 3) := by decide +kernel
theorem dX11_change_65 : decode cX11_change 65 = .ok (.ireturn, 1) := by decide +kernel
theorem dX11_change_66 : decode cX11_change 66 = .ok (.aload_n 0, 1) := by decide +kernel
theorem dX11_change_67 : decode cX11_change 67 = .ok (.iload_n 1, 1) := by decide +kernel
theorem dX11_change_68 : decode cX11_change 68 = .ok (.iload_n 2, 1) := by decide +kernel
theorem dX11_change_69 : decode cX11_change 69 = .ok (.aload_n 0, 1) := by decide +kernel
theorem dX11_change_70 : decode cX11_change 70 = .ok (.getfield 134, 3) := by decide +kernel
theorem dX11_change_73 : decode cX11_change 73 = .ok (.invokevirtual 155, 3) := by decide +kernel
theorem dX11_change_76 : decode cX11_change 76 = .ok (.istore 4, 2) := by decide +kernel
theorem dX11_change_78 : decode cX11_change 78 = .ok (.aload_n 0, 1) := by decide +kernel
theorem dX11_change_79 : decode cX11_change 79 = .ok (.getfield 22, 3) := by decide +kernel
theorem dX11_change_82 : decode cX11_change 82 = .ok (.aload_n 0, 1) := by decide +kernel
theorem dX11_change_83 : decode cX11_change 83 = .ok (.getfield 152, 3) := by decide +kernel
theorem dX11_change_86 : decode cX11_change 86 = .ok (.iconst 3, 1) := by decide +kernel
theorem dX11_change_87 : decode cX11_change 87 = .ok (.iload_n 1, 1) := by decide +kernel
theorem dX11_change_88 : decode cX11_change 88 = .ok (.imul, 1) := by decide +kernel
theorem dX11_change_89 : decode cX11_change 89 = .ok (.iload_n 2, 1) := by decide +kernel
theorem dX11_change_90 : decode cX11_change 90 = .ok (.iadd, 1) := by decide +kernel
theorem dX11_change_91 : decode cX11_change 91 = .ok (.iastore, 1) := by decide +kernel
theorem dX11_change_92 : decode cX11_change 92 = .ok (.aload_n 0, 1) := by decide +kernel
theorem dX11_change_93 : decode cX11_change 93 = .ok (.getfield 25, 3) := by decide +kernel
theorem dX11_change_96 : decode cX11_change 96 = .ok (.aload_n 0, 1) := by decide +kernel
theorem dX11_change_97 : decode cX11_change 97 = .ok (.getfield 152, 3) := by decide +kernel
theorem dX11_change_100 : decode cX11_change 100 = .ok (.aload_n 0, 1) := by decide +kernel
theorem dX11_change_101 : decode cX11_change 101 = .ok (.getfield 134, 3) := by decide +kernel
theorem dX11_change_104 : decode cX11_change 104 = .ok (.iastore, 1) := by decide +kernel
theorem dX11_change_105 : decode cX11_change 105 = .ok (.aload_n 0, 1) := by decide +kernel
theorem dX11_change_106 : decode cX11_change 106 = .ok (.getfield 28, 3) := by decide +kernel
theorem dX11_change_109 : decode cX11_change 109 = .ok (.aload_n 0, 1) := by decide +kernel
theorem dX11_change_110 : decode cX11_change 110 = .ok (.getfield 152, 3) := by decide +kernel
theorem dX11_change_113 : decode cX11_change 113 = .ok (.iload_n 3, 1) := by decide +kernel
theorem dX11_change_114 : decode cX11_change 114 = .ok (.iastore, 1) := by decide +kernel
theorem dX11_change_115 : decode cX11_change 115 = .ok (.aload_n 0, 1) := by decide +kernel
theorem dX11_change_116 : decode cX11_change 116 = .ok (.dup, 1) := by decide +kernel
theorem dX11_change_117 : decode cX11_change 117 = .ok (.getfield 152, 3) := by decide +kernel
theorem dX11_change_120 : decode cX11_change 120 = .ok (.iconst 1, 1) := by decide +kernel
theorem dX11_change_121 : decode cX11_change 121 = .ok (.iadd, 1) := by decide +kernel
theorem dX11_change_122 : decode cX11_change 122 = .ok (.putfield 152, 3) := by decide +kernel
theorem dX11_change_125 : decode cX11_change 125 = .ok (.iload 4, 2) := by decide +kernel
theorem dX11_change_127 : decode cX11_change 127 = .ok (.ireturn, 1) := by decide +kernel
theorem dX11_has_0 : decode cX11_has 0 = .ok (.aload_n 0, 1) := by decide +kernel
theorem dX11_has_1 : decode cX11_has 1 = .ok (.iload_n 1, 1) := by decide +kernel
theorem dX11_has_2 : decode cX11_has 2 = .ok (.invokevirtual 141, 3) := by decide +kernel
theorem dX11_has_5 : decode cX11_has 5 = .ok (.ifCond .eq 19, 3) := by decide +kernel
theorem dX11_has_8 : decode cX11_has 8 = .ok (.iload_n 2, 1) := by decide +kernel
theorem dX11_has_9 : decode cX11_has 9 = .ok (.iconst 0, 1) := by decide +kernel
theorem dX11_has_10 : decode cX11_has 10 = .ok (.iconst 2, 1) := by decide +kernel
theorem dX11_has_11 : decode cX11_has 11 = .ok (.invokestatic 124, 3) := by decide +kernel
theorem dX11_has_14 : decode cX11_has 14 = .ok (.ifCond .eq 10, 3) := by decide +kernel
theorem dX11_has_17 : decode cX11_has 17 = .ok (.iload_n 3, 1) := by decide +kernel
theorem dX11_has_18 : decode cX11_has 18 = .ok (.invokestatic 159, 3) := by decide +kernel
theorem dX11_has_21 : decode cX11_has 21 = .ok (.ifCond .ne 9, 3) := by decide +kernel
theorem dX11_has_24 : decode cX11_has 24 = .ok (.aload_n 0, 1) := by decide +kernel
theorem dX11_has_25 : decode cX11_has 25 = .ok (.iconst 1, 1) := by decide +kernel
theorem dX11_has_26 : decode cX11_has 26 = .ok (.invokevirtual 137, 3) := by decide +kernel
theorem dX11_has_29 : decode cX11_has 29 = .ok (.ireturn, 1) := by decide +kernel
theorem dX11_has_30 : decode cX11_has 30 = .ok (.aload_n 0, 1) := by decide +kernel
theorem dX11_has_31 : decode cX11_has 31 = .ok (.iload_n 1, 1) := by decide +kernel
theorem dX11_has_32 : decode cX11_has 32 = .ok (.iload_n 2, 1) := by decide +kernel
theorem dX11_has_33 : decode cX11_has 33 = .ok (.iload_n 3, 1) := by decide +kernel
theorem dX11_has_34 : decode cX11_has 34 = .ok (.invokevirtual 155, 3) := by decide +kernel
theorem dX11_has_37 : decode cX11_has 37 = .ok (.ireturn, 1) := by decide +kernel
theorem dX11_named_0 : decode cX11_named 0 = .ok (.iload_n 1, 1) := by decide +kernel
theorem dX11_named_1 : decode cX11_named 1 = .ok (.iconst 0, 1) := by decide +kernel
theorem dX11_named_2 : decode cX11_named 2 = .ok (.bipush 99, 2) := by decide +kernel
theorem dX11_named_4 : decode cX11_named 4 = .ok (.invokestatic 124, 3) := by decide +kernel
theorem dX11_named_7 : decode cX11_named 7 = .ok (.ifCond .eq 10, 3) := by decide +kernel
theorem dX11_named_10 : decode cX11_named 10 = .ok (.iload_n 2, 1) := by decide +kernel
theorem dX11_named_11 : decode cX11_named 11 = .ok (.invokestatic 159, 3) := by decide +kernel
theorem dX11_named_14 : decode cX11_named 14 = .ok (.ifCond .ne 9, 3) := by decide +kernel
theorem dX11_named_17 : decode cX11_named 17 = .ok (.aload_n 0, 1) := by decide +kernel
theorem dX11_named_18 : decode cX11_named 18 = .ok (.iconst 1, 1) := by decide +kernel
theorem dX11_named_19 : decode cX11_named 19 = .ok (.invokevirtual 137, 3) := by decide +kernel
theorem dX11_named_22 : decode cX11_named 22 = .ok (.ireturn, 1) := by decide +kernel
theorem dX11_named_23 : decode cX11_named 23 = .ok (.iconst 0, 1) := by decide +kernel
theorem dX11_named_24 : decode cX11_named 24 = .ok (.istore_n 3, 1) := by decide +kernel
theorem dX11_named_25 : decode cX11_named 25 = .ok (.iload_n 3, 1) := by decide +kernel
theorem dX11_named_26 : decode cX11_named 26 = .ok (.aload_n 0, 1) := by decide +kernel
theorem dX11_named_27 : decode cX11_named 27 = .ok (.getfield 121, 3) := by decide +kernel
theorem dX11_named_30 : decode cX11_named 30 = .ok (.if_icmp .ge 22, 3) := by decide +kernel
theorem dX11_named_33 : decode cX11_named 33 = .ok (.aload_n 0, 1) := by decide +kernel
theorem dX11_named_34 : decode cX11_named 34 = .ok (.iload_n 3, 1) := by decide +kernel
theorem dX11_named_35 : decode cX11_named 35 = .ok (.iconst 0, 1) := by decide +kernel
theorem dX11_named_36 : decode cX11_named 36 = .ok (.iload_n 2, 1) := by decide +kernel
theorem dX11_named_37 : decode cX11_named 37 = .ok (.invokevirtual 155, 3) := by decide +kernel
theorem dX11_named_40 : decode cX11_named 40 = .ok (.iload_n 1, 1) := by decide +kernel
theorem dX11_named_41 : decode cX11_named 41 = .ok (.if_icmp .ne 5, 3) := by decide +kernel
theorem dX11_named_44 : decode cX11_named 44 = .ok (.iload_n 3, 1) := by decide +kernel
theorem dX11_named_45 : decode cX11_named 45 = .ok (.ireturn, 1) := by decide +kernel
theorem dX11_named_46 : decode cX11_named 46 = .ok (.iinc 3 1, 3) := by decide +kernel
theorem dX11_named_49 : decode cX11_named 49 = .ok (.goto (-24), 3) := by decide +kernel
theorem dX11_named_52 : decode cX11_named 52 = .ok (.aload_n 0, 1) := by decide +kernel
theorem dX11_named_53 : decode cX11_named 53 = .ok (.iconst 2, 1) := by decide +kernel
theorem dX11_named_54 : decode cX11_named 54 = .ok (.invokevirtual 137, 3) := by decide +kernel
theorem dX11_named_57 : decode cX11_named 57 = .ok (.ireturn, 1) := by decide +kernel
end
section
theorem dX11_one_0 : decode cX11_one 0 = .ok (.iload_n 1, 1) := by decide +kernel
theorem dX11_one_1 : decode cX11_one 1 = .ok (.iconst 0, 1) := by decide +kernel
theorem dX11_one_2 : decode cX11_one 2 = .ok (.bipush 9, 2) := by decide +kernel
theorem dX11_one_4 : decode cX11_one 4 = .ok (.invokestatic 124, 3) := by decide +kernel
theorem dX11_one_7 : decode cX11_one 7 = .ok (.ifCond .eq 18, 3) := by decide +kernel
theorem dX11_one_10 : decode cX11_one 10 = .ok (.iload_n 2, 1) := by decide +kernel
theorem dX11_one_11 : decode cX11_one 11 = .ok (.iconst 0, 1) := by decide +kernel
theorem dX11_one_12 : decode cX11_one 12 = .ok (.bipush 9, 2) := by decide +kernel
theorem dX11_one_14 : decode cX11_one 14 = .ok (.invokestatic 124, 3) := by decide +kernel
theorem dX11_one_17 : decode cX11_one 17 = .ok (.ifCond .eq 8, 3) := by decide +kernel
theorem dX11_one_20 : decode cX11_one 20 = .ok (.iload_n 1, 1) := by decide +kernel
theorem dX11_one_21 : decode cX11_one 21 = .ok (.iload_n 2, 1) := by decide +kernel
theorem dX11_one_22 : decode cX11_one 22 = .ok (.if_icmp .ne 9, 3) := by decide +kernel
theorem dX11_one_25 : decode cX11_one 25 = .ok (.aload_n 0, 1) := by decide +kernel
theorem dX11_one_26 : decode cX11_one 26 = .ok (.iconst 1, 1) := by decide +kernel
theorem dX11_one_27 : decode cX11_one 27 = .ok (.invokevirtual 137, 3) := by decide +kernel
theorem dX11_one_30 : decode cX11_one 30 = .ok (.ireturn, 1) := by decide +kernel
theorem dX11_one_31 : decode cX11_one 31 = .ok (.aload_n 0, 1) := by decide +kernel
theorem dX11_one_32 : decode cX11_one 32 = .ok (.getfield 162, 3) := by decide +kernel
theorem dX11_one_35 : decode cX11_one 35 = .ok (.bipush 12, 2) := by decide +kernel
theorem dX11_one_37 : decode cX11_one 37 = .ok (.if_icmp .ne 9, 3) := by decide +kernel
theorem dX11_one_40 : decode cX11_one 40 = .ok (.aload_n 0, 1) := by decide +kernel
theorem dX11_one_41 : decode cX11_one 41 = .ok (.iconst 4, 1) := by decide +kernel
theorem dX11_one_42 : decode cX11_one 42 = .ok (.invokevirtual 137, 3) := by decide +kernel
theorem dX11_one_45 : decode cX11_one 45 = .ok (.ireturn, 1) := by decide +kernel
theorem dX11_one_46 : decode cX11_one 46 = .ok (.aload_n 0, 1) := by decide +kernel
theorem dX11_one_47 : decode cX11_one 47 = .ok (.getfield 31, 3) := by decide +kernel
theorem dX11_one_50 : decode cX11_one 50 = .ok (.aload_n 0, 1) := by decide +kernel
theorem dX11_one_51 : decode cX11_one 51 = .ok (.getfield 162, 3) := by decide +kernel
theorem dX11_one_54 : decode cX11_one 54 = .ok (.iload_n 1, 1) := by decide +kernel
theorem dX11_one_55 : decode cX11_one 55 = .ok (.iastore, 1) := by decide +kernel
theorem dX11_one_56 : decode cX11_one 56 = .ok (.aload_n 0, 1) := by decide +kernel
theorem dX11_one_57 : decode cX11_one 57 = .ok (.getfield 34, 3) := by decide +kernel
theorem dX11_one_60 : decode cX11_one 60 = .ok (.aload_n 0, 1) := by decide +kernel
theorem dX11_one_61 : decode cX11_one 61 = .ok (.getfield 162, 3) := by decide +kernel
theorem dX11_one_64 : decode cX11_one 64 = .ok (.iload_n 2, 1) := by decide +kernel
theorem dX11_one_65 : decode cX11_one 65 = .ok (.iastore, 1) := by decide +kernel
theorem dX11_one_66 : decode cX11_one 66 = .ok (.aload_n 0, 1) := by decide +kernel
theorem dX11_one_67 : decode cX11_one 67 = .ok (.dup, 1) := by decide +kernel
theorem dX11_one_68 : decode cX11_one 68 = .ok (.getfield 162, 3) := by decide +kernel
theorem dX11_one_71 : decode cX11_one 71 = .ok (.iconst 1, 1) := by decide +kernel
theorem dX11_one_72 : decode cX11_one 72 = .ok (.iadd, 1) := by decide +kernel
theorem dX11_one_73 : decode cX11_one 73 = .ok (.putfield 162, 3) := by decide +kernel
theorem dX11_one_76 : decode cX11_one 76 = .ok (.aload_n 0, 1) := by decide +kernel
theorem dX11_one_77 : decode cX11_one 77 = .ok (.getfield 162, 3) := by decide +kernel
theorem dX11_one_80 : decode cX11_one 80 = .ok (.ireturn, 1) := by decide +kernel
theorem dX11_onesOf_0 : decode cX11_onesOf 0 = .ok (.iconst 1, 1) := by decide +kernel
theorem dX11_onesOf_1 : decode cX11_onesOf 1 = .ok (.iload_n 1, 1) := by decide +kernel
theorem dX11_onesOf_2 : decode cX11_onesOf 2 = .ok (.ishl, 1) := by decide +kernel
theorem dX11_onesOf_3 : decode cX11_onesOf 3 = .ok (.istore_n 2, 1) := by decide +kernel
theorem dX11_onesOf_4 : decode cX11_onesOf 4 = .ok (.iconst 0, 1) := by decide +kernel
theorem dX11_onesOf_5 : decode cX11_onesOf 5 = .ok (.istore_n 3, 1) := by decide +kernel
theorem dX11_onesOf_6 : decode cX11_onesOf 6 = .ok (.iload_n 3, 1) := by decide +kernel
theorem dX11_onesOf_7 : decode cX11_onesOf 7 = .ok (.bipush 10, 2) := by decide +kernel
theorem dX11_onesOf_9 : decode cX11_onesOf 9 = .ok (.if_icmp .ge 64, 3) := by decide +kernel
theorem dX11_onesOf_12 : decode cX11_onesOf 12 = .ok (.iconst 0, 1) := by decide +kernel
theorem dX11_onesOf_13 : decode cX11_onesOf 13 = .ok (.istore 4, 2) := by decide +kernel
theorem dX11_onesOf_15 : decode cX11_onesOf 15 = .ok (.iload 4, 2) := by decide +kernel
theorem dX11_onesOf_17 : decode cX11_onesOf 17 = .ok (.aload_n 0, 1) := by decide +kernel
theorem dX11_onesOf_18 : decode cX11_onesOf 18 = .ok (.getfield 162, 3) := by decide +kernel
theorem dX11_onesOf_21 : decode cX11_onesOf 21 = .ok (.if_icmp .ge 46, 3) := by decide +kernel
theorem dX11_onesOf_24 : decode cX11_onesOf 24 = .ok (.iconst 1, 1) := by decide +kernel
theorem dX11_onesOf_25 : decode cX11_onesOf 25 = .ok (.aload_n 0, 1) := by decide +kernel
theorem dX11_onesOf_26 : decode cX11_onesOf 26 = .ok (.getfield 31, 3) := by decide +kernel
theorem dX11_onesOf_29 : decode cX11_onesOf 29 = .ok (.iload 4, 2) := by decide +kernel
theorem dX11_onesOf_31 : decode cX11_onesOf 31 = .ok (.iaload, 1) := by decide +kernel
theorem dX11_onesOf_32 : decode cX11_onesOf 32 = .ok (.ishl, 1) := by decide +kernel
theorem dX11_onesOf_33 : decode cX11_onesOf 33 = .ok (.iconst 1, 1) := by decide +kernel
theorem dX11_onesOf_34 : decode cX11_onesOf 34 = .ok (.aload_n 0, 1) := by decide +kernel
theorem dX11_onesOf_35 : decode cX11_onesOf 35 = .ok (.getfield 34, 3) := by decide +kernel
theorem dX11_onesOf_38 : decode cX11_onesOf 38 = .ok (.iload 4, 2) := by decide +kernel
theorem dX11_onesOf_40 : decode cX11_onesOf 40 = .ok (.iaload, 1) := by decide +kernel
theorem dX11_onesOf_41 : decode cX11_onesOf 41 = .ok (.ishl, 1) := by decide +kernel
theorem dX11_onesOf_42 : decode cX11_onesOf 42 = .ok (.ior, 1) := by decide +kernel
theorem dX11_onesOf_43 : decode cX11_onesOf 43 = .ok (.istore 5, 2) := by decide +kernel
theorem dX11_onesOf_45 : decode cX11_onesOf 45 = .ok (.iload_n 2, 1) := by decide +kernel
theorem dX11_onesOf_46 : decode cX11_onesOf 46 = .ok (.iload_n 2, 1) := by decide +kernel
theorem dX11_onesOf_47 : decode cX11_onesOf 47 = .ok (.iload 5, 2) := by decide +kernel
theorem dX11_onesOf_49 : decode cX11_onesOf 49 = .ok (.iand, 1) := by decide +kernel
theorem dX11_onesOf_50 : decode cX11_onesOf 50 = .ok (.ifCond .eq 8, 3) := by decide +kernel
theorem dX11_onesOf_53 : decode cX11_onesOf 53 = .ok (.iload 5, 2) := by decide +kernel
theorem dX11_onesOf_55 : decode cX11_onesOf 55 = .ok (.goto 4, 3) := by decide +kernel
theorem dX11_onesOf_58 : decode cX11_onesOf 58 = .ok (.iconst 0, 1) := by decide +kernel
theorem dX11_onesOf_59 : decode cX11_onesOf 59 = .ok (.ior, 1) := by decide +kernel
theorem dX11_onesOf_60 : decode cX11_onesOf 60 = .ok (.istore_n 2, 1) := by decide +kernel
theorem dX11_onesOf_61 : decode cX11_onesOf 61 = .ok (.iinc 4 1, 3) := by decide +kernel
theorem dX11_onesOf_64 : decode cX11_onesOf 64 = .ok (.goto (-49), 3) := by decide +kernel
theorem dX11_onesOf_67 : decode cX11_onesOf 67 = .ok (.iinc 3 1, 3) := by decide +kernel
theorem dX11_onesOf_70 : decode cX11_onesOf 70 = .ok (.goto (-64), 3) := by decide +kernel
theorem dX11_onesOf_73 : decode cX11_onesOf 73 = .ok (.iload_n 2, 1) := by decide +kernel
theorem dX11_onesOf_74 : decode cX11_onesOf 74 = .ok (.ireturn, 1) := by decide +kernel
theorem dX11_fleetOf_0 : decode cX11_fleetOf 0 = .ok (.aload_n 0, 1) := by decide +kernel
theorem dX11_fleetOf_1 : decode cX11_fleetOf 1 = .ok (.iload_n 1, 1) := by decide +kernel
theorem dX11_fleetOf_2 : decode cX11_fleetOf 2 = .ok (.invokevirtual 165, 3) := by decide +kernel
theorem dX11_fleetOf_5 : decode cX11_fleetOf 5 = .ok (.istore_n 3, 1) := by decide +kernel
theorem dX11_fleetOf_6 : decode cX11_fleetOf 6 = .ok (.iconst 0, 1) := by decide +kernel
theorem dX11_fleetOf_7 : decode cX11_fleetOf 7 = .ok (.istore 4, 2) := by decide +kernel
theorem dX11_fleetOf_9 : decode cX11_fleetOf 9 = .ok (.iconst 0, 1) := by decide +kernel
theorem dX11_fleetOf_10 : decode cX11_fleetOf 10 = .ok (.istore 5, 2) := by decide +kernel
theorem dX11_fleetOf_12 : decode cX11_fleetOf 12 = .ok (.iload 5, 2) := by decide +kernel
theorem dX11_fleetOf_14 : decode cX11_fleetOf 14 = .ok (.aload_n 0, 1) := by decide +kernel
theorem dX11_fleetOf_15 : decode cX11_fleetOf 15 = .ok (.getfield 121, 3) := by decide +kernel
theorem dX11_fleetOf_18 : decode cX11_fleetOf 18 = .ok (.if_icmp .ge 29, 3) := by decide +kernel
theorem dX11_fleetOf_21 : decode cX11_fleetOf 21 = .ok (.iload 4, 2) := by decide +kernel
theorem dX11_fleetOf_23 : decode cX11_fleetOf 23 = .ok (.iload_n 3, 1) := by decide +kernel
theorem dX11_fleetOf_24 : decode cX11_fleetOf 24 = .ok (.aload_n 0, 1) := by decide +kernel
theorem dX11_fleetOf_25 : decode cX11_fleetOf 25 = .ok (.iload 5, 2) := by decide +kernel
theorem dX11_fleetOf_27 : decode cX11_fleetOf 27 = .ok (.iconst 2, 1) := by decide +kernel
theorem dX11_fleetOf_28 : decode cX11_fleetOf 28 = .ok (.iload_n 2, 1) := by decide +kernel
theorem dX11_fleetOf_29 : decode cX11_fleetOf 29 = .ok (.invokevirtual 155, 3) := by decide +kernel
theorem dX11_fleetOf_32 : decode cX11_fleetOf 32 = .ok (.ishr, 1) := by decide +kernel
theorem dX11_fleetOf_33 : decode cX11_fleetOf 33 = .ok (.iconst 1, 1) := by decide +kernel
theorem dX11_fleetOf_34 : decode cX11_fleetOf 34 = .ok (.iand, 1) := by decide +kernel
theorem dX11_fleetOf_35 : decode cX11_fleetOf 35 = .ok (.iload 5, 2) := by decide +kernel
theorem dX11_fleetOf_37 : decode cX11_fleetOf 37 = .ok (.ishl, 1) := by decide +kernel
theorem dX11_fleetOf_38 : decode cX11_fleetOf 38 = .ok (.ior, 1) := by decide +kernel
theorem dX11_fleetOf_39 : decode cX11_fleetOf 39 = .ok (.istore 4, 2) := by decide +kernel
theorem dX11_fleetOf_41 : decode cX11_fleetOf 41 = .ok (.iinc 5 1, 3) := by decide +kernel
theorem dX11_fleetOf_44 : decode cX11_fleetOf 44 = .ok (.goto (-32), 3) := by decide +kernel
theorem dX11_fleetOf_47 : decode cX11_fleetOf 47 = .ok (.iload 4, 2) := by decide +kernel
theorem dX11_fleetOf_49 : decode cX11_fleetOf 49 = .ok (.ireturn, 1) := by decide +kernel
theorem dX11_fleet_0 : decode cX11_fleet 0 = .ok (.iload_n 1, 1) := by decide +kernel
theorem dX11_fleet_1 : decode cX11_fleet 1 = .ok (.iconst 0, 1) := by decide +kernel
theorem dX11_fleet_2 : decode cX11_fleet 2 = .ok (.bipush 9, 2) := by decide +kernel
theorem dX11_fleet_4 : decode cX11_fleet 4 = .ok (.invokestatic 124, 3) := by decide +kernel
theorem dX11_fleet_7 : decode cX11_fleet 7 = .ok (.ifCond .eq 10, 3) := by decide +kernel
theorem dX11_fleet_10 : decode cX11_fleet 10 = .ok (.iload_n 2, 1) := by decide +kernel
theorem dX11_fleet_11 : decode cX11_fleet 11 = .ok (.invokestatic 159, 3) := by decide +kernel
theorem dX11_fleet_14 : decode cX11_fleet 14 = .ok (.ifCond .ne 9, 3) := by decide +kernel
theorem dX11_fleet_17 : decode cX11_fleet 17 = .ok (.aload_n 0, 1) := by decide +kernel
theorem dX11_fleet_18 : decode cX11_fleet 18 = .ok (.iconst 1, 1) := by decide +kernel
theorem dX11_fleet_19 : decode cX11_fleet 19 = .ok (.invokevirtual 137, 3) := by decide +kernel
theorem dX11_fleet_22 : decode cX11_fleet 22 = .ok (.ireturn, 1) := by decide +kernel
theorem dX11_fleet_23 : decode cX11_fleet 23 = .ok (.aload_n 0, 1) := by decide +kernel
theorem dX11_fleet_24 : decode cX11_fleet 24 = .ok (.iload_n 1, 1) := by decide +kernel
theorem dX11_fleet_25 : decode cX11_fleet 25 = .ok (.iload_n 2, 1) := by decide +kernel
theorem dX11_fleet_26 : decode cX11_fleet 26 = .ok (.invokevirtual 168, 3) := by decide +kernel
theorem dX11_fleet_29 : decode cX11_fleet 29 = .ok (.ireturn, 1) := by decide +kernel
theorem dX11_day_0 : decode cX11_day 0 = .ok (.iload_n 1, 1) := by decide +kernel
theorem dX11_day_1 : decode cX11_day 1 = .ok (.invokestatic 159, 3) := by decide +kernel
theorem dX11_day_4 : decode cX11_day 4 = .ok (.ifCond .eq 11, 3) := by decide +kernel
theorem dX11_day_7 : decode cX11_day 7 = .ok (.iload_n 1, 1) := by decide +kernel
theorem dX11_day_8 : decode cX11_day 8 = .ok (.aload_n 0, 1) := by decide +kernel
theorem dX11_day_9 : decode cX11_day 9 = .ok (.getfield 134, 3) := by decide +kernel
theorem dX11_day_12 : decode cX11_day 12 = .ok (.if_icmp .ge 9, 3) := by decide +kernel
theorem dX11_day_15 : decode cX11_day 15 = .ok (.aload_n 0, 1) := by decide +kernel
theorem dX11_day_16 : decode cX11_day 16 = .ok (.iconst 1, 1) := by decide +kernel
theorem dX11_day_17 : decode cX11_day 17 = .ok (.invokevirtual 137, 3) := by decide +kernel
theorem dX11_day_20 : decode cX11_day 20 = .ok (.ireturn, 1) := by decide +kernel
theorem dX11_day_21 : decode cX11_day 21 = .ok (.iload_n 1, 1) := by decide +kernel
theorem dX11_day_22 : decode cX11_day 22 = .ok (.aload_n 0, 1) := by decide +kernel
theorem dX11_day_23 : decode cX11_day 23 = .ok (.getfield 134, 3) := by decide +kernel
theorem dX11_day_26 : decode cX11_day 26 = .ok (.isub, 1) := by decide +kernel
theorem dX11_day_27 : decode cX11_day 27 = .ok (.istore_n 2, 1) := by decide +kernel
theorem dX11_day_28 : decode cX11_day 28 = .ok (.aload_n 0, 1) := by decide +kernel
theorem dX11_day_29 : decode cX11_day 29 = .ok (.iload_n 1, 1) := by decide +kernel
theorem dX11_day_30 : decode cX11_day 30 = .ok (.putfield 134, 3) := by decide +kernel
theorem dX11_day_33 : decode cX11_day 33 = .ok (.iload_n 2, 1) := by decide +kernel
theorem dX11_day_34 : decode cX11_day 34 = .ok (.ireturn, 1) := by decide +kernel
theorem dX11_openCall_0 : decode cX11_openCall 0 = .ok (.iconst (-1), 1) := by decide +kernel
theorem dX11_openCall_1 : decode cX11_openCall 1 = .ok (.istore_n 2, 1) := by decide +kernel
theorem dX11_openCall_2 : decode cX11_openCall 2 = .ok (.iconst 0, 1) := by decide +kernel
theorem dX11_openCall_3 : decode cX11_openCall 3 = .ok (.istore_n 3, 1) := by decide +kernel
theorem dX11_openCall_4 : decode cX11_openCall 4 = .ok (.iload_n 3, 1) := by decide +kernel
theorem dX11_openCall_5 : decode cX11_openCall 5 = .ok (.aload_n 0, 1) := by decide +kernel
theorem dX11_openCall_6 : decode cX11_openCall 6 = .ok (.getfield 128, 3) := by decide +kernel
theorem dX11_openCall_9 : decode cX11_openCall 9 = .ok (.if_icmp .ge 34, 3) := by decide +kernel
theorem dX11_openCall_12 : decode cX11_openCall 12 = .ok (.aload_n 0, 1) := by decide +kernel
theorem dX11_openCall_13 : decode cX11_openCall 13 = .ok (.getfield 37, 3) := by decide +kernel
theorem dX11_openCall_16 : decode cX11_openCall 16 = .ok (.iload_n 3, 1) := by decide +kernel
theorem dX11_openCall_17 : decode cX11_openCall 17 = .ok (.iaload, 1) := by decide +kernel
theorem dX11_openCall_18 : decode cX11_openCall 18 = .ok (.iload_n 1, 1) := by decide +kernel
theorem dX11_openCall_19 : decode cX11_openCall 19 = .ok (.if_icmp .ne 16, 3) := by decide +kernel
theorem dX11_openCall_22 : decode cX11_openCall 22 = .ok (.aload_n 0, 1) := by decide +kernel
theorem dX11_openCall_23 : decode cX11_openCall 23 = .ok (.getfield 46, 3) := by decide +kernel
theorem dX11_openCall_26 : decode cX11_openCall 26 = .ok (.iload_n 3, 1) := by decide +kernel
theorem dX11_openCall_27 : decode cX11_openCall 27 = .ok (.iaload, 1) := by decide +kernel
theorem dX11_openCall_28 : decode cX11_openCall 28 = .ok (.ifCond .ge 7, 3) := by decide +kernel
theorem dX11_openCall_31 : decode cX11_openCall 31 = .ok (.iload_n 3, 1) := by decide +kernel
theorem dX11_openCall_32 : decode cX11_openCall 32 = .ok (.goto 4, 3) := by decide +kernel
theorem dX11_openCall_35 : decode cX11_openCall 35 = .ok (.iload_n 2, 1) := by decide +kernel
theorem dX11_openCall_36 : decode cX11_openCall 36 = .ok (.istore_n 2, 1) := by decide +kernel
theorem dX11_openCall_37 : decode cX11_openCall 37 = .ok (.iinc 3 1, 3) := by decide +kernel
theorem dX11_openCall_40 : decode cX11_openCall 40 = .ok (.goto (-36), 3) := by decide +kernel
theorem dX11_openCall_43 : decode cX11_openCall 43 = .ok (.iload_n 2, 1) := by decide +kernel
theorem dX11_openCall_44 : decode cX11_openCall 44 = .ok (.ireturn, 1) := by decide +kernel
theorem dX11_call_0 : decode cX11_call 0 = .ok (.aload_n 0, 1) := by decide +kernel
theorem dX11_call_1 : decode cX11_call 1 = .ok (.iload_n 1, 1) := by decide +kernel
theorem dX11_call_2 : decode cX11_call 2 = .ok (.invokevirtual 141, 3) := by decide +kernel
theorem dX11_call_5 : decode cX11_call 5 = .ok (.ifCond .eq 12, 3) := by decide +kernel
theorem dX11_call_8 : decode cX11_call 8 = .ok (.iload_n 2, 1) := by decide +kernel
theorem dX11_call_9 : decode cX11_call 9 = .ok (.iconst 0, 1) := by decide +kernel
theorem dX11_call_10 : decode cX11_call 10 = .ok (.iconst 4, 1) := by decide +kernel
theorem dX11_call_11 : decode cX11_call 11 = .ok (.invokestatic 124, 3) := by decide +kernel
theorem dX11_call_14 : decode cX11_call 14 = .ok (.ifCond .ne 9, 3) := by decide +kernel
theorem dX11_call_17 : decode cX11_call 17 = .ok (.aload_n 0, 1) := by decide +kernel
theorem dX11_call_18 : decode cX11_call 18 = .ok (.iconst 1, 1) := by decide +kernel
theorem dX11_call_19 : decode cX11_call 19 = .ok (.invokevirtual 137, 3) := by decide +kernel
theorem dX11_call_22 : decode cX11_call 22 = .ok (.ireturn, 1) := by decide +kernel
theorem dX11_call_23 : decode cX11_call 23 = .ok (.aload_n 0, 1) := by decide +kernel
theorem dX11_call_24 : decode cX11_call 24 = .ok (.iload_n 1, 1) := by decide +kernel
theorem dX11_call_25 : decode cX11_call 25 = .ok (.invokevirtual 172, 3) := by decide +kernel
theorem dX11_call_28 : decode cX11_call 28 = .ok (.ifCond .ge 12, 3) := by decide +kernel
theorem dX11_call_31 : decode cX11_call 31 = .ok (.aload_n 0, 1) := by decide +kernel
theorem dX11_call_32 : decode cX11_call 32 = .ok (.getfield 93, 3) := by decide +kernel
theorem dX11_call_35 : decode cX11_call 35 = .ok (.iload_n 1, 1) := by decide +kernel
theorem dX11_call_36 : decode cX11_call 36 = .ok (.baload, 1) := by decide +kernel
theorem dX11_call_37 : decode cX11_call 37 = .ok (.ifCond .eq 9, 3) := by decide +kernel
theorem dX11_call_40 : decode cX11_call 40 = .ok (.aload_n 0, 1) := by decide +kernel
theorem dX11_call_41 : decode cX11_call 41 = .ok (.iconst 3, 1) := by decide +kernel
theorem dX11_call_42 : decode cX11_call 42 = .ok (.invokevirtual 137, 3) := by decide +kernel
theorem dX11_call_45 : decode cX11_call 45 = .ok (.ireturn, 1) := by decide +kernel
theorem dX11_call_46 : decode cX11_call 46 = .ok (.aload_n 0, 1) := by decide +kernel
theorem dX11_call_47 : decode cX11_call 47 = .ok (.getfield 128, 3) := by decide +kernel
theorem dX11_call_50 : decode cX11_call 50 = .ok (.bipush 50, 2) := by decide +kernel
theorem dX11_call_52 : decode cX11_call 52 = .ok (.if_icmp .ne 9, 3) := by decide +kernel
theorem dX11_call_55 : decode cX11_call 55 = .ok (.aload_n 0, 1) := by decide +kernel
theorem dX11_call_56 : decode cX11_call 56 = .ok (.iconst 4, 1) := by decide +kernel
theorem dX11_call_57 : decode cX11_call 57 = .ok (.invokevirtual 137, 3) := by decide +kernel
theorem dX11_call_60 : decode cX11_call 60 = .ok (.ireturn, 1) := by decide +kernel
theorem dX11_call_61 : decode cX11_call 61 = .ok (.aload_n 0, 1) := by decide +kernel
theorem dX11_call_62 : decode cX11_call 62 = .ok (.getfield 37, 3) := by decide +kernel
theorem dX11_call_65 : decode cX11_call 65 = .ok (.aload_n 0, 1) := by decide +kernel
theorem dX11_call_66 : decode cX11_call 66 = .ok (.getfield 128, 3) := by decide +kernel
theorem dX11_call_69 : decode cX11_call 69 = .ok (.iload_n 1, 1) := by decide +kernel
theorem dX11_call_70 : decode cX11_call 70 = .ok (.iastore, 1) := by decide +kernel
theorem dX11_call_71 : decode cX11_call 71 = .ok (.aload_n 0, 1) := by decide +kernel
theorem dX11_call_72 : decode cX11_call 72 = .ok (.getfield 40, 3) := by decide +kernel
theorem dX11_call_75 : decode cX11_call 75 = .ok (.aload_n 0, 1) := by decide +kernel
theorem dX11_call_76 : decode cX11_call 76 = .ok (.getfield 128, 3) := by decide +kernel
theorem dX11_call_79 : decode cX11_call 79 = .ok (.iload_n 2, 1) := by decide +kernel
theorem dX11_call_80 : decode cX11_call 80 = .ok (.iastore, 1) := by decide +kernel
theorem dX11_call_81 : decode cX11_call 81 = .ok (.aload_n 0, 1) := by decide +kernel
theorem dX11_call_82 : decode cX11_call 82 = .ok (.getfield 43, 3) := by decide +kernel
theorem dX11_call_85 : decode cX11_call 85 = .ok (.aload_n 0, 1) := by decide +kernel
theorem dX11_call_86 : decode cX11_call 86 = .ok (.getfield 128, 3) := by decide +kernel
theorem dX11_call_89 : decode cX11_call 89 = .ok (.aload_n 0, 1) := by decide +kernel
theorem dX11_call_90 : decode cX11_call 90 = .ok (.getfield 134, 3) := by decide +kernel
theorem dX11_call_93 : decode cX11_call 93 = .ok (.iastore, 1) := by decide +kernel
theorem dX11_call_94 : decode cX11_call 94 = .ok (.aload_n 0, 1) := by decide +kernel
theorem dX11_call_95 : decode cX11_call 95 = .ok (.getfield 46, 3) := by decide +kernel
theorem dX11_call_98 : decode cX11_call 98 = .ok (.aload_n 0, 1) := by decide +kernel
theorem dX11_call_99 : decode cX11_call 99 = .ok (.getfield 128, 3) := by decide +kernel
theorem dX11_call_102 : decode cX11_call 102 = .ok (.iconst (-1), 1) := by decide +kernel
theorem dX11_call_103 : decode cX11_call 103 = .ok (.iastore, 1) := by decide +kernel
theorem dX11_call_104 : decode cX11_call 104 = .ok (.aload_n 0, 1) := by decide +kernel
theorem dX11_call_105 : decode cX11_call 105 = .ok (.dup, 1) := by decide +kernel
theorem dX11_call_106 : decode cX11_call 106 = .ok (.getfield 128, 3) := by decide +kernel
theorem dX11_call_109 : decode cX11_call 109 = .ok (.iconst 1, 1) := by decide +kernel
theorem dX11_call_110 : decode cX11_call 110 = .ok (.iadd, 1) := by decide +kernel
theorem dX11_call_111 : decode cX11_call 111 = .ok (.putfield 128, 3) := by decide +kernel
theorem dX11_call_114 : decode cX11_call 114 = .ok (.aload_n 0, 1) := by decide +kernel
theorem dX11_call_115 : decode cX11_call 115 = .ok (.getfield 128, 3) := by decide +kernel
theorem dX11_call_118 : decode cX11_call 118 = .ok (.iconst 1, 1) := by decide +kernel
theorem dX11_call_119 : decode cX11_call 119 = .ok (.isub, 1) := by decide +kernel
theorem dX11_call_120 : decode cX11_call 120 = .ok (.ireturn, 1) := by decide +kernel
theorem dX11_leave_0 : decode cX11_leave 0 = .ok (.aload_n 0, 1) := by decide +kernel
theorem dX11_leave_1 : decode cX11_leave 1 = .ok (.iload_n 1, 1) := by decide +kernel
theorem dX11_leave_2 : decode cX11_leave 2 = .ok (.invokevirtual 175, 3) := by decide +kernel
theorem dX11_leave_5 : decode cX11_leave 5 = .ok (.ifCond .ne 9, 3) := by decide +kernel
theorem dX11_leave_8 : decode cX11_leave 8 = .ok (.aload_n 0, 1) := by decide +kernel
theorem dX11_leave_9 : decode cX11_leave 9 = .ok (.iconst 1, 1) := by decide +kernel
theorem dX11_leave_10 : decode cX11_leave 10 = .ok (.invokevirtual 137, 3) := by decide +kernel
theorem dX11_leave_13 : decode cX11_leave 13 = .ok (.ireturn, 1) := by decide +kernel
theorem dX11_leave_14 : decode cX11_leave 14 = .ok (.aload_n 0, 1) := by decide +kernel
theorem dX11_leave_15 : decode cX11_leave 15 = .ok (.getfield 46, 3) := by decide +kernel
theorem dX11_leave_18 : decode cX11_leave 18 = .ok (.iload_n 1, 1) := by decide +kernel
theorem dX11_leave_19 : decode cX11_leave 19 = .ok (.iaload, 1) := by decide +kernel
theorem dX11_leave_20 : decode cX11_leave 20 = .ok (.ifCond .ge 12, 3) := by decide +kernel
theorem dX11_leave_23 : decode cX11_leave 23 = .ok (.aload_n 0, 1) := by decide +kernel
theorem dX11_leave_24 : decode cX11_leave 24 = .ok (.getfield 49, 3) := by decide +kernel
theorem dX11_leave_27 : decode cX11_leave 27 = .ok (.iload_n 1, 1) := by decide +kernel
theorem dX11_leave_28 : decode cX11_leave 28 = .ok (.baload, 1) := by decide +kernel
theorem dX11_leave_29 : decode cX11_leave 29 = .ok (.ifCond .eq 9, 3) := by decide +kernel
theorem dX11_leave_32 : decode cX11_leave 32 = .ok (.aload_n 0, 1) := by decide +kernel
theorem dX11_leave_33 : decode cX11_leave 33 = .ok (.iconst 3, 1) := by decide +kernel
theorem dX11_leave_34 : decode cX11_leave 34 = .ok (.invokevirtual 137, 3) := by decide +kernel
theorem dX11_leave_37 : decode cX11_leave 37 = .ok (.ireturn, 1) := by decide +kernel
theorem dX11_leave_38 : decode cX11_leave 38 = .ok (.aload_n 0, 1) := by decide +kernel
theorem dX11_leave_39 : decode cX11_leave 39 = .ok (.getfield 46, 3) := by decide +kernel
theorem dX11_leave_42 : decode cX11_leave 42 = .ok (.iload_n 1, 1) := by decide +kernel
theorem dX11_leave_43 : decode cX11_leave 43 = .ok (.aload_n 0, 1) := by decide +kernel
theorem dX11_leave_44 : decode cX11_leave 44 = .ok (.getfield 134, 3) := by decide +kernel
theorem dX11_leave_47 : decode cX11_leave 47 = .ok (.iastore, 1) := by decide +kernel
theorem dX11_leave_48 : decode cX11_leave 48 = .ok (.iconst 1, 1) := by decide +kernel
theorem dX11_leave_49 : decode cX11_leave 49 = .ok (.ireturn, 1) := by decide +kernel
theorem dX11_looksAt_0 : decode cX11_looksAt 0 = .ok (.iconst 0, 1) := by decide +kernel
theorem dX11_looksAt_1 : decode cX11_looksAt 1 = .ok (.istore_n 2, 1) := by decide +kernel
theorem dX11_looksAt_2 : decode cX11_looksAt 2 = .ok (.iconst 0, 1) := by decide +kernel
theorem dX11_looksAt_3 : decode cX11_looksAt 3 = .ok (.istore_n 3, 1) := by decide +kernel
theorem dX11_looksAt_4 : decode cX11_looksAt 4 = .ok (.iload_n 3, 1) := by decide +kernel
theorem dX11_looksAt_5 : decode cX11_looksAt 5 = .ok (.aload_n 0, 1) := by decide +kernel
theorem dX11_looksAt_6 : decode cX11_looksAt 6 = .ok (.getfield 131, 3) := by decide +kernel
theorem dX11_looksAt_9 : decode cX11_looksAt 9 = .ok (.if_icmp .ge 27, 3) := by decide +kernel
theorem dX11_looksAt_12 : decode cX11_looksAt 12 = .ok (.iload_n 2, 1) := by decide +kernel
theorem dX11_looksAt_13 : decode cX11_looksAt 13 = .ok (.aload_n 0, 1) := by decide +kernel
theorem dX11_looksAt_14 : decode cX11_looksAt 14 = .ok (.getfield 68, 3) := by decide +kernel
theorem dX11_looksAt_17 : decode cX11_looksAt 17 = .ok (.iload_n 3, 1) := by decide +kernel
theorem dX11_looksAt_18 : decode cX11_looksAt 18 = .ok (.iaload, 1) := by decide +kernel
theorem dX11_looksAt_19 : decode cX11_looksAt 19 = .ok (.iload_n 1, 1) := by decide +kernel
theorem dX11_looksAt_20 : decode cX11_looksAt 20 = .ok (.if_icmp .ne 7, 3) := by decide +kernel
theorem dX11_looksAt_23 : decode cX11_looksAt 23 = .ok (.iconst 1, 1) := by decide +kernel
theorem dX11_looksAt_24 : decode cX11_looksAt 24 = .ok (.goto 4, 3) := by decide +kernel
theorem dX11_looksAt_27 : decode cX11_looksAt 27 = .ok (.iconst 0, 1) := by decide +kernel
theorem dX11_looksAt_28 : decode cX11_looksAt 28 = .ok (.iadd, 1) := by decide +kernel
theorem dX11_looksAt_29 : decode cX11_looksAt 29 = .ok (.istore_n 2, 1) := by decide +kernel
theorem dX11_looksAt_30 : decode cX11_looksAt 30 = .ok (.iinc 3 1, 3) := by decide +kernel
theorem dX11_looksAt_33 : decode cX11_looksAt 33 = .ok (.goto (-29), 3) := by decide +kernel
theorem dX11_looksAt_36 : decode cX11_looksAt 36 = .ok (.iload_n 2, 1) := by decide +kernel
theorem dX11_looksAt_37 : decode cX11_looksAt 37 = .ok (.ireturn, 1) := by decide +kernel
theorem dX11_of_0 : decode cX11_of 0 = .ok (.aload_n 0, 1) := by decide +kernel
theorem dX11_of_1 : decode cX11_of 1 = .ok (.iload_n 1, 1) := by decide +kernel
theorem dX11_of_2 : decode cX11_of 2 = .ok (.invokevirtual 175, 3) := by decide +kernel
theorem dX11_of_5 : decode cX11_of 5 = .ok (.ifCond .eq 12, 3) := by decide +kernel
theorem dX11_of_8 : decode cX11_of 8 = .ok (.iload_n 2, 1) := by decide +kernel
theorem dX11_of_9 : decode cX11_of 9 = .ok (.iconst 0, 1) := by decide +kernel
theorem dX11_of_10 : decode cX11_of 10 = .ok (.iconst 5, 1) := by decide +kernel
theorem dX11_of_11 : decode cX11_of 11 = .ok (.invokestatic 124, 3) := by decide +kernel
theorem dX11_of_14 : decode cX11_of 14 = .ok (.ifCond .ne 9, 3) := by decide +kernel
theorem dX11_of_17 : decode cX11_of 17 = .ok (.aload_n 0, 1) := by decide +kernel
theorem dX11_of_18 : decode cX11_of 18 = .ok (.iconst 1, 1) := by decide +kernel
theorem dX11_of_19 : decode cX11_of 19 = .ok (.invokevirtual 137, 3) := by decide +kernel
theorem dX11_of_22 : decode cX11_of 22 = .ok (.ireturn, 1) := by decide +kernel
theorem dX11_of_23 : decode cX11_of 23 = .ok (.iload_n 2, 1) := by decide +kernel
theorem dX11_of_24 : decode cX11_of 24 = .ok (.tableswitch 79 0 4 #[36, 43, 50, 57, 64], 36) := by decide +kernel
theorem dX11_of_60 : decode cX11_of 60 = .ok (.aload_n 0, 1) := by decide +kernel
theorem dX11_of_61 : decode cX11_of 61 = .ok (.getfield 37, 3) := by decide +kernel
theorem dX11_of_64 : decode cX11_of 64 = .ok (.iload_n 1, 1) := by decide +kernel
theorem dX11_of_65 : decode cX11_of 65 = .ok (.iaload, 1) := by decide +kernel
theorem dX11_of_66 : decode cX11_of 66 = .ok (.ireturn, 1) := by decide +kernel
theorem dX11_of_67 : decode cX11_of 67 = .ok (.aload_n 0, 1) := by decide +kernel
theorem dX11_of_68 : decode cX11_of 68 = .ok (.getfield 40, 3) := by decide +kernel
theorem dX11_of_71 : decode cX11_of 71 = .ok (.iload_n 1, 1) := by decide +kernel
theorem dX11_of_72 : decode cX11_of 72 = .ok (.iaload, 1) := by decide +kernel
theorem dX11_of_73 : decode cX11_of 73 = .ok (.ireturn, 1) := by decide +kernel
theorem dX11_of_74 : decode cX11_of 74 = .ok (.aload_n 0, 1) := by decide +kernel
theorem dX11_of_75 : decode cX11_of 75 = .ok (.getfield 43, 3) := by decide +kernel
theorem dX11_of_78 : decode cX11_of 78 = .ok (.iload_n 1, 1) := by decide +kernel
theorem dX11_of_79 : decode cX11_of 79 = .ok (.iaload, 1) := by decide +kernel
theorem dX11_of_80 : decode cX11_of 80 = .ok (.ireturn, 1) := by decide +kernel
theorem dX11_of_81 : decode cX11_of 81 = .ok (.aload_n 0, 1) := by decide +kernel
theorem dX11_of_82 : decode cX11_of 82 = .ok (.getfield 46, 3) := by decide +kernel
theorem dX11_of_85 : decode cX11_of 85 = .ok (.iload_n 1, 1) := by decide +kernel
theorem dX11_of_86 : decode cX11_of 86 = .ok (.iaload, 1) := by decide +kernel
theorem dX11_of_87 : decode cX11_of 87 = .ok (.ireturn, 1) := by decide +kernel
theorem dX11_of_88 : decode cX11_of 88 = .ok (.aload_n 0, 1) := by decide +kernel
theorem dX11_of_89 : decode cX11_of 89 = .ok (.getfield 49, 3) := by decide +kernel
theorem dX11_of_92 : decode cX11_of 92 = .ok (.iload_n 1, 1) := by decide +kernel
theorem dX11_of_93 : decode cX11_of 93 = .ok (.baload, 1) := by decide +kernel
theorem dX11_of_94 : decode cX11_of 94 = .ok (.ifCond .eq 7, 3) := by decide +kernel
theorem dX11_of_97 : decode cX11_of 97 = .ok (.iconst 1, 1) := by decide +kernel
theorem dX11_of_98 : decode cX11_of 98 = .ok (.goto 4, 3) := by decide +kernel
theorem dX11_of_101 : decode cX11_of 101 = .ok (.iconst 0, 1) := by decide +kernel
theorem dX11_of_102 : decode cX11_of 102 = .ok (.ireturn, 1) := by decide +kernel
theorem dX11_of_103 : decode cX11_of 103 = .ok (.aload_n 0, 1) := by decide +kernel
theorem dX11_of_104 : decode cX11_of 104 = .ok (.iload_n 1, 1) := by decide +kernel
theorem dX11_of_105 : decode cX11_of 105 = .ok (.invokevirtual 178, 3) := by decide +kernel
theorem dX11_of_108 : decode cX11_of 108 = .ok (.ireturn, 1) := by decide +kernel
theorem dX11_feed_0 : decode cX11_feed 0 = .ok (.iload_n 1, 1) := by decide +kernel
theorem dX11_feed_1 : decode cX11_feed 1 = .ok (.iconst 0, 1) := by decide +kernel
theorem dX11_feed_2 : decode cX11_feed 2 = .ok (.sipush 255, 3) := by decide +kernel
theorem dX11_feed_5 : decode cX11_feed 5 = .ok (.invokestatic 124, 3) := by decide +kernel
theorem dX11_feed_8 : decode cX11_feed 8 = .ok (.ifCond .ne 9, 3) := by decide +kernel
theorem dX11_feed_11 : decode cX11_feed 11 = .ok (.aload_n 0, 1) := by decide +kernel
theorem dX11_feed_12 : decode cX11_feed 12 = .ok (.iconst 1, 1) := by decide +kernel
theorem dX11_feed_13 : decode cX11_feed 13 = .ok (.invokevirtual 137, 3) := by decide +kernel
theorem dX11_feed_16 : decode cX11_feed 16 = .ok (.ireturn, 1) := by decide +kernel
theorem dX11_feed_17 : decode cX11_feed 17 = .ok (.aload_n 0, 1) := by decide +kernel
theorem dX11_feed_18 : decode cX11_feed 18 = .ok (.getfield 181, 3) := by decide +kernel
theorem dX11_feed_21 : decode cX11_feed 21 = .ok (.bipush 60, 2) := by decide +kernel
theorem dX11_feed_23 : decode cX11_feed 23 = .ok (.if_icmp .ne 9, 3) := by decide +kernel
theorem dX11_feed_26 : decode cX11_feed 26 = .ok (.aload_n 0, 1) := by decide +kernel
theorem dX11_feed_27 : decode cX11_feed 27 = .ok (.iconst 4, 1) := by decide +kernel
theorem dX11_feed_28 : decode cX11_feed 28 = .ok (.invokevirtual 137, 3) := by decide +kernel
theorem dX11_feed_31 : decode cX11_feed 31 = .ok (.ireturn, 1) := by decide +kernel
theorem dX11_feed_32 : decode cX11_feed 32 = .ok (.aload_n 0, 1) := by decide +kernel
theorem dX11_feed_33 : decode cX11_feed 33 = .ok (.getfield 53, 3) := by decide +kernel
theorem dX11_feed_36 : decode cX11_feed 36 = .ok (.aload_n 0, 1) := by decide +kernel
theorem dX11_feed_37 : decode cX11_feed 37 = .ok (.getfield 181, 3) := by decide +kernel
theorem dX11_feed_40 : decode cX11_feed 40 = .ok (.iload_n 1, 1) := by decide +kernel
theorem dX11_feed_41 : decode cX11_feed 41 = .ok (.iastore, 1) := by decide +kernel
theorem dX11_feed_42 : decode cX11_feed 42 = .ok (.aload_n 0, 1) := by decide +kernel
theorem dX11_feed_43 : decode cX11_feed 43 = .ok (.dup, 1) := by decide +kernel
theorem dX11_feed_44 : decode cX11_feed 44 = .ok (.getfield 181, 3) := by decide +kernel
theorem dX11_feed_47 : decode cX11_feed 47 = .ok (.iconst 1, 1) := by decide +kernel
theorem dX11_feed_48 : decode cX11_feed 48 = .ok (.iadd, 1) := by decide +kernel
theorem dX11_feed_49 : decode cX11_feed 49 = .ok (.putfield 181, 3) := by decide +kernel
theorem dX11_feed_52 : decode cX11_feed 52 = .ok (.aload_n 0, 1) := by decide +kernel
theorem dX11_feed_53 : decode cX11_feed 53 = .ok (.getfield 181, 3) := by decide +kernel
theorem dX11_feed_56 : decode cX11_feed 56 = .ok (.ireturn, 1) := by decide +kernel
theorem dX11_isDigit_0 : decode cX11_isDigit 0 = .ok (.iload_n 1, 1) := by decide +kernel
theorem dX11_isDigit_1 : decode cX11_isDigit 1 = .ok (.aload_n 0, 1) := by decide +kernel
theorem dX11_isDigit_2 : decode cX11_isDigit 2 = .ok (.getfield 181, 3) := by decide +kernel
theorem dX11_isDigit_5 : decode cX11_isDigit 5 = .ok (.if_icmp .ge 23, 3) := by decide +kernel
theorem dX11_isDigit_8 : decode cX11_isDigit 8 = .ok (.aload_n 0, 1) := by decide +kernel
theorem dX11_isDigit_9 : decode cX11_isDigit 9 = .ok (.getfield 53, 3) := by decide +kernel
theorem dX11_isDigit_12 : decode cX11_isDigit 12 = .ok (.iload_n 1, 1) := by decide +kernel
theorem dX11_isDigit_13 : decode cX11_isDigit 13 = .ok (.iaload, 1) := by decide +kernel
theorem dX11_isDigit_14 : decode cX11_isDigit 14 = .ok (.bipush 48, 2) := by decide +kernel
theorem dX11_isDigit_16 : decode cX11_isDigit 16 = .ok (.bipush 57, 2) := by decide +kernel
theorem dX11_isDigit_18 : decode cX11_isDigit 18 = .ok (.invokestatic 124, 3) := by decide +kernel
theorem dX11_isDigit_21 : decode cX11_isDigit 21 = .ok (.ifCond .eq 7, 3) := by decide +kernel
theorem dX11_isDigit_24 : decode cX11_isDigit 24 = .ok (.iconst 1, 1) := by decide +kernel
theorem dX11_isDigit_25 : decode cX11_isDigit 25 = .ok (.goto 4, 3) := by decide +kernel
theorem dX11_isDigit_28 : decode cX11_isDigit 28 = .ok (.iconst 0, 1) := by decide +kernel
theorem dX11_isDigit_29 : decode cX11_isDigit 29 = .ok (.ireturn, 1) := by decide +kernel
theorem dX11_isByte_0 : decode cX11_isByte 0 = .ok (.iload_n 1, 1) := by decide +kernel
theorem dX11_isByte_1 : decode cX11_isByte 1 = .ok (.aload_n 0, 1) := by decide +kernel
theorem dX11_isByte_2 : decode cX11_isByte 2 = .ok (.getfield 181, 3) := by decide +kernel
theorem dX11_isByte_5 : decode cX11_isByte 5 = .ok (.if_icmp .ge 17, 3) := by decide +kernel
theorem dX11_isByte_8 : decode cX11_isByte 8 = .ok (.aload_n 0, 1) := by decide +kernel
theorem dX11_isByte_9 : decode cX11_isByte 9 = .ok (.getfield 53, 3) := by decide +kernel
theorem dX11_isByte_12 : decode cX11_isByte 12 = .ok (.iload_n 1, 1) := by decide +kernel
theorem dX11_isByte_13 : decode cX11_isByte 13 = .ok (.iaload, 1) := by decide +kernel
theorem dX11_isByte_14 : decode cX11_isByte 14 = .ok (.iload_n 2, 1) := by decide +kernel
theorem dX11_isByte_15 : decode cX11_isByte 15 = .ok (.if_icmp .ne 7, 3) := by decide +kernel
theorem dX11_isByte_18 : decode cX11_isByte 18 = .ok (.iconst 1, 1) := by decide +kernel
theorem dX11_isByte_19 : decode cX11_isByte 19 = .ok (.goto 4, 3) := by decide +kernel
theorem dX11_isByte_22 : decode cX11_isByte 22 = .ok (.iconst 0, 1) := by decide +kernel
theorem dX11_isByte_23 : decode cX11_isByte 23 = .ok (.ireturn, 1) := by decide +kernel
theorem dX11_kindAt_0 : decode cX11_kindAt 0 = .ok (.aload_n 0, 1) := by decide +kernel
theorem dX11_kindAt_1 : decode cX11_kindAt 1 = .ok (.iload_n 1, 1) := by decide +kernel
theorem dX11_kindAt_2 : decode cX11_kindAt 2 = .ok (.bipush 115, 2) := by decide +kernel
theorem dX11_kindAt_4 : decode cX11_kindAt 4 = .ok (.invokevirtual 184, 3) := by decide +kernel
theorem dX11_kindAt_7 : decode cX11_kindAt 7 = .ok (.ifCond .eq 7, 3) := by decide +kernel
theorem dX11_kindAt_10 : decode cX11_kindAt 10 = .ok (.iconst 0, 1) := by decide +kernel
theorem dX11_kindAt_11 : decode cX11_kindAt 11 = .ok (.goto 46, 3) := by decide +kernel
theorem dX11_kindAt_14 : decode cX11_kindAt 14 = .ok (.aload_n 0, 1) := by decide +kernel
theorem dX11_kindAt_15 : decode cX11_kindAt 15 = .ok (.iload_n 1, 1) := by decide +kernel
theorem dX11_kindAt_16 : decode cX11_kindAt 16 = .ok (.bipush 116, 2) := by decide +kernel
theorem dX11_kindAt_18 : decode cX11_kindAt 18 = .ok (.invokevirtual 184, 3) := by decide +kernel
theorem dX11_kindAt_21 : decode cX11_kindAt 21 = .ok (.ifCond .eq 7, 3) := by decide +kernel
theorem dX11_kindAt_24 : decode cX11_kindAt 24 = .ok (.iconst 1, 1) := by decide +kernel
theorem dX11_kindAt_25 : decode cX11_kindAt 25 = .ok (.goto 32, 3) := by decide +kernel
theorem dX11_kindAt_28 : decode cX11_kindAt 28 = .ok (.aload_n 0, 1) := by decide +kernel
theorem dX11_kindAt_29 : decode cX11_kindAt 29 = .ok (.iload_n 1, 1) := by decide +kernel
theorem dX11_kindAt_30 : decode cX11_kindAt 30 = .ok (.bipush 103, 2) := by decide +kernel
theorem dX11_kindAt_32 : decode cX11_kindAt 32 = .ok (.invokevirtual 184, 3) := by decide +kernel
theorem dX11_kindAt_35 : decode cX11_kindAt 35 = .ok (.ifCond .eq 7, 3) := by decide +kernel
theorem dX11_kindAt_38 : decode cX11_kindAt 38 = .ok (.iconst 2, 1) := by decide +kernel
theorem dX11_kindAt_39 : decode cX11_kindAt 39 = .ok (.goto 18, 3) := by decide +kernel
theorem dX11_kindAt_42 : decode cX11_kindAt 42 = .ok (.aload_n 0, 1) := by decide +kernel
theorem dX11_kindAt_43 : decode cX11_kindAt 43 = .ok (.iload_n 1, 1) := by decide +kernel
theorem dX11_kindAt_44 : decode cX11_kindAt 44 = .ok (.bipush 102, 2) := by decide +kernel
theorem dX11_kindAt_46 : decode cX11_kindAt 46 = .ok (.invokevirtual 184, 3) := by decide +kernel
theorem dX11_kindAt_49 : decode cX11_kindAt 49 = .ok (.ifCond .eq 7, 3) := by decide +kernel
theorem dX11_kindAt_52 : decode cX11_kindAt 52 = .ok (.iconst 3, 1) := by decide +kernel
theorem dX11_kindAt_53 : decode cX11_kindAt 53 = .ok (.goto 4, 3) := by decide +kernel
theorem dX11_kindAt_56 : decode cX11_kindAt 56 = .ok (.iconst (-1), 1) := by decide +kernel
theorem dX11_kindAt_57 : decode cX11_kindAt 57 = .ok (.ireturn, 1) := by decide +kernel
theorem dX11_rowEnd_0 : decode cX11_rowEnd 0 = .ok (.aload_n 0, 1) := by decide +kernel
theorem dX11_rowEnd_1 : decode cX11_rowEnd 1 = .ok (.iload_n 1, 1) := by decide +kernel
theorem dX11_rowEnd_2 : decode cX11_rowEnd 2 = .ok (.bipush 108, 2) := by decide +kernel
theorem dX11_rowEnd_4 : decode cX11_rowEnd 4 = .ok (.invokevirtual 184, 3) := by decide +kernel
theorem dX11_rowEnd_7 : decode cX11_rowEnd 7 = .ok (.ifCond .eq 39, 3) := by decide +kernel
theorem dX11_rowEnd_10 : decode cX11_rowEnd 10 = .ok (.aload_n 0, 1) := by decide +kernel
theorem dX11_rowEnd_11 : decode cX11_rowEnd 11 = .ok (.iload_n 1, 1) := by decide +kernel
theorem dX11_rowEnd_12 : decode cX11_rowEnd 12 = .ok (.iconst 1, 1) := by decide +kernel
theorem dX11_rowEnd_13 : decode cX11_rowEnd 13 = .ok (.iadd, 1) := by decide +kernel
theorem dX11_rowEnd_14 : decode cX11_rowEnd 14 = .ok (.invokevirtual 187, 3) := by decide +kernel
theorem dX11_rowEnd_17 : decode cX11_rowEnd 17 = .ok (.ifCond .ne 9, 3) := by decide +kernel
theorem dX11_rowEnd_20 : decode cX11_rowEnd 20 = .ok (.iload_n 1, 1) := by decide +kernel
theorem dX11_rowEnd_21 : decode cX11_rowEnd 21 = .ok (.iconst 1, 1) := by decide +kernel
theorem dX11_rowEnd_22 : decode cX11_rowEnd 22 = .ok (.iadd, 1) := by decide +kernel
theorem dX11_rowEnd_23 : decode cX11_rowEnd 23 = .ok (.goto 22, 3) := by decide +kernel
theorem dX11_rowEnd_26 : decode cX11_rowEnd 26 = .ok (.aload_n 0, 1) := by decide +kernel
theorem dX11_rowEnd_27 : decode cX11_rowEnd 27 = .ok (.iload_n 1, 1) := by decide +kernel
theorem dX11_rowEnd_28 : decode cX11_rowEnd 28 = .ok (.iconst 2, 1) := by decide +kernel
theorem dX11_rowEnd_29 : decode cX11_rowEnd 29 = .ok (.iadd, 1) := by decide +kernel
theorem dX11_rowEnd_30 : decode cX11_rowEnd 30 = .ok (.invokevirtual 187, 3) := by decide +kernel
theorem dX11_rowEnd_33 : decode cX11_rowEnd 33 = .ok (.ifCond .eq 9, 3) := by decide +kernel
theorem dX11_rowEnd_36 : decode cX11_rowEnd 36 = .ok (.iload_n 1, 1) := by decide +kernel
theorem dX11_rowEnd_37 : decode cX11_rowEnd 37 = .ok (.iconst 3, 1) := by decide +kernel
theorem dX11_rowEnd_38 : decode cX11_rowEnd 38 = .ok (.iadd, 1) := by decide +kernel
theorem dX11_rowEnd_39 : decode cX11_rowEnd 39 = .ok (.goto 6, 3) := by decide +kernel
theorem dX11_rowEnd_42 : decode cX11_rowEnd 42 = .ok (.iload_n 1, 1) := by decide +kernel
theorem dX11_rowEnd_43 : decode cX11_rowEnd 43 = .ok (.iconst 2, 1) := by decide +kernel
theorem dX11_rowEnd_44 : decode cX11_rowEnd 44 = .ok (.iadd, 1) := by decide +kernel
theorem dX11_rowEnd_45 : decode cX11_rowEnd 45 = .ok (.ireturn, 1) := by decide +kernel
theorem dX11_rowEnd_46 : decode cX11_rowEnd 46 = .ok (.aload_n 0, 1) := by decide +kernel
theorem dX11_rowEnd_47 : decode cX11_rowEnd 47 = .ok (.iload_n 1, 1) := by decide +kernel
theorem dX11_rowEnd_48 : decode cX11_rowEnd 48 = .ok (.bipush 119, 2) := by decide +kernel
theorem dX11_rowEnd_50 : decode cX11_rowEnd 50 = .ok (.invokevirtual 184, 3) := by decide +kernel
theorem dX11_rowEnd_53 : decode cX11_rowEnd 53 = .ok (.ifCond .eq 39, 3) := by decide +kernel
theorem dX11_rowEnd_56 : decode cX11_rowEnd 56 = .ok (.aload_n 0, 1) := by decide +kernel
theorem dX11_rowEnd_57 : decode cX11_rowEnd 57 = .ok (.iload_n 1, 1) := by decide +kernel
theorem dX11_rowEnd_58 : decode cX11_rowEnd 58 = .ok (.iconst 1, 1) := by decide +kernel
theorem dX11_rowEnd_59 : decode cX11_rowEnd 59 = .ok (.iadd, 1) := by decide +kernel
theorem dX11_rowEnd_60 : decode cX11_rowEnd 60 = .ok (.invokevirtual 187, 3) := by decide +kernel
theorem dX11_rowEnd_63 : decode cX11_rowEnd 63 = .ok (.ifCond .ne 9, 3) := by decide +kernel
theorem dX11_rowEnd_66 : decode cX11_rowEnd 66 = .ok (.iload_n 1, 1) := by decide +kernel
theorem dX11_rowEnd_67 : decode cX11_rowEnd 67 = .ok (.iconst 1, 1) := by decide +kernel
theorem dX11_rowEnd_68 : decode cX11_rowEnd 68 = .ok (.iadd, 1) := by decide +kernel
theorem dX11_rowEnd_69 : decode cX11_rowEnd 69 = .ok (.goto 22, 3) := by decide +kernel
theorem dX11_rowEnd_72 : decode cX11_rowEnd 72 = .ok (.aload_n 0, 1) := by decide +kernel
theorem dX11_rowEnd_73 : decode cX11_rowEnd 73 = .ok (.iload_n 1, 1) := by decide +kernel
theorem dX11_rowEnd_74 : decode cX11_rowEnd 74 = .ok (.iconst 2, 1) := by decide +kernel
theorem dX11_rowEnd_75 : decode cX11_rowEnd 75 = .ok (.iadd, 1) := by decide +kernel
theorem dX11_rowEnd_76 : decode cX11_rowEnd 76 = .ok (.invokevirtual 187, 3) := by decide +kernel
theorem dX11_rowEnd_79 : decode cX11_rowEnd 79 = .ok (.ifCond .ne 9, 3) := by decide +kernel
theorem dX11_rowEnd_82 : decode cX11_rowEnd 82 = .ok (.iload_n 1, 1) := by decide +kernel
theorem dX11_rowEnd_83 : decode cX11_rowEnd 83 = .ok (.iconst 2, 1) := by decide +kernel
theorem dX11_rowEnd_84 : decode cX11_rowEnd 84 = .ok (.iadd, 1) := by decide +kernel
theorem dX11_rowEnd_85 : decode cX11_rowEnd 85 = .ok (.goto 6, 3) := by decide +kernel
theorem dX11_rowEnd_88 : decode cX11_rowEnd 88 = .ok (.iload_n 1, 1) := by decide +kernel
theorem dX11_rowEnd_89 : decode cX11_rowEnd 89 = .ok (.iconst 3, 1) := by decide +kernel
theorem dX11_rowEnd_90 : decode cX11_rowEnd 90 = .ok (.iadd, 1) := by decide +kernel
theorem dX11_rowEnd_91 : decode cX11_rowEnd 91 = .ok (.ireturn, 1) := by decide +kernel
theorem dX11_rowEnd_92 : decode cX11_rowEnd 92 = .ok (.aload_n 0, 1) := by decide +kernel
theorem dX11_rowEnd_93 : decode cX11_rowEnd 93 = .ok (.iload_n 1, 1) := by decide +kernel
theorem dX11_rowEnd_94 : decode cX11_rowEnd 94 = .ok (.bipush 103, 2) := by decide +kernel
theorem dX11_rowEnd_96 : decode cX11_rowEnd 96 = .ok (.invokevirtual 184, 3) := by decide +kernel
theorem dX11_rowEnd_99 : decode cX11_rowEnd 99 = .ok (.ifCond .eq 39, 3) := by decide +kernel
theorem dX11_rowEnd_102 : decode cX11_rowEnd 102 = .ok (.aload_n 0, 1) := by decide +kernel
theorem dX11_rowEnd_103 : decode cX11_rowEnd 103 = .ok (.iload_n 1, 1) := by decide +kernel
theorem dX11_rowEnd_104 : decode cX11_rowEnd 104 = .ok (.iconst 1, 1) := by decide +kernel
theorem dX11_rowEnd_105 : decode cX11_rowEnd 105 = .ok (.iadd, 1) := by decide +kernel
theorem dX11_rowEnd_106 : decode cX11_rowEnd 106 = .ok (.invokevirtual 187, 3) := by decide +kernel
theorem dX11_rowEnd_109 : decode cX11_rowEnd 109 = .ok (.ifCond .ne 9, 3) := by decide +kernel
theorem dX11_rowEnd_112 : decode cX11_rowEnd 112 = .ok (.iload_n 1, 1) := by decide +kernel
theorem dX11_rowEnd_113 : decode cX11_rowEnd 113 = .ok (.iconst 1, 1) := by decide +kernel
theorem dX11_rowEnd_114 : decode cX11_rowEnd 114 = .ok (.iadd, 1) := by decide +kernel
theorem dX11_rowEnd_115 : decode cX11_rowEnd 115 = .ok (.goto 22, 3) := by decide +kernel
theorem dX11_rowEnd_118 : decode cX11_rowEnd 118 = .ok (.aload_n 0, 1) := by decide +kernel
theorem dX11_rowEnd_119 : decode cX11_rowEnd 119 = .ok (.iload_n 1, 1) := by decide +kernel
theorem dX11_rowEnd_120 : decode cX11_rowEnd 120 = .ok (.iconst 2, 1) := by decide +kernel
theorem dX11_rowEnd_121 : decode cX11_rowEnd 121 = .ok (.iadd, 1) := by decide +kernel
theorem dX11_rowEnd_122 : decode cX11_rowEnd 122 = .ok (.invokevirtual 190, 3) := by decide +kernel
theorem dX11_rowEnd_125 : decode cX11_rowEnd 125 = .ok (.ifCond .ge 9, 3) := by decide +kernel
theorem dX11_rowEnd_128 : decode cX11_rowEnd 128 = .ok (.iload_n 1, 1) := by decide +kernel
theorem dX11_rowEnd_129 : decode cX11_rowEnd 129 = .ok (.iconst 2, 1) := by decide +kernel
theorem dX11_rowEnd_130 : decode cX11_rowEnd 130 = .ok (.iadd, 1) := by decide +kernel
theorem dX11_rowEnd_131 : decode cX11_rowEnd 131 = .ok (.goto 6, 3) := by decide +kernel
theorem dX11_rowEnd_134 : decode cX11_rowEnd 134 = .ok (.iload_n 1, 1) := by decide +kernel
theorem dX11_rowEnd_135 : decode cX11_rowEnd 135 = .ok (.iconst 3, 1) := by decide +kernel
theorem dX11_rowEnd_136 : decode cX11_rowEnd 136 = .ok (.iadd, 1) := by decide +kernel
theorem dX11_rowEnd_137 : decode cX11_rowEnd 137 = .ok (.ireturn, 1) := by decide +kernel
theorem dX11_rowEnd_138 : decode cX11_rowEnd 138 = .ok (.iload_n 1, 1) := by decide +kernel
theorem dX11_rowEnd_139 : decode cX11_rowEnd 139 = .ok (.ireturn, 1) := by decide +kernel
theorem dX11_rowLeast_0 : decode cX11_rowLeast 0 = .ok (.aload_n 0, 1) := by decide +kernel
theorem dX11_rowLeast_1 : decode cX11_rowLeast 1 = .ok (.iload_n 1, 1) := by decide +kernel
theorem dX11_rowLeast_2 : decode cX11_rowLeast 2 = .ok (.bipush 108, 2) := by decide +kernel
theorem dX11_rowLeast_4 : decode cX11_rowLeast 4 = .ok (.invokevirtual 184, 3) := by decide +kernel
theorem dX11_rowLeast_7 : decode cX11_rowLeast 7 = .ok (.ifCond .eq 7, 3) := by decide +kernel
theorem dX11_rowLeast_10 : decode cX11_rowLeast 10 = .ok (.iconst 2, 1) := by decide +kernel
theorem dX11_rowLeast_11 : decode cX11_rowLeast 11 = .ok (.goto 4, 3) := by decide +kernel
theorem dX11_rowLeast_14 : decode cX11_rowLeast 14 = .ok (.iconst 3, 1) := by decide +kernel
theorem dX11_rowLeast_15 : decode cX11_rowLeast 15 = .ok (.ireturn, 1) := by decide +kernel
theorem dX11_rowTells_0 : decode cX11_rowTells 0 = .ok (.aload_n 0, 1) := by decide +kernel
theorem dX11_rowTells_1 : decode cX11_rowTells 1 = .ok (.getfield 193, 3) := by decide +kernel
theorem dX11_rowTells_4 : decode cX11_rowTells 4 = .ok (.istore_n 3, 1) := by decide +kernel
theorem dX11_rowTells_5 : decode cX11_rowTells 5 = .ok (.aload_n 0, 1) := by decide +kernel
theorem dX11_rowTells_6 : decode cX11_rowTells 6 = .ok (.getfield 53, 3) := by decide +kernel
theorem dX11_rowTells_9 : decode cX11_rowTells 9 = .ok (.iload_n 1, 1) := by decide +kernel
theorem dX11_rowTells_10 : decode cX11_rowTells 10 = .ok (.iconst 1, 1) := by decide +kernel
theorem dX11_rowTells_11 : decode cX11_rowTells 11 = .ok (.iadd, 1) := by decide +kernel
theorem dX11_rowTells_12 : decode cX11_rowTells 12 = .ok (.iaload, 1) := by decide +kernel
theorem dX11_rowTells_13 : decode cX11_rowTells 13 = .ok (.bipush 48, 2) := by decide +kernel
theorem dX11_rowTells_15 : decode cX11_rowTells 15 = .ok (.isub, 1) := by decide +kernel
theorem dX11_rowTells_16 : decode cX11_rowTells 16 = .ok (.istore 4, 2) := by decide +kernel
theorem dX11_rowTells_18 : decode cX11_rowTells 18 = .ok (.aload_n 0, 1) := by decide +kernel
theorem dX11_rowTells_19 : decode cX11_rowTells 19 = .ok (.getfield 53, 3) := by decide +kernel
theorem dX11_rowTells_22 : decode cX11_rowTells 22 = .ok (.iload_n 1, 1) := by decide +kernel
theorem dX11_rowTells_23 : decode cX11_rowTells 23 = .ok (.iaload, 1) := by decide +kernel
theorem dX11_rowTells_24 : decode cX11_rowTells 24 = .ok (.bipush 108, 2) := by decide +kernel
theorem dX11_rowTells_26 : decode cX11_rowTells 26 = .ok (.if_icmp .ne 41, 3) := by decide +kernel
theorem dX11_rowTells_29 : decode cX11_rowTells 29 = .ok (.aload_n 0, 1) := by decide +kernel
theorem dX11_rowTells_30 : decode cX11_rowTells 30 = .ok (.getfield 59, 3) := by decide +kernel
theorem dX11_rowTells_33 : decode cX11_rowTells 33 = .ok (.iload_n 3, 1) := by decide +kernel
theorem dX11_rowTells_34 : decode cX11_rowTells 34 = .ok (.iload_n 2, 1) := by decide +kernel
theorem dX11_rowTells_35 : decode cX11_rowTells 35 = .ok (.iload_n 1, 1) := by decide +kernel
theorem dX11_rowTells_36 : decode cX11_rowTells 36 = .ok (.iconst 3, 1) := by decide +kernel
theorem dX11_rowTells_37 : decode cX11_rowTells 37 = .ok (.iadd, 1) := by decide +kernel
theorem dX11_rowTells_38 : decode cX11_rowTells 38 = .ok (.if_icmp .ne 23, 3) := by decide +kernel
theorem dX11_rowTells_41 : decode cX11_rowTells 41 = .ok (.bipush 10, 2) := by decide +kernel
theorem dX11_rowTells_43 : decode cX11_rowTells 43 = .ok (.iload 4, 2) := by decide +kernel
theorem dX11_rowTells_45 : decode cX11_rowTells 45 = .ok (.imul, 1) := by decide +kernel
theorem dX11_rowTells_46 : decode cX11_rowTells 46 = .ok (.aload_n 0, 1) := by decide +kernel
theorem dX11_rowTells_47 : decode cX11_rowTells 47 = .ok (.getfield 53, 3) := by decide +kernel
theorem dX11_rowTells_50 : decode cX11_rowTells 50 = .ok (.iload_n 1, 1) := by decide +kernel
theorem dX11_rowTells_51 : decode cX11_rowTells 51 = .ok (.iconst 2, 1) := by decide +kernel
theorem dX11_rowTells_52 : decode cX11_rowTells 52 = .ok (.iadd, 1) := by decide +kernel
theorem dX11_rowTells_53 : decode cX11_rowTells 53 = .ok (.iaload, 1) := by decide +kernel
theorem dX11_rowTells_54 : decode cX11_rowTells 54 = .ok (.iadd, 1) := by decide +kernel
theorem dX11_rowTells_55 : decode cX11_rowTells 55 = .ok (.bipush 48, 2) := by decide +kernel
theorem dX11_rowTells_57 : decode cX11_rowTells 57 = .ok (.isub, 1) := by decide +kernel
theorem dX11_rowTells_58 : decode cX11_rowTells 58 = .ok (.goto 5, 3) := by decide +kernel
theorem dX11_rowTells_61 : decode cX11_rowTells 61 = .ok (.iload 4, 2) := by decide +kernel
theorem dX11_rowTells_63 : decode cX11_rowTells 63 = .ok (.iastore, 1) := by decide +kernel
theorem dX11_rowTells_64 : decode cX11_rowTells 64 = .ok (.goto 122, 3) := by decide +kernel
theorem dX11_rowTells_67 : decode cX11_rowTells 67 = .ok (.aload_n 0, 1) := by decide +kernel
theorem dX11_rowTells_68 : decode cX11_rowTells 68 = .ok (.getfield 53, 3) := by decide +kernel
theorem dX11_rowTells_71 : decode cX11_rowTells 71 = .ok (.iload_n 1, 1) := by decide +kernel
theorem dX11_rowTells_72 : decode cX11_rowTells 72 = .ok (.iaload, 1) := by decide +kernel
theorem dX11_rowTells_73 : decode cX11_rowTells 73 = .ok (.bipush 119, 2) := by decide +kernel
theorem dX11_rowTells_75 : decode cX11_rowTells 75 = .ok (.if_icmp .ne 29, 3) := by decide +kernel
theorem dX11_rowTells_78 : decode cX11_rowTells 78 = .ok (.aload_n 0, 1) := by decide +kernel
theorem dX11_rowTells_79 : decode cX11_rowTells 79 = .ok (.getfield 62, 3) := by decide +kernel
theorem dX11_rowTells_82 : decode cX11_rowTells 82 = .ok (.bipush 10, 2) := by decide +kernel
theorem dX11_rowTells_84 : decode cX11_rowTells 84 = .ok (.iload_n 3, 1) := by decide +kernel
theorem dX11_rowTells_85 : decode cX11_rowTells 85 = .ok (.imul, 1) := by decide +kernel
theorem dX11_rowTells_86 : decode cX11_rowTells 86 = .ok (.iload 4, 2) := by decide +kernel
theorem dX11_rowTells_88 : decode cX11_rowTells 88 = .ok (.iadd, 1) := by decide +kernel
theorem dX11_rowTells_89 : decode cX11_rowTells 89 = .ok (.aload_n 0, 1) := by decide +kernel
theorem dX11_rowTells_90 : decode cX11_rowTells 90 = .ok (.getfield 53, 3) := by decide +kernel
theorem dX11_rowTells_93 : decode cX11_rowTells 93 = .ok (.iload_n 1, 1) := by decide +kernel
theorem dX11_rowTells_94 : decode cX11_rowTells 94 = .ok (.iconst 2, 1) := by decide +kernel
theorem dX11_rowTells_95 : decode cX11_rowTells 95 = .ok (.iadd, 1) := by decide +kernel
theorem dX11_rowTells_96 : decode cX11_rowTells 96 = .ok (.iaload, 1) := by decide +kernel
theorem dX11_rowTells_97 : decode cX11_rowTells 97 = .ok (.bipush 48, 2) := by decide +kernel
theorem dX11_rowTells_99 : decode cX11_rowTells 99 = .ok (.isub, 1) := by decide +kernel
theorem dX11_rowTells_100 : decode cX11_rowTells 100 = .ok (.iastore, 1) := by decide +kernel
theorem dX11_rowTells_101 : decode cX11_rowTells 101 = .ok (.goto 85, 3) := by decide +kernel
theorem dX11_rowTells_104 : decode cX11_rowTells 104 = .ok (.aload_n 0, 1) := by decide +kernel
theorem dX11_rowTells_105 : decode cX11_rowTells 105 = .ok (.iload_n 1, 1) := by decide +kernel
theorem dX11_rowTells_106 : decode cX11_rowTells 106 = .ok (.iconst 2, 1) := by decide +kernel
theorem dX11_rowTells_107 : decode cX11_rowTells 107 = .ok (.iadd, 1) := by decide +kernel
theorem dX11_rowTells_108 : decode cX11_rowTells 108 = .ok (.invokevirtual 190, 3) := by decide +kernel
theorem dX11_rowTells_111 : decode cX11_rowTells 111 = .ok (.istore 5, 2) := by decide +kernel
theorem dX11_rowTells_113 : decode cX11_rowTells 113 = .ok (.iconst 0, 1) := by decide +kernel
theorem dX11_rowTells_114 : decode cX11_rowTells 114 = .ok (.istore 6, 2) := by decide +kernel
theorem dX11_rowTells_116 : decode cX11_rowTells 116 = .ok (.iload 6, 2) := by decide +kernel
theorem dX11_rowTells_118 : decode cX11_rowTells 118 = .ok (.iconst 4, 1) := by decide +kernel
theorem dX11_rowTells_119 : decode cX11_rowTells 119 = .ok (.if_icmp .ge 67, 3) := by decide +kernel
theorem dX11_rowTells_122 : decode cX11_rowTells 122 = .ok (.iload 5, 2) := by decide +kernel
theorem dX11_rowTells_124 : decode cX11_rowTells 124 = .ok (.ifCond .eq 22, 3) := by decide +kernel
theorem dX11_rowTells_127 : decode cX11_rowTells 127 = .ok (.iload 5, 2) := by decide +kernel
theorem dX11_rowTells_129 : decode cX11_rowTells 129 = .ok (.iload 6, 2) := by decide +kernel
theorem dX11_rowTells_131 : decode cX11_rowTells 131 = .ok (.if_icmp .eq 15, 3) := by decide +kernel
theorem dX11_rowTells_134 : decode cX11_rowTells 134 = .ok (.iload 5, 2) := by decide +kernel
theorem dX11_rowTells_136 : decode cX11_rowTells 136 = .ok (.iconst 1, 1) := by decide +kernel
theorem dX11_rowTells_137 : decode cX11_rowTells 137 = .ok (.if_icmp .ne 13, 3) := by decide +kernel
theorem dX11_rowTells_140 : decode cX11_rowTells 140 = .ok (.iload 6, 2) := by decide +kernel
theorem dX11_rowTells_142 : decode cX11_rowTells 142 = .ok (.iconst 2, 1) := by decide +kernel
theorem dX11_rowTells_143 : decode cX11_rowTells 143 = .ok (.if_icmp .ne 7, 3) := by decide +kernel
theorem dX11_rowTells_146 : decode cX11_rowTells 146 = .ok (.iconst 1, 1) := by decide +kernel
theorem dX11_rowTells_147 : decode cX11_rowTells 147 = .ok (.goto 4, 3) := by decide +kernel
theorem dX11_rowTells_150 : decode cX11_rowTells 150 = .ok (.iconst 0, 1) := by decide +kernel
theorem dX11_rowTells_151 : decode cX11_rowTells 151 = .ok (.istore 7, 2) := by decide +kernel
theorem dX11_rowTells_153 : decode cX11_rowTells 153 = .ok (.aload_n 0, 1) := by decide +kernel
theorem dX11_rowTells_154 : decode cX11_rowTells 154 = .ok (.getfield 65, 3) := by decide +kernel
theorem dX11_rowTells_157 : decode cX11_rowTells 157 = .ok (.iconst 4, 1) := by decide +kernel
theorem dX11_rowTells_158 : decode cX11_rowTells 158 = .ok (.iload_n 3, 1) := by decide +kernel
theorem dX11_rowTells_159 : decode cX11_rowTells 159 = .ok (.imul, 1) := by decide +kernel
theorem dX11_rowTells_160 : decode cX11_rowTells 160 = .ok (.iload 6, 2) := by decide +kernel
theorem dX11_rowTells_162 : decode cX11_rowTells 162 = .ok (.iadd, 1) := by decide +kernel
theorem dX11_rowTells_163 : decode cX11_rowTells 163 = .ok (.dup2, 1) := by decide +kernel
theorem dX11_rowTells_164 : decode cX11_rowTells 164 = .ok (.iaload, 1) := by decide +kernel
theorem dX11_rowTells_165 : decode cX11_rowTells 165 = .ok (.iload 7, 2) := by decide +kernel
theorem dX11_rowTells_167 : decode cX11_rowTells 167 = .ok (.ifCond .eq 10, 3) := by decide +kernel
theorem dX11_rowTells_170 : decode cX11_rowTells 170 = .ok (.iconst 1, 1) := by decide +kernel
theorem dX11_rowTells_171 : decode cX11_rowTells 171 = .ok (.iload 4, 2) := by decide +kernel
theorem dX11_rowTells_173 : decode cX11_rowTells 173 = .ok (.ishl, 1) := by decide +kernel
theorem dX11_rowTells_174 : decode cX11_rowTells 174 = .ok (.goto 4, 3) := by decide +kernel
theorem dX11_rowTells_177 : decode cX11_rowTells 177 = .ok (.iconst 0, 1) := by decide +kernel
theorem dX11_rowTells_178 : decode cX11_rowTells 178 = .ok (.ior, 1) := by decide +kernel
theorem dX11_rowTells_179 : decode cX11_rowTells 179 = .ok (.iastore, 1) := by decide +kernel
theorem dX11_rowTells_180 : decode cX11_rowTells 180 = .ok (.iinc 6 1, 3) := by decide +kernel
theorem dX11_rowTells_183 : decode cX11_rowTells 183 = .ok (.goto (-67), 3) := by decide +kernel
theorem dX11_rowTells_186 : decode cX11_rowTells 186 = .ok (.return_, 1) := by decide +kernel
theorem dX11_readAll_0 : decode cX11_readAll 0 = .ok (.aload_n 0, 1) := by decide +kernel
theorem dX11_readAll_1 : decode cX11_readAll 1 = .ok (.getfield 193, 3) := by decide +kernel
theorem dX11_readAll_4 : decode cX11_readAll 4 = .ok (.istore_n 1, 1) := by decide +kernel
theorem dX11_readAll_5 : decode cX11_readAll 5 = .ok (.aload_n 0, 1) := by decide +kernel
theorem dX11_readAll_6 : decode cX11_readAll 6 = .ok (.getfield 59, 3) := by decide +kernel
theorem dX11_readAll_9 : decode cX11_readAll 9 = .ok (.iload_n 1, 1) := by decide +kernel
theorem dX11_readAll_10 : decode cX11_readAll 10 = .ok (.bipush 99, 2) := by decide +kernel
theorem dX11_readAll_12 : decode cX11_readAll 12 = .ok (.iastore, 1) := by decide +kernel
theorem dX11_readAll_13 : decode cX11_readAll 13 = .ok (.iconst 0, 1) := by decide +kernel
theorem dX11_readAll_14 : decode cX11_readAll 14 = .ok (.istore_n 2, 1) := by decide +kernel
theorem dX11_readAll_15 : decode cX11_readAll 15 = .ok (.iload_n 2, 1) := by decide +kernel
theorem dX11_readAll_16 : decode cX11_readAll 16 = .ok (.bipush 10, 2) := by decide +kernel
theorem dX11_readAll_18 : decode cX11_readAll 18 = .ok (.if_icmp .ge 21, 3) := by decide +kernel
theorem dX11_readAll_21 : decode cX11_readAll 21 = .ok (.aload_n 0, 1) := by decide +kernel
theorem dX11_readAll_22 : decode cX11_readAll 22 = .ok (.getfield 62, 3) := by decide +kernel
theorem dX11_readAll_25 : decode cX11_readAll 25 = .ok (.bipush 10, 2) := by decide +kernel
theorem dX11_readAll_27 : decode cX11_readAll 27 = .ok (.iload_n 1, 1) := by decide +kernel
theorem dX11_readAll_28 : decode cX11_readAll 28 = .ok (.imul, 1) := by decide +kernel
theorem dX11_readAll_29 : decode cX11_readAll 29 = .ok (.iload_n 2, 1) := by decide +kernel
theorem dX11_readAll_30 : decode cX11_readAll 30 = .ok (.iadd, 1) := by decide +kernel
theorem dX11_readAll_31 : decode cX11_readAll 31 = .ok (.iconst 1, 1) := by decide +kernel
theorem dX11_readAll_32 : decode cX11_readAll 32 = .ok (.iastore, 1) := by decide +kernel
theorem dX11_readAll_33 : decode cX11_readAll 33 = .ok (.iinc 2 1, 3) := by decide +kernel
theorem dX11_readAll_36 : decode cX11_readAll 36 = .ok (.goto (-21), 3) := by decide +kernel
theorem dX11_readAll_39 : decode cX11_readAll 39 = .ok (.iconst 0, 1) := by decide +kernel
theorem dX11_readAll_40 : decode cX11_readAll 40 = .ok (.istore_n 2, 1) := by decide +kernel
theorem dX11_readAll_41 : decode cX11_readAll 41 = .ok (.iload_n 2, 1) := by decide +kernel
theorem dX11_readAll_42 : decode cX11_readAll 42 = .ok (.iconst 4, 1) := by decide +kernel
theorem dX11_readAll_43 : decode cX11_readAll 43 = .ok (.if_icmp .ge 20, 3) := by decide +kernel
theorem dX11_readAll_46 : decode cX11_readAll 46 = .ok (.aload_n 0, 1) := by decide +kernel
theorem dX11_readAll_47 : decode cX11_readAll 47 = .ok (.getfield 65, 3) := by decide +kernel
theorem dX11_readAll_50 : decode cX11_readAll 50 = .ok (.iconst 4, 1) := by decide +kernel
theorem dX11_readAll_51 : decode cX11_readAll 51 = .ok (.iload_n 1, 1) := by decide +kernel
theorem dX11_readAll_52 : decode cX11_readAll 52 = .ok (.imul, 1) := by decide +kernel
theorem dX11_readAll_53 : decode cX11_readAll 53 = .ok (.iload_n 2, 1) := by decide +kernel
theorem dX11_readAll_54 : decode cX11_readAll 54 = .ok (.iadd, 1) := by decide +kernel
theorem dX11_readAll_55 : decode cX11_readAll 55 = .ok (.iconst 0, 1) := by decide +kernel
theorem dX11_readAll_56 : decode cX11_readAll 56 = .ok (.iastore, 1) := by decide +kernel
theorem dX11_readAll_57 : decode cX11_readAll 57 = .ok (.iinc 2 1, 3) := by decide +kernel
theorem dX11_readAll_60 : decode cX11_readAll 60 = .ok (.goto (-19), 3) := by decide +kernel
theorem dX11_readAll_63 : decode cX11_readAll 63 = .ok (.iconst 0, 1) := by decide +kernel
theorem dX11_readAll_64 : decode cX11_readAll 64 = .ok (.istore_n 2, 1) := by decide +kernel
theorem dX11_readAll_65 : decode cX11_readAll 65 = .ok (.iload_n 2, 1) := by decide +kernel
theorem dX11_readAll_66 : decode cX11_readAll 66 = .ok (.aload_n 0, 1) := by decide +kernel
theorem dX11_readAll_67 : decode cX11_readAll 67 = .ok (.getfield 181, 3) := by decide +kernel
theorem dX11_readAll_70 : decode cX11_readAll 70 = .ok (.if_icmp .ge 45, 3) := by decide +kernel
theorem dX11_readAll_73 : decode cX11_readAll 73 = .ok (.aload_n 0, 1) := by decide +kernel
theorem dX11_readAll_74 : decode cX11_readAll 74 = .ok (.iload_n 2, 1) := by decide +kernel
theorem dX11_readAll_75 : decode cX11_readAll 75 = .ok (.invokevirtual 196, 3) := by decide +kernel
theorem dX11_readAll_78 : decode cX11_readAll 78 = .ok (.istore_n 3, 1) := by decide +kernel
theorem dX11_readAll_79 : decode cX11_readAll 79 = .ok (.iload_n 3, 1) := by decide +kernel
theorem dX11_readAll_80 : decode cX11_readAll 80 = .ok (.iload_n 2, 1) := by decide +kernel
theorem dX11_readAll_81 : decode cX11_readAll 81 = .ok (.aload_n 0, 1) := by decide +kernel
theorem dX11_readAll_82 : decode cX11_readAll 82 = .ok (.iload_n 2, 1) := by decide +kernel
theorem dX11_readAll_83 : decode cX11_readAll 83 = .ok (.invokevirtual 199, 3) := by decide +kernel
theorem dX11_readAll_86 : decode cX11_readAll 86 = .ok (.iadd, 1) := by decide +kernel
theorem dX11_readAll_87 : decode cX11_readAll 87 = .ok (.if_icmp .lt 13, 3) := by decide +kernel
theorem dX11_readAll_90 : decode cX11_readAll 90 = .ok (.aload_n 0, 1) := by decide +kernel
theorem dX11_readAll_91 : decode cX11_readAll 91 = .ok (.iload_n 3, 1) := by decide +kernel
theorem dX11_readAll_92 : decode cX11_readAll 92 = .ok (.bipush 59, 2) := by decide +kernel
theorem dX11_readAll_94 : decode cX11_readAll 94 = .ok (.invokevirtual 184, 3) := by decide +kernel
theorem dX11_readAll_97 : decode cX11_readAll 97 = .ok (.ifCond .ne 5, 3) := by decide +kernel
theorem dX11_readAll_100 : decode cX11_readAll 100 = .ok (.iload_n 3, 1) := by decide +kernel
theorem dX11_readAll_101 : decode cX11_readAll 101 = .ok (.ireturn, 1) := by decide +kernel
theorem dX11_readAll_102 : decode cX11_readAll 102 = .ok (.aload_n 0, 1) := by decide +kernel
theorem dX11_readAll_103 : decode cX11_readAll 103 = .ok (.iload_n 2, 1) := by decide +kernel
theorem dX11_readAll_104 : decode cX11_readAll 104 = .ok (.iload_n 3, 1) := by decide +kernel
theorem dX11_readAll_105 : decode cX11_readAll 105 = .ok (.invokevirtual 202, 3) := by decide +kernel
theorem dX11_readAll_108 : decode cX11_readAll 108 = .ok (.iload_n 3, 1) := by decide +kernel
theorem dX11_readAll_109 : decode cX11_readAll 109 = .ok (.iconst 1, 1) := by decide +kernel
theorem dX11_readAll_110 : decode cX11_readAll 110 = .ok (.iadd, 1) := by decide +kernel
theorem dX11_readAll_111 : decode cX11_readAll 111 = .ok (.istore_n 2, 1) := by decide +kernel
theorem dX11_readAll_112 : decode cX11_readAll 112 = .ok (.goto (-47), 3) := by decide +kernel
theorem dX11_readAll_115 : decode cX11_readAll 115 = .ok (.iconst (-1), 1) := by decide +kernel
theorem dX11_readAll_116 : decode cX11_readAll 116 = .ok (.ireturn, 1) := by decide +kernel
theorem dX11_treaty_0 : decode cX11_treaty 0 = .ok (.iload_n 1, 1) := by decide +kernel
theorem dX11_treaty_1 : decode cX11_treaty 1 = .ok (.invokestatic 159, 3) := by decide +kernel
theorem dX11_treaty_4 : decode cX11_treaty 4 = .ok (.ifCond .ne 9, 3) := by decide +kernel
theorem dX11_treaty_7 : decode cX11_treaty 7 = .ok (.aload_n 0, 1) := by decide +kernel
theorem dX11_treaty_8 : decode cX11_treaty 8 = .ok (.iconst 1, 1) := by decide +kernel
theorem dX11_treaty_9 : decode cX11_treaty 9 = .ok (.invokevirtual 137, 3) := by decide +kernel
theorem dX11_treaty_12 : decode cX11_treaty 12 = .ok (.ireturn, 1) := by decide +kernel
theorem dX11_treaty_13 : decode cX11_treaty 13 = .ok (.aload_n 0, 1) := by decide +kernel
theorem dX11_treaty_14 : decode cX11_treaty 14 = .ok (.getfield 193, 3) := by decide +kernel
theorem dX11_treaty_17 : decode cX11_treaty 17 = .ok (.bipush 6, 2) := by decide +kernel
theorem dX11_treaty_19 : decode cX11_treaty 19 = .ok (.if_icmp .ne 9, 3) := by decide +kernel
theorem dX11_treaty_22 : decode cX11_treaty 22 = .ok (.aload_n 0, 1) := by decide +kernel
theorem dX11_treaty_23 : decode cX11_treaty 23 = .ok (.iconst 4, 1) := by decide +kernel
theorem dX11_treaty_24 : decode cX11_treaty 24 = .ok (.invokevirtual 137, 3) := by decide +kernel
theorem dX11_treaty_27 : decode cX11_treaty 27 = .ok (.ireturn, 1) := by decide +kernel
theorem dX11_treaty_28 : decode cX11_treaty 28 = .ok (.aload_n 0, 1) := by decide +kernel
theorem dX11_treaty_29 : decode cX11_treaty 29 = .ok (.invokevirtual 206, 3) := by decide +kernel
theorem dX11_treaty_32 : decode cX11_treaty 32 = .ok (.istore_n 2, 1) := by decide +kernel
theorem dX11_treaty_33 : decode cX11_treaty 33 = .ok (.aload_n 0, 1) := by decide +kernel
theorem dX11_treaty_34 : decode cX11_treaty 34 = .ok (.iconst 0, 1) := by decide +kernel
theorem dX11_treaty_35 : decode cX11_treaty 35 = .ok (.putfield 181, 3) := by decide +kernel
theorem dX11_treaty_38 : decode cX11_treaty 38 = .ok (.iload_n 2, 1) := by decide +kernel
theorem dX11_treaty_39 : decode cX11_treaty 39 = .ok (.ifCond .lt 8, 3) := by decide +kernel
theorem dX11_treaty_42 : decode cX11_treaty 42 = .ok (.bipush (-10), 2) := by decide +kernel
theorem dX11_treaty_44 : decode cX11_treaty 44 = .ok (.iload_n 2, 1) := by decide +kernel
theorem dX11_treaty_45 : decode cX11_treaty 45 = .ok (.isub, 1) := by decide +kernel
theorem dX11_treaty_46 : decode cX11_treaty 46 = .ok (.ireturn, 1) := by decide +kernel
theorem dX11_treaty_47 : decode cX11_treaty 47 = .ok (.aload_n 0, 1) := by decide +kernel
theorem dX11_treaty_48 : decode cX11_treaty 48 = .ok (.getfield 56, 3) := by decide +kernel
theorem dX11_treaty_51 : decode cX11_treaty 51 = .ok (.aload_n 0, 1) := by decide +kernel
theorem dX11_treaty_52 : decode cX11_treaty 52 = .ok (.getfield 193, 3) := by decide +kernel
theorem dX11_treaty_55 : decode cX11_treaty 55 = .ok (.iload_n 1, 1) := by decide +kernel
theorem dX11_treaty_56 : decode cX11_treaty 56 = .ok (.iastore, 1) := by decide +kernel
theorem dX11_treaty_57 : decode cX11_treaty 57 = .ok (.aload_n 0, 1) := by decide +kernel
theorem dX11_treaty_58 : decode cX11_treaty 58 = .ok (.dup, 1) := by decide +kernel
theorem dX11_treaty_59 : decode cX11_treaty 59 = .ok (.getfield 193, 3) := by decide +kernel
theorem dX11_treaty_62 : decode cX11_treaty 62 = .ok (.iconst 1, 1) := by decide +kernel
theorem dX11_treaty_63 : decode cX11_treaty 63 = .ok (.iadd, 1) := by decide +kernel
theorem dX11_treaty_64 : decode cX11_treaty 64 = .ok (.putfield 193, 3) := by decide +kernel
theorem dX11_treaty_67 : decode cX11_treaty 67 = .ok (.aload_n 0, 1) := by decide +kernel
theorem dX11_treaty_68 : decode cX11_treaty 68 = .ok (.getfield 193, 3) := by decide +kernel
theorem dX11_treaty_71 : decode cX11_treaty 71 = .ok (.ireturn, 1) := by decide +kernel
theorem dX11_forceOn_0 : decode cX11_forceOn 0 = .ok (.aload_n 0, 1) := by decide +kernel
theorem dX11_forceOn_1 : decode cX11_forceOn 1 = .ok (.getfield 193, 3) := by decide +kernel
theorem dX11_forceOn_4 : decode cX11_forceOn 4 = .ok (.iconst 1, 1) := by decide +kernel
theorem dX11_forceOn_5 : decode cX11_forceOn 5 = .ok (.isub, 1) := by decide +kernel
theorem dX11_forceOn_6 : decode cX11_forceOn 6 = .ok (.istore_n 2, 1) := by decide +kernel
theorem dX11_forceOn_7 : decode cX11_forceOn 7 = .ok (.iload_n 2, 1) := by decide +kernel
theorem dX11_forceOn_8 : decode cX11_forceOn 8 = .ok (.ifCond .lt 19, 3) := by decide +kernel
theorem dX11_forceOn_11 : decode cX11_forceOn 11 = .ok (.aload_n 0, 1) := by decide +kernel
theorem dX11_forceOn_12 : decode cX11_forceOn 12 = .ok (.getfield 56, 3) := by decide +kernel
theorem dX11_forceOn_15 : decode cX11_forceOn 15 = .ok (.iload_n 2, 1) := by decide +kernel
theorem dX11_forceOn_16 : decode cX11_forceOn 16 = .ok (.iaload, 1) := by decide +kernel
theorem dX11_forceOn_17 : decode cX11_forceOn 17 = .ok (.iload_n 1, 1) := by decide +kernel
theorem dX11_forceOn_18 : decode cX11_forceOn 18 = .ok (.if_icmp .le 9, 3) := by decide +kernel
theorem dX11_forceOn_21 : decode cX11_forceOn 21 = .ok (.iinc 2 (-1), 3) := by decide +kernel
theorem dX11_forceOn_24 : decode cX11_forceOn 24 = .ok (.goto (-17), 3) := by decide +kernel
theorem dX11_forceOn_27 : decode cX11_forceOn 27 = .ok (.iload_n 2, 1) := by decide +kernel
theorem dX11_forceOn_28 : decode cX11_forceOn 28 = .ok (.ireturn, 1) := by decide +kernel
theorem dX11_says_0 : decode cX11_says 0 = .ok (.iload_n 1, 1) := by decide +kernel
theorem dX11_says_1 : decode cX11_says 1 = .ok (.invokestatic 159, 3) := by decide +kernel
theorem dX11_says_4 : decode cX11_says 4 = .ok (.ifCond .eq 29, 3) := by decide +kernel
theorem dX11_says_7 : decode cX11_says 7 = .ok (.iload_n 2, 1) := by decide +kernel
theorem dX11_says_8 : decode cX11_says 8 = .ok (.ifCond .eq 31, 3) := by decide +kernel
theorem dX11_says_11 : decode cX11_says 11 = .ok (.iload_n 2, 1) := by decide +kernel
theorem dX11_says_12 : decode cX11_says 12 = .ok (.bipush 10, 2) := by decide +kernel
theorem dX11_says_14 : decode cX11_says 14 = .ok (.bipush 19, 2) := by decide +kernel
theorem dX11_says_16 : decode cX11_says 16 = .ok (.invokestatic 124, 3) := by decide +kernel
theorem dX11_says_19 : decode cX11_says 19 = .ok (.ifCond .ne 20, 3) := by decide +kernel
theorem dX11_says_22 : decode cX11_says 22 = .ok (.iload_n 2, 1) := by decide +kernel
theorem dX11_says_23 : decode cX11_says 23 = .ok (.bipush 20, 2) := by decide +kernel
theorem dX11_says_25 : decode cX11_says 25 = .ok (.bipush 23, 2) := by decide +kernel
theorem dX11_says_27 : decode cX11_says 27 = .ok (.invokestatic 124, 3) := by decide +kernel
theorem dX11_says_30 : decode cX11_says 30 = .ok (.ifCond .ne 9, 3) := by decide +kernel
theorem dX11_says_33 : decode cX11_says 33 = .ok (.aload_n 0, 1) := by decide +kernel
theorem dX11_says_34 : decode cX11_says 34 = .ok (.iconst 1, 1) := by decide +kernel
theorem dX11_says_35 : decode cX11_says 35 = .ok (.invokevirtual 137, 3) := by decide +kernel
theorem dX11_says_38 : decode cX11_says 38 = .ok (.ireturn, 1) := by decide +kernel
theorem dX11_says_39 : decode cX11_says 39 = .ok (.aload_n 0, 1) := by decide +kernel
theorem dX11_says_40 : decode cX11_says 40 = .ok (.iload_n 1, 1) := by decide +kernel
theorem dX11_says_41 : decode cX11_says 41 = .ok (.invokevirtual 210, 3) := by decide +kernel
theorem dX11_says_44 : decode cX11_says 44 = .ok (.istore_n 3, 1) := by decide +kernel
theorem dX11_says_45 : decode cX11_says 45 = .ok (.iload_n 3, 1) := by decide +kernel
theorem dX11_says_46 : decode cX11_says 46 = .ok (.ifCond .ge 9, 3) := by decide +kernel
theorem dX11_says_49 : decode cX11_says 49 = .ok (.aload_n 0, 1) := by decide +kernel
theorem dX11_says_50 : decode cX11_says 50 = .ok (.iconst 2, 1) := by decide +kernel
theorem dX11_says_51 : decode cX11_says 51 = .ok (.invokevirtual 137, 3) := by decide +kernel
theorem dX11_says_54 : decode cX11_says 54 = .ok (.ireturn, 1) := by decide +kernel
theorem dX11_says_55 : decode cX11_says 55 = .ok (.iload_n 2, 1) := by decide +kernel
theorem dX11_says_56 : decode cX11_says 56 = .ok (.ifCond .ne 12, 3) := by decide +kernel
theorem dX11_says_59 : decode cX11_says 59 = .ok (.aload_n 0, 1) := by decide +kernel
theorem dX11_says_60 : decode cX11_says 60 = .ok (.getfield 59, 3) := by decide +kernel
theorem dX11_says_63 : decode cX11_says 63 = .ok (.iload_n 3, 1) := by decide +kernel
theorem dX11_says_64 : decode cX11_says 64 = .ok (.iaload, 1) := by decide +kernel
theorem dX11_says_65 : decode cX11_says 65 = .ok (.goto 39, 3) := by decide +kernel
theorem dX11_says_68 : decode cX11_says 68 = .ok (.iload_n 2, 1) := by decide +kernel
theorem dX11_says_69 : decode cX11_says 69 = .ok (.bipush 20, 2) := by decide +kernel
theorem dX11_says_71 : decode cX11_says 71 = .ok (.if_icmp .ge 20, 3) := by decide +kernel
theorem dX11_says_74 : decode cX11_says 74 = .ok (.aload_n 0, 1) := by decide +kernel
theorem dX11_says_75 : decode cX11_says 75 = .ok (.getfield 62, 3) := by decide +kernel
theorem dX11_says_78 : decode cX11_says 78 = .ok (.bipush 10, 2) := by decide +kernel
theorem dX11_says_80 : decode cX11_says 80 = .ok (.iload_n 3, 1) := by decide +kernel
theorem dX11_says_81 : decode cX11_says 81 = .ok (.imul, 1) := by decide +kernel
theorem dX11_says_82 : decode cX11_says 82 = .ok (.iload_n 2, 1) := by decide +kernel
theorem dX11_says_83 : decode cX11_says 83 = .ok (.iadd, 1) := by decide +kernel
theorem dX11_says_84 : decode cX11_says 84 = .ok (.bipush 10, 2) := by decide +kernel
theorem dX11_says_86 : decode cX11_says 86 = .ok (.isub, 1) := by decide +kernel
theorem dX11_says_87 : decode cX11_says 87 = .ok (.iaload, 1) := by decide +kernel
theorem dX11_says_88 : decode cX11_says 88 = .ok (.goto 16, 3) := by decide +kernel
theorem dX11_says_91 : decode cX11_says 91 = .ok (.aload_n 0, 1) := by decide +kernel
theorem dX11_says_92 : decode cX11_says 92 = .ok (.getfield 65, 3) := by decide +kernel
theorem dX11_says_95 : decode cX11_says 95 = .ok (.iconst 4, 1) := by decide +kernel
theorem dX11_says_96 : decode cX11_says 96 = .ok (.iload_n 3, 1) := by decide +kernel
theorem dX11_says_97 : decode cX11_says 97 = .ok (.imul, 1) := by decide +kernel
theorem dX11_says_98 : decode cX11_says 98 = .ok (.iload_n 2, 1) := by decide +kernel
theorem dX11_says_99 : decode cX11_says 99 = .ok (.iadd, 1) := by decide +kernel
theorem dX11_says_100 : decode cX11_says 100 = .ok (.bipush 20, 2) := by decide +kernel
theorem dX11_says_102 : decode cX11_says 102 = .ok (.isub, 1) := by decide +kernel
theorem dX11_says_103 : decode cX11_says 103 = .ok (.iaload, 1) := by decide +kernel
theorem dX11_says_104 : decode cX11_says 104 = .ok (.ireturn, 1) := by decide +kernel
theorem dX11_wouldHold_0 : decode cX11_wouldHold 0 = .ok (.aload_n 0, 1) := by decide +kernel
theorem dX11_wouldHold_1 : decode cX11_wouldHold 1 = .ok (.aload_n 0, 1) := by decide +kernel
theorem dX11_wouldHold_2 : decode cX11_wouldHold 2 = .ok (.getfield 134, 3) := by decide +kernel
theorem dX11_wouldHold_5 : decode cX11_wouldHold 5 = .ok (.invokevirtual 210, 3) := by decide +kernel
theorem dX11_wouldHold_8 : decode cX11_wouldHold 8 = .ok (.istore_n 3, 1) := by decide +kernel
theorem dX11_wouldHold_9 : decode cX11_wouldHold 9 = .ok (.iload_n 3, 1) := by decide +kernel
theorem dX11_wouldHold_10 : decode cX11_wouldHold 10 = .ok (.ifCond .ge 5, 3) := by decide +kernel
theorem dX11_wouldHold_13 : decode cX11_wouldHold 13 = .ok (.iconst 0, 1) := by decide +kernel
theorem dX11_wouldHold_14 : decode cX11_wouldHold 14 = .ok (.ireturn, 1) := by decide +kernel
theorem dX11_wouldHold_15 : decode cX11_wouldHold 15 = .ok (.iconst 0, 1) := by decide +kernel
theorem dX11_wouldHold_16 : decode cX11_wouldHold 16 = .ok (.istore 4, 2) := by decide +kernel
theorem dX11_wouldHold_18 : decode cX11_wouldHold 18 = .ok (.iconst 0, 1) := by decide +kernel
theorem dX11_wouldHold_19 : decode cX11_wouldHold 19 = .ok (.istore 5, 2) := by decide +kernel
theorem dX11_wouldHold_21 : decode cX11_wouldHold 21 = .ok (.iload 5, 2) := by decide +kernel
theorem dX11_wouldHold_23 : decode cX11_wouldHold 23 = .ok (.bipush 10, 2) := by decide +kernel
theorem dX11_wouldHold_25 : decode cX11_wouldHold 25 = .ok (.if_icmp .ge 33, 3) := by decide +kernel
theorem dX11_wouldHold_28 : decode cX11_wouldHold 28 = .ok (.iload 4, 2) := by decide +kernel
theorem dX11_wouldHold_30 : decode cX11_wouldHold 30 = .ok (.iload_n 2, 1) := by decide +kernel
theorem dX11_wouldHold_31 : decode cX11_wouldHold 31 = .ok (.iload 5, 2) := by decide +kernel
theorem dX11_wouldHold_33 : decode cX11_wouldHold 33 = .ok (.ishr, 1) := by decide +kernel
theorem dX11_wouldHold_34 : decode cX11_wouldHold 34 = .ok (.iconst 1, 1) := by decide +kernel
theorem dX11_wouldHold_35 : decode cX11_wouldHold 35 = .ok (.iand, 1) := by decide +kernel
theorem dX11_wouldHold_36 : decode cX11_wouldHold 36 = .ok (.aload_n 0, 1) := by decide +kernel
theorem dX11_wouldHold_37 : decode cX11_wouldHold 37 = .ok (.getfield 62, 3) := by decide +kernel
theorem dX11_wouldHold_40 : decode cX11_wouldHold 40 = .ok (.bipush 10, 2) := by decide +kernel
theorem dX11_wouldHold_42 : decode cX11_wouldHold 42 = .ok (.iload_n 3, 1) := by decide +kernel
theorem dX11_wouldHold_43 : decode cX11_wouldHold 43 = .ok (.imul, 1) := by decide +kernel
theorem dX11_wouldHold_44 : decode cX11_wouldHold 44 = .ok (.iload 5, 2) := by decide +kernel
theorem dX11_wouldHold_46 : decode cX11_wouldHold 46 = .ok (.iadd, 1) := by decide +kernel
theorem dX11_wouldHold_47 : decode cX11_wouldHold 47 = .ok (.iaload, 1) := by decide +kernel
theorem dX11_wouldHold_48 : decode cX11_wouldHold 48 = .ok (.imul, 1) := by decide +kernel
theorem dX11_wouldHold_49 : decode cX11_wouldHold 49 = .ok (.iadd, 1) := by decide +kernel
theorem dX11_wouldHold_50 : decode cX11_wouldHold 50 = .ok (.istore 4, 2) := by decide +kernel
theorem dX11_wouldHold_52 : decode cX11_wouldHold 52 = .ok (.iinc 5 1, 3) := by decide +kernel
theorem dX11_wouldHold_55 : decode cX11_wouldHold 55 = .ok (.goto (-34), 3) := by decide +kernel
theorem dX11_wouldHold_58 : decode cX11_wouldHold 58 = .ok (.aload_n 0, 1) := by decide +kernel
theorem dX11_wouldHold_59 : decode cX11_wouldHold 59 = .ok (.getfield 65, 3) := by decide +kernel
theorem dX11_wouldHold_62 : decode cX11_wouldHold 62 = .ok (.iconst 4, 1) := by decide +kernel
theorem dX11_wouldHold_63 : decode cX11_wouldHold 63 = .ok (.iload_n 3, 1) := by decide +kernel
theorem dX11_wouldHold_64 : decode cX11_wouldHold 64 = .ok (.imul, 1) := by decide +kernel
theorem dX11_wouldHold_65 : decode cX11_wouldHold 65 = .ok (.aload_n 0, 1) := by decide +kernel
theorem dX11_wouldHold_66 : decode cX11_wouldHold 66 = .ok (.getfield 7, 3) := by decide +kernel
theorem dX11_wouldHold_69 : decode cX11_wouldHold 69 = .ok (.iload_n 1, 1) := by decide +kernel
theorem dX11_wouldHold_70 : decode cX11_wouldHold 70 = .ok (.iaload, 1) := by decide +kernel
theorem dX11_wouldHold_71 : decode cX11_wouldHold 71 = .ok (.iadd, 1) := by decide +kernel
theorem dX11_wouldHold_72 : decode cX11_wouldHold 72 = .ok (.iaload, 1) := by decide +kernel
theorem dX11_wouldHold_73 : decode cX11_wouldHold 73 = .ok (.iload_n 2, 1) := by decide +kernel
theorem dX11_wouldHold_74 : decode cX11_wouldHold 74 = .ok (.iand, 1) := by decide +kernel
theorem dX11_wouldHold_75 : decode cX11_wouldHold 75 = .ok (.ifCond .ne 14, 3) := by decide +kernel
theorem dX11_wouldHold_78 : decode cX11_wouldHold 78 = .ok (.iload 4, 2) := by decide +kernel
theorem dX11_wouldHold_80 : decode cX11_wouldHold 80 = .ok (.aload_n 0, 1) := by decide +kernel
theorem dX11_wouldHold_81 : decode cX11_wouldHold 81 = .ok (.getfield 59, 3) := by decide +kernel
theorem dX11_wouldHold_84 : decode cX11_wouldHold 84 = .ok (.iload_n 3, 1) := by decide +kernel
theorem dX11_wouldHold_85 : decode cX11_wouldHold 85 = .ok (.iaload, 1) := by decide +kernel
theorem dX11_wouldHold_86 : decode cX11_wouldHold 86 = .ok (.if_icmp .lt 7, 3) := by decide +kernel
theorem dX11_wouldHold_89 : decode cX11_wouldHold 89 = .ok (.iconst 1, 1) := by decide +kernel
theorem dX11_wouldHold_90 : decode cX11_wouldHold 90 = .ok (.goto 4, 3) := by decide +kernel
theorem dX11_wouldHold_93 : decode cX11_wouldHold 93 = .ok (.iconst 0, 1) := by decide +kernel
theorem dX11_wouldHold_94 : decode cX11_wouldHold 94 = .ok (.ireturn, 1) := by decide +kernel
theorem dX11_shipOf_0 : decode cX11_shipOf 0 = .ok (.aload_n 0, 1) := by decide +kernel
theorem dX11_shipOf_1 : decode cX11_shipOf 1 = .ok (.getfield 37, 3) := by decide +kernel
theorem dX11_shipOf_4 : decode cX11_shipOf 4 = .ok (.aload_n 0, 1) := by decide +kernel
theorem dX11_shipOf_5 : decode cX11_shipOf 5 = .ok (.getfield 68, 3) := by decide +kernel
theorem dX11_shipOf_8 : decode cX11_shipOf 8 = .ok (.iload_n 1, 1) := by decide +kernel
theorem dX11_shipOf_9 : decode cX11_shipOf 9 = .ok (.iaload, 1) := by decide +kernel
theorem dX11_shipOf_10 : decode cX11_shipOf 10 = .ok (.iaload, 1) := by decide +kernel
theorem dX11_shipOf_11 : decode cX11_shipOf 11 = .ok (.ireturn, 1) := by decide +kernel
theorem dX11_ban_0 : decode cX11_ban 0 = .ok (.aload_n 0, 1) := by decide +kernel
theorem dX11_ban_1 : decode cX11_ban 1 = .ok (.iconst 0, 1) := by decide +kernel
theorem dX11_ban_2 : decode cX11_ban 2 = .ok (.aload_n 0, 1) := by decide +kernel
theorem dX11_ban_3 : decode cX11_ban 3 = .ok (.iload_n 1, 1) := by decide +kernel
theorem dX11_ban_4 : decode cX11_ban 4 = .ok (.iconst 1, 1) := by decide +kernel
theorem dX11_ban_5 : decode cX11_ban 5 = .ok (.aload_n 0, 1) := by decide +kernel
theorem dX11_ban_6 : decode cX11_ban 6 = .ok (.getfield 134, 3) := by decide +kernel
theorem dX11_ban_9 : decode cX11_ban 9 = .ok (.invokevirtual 155, 3) := by decide +kernel
theorem dX11_ban_12 : decode cX11_ban 12 = .ok (.invokevirtual 213, 3) := by decide +kernel
theorem dX11_ban_15 : decode cX11_ban 15 = .ok (.iconst 1, 1) := by decide +kernel
theorem dX11_ban_16 : decode cX11_ban 16 = .ok (.if_icmp .ne 14, 3) := by decide +kernel
theorem dX11_ban_19 : decode cX11_ban 19 = .ok (.iconst 2, 1) := by decide +kernel
theorem dX11_ban_20 : decode cX11_ban 20 = .ok (.aload_n 0, 1) := by decide +kernel
theorem dX11_ban_21 : decode cX11_ban 21 = .ok (.getfield 89, 3) := by decide +kernel
theorem dX11_ban_24 : decode cX11_ban 24 = .ok (.imul, 1) := by decide +kernel
theorem dX11_ban_25 : decode cX11_ban 25 = .ok (.iconst 3, 1) := by decide +kernel
theorem dX11_ban_26 : decode cX11_ban 26 = .ok (.idiv, 1) := by decide +kernel
theorem dX11_ban_27 : decode cX11_ban 27 = .ok (.goto 7, 3) := by decide +kernel
theorem dX11_ban_30 : decode cX11_ban 30 = .ok (.aload_n 0, 1) := by decide +kernel
theorem dX11_ban_31 : decode cX11_ban 31 = .ok (.getfield 89, 3) := by decide +kernel
theorem dX11_ban_34 : decode cX11_ban 34 = .ok (.istore_n 2, 1) := by decide +kernel
theorem dX11_ban_35 : decode cX11_ban 35 = .ok (.iconst 0, 1) := by decide +kernel
theorem dX11_ban_36 : decode cX11_ban 36 = .ok (.istore_n 3, 1) := by decide +kernel
theorem dX11_ban_37 : decode cX11_ban 37 = .ok (.iconst 0, 1) := by decide +kernel
theorem dX11_ban_38 : decode cX11_ban 38 = .ok (.istore 4, 2) := by decide +kernel
theorem dX11_ban_40 : decode cX11_ban 40 = .ok (.iload 4, 2) := by decide +kernel
theorem dX11_ban_42 : decode cX11_ban 42 = .ok (.aload_n 0, 1) := by decide +kernel
theorem dX11_ban_43 : decode cX11_ban 43 = .ok (.getfield 131, 3) := by decide +kernel
theorem dX11_ban_46 : decode cX11_ban 46 = .ok (.if_icmp .ge 56, 3) := by decide +kernel
theorem dX11_ban_49 : decode cX11_ban 49 = .ok (.iload_n 3, 1) := by decide +kernel
theorem dX11_ban_50 : decode cX11_ban 50 = .ok (.aload_n 0, 1) := by decide +kernel
theorem dX11_ban_51 : decode cX11_ban 51 = .ok (.getfield 80, 3) := by decide +kernel
theorem dX11_ban_54 : decode cX11_ban 54 = .ok (.iload 4, 2) := by decide +kernel
theorem dX11_ban_56 : decode cX11_ban 56 = .ok (.baload, 1) := by decide +kernel
theorem dX11_ban_57 : decode cX11_ban 57 = .ok (.ifCond .eq 36, 3) := by decide +kernel
theorem dX11_ban_60 : decode cX11_ban 60 = .ok (.aload_n 0, 1) := by decide +kernel
theorem dX11_ban_61 : decode cX11_ban 61 = .ok (.iload 4, 2) := by decide +kernel
theorem dX11_ban_63 : decode cX11_ban 63 = .ok (.invokevirtual 216, 3) := by decide +kernel
theorem dX11_ban_66 : decode cX11_ban 66 = .ok (.iload_n 1, 1) := by decide +kernel
theorem dX11_ban_67 : decode cX11_ban 67 = .ok (.if_icmp .ne 26, 3) := by decide +kernel
theorem dX11_ban_70 : decode cX11_ban 70 = .ok (.aload_n 0, 1) := by decide +kernel
theorem dX11_ban_71 : decode cX11_ban 71 = .ok (.getfield 74, 3) := by decide +kernel
theorem dX11_ban_74 : decode cX11_ban 74 = .ok (.iload 4, 2) := by decide +kernel
theorem dX11_ban_76 : decode cX11_ban 76 = .ok (.iaload, 1) := by decide +kernel
theorem dX11_ban_77 : decode cX11_ban 77 = .ok (.aload_n 0, 1) := by decide +kernel
theorem dX11_ban_78 : decode cX11_ban 78 = .ok (.getfield 134, 3) := by decide +kernel
theorem dX11_ban_81 : decode cX11_ban 81 = .ok (.bipush 30, 2) := by decide +kernel
theorem dX11_ban_83 : decode cX11_ban 83 = .ok (.iload_n 2, 1) := by decide +kernel
theorem dX11_ban_84 : decode cX11_ban 84 = .ok (.imul, 1) := by decide +kernel
theorem dX11_ban_85 : decode cX11_ban 85 = .ok (.isub, 1) := by decide +kernel
theorem dX11_ban_86 : decode cX11_ban 86 = .ok (.if_icmp .le 7, 3) := by decide +kernel
theorem dX11_ban_89 : decode cX11_ban 89 = .ok (.iconst 1, 1) := by decide +kernel
theorem dX11_ban_90 : decode cX11_ban 90 = .ok (.goto 4, 3) := by decide +kernel
theorem dX11_ban_93 : decode cX11_ban 93 = .ok (.iconst 0, 1) := by decide +kernel
theorem dX11_ban_94 : decode cX11_ban 94 = .ok (.iadd, 1) := by decide +kernel
theorem dX11_ban_95 : decode cX11_ban 95 = .ok (.istore_n 3, 1) := by decide +kernel
theorem dX11_ban_96 : decode cX11_ban 96 = .ok (.iinc 4 1, 3) := by decide +kernel
theorem dX11_ban_99 : decode cX11_ban 99 = .ok (.goto (-59), 3) := by decide +kernel
theorem dX11_ban_102 : decode cX11_ban 102 = .ok (.iload_n 3, 1) := by decide +kernel
theorem dX11_ban_103 : decode cX11_ban 103 = .ok (.iconst 3, 1) := by decide +kernel
theorem dX11_ban_104 : decode cX11_ban 104 = .ok (.if_icmp .lt 39, 3) := by decide +kernel
theorem dX11_ban_107 : decode cX11_ban 107 = .ok (.aload_n 0, 1) := by decide +kernel
theorem dX11_ban_108 : decode cX11_ban 108 = .ok (.getfield 93, 3) := by decide +kernel
theorem dX11_ban_111 : decode cX11_ban 111 = .ok (.iload_n 1, 1) := by decide +kernel
theorem dX11_ban_112 : decode cX11_ban 112 = .ok (.baload, 1) := by decide +kernel
theorem dX11_ban_113 : decode cX11_ban 113 = .ok (.ifCond .ne 30, 3) := by decide +kernel
theorem dX11_ban_116 : decode cX11_ban 116 = .ok (.aload_n 0, 1) := by decide +kernel
theorem dX11_ban_117 : decode cX11_ban 117 = .ok (.getfield 93, 3) := by decide +kernel
theorem dX11_ban_120 : decode cX11_ban 120 = .ok (.iload_n 1, 1) := by decide +kernel
theorem dX11_ban_121 : decode cX11_ban 121 = .ok (.iconst 1, 1) := by decide +kernel
theorem dX11_ban_122 : decode cX11_ban 122 = .ok (.bastore, 1) := by decide +kernel
theorem dX11_ban_123 : decode cX11_ban 123 = .ok (.aload_n 0, 1) := by decide +kernel
theorem dX11_ban_124 : decode cX11_ban 124 = .ok (.getfield 99, 3) := by decide +kernel
theorem dX11_ban_127 : decode cX11_ban 127 = .ok (.iload_n 1, 1) := by decide +kernel
theorem dX11_ban_128 : decode cX11_ban 128 = .ok (.aload_n 0, 1) := by decide +kernel
theorem dX11_ban_129 : decode cX11_ban 129 = .ok (.getfield 134, 3) := by decide +kernel
theorem dX11_ban_132 : decode cX11_ban 132 = .ok (.iastore, 1) := by decide +kernel
theorem dX11_ban_133 : decode cX11_ban 133 = .ok (.aload_n 0, 1) := by decide +kernel
theorem dX11_ban_134 : decode cX11_ban 134 = .ok (.getfield 96, 3) := by decide +kernel
theorem dX11_ban_137 : decode cX11_ban 137 = .ok (.iload_n 1, 1) := by decide +kernel
theorem dX11_ban_138 : decode cX11_ban 138 = .ok (.dup2, 1) := by decide +kernel
theorem dX11_ban_139 : decode cX11_ban 139 = .ok (.iaload, 1) := by decide +kernel
theorem dX11_ban_140 : decode cX11_ban 140 = .ok (.iconst 1, 1) := by decide +kernel
theorem dX11_ban_141 : decode cX11_ban 141 = .ok (.iadd, 1) := by decide +kernel
theorem dX11_ban_142 : decode cX11_ban 142 = .ok (.iastore, 1) := by decide +kernel
theorem dX11_ban_143 : decode cX11_ban 143 = .ok (.return_, 1) := by decide +kernel
theorem dX11_look_0 : decode cX11_look 0 = .ok (.aload_n 0, 1) := by decide +kernel
theorem dX11_look_1 : decode cX11_look 1 = .ok (.iload_n 1, 1) := by decide +kernel
theorem dX11_look_2 : decode cX11_look 2 = .ok (.invokevirtual 175, 3) := by decide +kernel
theorem dX11_look_5 : decode cX11_look 5 = .ok (.ifCond .eq 23, 3) := by decide +kernel
theorem dX11_look_8 : decode cX11_look 8 = .ok (.iload_n 2, 1) := by decide +kernel
theorem dX11_look_9 : decode cX11_look 9 = .ok (.iconst 0, 1) := by decide +kernel
theorem dX11_look_10 : decode cX11_look 10 = .ok (.iconst 5, 1) := by decide +kernel
theorem dX11_look_11 : decode cX11_look 11 = .ok (.invokestatic 124, 3) := by decide +kernel
theorem dX11_look_14 : decode cX11_look 14 = .ok (.ifCond .eq 14, 3) := by decide +kernel
theorem dX11_look_17 : decode cX11_look 17 = .ok (.iload_n 3, 1) := by decide +kernel
theorem dX11_look_18 : decode cX11_look 18 = .ok (.iconst 0, 1) := by decide +kernel
theorem dX11_look_19 : decode cX11_look 19 = .ok (.sipush 1023, 3) := by decide +kernel
theorem dX11_look_22 : decode cX11_look 22 = .ok (.invokestatic 124, 3) := by decide +kernel
theorem dX11_look_25 : decode cX11_look 25 = .ok (.ifCond .ne 9, 3) := by decide +kernel
theorem dX11_look_28 : decode cX11_look 28 = .ok (.aload_n 0, 1) := by decide +kernel
theorem dX11_look_29 : decode cX11_look 29 = .ok (.iconst 1, 1) := by decide +kernel
theorem dX11_look_30 : decode cX11_look 30 = .ok (.invokevirtual 137, 3) := by decide +kernel
theorem dX11_look_33 : decode cX11_look 33 = .ok (.ireturn, 1) := by decide +kernel
theorem dX11_look_34 : decode cX11_look 34 = .ok (.aload_n 0, 1) := by decide +kernel
theorem dX11_look_35 : decode cX11_look 35 = .ok (.getfield 46, 3) := by decide +kernel
theorem dX11_look_38 : decode cX11_look 38 = .ok (.iload_n 1, 1) := by decide +kernel
theorem dX11_look_39 : decode cX11_look 39 = .ok (.iaload, 1) := by decide +kernel
theorem dX11_look_40 : decode cX11_look 40 = .ok (.ifCond .lt 9, 3) := by decide +kernel
theorem dX11_look_43 : decode cX11_look 43 = .ok (.aload_n 0, 1) := by decide +kernel
theorem dX11_look_44 : decode cX11_look 44 = .ok (.iconst 3, 1) := by decide +kernel
theorem dX11_look_45 : decode cX11_look 45 = .ok (.invokevirtual 137, 3) := by decide +kernel
theorem dX11_look_48 : decode cX11_look 48 = .ok (.ireturn, 1) := by decide +kernel
theorem dX11_look_49 : decode cX11_look 49 = .ok (.aload_n 0, 1) := by decide +kernel
theorem dX11_look_50 : decode cX11_look 50 = .ok (.getfield 131, 3) := by decide +kernel
theorem dX11_look_53 : decode cX11_look 53 = .ok (.bipush 60, 2) := by decide +kernel
theorem dX11_look_55 : decode cX11_look 55 = .ok (.if_icmp .ne 9, 3) := by decide +kernel
theorem dX11_look_58 : decode cX11_look 58 = .ok (.aload_n 0, 1) := by decide +kernel
theorem dX11_look_59 : decode cX11_look 59 = .ok (.iconst 4, 1) := by decide +kernel
theorem dX11_look_60 : decode cX11_look 60 = .ok (.invokevirtual 137, 3) := by decide +kernel
theorem dX11_look_63 : decode cX11_look 63 = .ok (.ireturn, 1) := by decide +kernel
theorem dX11_look_64 : decode cX11_look 64 = .ok (.aload_n 0, 1) := by decide +kernel
theorem dX11_look_65 : decode cX11_look 65 = .ok (.getfield 131, 3) := by decide +kernel
theorem dX11_look_68 : decode cX11_look 68 = .ok (.istore 4, 2) := by decide +kernel
theorem dX11_look_70 : decode cX11_look 70 = .ok (.aload_n 0, 1) := by decide +kernel
theorem dX11_look_71 : decode cX11_look 71 = .ok (.getfield 68, 3) := by decide +kernel
theorem dX11_look_74 : decode cX11_look 74 = .ok (.iload 4, 2) := by decide +kernel
theorem dX11_look_76 : decode cX11_look 76 = .ok (.iload_n 1, 1) := by decide +kernel
theorem dX11_look_77 : decode cX11_look 77 = .ok (.iastore, 1) := by decide +kernel
theorem dX11_look_78 : decode cX11_look 78 = .ok (.aload_n 0, 1) := by decide +kernel
theorem dX11_look_79 : decode cX11_look 79 = .ok (.getfield 71, 3) := by decide +kernel
theorem dX11_look_82 : decode cX11_look 82 = .ok (.iload 4, 2) := by decide +kernel
theorem dX11_look_84 : decode cX11_look 84 = .ok (.iload_n 2, 1) := by decide +kernel
theorem dX11_look_85 : decode cX11_look 85 = .ok (.iastore, 1) := by decide +kernel
theorem dX11_look_86 : decode cX11_look 86 = .ok (.aload_n 0, 1) := by decide +kernel
theorem dX11_look_87 : decode cX11_look 87 = .ok (.getfield 74, 3) := by decide +kernel
theorem dX11_look_90 : decode cX11_look 90 = .ok (.iload 4, 2) := by decide +kernel
theorem dX11_look_92 : decode cX11_look 92 = .ok (.aload_n 0, 1) := by decide +kernel
theorem dX11_look_93 : decode cX11_look 93 = .ok (.getfield 134, 3) := by decide +kernel
theorem dX11_look_96 : decode cX11_look 96 = .ok (.iastore, 1) := by decide +kernel
theorem dX11_look_97 : decode cX11_look 97 = .ok (.aload_n 0, 1) := by decide +kernel
theorem dX11_look_98 : decode cX11_look 98 = .ok (.getfield 77, 3) := by decide +kernel
theorem dX11_look_101 : decode cX11_look 101 = .ok (.iload 4, 2) := by decide +kernel
theorem dX11_look_103 : decode cX11_look 103 = .ok (.iload_n 3, 1) := by decide +kernel
theorem dX11_look_104 : decode cX11_look 104 = .ok (.iastore, 1) := by decide +kernel
theorem dX11_look_105 : decode cX11_look 105 = .ok (.aload_n 0, 1) := by decide +kernel
theorem dX11_look_106 : decode cX11_look 106 = .ok (.getfield 80, 3) := by decide +kernel
theorem dX11_look_109 : decode cX11_look 109 = .ok (.iload 4, 2) := by decide +kernel
theorem dX11_look_111 : decode cX11_look 111 = .ok (.aload_n 0, 1) := by decide +kernel
theorem dX11_look_112 : decode cX11_look 112 = .ok (.aload_n 0, 1) := by decide +kernel
theorem dX11_look_113 : decode cX11_look 113 = .ok (.getfield 37, 3) := by decide +kernel
theorem dX11_look_116 : decode cX11_look 116 = .ok (.iload_n 1, 1) := by decide +kernel
theorem dX11_look_117 : decode cX11_look 117 = .ok (.iaload, 1) := by decide +kernel
theorem dX11_look_118 : decode cX11_look 118 = .ok (.iload_n 3, 1) := by decide +kernel
theorem dX11_look_119 : decode cX11_look 119 = .ok (.invokevirtual 219, 3) := by decide +kernel
theorem dX11_look_122 : decode cX11_look 122 = .ok (.bastore, 1) := by decide +kernel
theorem dX11_look_123 : decode cX11_look 123 = .ok (.aload_n 0, 1) := by decide +kernel
theorem dX11_look_124 : decode cX11_look 124 = .ok (.getfield 83, 3) := by decide +kernel
theorem dX11_look_127 : decode cX11_look 127 = .ok (.iload 4, 2) := by decide +kernel
theorem dX11_look_129 : decode cX11_look 129 = .ok (.iconst 0, 1) := by decide +kernel
theorem dX11_look_130 : decode cX11_look 130 = .ok (.iastore, 1) := by decide +kernel
theorem dX11_look_131 : decode cX11_look 131 = .ok (.aload_n 0, 1) := by decide +kernel
theorem dX11_look_132 : decode cX11_look 132 = .ok (.dup, 1) := by decide +kernel
theorem dX11_look_133 : decode cX11_look 133 = .ok (.getfield 131, 3) := by decide +kernel
theorem dX11_look_136 : decode cX11_look 136 = .ok (.iconst 1, 1) := by decide +kernel
theorem dX11_look_137 : decode cX11_look 137 = .ok (.iadd, 1) := by decide +kernel
theorem dX11_look_138 : decode cX11_look 138 = .ok (.putfield 131, 3) := by decide +kernel
theorem dX11_look_141 : decode cX11_look 141 = .ok (.aload_n 0, 1) := by decide +kernel
theorem dX11_look_142 : decode cX11_look 142 = .ok (.getfield 49, 3) := by decide +kernel
theorem dX11_look_145 : decode cX11_look 145 = .ok (.iload_n 1, 1) := by decide +kernel
theorem dX11_look_146 : decode cX11_look 146 = .ok (.aload_n 0, 1) := by decide +kernel
theorem dX11_look_147 : decode cX11_look 147 = .ok (.getfield 80, 3) := by decide +kernel
theorem dX11_look_150 : decode cX11_look 150 = .ok (.iload 4, 2) := by decide +kernel
theorem dX11_look_152 : decode cX11_look 152 = .ok (.baload, 1) := by decide +kernel
theorem dX11_look_153 : decode cX11_look 153 = .ok (.bastore, 1) := by decide +kernel
theorem dX11_look_154 : decode cX11_look 154 = .ok (.aload_n 0, 1) := by decide +kernel
theorem dX11_look_155 : decode cX11_look 155 = .ok (.getfield 80, 3) := by decide +kernel
theorem dX11_look_158 : decode cX11_look 158 = .ok (.iload 4, 2) := by decide +kernel
theorem dX11_look_160 : decode cX11_look 160 = .ok (.baload, 1) := by decide +kernel
theorem dX11_look_161 : decode cX11_look 161 = .ok (.ifCond .eq 13, 3) := by decide +kernel
theorem dX11_look_164 : decode cX11_look 164 = .ok (.aload_n 0, 1) := by decide +kernel
theorem dX11_look_165 : decode cX11_look 165 = .ok (.aload_n 0, 1) := by decide +kernel
theorem dX11_look_166 : decode cX11_look 166 = .ok (.getfield 37, 3) := by decide +kernel
theorem dX11_look_169 : decode cX11_look 169 = .ok (.iload_n 1, 1) := by decide +kernel
theorem dX11_look_170 : decode cX11_look 170 = .ok (.iaload, 1) := by decide +kernel
theorem dX11_look_171 : decode cX11_look 171 = .ok (.invokevirtual 222, 3) := by decide +kernel
theorem dX11_look_174 : decode cX11_look 174 = .ok (.iload 4, 2) := by decide +kernel
theorem dX11_look_176 : decode cX11_look 176 = .ok (.ireturn, 1) := by decide +kernel
theorem dX11_told_0 : decode cX11_told 0 = .ok (.aload_n 0, 1) := by decide +kernel
theorem dX11_told_1 : decode cX11_told 1 = .ok (.iload_n 1, 1) := by decide +kernel
theorem dX11_told_2 : decode cX11_told 2 = .ok (.invokevirtual 226, 3) := by decide +kernel
theorem dX11_told_5 : decode cX11_told 5 = .ok (.ifCond .eq 12, 3) := by decide +kernel
theorem dX11_told_8 : decode cX11_told 8 = .ok (.iload_n 2, 1) := by decide +kernel
theorem dX11_told_9 : decode cX11_told 9 = .ok (.iconst 0, 1) := by decide +kernel
theorem dX11_told_10 : decode cX11_told 10 = .ok (.iconst 4, 1) := by decide +kernel
theorem dX11_told_11 : decode cX11_told 11 = .ok (.invokestatic 124, 3) := by decide +kernel
theorem dX11_told_14 : decode cX11_told 14 = .ok (.ifCond .ne 9, 3) := by decide +kernel
theorem dX11_told_17 : decode cX11_told 17 = .ok (.aload_n 0, 1) := by decide +kernel
theorem dX11_told_18 : decode cX11_told 18 = .ok (.iconst 1, 1) := by decide +kernel
theorem dX11_told_19 : decode cX11_told 19 = .ok (.invokevirtual 137, 3) := by decide +kernel
theorem dX11_told_22 : decode cX11_told 22 = .ok (.ireturn, 1) := by decide +kernel
theorem dX11_told_23 : decode cX11_told 23 = .ok (.iload_n 2, 1) := by decide +kernel
theorem dX11_told_24 : decode cX11_told 24 = .ok (.ifCond .ne 12, 3) := by decide +kernel
theorem dX11_told_27 : decode cX11_told 27 = .ok (.aload_n 0, 1) := by decide +kernel
theorem dX11_told_28 : decode cX11_told 28 = .ok (.getfield 68, 3) := by decide +kernel
theorem dX11_told_31 : decode cX11_told 31 = .ok (.iload_n 1, 1) := by decide +kernel
theorem dX11_told_32 : decode cX11_told 32 = .ok (.iaload, 1) := by decide +kernel
theorem dX11_told_33 : decode cX11_told 33 = .ok (.goto 59, 3) := by decide +kernel
theorem dX11_told_36 : decode cX11_told 36 = .ok (.iload_n 2, 1) := by decide +kernel
theorem dX11_told_37 : decode cX11_told 37 = .ok (.iconst 1, 1) := by decide +kernel
theorem dX11_told_38 : decode cX11_told 38 = .ok (.if_icmp .ne 12, 3) := by decide +kernel
theorem dX11_told_41 : decode cX11_told 41 = .ok (.aload_n 0, 1) := by decide +kernel
theorem dX11_told_42 : decode cX11_told 42 = .ok (.getfield 71, 3) := by decide +kernel
theorem dX11_told_45 : decode cX11_told 45 = .ok (.iload_n 1, 1) := by decide +kernel
theorem dX11_told_46 : decode cX11_told 46 = .ok (.iaload, 1) := by decide +kernel
theorem dX11_told_47 : decode cX11_told 47 = .ok (.goto 45, 3) := by decide +kernel
theorem dX11_told_50 : decode cX11_told 50 = .ok (.iload_n 2, 1) := by decide +kernel
theorem dX11_told_51 : decode cX11_told 51 = .ok (.iconst 2, 1) := by decide +kernel
theorem dX11_told_52 : decode cX11_told 52 = .ok (.if_icmp .ne 12, 3) := by decide +kernel
theorem dX11_told_55 : decode cX11_told 55 = .ok (.aload_n 0, 1) := by decide +kernel
theorem dX11_told_56 : decode cX11_told 56 = .ok (.getfield 74, 3) := by decide +kernel
theorem dX11_told_59 : decode cX11_told 59 = .ok (.iload_n 1, 1) := by decide +kernel
theorem dX11_told_60 : decode cX11_told 60 = .ok (.iaload, 1) := by decide +kernel
theorem dX11_told_61 : decode cX11_told 61 = .ok (.goto 31, 3) := by decide +kernel
theorem dX11_told_64 : decode cX11_told 64 = .ok (.iload_n 2, 1) := by decide +kernel
theorem dX11_told_65 : decode cX11_told 65 = .ok (.iconst 3, 1) := by decide +kernel
theorem dX11_told_66 : decode cX11_told 66 = .ok (.if_icmp .ne 12, 3) := by decide +kernel
theorem dX11_told_69 : decode cX11_told 69 = .ok (.aload_n 0, 1) := by decide +kernel
theorem dX11_told_70 : decode cX11_told 70 = .ok (.getfield 77, 3) := by decide +kernel
theorem dX11_told_73 : decode cX11_told 73 = .ok (.iload_n 1, 1) := by decide +kernel
theorem dX11_told_74 : decode cX11_told 74 = .ok (.iaload, 1) := by decide +kernel
theorem dX11_told_75 : decode cX11_told 75 = .ok (.goto 17, 3) := by decide +kernel
theorem dX11_told_78 : decode cX11_told 78 = .ok (.aload_n 0, 1) := by decide +kernel
theorem dX11_told_79 : decode cX11_told 79 = .ok (.getfield 80, 3) := by decide +kernel
theorem dX11_told_82 : decode cX11_told 82 = .ok (.iload_n 1, 1) := by decide +kernel
theorem dX11_told_83 : decode cX11_told 83 = .ok (.baload, 1) := by decide +kernel
theorem dX11_told_84 : decode cX11_told 84 = .ok (.ifCond .eq 7, 3) := by decide +kernel
theorem dX11_told_87 : decode cX11_told 87 = .ok (.iconst 1, 1) := by decide +kernel
theorem dX11_told_88 : decode cX11_told 88 = .ok (.goto 4, 3) := by decide +kernel
theorem dX11_told_91 : decode cX11_told 91 = .ok (.iconst 0, 1) := by decide +kernel
theorem dX11_told_92 : decode cX11_told 92 = .ok (.ireturn, 1) := by decide +kernel
end
section
theorem dX11_counted_0 : decode cX11_counted 0 = .ok (.iconst 0, 1) := by decide +kernel
theorem dX11_counted_1 : decode cX11_counted 1 = .ok (.istore 4, 2) := by decide +kernel
theorem dX11_counted_3 : decode cX11_counted 3 = .ok (.iconst 0, 1) := by decide +kernel
theorem dX11_counted_4 : decode cX11_counted 4 = .ok (.istore 5, 2) := by decide +kernel
theorem dX11_counted_6 : decode cX11_counted 6 = .ok (.iload 5, 2) := by decide +kernel
theorem dX11_counted_8 : decode cX11_counted 8 = .ok (.aload_n 0, 1) := by decide +kernel
theorem dX11_counted_9 : decode cX11_counted 9 = .ok (.getfield 131, 3) := by decide +kernel
theorem dX11_counted_12 : decode cX11_counted 12 = .ok (.if_icmp .ge 108, 3) := by decide +kernel
theorem dX11_counted_15 : decode cX11_counted 15 = .ok (.aload_n 0, 1) := by decide +kernel
theorem dX11_counted_16 : decode cX11_counted 16 = .ok (.iload 5, 2) := by decide +kernel
theorem dX11_counted_18 : decode cX11_counted 18 = .ok (.invokevirtual 216, 3) := by decide +kernel
theorem dX11_counted_21 : decode cX11_counted 21 = .ok (.istore 6, 2) := by decide +kernel
theorem dX11_counted_23 : decode cX11_counted 23 = .ok (.iload_n 1, 1) := by decide +kernel
theorem dX11_counted_24 : decode cX11_counted 24 = .ok (.iconst 2, 1) := by decide +kernel
theorem dX11_counted_25 : decode cX11_counted 25 = .ok (.if_icmp .eq 35, 3) := by decide +kernel
theorem dX11_counted_28 : decode cX11_counted 28 = .ok (.iload_n 1, 1) := by decide +kernel
theorem dX11_counted_29 : decode cX11_counted 29 = .ok (.ifCond .ne 20, 3) := by decide +kernel
theorem dX11_counted_32 : decode cX11_counted 32 = .ok (.aload_n 0, 1) := by decide +kernel
theorem dX11_counted_33 : decode cX11_counted 33 = .ok (.iload 6, 2) := by decide +kernel
theorem dX11_counted_35 : decode cX11_counted 35 = .ok (.iconst 1, 1) := by decide +kernel
theorem dX11_counted_36 : decode cX11_counted 36 = .ok (.aload_n 0, 1) := by decide +kernel
theorem dX11_counted_37 : decode cX11_counted 37 = .ok (.getfield 74, 3) := by decide +kernel
theorem dX11_counted_40 : decode cX11_counted 40 = .ok (.iload 5, 2) := by decide +kernel
theorem dX11_counted_42 : decode cX11_counted 42 = .ok (.iaload, 1) := by decide +kernel
theorem dX11_counted_43 : decode cX11_counted 43 = .ok (.invokevirtual 155, 3) := by decide +kernel
theorem dX11_counted_46 : decode cX11_counted 46 = .ok (.goto 10, 3) := by decide +kernel
theorem dX11_counted_49 : decode cX11_counted 49 = .ok (.aload_n 0, 1) := by decide +kernel
theorem dX11_counted_50 : decode cX11_counted 50 = .ok (.getfield 13, 3) := by decide +kernel
theorem dX11_counted_53 : decode cX11_counted 53 = .ok (.iload 6, 2) := by decide +kernel
theorem dX11_counted_55 : decode cX11_counted 55 = .ok (.iaload, 1) := by decide +kernel
theorem dX11_counted_56 : decode cX11_counted 56 = .ok (.iload_n 2, 1) := by decide +kernel
theorem dX11_counted_57 : decode cX11_counted 57 = .ok (.if_icmp .ne 7, 3) := by decide +kernel
theorem dX11_counted_60 : decode cX11_counted 60 = .ok (.iconst 1, 1) := by decide +kernel
theorem dX11_counted_61 : decode cX11_counted 61 = .ok (.goto 4, 3) := by decide +kernel
theorem dX11_counted_64 : decode cX11_counted 64 = .ok (.iconst 0, 1) := by decide +kernel
theorem dX11_counted_65 : decode cX11_counted 65 = .ok (.istore 7, 2) := by decide +kernel
theorem dX11_counted_67 : decode cX11_counted 67 = .ok (.iload 4, 2) := by decide +kernel
theorem dX11_counted_69 : decode cX11_counted 69 = .ok (.iload 7, 2) := by decide +kernel
theorem dX11_counted_71 : decode cX11_counted 71 = .ok (.ifCond .eq 39, 3) := by decide +kernel
theorem dX11_counted_74 : decode cX11_counted 74 = .ok (.aload_n 0, 1) := by decide +kernel
theorem dX11_counted_75 : decode cX11_counted 75 = .ok (.getfield 74, 3) := by decide +kernel
theorem dX11_counted_78 : decode cX11_counted 78 = .ok (.iload 5, 2) := by decide +kernel
theorem dX11_counted_80 : decode cX11_counted 80 = .ok (.iaload, 1) := by decide +kernel
theorem dX11_counted_81 : decode cX11_counted 81 = .ok (.aload_n 0, 1) := by decide +kernel
theorem dX11_counted_82 : decode cX11_counted 82 = .ok (.getfield 134, 3) := by decide +kernel
theorem dX11_counted_85 : decode cX11_counted 85 = .ok (.sipush 1095, 3) := by decide +kernel
theorem dX11_counted_88 : decode cX11_counted 88 = .ok (.isub, 1) := by decide +kernel
theorem dX11_counted_89 : decode cX11_counted 89 = .ok (.if_icmp .le 21, 3) := by decide +kernel
theorem dX11_counted_92 : decode cX11_counted 92 = .ok (.aload_n 0, 1) := by decide +kernel
theorem dX11_counted_93 : decode cX11_counted 93 = .ok (.getfield 80, 3) := by decide +kernel
theorem dX11_counted_96 : decode cX11_counted 96 = .ok (.iload 5, 2) := by decide +kernel
theorem dX11_counted_98 : decode cX11_counted 98 = .ok (.baload, 1) := by decide +kernel
theorem dX11_counted_99 : decode cX11_counted 99 = .ok (.ifCond .ne 7, 3) := by decide +kernel
theorem dX11_counted_102 : decode cX11_counted 102 = .ok (.iload_n 3, 1) := by decide +kernel
theorem dX11_counted_103 : decode cX11_counted 103 = .ok (.ifCond .ne 7, 3) := by decide +kernel
theorem dX11_counted_106 : decode cX11_counted 106 = .ok (.iconst 1, 1) := by decide +kernel
theorem dX11_counted_107 : decode cX11_counted 107 = .ok (.goto 4, 3) := by decide +kernel
theorem dX11_counted_110 : decode cX11_counted 110 = .ok (.iconst 0, 1) := by decide +kernel
theorem dX11_counted_111 : decode cX11_counted 111 = .ok (.iadd, 1) := by decide +kernel
theorem dX11_counted_112 : decode cX11_counted 112 = .ok (.istore 4, 2) := by decide +kernel
theorem dX11_counted_114 : decode cX11_counted 114 = .ok (.iinc 5 1, 3) := by decide +kernel
theorem dX11_counted_117 : decode cX11_counted 117 = .ok (.goto (-111), 3) := by decide +kernel
theorem dX11_counted_120 : decode cX11_counted 120 = .ok (.iload 4, 2) := by decide +kernel
theorem dX11_counted_122 : decode cX11_counted 122 = .ok (.ireturn, 1) := by decide +kernel
theorem dX11_darkOf_0 : decode cX11_darkOf 0 = .ok (.aload_n 0, 1) := by decide +kernel
theorem dX11_darkOf_1 : decode cX11_darkOf 1 = .ok (.iload_n 1, 1) := by decide +kernel
theorem dX11_darkOf_2 : decode cX11_darkOf 2 = .ok (.iload_n 2, 1) := by decide +kernel
theorem dX11_darkOf_3 : decode cX11_darkOf 3 = .ok (.iconst 0, 1) := by decide +kernel
theorem dX11_darkOf_4 : decode cX11_darkOf 4 = .ok (.invokevirtual 229, 3) := by decide +kernel
theorem dX11_darkOf_7 : decode cX11_darkOf 7 = .ok (.i2l, 1) := by decide +kernel
theorem dX11_darkOf_8 : decode cX11_darkOf 8 = .ok (.lstore_n 3, 1) := by decide +kernel
theorem dX11_darkOf_9 : decode cX11_darkOf 9 = .ok (.aload_n 0, 1) := by decide +kernel
theorem dX11_darkOf_10 : decode cX11_darkOf 10 = .ok (.iload_n 1, 1) := by decide +kernel
theorem dX11_darkOf_11 : decode cX11_darkOf 11 = .ok (.iload_n 2, 1) := by decide +kernel
theorem dX11_darkOf_12 : decode cX11_darkOf 12 = .ok (.iconst 1, 1) := by decide +kernel
theorem dX11_darkOf_13 : decode cX11_darkOf 13 = .ok (.invokevirtual 229, 3) := by decide +kernel
theorem dX11_darkOf_16 : decode cX11_darkOf 16 = .ok (.i2l, 1) := by decide +kernel
theorem dX11_darkOf_17 : decode cX11_darkOf 17 = .ok (.lstore 5, 2) := by decide +kernel
theorem dX11_darkOf_19 : decode cX11_darkOf 19 = .ok (.aload_n 0, 1) := by decide +kernel
theorem dX11_darkOf_20 : decode cX11_darkOf 20 = .ok (.iconst 2, 1) := by decide +kernel
theorem dX11_darkOf_21 : decode cX11_darkOf 21 = .ok (.iconst 0, 1) := by decide +kernel
theorem dX11_darkOf_22 : decode cX11_darkOf 22 = .ok (.iconst 0, 1) := by decide +kernel
theorem dX11_darkOf_23 : decode cX11_darkOf 23 = .ok (.invokevirtual 229, 3) := by decide +kernel
theorem dX11_darkOf_26 : decode cX11_darkOf 26 = .ok (.i2l, 1) := by decide +kernel
theorem dX11_darkOf_27 : decode cX11_darkOf 27 = .ok (.lstore 7, 2) := by decide +kernel
theorem dX11_darkOf_29 : decode cX11_darkOf 29 = .ok (.aload_n 0, 1) := by decide +kernel
theorem dX11_darkOf_30 : decode cX11_darkOf 30 = .ok (.iconst 2, 1) := by decide +kernel
theorem dX11_darkOf_31 : decode cX11_darkOf 31 = .ok (.iconst 0, 1) := by decide +kernel
theorem dX11_darkOf_32 : decode cX11_darkOf 32 = .ok (.iconst 1, 1) := by decide +kernel
theorem dX11_darkOf_33 : decode cX11_darkOf 33 = .ok (.invokevirtual 229, 3) := by decide +kernel
theorem dX11_darkOf_36 : decode cX11_darkOf 36 = .ok (.i2l, 1) := by decide +kernel
theorem dX11_darkOf_37 : decode cX11_darkOf 37 = .ok (.lstore 9, 2) := by decide +kernel
theorem dX11_darkOf_39 : decode cX11_darkOf 39 = .ok (.lload 5, 2) := by decide +kernel
theorem dX11_darkOf_41 : decode cX11_darkOf 41 = .ok (.lload 7, 2) := by decide +kernel
theorem dX11_darkOf_43 : decode cX11_darkOf 43 = .ok (.lmul, 1) := by decide +kernel
theorem dX11_darkOf_44 : decode cX11_darkOf 44 = .ok (.lload_n 3, 1) := by decide +kernel
theorem dX11_darkOf_45 : decode cX11_darkOf 45 = .ok (.lload 9, 2) := by decide +kernel
theorem dX11_darkOf_47 : decode cX11_darkOf 47 = .ok (.lmul, 1) := by decide +kernel
theorem dX11_darkOf_48 : decode cX11_darkOf 48 = .ok (.lsub, 1) := by decide +kernel
theorem dX11_darkOf_49 : decode cX11_darkOf 49 = .ok (.lstore 11, 2) := by decide +kernel
theorem dX11_darkOf_51 : decode cX11_darkOf 51 = .ok (.lload 9, 2) := by decide +kernel
theorem dX11_darkOf_53 : decode cX11_darkOf 53 = .ok (.lconst 0, 1) := by decide +kernel
theorem dX11_darkOf_54 : decode cX11_darkOf 54 = .ok (.lcmp, 1) := by decide +kernel
theorem dX11_darkOf_55 : decode cX11_darkOf 55 = .ok (.ifCond .le 34, 3) := by decide +kernel
theorem dX11_darkOf_58 : decode cX11_darkOf 58 = .ok (.lload 11, 2) := by decide +kernel
theorem dX11_darkOf_60 : decode cX11_darkOf 60 = .ok (.lconst 0, 1) := by decide +kernel
theorem dX11_darkOf_61 : decode cX11_darkOf 61 = .ok (.lcmp, 1) := by decide +kernel
theorem dX11_darkOf_62 : decode cX11_darkOf 62 = .ok (.ifCond .le 27, 3) := by decide +kernel
theorem dX11_darkOf_65 : decode cX11_darkOf 65 = .ok (.lload 11, 2) := by decide +kernel
theorem dX11_darkOf_67 : decode cX11_darkOf 67 = .ok (.lload 11, 2) := by decide +kernel
theorem dX11_darkOf_69 : decode cX11_darkOf 69 = .ok (.lmul, 1) := by decide +kernel
theorem dX11_darkOf_70 : decode cX11_darkOf 70 = .ok (.ldc2_w 233, 3) := by decide +kernel
theorem dX11_darkOf_73 : decode cX11_darkOf 73 = .ok (.lload_n 3, 1) := by decide +kernel
theorem dX11_darkOf_74 : decode cX11_darkOf 74 = .ok (.lmul, 1) := by decide +kernel
theorem dX11_darkOf_75 : decode cX11_darkOf 75 = .ok (.lload 7, 2) := by decide +kernel
theorem dX11_darkOf_77 : decode cX11_darkOf 77 = .ok (.lmul, 1) := by decide +kernel
theorem dX11_darkOf_78 : decode cX11_darkOf 78 = .ok (.lload 9, 2) := by decide +kernel
theorem dX11_darkOf_80 : decode cX11_darkOf 80 = .ok (.lmul, 1) := by decide +kernel
theorem dX11_darkOf_81 : decode cX11_darkOf 81 = .ok (.lcmp, 1) := by decide +kernel
theorem dX11_darkOf_82 : decode cX11_darkOf 82 = .ok (.ifCond .le 7, 3) := by decide +kernel
theorem dX11_darkOf_85 : decode cX11_darkOf 85 = .ok (.iconst 1, 1) := by decide +kernel
theorem dX11_darkOf_86 : decode cX11_darkOf 86 = .ok (.goto 4, 3) := by decide +kernel
theorem dX11_darkOf_89 : decode cX11_darkOf 89 = .ok (.iconst 0, 1) := by decide +kernel
theorem dX11_darkOf_90 : decode cX11_darkOf 90 = .ok (.ireturn, 1) := by decide +kernel
theorem dX11_share_0 : decode cX11_share 0 = .ok (.iload_n 1, 1) := by decide +kernel
theorem dX11_share_1 : decode cX11_share 1 = .ok (.iconst 0, 1) := by decide +kernel
theorem dX11_share_2 : decode cX11_share 2 = .ok (.iconst 2, 1) := by decide +kernel
theorem dX11_share_3 : decode cX11_share 3 = .ok (.invokestatic 124, 3) := by decide +kernel
theorem dX11_share_6 : decode cX11_share 6 = .ok (.ifCond .eq 38, 3) := by decide +kernel
theorem dX11_share_9 : decode cX11_share 9 = .ok (.iload_n 2, 1) := by decide +kernel
theorem dX11_share_10 : decode cX11_share 10 = .ok (.iconst 0, 1) := by decide +kernel
theorem dX11_share_11 : decode cX11_share 11 = .ok (.iload_n 1, 1) := by decide +kernel
theorem dX11_share_12 : decode cX11_share 12 = .ok (.ifCond .ne 7, 3) := by decide +kernel
theorem dX11_share_15 : decode cX11_share 15 = .ok (.iconst 5, 1) := by decide +kernel
theorem dX11_share_16 : decode cX11_share 16 = .ok (.goto 13, 3) := by decide +kernel
theorem dX11_share_19 : decode cX11_share 19 = .ok (.iload_n 1, 1) := by decide +kernel
theorem dX11_share_20 : decode cX11_share 20 = .ok (.iconst 1, 1) := by decide +kernel
theorem dX11_share_21 : decode cX11_share 21 = .ok (.if_icmp .ne 7, 3) := by decide +kernel
theorem dX11_share_24 : decode cX11_share 24 = .ok (.iconst 3, 1) := by decide +kernel
theorem dX11_share_25 : decode cX11_share 25 = .ok (.goto 4, 3) := by decide +kernel
theorem dX11_share_28 : decode cX11_share 28 = .ok (.iconst 0, 1) := by decide +kernel
theorem dX11_share_29 : decode cX11_share 29 = .ok (.invokestatic 124, 3) := by decide +kernel
theorem dX11_share_32 : decode cX11_share 32 = .ok (.ifCond .eq 12, 3) := by decide +kernel
theorem dX11_share_35 : decode cX11_share 35 = .ok (.iload_n 3, 1) := by decide +kernel
theorem dX11_share_36 : decode cX11_share 36 = .ok (.iconst 0, 1) := by decide +kernel
theorem dX11_share_37 : decode cX11_share 37 = .ok (.iconst 2, 1) := by decide +kernel
theorem dX11_share_38 : decode cX11_share 38 = .ok (.invokestatic 124, 3) := by decide +kernel
theorem dX11_share_41 : decode cX11_share 41 = .ok (.ifCond .ne 9, 3) := by decide +kernel
theorem dX11_share_44 : decode cX11_share 44 = .ok (.aload_n 0, 1) := by decide +kernel
theorem dX11_share_45 : decode cX11_share 45 = .ok (.iconst 1, 1) := by decide +kernel
theorem dX11_share_46 : decode cX11_share 46 = .ok (.invokevirtual 137, 3) := by decide +kernel
theorem dX11_share_49 : decode cX11_share 49 = .ok (.ireturn, 1) := by decide +kernel
theorem dX11_share_50 : decode cX11_share 50 = .ok (.iload_n 3, 1) := by decide +kernel
theorem dX11_share_51 : decode cX11_share 51 = .ok (.iconst 2, 1) := by decide +kernel
theorem dX11_share_52 : decode cX11_share 52 = .ok (.if_icmp .ge 22, 3) := by decide +kernel
theorem dX11_share_55 : decode cX11_share 55 = .ok (.aload_n 0, 1) := by decide +kernel
theorem dX11_share_56 : decode cX11_share 56 = .ok (.iload_n 1, 1) := by decide +kernel
theorem dX11_share_57 : decode cX11_share 57 = .ok (.iload_n 2, 1) := by decide +kernel
theorem dX11_share_58 : decode cX11_share 58 = .ok (.iload_n 3, 1) := by decide +kernel
theorem dX11_share_59 : decode cX11_share 59 = .ok (.iconst 1, 1) := by decide +kernel
theorem dX11_share_60 : decode cX11_share 60 = .ok (.if_icmp .ne 7, 3) := by decide +kernel
theorem dX11_share_63 : decode cX11_share 63 = .ok (.iconst 1, 1) := by decide +kernel
theorem dX11_share_64 : decode cX11_share 64 = .ok (.goto 4, 3) := by decide +kernel
theorem dX11_share_67 : decode cX11_share 67 = .ok (.iconst 0, 1) := by decide +kernel
theorem dX11_share_68 : decode cX11_share 68 = .ok (.invokevirtual 229, 3) := by decide +kernel
theorem dX11_share_71 : decode cX11_share 71 = .ok (.goto 18, 3) := by decide +kernel
theorem dX11_share_74 : decode cX11_share 74 = .ok (.iload_n 1, 1) := by decide +kernel
theorem dX11_share_75 : decode cX11_share 75 = .ok (.iconst 2, 1) := by decide +kernel
theorem dX11_share_76 : decode cX11_share 76 = .ok (.if_icmp .ne 7, 3) := by decide +kernel
theorem dX11_share_79 : decode cX11_share 79 = .ok (.iconst 0, 1) := by decide +kernel
theorem dX11_share_80 : decode cX11_share 80 = .ok (.goto 9, 3) := by decide +kernel
theorem dX11_share_83 : decode cX11_share 83 = .ok (.aload_n 0, 1) := by decide +kernel
theorem dX11_share_84 : decode cX11_share 84 = .ok (.iload_n 1, 1) := by decide +kernel
theorem dX11_share_85 : decode cX11_share 85 = .ok (.iload_n 2, 1) := by decide +kernel
theorem dX11_share_86 : decode cX11_share 86 = .ok (.invokevirtual 213, 3) := by decide +kernel
theorem dX11_share_89 : decode cX11_share 89 = .ok (.ireturn, 1) := by decide +kernel
theorem dX11_riskOf_0 : decode cX11_riskOf 0 = .ok (.iconst 1, 1) := by decide +kernel
theorem dX11_riskOf_1 : decode cX11_riskOf 1 = .ok (.istore_n 2, 1) := by decide +kernel
theorem dX11_riskOf_2 : decode cX11_riskOf 2 = .ok (.iload_n 2, 1) := by decide +kernel
theorem dX11_riskOf_3 : decode cX11_riskOf 3 = .ok (.aload_n 0, 1) := by decide +kernel
theorem dX11_riskOf_4 : decode cX11_riskOf 4 = .ok (.getfield 134, 3) := by decide +kernel
theorem dX11_riskOf_7 : decode cX11_riskOf 7 = .ok (.aload_n 0, 1) := by decide +kernel
theorem dX11_riskOf_8 : decode cX11_riskOf 8 = .ok (.getfield 16, 3) := by decide +kernel
theorem dX11_riskOf_11 : decode cX11_riskOf 11 = .ok (.iload_n 1, 1) := by decide +kernel
theorem dX11_riskOf_12 : decode cX11_riskOf 12 = .ok (.iaload, 1) := by decide +kernel
theorem dX11_riskOf_13 : decode cX11_riskOf 13 = .ok (.isub, 1) := by decide +kernel
theorem dX11_riskOf_14 : decode cX11_riskOf 14 = .ok (.sipush 5475, 3) := by decide +kernel
theorem dX11_riskOf_17 : decode cX11_riskOf 17 = .ok (.if_icmp .lt 7, 3) := by decide +kernel
theorem dX11_riskOf_20 : decode cX11_riskOf 20 = .ok (.iconst 2, 1) := by decide +kernel
theorem dX11_riskOf_21 : decode cX11_riskOf 21 = .ok (.goto 4, 3) := by decide +kernel
theorem dX11_riskOf_24 : decode cX11_riskOf 24 = .ok (.iconst 0, 1) := by decide +kernel
theorem dX11_riskOf_25 : decode cX11_riskOf 25 = .ok (.iadd, 1) := by decide +kernel
theorem dX11_riskOf_26 : decode cX11_riskOf 26 = .ok (.istore_n 2, 1) := by decide +kernel
theorem dX11_riskOf_27 : decode cX11_riskOf 27 = .ok (.iload_n 2, 1) := by decide +kernel
theorem dX11_riskOf_28 : decode cX11_riskOf 28 = .ok (.iconst 3, 1) := by decide +kernel
theorem dX11_riskOf_29 : decode cX11_riskOf 29 = .ok (.aload_n 0, 1) := by decide +kernel
theorem dX11_riskOf_30 : decode cX11_riskOf 30 = .ok (.iconst 0, 1) := by decide +kernel
theorem dX11_riskOf_31 : decode cX11_riskOf 31 = .ok (.aload_n 0, 1) := by decide +kernel
theorem dX11_riskOf_32 : decode cX11_riskOf 32 = .ok (.iload_n 1, 1) := by decide +kernel
theorem dX11_riskOf_33 : decode cX11_riskOf 33 = .ok (.iconst 1, 1) := by decide +kernel
theorem dX11_riskOf_34 : decode cX11_riskOf 34 = .ok (.aload_n 0, 1) := by decide +kernel
theorem dX11_riskOf_35 : decode cX11_riskOf 35 = .ok (.getfield 134, 3) := by decide +kernel
theorem dX11_riskOf_38 : decode cX11_riskOf 38 = .ok (.invokevirtual 155, 3) := by decide +kernel
theorem dX11_riskOf_41 : decode cX11_riskOf 41 = .ok (.invokevirtual 213, 3) := by decide +kernel
theorem dX11_riskOf_44 : decode cX11_riskOf 44 = .ok (.imul, 1) := by decide +kernel
theorem dX11_riskOf_45 : decode cX11_riskOf 45 = .ok (.iadd, 1) := by decide +kernel
theorem dX11_riskOf_46 : decode cX11_riskOf 46 = .ok (.istore_n 2, 1) := by decide +kernel
theorem dX11_riskOf_47 : decode cX11_riskOf 47 = .ok (.iload_n 2, 1) := by decide +kernel
theorem dX11_riskOf_48 : decode cX11_riskOf 48 = .ok (.iconst 2, 1) := by decide +kernel
theorem dX11_riskOf_49 : decode cX11_riskOf 49 = .ok (.aload_n 0, 1) := by decide +kernel
theorem dX11_riskOf_50 : decode cX11_riskOf 50 = .ok (.iconst 1, 1) := by decide +kernel
theorem dX11_riskOf_51 : decode cX11_riskOf 51 = .ok (.aload_n 0, 1) := by decide +kernel
theorem dX11_riskOf_52 : decode cX11_riskOf 52 = .ok (.getfield 13, 3) := by decide +kernel
theorem dX11_riskOf_55 : decode cX11_riskOf 55 = .ok (.iload_n 1, 1) := by decide +kernel
theorem dX11_riskOf_56 : decode cX11_riskOf 56 = .ok (.iaload, 1) := by decide +kernel
theorem dX11_riskOf_57 : decode cX11_riskOf 57 = .ok (.invokevirtual 213, 3) := by decide +kernel
theorem dX11_riskOf_60 : decode cX11_riskOf 60 = .ok (.imul, 1) := by decide +kernel
theorem dX11_riskOf_61 : decode cX11_riskOf 61 = .ok (.iadd, 1) := by decide +kernel
theorem dX11_riskOf_62 : decode cX11_riskOf 62 = .ok (.istore_n 2, 1) := by decide +kernel
theorem dX11_riskOf_63 : decode cX11_riskOf 63 = .ok (.aload_n 0, 1) := by decide +kernel
theorem dX11_riskOf_64 : decode cX11_riskOf 64 = .ok (.aload_n 0, 1) := by decide +kernel
theorem dX11_riskOf_65 : decode cX11_riskOf 65 = .ok (.iload_n 1, 1) := by decide +kernel
theorem dX11_riskOf_66 : decode cX11_riskOf 66 = .ok (.iconst 2, 1) := by decide +kernel
theorem dX11_riskOf_67 : decode cX11_riskOf 67 = .ok (.aload_n 0, 1) := by decide +kernel
theorem dX11_riskOf_68 : decode cX11_riskOf 68 = .ok (.getfield 134, 3) := by decide +kernel
theorem dX11_riskOf_71 : decode cX11_riskOf 71 = .ok (.invokevirtual 155, 3) := by decide +kernel
theorem dX11_riskOf_74 : decode cX11_riskOf 74 = .ok (.aload_n 0, 1) := by decide +kernel
theorem dX11_riskOf_75 : decode cX11_riskOf 75 = .ok (.getfield 134, 3) := by decide +kernel
theorem dX11_riskOf_78 : decode cX11_riskOf 78 = .ok (.invokevirtual 168, 3) := by decide +kernel
theorem dX11_riskOf_81 : decode cX11_riskOf 81 = .ok (.istore_n 3, 1) := by decide +kernel
theorem dX11_riskOf_82 : decode cX11_riskOf 82 = .ok (.iconst 0, 1) := by decide +kernel
theorem dX11_riskOf_83 : decode cX11_riskOf 83 = .ok (.istore 4, 2) := by decide +kernel
theorem dX11_riskOf_85 : decode cX11_riskOf 85 = .ok (.aload_n 0, 1) := by decide +kernel
theorem dX11_riskOf_86 : decode cX11_riskOf 86 = .ok (.getfield 16, 3) := by decide +kernel
theorem dX11_riskOf_89 : decode cX11_riskOf 89 = .ok (.iload_n 1, 1) := by decide +kernel
theorem dX11_riskOf_90 : decode cX11_riskOf 90 = .ok (.iaload, 1) := by decide +kernel
theorem dX11_riskOf_91 : decode cX11_riskOf 91 = .ok (.istore 5, 2) := by decide +kernel
theorem dX11_riskOf_93 : decode cX11_riskOf 93 = .ok (.iconst 0, 1) := by decide +kernel
theorem dX11_riskOf_94 : decode cX11_riskOf 94 = .ok (.istore 6, 2) := by decide +kernel
theorem dX11_riskOf_96 : decode cX11_riskOf 96 = .ok (.iload 6, 2) := by decide +kernel
theorem dX11_riskOf_98 : decode cX11_riskOf 98 = .ok (.aload_n 0, 1) := by decide +kernel
theorem dX11_riskOf_99 : decode cX11_riskOf 99 = .ok (.getfield 131, 3) := by decide +kernel
theorem dX11_riskOf_102 : decode cX11_riskOf 102 = .ok (.if_icmp .ge 91, 3) := by decide +kernel
theorem dX11_riskOf_105 : decode cX11_riskOf 105 = .ok (.aload_n 0, 1) := by decide +kernel
theorem dX11_riskOf_106 : decode cX11_riskOf 106 = .ok (.iload 6, 2) := by decide +kernel
theorem dX11_riskOf_108 : decode cX11_riskOf 108 = .ok (.invokevirtual 216, 3) := by decide +kernel
theorem dX11_riskOf_111 : decode cX11_riskOf 111 = .ok (.istore 7, 2) := by decide +kernel
theorem dX11_riskOf_113 : decode cX11_riskOf 113 = .ok (.iload 4, 2) := by decide +kernel
theorem dX11_riskOf_115 : decode cX11_riskOf 115 = .ok (.iload 7, 2) := by decide +kernel
theorem dX11_riskOf_117 : decode cX11_riskOf 117 = .ok (.iload_n 1, 1) := by decide +kernel
theorem dX11_riskOf_118 : decode cX11_riskOf 118 = .ok (.if_icmp .eq 45, 3) := by decide +kernel
theorem dX11_riskOf_121 : decode cX11_riskOf 121 = .ok (.aload_n 0, 1) := by decide +kernel
theorem dX11_riskOf_122 : decode cX11_riskOf 122 = .ok (.getfield 80, 3) := by decide +kernel
theorem dX11_riskOf_125 : decode cX11_riskOf 125 = .ok (.iload 6, 2) := by decide +kernel
theorem dX11_riskOf_127 : decode cX11_riskOf 127 = .ok (.baload, 1) := by decide +kernel
theorem dX11_riskOf_128 : decode cX11_riskOf 128 = .ok (.ifCond .eq 35, 3) := by decide +kernel
theorem dX11_riskOf_131 : decode cX11_riskOf 131 = .ok (.iload_n 3, 1) := by decide +kernel
theorem dX11_riskOf_132 : decode cX11_riskOf 132 = .ok (.iload 7, 2) := by decide +kernel
theorem dX11_riskOf_134 : decode cX11_riskOf 134 = .ok (.ishr, 1) := by decide +kernel
theorem dX11_riskOf_135 : decode cX11_riskOf 135 = .ok (.iconst 1, 1) := by decide +kernel
theorem dX11_riskOf_136 : decode cX11_riskOf 136 = .ok (.iand, 1) := by decide +kernel
theorem dX11_riskOf_137 : decode cX11_riskOf 137 = .ok (.iconst 1, 1) := by decide +kernel
theorem dX11_riskOf_138 : decode cX11_riskOf 138 = .ok (.if_icmp .ne 25, 3) := by decide +kernel
theorem dX11_riskOf_141 : decode cX11_riskOf 141 = .ok (.aload_n 0, 1) := by decide +kernel
theorem dX11_riskOf_142 : decode cX11_riskOf 142 = .ok (.getfield 74, 3) := by decide +kernel
theorem dX11_riskOf_145 : decode cX11_riskOf 145 = .ok (.iload 6, 2) := by decide +kernel
theorem dX11_riskOf_147 : decode cX11_riskOf 147 = .ok (.iaload, 1) := by decide +kernel
theorem dX11_riskOf_148 : decode cX11_riskOf 148 = .ok (.aload_n 0, 1) := by decide +kernel
theorem dX11_riskOf_149 : decode cX11_riskOf 149 = .ok (.getfield 134, 3) := by decide +kernel
theorem dX11_riskOf_152 : decode cX11_riskOf 152 = .ok (.sipush 365, 3) := by decide +kernel
theorem dX11_riskOf_155 : decode cX11_riskOf 155 = .ok (.isub, 1) := by decide +kernel
theorem dX11_riskOf_156 : decode cX11_riskOf 156 = .ok (.if_icmp .le 7, 3) := by decide +kernel
theorem dX11_riskOf_159 : decode cX11_riskOf 159 = .ok (.iconst 1, 1) := by decide +kernel
theorem dX11_riskOf_160 : decode cX11_riskOf 160 = .ok (.goto 4, 3) := by decide +kernel
theorem dX11_riskOf_163 : decode cX11_riskOf 163 = .ok (.iconst 0, 1) := by decide +kernel
theorem dX11_riskOf_164 : decode cX11_riskOf 164 = .ok (.iadd, 1) := by decide +kernel
theorem dX11_riskOf_165 : decode cX11_riskOf 165 = .ok (.istore 4, 2) := by decide +kernel
theorem dX11_riskOf_167 : decode cX11_riskOf 167 = .ok (.iload 7, 2) := by decide +kernel
theorem dX11_riskOf_169 : decode cX11_riskOf 169 = .ok (.iload_n 1, 1) := by decide +kernel
theorem dX11_riskOf_170 : decode cX11_riskOf 170 = .ok (.if_icmp .ne 13, 3) := by decide +kernel
theorem dX11_riskOf_173 : decode cX11_riskOf 173 = .ok (.aload_n 0, 1) := by decide +kernel
theorem dX11_riskOf_174 : decode cX11_riskOf 174 = .ok (.getfield 74, 3) := by decide +kernel
theorem dX11_riskOf_177 : decode cX11_riskOf 177 = .ok (.iload 6, 2) := by decide +kernel
theorem dX11_riskOf_179 : decode cX11_riskOf 179 = .ok (.iaload, 1) := by decide +kernel
theorem dX11_riskOf_180 : decode cX11_riskOf 180 = .ok (.goto 5, 3) := by decide +kernel
theorem dX11_riskOf_183 : decode cX11_riskOf 183 = .ok (.iload 5, 2) := by decide +kernel
theorem dX11_riskOf_185 : decode cX11_riskOf 185 = .ok (.istore 5, 2) := by decide +kernel
theorem dX11_riskOf_187 : decode cX11_riskOf 187 = .ok (.iinc 6 1, 3) := by decide +kernel
theorem dX11_riskOf_190 : decode cX11_riskOf 190 = .ok (.goto (-94), 3) := by decide +kernel
theorem dX11_riskOf_193 : decode cX11_riskOf 193 = .ok (.aload_n 0, 1) := by decide +kernel
theorem dX11_riskOf_194 : decode cX11_riskOf 194 = .ok (.getfield 134, 3) := by decide +kernel
theorem dX11_riskOf_197 : decode cX11_riskOf 197 = .ok (.iload 5, 2) := by decide +kernel
theorem dX11_riskOf_199 : decode cX11_riskOf 199 = .ok (.isub, 1) := by decide +kernel
theorem dX11_riskOf_200 : decode cX11_riskOf 200 = .ok (.sipush 365, 3) := by decide +kernel
theorem dX11_riskOf_203 : decode cX11_riskOf 203 = .ok (.idiv, 1) := by decide +kernel
theorem dX11_riskOf_204 : decode cX11_riskOf 204 = .ok (.istore 6, 2) := by decide +kernel
theorem dX11_riskOf_206 : decode cX11_riskOf 206 = .ok (.iload_n 2, 1) := by decide +kernel
theorem dX11_riskOf_207 : decode cX11_riskOf 207 = .ok (.iload 4, 2) := by decide +kernel
theorem dX11_riskOf_209 : decode cX11_riskOf 209 = .ok (.iconst 4, 1) := by decide +kernel
theorem dX11_riskOf_210 : decode cX11_riskOf 210 = .ok (.if_icmp .le 7, 3) := by decide +kernel
theorem dX11_riskOf_213 : decode cX11_riskOf 213 = .ok (.iconst 4, 1) := by decide +kernel
theorem dX11_riskOf_214 : decode cX11_riskOf 214 = .ok (.goto 5, 3) := by decide +kernel
theorem dX11_riskOf_217 : decode cX11_riskOf 217 = .ok (.iload 4, 2) := by decide +kernel
theorem dX11_riskOf_219 : decode cX11_riskOf 219 = .ok (.iadd, 1) := by decide +kernel
theorem dX11_riskOf_220 : decode cX11_riskOf 220 = .ok (.istore_n 2, 1) := by decide +kernel
theorem dX11_riskOf_221 : decode cX11_riskOf 221 = .ok (.iload_n 2, 1) := by decide +kernel
theorem dX11_riskOf_222 : decode cX11_riskOf 222 = .ok (.iload 6, 2) := by decide +kernel
theorem dX11_riskOf_224 : decode cX11_riskOf 224 = .ok (.iconst 5, 1) := by decide +kernel
theorem dX11_riskOf_225 : decode cX11_riskOf 225 = .ok (.if_icmp .le 7, 3) := by decide +kernel
theorem dX11_riskOf_228 : decode cX11_riskOf 228 = .ok (.iconst 5, 1) := by decide +kernel
theorem dX11_riskOf_229 : decode cX11_riskOf 229 = .ok (.goto 5, 3) := by decide +kernel
theorem dX11_riskOf_232 : decode cX11_riskOf 232 = .ok (.iload 6, 2) := by decide +kernel
theorem dX11_riskOf_234 : decode cX11_riskOf 234 = .ok (.iadd, 1) := by decide +kernel
theorem dX11_riskOf_235 : decode cX11_riskOf 235 = .ok (.istore_n 2, 1) := by decide +kernel
theorem dX11_riskOf_236 : decode cX11_riskOf 236 = .ok (.aload_n 0, 1) := by decide +kernel
theorem dX11_riskOf_237 : decode cX11_riskOf 237 = .ok (.iload_n 1, 1) := by decide +kernel
theorem dX11_riskOf_238 : decode cX11_riskOf 238 = .ok (.iconst 1, 1) := by decide +kernel
theorem dX11_riskOf_239 : decode cX11_riskOf 239 = .ok (.invokevirtual 145, 3) := by decide +kernel
theorem dX11_riskOf_242 : decode cX11_riskOf 242 = .ok (.ifCond .eq 9, 3) := by decide +kernel
theorem dX11_riskOf_245 : decode cX11_riskOf 245 = .ok (.iconst 2, 1) := by decide +kernel
theorem dX11_riskOf_246 : decode cX11_riskOf 246 = .ok (.iload_n 2, 1) := by decide +kernel
theorem dX11_riskOf_247 : decode cX11_riskOf 247 = .ok (.imul, 1) := by decide +kernel
theorem dX11_riskOf_248 : decode cX11_riskOf 248 = .ok (.goto 4, 3) := by decide +kernel
theorem dX11_riskOf_251 : decode cX11_riskOf 251 = .ok (.iload_n 2, 1) := by decide +kernel
theorem dX11_riskOf_252 : decode cX11_riskOf 252 = .ok (.ireturn, 1) := by decide +kernel
theorem dX11_risk_0 : decode cX11_risk 0 = .ok (.aload_n 0, 1) := by decide +kernel
theorem dX11_risk_1 : decode cX11_risk 1 = .ok (.iload_n 1, 1) := by decide +kernel
theorem dX11_risk_2 : decode cX11_risk 2 = .ok (.invokevirtual 141, 3) := by decide +kernel
theorem dX11_risk_5 : decode cX11_risk 5 = .ok (.ifCond .eq 11, 3) := by decide +kernel
theorem dX11_risk_8 : decode cX11_risk 8 = .ok (.aload_n 0, 1) := by decide +kernel
theorem dX11_risk_9 : decode cX11_risk 9 = .ok (.iload_n 1, 1) := by decide +kernel
theorem dX11_risk_10 : decode cX11_risk 10 = .ok (.invokevirtual 235, 3) := by decide +kernel
theorem dX11_risk_13 : decode cX11_risk 13 = .ok (.goto 8, 3) := by decide +kernel
theorem dX11_risk_16 : decode cX11_risk 16 = .ok (.aload_n 0, 1) := by decide +kernel
theorem dX11_risk_17 : decode cX11_risk 17 = .ok (.iconst 1, 1) := by decide +kernel
theorem dX11_risk_18 : decode cX11_risk 18 = .ok (.invokevirtual 137, 3) := by decide +kernel
theorem dX11_risk_21 : decode cX11_risk 21 = .ok (.ireturn, 1) := by decide +kernel
theorem dX11_gather_0 : decode cX11_gather 0 = .ok (.aload_n 0, 1) := by decide +kernel
theorem dX11_gather_1 : decode cX11_gather 1 = .ok (.iconst 0, 1) := by decide +kernel
theorem dX11_gather_2 : decode cX11_gather 2 = .ok (.putfield 238, 3) := by decide +kernel
theorem dX11_gather_5 : decode cX11_gather 5 = .ok (.iconst 0, 1) := by decide +kernel
theorem dX11_gather_6 : decode cX11_gather 6 = .ok (.istore_n 2, 1) := by decide +kernel
theorem dX11_gather_7 : decode cX11_gather 7 = .ok (.iload_n 2, 1) := by decide +kernel
theorem dX11_gather_8 : decode cX11_gather 8 = .ok (.aload_n 0, 1) := by decide +kernel
theorem dX11_gather_9 : decode cX11_gather 9 = .ok (.getfield 121, 3) := by decide +kernel
theorem dX11_gather_12 : decode cX11_gather 12 = .ok (.if_icmp .ge 72, 3) := by decide +kernel
theorem dX11_gather_15 : decode cX11_gather 15 = .ok (.aload_n 0, 1) := by decide +kernel
theorem dX11_gather_16 : decode cX11_gather 16 = .ok (.getfield 238, 3) := by decide +kernel
theorem dX11_gather_19 : decode cX11_gather 19 = .ok (.bipush 8, 2) := by decide +kernel
theorem dX11_gather_21 : decode cX11_gather 21 = .ok (.if_icmp .ge 63, 3) := by decide +kernel
theorem dX11_gather_24 : decode cX11_gather 24 = .ok (.aload_n 0, 1) := by decide +kernel
theorem dX11_gather_25 : decode cX11_gather 25 = .ok (.iload_n 2, 1) := by decide +kernel
theorem dX11_gather_26 : decode cX11_gather 26 = .ok (.invokevirtual 172, 3) := by decide +kernel
theorem dX11_gather_29 : decode cX11_gather 29 = .ok (.istore_n 3, 1) := by decide +kernel
theorem dX11_gather_30 : decode cX11_gather 30 = .ok (.iload_n 3, 1) := by decide +kernel
theorem dX11_gather_31 : decode cX11_gather 31 = .ok (.ifCond .lt 47, 3) := by decide +kernel
theorem dX11_gather_34 : decode cX11_gather 34 = .ok (.aload_n 0, 1) := by decide +kernel
theorem dX11_gather_35 : decode cX11_gather 35 = .ok (.getfield 40, 3) := by decide +kernel
theorem dX11_gather_38 : decode cX11_gather 38 = .ok (.iload_n 3, 1) := by decide +kernel
theorem dX11_gather_39 : decode cX11_gather 39 = .ok (.iaload, 1) := by decide +kernel
theorem dX11_gather_40 : decode cX11_gather 40 = .ok (.iload_n 1, 1) := by decide +kernel
theorem dX11_gather_41 : decode cX11_gather 41 = .ok (.if_icmp .ne 37, 3) := by decide +kernel
theorem dX11_gather_44 : decode cX11_gather 44 = .ok (.aload_n 0, 1) := by decide +kernel
theorem dX11_gather_45 : decode cX11_gather 45 = .ok (.getfield 108, 3) := by decide +kernel
theorem dX11_gather_48 : decode cX11_gather 48 = .ok (.aload_n 0, 1) := by decide +kernel
theorem dX11_gather_49 : decode cX11_gather 49 = .ok (.getfield 238, 3) := by decide +kernel
theorem dX11_gather_52 : decode cX11_gather 52 = .ok (.iload_n 2, 1) := by decide +kernel
theorem dX11_gather_53 : decode cX11_gather 53 = .ok (.iastore, 1) := by decide +kernel
theorem dX11_gather_54 : decode cX11_gather 54 = .ok (.aload_n 0, 1) := by decide +kernel
theorem dX11_gather_55 : decode cX11_gather 55 = .ok (.getfield 111, 3) := by decide +kernel
theorem dX11_gather_58 : decode cX11_gather 58 = .ok (.aload_n 0, 1) := by decide +kernel
theorem dX11_gather_59 : decode cX11_gather 59 = .ok (.getfield 238, 3) := by decide +kernel
theorem dX11_gather_62 : decode cX11_gather 62 = .ok (.aload_n 0, 1) := by decide +kernel
theorem dX11_gather_63 : decode cX11_gather 63 = .ok (.iload_n 2, 1) := by decide +kernel
theorem dX11_gather_64 : decode cX11_gather 64 = .ok (.invokevirtual 235, 3) := by decide +kernel
theorem dX11_gather_67 : decode cX11_gather 67 = .ok (.iastore, 1) := by decide +kernel
theorem dX11_gather_68 : decode cX11_gather 68 = .ok (.aload_n 0, 1) := by decide +kernel
theorem dX11_gather_69 : decode cX11_gather 69 = .ok (.dup, 1) := by decide +kernel
theorem dX11_gather_70 : decode cX11_gather 70 = .ok (.getfield 238, 3) := by decide +kernel
theorem dX11_gather_73 : decode cX11_gather 73 = .ok (.iconst 1, 1) := by decide +kernel
theorem dX11_gather_74 : decode cX11_gather 74 = .ok (.iadd, 1) := by decide +kernel
theorem dX11_gather_75 : decode cX11_gather 75 = .ok (.putfield 238, 3) := by decide +kernel
theorem dX11_gather_78 : decode cX11_gather 78 = .ok (.iinc 2 1, 3) := by decide +kernel
theorem dX11_gather_81 : decode cX11_gather 81 = .ok (.goto (-74), 3) := by decide +kernel
theorem dX11_gather_84 : decode cX11_gather 84 = .ok (.return_, 1) := by decide +kernel
theorem dX11_tryFrom_0 : decode cX11_tryFrom 0 = .ok (.iload_n 1, 1) := by decide +kernel
theorem dX11_tryFrom_1 : decode cX11_tryFrom 1 = .ok (.aload_n 0, 1) := by decide +kernel
theorem dX11_tryFrom_2 : decode cX11_tryFrom 2 = .ok (.getfield 238, 3) := by decide +kernel
theorem dX11_tryFrom_5 : decode cX11_tryFrom 5 = .ok (.if_icmp .ne 51, 3) := by decide +kernel
theorem dX11_tryFrom_8 : decode cX11_tryFrom 8 = .ok (.iload 4, 2) := by decide +kernel
theorem dX11_tryFrom_10 : decode cX11_tryFrom 10 = .ok (.aload_n 0, 1) := by decide +kernel
theorem dX11_tryFrom_11 : decode cX11_tryFrom 11 = .ok (.getfield 241, 3) := by decide +kernel
theorem dX11_tryFrom_14 : decode cX11_tryFrom 14 = .ok (.if_icmp .le 41, 3) := by decide +kernel
theorem dX11_tryFrom_17 : decode cX11_tryFrom 17 = .ok (.aload_n 0, 1) := by decide +kernel
theorem dX11_tryFrom_18 : decode cX11_tryFrom 18 = .ok (.iload 4, 2) := by decide +kernel
theorem dX11_tryFrom_20 : decode cX11_tryFrom 20 = .ok (.putfield 241, 3) := by decide +kernel
theorem dX11_tryFrom_23 : decode cX11_tryFrom 23 = .ok (.iconst 0, 1) := by decide +kernel
theorem dX11_tryFrom_24 : decode cX11_tryFrom 24 = .ok (.istore 5, 2) := by decide +kernel
theorem dX11_tryFrom_26 : decode cX11_tryFrom 26 = .ok (.iload 5, 2) := by decide +kernel
theorem dX11_tryFrom_28 : decode cX11_tryFrom 28 = .ok (.aload_n 0, 1) := by decide +kernel
theorem dX11_tryFrom_29 : decode cX11_tryFrom 29 = .ok (.getfield 238, 3) := by decide +kernel
theorem dX11_tryFrom_32 : decode cX11_tryFrom 32 = .ok (.if_icmp .ge 23, 3) := by decide +kernel
theorem dX11_tryFrom_35 : decode cX11_tryFrom 35 = .ok (.aload_n 0, 1) := by decide +kernel
theorem dX11_tryFrom_36 : decode cX11_tryFrom 36 = .ok (.getfield 117, 3) := by decide +kernel
theorem dX11_tryFrom_39 : decode cX11_tryFrom 39 = .ok (.iload 5, 2) := by decide +kernel
theorem dX11_tryFrom_41 : decode cX11_tryFrom 41 = .ok (.aload_n 0, 1) := by decide +kernel
theorem dX11_tryFrom_42 : decode cX11_tryFrom 42 = .ok (.getfield 114, 3) := by decide +kernel
theorem dX11_tryFrom_45 : decode cX11_tryFrom 45 = .ok (.iload 5, 2) := by decide +kernel
theorem dX11_tryFrom_47 : decode cX11_tryFrom 47 = .ok (.iaload, 1) := by decide +kernel
theorem dX11_tryFrom_48 : decode cX11_tryFrom 48 = .ok (.iastore, 1) := by decide +kernel
theorem dX11_tryFrom_49 : decode cX11_tryFrom 49 = .ok (.iinc 5 1, 3) := by decide +kernel
theorem dX11_tryFrom_52 : decode cX11_tryFrom 52 = .ok (.goto (-26), 3) := by decide +kernel
theorem dX11_tryFrom_55 : decode cX11_tryFrom 55 = .ok (.return_, 1) := by decide +kernel
theorem dX11_tryFrom_56 : decode cX11_tryFrom 56 = .ok (.aload_n 0, 1) := by decide +kernel
theorem dX11_tryFrom_57 : decode cX11_tryFrom 57 = .ok (.aload_n 0, 1) := by decide +kernel
theorem dX11_tryFrom_58 : decode cX11_tryFrom 58 = .ok (.getfield 108, 3) := by decide +kernel
theorem dX11_tryFrom_61 : decode cX11_tryFrom 61 = .ok (.iload_n 1, 1) := by decide +kernel
theorem dX11_tryFrom_62 : decode cX11_tryFrom 62 = .ok (.iaload, 1) := by decide +kernel
theorem dX11_tryFrom_63 : decode cX11_tryFrom 63 = .ok (.invokevirtual 149, 3) := by decide +kernel
theorem dX11_tryFrom_66 : decode cX11_tryFrom 66 = .ok (.istore 5, 2) := by decide +kernel
theorem dX11_tryFrom_68 : decode cX11_tryFrom 68 = .ok (.iload 5, 2) := by decide +kernel
theorem dX11_tryFrom_70 : decode cX11_tryFrom 70 = .ok (.iload_n 2, 1) := by decide +kernel
theorem dX11_tryFrom_71 : decode cX11_tryFrom 71 = .ok (.if_icmp .gt 31, 3) := by decide +kernel
theorem dX11_tryFrom_74 : decode cX11_tryFrom 74 = .ok (.aload_n 0, 1) := by decide +kernel
theorem dX11_tryFrom_75 : decode cX11_tryFrom 75 = .ok (.getfield 114, 3) := by decide +kernel
theorem dX11_tryFrom_78 : decode cX11_tryFrom 78 = .ok (.iload_n 1, 1) := by decide +kernel
theorem dX11_tryFrom_79 : decode cX11_tryFrom 79 = .ok (.iconst 1, 1) := by decide +kernel
theorem dX11_tryFrom_80 : decode cX11_tryFrom 80 = .ok (.iastore, 1) := by decide +kernel
theorem dX11_tryFrom_81 : decode cX11_tryFrom 81 = .ok (.aload_n 0, 1) := by decide +kernel
theorem dX11_tryFrom_82 : decode cX11_tryFrom 82 = .ok (.iload_n 1, 1) := by decide +kernel
theorem dX11_tryFrom_83 : decode cX11_tryFrom 83 = .ok (.iconst 1, 1) := by decide +kernel
theorem dX11_tryFrom_84 : decode cX11_tryFrom 84 = .ok (.iadd, 1) := by decide +kernel
theorem dX11_tryFrom_85 : decode cX11_tryFrom 85 = .ok (.iload_n 2, 1) := by decide +kernel
theorem dX11_tryFrom_86 : decode cX11_tryFrom 86 = .ok (.iload 5, 2) := by decide +kernel
theorem dX11_tryFrom_88 : decode cX11_tryFrom 88 = .ok (.isub, 1) := by decide +kernel
theorem dX11_tryFrom_89 : decode cX11_tryFrom 89 = .ok (.iload_n 3, 1) := by decide +kernel
theorem dX11_tryFrom_90 : decode cX11_tryFrom 90 = .ok (.iload 4, 2) := by decide +kernel
theorem dX11_tryFrom_92 : decode cX11_tryFrom 92 = .ok (.aload_n 0, 1) := by decide +kernel
theorem dX11_tryFrom_93 : decode cX11_tryFrom 93 = .ok (.getfield 111, 3) := by decide +kernel
theorem dX11_tryFrom_96 : decode cX11_tryFrom 96 = .ok (.iload_n 1, 1) := by decide +kernel
theorem dX11_tryFrom_97 : decode cX11_tryFrom 97 = .ok (.iaload, 1) := by decide +kernel
theorem dX11_tryFrom_98 : decode cX11_tryFrom 98 = .ok (.iadd, 1) := by decide +kernel
theorem dX11_tryFrom_99 : decode cX11_tryFrom 99 = .ok (.invokevirtual 244, 3) := by decide +kernel
theorem dX11_tryFrom_102 : decode cX11_tryFrom 102 = .ok (.iload 5, 2) := by decide +kernel
theorem dX11_tryFrom_104 : decode cX11_tryFrom 104 = .ok (.iload_n 3, 1) := by decide +kernel
theorem dX11_tryFrom_105 : decode cX11_tryFrom 105 = .ok (.if_icmp .gt 31, 3) := by decide +kernel
theorem dX11_tryFrom_108 : decode cX11_tryFrom 108 = .ok (.aload_n 0, 1) := by decide +kernel
theorem dX11_tryFrom_109 : decode cX11_tryFrom 109 = .ok (.getfield 114, 3) := by decide +kernel
theorem dX11_tryFrom_112 : decode cX11_tryFrom 112 = .ok (.iload_n 1, 1) := by decide +kernel
theorem dX11_tryFrom_113 : decode cX11_tryFrom 113 = .ok (.iconst 2, 1) := by decide +kernel
theorem dX11_tryFrom_114 : decode cX11_tryFrom 114 = .ok (.iastore, 1) := by decide +kernel
theorem dX11_tryFrom_115 : decode cX11_tryFrom 115 = .ok (.aload_n 0, 1) := by decide +kernel
theorem dX11_tryFrom_116 : decode cX11_tryFrom 116 = .ok (.iload_n 1, 1) := by decide +kernel
theorem dX11_tryFrom_117 : decode cX11_tryFrom 117 = .ok (.iconst 1, 1) := by decide +kernel
theorem dX11_tryFrom_118 : decode cX11_tryFrom 118 = .ok (.iadd, 1) := by decide +kernel
theorem dX11_tryFrom_119 : decode cX11_tryFrom 119 = .ok (.iload_n 2, 1) := by decide +kernel
theorem dX11_tryFrom_120 : decode cX11_tryFrom 120 = .ok (.iload_n 3, 1) := by decide +kernel
theorem dX11_tryFrom_121 : decode cX11_tryFrom 121 = .ok (.iload 5, 2) := by decide +kernel
theorem dX11_tryFrom_123 : decode cX11_tryFrom 123 = .ok (.isub, 1) := by decide +kernel
theorem dX11_tryFrom_124 : decode cX11_tryFrom 124 = .ok (.iload 4, 2) := by decide +kernel
theorem dX11_tryFrom_126 : decode cX11_tryFrom 126 = .ok (.aload_n 0, 1) := by decide +kernel
theorem dX11_tryFrom_127 : decode cX11_tryFrom 127 = .ok (.getfield 111, 3) := by decide +kernel
theorem dX11_tryFrom_130 : decode cX11_tryFrom 130 = .ok (.iload_n 1, 1) := by decide +kernel
theorem dX11_tryFrom_131 : decode cX11_tryFrom 131 = .ok (.iaload, 1) := by decide +kernel
theorem dX11_tryFrom_132 : decode cX11_tryFrom 132 = .ok (.iadd, 1) := by decide +kernel
theorem dX11_tryFrom_133 : decode cX11_tryFrom 133 = .ok (.invokevirtual 244, 3) := by decide +kernel
theorem dX11_tryFrom_136 : decode cX11_tryFrom 136 = .ok (.aload_n 0, 1) := by decide +kernel
theorem dX11_tryFrom_137 : decode cX11_tryFrom 137 = .ok (.getfield 114, 3) := by decide +kernel
theorem dX11_tryFrom_140 : decode cX11_tryFrom 140 = .ok (.iload_n 1, 1) := by decide +kernel
theorem dX11_tryFrom_141 : decode cX11_tryFrom 141 = .ok (.iconst 0, 1) := by decide +kernel
theorem dX11_tryFrom_142 : decode cX11_tryFrom 142 = .ok (.iastore, 1) := by decide +kernel
theorem dX11_tryFrom_143 : decode cX11_tryFrom 143 = .ok (.aload_n 0, 1) := by decide +kernel
theorem dX11_tryFrom_144 : decode cX11_tryFrom 144 = .ok (.iload_n 1, 1) := by decide +kernel
theorem dX11_tryFrom_145 : decode cX11_tryFrom 145 = .ok (.iconst 1, 1) := by decide +kernel
theorem dX11_tryFrom_146 : decode cX11_tryFrom 146 = .ok (.iadd, 1) := by decide +kernel
theorem dX11_tryFrom_147 : decode cX11_tryFrom 147 = .ok (.iload_n 2, 1) := by decide +kernel
theorem dX11_tryFrom_148 : decode cX11_tryFrom 148 = .ok (.iload_n 3, 1) := by decide +kernel
theorem dX11_tryFrom_149 : decode cX11_tryFrom 149 = .ok (.iload 4, 2) := by decide +kernel
theorem dX11_tryFrom_151 : decode cX11_tryFrom 151 = .ok (.invokevirtual 244, 3) := by decide +kernel
theorem dX11_tryFrom_154 : decode cX11_tryFrom 154 = .ok (.return_, 1) := by decide +kernel
theorem dX11_board_0 : decode cX11_board 0 = .ok (.iload_n 1, 1) := by decide +kernel
theorem dX11_board_1 : decode cX11_board 1 = .ok (.iconst 0, 1) := by decide +kernel
theorem dX11_board_2 : decode cX11_board 2 = .ok (.iconst 4, 1) := by decide +kernel
theorem dX11_board_3 : decode cX11_board 3 = .ok (.invokestatic 124, 3) := by decide +kernel
theorem dX11_board_6 : decode cX11_board 6 = .ok (.ifCond .eq 38, 3) := by decide +kernel
theorem dX11_board_9 : decode cX11_board 9 = .ok (.iload_n 2, 1) := by decide +kernel
theorem dX11_board_10 : decode cX11_board 10 = .ok (.ifCond .lt 34, 3) := by decide +kernel
theorem dX11_board_13 : decode cX11_board 13 = .ok (.iload_n 2, 1) := by decide +kernel
theorem dX11_board_14 : decode cX11_board 14 = .ok (.bipush 100, 2) := by decide +kernel
theorem dX11_board_16 : decode cX11_board 16 = .ok (.idiv, 1) := by decide +kernel
theorem dX11_board_17 : decode cX11_board 17 = .ok (.bipush 24, 2) := by decide +kernel
theorem dX11_board_19 : decode cX11_board 19 = .ok (.if_icmp .gt 25, 3) := by decide +kernel
theorem dX11_board_22 : decode cX11_board 22 = .ok (.iload_n 2, 1) := by decide +kernel
theorem dX11_board_23 : decode cX11_board 23 = .ok (.bipush 100, 2) := by decide +kernel
theorem dX11_board_25 : decode cX11_board 25 = .ok (.irem, 1) := by decide +kernel
theorem dX11_board_26 : decode cX11_board 26 = .ok (.bipush 24, 2) := by decide +kernel
theorem dX11_board_28 : decode cX11_board 28 = .ok (.if_icmp .gt 16, 3) := by decide +kernel
theorem dX11_board_31 : decode cX11_board 31 = .ok (.iload_n 3, 1) := by decide +kernel
theorem dX11_board_32 : decode cX11_board 32 = .ok (.iconst (-1), 1) := by decide +kernel
theorem dX11_board_33 : decode cX11_board 33 = .ok (.if_icmp .eq 17, 3) := by decide +kernel
theorem dX11_board_36 : decode cX11_board 36 = .ok (.aload_n 0, 1) := by decide +kernel
theorem dX11_board_37 : decode cX11_board 37 = .ok (.iload_n 3, 1) := by decide +kernel
theorem dX11_board_38 : decode cX11_board 38 = .ok (.invokevirtual 141, 3) := by decide +kernel
theorem dX11_board_41 : decode cX11_board 41 = .ok (.ifCond .ne 9, 3) := by decide +kernel
theorem dX11_board_44 : decode cX11_board 44 = .ok (.aload_n 0, 1) := by decide +kernel
theorem dX11_board_45 : decode cX11_board 45 = .ok (.iconst 1, 1) := by decide +kernel
theorem dX11_board_46 : decode cX11_board 46 = .ok (.invokevirtual 137, 3) := by decide +kernel
theorem dX11_board_49 : decode cX11_board 49 = .ok (.ireturn, 1) := by decide +kernel
theorem dX11_board_50 : decode cX11_board 50 = .ok (.aload_n 0, 1) := by decide +kernel
theorem dX11_board_51 : decode cX11_board 51 = .ok (.iload_n 1, 1) := by decide +kernel
theorem dX11_board_52 : decode cX11_board 52 = .ok (.invokevirtual 248, 3) := by decide +kernel
theorem dX11_board_55 : decode cX11_board 55 = .ok (.aload_n 0, 1) := by decide +kernel
theorem dX11_board_56 : decode cX11_board 56 = .ok (.iconst (-1), 1) := by decide +kernel
theorem dX11_board_57 : decode cX11_board 57 = .ok (.putfield 241, 3) := by decide +kernel
theorem dX11_board_60 : decode cX11_board 60 = .ok (.aload_n 0, 1) := by decide +kernel
theorem dX11_board_61 : decode cX11_board 61 = .ok (.iconst 0, 1) := by decide +kernel
theorem dX11_board_62 : decode cX11_board 62 = .ok (.iload_n 2, 1) := by decide +kernel
theorem dX11_board_63 : decode cX11_board 63 = .ok (.bipush 100, 2) := by decide +kernel
theorem dX11_board_65 : decode cX11_board 65 = .ok (.idiv, 1) := by decide +kernel
theorem dX11_board_66 : decode cX11_board 66 = .ok (.iload_n 2, 1) := by decide +kernel
theorem dX11_board_67 : decode cX11_board 67 = .ok (.bipush 100, 2) := by decide +kernel
theorem dX11_board_69 : decode cX11_board 69 = .ok (.irem, 1) := by decide +kernel
theorem dX11_board_70 : decode cX11_board 70 = .ok (.iconst 0, 1) := by decide +kernel
theorem dX11_board_71 : decode cX11_board 71 = .ok (.invokevirtual 244, 3) := by decide +kernel
theorem dX11_board_74 : decode cX11_board 74 = .ok (.iload_n 3, 1) := by decide +kernel
theorem dX11_board_75 : decode cX11_board 75 = .ok (.iconst (-1), 1) := by decide +kernel
theorem dX11_board_76 : decode cX11_board 76 = .ok (.if_icmp .ne 8, 3) := by decide +kernel
theorem dX11_board_79 : decode cX11_board 79 = .ok (.aload_n 0, 1) := by decide +kernel
theorem dX11_board_80 : decode cX11_board 80 = .ok (.getfield 241, 3) := by decide +kernel
theorem dX11_board_83 : decode cX11_board 83 = .ok (.ireturn, 1) := by decide +kernel
theorem dX11_board_84 : decode cX11_board 84 = .ok (.iconst 0, 1) := by decide +kernel
theorem dX11_board_85 : decode cX11_board 85 = .ok (.istore 4, 2) := by decide +kernel
theorem dX11_board_87 : decode cX11_board 87 = .ok (.iload 4, 2) := by decide +kernel
theorem dX11_board_89 : decode cX11_board 89 = .ok (.aload_n 0, 1) := by decide +kernel
theorem dX11_board_90 : decode cX11_board 90 = .ok (.getfield 238, 3) := by decide +kernel
theorem dX11_board_93 : decode cX11_board 93 = .ok (.if_icmp .ge 28, 3) := by decide +kernel
theorem dX11_board_96 : decode cX11_board 96 = .ok (.aload_n 0, 1) := by decide +kernel
theorem dX11_board_97 : decode cX11_board 97 = .ok (.getfield 108, 3) := by decide +kernel
theorem dX11_board_100 : decode cX11_board 100 = .ok (.iload 4, 2) := by decide +kernel
theorem dX11_board_102 : decode cX11_board 102 = .ok (.iaload, 1) := by decide +kernel
theorem dX11_board_103 : decode cX11_board 103 = .ok (.iload_n 3, 1) := by decide +kernel
theorem dX11_board_104 : decode cX11_board 104 = .ok (.if_icmp .ne 11, 3) := by decide +kernel
theorem dX11_board_107 : decode cX11_board 107 = .ok (.aload_n 0, 1) := by decide +kernel
theorem dX11_board_108 : decode cX11_board 108 = .ok (.getfield 117, 3) := by decide +kernel
theorem dX11_board_111 : decode cX11_board 111 = .ok (.iload 4, 2) := by decide +kernel
theorem dX11_board_113 : decode cX11_board 113 = .ok (.iaload, 1) := by decide +kernel
theorem dX11_board_114 : decode cX11_board 114 = .ok (.ireturn, 1) := by decide +kernel
theorem dX11_board_115 : decode cX11_board 115 = .ok (.iinc 4 1, 3) := by decide +kernel
theorem dX11_board_118 : decode cX11_board 118 = .ok (.goto (-31), 3) := by decide +kernel
theorem dX11_board_121 : decode cX11_board 121 = .ok (.aload_n 0, 1) := by decide +kernel
theorem dX11_board_122 : decode cX11_board 122 = .ok (.iconst 2, 1) := by decide +kernel
theorem dX11_board_123 : decode cX11_board 123 = .ok (.invokevirtual 137, 3) := by decide +kernel
theorem dX11_board_126 : decode cX11_board 126 = .ok (.ireturn, 1) := by decide +kernel
theorem dX11_isRest_0 : decode cX11_isRest 0 = .ok (.aload_n 0, 1) := by decide +kernel
theorem dX11_isRest_1 : decode cX11_isRest 1 = .ok (.getfield 86, 3) := by decide +kernel
theorem dX11_isRest_4 : decode cX11_isRest 4 = .ok (.bipush 7, 2) := by decide +kernel
theorem dX11_isRest_6 : decode cX11_isRest 6 = .ok (.iload_n 1, 1) := by decide +kernel
theorem dX11_isRest_7 : decode cX11_isRest 7 = .ok (.imul, 1) := by decide +kernel
theorem dX11_isRest_8 : decode cX11_isRest 8 = .ok (.iload_n 2, 1) := by decide +kernel
theorem dX11_isRest_9 : decode cX11_isRest 9 = .ok (.bipush 24, 2) := by decide +kernel
theorem dX11_isRest_11 : decode cX11_isRest 11 = .ok (.idiv, 1) := by decide +kernel
theorem dX11_isRest_12 : decode cX11_isRest 12 = .ok (.iadd, 1) := by decide +kernel
theorem dX11_isRest_13 : decode cX11_isRest 13 = .ok (.iaload, 1) := by decide +kernel
theorem dX11_isRest_14 : decode cX11_isRest 14 = .ok (.iload_n 2, 1) := by decide +kernel
theorem dX11_isRest_15 : decode cX11_isRest 15 = .ok (.bipush 24, 2) := by decide +kernel
theorem dX11_isRest_17 : decode cX11_isRest 17 = .ok (.irem, 1) := by decide +kernel
theorem dX11_isRest_18 : decode cX11_isRest 18 = .ok (.ishr, 1) := by decide +kernel
theorem dX11_isRest_19 : decode cX11_isRest 19 = .ok (.iconst 1, 1) := by decide +kernel
theorem dX11_isRest_20 : decode cX11_isRest 20 = .ok (.iand, 1) := by decide +kernel
theorem dX11_isRest_21 : decode cX11_isRest 21 = .ok (.iconst 1, 1) := by decide +kernel
theorem dX11_isRest_22 : decode cX11_isRest 22 = .ok (.if_icmp .ne 7, 3) := by decide +kernel
theorem dX11_isRest_25 : decode cX11_isRest 25 = .ok (.iconst 1, 1) := by decide +kernel
theorem dX11_isRest_26 : decode cX11_isRest 26 = .ok (.goto 4, 3) := by decide +kernel
theorem dX11_isRest_29 : decode cX11_isRest 29 = .ok (.iconst 0, 1) := by decide +kernel
theorem dX11_isRest_30 : decode cX11_isRest 30 = .ok (.ireturn, 1) := by decide +kernel
theorem dX11_restIn_0 : decode cX11_restIn 0 = .ok (.iconst 0, 1) := by decide +kernel
theorem dX11_restIn_1 : decode cX11_restIn 1 = .ok (.istore 4, 2) := by decide +kernel
theorem dX11_restIn_3 : decode cX11_restIn 3 = .ok (.iload_n 2, 1) := by decide +kernel
theorem dX11_restIn_4 : decode cX11_restIn 4 = .ok (.istore 5, 2) := by decide +kernel
theorem dX11_restIn_6 : decode cX11_restIn 6 = .ok (.iload 5, 2) := by decide +kernel
theorem dX11_restIn_8 : decode cX11_restIn 8 = .ok (.iload_n 2, 1) := by decide +kernel
theorem dX11_restIn_9 : decode cX11_restIn 9 = .ok (.iload_n 3, 1) := by decide +kernel
theorem dX11_restIn_10 : decode cX11_restIn 10 = .ok (.iadd, 1) := by decide +kernel
theorem dX11_restIn_11 : decode cX11_restIn 11 = .ok (.if_icmp .ge 29, 3) := by decide +kernel
theorem dX11_restIn_14 : decode cX11_restIn 14 = .ok (.iload 4, 2) := by decide +kernel
theorem dX11_restIn_16 : decode cX11_restIn 16 = .ok (.aload_n 0, 1) := by decide +kernel
theorem dX11_restIn_17 : decode cX11_restIn 17 = .ok (.iload_n 1, 1) := by decide +kernel
theorem dX11_restIn_18 : decode cX11_restIn 18 = .ok (.iload 5, 2) := by decide +kernel
theorem dX11_restIn_20 : decode cX11_restIn 20 = .ok (.invokevirtual 251, 3) := by decide +kernel
theorem dX11_restIn_23 : decode cX11_restIn 23 = .ok (.ifCond .eq 7, 3) := by decide +kernel
theorem dX11_restIn_26 : decode cX11_restIn 26 = .ok (.iconst 1, 1) := by decide +kernel
theorem dX11_restIn_27 : decode cX11_restIn 27 = .ok (.goto 4, 3) := by decide +kernel
theorem dX11_restIn_30 : decode cX11_restIn 30 = .ok (.iconst 0, 1) := by decide +kernel
theorem dX11_restIn_31 : decode cX11_restIn 31 = .ok (.iadd, 1) := by decide +kernel
theorem dX11_restIn_32 : decode cX11_restIn 32 = .ok (.istore 4, 2) := by decide +kernel
theorem dX11_restIn_34 : decode cX11_restIn 34 = .ok (.iinc 5 1, 3) := by decide +kernel
theorem dX11_restIn_37 : decode cX11_restIn 37 = .ok (.goto (-31), 3) := by decide +kernel
theorem dX11_restIn_40 : decode cX11_restIn 40 = .ok (.iload 4, 2) := by decide +kernel
theorem dX11_restIn_42 : decode cX11_restIn 42 = .ok (.ireturn, 1) := by decide +kernel
theorem dX11_rest_0 : decode cX11_rest 0 = .ok (.aload_n 0, 1) := by decide +kernel
theorem dX11_rest_1 : decode cX11_rest 1 = .ok (.iload_n 1, 1) := by decide +kernel
theorem dX11_rest_2 : decode cX11_rest 2 = .ok (.invokevirtual 141, 3) := by decide +kernel
theorem dX11_rest_5 : decode cX11_rest 5 = .ok (.ifCond .eq 13, 3) := by decide +kernel
theorem dX11_rest_8 : decode cX11_rest 8 = .ok (.iload_n 2, 1) := by decide +kernel
theorem dX11_rest_9 : decode cX11_rest 9 = .ok (.iconst 0, 1) := by decide +kernel
theorem dX11_rest_10 : decode cX11_rest 10 = .ok (.ldc 254, 2) := by decide +kernel
theorem dX11_rest_12 : decode cX11_rest 12 = .ok (.invokestatic 124, 3) := by decide +kernel
theorem dX11_rest_15 : decode cX11_rest 15 = .ok (.ifCond .ne 9, 3) := by decide +kernel
theorem dX11_rest_18 : decode cX11_rest 18 = .ok (.aload_n 0, 1) := by decide +kernel
theorem dX11_rest_19 : decode cX11_rest 19 = .ok (.iconst 1, 1) := by decide +kernel
theorem dX11_rest_20 : decode cX11_rest 20 = .ok (.invokevirtual 137, 3) := by decide +kernel
theorem dX11_rest_23 : decode cX11_rest 23 = .ok (.ireturn, 1) := by decide +kernel
theorem dX11_rest_24 : decode cX11_rest 24 = .ok (.iconst 0, 1) := by decide +kernel
theorem dX11_rest_25 : decode cX11_rest 25 = .ok (.istore_n 3, 1) := by decide +kernel
theorem dX11_rest_26 : decode cX11_rest 26 = .ok (.iload_n 3, 1) := by decide +kernel
theorem dX11_rest_27 : decode cX11_rest 27 = .ok (.bipush 6, 2) := by decide +kernel
theorem dX11_rest_29 : decode cX11_rest 29 = .ok (.if_icmp .ge 33, 3) := by decide +kernel
theorem dX11_rest_32 : decode cX11_rest 32 = .ok (.aload_n 0, 1) := by decide +kernel
theorem dX11_rest_33 : decode cX11_rest 33 = .ok (.getfield 86, 3) := by decide +kernel
theorem dX11_rest_36 : decode cX11_rest 36 = .ok (.bipush 7, 2) := by decide +kernel
theorem dX11_rest_38 : decode cX11_rest 38 = .ok (.iload_n 1, 1) := by decide +kernel
theorem dX11_rest_39 : decode cX11_rest 39 = .ok (.imul, 1) := by decide +kernel
theorem dX11_rest_40 : decode cX11_rest 40 = .ok (.iload_n 3, 1) := by decide +kernel
theorem dX11_rest_41 : decode cX11_rest 41 = .ok (.iadd, 1) := by decide +kernel
theorem dX11_rest_42 : decode cX11_rest 42 = .ok (.aload_n 0, 1) := by decide +kernel
theorem dX11_rest_43 : decode cX11_rest 43 = .ok (.getfield 86, 3) := by decide +kernel
theorem dX11_rest_46 : decode cX11_rest 46 = .ok (.bipush 7, 2) := by decide +kernel
theorem dX11_rest_48 : decode cX11_rest 48 = .ok (.iload_n 1, 1) := by decide +kernel
theorem dX11_rest_49 : decode cX11_rest 49 = .ok (.imul, 1) := by decide +kernel
theorem dX11_rest_50 : decode cX11_rest 50 = .ok (.iload_n 3, 1) := by decide +kernel
theorem dX11_rest_51 : decode cX11_rest 51 = .ok (.iadd, 1) := by decide +kernel
theorem dX11_rest_52 : decode cX11_rest 52 = .ok (.iconst 1, 1) := by decide +kernel
theorem dX11_rest_53 : decode cX11_rest 53 = .ok (.iadd, 1) := by decide +kernel
theorem dX11_rest_54 : decode cX11_rest 54 = .ok (.iaload, 1) := by decide +kernel
theorem dX11_rest_55 : decode cX11_rest 55 = .ok (.iastore, 1) := by decide +kernel
theorem dX11_rest_56 : decode cX11_rest 56 = .ok (.iinc 3 1, 3) := by decide +kernel
theorem dX11_rest_59 : decode cX11_rest 59 = .ok (.goto (-33), 3) := by decide +kernel
theorem dX11_rest_62 : decode cX11_rest 62 = .ok (.aload_n 0, 1) := by decide +kernel
theorem dX11_rest_63 : decode cX11_rest 63 = .ok (.getfield 86, 3) := by decide +kernel
theorem dX11_rest_66 : decode cX11_rest 66 = .ok (.bipush 7, 2) := by decide +kernel
theorem dX11_rest_68 : decode cX11_rest 68 = .ok (.iload_n 1, 1) := by decide +kernel
theorem dX11_rest_69 : decode cX11_rest 69 = .ok (.imul, 1) := by decide +kernel
theorem dX11_rest_70 : decode cX11_rest 70 = .ok (.bipush 6, 2) := by decide +kernel
theorem dX11_rest_72 : decode cX11_rest 72 = .ok (.iadd, 1) := by decide +kernel
theorem dX11_rest_73 : decode cX11_rest 73 = .ok (.iload_n 2, 1) := by decide +kernel
theorem dX11_rest_74 : decode cX11_rest 74 = .ok (.iastore, 1) := by decide +kernel
theorem dX11_rest_75 : decode cX11_rest 75 = .ok (.aload_n 0, 1) := by decide +kernel
theorem dX11_rest_76 : decode cX11_rest 76 = .ok (.iload_n 1, 1) := by decide +kernel
theorem dX11_rest_77 : decode cX11_rest 77 = .ok (.iconst 0, 1) := by decide +kernel
theorem dX11_rest_78 : decode cX11_rest 78 = .ok (.sipush 168, 3) := by decide +kernel
theorem dX11_rest_81 : decode cX11_rest 81 = .ok (.invokevirtual 255, 3) := by decide +kernel
theorem dX11_rest_84 : decode cX11_rest 84 = .ok (.ireturn, 1) := by decide +kernel
theorem dX11_tired_0 : decode cX11_tired 0 = .ok (.aload_n 0, 1) := by decide +kernel
theorem dX11_tired_1 : decode cX11_tired 1 = .ok (.iload_n 1, 1) := by decide +kernel
theorem dX11_tired_2 : decode cX11_tired 2 = .ok (.invokevirtual 141, 3) := by decide +kernel
theorem dX11_tired_5 : decode cX11_tired 5 = .ok (.ifCond .eq 12, 3) := by decide +kernel
theorem dX11_tired_8 : decode cX11_tired 8 = .ok (.iload_n 2, 1) := by decide +kernel
theorem dX11_tired_9 : decode cX11_tired 9 = .ok (.iconst 0, 1) := by decide +kernel
theorem dX11_tired_10 : decode cX11_tired 10 = .ok (.iconst 2, 1) := by decide +kernel
theorem dX11_tired_11 : decode cX11_tired 11 = .ok (.invokestatic 124, 3) := by decide +kernel
theorem dX11_tired_14 : decode cX11_tired 14 = .ok (.ifCond .ne 9, 3) := by decide +kernel
theorem dX11_tired_17 : decode cX11_tired 17 = .ok (.aload_n 0, 1) := by decide +kernel
theorem dX11_tired_18 : decode cX11_tired 18 = .ok (.iconst 1, 1) := by decide +kernel
theorem dX11_tired_19 : decode cX11_tired 19 = .ok (.invokevirtual 137, 3) := by decide +kernel
theorem dX11_tired_22 : decode cX11_tired 22 = .ok (.ireturn, 1) := by decide +kernel
theorem dX11_tired_23 : decode cX11_tired 23 = .ok (.iload_n 2, 1) := by decide +kernel
theorem dX11_tired_24 : decode cX11_tired 24 = .ok (.ifCond .le 34, 3) := by decide +kernel
theorem dX11_tired_27 : decode cX11_tired 27 = .ok (.aload_n 0, 1) := by decide +kernel
theorem dX11_tired_28 : decode cX11_tired 28 = .ok (.iload_n 1, 1) := by decide +kernel
theorem dX11_tired_29 : decode cX11_tired 29 = .ok (.iconst 0, 1) := by decide +kernel
theorem dX11_tired_30 : decode cX11_tired 30 = .ok (.sipush 168, 3) := by decide +kernel
theorem dX11_tired_33 : decode cX11_tired 33 = .ok (.invokevirtual 255, 3) := by decide +kernel
theorem dX11_tired_36 : decode cX11_tired 36 = .ok (.istore_n 3, 1) := by decide +kernel
theorem dX11_tired_37 : decode cX11_tired 37 = .ok (.iload_n 2, 1) := by decide +kernel
theorem dX11_tired_38 : decode cX11_tired 38 = .ok (.iconst 2, 1) := by decide +kernel
theorem dX11_tired_39 : decode cX11_tired 39 = .ok (.if_icmp .ne 7, 3) := by decide +kernel
theorem dX11_tired_42 : decode cX11_tired 42 = .ok (.iload_n 3, 1) := by decide +kernel
theorem dX11_tired_43 : decode cX11_tired 43 = .ok (.goto 14, 3) := by decide +kernel
theorem dX11_tired_46 : decode cX11_tired 46 = .ok (.iload_n 3, 1) := by decide +kernel
theorem dX11_tired_47 : decode cX11_tired 47 = .ok (.bipush 77, 2) := by decide +kernel
theorem dX11_tired_49 : decode cX11_tired 49 = .ok (.if_icmp .ge 7, 3) := by decide +kernel
theorem dX11_tired_52 : decode cX11_tired 52 = .ok (.iconst 1, 1) := by decide +kernel
theorem dX11_tired_53 : decode cX11_tired 53 = .ok (.goto 4, 3) := by decide +kernel
theorem dX11_tired_56 : decode cX11_tired 56 = .ok (.iconst 0, 1) := by decide +kernel
theorem dX11_tired_57 : decode cX11_tired 57 = .ok (.ireturn, 1) := by decide +kernel
theorem dX11_tired_58 : decode cX11_tired 58 = .ok (.bipush 23, 2) := by decide +kernel
theorem dX11_tired_60 : decode cX11_tired 60 = .ok (.istore_n 3, 1) := by decide +kernel
theorem dX11_tired_61 : decode cX11_tired 61 = .ok (.iload_n 3, 1) := by decide +kernel
theorem dX11_tired_62 : decode cX11_tired 62 = .ok (.sipush 168, 3) := by decide +kernel
theorem dX11_tired_65 : decode cX11_tired 65 = .ok (.if_icmp .ge 27, 3) := by decide +kernel
theorem dX11_tired_68 : decode cX11_tired 68 = .ok (.aload_n 0, 1) := by decide +kernel
theorem dX11_tired_69 : decode cX11_tired 69 = .ok (.iload_n 1, 1) := by decide +kernel
theorem dX11_tired_70 : decode cX11_tired 70 = .ok (.iload_n 3, 1) := by decide +kernel
theorem dX11_tired_71 : decode cX11_tired 71 = .ok (.bipush 23, 2) := by decide +kernel
theorem dX11_tired_73 : decode cX11_tired 73 = .ok (.isub, 1) := by decide +kernel
theorem dX11_tired_74 : decode cX11_tired 74 = .ok (.bipush 24, 2) := by decide +kernel
theorem dX11_tired_76 : decode cX11_tired 76 = .ok (.invokevirtual 255, 3) := by decide +kernel
theorem dX11_tired_79 : decode cX11_tired 79 = .ok (.bipush 10, 2) := by decide +kernel
theorem dX11_tired_81 : decode cX11_tired 81 = .ok (.if_icmp .ge 5, 3) := by decide +kernel
theorem dX11_tired_84 : decode cX11_tired 84 = .ok (.iload_n 3, 1) := by decide +kernel
theorem dX11_tired_85 : decode cX11_tired 85 = .ok (.ireturn, 1) := by decide +kernel
theorem dX11_tired_86 : decode cX11_tired 86 = .ok (.iinc 3 1, 3) := by decide +kernel
theorem dX11_tired_89 : decode cX11_tired 89 = .ok (.goto (-28), 3) := by decide +kernel
theorem dX11_tired_92 : decode cX11_tired 92 = .ok (.aload_n 0, 1) := by decide +kernel
theorem dX11_tired_93 : decode cX11_tired 93 = .ok (.iconst 2, 1) := by decide +kernel
theorem dX11_tired_94 : decode cX11_tired 94 = .ok (.invokevirtual 137, 3) := by decide +kernel
theorem dX11_tired_97 : decode cX11_tired 97 = .ok (.ireturn, 1) := by decide +kernel
theorem dX11_months_0 : decode cX11_months 0 = .ok (.iload_n 1, 1) := by decide +kernel
theorem dX11_months_1 : decode cX11_months 1 = .ok (.iconst 1, 1) := by decide +kernel
theorem dX11_months_2 : decode cX11_months 2 = .ok (.bipush 99, 2) := by decide +kernel
theorem dX11_months_4 : decode cX11_months 4 = .ok (.invokestatic 124, 3) := by decide +kernel
theorem dX11_months_7 : decode cX11_months 7 = .ok (.ifCond .ne 9, 3) := by decide +kernel
theorem dX11_months_10 : decode cX11_months 10 = .ok (.aload_n 0, 1) := by decide +kernel
theorem dX11_months_11 : decode cX11_months 11 = .ok (.iconst 1, 1) := by decide +kernel
theorem dX11_months_12 : decode cX11_months 12 = .ok (.invokevirtual 137, 3) := by decide +kernel
theorem dX11_months_15 : decode cX11_months 15 = .ok (.ireturn, 1) := by decide +kernel
theorem dX11_months_16 : decode cX11_months 16 = .ok (.aload_n 0, 1) := by decide +kernel
theorem dX11_months_17 : decode cX11_months 17 = .ok (.getfield 89, 3) := by decide +kernel
theorem dX11_months_20 : decode cX11_months 20 = .ok (.istore_n 2, 1) := by decide +kernel
theorem dX11_months_21 : decode cX11_months 21 = .ok (.aload_n 0, 1) := by decide +kernel
theorem dX11_months_22 : decode cX11_months 22 = .ok (.iload_n 1, 1) := by decide +kernel
theorem dX11_months_23 : decode cX11_months 23 = .ok (.putfield 89, 3) := by decide +kernel
theorem dX11_months_26 : decode cX11_months 26 = .ok (.iload_n 2, 1) := by decide +kernel
theorem dX11_months_27 : decode cX11_months 27 = .ok (.ireturn, 1) := by decide +kernel
theorem dX11_banned_0 : decode cX11_banned 0 = .ok (.aload_n 0, 1) := by decide +kernel
theorem dX11_banned_1 : decode cX11_banned 1 = .ok (.iload_n 1, 1) := by decide +kernel
theorem dX11_banned_2 : decode cX11_banned 2 = .ok (.invokevirtual 141, 3) := by decide +kernel
theorem dX11_banned_5 : decode cX11_banned 5 = .ok (.ifCond .eq 12, 3) := by decide +kernel
theorem dX11_banned_8 : decode cX11_banned 8 = .ok (.iload_n 2, 1) := by decide +kernel
theorem dX11_banned_9 : decode cX11_banned 9 = .ok (.iconst 0, 1) := by decide +kernel
theorem dX11_banned_10 : decode cX11_banned 10 = .ok (.iconst 2, 1) := by decide +kernel
theorem dX11_banned_11 : decode cX11_banned 11 = .ok (.invokestatic 124, 3) := by decide +kernel
theorem dX11_banned_14 : decode cX11_banned 14 = .ok (.ifCond .ne 9, 3) := by decide +kernel
theorem dX11_banned_17 : decode cX11_banned 17 = .ok (.aload_n 0, 1) := by decide +kernel
theorem dX11_banned_18 : decode cX11_banned 18 = .ok (.iconst 1, 1) := by decide +kernel
theorem dX11_banned_19 : decode cX11_banned 19 = .ok (.invokevirtual 137, 3) := by decide +kernel
theorem dX11_banned_22 : decode cX11_banned 22 = .ok (.ireturn, 1) := by decide +kernel
theorem dX11_banned_23 : decode cX11_banned 23 = .ok (.iload_n 2, 1) := by decide +kernel
theorem dX11_banned_24 : decode cX11_banned 24 = .ok (.ifCond .ne 20, 3) := by decide +kernel
theorem dX11_banned_27 : decode cX11_banned 27 = .ok (.aload_n 0, 1) := by decide +kernel
theorem dX11_banned_28 : decode cX11_banned 28 = .ok (.getfield 93, 3) := by decide +kernel
theorem dX11_banned_31 : decode cX11_banned 31 = .ok (.iload_n 1, 1) := by decide +kernel
theorem dX11_banned_32 : decode cX11_banned 32 = .ok (.baload, 1) := by decide +kernel
theorem dX11_banned_33 : decode cX11_banned 33 = .ok (.ifCond .eq 7, 3) := by decide +kernel
theorem dX11_banned_36 : decode cX11_banned 36 = .ok (.iconst 1, 1) := by decide +kernel
theorem dX11_banned_37 : decode cX11_banned 37 = .ok (.goto 44, 3) := by decide +kernel
theorem dX11_banned_40 : decode cX11_banned 40 = .ok (.iconst 0, 1) := by decide +kernel
theorem dX11_banned_41 : decode cX11_banned 41 = .ok (.goto 40, 3) := by decide +kernel
theorem dX11_banned_44 : decode cX11_banned 44 = .ok (.iload_n 2, 1) := by decide +kernel
theorem dX11_banned_45 : decode cX11_banned 45 = .ok (.iconst 1, 1) := by decide +kernel
theorem dX11_banned_46 : decode cX11_banned 46 = .ok (.if_icmp .ne 12, 3) := by decide +kernel
theorem dX11_banned_49 : decode cX11_banned 49 = .ok (.aload_n 0, 1) := by decide +kernel
theorem dX11_banned_50 : decode cX11_banned 50 = .ok (.getfield 96, 3) := by decide +kernel
theorem dX11_banned_53 : decode cX11_banned 53 = .ok (.iload_n 1, 1) := by decide +kernel
theorem dX11_banned_54 : decode cX11_banned 54 = .ok (.iaload, 1) := by decide +kernel
theorem dX11_banned_55 : decode cX11_banned 55 = .ok (.goto 26, 3) := by decide +kernel
theorem dX11_banned_58 : decode cX11_banned 58 = .ok (.aload_n 0, 1) := by decide +kernel
theorem dX11_banned_59 : decode cX11_banned 59 = .ok (.getfield 93, 3) := by decide +kernel
theorem dX11_banned_62 : decode cX11_banned 62 = .ok (.iload_n 1, 1) := by decide +kernel
theorem dX11_banned_63 : decode cX11_banned 63 = .ok (.baload, 1) := by decide +kernel
theorem dX11_banned_64 : decode cX11_banned 64 = .ok (.ifCond .eq 12, 3) := by decide +kernel
theorem dX11_banned_67 : decode cX11_banned 67 = .ok (.aload_n 0, 1) := by decide +kernel
theorem dX11_banned_68 : decode cX11_banned 68 = .ok (.getfield 99, 3) := by decide +kernel
theorem dX11_banned_71 : decode cX11_banned 71 = .ok (.iload_n 1, 1) := by decide +kernel
theorem dX11_banned_72 : decode cX11_banned 72 = .ok (.iaload, 1) := by decide +kernel
theorem dX11_banned_73 : decode cX11_banned 73 = .ok (.goto 8, 3) := by decide +kernel
theorem dX11_banned_76 : decode cX11_banned 76 = .ok (.aload_n 0, 1) := by decide +kernel
theorem dX11_banned_77 : decode cX11_banned 77 = .ok (.iconst 2, 1) := by decide +kernel
theorem dX11_banned_78 : decode cX11_banned 78 = .ok (.invokevirtual 137, 3) := by decide +kernel
theorem dX11_banned_81 : decode cX11_banned 81 = .ok (.ireturn, 1) := by decide +kernel
theorem dX11_lift_0 : decode cX11_lift 0 = .ok (.aload_n 0, 1) := by decide +kernel
theorem dX11_lift_1 : decode cX11_lift 1 = .ok (.iload_n 1, 1) := by decide +kernel
theorem dX11_lift_2 : decode cX11_lift 2 = .ok (.invokevirtual 141, 3) := by decide +kernel
theorem dX11_lift_5 : decode cX11_lift 5 = .ok (.ifCond .ne 9, 3) := by decide +kernel
theorem dX11_lift_8 : decode cX11_lift 8 = .ok (.aload_n 0, 1) := by decide +kernel
theorem dX11_lift_9 : decode cX11_lift 9 = .ok (.iconst 1, 1) := by decide +kernel
theorem dX11_lift_10 : decode cX11_lift 10 = .ok (.invokevirtual 137, 3) := by decide +kernel
theorem dX11_lift_13 : decode cX11_lift 13 = .ok (.ireturn, 1) := by decide +kernel
theorem dX11_lift_14 : decode cX11_lift 14 = .ok (.aload_n 0, 1) := by decide +kernel
theorem dX11_lift_15 : decode cX11_lift 15 = .ok (.getfield 93, 3) := by decide +kernel
theorem dX11_lift_18 : decode cX11_lift 18 = .ok (.iload_n 1, 1) := by decide +kernel
theorem dX11_lift_19 : decode cX11_lift 19 = .ok (.baload, 1) := by decide +kernel
theorem dX11_lift_20 : decode cX11_lift 20 = .ok (.ifCond .eq 34, 3) := by decide +kernel
theorem dX11_lift_23 : decode cX11_lift 23 = .ok (.aload_n 0, 1) := by decide +kernel
theorem dX11_lift_24 : decode cX11_lift 24 = .ok (.iload_n 1, 1) := by decide +kernel
theorem dX11_lift_25 : decode cX11_lift 25 = .ok (.invokevirtual 172, 3) := by decide +kernel
theorem dX11_lift_28 : decode cX11_lift 28 = .ok (.ifCond .ge 26, 3) := by decide +kernel
theorem dX11_lift_31 : decode cX11_lift 31 = .ok (.aload_n 0, 1) := by decide +kernel
theorem dX11_lift_32 : decode cX11_lift 32 = .ok (.getfield 134, 3) := by decide +kernel
theorem dX11_lift_35 : decode cX11_lift 35 = .ok (.aload_n 0, 1) := by decide +kernel
theorem dX11_lift_36 : decode cX11_lift 36 = .ok (.getfield 99, 3) := by decide +kernel
theorem dX11_lift_39 : decode cX11_lift 39 = .ok (.iload_n 1, 1) := by decide +kernel
theorem dX11_lift_40 : decode cX11_lift 40 = .ok (.iaload, 1) := by decide +kernel
theorem dX11_lift_41 : decode cX11_lift 41 = .ok (.isub, 1) := by decide +kernel
theorem dX11_lift_42 : decode cX11_lift 42 = .ok (.bipush 90, 2) := by decide +kernel
theorem dX11_lift_44 : decode cX11_lift 44 = .ok (.aload_n 0, 1) := by decide +kernel
theorem dX11_lift_45 : decode cX11_lift 45 = .ok (.getfield 96, 3) := by decide +kernel
theorem dX11_lift_48 : decode cX11_lift 48 = .ok (.iload_n 1, 1) := by decide +kernel
theorem dX11_lift_49 : decode cX11_lift 49 = .ok (.iaload, 1) := by decide +kernel
theorem dX11_lift_50 : decode cX11_lift 50 = .ok (.imul, 1) := by decide +kernel
theorem dX11_lift_51 : decode cX11_lift 51 = .ok (.if_icmp .ge 9, 3) := by decide +kernel
theorem dX11_lift_54 : decode cX11_lift 54 = .ok (.aload_n 0, 1) := by decide +kernel
theorem dX11_lift_55 : decode cX11_lift 55 = .ok (.iconst 3, 1) := by decide +kernel
theorem dX11_lift_56 : decode cX11_lift 56 = .ok (.invokevirtual 137, 3) := by decide +kernel
theorem dX11_lift_59 : decode cX11_lift 59 = .ok (.ireturn, 1) := by decide +kernel
theorem dX11_lift_60 : decode cX11_lift 60 = .ok (.aload_n 0, 1) := by decide +kernel
theorem dX11_lift_61 : decode cX11_lift 61 = .ok (.getfield 93, 3) := by decide +kernel
theorem dX11_lift_64 : decode cX11_lift 64 = .ok (.iload_n 1, 1) := by decide +kernel
theorem dX11_lift_65 : decode cX11_lift 65 = .ok (.iconst 0, 1) := by decide +kernel
theorem dX11_lift_66 : decode cX11_lift 66 = .ok (.bastore, 1) := by decide +kernel
theorem dX11_lift_67 : decode cX11_lift 67 = .ok (.iconst 1, 1) := by decide +kernel
theorem dX11_lift_68 : decode cX11_lift 68 = .ok (.ireturn, 1) := by decide +kernel
theorem dX11_ones_0 : decode cX11_ones 0 = .ok (.iconst 0, 1) := by decide +kernel
theorem dX11_ones_1 : decode cX11_ones 1 = .ok (.istore_n 1, 1) := by decide +kernel
theorem dX11_ones_2 : decode cX11_ones 2 = .ok (.iconst 0, 1) := by decide +kernel
theorem dX11_ones_3 : decode cX11_ones 3 = .ok (.istore_n 2, 1) := by decide +kernel
theorem dX11_ones_4 : decode cX11_ones 4 = .ok (.iload_n 2, 1) := by decide +kernel
theorem dX11_ones_5 : decode cX11_ones 5 = .ok (.bipush 10, 2) := by decide +kernel
theorem dX11_ones_7 : decode cX11_ones 7 = .ok (.if_icmp .ge 17, 3) := by decide +kernel
theorem dX11_ones_10 : decode cX11_ones 10 = .ok (.iload_n 1, 1) := by decide +kernel
theorem dX11_ones_11 : decode cX11_ones 11 = .ok (.iload_n 0, 1) := by decide +kernel
theorem dX11_ones_12 : decode cX11_ones 12 = .ok (.iload_n 2, 1) := by decide +kernel
theorem dX11_ones_13 : decode cX11_ones 13 = .ok (.ishr, 1) := by decide +kernel
theorem dX11_ones_14 : decode cX11_ones 14 = .ok (.iconst 1, 1) := by decide +kernel
theorem dX11_ones_15 : decode cX11_ones 15 = .ok (.iand, 1) := by decide +kernel
theorem dX11_ones_16 : decode cX11_ones 16 = .ok (.iadd, 1) := by decide +kernel
theorem dX11_ones_17 : decode cX11_ones 17 = .ok (.istore_n 1, 1) := by decide +kernel
theorem dX11_ones_18 : decode cX11_ones 18 = .ok (.iinc 2 1, 3) := by decide +kernel
theorem dX11_ones_21 : decode cX11_ones 21 = .ok (.goto (-17), 3) := by decide +kernel
theorem dX11_ones_24 : decode cX11_ones 24 = .ok (.iload_n 1, 1) := by decide +kernel
theorem dX11_ones_25 : decode cX11_ones 25 = .ok (.ireturn, 1) := by decide +kernel
theorem dX11_areDoubles_0 : decode cX11_areDoubles 0 = .ok (.aload_n 0, 1) := by decide +kernel
theorem dX11_areDoubles_1 : decode cX11_areDoubles 1 = .ok (.getfield 68, 3) := by decide +kernel
theorem dX11_areDoubles_4 : decode cX11_areDoubles 4 = .ok (.iload_n 1, 1) := by decide +kernel
theorem dX11_areDoubles_5 : decode cX11_areDoubles 5 = .ok (.iaload, 1) := by decide +kernel
theorem dX11_areDoubles_6 : decode cX11_areDoubles 6 = .ok (.aload_n 0, 1) := by decide +kernel
theorem dX11_areDoubles_7 : decode cX11_areDoubles 7 = .ok (.getfield 68, 3) := by decide +kernel
theorem dX11_areDoubles_10 : decode cX11_areDoubles 10 = .ok (.iload_n 2, 1) := by decide +kernel
theorem dX11_areDoubles_11 : decode cX11_areDoubles 11 = .ok (.iaload, 1) := by decide +kernel
theorem dX11_areDoubles_12 : decode cX11_areDoubles 12 = .ok (.if_icmp .ne 22, 3) := by decide +kernel
theorem dX11_areDoubles_15 : decode cX11_areDoubles 15 = .ok (.aload_n 0, 1) := by decide +kernel
theorem dX11_areDoubles_16 : decode cX11_areDoubles 16 = .ok (.getfield 71, 3) := by decide +kernel
theorem dX11_areDoubles_19 : decode cX11_areDoubles 19 = .ok (.iload_n 1, 1) := by decide +kernel
theorem dX11_areDoubles_20 : decode cX11_areDoubles 20 = .ok (.iaload, 1) := by decide +kernel
theorem dX11_areDoubles_21 : decode cX11_areDoubles 21 = .ok (.aload_n 0, 1) := by decide +kernel
theorem dX11_areDoubles_22 : decode cX11_areDoubles 22 = .ok (.getfield 71, 3) := by decide +kernel
theorem dX11_areDoubles_25 : decode cX11_areDoubles 25 = .ok (.iload_n 2, 1) := by decide +kernel
theorem dX11_areDoubles_26 : decode cX11_areDoubles 26 = .ok (.iaload, 1) := by decide +kernel
theorem dX11_areDoubles_27 : decode cX11_areDoubles 27 = .ok (.if_icmp .eq 7, 3) := by decide +kernel
theorem dX11_areDoubles_30 : decode cX11_areDoubles 30 = .ok (.iconst 1, 1) := by decide +kernel
theorem dX11_areDoubles_31 : decode cX11_areDoubles 31 = .ok (.goto 4, 3) := by decide +kernel
theorem dX11_areDoubles_34 : decode cX11_areDoubles 34 = .ok (.iconst 0, 1) := by decide +kernel
theorem dX11_areDoubles_35 : decode cX11_areDoubles 35 = .ok (.ireturn, 1) := by decide +kernel
theorem dX11_were_0 : decode cX11_were 0 = .ok (.aload_n 0, 1) := by decide +kernel
theorem dX11_were_1 : decode cX11_were 1 = .ok (.iload_n 1, 1) := by decide +kernel
theorem dX11_were_2 : decode cX11_were 2 = .ok (.invokevirtual 226, 3) := by decide +kernel
theorem dX11_were_5 : decode cX11_were 5 = .ok (.ifCond .eq 11, 3) := by decide +kernel
theorem dX11_were_8 : decode cX11_were 8 = .ok (.aload_n 0, 1) := by decide +kernel
theorem dX11_were_9 : decode cX11_were 9 = .ok (.iload_n 2, 1) := by decide +kernel
theorem dX11_were_10 : decode cX11_were 10 = .ok (.invokevirtual 226, 3) := by decide +kernel
theorem dX11_were_13 : decode cX11_were 13 = .ok (.ifCond .ne 9, 3) := by decide +kernel
theorem dX11_were_16 : decode cX11_were 16 = .ok (.aload_n 0, 1) := by decide +kernel
theorem dX11_were_17 : decode cX11_were 17 = .ok (.iconst 1, 1) := by decide +kernel
theorem dX11_were_18 : decode cX11_were 18 = .ok (.invokevirtual 137, 3) := by decide +kernel
theorem dX11_were_21 : decode cX11_were 21 = .ok (.ireturn, 1) := by decide +kernel
theorem dX11_were_22 : decode cX11_were 22 = .ok (.aload_n 0, 1) := by decide +kernel
theorem dX11_were_23 : decode cX11_were 23 = .ok (.iload_n 1, 1) := by decide +kernel
theorem dX11_were_24 : decode cX11_were 24 = .ok (.iload_n 2, 1) := by decide +kernel
theorem dX11_were_25 : decode cX11_were 25 = .ok (.invokevirtual 258, 3) := by decide +kernel
theorem dX11_were_28 : decode cX11_were 28 = .ok (.ifCond .ne 9, 3) := by decide +kernel
theorem dX11_were_31 : decode cX11_were 31 = .ok (.aload_n 0, 1) := by decide +kernel
theorem dX11_were_32 : decode cX11_were 32 = .ok (.iconst 3, 1) := by decide +kernel
theorem dX11_were_33 : decode cX11_were 33 = .ok (.invokevirtual 137, 3) := by decide +kernel
theorem dX11_were_36 : decode cX11_were 36 = .ok (.ireturn, 1) := by decide +kernel
theorem dX11_were_37 : decode cX11_were 37 = .ok (.aload_n 0, 1) := by decide +kernel
theorem dX11_were_38 : decode cX11_were 38 = .ok (.getfield 77, 3) := by decide +kernel
theorem dX11_were_41 : decode cX11_were 41 = .ok (.iload_n 1, 1) := by decide +kernel
theorem dX11_were_42 : decode cX11_were 42 = .ok (.iaload, 1) := by decide +kernel
theorem dX11_were_43 : decode cX11_were 43 = .ok (.aload_n 0, 1) := by decide +kernel
theorem dX11_were_44 : decode cX11_were 44 = .ok (.getfield 77, 3) := by decide +kernel
theorem dX11_were_47 : decode cX11_were 47 = .ok (.iload_n 2, 1) := by decide +kernel
theorem dX11_were_48 : decode cX11_were 48 = .ok (.iaload, 1) := by decide +kernel
theorem dX11_were_49 : decode cX11_were 49 = .ok (.iand, 1) := by decide +kernel
theorem dX11_were_50 : decode cX11_were 50 = .ok (.invokestatic 261, 3) := by decide +kernel
theorem dX11_were_53 : decode cX11_were 53 = .ok (.istore_n 3, 1) := by decide +kernel
theorem dX11_were_54 : decode cX11_were 54 = .ok (.iload_n 3, 1) := by decide +kernel
theorem dX11_were_55 : decode cX11_were 55 = .ok (.ifCond .ne 11, 3) := by decide +kernel
theorem dX11_were_58 : decode cX11_were 58 = .ok (.aload_n 0, 1) := by decide +kernel
theorem dX11_were_59 : decode cX11_were 59 = .ok (.iconst 2, 1) := by decide +kernel
theorem dX11_were_60 : decode cX11_were 60 = .ok (.invokevirtual 137, 3) := by decide +kernel
theorem dX11_were_63 : decode cX11_were 63 = .ok (.goto 24, 3) := by decide +kernel
theorem dX11_were_66 : decode cX11_were 66 = .ok (.aload_n 0, 1) := by decide +kernel
theorem dX11_were_67 : decode cX11_were 67 = .ok (.getfield 77, 3) := by decide +kernel
theorem dX11_were_70 : decode cX11_were 70 = .ok (.iload_n 1, 1) := by decide +kernel
theorem dX11_were_71 : decode cX11_were 71 = .ok (.iaload, 1) := by decide +kernel
theorem dX11_were_72 : decode cX11_were 72 = .ok (.invokestatic 261, 3) := by decide +kernel
theorem dX11_were_75 : decode cX11_were 75 = .ok (.aload_n 0, 1) := by decide +kernel
theorem dX11_were_76 : decode cX11_were 76 = .ok (.getfield 77, 3) := by decide +kernel
theorem dX11_were_79 : decode cX11_were 79 = .ok (.iload_n 2, 1) := by decide +kernel
theorem dX11_were_80 : decode cX11_were 80 = .ok (.iaload, 1) := by decide +kernel
theorem dX11_were_81 : decode cX11_were 81 = .ok (.invokestatic 261, 3) := by decide +kernel
theorem dX11_were_84 : decode cX11_were 84 = .ok (.imul, 1) := by decide +kernel
theorem dX11_were_85 : decode cX11_were 85 = .ok (.iload_n 3, 1) := by decide +kernel
theorem dX11_were_86 : decode cX11_were 86 = .ok (.idiv, 1) := by decide +kernel
theorem dX11_were_87 : decode cX11_were 87 = .ok (.ireturn, 1) := by decide +kernel
theorem dX11_habit_0 : decode cX11_habit 0 = .ok (.iload_n 1, 1) := by decide +kernel
theorem dX11_habit_1 : decode cX11_habit 1 = .ok (.iconst 0, 1) := by decide +kernel
theorem dX11_habit_2 : decode cX11_habit 2 = .ok (.iconst 5, 1) := by decide +kernel
theorem dX11_habit_3 : decode cX11_habit 3 = .ok (.invokestatic 124, 3) := by decide +kernel
theorem dX11_habit_6 : decode cX11_habit 6 = .ok (.ifCond .ne 9, 3) := by decide +kernel
theorem dX11_habit_9 : decode cX11_habit 9 = .ok (.aload_n 0, 1) := by decide +kernel
theorem dX11_habit_10 : decode cX11_habit 10 = .ok (.iconst 1, 1) := by decide +kernel
theorem dX11_habit_11 : decode cX11_habit 11 = .ok (.invokevirtual 137, 3) := by decide +kernel
theorem dX11_habit_14 : decode cX11_habit 14 = .ok (.ireturn, 1) := by decide +kernel
theorem dX11_habit_15 : decode cX11_habit 15 = .ok (.iconst 0, 1) := by decide +kernel
theorem dX11_habit_16 : decode cX11_habit 16 = .ok (.istore_n 2, 1) := by decide +kernel
theorem dX11_habit_17 : decode cX11_habit 17 = .ok (.iconst 0, 1) := by decide +kernel
theorem dX11_habit_18 : decode cX11_habit 18 = .ok (.istore_n 3, 1) := by decide +kernel
theorem dX11_habit_19 : decode cX11_habit 19 = .ok (.iconst 0, 1) := by decide +kernel
theorem dX11_habit_20 : decode cX11_habit 20 = .ok (.istore 4, 2) := by decide +kernel
theorem dX11_habit_22 : decode cX11_habit 22 = .ok (.iload 4, 2) := by decide +kernel
theorem dX11_habit_24 : decode cX11_habit 24 = .ok (.aload_n 0, 1) := by decide +kernel
theorem dX11_habit_25 : decode cX11_habit 25 = .ok (.getfield 131, 3) := by decide +kernel
theorem dX11_habit_28 : decode cX11_habit 28 = .ok (.if_icmp .ge 83, 3) := by decide +kernel
theorem dX11_habit_31 : decode cX11_habit 31 = .ok (.iconst 0, 1) := by decide +kernel
theorem dX11_habit_32 : decode cX11_habit 32 = .ok (.istore 5, 2) := by decide +kernel
theorem dX11_habit_34 : decode cX11_habit 34 = .ok (.iload 5, 2) := by decide +kernel
theorem dX11_habit_36 : decode cX11_habit 36 = .ok (.aload_n 0, 1) := by decide +kernel
theorem dX11_habit_37 : decode cX11_habit 37 = .ok (.getfield 131, 3) := by decide +kernel
theorem dX11_habit_40 : decode cX11_habit 40 = .ok (.if_icmp .ge 65, 3) := by decide +kernel
theorem dX11_habit_43 : decode cX11_habit 43 = .ok (.aload_n 0, 1) := by decide +kernel
theorem dX11_habit_44 : decode cX11_habit 44 = .ok (.getfield 71, 3) := by decide +kernel
theorem dX11_habit_47 : decode cX11_habit 47 = .ok (.iload 4, 2) := by decide +kernel
theorem dX11_habit_49 : decode cX11_habit 49 = .ok (.iaload, 1) := by decide +kernel
theorem dX11_habit_50 : decode cX11_habit 50 = .ok (.iload_n 1, 1) := by decide +kernel
theorem dX11_habit_51 : decode cX11_habit 51 = .ok (.if_icmp .ne 48, 3) := by decide +kernel
theorem dX11_habit_54 : decode cX11_habit 54 = .ok (.aload_n 0, 1) := by decide +kernel
theorem dX11_habit_55 : decode cX11_habit 55 = .ok (.iload 4, 2) := by decide +kernel
theorem dX11_habit_57 : decode cX11_habit 57 = .ok (.iload 5, 2) := by decide +kernel
theorem dX11_habit_59 : decode cX11_habit 59 = .ok (.invokevirtual 258, 3) := by decide +kernel
theorem dX11_habit_62 : decode cX11_habit 62 = .ok (.ifCond .eq 37, 3) := by decide +kernel
theorem dX11_habit_65 : decode cX11_habit 65 = .ok (.iload_n 2, 1) := by decide +kernel
theorem dX11_habit_66 : decode cX11_habit 66 = .ok (.aload_n 0, 1) := by decide +kernel
theorem dX11_habit_67 : decode cX11_habit 67 = .ok (.getfield 77, 3) := by decide +kernel
theorem dX11_habit_70 : decode cX11_habit 70 = .ok (.iload 4, 2) := by decide +kernel
theorem dX11_habit_72 : decode cX11_habit 72 = .ok (.iaload, 1) := by decide +kernel
theorem dX11_habit_73 : decode cX11_habit 73 = .ok (.aload_n 0, 1) := by decide +kernel
theorem dX11_habit_74 : decode cX11_habit 74 = .ok (.getfield 77, 3) := by decide +kernel
theorem dX11_habit_77 : decode cX11_habit 77 = .ok (.iload 5, 2) := by decide +kernel
theorem dX11_habit_79 : decode cX11_habit 79 = .ok (.iaload, 1) := by decide +kernel
theorem dX11_habit_80 : decode cX11_habit 80 = .ok (.iand, 1) := by decide +kernel
theorem dX11_habit_81 : decode cX11_habit 81 = .ok (.invokestatic 261, 3) := by decide +kernel
theorem dX11_habit_84 : decode cX11_habit 84 = .ok (.iadd, 1) := by decide +kernel
theorem dX11_habit_85 : decode cX11_habit 85 = .ok (.istore_n 2, 1) := by decide +kernel
theorem dX11_habit_86 : decode cX11_habit 86 = .ok (.iload_n 3, 1) := by decide +kernel
theorem dX11_habit_87 : decode cX11_habit 87 = .ok (.aload_n 0, 1) := by decide +kernel
theorem dX11_habit_88 : decode cX11_habit 88 = .ok (.getfield 77, 3) := by decide +kernel
theorem dX11_habit_91 : decode cX11_habit 91 = .ok (.iload 5, 2) := by decide +kernel
theorem dX11_habit_93 : decode cX11_habit 93 = .ok (.iaload, 1) := by decide +kernel
theorem dX11_habit_94 : decode cX11_habit 94 = .ok (.invokestatic 261, 3) := by decide +kernel
theorem dX11_habit_97 : decode cX11_habit 97 = .ok (.iadd, 1) := by decide +kernel
theorem dX11_habit_98 : decode cX11_habit 98 = .ok (.istore_n 3, 1) := by decide +kernel
theorem dX11_habit_99 : decode cX11_habit 99 = .ok (.iinc 5 1, 3) := by decide +kernel
theorem dX11_habit_102 : decode cX11_habit 102 = .ok (.goto (-68), 3) := by decide +kernel
theorem dX11_habit_105 : decode cX11_habit 105 = .ok (.iinc 4 1, 3) := by decide +kernel
theorem dX11_habit_108 : decode cX11_habit 108 = .ok (.goto (-86), 3) := by decide +kernel
theorem dX11_habit_111 : decode cX11_habit 111 = .ok (.iload_n 3, 1) := by decide +kernel
theorem dX11_habit_112 : decode cX11_habit 112 = .ok (.ifCond .ne 11, 3) := by decide +kernel
theorem dX11_habit_115 : decode cX11_habit 115 = .ok (.aload_n 0, 1) := by decide +kernel
theorem dX11_habit_116 : decode cX11_habit 116 = .ok (.iconst 2, 1) := by decide +kernel
theorem dX11_habit_117 : decode cX11_habit 117 = .ok (.invokevirtual 137, 3) := by decide +kernel
theorem dX11_habit_120 : decode cX11_habit 120 = .ok (.goto 9, 3) := by decide +kernel
theorem dX11_habit_123 : decode cX11_habit 123 = .ok (.bipush 100, 2) := by decide +kernel
theorem dX11_habit_125 : decode cX11_habit 125 = .ok (.iload_n 2, 1) := by decide +kernel
theorem dX11_habit_126 : decode cX11_habit 126 = .ok (.imul, 1) := by decide +kernel
theorem dX11_habit_127 : decode cX11_habit 127 = .ok (.iload_n 3, 1) := by decide +kernel
theorem dX11_habit_128 : decode cX11_habit 128 = .ok (.idiv, 1) := by decide +kernel
theorem dX11_habit_129 : decode cX11_habit 129 = .ok (.ireturn, 1) := by decide +kernel
theorem dX11_draw_0 : decode cX11_draw 0 = .ok (.aload_n 0, 1) := by decide +kernel
theorem dX11_draw_1 : decode cX11_draw 1 = .ok (.iload_n 1, 1) := by decide +kernel
theorem dX11_draw_2 : decode cX11_draw 2 = .ok (.invokevirtual 226, 3) := by decide +kernel
theorem dX11_draw_5 : decode cX11_draw 5 = .ok (.ifCond .eq 13, 3) := by decide +kernel
theorem dX11_draw_8 : decode cX11_draw 8 = .ok (.iload_n 2, 1) := by decide +kernel
theorem dX11_draw_9 : decode cX11_draw 9 = .ok (.iconst 1, 1) := by decide +kernel
theorem dX11_draw_10 : decode cX11_draw 10 = .ok (.bipush 100, 2) := by decide +kernel
theorem dX11_draw_12 : decode cX11_draw 12 = .ok (.invokestatic 124, 3) := by decide +kernel
theorem dX11_draw_15 : decode cX11_draw 15 = .ok (.ifCond .ne 9, 3) := by decide +kernel
theorem dX11_draw_18 : decode cX11_draw 18 = .ok (.aload_n 0, 1) := by decide +kernel
theorem dX11_draw_19 : decode cX11_draw 19 = .ok (.iconst 1, 1) := by decide +kernel
theorem dX11_draw_20 : decode cX11_draw 20 = .ok (.invokevirtual 137, 3) := by decide +kernel
theorem dX11_draw_23 : decode cX11_draw 23 = .ok (.ireturn, 1) := by decide +kernel
theorem dX11_draw_24 : decode cX11_draw 24 = .ok (.aload_n 0, 1) := by decide +kernel
theorem dX11_draw_25 : decode cX11_draw 25 = .ok (.getfield 83, 3) := by decide +kernel
theorem dX11_draw_28 : decode cX11_draw 28 = .ok (.iload_n 1, 1) := by decide +kernel
theorem dX11_draw_29 : decode cX11_draw 29 = .ok (.iaload, 1) := by decide +kernel
theorem dX11_draw_30 : decode cX11_draw 30 = .ok (.ifCond .le 9, 3) := by decide +kernel
theorem dX11_draw_33 : decode cX11_draw 33 = .ok (.aload_n 0, 1) := by decide +kernel
theorem dX11_draw_34 : decode cX11_draw 34 = .ok (.iconst 3, 1) := by decide +kernel
theorem dX11_draw_35 : decode cX11_draw 35 = .ok (.invokevirtual 137, 3) := by decide +kernel
theorem dX11_draw_38 : decode cX11_draw 38 = .ok (.ireturn, 1) := by decide +kernel
theorem dX11_draw_39 : decode cX11_draw 39 = .ok (.aload_n 0, 1) := by decide +kernel
theorem dX11_draw_40 : decode cX11_draw 40 = .ok (.getfield 83, 3) := by decide +kernel
theorem dX11_draw_43 : decode cX11_draw 43 = .ok (.iload_n 1, 1) := by decide +kernel
theorem dX11_draw_44 : decode cX11_draw 44 = .ok (.iload_n 2, 1) := by decide +kernel
theorem dX11_draw_45 : decode cX11_draw 45 = .ok (.iastore, 1) := by decide +kernel
theorem dX11_draw_46 : decode cX11_draw 46 = .ok (.aload_n 0, 1) := by decide +kernel
theorem dX11_draw_47 : decode cX11_draw 47 = .ok (.dup, 1) := by decide +kernel
theorem dX11_draw_48 : decode cX11_draw 48 = .ok (.getfield 264, 3) := by decide +kernel
theorem dX11_draw_51 : decode cX11_draw 51 = .ok (.iconst 1, 1) := by decide +kernel
theorem dX11_draw_52 : decode cX11_draw 52 = .ok (.iadd, 1) := by decide +kernel
theorem dX11_draw_53 : decode cX11_draw 53 = .ok (.putfield 264, 3) := by decide +kernel
theorem dX11_draw_56 : decode cX11_draw 56 = .ok (.aload_n 0, 1) := by decide +kernel
theorem dX11_draw_57 : decode cX11_draw 57 = .ok (.getfield 264, 3) := by decide +kernel
theorem dX11_draw_60 : decode cX11_draw 60 = .ok (.ireturn, 1) := by decide +kernel
theorem dX11_rate_0 : decode cX11_rate 0 = .ok (.iconst 0, 1) := by decide +kernel
theorem dX11_rate_1 : decode cX11_rate 1 = .ok (.istore_n 1, 1) := by decide +kernel
theorem dX11_rate_2 : decode cX11_rate 2 = .ok (.iconst 0, 1) := by decide +kernel
theorem dX11_rate_3 : decode cX11_rate 3 = .ok (.istore_n 2, 1) := by decide +kernel
theorem dX11_rate_4 : decode cX11_rate 4 = .ok (.iconst 0, 1) := by decide +kernel
theorem dX11_rate_5 : decode cX11_rate 5 = .ok (.istore_n 3, 1) := by decide +kernel
theorem dX11_rate_6 : decode cX11_rate 6 = .ok (.iload_n 3, 1) := by decide +kernel
theorem dX11_rate_7 : decode cX11_rate 7 = .ok (.aload_n 0, 1) := by decide +kernel
theorem dX11_rate_8 : decode cX11_rate 8 = .ok (.getfield 131, 3) := by decide +kernel
theorem dX11_rate_11 : decode cX11_rate 11 = .ok (.if_icmp .ge 57, 3) := by decide +kernel
theorem dX11_rate_14 : decode cX11_rate 14 = .ok (.aload_n 0, 1) := by decide +kernel
theorem dX11_rate_15 : decode cX11_rate 15 = .ok (.getfield 83, 3) := by decide +kernel
theorem dX11_rate_18 : decode cX11_rate 18 = .ok (.iload_n 3, 1) := by decide +kernel
theorem dX11_rate_19 : decode cX11_rate 19 = .ok (.iaload, 1) := by decide +kernel
theorem dX11_rate_20 : decode cX11_rate 20 = .ok (.ifCond .le 16, 3) := by decide +kernel
theorem dX11_rate_23 : decode cX11_rate 23 = .ok (.sipush 10000, 3) := by decide +kernel
theorem dX11_rate_26 : decode cX11_rate 26 = .ok (.aload_n 0, 1) := by decide +kernel
theorem dX11_rate_27 : decode cX11_rate 27 = .ok (.getfield 83, 3) := by decide +kernel
theorem dX11_rate_30 : decode cX11_rate 30 = .ok (.iload_n 3, 1) := by decide +kernel
theorem dX11_rate_31 : decode cX11_rate 31 = .ok (.iaload, 1) := by decide +kernel
theorem dX11_rate_32 : decode cX11_rate 32 = .ok (.idiv, 1) := by decide +kernel
theorem dX11_rate_33 : decode cX11_rate 33 = .ok (.goto 4, 3) := by decide +kernel
theorem dX11_rate_36 : decode cX11_rate 36 = .ok (.iconst 0, 1) := by decide +kernel
theorem dX11_rate_37 : decode cX11_rate 37 = .ok (.istore 4, 2) := by decide +kernel
theorem dX11_rate_39 : decode cX11_rate 39 = .ok (.iload_n 2, 1) := by decide +kernel
theorem dX11_rate_40 : decode cX11_rate 40 = .ok (.iload 4, 2) := by decide +kernel
theorem dX11_rate_42 : decode cX11_rate 42 = .ok (.iadd, 1) := by decide +kernel
theorem dX11_rate_43 : decode cX11_rate 43 = .ok (.istore_n 2, 1) := by decide +kernel
theorem dX11_rate_44 : decode cX11_rate 44 = .ok (.iload_n 1, 1) := by decide +kernel
theorem dX11_rate_45 : decode cX11_rate 45 = .ok (.aload_n 0, 1) := by decide +kernel
theorem dX11_rate_46 : decode cX11_rate 46 = .ok (.getfield 80, 3) := by decide +kernel
theorem dX11_rate_49 : decode cX11_rate 49 = .ok (.iload_n 3, 1) := by decide +kernel
theorem dX11_rate_50 : decode cX11_rate 50 = .ok (.baload, 1) := by decide +kernel
theorem dX11_rate_51 : decode cX11_rate 51 = .ok (.ifCond .eq 8, 3) := by decide +kernel
theorem dX11_rate_54 : decode cX11_rate 54 = .ok (.iload 4, 2) := by decide +kernel
theorem dX11_rate_56 : decode cX11_rate 56 = .ok (.goto 4, 3) := by decide +kernel
theorem dX11_rate_59 : decode cX11_rate 59 = .ok (.iconst 0, 1) := by decide +kernel
theorem dX11_rate_60 : decode cX11_rate 60 = .ok (.iadd, 1) := by decide +kernel
theorem dX11_rate_61 : decode cX11_rate 61 = .ok (.istore_n 1, 1) := by decide +kernel
theorem dX11_rate_62 : decode cX11_rate 62 = .ok (.iinc 3 1, 3) := by decide +kernel
theorem dX11_rate_65 : decode cX11_rate 65 = .ok (.goto (-59), 3) := by decide +kernel
theorem dX11_rate_68 : decode cX11_rate 68 = .ok (.aload_n 0, 1) := by decide +kernel
theorem dX11_rate_69 : decode cX11_rate 69 = .ok (.getfield 264, 3) := by decide +kernel
theorem dX11_rate_72 : decode cX11_rate 72 = .ok (.ifCond .ne 11, 3) := by decide +kernel
theorem dX11_rate_75 : decode cX11_rate 75 = .ok (.aload_n 0, 1) := by decide +kernel
theorem dX11_rate_76 : decode cX11_rate 76 = .ok (.iconst 2, 1) := by decide +kernel
theorem dX11_rate_77 : decode cX11_rate 77 = .ok (.invokevirtual 137, 3) := by decide +kernel
theorem dX11_rate_80 : decode cX11_rate 80 = .ok (.goto 10, 3) := by decide +kernel
theorem dX11_rate_83 : decode cX11_rate 83 = .ok (.sipush 1000, 3) := by decide +kernel
theorem dX11_rate_86 : decode cX11_rate 86 = .ok (.iload_n 1, 1) := by decide +kernel
theorem dX11_rate_87 : decode cX11_rate 87 = .ok (.imul, 1) := by decide +kernel
theorem dX11_rate_88 : decode cX11_rate 88 = .ok (.iload_n 2, 1) := by decide +kernel
theorem dX11_rate_89 : decode cX11_rate 89 = .ok (.idiv, 1) := by decide +kernel
theorem dX11_rate_90 : decode cX11_rate 90 = .ok (.ireturn, 1) := by decide +kernel
theorem dX11_tell_0 : decode cX11_tell 0 = .ok (.aload_n 0, 1) := by decide +kernel
theorem dX11_tell_1 : decode cX11_tell 1 = .ok (.getfield 267, 3) := by decide +kernel
theorem dX11_tell_4 : decode cX11_tell 4 = .ok (.bipush 16, 2) := by decide +kernel
theorem dX11_tell_6 : decode cX11_tell 6 = .ok (.if_icmp .ne 9, 3) := by decide +kernel
theorem dX11_tell_9 : decode cX11_tell 9 = .ok (.aload_n 0, 1) := by decide +kernel
theorem dX11_tell_10 : decode cX11_tell 10 = .ok (.iconst 4, 1) := by decide +kernel
theorem dX11_tell_11 : decode cX11_tell 11 = .ok (.invokevirtual 137, 3) := by decide +kernel
theorem dX11_tell_14 : decode cX11_tell 14 = .ok (.ireturn, 1) := by decide +kernel
theorem dX11_tell_15 : decode cX11_tell 15 = .ok (.aload_n 0, 1) := by decide +kernel
theorem dX11_tell_16 : decode cX11_tell 16 = .ok (.getfield 102, 3) := by decide +kernel
theorem dX11_tell_19 : decode cX11_tell 19 = .ok (.aload_n 0, 1) := by decide +kernel
theorem dX11_tell_20 : decode cX11_tell 20 = .ok (.getfield 267, 3) := by decide +kernel
theorem dX11_tell_23 : decode cX11_tell 23 = .ok (.iload_n 1, 1) := by decide +kernel
theorem dX11_tell_24 : decode cX11_tell 24 = .ok (.iastore, 1) := by decide +kernel
theorem dX11_tell_25 : decode cX11_tell 25 = .ok (.aload_n 0, 1) := by decide +kernel
theorem dX11_tell_26 : decode cX11_tell 26 = .ok (.dup, 1) := by decide +kernel
theorem dX11_tell_27 : decode cX11_tell 27 = .ok (.getfield 267, 3) := by decide +kernel
theorem dX11_tell_30 : decode cX11_tell 30 = .ok (.iconst 1, 1) := by decide +kernel
theorem dX11_tell_31 : decode cX11_tell 31 = .ok (.iadd, 1) := by decide +kernel
theorem dX11_tell_32 : decode cX11_tell 32 = .ok (.putfield 267, 3) := by decide +kernel
theorem dX11_tell_35 : decode cX11_tell 35 = .ok (.aload_n 0, 1) := by decide +kernel
theorem dX11_tell_36 : decode cX11_tell 36 = .ok (.getfield 267, 3) := by decide +kernel
theorem dX11_tell_39 : decode cX11_tell 39 = .ok (.ireturn, 1) := by decide +kernel
theorem dX11_check_0 : decode cX11_check 0 = .ok (.aload_n 0, 1) := by decide +kernel
theorem dX11_check_1 : decode cX11_check 1 = .ok (.getfield 267, 3) := by decide +kernel
theorem dX11_check_4 : decode cX11_check 4 = .ok (.istore_n 1, 1) := by decide +kernel
theorem dX11_check_5 : decode cX11_check 5 = .ok (.aload_n 0, 1) := by decide +kernel
theorem dX11_check_6 : decode cX11_check 6 = .ok (.iconst 0, 1) := by decide +kernel
theorem dX11_check_7 : decode cX11_check 7 = .ok (.putfield 267, 3) := by decide +kernel
theorem dX11_check_10 : decode cX11_check 10 = .ok (.iconst 0, 1) := by decide +kernel
theorem dX11_check_11 : decode cX11_check 11 = .ok (.istore_n 2, 1) := by decide +kernel
theorem dX11_check_12 : decode cX11_check 12 = .ok (.iload_n 2, 1) := by decide +kernel
theorem dX11_check_13 : decode cX11_check 13 = .ok (.iload_n 1, 1) := by decide +kernel
theorem dX11_check_14 : decode cX11_check 14 = .ok (.if_icmp .ge 35, 3) := by decide +kernel
theorem dX11_check_17 : decode cX11_check 17 = .ok (.iload_n 2, 1) := by decide +kernel
theorem dX11_check_18 : decode cX11_check 18 = .ok (.aload_n 0, 1) := by decide +kernel
theorem dX11_check_19 : decode cX11_check 19 = .ok (.getfield 121, 3) := by decide +kernel
theorem dX11_check_22 : decode cX11_check 22 = .ok (.if_icmp .ge 17, 3) := by decide +kernel
theorem dX11_check_25 : decode cX11_check 25 = .ok (.aload_n 0, 1) := by decide +kernel
theorem dX11_check_26 : decode cX11_check 26 = .ok (.iload_n 2, 1) := by decide +kernel
theorem dX11_check_27 : decode cX11_check 27 = .ok (.invokevirtual 235, 3) := by decide +kernel
theorem dX11_check_30 : decode cX11_check 30 = .ok (.aload_n 0, 1) := by decide +kernel
theorem dX11_check_31 : decode cX11_check 31 = .ok (.getfield 102, 3) := by decide +kernel
theorem dX11_check_34 : decode cX11_check 34 = .ok (.iload_n 2, 1) := by decide +kernel
theorem dX11_check_35 : decode cX11_check 35 = .ok (.iaload, 1) := by decide +kernel
theorem dX11_check_36 : decode cX11_check 36 = .ok (.if_icmp .eq 7, 3) := by decide +kernel
theorem dX11_check_39 : decode cX11_check 39 = .ok (.iconst 1, 1) := by decide +kernel
theorem dX11_check_40 : decode cX11_check 40 = .ok (.iload_n 2, 1) := by decide +kernel
theorem dX11_check_41 : decode cX11_check 41 = .ok (.iadd, 1) := by decide +kernel
theorem dX11_check_42 : decode cX11_check 42 = .ok (.ireturn, 1) := by decide +kernel
theorem dX11_check_43 : decode cX11_check 43 = .ok (.iinc 2 1, 3) := by decide +kernel
theorem dX11_check_46 : decode cX11_check 46 = .ok (.goto (-34), 3) := by decide +kernel
theorem dX11_check_49 : decode cX11_check 49 = .ok (.iconst 0, 1) := by decide +kernel
theorem dX11_check_50 : decode cX11_check 50 = .ok (.ireturn, 1) := by decide +kernel
end
section
theorem dX11_count_0 : decode cX11_count 0 = .ok (.iconst 0, 1) := by decide +kernel
theorem dX11_count_1 : decode cX11_count 1 = .ok (.istore_n 2, 1) := by decide +kernel
theorem dX11_count_2 : decode cX11_count 2 = .ok (.iload_n 1, 1) := by decide +kernel
theorem dX11_count_3 : decode cX11_count 3 = .ok (.tableswitch 210 0 11 #[61, 66, 71, 76, 81, 86, 91, 96, 101, 135, 170, 205], 61) := by decide +kernel
theorem dX11_count_64 : decode cX11_count 64 = .ok (.aload_n 0, 1) := by decide +kernel
theorem dX11_count_65 : decode cX11_count 65 = .ok (.getfield 121, 3) := by decide +kernel
theorem dX11_count_68 : decode cX11_count 68 = .ok (.ireturn, 1) := by decide +kernel
theorem dX11_count_69 : decode cX11_count 69 = .ok (.aload_n 0, 1) := by decide +kernel
theorem dX11_count_70 : decode cX11_count 70 = .ok (.getfield 152, 3) := by decide +kernel
theorem dX11_count_73 : decode cX11_count 73 = .ok (.ireturn, 1) := by decide +kernel
theorem dX11_count_74 : decode cX11_count 74 = .ok (.aload_n 0, 1) := by decide +kernel
theorem dX11_count_75 : decode cX11_count 75 = .ok (.getfield 128, 3) := by decide +kernel
theorem dX11_count_78 : decode cX11_count 78 = .ok (.ireturn, 1) := by decide +kernel
theorem dX11_count_79 : decode cX11_count 79 = .ok (.aload_n 0, 1) := by decide +kernel
theorem dX11_count_80 : decode cX11_count 80 = .ok (.getfield 131, 3) := by decide +kernel
theorem dX11_count_83 : decode cX11_count 83 = .ok (.ireturn, 1) := by decide +kernel
theorem dX11_count_84 : decode cX11_count 84 = .ok (.aload_n 0, 1) := by decide +kernel
theorem dX11_count_85 : decode cX11_count 85 = .ok (.getfield 193, 3) := by decide +kernel
theorem dX11_count_88 : decode cX11_count 88 = .ok (.ireturn, 1) := by decide +kernel
theorem dX11_count_89 : decode cX11_count 89 = .ok (.aload_n 0, 1) := by decide +kernel
theorem dX11_count_90 : decode cX11_count 90 = .ok (.getfield 181, 3) := by decide +kernel
theorem dX11_count_93 : decode cX11_count 93 = .ok (.ireturn, 1) := by decide +kernel
theorem dX11_count_94 : decode cX11_count 94 = .ok (.aload_n 0, 1) := by decide +kernel
theorem dX11_count_95 : decode cX11_count 95 = .ok (.getfield 134, 3) := by decide +kernel
theorem dX11_count_98 : decode cX11_count 98 = .ok (.ireturn, 1) := by decide +kernel
theorem dX11_count_99 : decode cX11_count 99 = .ok (.aload_n 0, 1) := by decide +kernel
theorem dX11_count_100 : decode cX11_count 100 = .ok (.getfield 264, 3) := by decide +kernel
theorem dX11_count_103 : decode cX11_count 103 = .ok (.ireturn, 1) := by decide +kernel
theorem dX11_count_104 : decode cX11_count 104 = .ok (.iconst 0, 1) := by decide +kernel
theorem dX11_count_105 : decode cX11_count 105 = .ok (.istore_n 3, 1) := by decide +kernel
theorem dX11_count_106 : decode cX11_count 106 = .ok (.iload_n 3, 1) := by decide +kernel
theorem dX11_count_107 : decode cX11_count 107 = .ok (.aload_n 0, 1) := by decide +kernel
theorem dX11_count_108 : decode cX11_count 108 = .ok (.getfield 121, 3) := by decide +kernel
theorem dX11_count_111 : decode cX11_count 111 = .ok (.if_icmp .ge 25, 3) := by decide +kernel
theorem dX11_count_114 : decode cX11_count 114 = .ok (.iload_n 2, 1) := by decide +kernel
theorem dX11_count_115 : decode cX11_count 115 = .ok (.aload_n 0, 1) := by decide +kernel
theorem dX11_count_116 : decode cX11_count 116 = .ok (.iload_n 3, 1) := by decide +kernel
theorem dX11_count_117 : decode cX11_count 117 = .ok (.invokevirtual 172, 3) := by decide +kernel
theorem dX11_count_120 : decode cX11_count 120 = .ok (.ifCond .lt 7, 3) := by decide +kernel
theorem dX11_count_123 : decode cX11_count 123 = .ok (.iconst 1, 1) := by decide +kernel
theorem dX11_count_124 : decode cX11_count 124 = .ok (.goto 4, 3) := by decide +kernel
theorem dX11_count_127 : decode cX11_count 127 = .ok (.iconst 0, 1) := by decide +kernel
theorem dX11_count_128 : decode cX11_count 128 = .ok (.iadd, 1) := by decide +kernel
theorem dX11_count_129 : decode cX11_count 129 = .ok (.istore_n 2, 1) := by decide +kernel
theorem dX11_count_130 : decode cX11_count 130 = .ok (.iinc 3 1, 3) := by decide +kernel
theorem dX11_count_133 : decode cX11_count 133 = .ok (.goto (-27), 3) := by decide +kernel
theorem dX11_count_136 : decode cX11_count 136 = .ok (.iload_n 2, 1) := by decide +kernel
theorem dX11_count_137 : decode cX11_count 137 = .ok (.ireturn, 1) := by decide +kernel
theorem dX11_count_138 : decode cX11_count 138 = .ok (.iconst 0, 1) := by decide +kernel
theorem dX11_count_139 : decode cX11_count 139 = .ok (.istore_n 3, 1) := by decide +kernel
theorem dX11_count_140 : decode cX11_count 140 = .ok (.iload_n 3, 1) := by decide +kernel
theorem dX11_count_141 : decode cX11_count 141 = .ok (.aload_n 0, 1) := by decide +kernel
theorem dX11_count_142 : decode cX11_count 142 = .ok (.getfield 128, 3) := by decide +kernel
theorem dX11_count_145 : decode cX11_count 145 = .ok (.if_icmp .ge 26, 3) := by decide +kernel
theorem dX11_count_148 : decode cX11_count 148 = .ok (.iload_n 2, 1) := by decide +kernel
theorem dX11_count_149 : decode cX11_count 149 = .ok (.aload_n 0, 1) := by decide +kernel
theorem dX11_count_150 : decode cX11_count 150 = .ok (.getfield 49, 3) := by decide +kernel
theorem dX11_count_153 : decode cX11_count 153 = .ok (.iload_n 3, 1) := by decide +kernel
theorem dX11_count_154 : decode cX11_count 154 = .ok (.baload, 1) := by decide +kernel
theorem dX11_count_155 : decode cX11_count 155 = .ok (.ifCond .eq 7, 3) := by decide +kernel
theorem dX11_count_158 : decode cX11_count 158 = .ok (.iconst 1, 1) := by decide +kernel
theorem dX11_count_159 : decode cX11_count 159 = .ok (.goto 4, 3) := by decide +kernel
theorem dX11_count_162 : decode cX11_count 162 = .ok (.iconst 0, 1) := by decide +kernel
theorem dX11_count_163 : decode cX11_count 163 = .ok (.iadd, 1) := by decide +kernel
theorem dX11_count_164 : decode cX11_count 164 = .ok (.istore_n 2, 1) := by decide +kernel
theorem dX11_count_165 : decode cX11_count 165 = .ok (.iinc 3 1, 3) := by decide +kernel
theorem dX11_count_168 : decode cX11_count 168 = .ok (.goto (-28), 3) := by decide +kernel
theorem dX11_count_171 : decode cX11_count 171 = .ok (.iload_n 2, 1) := by decide +kernel
theorem dX11_count_172 : decode cX11_count 172 = .ok (.ireturn, 1) := by decide +kernel
theorem dX11_count_173 : decode cX11_count 173 = .ok (.iconst 0, 1) := by decide +kernel
theorem dX11_count_174 : decode cX11_count 174 = .ok (.istore_n 3, 1) := by decide +kernel
theorem dX11_count_175 : decode cX11_count 175 = .ok (.iload_n 3, 1) := by decide +kernel
theorem dX11_count_176 : decode cX11_count 176 = .ok (.aload_n 0, 1) := by decide +kernel
theorem dX11_count_177 : decode cX11_count 177 = .ok (.getfield 121, 3) := by decide +kernel
theorem dX11_count_180 : decode cX11_count 180 = .ok (.if_icmp .ge 26, 3) := by decide +kernel
theorem dX11_count_183 : decode cX11_count 183 = .ok (.iload_n 2, 1) := by decide +kernel
theorem dX11_count_184 : decode cX11_count 184 = .ok (.aload_n 0, 1) := by decide +kernel
theorem dX11_count_185 : decode cX11_count 185 = .ok (.getfield 93, 3) := by decide +kernel
theorem dX11_count_188 : decode cX11_count 188 = .ok (.iload_n 3, 1) := by decide +kernel
theorem dX11_count_189 : decode cX11_count 189 = .ok (.baload, 1) := by decide +kernel
theorem dX11_count_190 : decode cX11_count 190 = .ok (.ifCond .eq 7, 3) := by decide +kernel
theorem dX11_count_193 : decode cX11_count 193 = .ok (.iconst 1, 1) := by decide +kernel
theorem dX11_count_194 : decode cX11_count 194 = .ok (.goto 4, 3) := by decide +kernel
theorem dX11_count_197 : decode cX11_count 197 = .ok (.iconst 0, 1) := by decide +kernel
theorem dX11_count_198 : decode cX11_count 198 = .ok (.iadd, 1) := by decide +kernel
theorem dX11_count_199 : decode cX11_count 199 = .ok (.istore_n 2, 1) := by decide +kernel
theorem dX11_count_200 : decode cX11_count 200 = .ok (.iinc 3 1, 3) := by decide +kernel
theorem dX11_count_203 : decode cX11_count 203 = .ok (.goto (-28), 3) := by decide +kernel
theorem dX11_count_206 : decode cX11_count 206 = .ok (.iload_n 2, 1) := by decide +kernel
theorem dX11_count_207 : decode cX11_count 207 = .ok (.ireturn, 1) := by decide +kernel
theorem dX11_count_208 : decode cX11_count 208 = .ok (.aload_n 0, 1) := by decide +kernel
theorem dX11_count_209 : decode cX11_count 209 = .ok (.getfield 267, 3) := by decide +kernel
theorem dX11_count_212 : decode cX11_count 212 = .ok (.ireturn, 1) := by decide +kernel
theorem dX11_count_213 : decode cX11_count 213 = .ok (.aload_n 0, 1) := by decide +kernel
theorem dX11_count_214 : decode cX11_count 214 = .ok (.iconst 1, 1) := by decide +kernel
theorem dX11_count_215 : decode cX11_count 215 = .ok (.invokevirtual 137, 3) := by decide +kernel
theorem dX11_count_218 : decode cX11_count 218 = .ok (.ireturn, 1) := by decide +kernel
theorem dX11_found_0 : decode cX11_found 0 = .ok (.iload_n 1, 1) := by decide +kernel
theorem dX11_found_1 : decode cX11_found 1 = .ok (.iconst 1, 1) := by decide +kernel
theorem dX11_found_2 : decode cX11_found 2 = .ok (.iconst 5, 1) := by decide +kernel
theorem dX11_found_3 : decode cX11_found 3 = .ok (.invokestatic 124, 3) := by decide +kernel
theorem dX11_found_6 : decode cX11_found 6 = .ok (.ifCond .eq 12, 3) := by decide +kernel
theorem dX11_found_9 : decode cX11_found 9 = .ok (.aload_n 0, 1) := by decide +kernel
theorem dX11_found_10 : decode cX11_found 10 = .ok (.getfield 105, 3) := by decide +kernel
theorem dX11_found_13 : decode cX11_found 13 = .ok (.iload_n 1, 1) := by decide +kernel
theorem dX11_found_14 : decode cX11_found 14 = .ok (.iaload, 1) := by decide +kernel
theorem dX11_found_15 : decode cX11_found 15 = .ok (.goto 8, 3) := by decide +kernel
theorem dX11_found_18 : decode cX11_found 18 = .ok (.aload_n 0, 1) := by decide +kernel
theorem dX11_found_19 : decode cX11_found 19 = .ok (.iconst 1, 1) := by decide +kernel
theorem dX11_found_20 : decode cX11_found 20 = .ok (.invokevirtual 137, 3) := by decide +kernel
theorem dX11_found_23 : decode cX11_found 23 = .ok (.ireturn, 1) := by decide +kernel
theorem dJ6_bitCount_0f7a4_0 : decode cJ6_bitCount_0f7a4 0 = .ok (.iload_n 0, 1) := by decide +kernel
theorem dJ6_bitCount_0f7a4_1 : decode cJ6_bitCount_0f7a4 1 = .ok (.iload_n 0, 1) := by decide +kernel
theorem dJ6_bitCount_0f7a4_2 : decode cJ6_bitCount_0f7a4 2 = .ok (.iconst 1, 1) := by decide +kernel
theorem dJ6_bitCount_0f7a4_3 : decode cJ6_bitCount_0f7a4 3 = .ok (.iushr, 1) := by decide +kernel
theorem dJ6_bitCount_0f7a4_4 : decode cJ6_bitCount_0f7a4 4 = .ok (.ldc_w 265, 3) := by decide +kernel
theorem dJ6_bitCount_0f7a4_7 : decode cJ6_bitCount_0f7a4 7 = .ok (.iand, 1) := by decide +kernel
theorem dJ6_bitCount_0f7a4_8 : decode cJ6_bitCount_0f7a4 8 = .ok (.isub, 1) := by decide +kernel
theorem dJ6_bitCount_0f7a4_9 : decode cJ6_bitCount_0f7a4 9 = .ok (.istore_n 0, 1) := by decide +kernel
theorem dJ6_bitCount_0f7a4_10 : decode cJ6_bitCount_0f7a4 10 = .ok (.iload_n 0, 1) := by decide +kernel
theorem dJ6_bitCount_0f7a4_11 : decode cJ6_bitCount_0f7a4 11 = .ok (.ldc_w 266, 3) := by decide +kernel
theorem dJ6_bitCount_0f7a4_14 : decode cJ6_bitCount_0f7a4 14 = .ok (.iand, 1) := by decide +kernel
theorem dJ6_bitCount_0f7a4_15 : decode cJ6_bitCount_0f7a4 15 = .ok (.iload_n 0, 1) := by decide +kernel
theorem dJ6_bitCount_0f7a4_16 : decode cJ6_bitCount_0f7a4 16 = .ok (.iconst 2, 1) := by decide +kernel
theorem dJ6_bitCount_0f7a4_17 : decode cJ6_bitCount_0f7a4 17 = .ok (.iushr, 1) := by decide +kernel
theorem dJ6_bitCount_0f7a4_18 : decode cJ6_bitCount_0f7a4 18 = .ok (.ldc_w 266, 3) := by decide +kernel
theorem dJ6_bitCount_0f7a4_21 : decode cJ6_bitCount_0f7a4 21 = .ok (.iand, 1) := by decide +kernel
theorem dJ6_bitCount_0f7a4_22 : decode cJ6_bitCount_0f7a4 22 = .ok (.iadd, 1) := by decide +kernel
theorem dJ6_bitCount_0f7a4_23 : decode cJ6_bitCount_0f7a4 23 = .ok (.istore_n 0, 1) := by decide +kernel
theorem dJ6_bitCount_0f7a4_24 : decode cJ6_bitCount_0f7a4 24 = .ok (.iload_n 0, 1) := by decide +kernel
theorem dJ6_bitCount_0f7a4_25 : decode cJ6_bitCount_0f7a4 25 = .ok (.iload_n 0, 1) := by decide +kernel
theorem dJ6_bitCount_0f7a4_26 : decode cJ6_bitCount_0f7a4 26 = .ok (.iconst 4, 1) := by decide +kernel
theorem dJ6_bitCount_0f7a4_27 : decode cJ6_bitCount_0f7a4 27 = .ok (.iushr, 1) := by decide +kernel
theorem dJ6_bitCount_0f7a4_28 : decode cJ6_bitCount_0f7a4 28 = .ok (.iadd, 1) := by decide +kernel
theorem dJ6_bitCount_0f7a4_29 : decode cJ6_bitCount_0f7a4 29 = .ok (.ldc_w 267, 3) := by decide +kernel
theorem dJ6_bitCount_0f7a4_32 : decode cJ6_bitCount_0f7a4 32 = .ok (.iand, 1) := by decide +kernel
theorem dJ6_bitCount_0f7a4_33 : decode cJ6_bitCount_0f7a4 33 = .ok (.istore_n 0, 1) := by decide +kernel
theorem dJ6_bitCount_0f7a4_34 : decode cJ6_bitCount_0f7a4 34 = .ok (.iload_n 0, 1) := by decide +kernel
theorem dJ6_bitCount_0f7a4_35 : decode cJ6_bitCount_0f7a4 35 = .ok (.iload_n 0, 1) := by decide +kernel
theorem dJ6_bitCount_0f7a4_36 : decode cJ6_bitCount_0f7a4 36 = .ok (.bipush 8, 2) := by decide +kernel
theorem dJ6_bitCount_0f7a4_38 : decode cJ6_bitCount_0f7a4 38 = .ok (.iushr, 1) := by decide +kernel
theorem dJ6_bitCount_0f7a4_39 : decode cJ6_bitCount_0f7a4 39 = .ok (.iadd, 1) := by decide +kernel
theorem dJ6_bitCount_0f7a4_40 : decode cJ6_bitCount_0f7a4 40 = .ok (.istore_n 0, 1) := by decide +kernel
theorem dJ6_bitCount_0f7a4_41 : decode cJ6_bitCount_0f7a4 41 = .ok (.iload_n 0, 1) := by decide +kernel
theorem dJ6_bitCount_0f7a4_42 : decode cJ6_bitCount_0f7a4 42 = .ok (.iload_n 0, 1) := by decide +kernel
theorem dJ6_bitCount_0f7a4_43 : decode cJ6_bitCount_0f7a4 43 = .ok (.bipush 16, 2) := by decide +kernel
theorem dJ6_bitCount_0f7a4_45 : decode cJ6_bitCount_0f7a4 45 = .ok (.iushr, 1) := by decide +kernel
theorem dJ6_bitCount_0f7a4_46 : decode cJ6_bitCount_0f7a4 46 = .ok (.iadd, 1) := by decide +kernel
theorem dJ6_bitCount_0f7a4_47 : decode cJ6_bitCount_0f7a4 47 = .ok (.istore_n 0, 1) := by decide +kernel
theorem dJ6_bitCount_0f7a4_48 : decode cJ6_bitCount_0f7a4 48 = .ok (.iload_n 0, 1) := by decide +kernel
theorem dJ6_bitCount_0f7a4_49 : decode cJ6_bitCount_0f7a4 49 = .ok (.bipush 63, 2) := by decide +kernel
theorem dJ6_bitCount_0f7a4_51 : decode cJ6_bitCount_0f7a4 51 = .ok (.iand, 1) := by decide +kernel
theorem dJ6_bitCount_0f7a4_52 : decode cJ6_bitCount_0f7a4 52 = .ok (.ireturn, 1) := by decide +kernel
theorem dJ9_min_7cf53_0 : decode cJ9_min_7cf53 0 = .ok (.iload_n 0, 1) := by decide +kernel
theorem dJ9_min_7cf53_1 : decode cJ9_min_7cf53 1 = .ok (.iload_n 1, 1) := by decide +kernel
theorem dJ9_min_7cf53_2 : decode cJ9_min_7cf53 2 = .ok (.if_icmp .gt 7, 3) := by decide +kernel
theorem dJ9_min_7cf53_5 : decode cJ9_min_7cf53 5 = .ok (.iload_n 0, 1) := by decide +kernel
theorem dJ9_min_7cf53_6 : decode cJ9_min_7cf53 6 = .ok (.goto 4, 3) := by decide +kernel
theorem dJ9_min_7cf53_9 : decode cJ9_min_7cf53 9 = .ok (.iload_n 1, 1) := by decide +kernel
theorem dJ9_min_7cf53_10 : decode cJ9_min_7cf53 10 = .ok (.ireturn, 1) := by decide +kernel
theorem dL_law_0 : decode cL_law 0 = .ok (.new 7, 3) := by decide +kernel
theorem dL_law_3 : decode cL_law 3 = .ok (.dup, 1) := by decide +kernel
theorem dL_law_4 : decode cL_law 4 = .ok (.invokespecial 9, 3) := by decide +kernel
theorem dL_law_7 : decode cL_law 7 = .ok (.astore_n 1, 1) := by decide +kernel
theorem dL_law_8 : decode cL_law 8 = .ok (.new 10, 3) := by decide +kernel
theorem dL_law_11 : decode cL_law 11 = .ok (.dup, 1) := by decide +kernel
theorem dL_law_12 : decode cL_law 12 = .ok (.invokespecial 12, 3) := by decide +kernel
theorem dL_law_15 : decode cL_law 15 = .ok (.astore_n 2, 1) := by decide +kernel
theorem dL_law_16 : decode cL_law 16 = .ok (.iconst 0, 1) := by decide +kernel
theorem dL_law_17 : decode cL_law 17 = .ok (.istore_n 3, 1) := by decide +kernel
theorem dL_law_18 : decode cL_law 18 = .ok (.iload_n 3, 1) := by decide +kernel
theorem dL_law_19 : decode cL_law 19 = .ok (.aload_n 0, 1) := by decide +kernel
theorem dL_law_20 : decode cL_law 20 = .ok (.arraylength, 1) := by decide +kernel
theorem dL_law_21 : decode cL_law 21 = .ok (.iconst 4, 1) := by decide +kernel
theorem dL_law_22 : decode cL_law 22 = .ok (.isub, 1) := by decide +kernel
theorem dL_law_23 : decode cL_law 23 = .ok (.if_icmp .gt 1125, 3) := by decide +kernel
theorem dL_law_26 : decode cL_law 26 = .ok (.aload_n 0, 1) := by decide +kernel
theorem dL_law_27 : decode cL_law 27 = .ok (.iload_n 3, 1) := by decide +kernel
theorem dL_law_28 : decode cL_law 28 = .ok (.iaload, 1) := by decide +kernel
theorem dL_law_29 : decode cL_law 29 = .ok (.bipush 31, 2) := by decide +kernel
theorem dL_law_31 : decode cL_law 31 = .ok (.iand, 1) := by decide +kernel
theorem dL_law_32 : decode cL_law 32 = .ok (.tableswitch 1110 0 31 #[144, 187, 220, 263, 306, 339, 372, 405, 428, 461, 484, 517, 540, 563, 596, 639, 672, 715, 738, 781, 814, 847, 870, 903, 926, 959, 982, 1015, 1028, 1051, 1064, 1087], 144) := by decide +kernel
theorem dL_law_176 : decode cL_law 176 = .ok (.aload_n 1, 1) := by decide +kernel
theorem dL_law_177 : decode cL_law 177 = .ok (.aload_n 0, 1) := by decide +kernel
theorem dL_law_178 : decode cL_law 178 = .ok (.iload_n 3, 1) := by decide +kernel
theorem dL_law_179 : decode cL_law 179 = .ok (.iconst 1, 1) := by decide +kernel
theorem dL_law_180 : decode cL_law 180 = .ok (.iadd, 1) := by decide +kernel
theorem dL_law_181 : decode cL_law 181 = .ok (.iaload, 1) := by decide +kernel
theorem dL_law_182 : decode cL_law 182 = .ok (.aload_n 0, 1) := by decide +kernel
theorem dL_law_183 : decode cL_law 183 = .ok (.iload_n 3, 1) := by decide +kernel
theorem dL_law_184 : decode cL_law 184 = .ok (.iconst 2, 1) := by decide +kernel
theorem dL_law_185 : decode cL_law 185 = .ok (.iadd, 1) := by decide +kernel
theorem dL_law_186 : decode cL_law 186 = .ok (.iaload, 1) := by decide +kernel
theorem dL_law_187 : decode cL_law 187 = .ok (.aload_n 0, 1) := by decide +kernel
theorem dL_law_188 : decode cL_law 188 = .ok (.iload_n 3, 1) := by decide +kernel
theorem dL_law_189 : decode cL_law 189 = .ok (.iconst 3, 1) := by decide +kernel
theorem dL_law_190 : decode cL_law 190 = .ok (.iadd, 1) := by decide +kernel
theorem dL_law_191 : decode cL_law 191 = .ok (.iaload, 1) := by decide +kernel
theorem dL_law_192 : decode cL_law 192 = .ok (.invokevirtual 13, 3) := by decide +kernel
theorem dL_law_195 : decode cL_law 195 = .ok (.aload_n 2, 1) := by decide +kernel
theorem dL_law_196 : decode cL_law 196 = .ok (.aload_n 0, 1) := by decide +kernel
theorem dL_law_197 : decode cL_law 197 = .ok (.iload_n 3, 1) := by decide +kernel
theorem dL_law_198 : decode cL_law 198 = .ok (.iconst 1, 1) := by decide +kernel
theorem dL_law_199 : decode cL_law 199 = .ok (.iadd, 1) := by decide +kernel
theorem dL_law_200 : decode cL_law 200 = .ok (.iaload, 1) := by decide +kernel
theorem dL_law_201 : decode cL_law 201 = .ok (.aload_n 0, 1) := by decide +kernel
theorem dL_law_202 : decode cL_law 202 = .ok (.iload_n 3, 1) := by decide +kernel
theorem dL_law_203 : decode cL_law 203 = .ok (.iconst 2, 1) := by decide +kernel
theorem dL_law_204 : decode cL_law 204 = .ok (.iadd, 1) := by decide +kernel
theorem dL_law_205 : decode cL_law 205 = .ok (.iaload, 1) := by decide +kernel
theorem dL_law_206 : decode cL_law 206 = .ok (.aload_n 0, 1) := by decide +kernel
theorem dL_law_207 : decode cL_law 207 = .ok (.iload_n 3, 1) := by decide +kernel
theorem dL_law_208 : decode cL_law 208 = .ok (.iconst 3, 1) := by decide +kernel
theorem dL_law_209 : decode cL_law 209 = .ok (.iadd, 1) := by decide +kernel
theorem dL_law_210 : decode cL_law 210 = .ok (.iaload, 1) := by decide +kernel
theorem dL_law_211 : decode cL_law 211 = .ok (.invokevirtual 17, 3) := by decide +kernel
theorem dL_law_214 : decode cL_law 214 = .ok (.if_icmp .eq 928, 3) := by decide +kernel
theorem dL_law_217 : decode cL_law 217 = .ok (.iconst 0, 1) := by decide +kernel
theorem dL_law_218 : decode cL_law 218 = .ok (.ireturn, 1) := by decide +kernel
theorem dL_law_219 : decode cL_law 219 = .ok (.aload_n 1, 1) := by decide +kernel
theorem dL_law_220 : decode cL_law 220 = .ok (.aload_n 0, 1) := by decide +kernel
theorem dL_law_221 : decode cL_law 221 = .ok (.iload_n 3, 1) := by decide +kernel
theorem dL_law_222 : decode cL_law 222 = .ok (.iconst 1, 1) := by decide +kernel
theorem dL_law_223 : decode cL_law 223 = .ok (.iadd, 1) := by decide +kernel
theorem dL_law_224 : decode cL_law 224 = .ok (.iaload, 1) := by decide +kernel
theorem dL_law_225 : decode cL_law 225 = .ok (.aload_n 0, 1) := by decide +kernel
theorem dL_law_226 : decode cL_law 226 = .ok (.iload_n 3, 1) := by decide +kernel
theorem dL_law_227 : decode cL_law 227 = .ok (.iconst 2, 1) := by decide +kernel
theorem dL_law_228 : decode cL_law 228 = .ok (.iadd, 1) := by decide +kernel
theorem dL_law_229 : decode cL_law 229 = .ok (.iaload, 1) := by decide +kernel
theorem dL_law_230 : decode cL_law 230 = .ok (.invokevirtual 18, 3) := by decide +kernel
theorem dL_law_233 : decode cL_law 233 = .ok (.aload_n 2, 1) := by decide +kernel
theorem dL_law_234 : decode cL_law 234 = .ok (.aload_n 0, 1) := by decide +kernel
theorem dL_law_235 : decode cL_law 235 = .ok (.iload_n 3, 1) := by decide +kernel
theorem dL_law_236 : decode cL_law 236 = .ok (.iconst 1, 1) := by decide +kernel
theorem dL_law_237 : decode cL_law 237 = .ok (.iadd, 1) := by decide +kernel
theorem dL_law_238 : decode cL_law 238 = .ok (.iaload, 1) := by decide +kernel
theorem dL_law_239 : decode cL_law 239 = .ok (.aload_n 0, 1) := by decide +kernel
theorem dL_law_240 : decode cL_law 240 = .ok (.iload_n 3, 1) := by decide +kernel
theorem dL_law_241 : decode cL_law 241 = .ok (.iconst 2, 1) := by decide +kernel
theorem dL_law_242 : decode cL_law 242 = .ok (.iadd, 1) := by decide +kernel
theorem dL_law_243 : decode cL_law 243 = .ok (.iaload, 1) := by decide +kernel
theorem dL_law_244 : decode cL_law 244 = .ok (.invokevirtual 22, 3) := by decide +kernel
theorem dL_law_247 : decode cL_law 247 = .ok (.if_icmp .eq 895, 3) := by decide +kernel
theorem dL_law_250 : decode cL_law 250 = .ok (.iconst 0, 1) := by decide +kernel
theorem dL_law_251 : decode cL_law 251 = .ok (.ireturn, 1) := by decide +kernel
theorem dL_law_252 : decode cL_law 252 = .ok (.aload_n 1, 1) := by decide +kernel
theorem dL_law_253 : decode cL_law 253 = .ok (.aload_n 0, 1) := by decide +kernel
theorem dL_law_254 : decode cL_law 254 = .ok (.iload_n 3, 1) := by decide +kernel
theorem dL_law_255 : decode cL_law 255 = .ok (.iconst 1, 1) := by decide +kernel
theorem dL_law_256 : decode cL_law 256 = .ok (.iadd, 1) := by decide +kernel
theorem dL_law_257 : decode cL_law 257 = .ok (.iaload, 1) := by decide +kernel
theorem dL_law_258 : decode cL_law 258 = .ok (.aload_n 0, 1) := by decide +kernel
theorem dL_law_259 : decode cL_law 259 = .ok (.iload_n 3, 1) := by decide +kernel
theorem dL_law_260 : decode cL_law 260 = .ok (.iconst 2, 1) := by decide +kernel
theorem dL_law_261 : decode cL_law 261 = .ok (.iadd, 1) := by decide +kernel
theorem dL_law_262 : decode cL_law 262 = .ok (.iaload, 1) := by decide +kernel
theorem dL_law_263 : decode cL_law 263 = .ok (.aload_n 0, 1) := by decide +kernel
theorem dL_law_264 : decode cL_law 264 = .ok (.iload_n 3, 1) := by decide +kernel
theorem dL_law_265 : decode cL_law 265 = .ok (.iconst 3, 1) := by decide +kernel
theorem dL_law_266 : decode cL_law 266 = .ok (.iadd, 1) := by decide +kernel
theorem dL_law_267 : decode cL_law 267 = .ok (.iaload, 1) := by decide +kernel
theorem dL_law_268 : decode cL_law 268 = .ok (.invokevirtual 23, 3) := by decide +kernel
theorem dL_law_271 : decode cL_law 271 = .ok (.aload_n 2, 1) := by decide +kernel
theorem dL_law_272 : decode cL_law 272 = .ok (.aload_n 0, 1) := by decide +kernel
theorem dL_law_273 : decode cL_law 273 = .ok (.iload_n 3, 1) := by decide +kernel
theorem dL_law_274 : decode cL_law 274 = .ok (.iconst 1, 1) := by decide +kernel
theorem dL_law_275 : decode cL_law 275 = .ok (.iadd, 1) := by decide +kernel
theorem dL_law_276 : decode cL_law 276 = .ok (.iaload, 1) := by decide +kernel
theorem dL_law_277 : decode cL_law 277 = .ok (.aload_n 0, 1) := by decide +kernel
theorem dL_law_278 : decode cL_law 278 = .ok (.iload_n 3, 1) := by decide +kernel
theorem dL_law_279 : decode cL_law 279 = .ok (.iconst 2, 1) := by decide +kernel
theorem dL_law_280 : decode cL_law 280 = .ok (.iadd, 1) := by decide +kernel
theorem dL_law_281 : decode cL_law 281 = .ok (.iaload, 1) := by decide +kernel
theorem dL_law_282 : decode cL_law 282 = .ok (.aload_n 0, 1) := by decide +kernel
theorem dL_law_283 : decode cL_law 283 = .ok (.iload_n 3, 1) := by decide +kernel
theorem dL_law_284 : decode cL_law 284 = .ok (.iconst 3, 1) := by decide +kernel
theorem dL_law_285 : decode cL_law 285 = .ok (.iadd, 1) := by decide +kernel
theorem dL_law_286 : decode cL_law 286 = .ok (.iaload, 1) := by decide +kernel
theorem dL_law_287 : decode cL_law 287 = .ok (.invokevirtual 26, 3) := by decide +kernel
theorem dL_law_290 : decode cL_law 290 = .ok (.if_icmp .eq 852, 3) := by decide +kernel
theorem dL_law_293 : decode cL_law 293 = .ok (.iconst 0, 1) := by decide +kernel
theorem dL_law_294 : decode cL_law 294 = .ok (.ireturn, 1) := by decide +kernel
theorem dL_law_295 : decode cL_law 295 = .ok (.aload_n 1, 1) := by decide +kernel
theorem dL_law_296 : decode cL_law 296 = .ok (.aload_n 0, 1) := by decide +kernel
theorem dL_law_297 : decode cL_law 297 = .ok (.iload_n 3, 1) := by decide +kernel
theorem dL_law_298 : decode cL_law 298 = .ok (.iconst 1, 1) := by decide +kernel
theorem dL_law_299 : decode cL_law 299 = .ok (.iadd, 1) := by decide +kernel
theorem dL_law_300 : decode cL_law 300 = .ok (.iaload, 1) := by decide +kernel
theorem dL_law_301 : decode cL_law 301 = .ok (.aload_n 0, 1) := by decide +kernel
theorem dL_law_302 : decode cL_law 302 = .ok (.iload_n 3, 1) := by decide +kernel
theorem dL_law_303 : decode cL_law 303 = .ok (.iconst 2, 1) := by decide +kernel
theorem dL_law_304 : decode cL_law 304 = .ok (.iadd, 1) := by decide +kernel
theorem dL_law_305 : decode cL_law 305 = .ok (.iaload, 1) := by decide +kernel
theorem dL_law_306 : decode cL_law 306 = .ok (.aload_n 0, 1) := by decide +kernel
theorem dL_law_307 : decode cL_law 307 = .ok (.iload_n 3, 1) := by decide +kernel
theorem dL_law_308 : decode cL_law 308 = .ok (.iconst 3, 1) := by decide +kernel
theorem dL_law_309 : decode cL_law 309 = .ok (.iadd, 1) := by decide +kernel
theorem dL_law_310 : decode cL_law 310 = .ok (.iaload, 1) := by decide +kernel
theorem dL_law_311 : decode cL_law 311 = .ok (.invokevirtual 27, 3) := by decide +kernel
theorem dL_law_314 : decode cL_law 314 = .ok (.aload_n 2, 1) := by decide +kernel
theorem dL_law_315 : decode cL_law 315 = .ok (.aload_n 0, 1) := by decide +kernel
theorem dL_law_316 : decode cL_law 316 = .ok (.iload_n 3, 1) := by decide +kernel
theorem dL_law_317 : decode cL_law 317 = .ok (.iconst 1, 1) := by decide +kernel
theorem dL_law_318 : decode cL_law 318 = .ok (.iadd, 1) := by decide +kernel
theorem dL_law_319 : decode cL_law 319 = .ok (.iaload, 1) := by decide +kernel
theorem dL_law_320 : decode cL_law 320 = .ok (.aload_n 0, 1) := by decide +kernel
theorem dL_law_321 : decode cL_law 321 = .ok (.iload_n 3, 1) := by decide +kernel
theorem dL_law_322 : decode cL_law 322 = .ok (.iconst 2, 1) := by decide +kernel
theorem dL_law_323 : decode cL_law 323 = .ok (.iadd, 1) := by decide +kernel
theorem dL_law_324 : decode cL_law 324 = .ok (.iaload, 1) := by decide +kernel
theorem dL_law_325 : decode cL_law 325 = .ok (.aload_n 0, 1) := by decide +kernel
theorem dL_law_326 : decode cL_law 326 = .ok (.iload_n 3, 1) := by decide +kernel
theorem dL_law_327 : decode cL_law 327 = .ok (.iconst 3, 1) := by decide +kernel
theorem dL_law_328 : decode cL_law 328 = .ok (.iadd, 1) := by decide +kernel
theorem dL_law_329 : decode cL_law 329 = .ok (.iaload, 1) := by decide +kernel
theorem dL_law_330 : decode cL_law 330 = .ok (.invokevirtual 30, 3) := by decide +kernel
theorem dL_law_333 : decode cL_law 333 = .ok (.if_icmp .eq 809, 3) := by decide +kernel
theorem dL_law_336 : decode cL_law 336 = .ok (.iconst 0, 1) := by decide +kernel
theorem dL_law_337 : decode cL_law 337 = .ok (.ireturn, 1) := by decide +kernel
theorem dL_law_338 : decode cL_law 338 = .ok (.aload_n 1, 1) := by decide +kernel
theorem dL_law_339 : decode cL_law 339 = .ok (.aload_n 0, 1) := by decide +kernel
theorem dL_law_340 : decode cL_law 340 = .ok (.iload_n 3, 1) := by decide +kernel
theorem dL_law_341 : decode cL_law 341 = .ok (.iconst 1, 1) := by decide +kernel
theorem dL_law_342 : decode cL_law 342 = .ok (.iadd, 1) := by decide +kernel
theorem dL_law_343 : decode cL_law 343 = .ok (.iaload, 1) := by decide +kernel
theorem dL_law_344 : decode cL_law 344 = .ok (.aload_n 0, 1) := by decide +kernel
theorem dL_law_345 : decode cL_law 345 = .ok (.iload_n 3, 1) := by decide +kernel
theorem dL_law_346 : decode cL_law 346 = .ok (.iconst 2, 1) := by decide +kernel
theorem dL_law_347 : decode cL_law 347 = .ok (.iadd, 1) := by decide +kernel
theorem dL_law_348 : decode cL_law 348 = .ok (.iaload, 1) := by decide +kernel
theorem dL_law_349 : decode cL_law 349 = .ok (.invokevirtual 31, 3) := by decide +kernel
theorem dL_law_352 : decode cL_law 352 = .ok (.aload_n 2, 1) := by decide +kernel
theorem dL_law_353 : decode cL_law 353 = .ok (.aload_n 0, 1) := by decide +kernel
theorem dL_law_354 : decode cL_law 354 = .ok (.iload_n 3, 1) := by decide +kernel
theorem dL_law_355 : decode cL_law 355 = .ok (.iconst 1, 1) := by decide +kernel
theorem dL_law_356 : decode cL_law 356 = .ok (.iadd, 1) := by decide +kernel
theorem dL_law_357 : decode cL_law 357 = .ok (.iaload, 1) := by decide +kernel
theorem dL_law_358 : decode cL_law 358 = .ok (.aload_n 0, 1) := by decide +kernel
theorem dL_law_359 : decode cL_law 359 = .ok (.iload_n 3, 1) := by decide +kernel
theorem dL_law_360 : decode cL_law 360 = .ok (.iconst 2, 1) := by decide +kernel
theorem dL_law_361 : decode cL_law 361 = .ok (.iadd, 1) := by decide +kernel
theorem dL_law_362 : decode cL_law 362 = .ok (.iaload, 1) := by decide +kernel
theorem dL_law_363 : decode cL_law 363 = .ok (.invokevirtual 34, 3) := by decide +kernel
theorem dL_law_366 : decode cL_law 366 = .ok (.if_icmp .eq 776, 3) := by decide +kernel
theorem dL_law_369 : decode cL_law 369 = .ok (.iconst 0, 1) := by decide +kernel
theorem dL_law_370 : decode cL_law 370 = .ok (.ireturn, 1) := by decide +kernel
theorem dL_law_371 : decode cL_law 371 = .ok (.aload_n 1, 1) := by decide +kernel
theorem dL_law_372 : decode cL_law 372 = .ok (.aload_n 0, 1) := by decide +kernel
theorem dL_law_373 : decode cL_law 373 = .ok (.iload_n 3, 1) := by decide +kernel
theorem dL_law_374 : decode cL_law 374 = .ok (.iconst 1, 1) := by decide +kernel
theorem dL_law_375 : decode cL_law 375 = .ok (.iadd, 1) := by decide +kernel
theorem dL_law_376 : decode cL_law 376 = .ok (.iaload, 1) := by decide +kernel
theorem dL_law_377 : decode cL_law 377 = .ok (.aload_n 0, 1) := by decide +kernel
theorem dL_law_378 : decode cL_law 378 = .ok (.iload_n 3, 1) := by decide +kernel
theorem dL_law_379 : decode cL_law 379 = .ok (.iconst 2, 1) := by decide +kernel
theorem dL_law_380 : decode cL_law 380 = .ok (.iadd, 1) := by decide +kernel
theorem dL_law_381 : decode cL_law 381 = .ok (.iaload, 1) := by decide +kernel
theorem dL_law_382 : decode cL_law 382 = .ok (.invokevirtual 35, 3) := by decide +kernel
theorem dL_law_385 : decode cL_law 385 = .ok (.aload_n 2, 1) := by decide +kernel
theorem dL_law_386 : decode cL_law 386 = .ok (.aload_n 0, 1) := by decide +kernel
theorem dL_law_387 : decode cL_law 387 = .ok (.iload_n 3, 1) := by decide +kernel
theorem dL_law_388 : decode cL_law 388 = .ok (.iconst 1, 1) := by decide +kernel
theorem dL_law_389 : decode cL_law 389 = .ok (.iadd, 1) := by decide +kernel
theorem dL_law_390 : decode cL_law 390 = .ok (.iaload, 1) := by decide +kernel
theorem dL_law_391 : decode cL_law 391 = .ok (.aload_n 0, 1) := by decide +kernel
theorem dL_law_392 : decode cL_law 392 = .ok (.iload_n 3, 1) := by decide +kernel
theorem dL_law_393 : decode cL_law 393 = .ok (.iconst 2, 1) := by decide +kernel
theorem dL_law_394 : decode cL_law 394 = .ok (.iadd, 1) := by decide +kernel
theorem dL_law_395 : decode cL_law 395 = .ok (.iaload, 1) := by decide +kernel
theorem dL_law_396 : decode cL_law 396 = .ok (.invokevirtual 38, 3) := by decide +kernel
theorem dL_law_399 : decode cL_law 399 = .ok (.if_icmp .eq 743, 3) := by decide +kernel
theorem dL_law_402 : decode cL_law 402 = .ok (.iconst 0, 1) := by decide +kernel
theorem dL_law_403 : decode cL_law 403 = .ok (.ireturn, 1) := by decide +kernel
theorem dL_law_404 : decode cL_law 404 = .ok (.aload_n 1, 1) := by decide +kernel
theorem dL_law_405 : decode cL_law 405 = .ok (.aload_n 0, 1) := by decide +kernel
theorem dL_law_406 : decode cL_law 406 = .ok (.iload_n 3, 1) := by decide +kernel
theorem dL_law_407 : decode cL_law 407 = .ok (.iconst 1, 1) := by decide +kernel
theorem dL_law_408 : decode cL_law 408 = .ok (.iadd, 1) := by decide +kernel
theorem dL_law_409 : decode cL_law 409 = .ok (.iaload, 1) := by decide +kernel
theorem dL_law_410 : decode cL_law 410 = .ok (.aload_n 0, 1) := by decide +kernel
theorem dL_law_411 : decode cL_law 411 = .ok (.iload_n 3, 1) := by decide +kernel
theorem dL_law_412 : decode cL_law 412 = .ok (.iconst 2, 1) := by decide +kernel
theorem dL_law_413 : decode cL_law 413 = .ok (.iadd, 1) := by decide +kernel
theorem dL_law_414 : decode cL_law 414 = .ok (.iaload, 1) := by decide +kernel
theorem dL_law_415 : decode cL_law 415 = .ok (.invokevirtual 39, 3) := by decide +kernel
theorem dL_law_418 : decode cL_law 418 = .ok (.aload_n 2, 1) := by decide +kernel
theorem dL_law_419 : decode cL_law 419 = .ok (.aload_n 0, 1) := by decide +kernel
theorem dL_law_420 : decode cL_law 420 = .ok (.iload_n 3, 1) := by decide +kernel
theorem dL_law_421 : decode cL_law 421 = .ok (.iconst 1, 1) := by decide +kernel
theorem dL_law_422 : decode cL_law 422 = .ok (.iadd, 1) := by decide +kernel
theorem dL_law_423 : decode cL_law 423 = .ok (.iaload, 1) := by decide +kernel
theorem dL_law_424 : decode cL_law 424 = .ok (.aload_n 0, 1) := by decide +kernel
theorem dL_law_425 : decode cL_law 425 = .ok (.iload_n 3, 1) := by decide +kernel
theorem dL_law_426 : decode cL_law 426 = .ok (.iconst 2, 1) := by decide +kernel
theorem dL_law_427 : decode cL_law 427 = .ok (.iadd, 1) := by decide +kernel
theorem dL_law_428 : decode cL_law 428 = .ok (.iaload, 1) := by decide +kernel
theorem dL_law_429 : decode cL_law 429 = .ok (.invokevirtual 42, 3) := by decide +kernel
theorem dL_law_432 : decode cL_law 432 = .ok (.if_icmp .eq 710, 3) := by decide +kernel
theorem dL_law_435 : decode cL_law 435 = .ok (.iconst 0, 1) := by decide +kernel
theorem dL_law_436 : decode cL_law 436 = .ok (.ireturn, 1) := by decide +kernel
theorem dL_law_437 : decode cL_law 437 = .ok (.aload_n 1, 1) := by decide +kernel
theorem dL_law_438 : decode cL_law 438 = .ok (.aload_n 0, 1) := by decide +kernel
theorem dL_law_439 : decode cL_law 439 = .ok (.iload_n 3, 1) := by decide +kernel
theorem dL_law_440 : decode cL_law 440 = .ok (.iconst 1, 1) := by decide +kernel
theorem dL_law_441 : decode cL_law 441 = .ok (.iadd, 1) := by decide +kernel
theorem dL_law_442 : decode cL_law 442 = .ok (.iaload, 1) := by decide +kernel
theorem dL_law_443 : decode cL_law 443 = .ok (.invokevirtual 43, 3) := by decide +kernel
theorem dL_law_446 : decode cL_law 446 = .ok (.aload_n 2, 1) := by decide +kernel
theorem dL_law_447 : decode cL_law 447 = .ok (.aload_n 0, 1) := by decide +kernel
theorem dL_law_448 : decode cL_law 448 = .ok (.iload_n 3, 1) := by decide +kernel
theorem dL_law_449 : decode cL_law 449 = .ok (.iconst 1, 1) := by decide +kernel
theorem dL_law_450 : decode cL_law 450 = .ok (.iadd, 1) := by decide +kernel
theorem dL_law_451 : decode cL_law 451 = .ok (.iaload, 1) := by decide +kernel
theorem dL_law_452 : decode cL_law 452 = .ok (.invokevirtual 47, 3) := by decide +kernel
theorem dL_law_455 : decode cL_law 455 = .ok (.if_icmp .eq 687, 3) := by decide +kernel
theorem dL_law_458 : decode cL_law 458 = .ok (.iconst 0, 1) := by decide +kernel
theorem dL_law_459 : decode cL_law 459 = .ok (.ireturn, 1) := by decide +kernel
theorem dL_law_460 : decode cL_law 460 = .ok (.aload_n 1, 1) := by decide +kernel
theorem dL_law_461 : decode cL_law 461 = .ok (.aload_n 0, 1) := by decide +kernel
theorem dL_law_462 : decode cL_law 462 = .ok (.iload_n 3, 1) := by decide +kernel
theorem dL_law_463 : decode cL_law 463 = .ok (.iconst 1, 1) := by decide +kernel
theorem dL_law_464 : decode cL_law 464 = .ok (.iadd, 1) := by decide +kernel
theorem dL_law_465 : decode cL_law 465 = .ok (.iaload, 1) := by decide +kernel
theorem dL_law_466 : decode cL_law 466 = .ok (.aload_n 0, 1) := by decide +kernel
theorem dL_law_467 : decode cL_law 467 = .ok (.iload_n 3, 1) := by decide +kernel
theorem dL_law_468 : decode cL_law 468 = .ok (.iconst 2, 1) := by decide +kernel
theorem dL_law_469 : decode cL_law 469 = .ok (.iadd, 1) := by decide +kernel
theorem dL_law_470 : decode cL_law 470 = .ok (.iaload, 1) := by decide +kernel
theorem dL_law_471 : decode cL_law 471 = .ok (.invokevirtual 48, 3) := by decide +kernel
theorem dL_law_474 : decode cL_law 474 = .ok (.aload_n 2, 1) := by decide +kernel
theorem dL_law_475 : decode cL_law 475 = .ok (.aload_n 0, 1) := by decide +kernel
theorem dL_law_476 : decode cL_law 476 = .ok (.iload_n 3, 1) := by decide +kernel
theorem dL_law_477 : decode cL_law 477 = .ok (.iconst 1, 1) := by decide +kernel
theorem dL_law_478 : decode cL_law 478 = .ok (.iadd, 1) := by decide +kernel
theorem dL_law_479 : decode cL_law 479 = .ok (.iaload, 1) := by decide +kernel
theorem dL_law_480 : decode cL_law 480 = .ok (.aload_n 0, 1) := by decide +kernel
theorem dL_law_481 : decode cL_law 481 = .ok (.iload_n 3, 1) := by decide +kernel
theorem dL_law_482 : decode cL_law 482 = .ok (.iconst 2, 1) := by decide +kernel
theorem dL_law_483 : decode cL_law 483 = .ok (.iadd, 1) := by decide +kernel
theorem dL_law_484 : decode cL_law 484 = .ok (.iaload, 1) := by decide +kernel
theorem dL_law_485 : decode cL_law 485 = .ok (.invokevirtual 51, 3) := by decide +kernel
theorem dL_law_488 : decode cL_law 488 = .ok (.if_icmp .eq 654, 3) := by decide +kernel
theorem dL_law_491 : decode cL_law 491 = .ok (.iconst 0, 1) := by decide +kernel
theorem dL_law_492 : decode cL_law 492 = .ok (.ireturn, 1) := by decide +kernel
theorem dL_law_493 : decode cL_law 493 = .ok (.aload_n 1, 1) := by decide +kernel
theorem dL_law_494 : decode cL_law 494 = .ok (.aload_n 0, 1) := by decide +kernel
theorem dL_law_495 : decode cL_law 495 = .ok (.iload_n 3, 1) := by decide +kernel
theorem dL_law_496 : decode cL_law 496 = .ok (.iconst 1, 1) := by decide +kernel
theorem dL_law_497 : decode cL_law 497 = .ok (.iadd, 1) := by decide +kernel
theorem dL_law_498 : decode cL_law 498 = .ok (.iaload, 1) := by decide +kernel
theorem dL_law_499 : decode cL_law 499 = .ok (.invokevirtual 52, 3) := by decide +kernel
theorem dL_law_502 : decode cL_law 502 = .ok (.aload_n 2, 1) := by decide +kernel
theorem dL_law_503 : decode cL_law 503 = .ok (.aload_n 0, 1) := by decide +kernel
theorem dL_law_504 : decode cL_law 504 = .ok (.iload_n 3, 1) := by decide +kernel
theorem dL_law_505 : decode cL_law 505 = .ok (.iconst 1, 1) := by decide +kernel
theorem dL_law_506 : decode cL_law 506 = .ok (.iadd, 1) := by decide +kernel
theorem dL_law_507 : decode cL_law 507 = .ok (.iaload, 1) := by decide +kernel
theorem dL_law_508 : decode cL_law 508 = .ok (.invokevirtual 55, 3) := by decide +kernel
theorem dL_law_511 : decode cL_law 511 = .ok (.if_icmp .eq 631, 3) := by decide +kernel
theorem dL_law_514 : decode cL_law 514 = .ok (.iconst 0, 1) := by decide +kernel
theorem dL_law_515 : decode cL_law 515 = .ok (.ireturn, 1) := by decide +kernel
theorem dL_law_516 : decode cL_law 516 = .ok (.aload_n 1, 1) := by decide +kernel
theorem dL_law_517 : decode cL_law 517 = .ok (.aload_n 0, 1) := by decide +kernel
theorem dL_law_518 : decode cL_law 518 = .ok (.iload_n 3, 1) := by decide +kernel
theorem dL_law_519 : decode cL_law 519 = .ok (.iconst 1, 1) := by decide +kernel
theorem dL_law_520 : decode cL_law 520 = .ok (.iadd, 1) := by decide +kernel
theorem dL_law_521 : decode cL_law 521 = .ok (.iaload, 1) := by decide +kernel
theorem dL_law_522 : decode cL_law 522 = .ok (.aload_n 0, 1) := by decide +kernel
theorem dL_law_523 : decode cL_law 523 = .ok (.iload_n 3, 1) := by decide +kernel
theorem dL_law_524 : decode cL_law 524 = .ok (.iconst 2, 1) := by decide +kernel
theorem dL_law_525 : decode cL_law 525 = .ok (.iadd, 1) := by decide +kernel
theorem dL_law_526 : decode cL_law 526 = .ok (.iaload, 1) := by decide +kernel
theorem dL_law_527 : decode cL_law 527 = .ok (.invokevirtual 56, 3) := by decide +kernel
theorem dL_law_530 : decode cL_law 530 = .ok (.aload_n 2, 1) := by decide +kernel
theorem dL_law_531 : decode cL_law 531 = .ok (.aload_n 0, 1) := by decide +kernel
theorem dL_law_532 : decode cL_law 532 = .ok (.iload_n 3, 1) := by decide +kernel
theorem dL_law_533 : decode cL_law 533 = .ok (.iconst 1, 1) := by decide +kernel
theorem dL_law_534 : decode cL_law 534 = .ok (.iadd, 1) := by decide +kernel
theorem dL_law_535 : decode cL_law 535 = .ok (.iaload, 1) := by decide +kernel
theorem dL_law_536 : decode cL_law 536 = .ok (.aload_n 0, 1) := by decide +kernel
theorem dL_law_537 : decode cL_law 537 = .ok (.iload_n 3, 1) := by decide +kernel
theorem dL_law_538 : decode cL_law 538 = .ok (.iconst 2, 1) := by decide +kernel
theorem dL_law_539 : decode cL_law 539 = .ok (.iadd, 1) := by decide +kernel
theorem dL_law_540 : decode cL_law 540 = .ok (.iaload, 1) := by decide +kernel
theorem dL_law_541 : decode cL_law 541 = .ok (.invokevirtual 59, 3) := by decide +kernel
theorem dL_law_544 : decode cL_law 544 = .ok (.if_icmp .eq 598, 3) := by decide +kernel
theorem dL_law_547 : decode cL_law 547 = .ok (.iconst 0, 1) := by decide +kernel
theorem dL_law_548 : decode cL_law 548 = .ok (.ireturn, 1) := by decide +kernel
theorem dL_law_549 : decode cL_law 549 = .ok (.aload_n 1, 1) := by decide +kernel
theorem dL_law_550 : decode cL_law 550 = .ok (.aload_n 0, 1) := by decide +kernel
theorem dL_law_551 : decode cL_law 551 = .ok (.iload_n 3, 1) := by decide +kernel
theorem dL_law_552 : decode cL_law 552 = .ok (.iconst 1, 1) := by decide +kernel
theorem dL_law_553 : decode cL_law 553 = .ok (.iadd, 1) := by decide +kernel
theorem dL_law_554 : decode cL_law 554 = .ok (.iaload, 1) := by decide +kernel
theorem dL_law_555 : decode cL_law 555 = .ok (.invokevirtual 60, 3) := by decide +kernel
theorem dL_law_558 : decode cL_law 558 = .ok (.aload_n 2, 1) := by decide +kernel
theorem dL_law_559 : decode cL_law 559 = .ok (.aload_n 0, 1) := by decide +kernel
theorem dL_law_560 : decode cL_law 560 = .ok (.iload_n 3, 1) := by decide +kernel
theorem dL_law_561 : decode cL_law 561 = .ok (.iconst 1, 1) := by decide +kernel
theorem dL_law_562 : decode cL_law 562 = .ok (.iadd, 1) := by decide +kernel
theorem dL_law_563 : decode cL_law 563 = .ok (.iaload, 1) := by decide +kernel
theorem dL_law_564 : decode cL_law 564 = .ok (.invokevirtual 63, 3) := by decide +kernel
theorem dL_law_567 : decode cL_law 567 = .ok (.if_icmp .eq 575, 3) := by decide +kernel
theorem dL_law_570 : decode cL_law 570 = .ok (.iconst 0, 1) := by decide +kernel
theorem dL_law_571 : decode cL_law 571 = .ok (.ireturn, 1) := by decide +kernel
theorem dL_law_572 : decode cL_law 572 = .ok (.aload_n 1, 1) := by decide +kernel
theorem dL_law_573 : decode cL_law 573 = .ok (.aload_n 0, 1) := by decide +kernel
theorem dL_law_574 : decode cL_law 574 = .ok (.iload_n 3, 1) := by decide +kernel
theorem dL_law_575 : decode cL_law 575 = .ok (.iconst 1, 1) := by decide +kernel
theorem dL_law_576 : decode cL_law 576 = .ok (.iadd, 1) := by decide +kernel
theorem dL_law_577 : decode cL_law 577 = .ok (.iaload, 1) := by decide +kernel
theorem dL_law_578 : decode cL_law 578 = .ok (.invokevirtual 64, 3) := by decide +kernel
theorem dL_law_581 : decode cL_law 581 = .ok (.aload_n 2, 1) := by decide +kernel
theorem dL_law_582 : decode cL_law 582 = .ok (.aload_n 0, 1) := by decide +kernel
theorem dL_law_583 : decode cL_law 583 = .ok (.iload_n 3, 1) := by decide +kernel
theorem dL_law_584 : decode cL_law 584 = .ok (.iconst 1, 1) := by decide +kernel
theorem dL_law_585 : decode cL_law 585 = .ok (.iadd, 1) := by decide +kernel
theorem dL_law_586 : decode cL_law 586 = .ok (.iaload, 1) := by decide +kernel
theorem dL_law_587 : decode cL_law 587 = .ok (.invokevirtual 67, 3) := by decide +kernel
theorem dL_law_590 : decode cL_law 590 = .ok (.if_icmp .eq 552, 3) := by decide +kernel
theorem dL_law_593 : decode cL_law 593 = .ok (.iconst 0, 1) := by decide +kernel
theorem dL_law_594 : decode cL_law 594 = .ok (.ireturn, 1) := by decide +kernel
theorem dL_law_595 : decode cL_law 595 = .ok (.aload_n 1, 1) := by decide +kernel
theorem dL_law_596 : decode cL_law 596 = .ok (.aload_n 0, 1) := by decide +kernel
theorem dL_law_597 : decode cL_law 597 = .ok (.iload_n 3, 1) := by decide +kernel
theorem dL_law_598 : decode cL_law 598 = .ok (.iconst 1, 1) := by decide +kernel
theorem dL_law_599 : decode cL_law 599 = .ok (.iadd, 1) := by decide +kernel
theorem dL_law_600 : decode cL_law 600 = .ok (.iaload, 1) := by decide +kernel
theorem dL_law_601 : decode cL_law 601 = .ok (.aload_n 0, 1) := by decide +kernel
theorem dL_law_602 : decode cL_law 602 = .ok (.iload_n 3, 1) := by decide +kernel
theorem dL_law_603 : decode cL_law 603 = .ok (.iconst 2, 1) := by decide +kernel
theorem dL_law_604 : decode cL_law 604 = .ok (.iadd, 1) := by decide +kernel
theorem dL_law_605 : decode cL_law 605 = .ok (.iaload, 1) := by decide +kernel
theorem dL_law_606 : decode cL_law 606 = .ok (.invokevirtual 68, 3) := by decide +kernel
theorem dL_law_609 : decode cL_law 609 = .ok (.aload_n 2, 1) := by decide +kernel
theorem dL_law_610 : decode cL_law 610 = .ok (.aload_n 0, 1) := by decide +kernel
theorem dL_law_611 : decode cL_law 611 = .ok (.iload_n 3, 1) := by decide +kernel
theorem dL_law_612 : decode cL_law 612 = .ok (.iconst 1, 1) := by decide +kernel
theorem dL_law_613 : decode cL_law 613 = .ok (.iadd, 1) := by decide +kernel
theorem dL_law_614 : decode cL_law 614 = .ok (.iaload, 1) := by decide +kernel
theorem dL_law_615 : decode cL_law 615 = .ok (.aload_n 0, 1) := by decide +kernel
theorem dL_law_616 : decode cL_law 616 = .ok (.iload_n 3, 1) := by decide +kernel
theorem dL_law_617 : decode cL_law 617 = .ok (.iconst 2, 1) := by decide +kernel
theorem dL_law_618 : decode cL_law 618 = .ok (.iadd, 1) := by decide +kernel
theorem dL_law_619 : decode cL_law 619 = .ok (.iaload, 1) := by decide +kernel
theorem dL_law_620 : decode cL_law 620 = .ok (.invokevirtual 71, 3) := by decide +kernel
theorem dL_law_623 : decode cL_law 623 = .ok (.if_icmp .eq 519, 3) := by decide +kernel
theorem dL_law_626 : decode cL_law 626 = .ok (.iconst 0, 1) := by decide +kernel
theorem dL_law_627 : decode cL_law 627 = .ok (.ireturn, 1) := by decide +kernel
theorem dL_law_628 : decode cL_law 628 = .ok (.aload_n 1, 1) := by decide +kernel
theorem dL_law_629 : decode cL_law 629 = .ok (.aload_n 0, 1) := by decide +kernel
theorem dL_law_630 : decode cL_law 630 = .ok (.iload_n 3, 1) := by decide +kernel
theorem dL_law_631 : decode cL_law 631 = .ok (.iconst 1, 1) := by decide +kernel
theorem dL_law_632 : decode cL_law 632 = .ok (.iadd, 1) := by decide +kernel
theorem dL_law_633 : decode cL_law 633 = .ok (.iaload, 1) := by decide +kernel
theorem dL_law_634 : decode cL_law 634 = .ok (.aload_n 0, 1) := by decide +kernel
theorem dL_law_635 : decode cL_law 635 = .ok (.iload_n 3, 1) := by decide +kernel
theorem dL_law_636 : decode cL_law 636 = .ok (.iconst 2, 1) := by decide +kernel
theorem dL_law_637 : decode cL_law 637 = .ok (.iadd, 1) := by decide +kernel
theorem dL_law_638 : decode cL_law 638 = .ok (.iaload, 1) := by decide +kernel
theorem dL_law_639 : decode cL_law 639 = .ok (.aload_n 0, 1) := by decide +kernel
theorem dL_law_640 : decode cL_law 640 = .ok (.iload_n 3, 1) := by decide +kernel
theorem dL_law_641 : decode cL_law 641 = .ok (.iconst 3, 1) := by decide +kernel
theorem dL_law_642 : decode cL_law 642 = .ok (.iadd, 1) := by decide +kernel
theorem dL_law_643 : decode cL_law 643 = .ok (.iaload, 1) := by decide +kernel
theorem dL_law_644 : decode cL_law 644 = .ok (.invokevirtual 72, 3) := by decide +kernel
theorem dL_law_647 : decode cL_law 647 = .ok (.aload_n 2, 1) := by decide +kernel
theorem dL_law_648 : decode cL_law 648 = .ok (.aload_n 0, 1) := by decide +kernel
theorem dL_law_649 : decode cL_law 649 = .ok (.iload_n 3, 1) := by decide +kernel
theorem dL_law_650 : decode cL_law 650 = .ok (.iconst 1, 1) := by decide +kernel
theorem dL_law_651 : decode cL_law 651 = .ok (.iadd, 1) := by decide +kernel
theorem dL_law_652 : decode cL_law 652 = .ok (.iaload, 1) := by decide +kernel
theorem dL_law_653 : decode cL_law 653 = .ok (.aload_n 0, 1) := by decide +kernel
theorem dL_law_654 : decode cL_law 654 = .ok (.iload_n 3, 1) := by decide +kernel
theorem dL_law_655 : decode cL_law 655 = .ok (.iconst 2, 1) := by decide +kernel
theorem dL_law_656 : decode cL_law 656 = .ok (.iadd, 1) := by decide +kernel
theorem dL_law_657 : decode cL_law 657 = .ok (.iaload, 1) := by decide +kernel
theorem dL_law_658 : decode cL_law 658 = .ok (.aload_n 0, 1) := by decide +kernel
theorem dL_law_659 : decode cL_law 659 = .ok (.iload_n 3, 1) := by decide +kernel
theorem dL_law_660 : decode cL_law 660 = .ok (.iconst 3, 1) := by decide +kernel
theorem dL_law_661 : decode cL_law 661 = .ok (.iadd, 1) := by decide +kernel
theorem dL_law_662 : decode cL_law 662 = .ok (.iaload, 1) := by decide +kernel
theorem dL_law_663 : decode cL_law 663 = .ok (.invokevirtual 75, 3) := by decide +kernel
theorem dL_law_666 : decode cL_law 666 = .ok (.if_icmp .eq 476, 3) := by decide +kernel
theorem dL_law_669 : decode cL_law 669 = .ok (.iconst 0, 1) := by decide +kernel
theorem dL_law_670 : decode cL_law 670 = .ok (.ireturn, 1) := by decide +kernel
theorem dL_law_671 : decode cL_law 671 = .ok (.aload_n 1, 1) := by decide +kernel
theorem dL_law_672 : decode cL_law 672 = .ok (.aload_n 0, 1) := by decide +kernel
theorem dL_law_673 : decode cL_law 673 = .ok (.iload_n 3, 1) := by decide +kernel
theorem dL_law_674 : decode cL_law 674 = .ok (.iconst 1, 1) := by decide +kernel
theorem dL_law_675 : decode cL_law 675 = .ok (.iadd, 1) := by decide +kernel
theorem dL_law_676 : decode cL_law 676 = .ok (.iaload, 1) := by decide +kernel
theorem dL_law_677 : decode cL_law 677 = .ok (.aload_n 0, 1) := by decide +kernel
theorem dL_law_678 : decode cL_law 678 = .ok (.iload_n 3, 1) := by decide +kernel
theorem dL_law_679 : decode cL_law 679 = .ok (.iconst 2, 1) := by decide +kernel
theorem dL_law_680 : decode cL_law 680 = .ok (.iadd, 1) := by decide +kernel
theorem dL_law_681 : decode cL_law 681 = .ok (.iaload, 1) := by decide +kernel
theorem dL_law_682 : decode cL_law 682 = .ok (.invokevirtual 76, 3) := by decide +kernel
theorem dL_law_685 : decode cL_law 685 = .ok (.aload_n 2, 1) := by decide +kernel
theorem dL_law_686 : decode cL_law 686 = .ok (.aload_n 0, 1) := by decide +kernel
theorem dL_law_687 : decode cL_law 687 = .ok (.iload_n 3, 1) := by decide +kernel
theorem dL_law_688 : decode cL_law 688 = .ok (.iconst 1, 1) := by decide +kernel
theorem dL_law_689 : decode cL_law 689 = .ok (.iadd, 1) := by decide +kernel
theorem dL_law_690 : decode cL_law 690 = .ok (.iaload, 1) := by decide +kernel
theorem dL_law_691 : decode cL_law 691 = .ok (.aload_n 0, 1) := by decide +kernel
theorem dL_law_692 : decode cL_law 692 = .ok (.iload_n 3, 1) := by decide +kernel
theorem dL_law_693 : decode cL_law 693 = .ok (.iconst 2, 1) := by decide +kernel
theorem dL_law_694 : decode cL_law 694 = .ok (.iadd, 1) := by decide +kernel
theorem dL_law_695 : decode cL_law 695 = .ok (.iaload, 1) := by decide +kernel
theorem dL_law_696 : decode cL_law 696 = .ok (.invokevirtual 79, 3) := by decide +kernel
theorem dL_law_699 : decode cL_law 699 = .ok (.if_icmp .eq 443, 3) := by decide +kernel
theorem dL_law_702 : decode cL_law 702 = .ok (.iconst 0, 1) := by decide +kernel
theorem dL_law_703 : decode cL_law 703 = .ok (.ireturn, 1) := by decide +kernel
theorem dL_law_704 : decode cL_law 704 = .ok (.aload_n 1, 1) := by decide +kernel
theorem dL_law_705 : decode cL_law 705 = .ok (.aload_n 0, 1) := by decide +kernel
theorem dL_law_706 : decode cL_law 706 = .ok (.iload_n 3, 1) := by decide +kernel
theorem dL_law_707 : decode cL_law 707 = .ok (.iconst 1, 1) := by decide +kernel
theorem dL_law_708 : decode cL_law 708 = .ok (.iadd, 1) := by decide +kernel
theorem dL_law_709 : decode cL_law 709 = .ok (.iaload, 1) := by decide +kernel
theorem dL_law_710 : decode cL_law 710 = .ok (.aload_n 0, 1) := by decide +kernel
theorem dL_law_711 : decode cL_law 711 = .ok (.iload_n 3, 1) := by decide +kernel
theorem dL_law_712 : decode cL_law 712 = .ok (.iconst 2, 1) := by decide +kernel
theorem dL_law_713 : decode cL_law 713 = .ok (.iadd, 1) := by decide +kernel
theorem dL_law_714 : decode cL_law 714 = .ok (.iaload, 1) := by decide +kernel
theorem dL_law_715 : decode cL_law 715 = .ok (.aload_n 0, 1) := by decide +kernel
theorem dL_law_716 : decode cL_law 716 = .ok (.iload_n 3, 1) := by decide +kernel
theorem dL_law_717 : decode cL_law 717 = .ok (.iconst 3, 1) := by decide +kernel
theorem dL_law_718 : decode cL_law 718 = .ok (.iadd, 1) := by decide +kernel
theorem dL_law_719 : decode cL_law 719 = .ok (.iaload, 1) := by decide +kernel
theorem dL_law_720 : decode cL_law 720 = .ok (.invokevirtual 80, 3) := by decide +kernel
theorem dL_law_723 : decode cL_law 723 = .ok (.aload_n 2, 1) := by decide +kernel
theorem dL_law_724 : decode cL_law 724 = .ok (.aload_n 0, 1) := by decide +kernel
theorem dL_law_725 : decode cL_law 725 = .ok (.iload_n 3, 1) := by decide +kernel
theorem dL_law_726 : decode cL_law 726 = .ok (.iconst 1, 1) := by decide +kernel
theorem dL_law_727 : decode cL_law 727 = .ok (.iadd, 1) := by decide +kernel
theorem dL_law_728 : decode cL_law 728 = .ok (.iaload, 1) := by decide +kernel
theorem dL_law_729 : decode cL_law 729 = .ok (.aload_n 0, 1) := by decide +kernel
theorem dL_law_730 : decode cL_law 730 = .ok (.iload_n 3, 1) := by decide +kernel
theorem dL_law_731 : decode cL_law 731 = .ok (.iconst 2, 1) := by decide +kernel
theorem dL_law_732 : decode cL_law 732 = .ok (.iadd, 1) := by decide +kernel
theorem dL_law_733 : decode cL_law 733 = .ok (.iaload, 1) := by decide +kernel
theorem dL_law_734 : decode cL_law 734 = .ok (.aload_n 0, 1) := by decide +kernel
theorem dL_law_735 : decode cL_law 735 = .ok (.iload_n 3, 1) := by decide +kernel
theorem dL_law_736 : decode cL_law 736 = .ok (.iconst 3, 1) := by decide +kernel
theorem dL_law_737 : decode cL_law 737 = .ok (.iadd, 1) := by decide +kernel
theorem dL_law_738 : decode cL_law 738 = .ok (.iaload, 1) := by decide +kernel
theorem dL_law_739 : decode cL_law 739 = .ok (.invokevirtual 83, 3) := by decide +kernel
theorem dL_law_742 : decode cL_law 742 = .ok (.if_icmp .eq 400, 3) := by decide +kernel
theorem dL_law_745 : decode cL_law 745 = .ok (.iconst 0, 1) := by decide +kernel
theorem dL_law_746 : decode cL_law 746 = .ok (.ireturn, 1) := by decide +kernel
theorem dL_law_747 : decode cL_law 747 = .ok (.aload_n 1, 1) := by decide +kernel
theorem dL_law_748 : decode cL_law 748 = .ok (.aload_n 0, 1) := by decide +kernel
theorem dL_law_749 : decode cL_law 749 = .ok (.iload_n 3, 1) := by decide +kernel
theorem dL_law_750 : decode cL_law 750 = .ok (.iconst 1, 1) := by decide +kernel
theorem dL_law_751 : decode cL_law 751 = .ok (.iadd, 1) := by decide +kernel
theorem dL_law_752 : decode cL_law 752 = .ok (.iaload, 1) := by decide +kernel
theorem dL_law_753 : decode cL_law 753 = .ok (.invokevirtual 84, 3) := by decide +kernel
theorem dL_law_756 : decode cL_law 756 = .ok (.aload_n 2, 1) := by decide +kernel
theorem dL_law_757 : decode cL_law 757 = .ok (.aload_n 0, 1) := by decide +kernel
theorem dL_law_758 : decode cL_law 758 = .ok (.iload_n 3, 1) := by decide +kernel
theorem dL_law_759 : decode cL_law 759 = .ok (.iconst 1, 1) := by decide +kernel
theorem dL_law_760 : decode cL_law 760 = .ok (.iadd, 1) := by decide +kernel
theorem dL_law_761 : decode cL_law 761 = .ok (.iaload, 1) := by decide +kernel
theorem dL_law_762 : decode cL_law 762 = .ok (.invokevirtual 87, 3) := by decide +kernel
theorem dL_law_765 : decode cL_law 765 = .ok (.if_icmp .eq 377, 3) := by decide +kernel
theorem dL_law_768 : decode cL_law 768 = .ok (.iconst 0, 1) := by decide +kernel
theorem dL_law_769 : decode cL_law 769 = .ok (.ireturn, 1) := by decide +kernel
theorem dL_law_770 : decode cL_law 770 = .ok (.aload_n 1, 1) := by decide +kernel
theorem dL_law_771 : decode cL_law 771 = .ok (.aload_n 0, 1) := by decide +kernel
theorem dL_law_772 : decode cL_law 772 = .ok (.iload_n 3, 1) := by decide +kernel
theorem dL_law_773 : decode cL_law 773 = .ok (.iconst 1, 1) := by decide +kernel
theorem dL_law_774 : decode cL_law 774 = .ok (.iadd, 1) := by decide +kernel
theorem dL_law_775 : decode cL_law 775 = .ok (.iaload, 1) := by decide +kernel
theorem dL_law_776 : decode cL_law 776 = .ok (.aload_n 0, 1) := by decide +kernel
theorem dL_law_777 : decode cL_law 777 = .ok (.iload_n 3, 1) := by decide +kernel
theorem dL_law_778 : decode cL_law 778 = .ok (.iconst 2, 1) := by decide +kernel
theorem dL_law_779 : decode cL_law 779 = .ok (.iadd, 1) := by decide +kernel
theorem dL_law_780 : decode cL_law 780 = .ok (.iaload, 1) := by decide +kernel
theorem dL_law_781 : decode cL_law 781 = .ok (.aload_n 0, 1) := by decide +kernel
theorem dL_law_782 : decode cL_law 782 = .ok (.iload_n 3, 1) := by decide +kernel
theorem dL_law_783 : decode cL_law 783 = .ok (.iconst 3, 1) := by decide +kernel
theorem dL_law_784 : decode cL_law 784 = .ok (.iadd, 1) := by decide +kernel
theorem dL_law_785 : decode cL_law 785 = .ok (.iaload, 1) := by decide +kernel
theorem dL_law_786 : decode cL_law 786 = .ok (.invokevirtual 88, 3) := by decide +kernel
theorem dL_law_789 : decode cL_law 789 = .ok (.aload_n 2, 1) := by decide +kernel
theorem dL_law_790 : decode cL_law 790 = .ok (.aload_n 0, 1) := by decide +kernel
theorem dL_law_791 : decode cL_law 791 = .ok (.iload_n 3, 1) := by decide +kernel
theorem dL_law_792 : decode cL_law 792 = .ok (.iconst 1, 1) := by decide +kernel
theorem dL_law_793 : decode cL_law 793 = .ok (.iadd, 1) := by decide +kernel
theorem dL_law_794 : decode cL_law 794 = .ok (.iaload, 1) := by decide +kernel
theorem dL_law_795 : decode cL_law 795 = .ok (.aload_n 0, 1) := by decide +kernel
theorem dL_law_796 : decode cL_law 796 = .ok (.iload_n 3, 1) := by decide +kernel
theorem dL_law_797 : decode cL_law 797 = .ok (.iconst 2, 1) := by decide +kernel
theorem dL_law_798 : decode cL_law 798 = .ok (.iadd, 1) := by decide +kernel
theorem dL_law_799 : decode cL_law 799 = .ok (.iaload, 1) := by decide +kernel
theorem dL_law_800 : decode cL_law 800 = .ok (.aload_n 0, 1) := by decide +kernel
theorem dL_law_801 : decode cL_law 801 = .ok (.iload_n 3, 1) := by decide +kernel
theorem dL_law_802 : decode cL_law 802 = .ok (.iconst 3, 1) := by decide +kernel
theorem dL_law_803 : decode cL_law 803 = .ok (.iadd, 1) := by decide +kernel
theorem dL_law_804 : decode cL_law 804 = .ok (.iaload, 1) := by decide +kernel
theorem dL_law_805 : decode cL_law 805 = .ok (.invokevirtual 91, 3) := by decide +kernel
theorem dL_law_808 : decode cL_law 808 = .ok (.if_icmp .eq 334, 3) := by decide +kernel
theorem dL_law_811 : decode cL_law 811 = .ok (.iconst 0, 1) := by decide +kernel
theorem dL_law_812 : decode cL_law 812 = .ok (.ireturn, 1) := by decide +kernel
theorem dL_law_813 : decode cL_law 813 = .ok (.aload_n 1, 1) := by decide +kernel
theorem dL_law_814 : decode cL_law 814 = .ok (.aload_n 0, 1) := by decide +kernel
theorem dL_law_815 : decode cL_law 815 = .ok (.iload_n 3, 1) := by decide +kernel
theorem dL_law_816 : decode cL_law 816 = .ok (.iconst 1, 1) := by decide +kernel
theorem dL_law_817 : decode cL_law 817 = .ok (.iadd, 1) := by decide +kernel
theorem dL_law_818 : decode cL_law 818 = .ok (.iaload, 1) := by decide +kernel
theorem dL_law_819 : decode cL_law 819 = .ok (.aload_n 0, 1) := by decide +kernel
theorem dL_law_820 : decode cL_law 820 = .ok (.iload_n 3, 1) := by decide +kernel
theorem dL_law_821 : decode cL_law 821 = .ok (.iconst 2, 1) := by decide +kernel
theorem dL_law_822 : decode cL_law 822 = .ok (.iadd, 1) := by decide +kernel
theorem dL_law_823 : decode cL_law 823 = .ok (.iaload, 1) := by decide +kernel
theorem dL_law_824 : decode cL_law 824 = .ok (.invokevirtual 92, 3) := by decide +kernel
theorem dL_law_827 : decode cL_law 827 = .ok (.aload_n 2, 1) := by decide +kernel
theorem dL_law_828 : decode cL_law 828 = .ok (.aload_n 0, 1) := by decide +kernel
theorem dL_law_829 : decode cL_law 829 = .ok (.iload_n 3, 1) := by decide +kernel
theorem dL_law_830 : decode cL_law 830 = .ok (.iconst 1, 1) := by decide +kernel
theorem dL_law_831 : decode cL_law 831 = .ok (.iadd, 1) := by decide +kernel
theorem dL_law_832 : decode cL_law 832 = .ok (.iaload, 1) := by decide +kernel
theorem dL_law_833 : decode cL_law 833 = .ok (.aload_n 0, 1) := by decide +kernel
theorem dL_law_834 : decode cL_law 834 = .ok (.iload_n 3, 1) := by decide +kernel
theorem dL_law_835 : decode cL_law 835 = .ok (.iconst 2, 1) := by decide +kernel
theorem dL_law_836 : decode cL_law 836 = .ok (.iadd, 1) := by decide +kernel
theorem dL_law_837 : decode cL_law 837 = .ok (.iaload, 1) := by decide +kernel
theorem dL_law_838 : decode cL_law 838 = .ok (.invokevirtual 95, 3) := by decide +kernel
theorem dL_law_841 : decode cL_law 841 = .ok (.if_icmp .eq 301, 3) := by decide +kernel
theorem dL_law_844 : decode cL_law 844 = .ok (.iconst 0, 1) := by decide +kernel
theorem dL_law_845 : decode cL_law 845 = .ok (.ireturn, 1) := by decide +kernel
theorem dL_law_846 : decode cL_law 846 = .ok (.aload_n 1, 1) := by decide +kernel
theorem dL_law_847 : decode cL_law 847 = .ok (.aload_n 0, 1) := by decide +kernel
theorem dL_law_848 : decode cL_law 848 = .ok (.iload_n 3, 1) := by decide +kernel
theorem dL_law_849 : decode cL_law 849 = .ok (.iconst 1, 1) := by decide +kernel
theorem dL_law_850 : decode cL_law 850 = .ok (.iadd, 1) := by decide +kernel
theorem dL_law_851 : decode cL_law 851 = .ok (.iaload, 1) := by decide +kernel
theorem dL_law_852 : decode cL_law 852 = .ok (.aload_n 0, 1) := by decide +kernel
theorem dL_law_853 : decode cL_law 853 = .ok (.iload_n 3, 1) := by decide +kernel
theorem dL_law_854 : decode cL_law 854 = .ok (.iconst 2, 1) := by decide +kernel
theorem dL_law_855 : decode cL_law 855 = .ok (.iadd, 1) := by decide +kernel
theorem dL_law_856 : decode cL_law 856 = .ok (.iaload, 1) := by decide +kernel
theorem dL_law_857 : decode cL_law 857 = .ok (.invokevirtual 96, 3) := by decide +kernel
theorem dL_law_860 : decode cL_law 860 = .ok (.aload_n 2, 1) := by decide +kernel
theorem dL_law_861 : decode cL_law 861 = .ok (.aload_n 0, 1) := by decide +kernel
theorem dL_law_862 : decode cL_law 862 = .ok (.iload_n 3, 1) := by decide +kernel
theorem dL_law_863 : decode cL_law 863 = .ok (.iconst 1, 1) := by decide +kernel
theorem dL_law_864 : decode cL_law 864 = .ok (.iadd, 1) := by decide +kernel
theorem dL_law_865 : decode cL_law 865 = .ok (.iaload, 1) := by decide +kernel
theorem dL_law_866 : decode cL_law 866 = .ok (.aload_n 0, 1) := by decide +kernel
theorem dL_law_867 : decode cL_law 867 = .ok (.iload_n 3, 1) := by decide +kernel
theorem dL_law_868 : decode cL_law 868 = .ok (.iconst 2, 1) := by decide +kernel
theorem dL_law_869 : decode cL_law 869 = .ok (.iadd, 1) := by decide +kernel
theorem dL_law_870 : decode cL_law 870 = .ok (.iaload, 1) := by decide +kernel
theorem dL_law_871 : decode cL_law 871 = .ok (.invokevirtual 99, 3) := by decide +kernel
theorem dL_law_874 : decode cL_law 874 = .ok (.if_icmp .eq 268, 3) := by decide +kernel
theorem dL_law_877 : decode cL_law 877 = .ok (.iconst 0, 1) := by decide +kernel
theorem dL_law_878 : decode cL_law 878 = .ok (.ireturn, 1) := by decide +kernel
theorem dL_law_879 : decode cL_law 879 = .ok (.aload_n 1, 1) := by decide +kernel
theorem dL_law_880 : decode cL_law 880 = .ok (.aload_n 0, 1) := by decide +kernel
theorem dL_law_881 : decode cL_law 881 = .ok (.iload_n 3, 1) := by decide +kernel
theorem dL_law_882 : decode cL_law 882 = .ok (.iconst 1, 1) := by decide +kernel
theorem dL_law_883 : decode cL_law 883 = .ok (.iadd, 1) := by decide +kernel
theorem dL_law_884 : decode cL_law 884 = .ok (.iaload, 1) := by decide +kernel
theorem dL_law_885 : decode cL_law 885 = .ok (.invokevirtual 100, 3) := by decide +kernel
theorem dL_law_888 : decode cL_law 888 = .ok (.aload_n 2, 1) := by decide +kernel
theorem dL_law_889 : decode cL_law 889 = .ok (.aload_n 0, 1) := by decide +kernel
theorem dL_law_890 : decode cL_law 890 = .ok (.iload_n 3, 1) := by decide +kernel
theorem dL_law_891 : decode cL_law 891 = .ok (.iconst 1, 1) := by decide +kernel
theorem dL_law_892 : decode cL_law 892 = .ok (.iadd, 1) := by decide +kernel
theorem dL_law_893 : decode cL_law 893 = .ok (.iaload, 1) := by decide +kernel
theorem dL_law_894 : decode cL_law 894 = .ok (.invokevirtual 103, 3) := by decide +kernel
theorem dL_law_897 : decode cL_law 897 = .ok (.if_icmp .eq 245, 3) := by decide +kernel
theorem dL_law_900 : decode cL_law 900 = .ok (.iconst 0, 1) := by decide +kernel
theorem dL_law_901 : decode cL_law 901 = .ok (.ireturn, 1) := by decide +kernel
theorem dL_law_902 : decode cL_law 902 = .ok (.aload_n 1, 1) := by decide +kernel
theorem dL_law_903 : decode cL_law 903 = .ok (.aload_n 0, 1) := by decide +kernel
theorem dL_law_904 : decode cL_law 904 = .ok (.iload_n 3, 1) := by decide +kernel
theorem dL_law_905 : decode cL_law 905 = .ok (.iconst 1, 1) := by decide +kernel
theorem dL_law_906 : decode cL_law 906 = .ok (.iadd, 1) := by decide +kernel
theorem dL_law_907 : decode cL_law 907 = .ok (.iaload, 1) := by decide +kernel
theorem dL_law_908 : decode cL_law 908 = .ok (.aload_n 0, 1) := by decide +kernel
theorem dL_law_909 : decode cL_law 909 = .ok (.iload_n 3, 1) := by decide +kernel
theorem dL_law_910 : decode cL_law 910 = .ok (.iconst 2, 1) := by decide +kernel
theorem dL_law_911 : decode cL_law 911 = .ok (.iadd, 1) := by decide +kernel
theorem dL_law_912 : decode cL_law 912 = .ok (.iaload, 1) := by decide +kernel
theorem dL_law_913 : decode cL_law 913 = .ok (.invokevirtual 104, 3) := by decide +kernel
theorem dL_law_916 : decode cL_law 916 = .ok (.aload_n 2, 1) := by decide +kernel
theorem dL_law_917 : decode cL_law 917 = .ok (.aload_n 0, 1) := by decide +kernel
theorem dL_law_918 : decode cL_law 918 = .ok (.iload_n 3, 1) := by decide +kernel
theorem dL_law_919 : decode cL_law 919 = .ok (.iconst 1, 1) := by decide +kernel
theorem dL_law_920 : decode cL_law 920 = .ok (.iadd, 1) := by decide +kernel
theorem dL_law_921 : decode cL_law 921 = .ok (.iaload, 1) := by decide +kernel
theorem dL_law_922 : decode cL_law 922 = .ok (.aload_n 0, 1) := by decide +kernel
theorem dL_law_923 : decode cL_law 923 = .ok (.iload_n 3, 1) := by decide +kernel
theorem dL_law_924 : decode cL_law 924 = .ok (.iconst 2, 1) := by decide +kernel
theorem dL_law_925 : decode cL_law 925 = .ok (.iadd, 1) := by decide +kernel
theorem dL_law_926 : decode cL_law 926 = .ok (.iaload, 1) := by decide +kernel
theorem dL_law_927 : decode cL_law 927 = .ok (.invokevirtual 107, 3) := by decide +kernel
theorem dL_law_930 : decode cL_law 930 = .ok (.if_icmp .eq 212, 3) := by decide +kernel
theorem dL_law_933 : decode cL_law 933 = .ok (.iconst 0, 1) := by decide +kernel
theorem dL_law_934 : decode cL_law 934 = .ok (.ireturn, 1) := by decide +kernel
theorem dL_law_935 : decode cL_law 935 = .ok (.aload_n 1, 1) := by decide +kernel
theorem dL_law_936 : decode cL_law 936 = .ok (.aload_n 0, 1) := by decide +kernel
theorem dL_law_937 : decode cL_law 937 = .ok (.iload_n 3, 1) := by decide +kernel
theorem dL_law_938 : decode cL_law 938 = .ok (.iconst 1, 1) := by decide +kernel
theorem dL_law_939 : decode cL_law 939 = .ok (.iadd, 1) := by decide +kernel
theorem dL_law_940 : decode cL_law 940 = .ok (.iaload, 1) := by decide +kernel
theorem dL_law_941 : decode cL_law 941 = .ok (.invokevirtual 108, 3) := by decide +kernel
theorem dL_law_944 : decode cL_law 944 = .ok (.aload_n 2, 1) := by decide +kernel
theorem dL_law_945 : decode cL_law 945 = .ok (.aload_n 0, 1) := by decide +kernel
theorem dL_law_946 : decode cL_law 946 = .ok (.iload_n 3, 1) := by decide +kernel
theorem dL_law_947 : decode cL_law 947 = .ok (.iconst 1, 1) := by decide +kernel
theorem dL_law_948 : decode cL_law 948 = .ok (.iadd, 1) := by decide +kernel
theorem dL_law_949 : decode cL_law 949 = .ok (.iaload, 1) := by decide +kernel
theorem dL_law_950 : decode cL_law 950 = .ok (.invokevirtual 111, 3) := by decide +kernel
theorem dL_law_953 : decode cL_law 953 = .ok (.if_icmp .eq 189, 3) := by decide +kernel
theorem dL_law_956 : decode cL_law 956 = .ok (.iconst 0, 1) := by decide +kernel
theorem dL_law_957 : decode cL_law 957 = .ok (.ireturn, 1) := by decide +kernel
theorem dL_law_958 : decode cL_law 958 = .ok (.aload_n 1, 1) := by decide +kernel
theorem dL_law_959 : decode cL_law 959 = .ok (.aload_n 0, 1) := by decide +kernel
theorem dL_law_960 : decode cL_law 960 = .ok (.iload_n 3, 1) := by decide +kernel
theorem dL_law_961 : decode cL_law 961 = .ok (.iconst 1, 1) := by decide +kernel
theorem dL_law_962 : decode cL_law 962 = .ok (.iadd, 1) := by decide +kernel
theorem dL_law_963 : decode cL_law 963 = .ok (.iaload, 1) := by decide +kernel
theorem dL_law_964 : decode cL_law 964 = .ok (.aload_n 0, 1) := by decide +kernel
theorem dL_law_965 : decode cL_law 965 = .ok (.iload_n 3, 1) := by decide +kernel
theorem dL_law_966 : decode cL_law 966 = .ok (.iconst 2, 1) := by decide +kernel
theorem dL_law_967 : decode cL_law 967 = .ok (.iadd, 1) := by decide +kernel
theorem dL_law_968 : decode cL_law 968 = .ok (.iaload, 1) := by decide +kernel
theorem dL_law_969 : decode cL_law 969 = .ok (.invokevirtual 112, 3) := by decide +kernel
theorem dL_law_972 : decode cL_law 972 = .ok (.aload_n 2, 1) := by decide +kernel
theorem dL_law_973 : decode cL_law 973 = .ok (.aload_n 0, 1) := by decide +kernel
theorem dL_law_974 : decode cL_law 974 = .ok (.iload_n 3, 1) := by decide +kernel
theorem dL_law_975 : decode cL_law 975 = .ok (.iconst 1, 1) := by decide +kernel
theorem dL_law_976 : decode cL_law 976 = .ok (.iadd, 1) := by decide +kernel
theorem dL_law_977 : decode cL_law 977 = .ok (.iaload, 1) := by decide +kernel
theorem dL_law_978 : decode cL_law 978 = .ok (.aload_n 0, 1) := by decide +kernel
theorem dL_law_979 : decode cL_law 979 = .ok (.iload_n 3, 1) := by decide +kernel
theorem dL_law_980 : decode cL_law 980 = .ok (.iconst 2, 1) := by decide +kernel
theorem dL_law_981 : decode cL_law 981 = .ok (.iadd, 1) := by decide +kernel
theorem dL_law_982 : decode cL_law 982 = .ok (.iaload, 1) := by decide +kernel
theorem dL_law_983 : decode cL_law 983 = .ok (.invokevirtual 115, 3) := by decide +kernel
theorem dL_law_986 : decode cL_law 986 = .ok (.if_icmp .eq 156, 3) := by decide +kernel
theorem dL_law_989 : decode cL_law 989 = .ok (.iconst 0, 1) := by decide +kernel
theorem dL_law_990 : decode cL_law 990 = .ok (.ireturn, 1) := by decide +kernel
theorem dL_law_991 : decode cL_law 991 = .ok (.aload_n 1, 1) := by decide +kernel
theorem dL_law_992 : decode cL_law 992 = .ok (.aload_n 0, 1) := by decide +kernel
theorem dL_law_993 : decode cL_law 993 = .ok (.iload_n 3, 1) := by decide +kernel
theorem dL_law_994 : decode cL_law 994 = .ok (.iconst 1, 1) := by decide +kernel
theorem dL_law_995 : decode cL_law 995 = .ok (.iadd, 1) := by decide +kernel
theorem dL_law_996 : decode cL_law 996 = .ok (.iaload, 1) := by decide +kernel
theorem dL_law_997 : decode cL_law 997 = .ok (.invokevirtual 116, 3) := by decide +kernel
theorem dL_law_1000 : decode cL_law 1000 = .ok (.aload_n 2, 1) := by decide +kernel
theorem dL_law_1001 : decode cL_law 1001 = .ok (.aload_n 0, 1) := by decide +kernel
theorem dL_law_1002 : decode cL_law 1002 = .ok (.iload_n 3, 1) := by decide +kernel
theorem dL_law_1003 : decode cL_law 1003 = .ok (.iconst 1, 1) := by decide +kernel
theorem dL_law_1004 : decode cL_law 1004 = .ok (.iadd, 1) := by decide +kernel
theorem dL_law_1005 : decode cL_law 1005 = .ok (.iaload, 1) := by decide +kernel
theorem dL_law_1006 : decode cL_law 1006 = .ok (.invokevirtual 119, 3) := by decide +kernel
theorem dL_law_1009 : decode cL_law 1009 = .ok (.if_icmp .eq 133, 3) := by decide +kernel
theorem dL_law_1012 : decode cL_law 1012 = .ok (.iconst 0, 1) := by decide +kernel
theorem dL_law_1013 : decode cL_law 1013 = .ok (.ireturn, 1) := by decide +kernel
theorem dL_law_1014 : decode cL_law 1014 = .ok (.aload_n 1, 1) := by decide +kernel
theorem dL_law_1015 : decode cL_law 1015 = .ok (.aload_n 0, 1) := by decide +kernel
theorem dL_law_1016 : decode cL_law 1016 = .ok (.iload_n 3, 1) := by decide +kernel
theorem dL_law_1017 : decode cL_law 1017 = .ok (.iconst 1, 1) := by decide +kernel
theorem dL_law_1018 : decode cL_law 1018 = .ok (.iadd, 1) := by decide +kernel
theorem dL_law_1019 : decode cL_law 1019 = .ok (.iaload, 1) := by decide +kernel
theorem dL_law_1020 : decode cL_law 1020 = .ok (.aload_n 0, 1) := by decide +kernel
theorem dL_law_1021 : decode cL_law 1021 = .ok (.iload_n 3, 1) := by decide +kernel
theorem dL_law_1022 : decode cL_law 1022 = .ok (.iconst 2, 1) := by decide +kernel
theorem dL_law_1023 : decode cL_law 1023 = .ok (.iadd, 1) := by decide +kernel
theorem dL_law_1024 : decode cL_law 1024 = .ok (.iaload, 1) := by decide +kernel
theorem dL_law_1025 : decode cL_law 1025 = .ok (.invokevirtual 120, 3) := by decide +kernel
theorem dL_law_1028 : decode cL_law 1028 = .ok (.aload_n 2, 1) := by decide +kernel
theorem dL_law_1029 : decode cL_law 1029 = .ok (.aload_n 0, 1) := by decide +kernel
theorem dL_law_1030 : decode cL_law 1030 = .ok (.iload_n 3, 1) := by decide +kernel
theorem dL_law_1031 : decode cL_law 1031 = .ok (.iconst 1, 1) := by decide +kernel
theorem dL_law_1032 : decode cL_law 1032 = .ok (.iadd, 1) := by decide +kernel
theorem dL_law_1033 : decode cL_law 1033 = .ok (.iaload, 1) := by decide +kernel
theorem dL_law_1034 : decode cL_law 1034 = .ok (.aload_n 0, 1) := by decide +kernel
theorem dL_law_1035 : decode cL_law 1035 = .ok (.iload_n 3, 1) := by decide +kernel
theorem dL_law_1036 : decode cL_law 1036 = .ok (.iconst 2, 1) := by decide +kernel
theorem dL_law_1037 : decode cL_law 1037 = .ok (.iadd, 1) := by decide +kernel
theorem dL_law_1038 : decode cL_law 1038 = .ok (.iaload, 1) := by decide +kernel
theorem dL_law_1039 : decode cL_law 1039 = .ok (.invokevirtual 123, 3) := by decide +kernel
theorem dL_law_1042 : decode cL_law 1042 = .ok (.if_icmp .eq 100, 3) := by decide +kernel
theorem dL_law_1045 : decode cL_law 1045 = .ok (.iconst 0, 1) := by decide +kernel
theorem dL_law_1046 : decode cL_law 1046 = .ok (.ireturn, 1) := by decide +kernel
theorem dL_law_1047 : decode cL_law 1047 = .ok (.aload_n 1, 1) := by decide +kernel
theorem dL_law_1048 : decode cL_law 1048 = .ok (.invokevirtual 124, 3) := by decide +kernel
theorem dL_law_1051 : decode cL_law 1051 = .ok (.aload_n 2, 1) := by decide +kernel
theorem dL_law_1052 : decode cL_law 1052 = .ok (.invokevirtual 128, 3) := by decide +kernel
theorem dL_law_1055 : decode cL_law 1055 = .ok (.if_icmp .eq 87, 3) := by decide +kernel
theorem dL_law_1058 : decode cL_law 1058 = .ok (.iconst 0, 1) := by decide +kernel
theorem dL_law_1059 : decode cL_law 1059 = .ok (.ireturn, 1) := by decide +kernel
theorem dL_law_1060 : decode cL_law 1060 = .ok (.aload_n 1, 1) := by decide +kernel
theorem dL_law_1061 : decode cL_law 1061 = .ok (.aload_n 0, 1) := by decide +kernel
theorem dL_law_1062 : decode cL_law 1062 = .ok (.iload_n 3, 1) := by decide +kernel
theorem dL_law_1063 : decode cL_law 1063 = .ok (.iconst 1, 1) := by decide +kernel
theorem dL_law_1064 : decode cL_law 1064 = .ok (.iadd, 1) := by decide +kernel
theorem dL_law_1065 : decode cL_law 1065 = .ok (.iaload, 1) := by decide +kernel
theorem dL_law_1066 : decode cL_law 1066 = .ok (.invokevirtual 129, 3) := by decide +kernel
theorem dL_law_1069 : decode cL_law 1069 = .ok (.aload_n 2, 1) := by decide +kernel
theorem dL_law_1070 : decode cL_law 1070 = .ok (.aload_n 0, 1) := by decide +kernel
theorem dL_law_1071 : decode cL_law 1071 = .ok (.iload_n 3, 1) := by decide +kernel
theorem dL_law_1072 : decode cL_law 1072 = .ok (.iconst 1, 1) := by decide +kernel
theorem dL_law_1073 : decode cL_law 1073 = .ok (.iadd, 1) := by decide +kernel
theorem dL_law_1074 : decode cL_law 1074 = .ok (.iaload, 1) := by decide +kernel
theorem dL_law_1075 : decode cL_law 1075 = .ok (.invokevirtual 132, 3) := by decide +kernel
theorem dL_law_1078 : decode cL_law 1078 = .ok (.if_icmp .eq 64, 3) := by decide +kernel
theorem dL_law_1081 : decode cL_law 1081 = .ok (.iconst 0, 1) := by decide +kernel
theorem dL_law_1082 : decode cL_law 1082 = .ok (.ireturn, 1) := by decide +kernel
theorem dL_law_1083 : decode cL_law 1083 = .ok (.aload_n 1, 1) := by decide +kernel
theorem dL_law_1084 : decode cL_law 1084 = .ok (.invokevirtual 133, 3) := by decide +kernel
theorem dL_law_1087 : decode cL_law 1087 = .ok (.aload_n 2, 1) := by decide +kernel
theorem dL_law_1088 : decode cL_law 1088 = .ok (.invokevirtual 136, 3) := by decide +kernel
theorem dL_law_1091 : decode cL_law 1091 = .ok (.if_icmp .eq 51, 3) := by decide +kernel
theorem dL_law_1094 : decode cL_law 1094 = .ok (.iconst 0, 1) := by decide +kernel
theorem dL_law_1095 : decode cL_law 1095 = .ok (.ireturn, 1) := by decide +kernel
theorem dL_law_1096 : decode cL_law 1096 = .ok (.aload_n 1, 1) := by decide +kernel
theorem dL_law_1097 : decode cL_law 1097 = .ok (.aload_n 0, 1) := by decide +kernel
theorem dL_law_1098 : decode cL_law 1098 = .ok (.iload_n 3, 1) := by decide +kernel
theorem dL_law_1099 : decode cL_law 1099 = .ok (.iconst 1, 1) := by decide +kernel
theorem dL_law_1100 : decode cL_law 1100 = .ok (.iadd, 1) := by decide +kernel
theorem dL_law_1101 : decode cL_law 1101 = .ok (.iaload, 1) := by decide +kernel
theorem dL_law_1102 : decode cL_law 1102 = .ok (.invokevirtual 137, 3) := by decide +kernel
theorem dL_law_1105 : decode cL_law 1105 = .ok (.aload_n 2, 1) := by decide +kernel
theorem dL_law_1106 : decode cL_law 1106 = .ok (.aload_n 0, 1) := by decide +kernel
theorem dL_law_1107 : decode cL_law 1107 = .ok (.iload_n 3, 1) := by decide +kernel
theorem dL_law_1108 : decode cL_law 1108 = .ok (.iconst 1, 1) := by decide +kernel
theorem dL_law_1109 : decode cL_law 1109 = .ok (.iadd, 1) := by decide +kernel
theorem dL_law_1110 : decode cL_law 1110 = .ok (.iaload, 1) := by decide +kernel
theorem dL_law_1111 : decode cL_law 1111 = .ok (.invokevirtual 140, 3) := by decide +kernel
theorem dL_law_1114 : decode cL_law 1114 = .ok (.if_icmp .eq 28, 3) := by decide +kernel
theorem dL_law_1117 : decode cL_law 1117 = .ok (.iconst 0, 1) := by decide +kernel
theorem dL_law_1118 : decode cL_law 1118 = .ok (.ireturn, 1) := by decide +kernel
theorem dL_law_1119 : decode cL_law 1119 = .ok (.aload_n 1, 1) := by decide +kernel
theorem dL_law_1120 : decode cL_law 1120 = .ok (.aload_n 0, 1) := by decide +kernel
theorem dL_law_1121 : decode cL_law 1121 = .ok (.iload_n 3, 1) := by decide +kernel
theorem dL_law_1122 : decode cL_law 1122 = .ok (.iconst 1, 1) := by decide +kernel
theorem dL_law_1123 : decode cL_law 1123 = .ok (.iadd, 1) := by decide +kernel
theorem dL_law_1124 : decode cL_law 1124 = .ok (.iaload, 1) := by decide +kernel
theorem dL_law_1125 : decode cL_law 1125 = .ok (.invokevirtual 141, 3) := by decide +kernel
theorem dL_law_1128 : decode cL_law 1128 = .ok (.aload_n 2, 1) := by decide +kernel
theorem dL_law_1129 : decode cL_law 1129 = .ok (.aload_n 0, 1) := by decide +kernel
theorem dL_law_1130 : decode cL_law 1130 = .ok (.iload_n 3, 1) := by decide +kernel
theorem dL_law_1131 : decode cL_law 1131 = .ok (.iconst 1, 1) := by decide +kernel
theorem dL_law_1132 : decode cL_law 1132 = .ok (.iadd, 1) := by decide +kernel
theorem dL_law_1133 : decode cL_law 1133 = .ok (.iaload, 1) := by decide +kernel
theorem dL_law_1134 : decode cL_law 1134 = .ok (.invokevirtual 144, 3) := by decide +kernel
theorem dL_law_1137 : decode cL_law 1137 = .ok (.if_icmp .eq 5, 3) := by decide +kernel
theorem dL_law_1140 : decode cL_law 1140 = .ok (.iconst 0, 1) := by decide +kernel
theorem dL_law_1141 : decode cL_law 1141 = .ok (.ireturn, 1) := by decide +kernel
theorem dL_law_1142 : decode cL_law 1142 = .ok (.iinc 3 4, 3) := by decide +kernel
theorem dL_law_1145 : decode cL_law 1145 = .ok (.goto (-1127), 3) := by decide +kernel
theorem dL_law_1148 : decode cL_law 1148 = .ok (.iconst 1, 1) := by decide +kernel
theorem dL_law_1149 : decode cL_law 1149 = .ok (.ireturn, 1) := by decide +kernel
end
section
/-! ===== the words that every contract carries: all good ones of the tables ===== -/
def BIG : List Cond := lw_tbl.filter goodWord
theorem big_in {w : Cond} (i : Nat) (h : lw_tbl[i]? = some w) (g : goodWord w = true) : w ∈ BIG := List.mem_filter.mpr ⟨List.mem_of_getElem? h, g⟩
theorem big_good : ∀ w ∈ BIG, (w.onTables && w.keeps) = true ∨ ∃ ty, w = .arrayClass ty := fun w h => good_of_word (List.mem_filter.mp h).2
/-! ===== the abstract state: next address, the tag of each address, numbers and references by tag, address and place; the model's rows ===== -/
abbrev Sg : Type := Nat × (Nat → Nat) × (Nat → Nat → Nat → Int32) × (Nat → Nat → Nat → Option Nat) × (Nat → Nat → Int32)
def sN (σ : Sg) : Nat := σ.1
def sT (σ : Sg) (a : Nat) : Nat := σ.2.1 a
def sI (σ : Sg) (t a : Nat) : Nat → Int32 := σ.2.2.1 t a
def sR (σ : Sg) (t a : Nat) : Nat → Option Nat := σ.2.2.2.1 t a
def sG (σ : Sg) : Nat → Nat → Int32 := σ.2.2.2.2
def u3 {α : Type} (f : Nat → Nat → Nat → α) (t a k : Nat) (v : α) : Nat → Nat → Nat → α := fun t' a' k' => if t' = t ∧ a' = a ∧ k' = k then v else f t' a' k'
def u2 {α : Type} (f : Nat → Nat → α) (k j : Nat) (v : α) : Nat → Nat → α := fun k' j' => if k' = k ∧ j' = j then v else f k' j'
def wI (σ : Sg) (t a k : Nat) (v : Int32) : Sg := (σ.1, σ.2.1, u3 σ.2.2.1 t a k v, σ.2.2.2.1, σ.2.2.2.2)
def wR (σ : Sg) (t a k : Nat) (v : Option Nat) : Sg := (σ.1, σ.2.1, σ.2.2.1, u3 σ.2.2.2.1 t a k v, σ.2.2.2.2)
def wG (σ : Sg) (g : Nat → Nat → Int32) : Sg := (σ.1, σ.2.1, σ.2.2.1, σ.2.2.2.1, g)
def wN (σ : Sg) (t : Nat) : Sg := (σ.1 + 1, fun a => if a = σ.1 then t else σ.2.1 a, fun t' a k => if t' = t ∧ a = σ.1 then 0 else σ.2.2.1 t' a k, fun t' a k => if t' = t ∧ a = σ.1 then none else σ.2.2.2.1 t' a k, σ.2.2.2.2)
/-- a whole row of numbers anew -/
def wA (σ : Sg) (t a : Nat) (f : Nat → Int32) : Sg := (σ.1, σ.2.1, fun t' a' k' => if t' = t ∧ a' = a then f k' else σ.2.2.1 t' a' k', σ.2.2.2.1, σ.2.2.2.2)
theorem sI_wI (σ : Sg) (t a k : Nat) (v : Int32) (t' a' k' : Nat) : sI (wI σ t a k v) t' a' k' = if t' = t ∧ a' = a ∧ k' = k then v else sI σ t' a' k' := rfl
theorem sI_wR (σ : Sg) (t a k : Nat) (v : Option Nat) (t' a' k' : Nat) : sI (wR σ t a k v) t' a' k' = sI σ t' a' k' := rfl
theorem sI_wG (σ : Sg) (g : Nat → Nat → Int32) (t' a' k' : Nat) : sI (wG σ g) t' a' k' = sI σ t' a' k' := rfl
theorem sI_wN (σ : Sg) (t t' a' k' : Nat) : sI (wN σ t) t' a' k' = if t' = t ∧ a' = sN σ then 0 else sI σ t' a' k' := rfl
theorem sI_wA (σ : Sg) (t a : Nat) (f : Nat → Int32) (t' a' k' : Nat) : sI (wA σ t a f) t' a' k' = if t' = t ∧ a' = a then f k' else sI σ t' a' k' := rfl
theorem sR_wI (σ : Sg) (t a k : Nat) (v : Int32) (t' a' k' : Nat) : sR (wI σ t a k v) t' a' k' = sR σ t' a' k' := rfl
theorem sR_wR (σ : Sg) (t a k : Nat) (v : Option Nat) (t' a' k' : Nat) : sR (wR σ t a k v) t' a' k' = if t' = t ∧ a' = a ∧ k' = k then v else sR σ t' a' k' := rfl
theorem sR_wG (σ : Sg) (g : Nat → Nat → Int32) (t' a' k' : Nat) : sR (wG σ g) t' a' k' = sR σ t' a' k' := rfl
theorem sR_wN (σ : Sg) (t t' a' k' : Nat) : sR (wN σ t) t' a' k' = if t' = t ∧ a' = sN σ then none else sR σ t' a' k' := rfl
theorem sR_wA (σ : Sg) (t a : Nat) (f : Nat → Int32) (t' a' k' : Nat) : sR (wA σ t a f) t' a' k' = sR σ t' a' k' := rfl
theorem sT_wI (σ : Sg) (t a k : Nat) (v : Int32) (b : Nat) : sT (wI σ t a k v) b = sT σ b := rfl
theorem sT_wR (σ : Sg) (t a k : Nat) (v : Option Nat) (b : Nat) : sT (wR σ t a k v) b = sT σ b := rfl
theorem sT_wG (σ : Sg) (g : Nat → Nat → Int32) (b : Nat) : sT (wG σ g) b = sT σ b := rfl
theorem sT_wN (σ : Sg) (t b : Nat) : sT (wN σ t) b = if b = sN σ then t else sT σ b := rfl
theorem sT_wA (σ : Sg) (t a : Nat) (f : Nat → Int32) (b : Nat) : sT (wA σ t a f) b = sT σ b := rfl
theorem sN_wI (σ : Sg) (t a k : Nat) (v : Int32) : sN (wI σ t a k v) = sN σ := rfl
theorem sN_wR (σ : Sg) (t a k : Nat) (v : Option Nat) : sN (wR σ t a k v) = sN σ := rfl
theorem sN_wG (σ : Sg) (g : Nat → Nat → Int32) : sN (wG σ g) = sN σ := rfl
theorem sN_wN (σ : Sg) (t : Nat) : sN (wN σ t) = sN σ + 1 := rfl
theorem sN_wA (σ : Sg) (t a : Nat) (f : Nat → Int32) : sN (wA σ t a f) = sN σ := rfl
theorem sG_wI (σ : Sg) (t a k : Nat) (v : Int32) : sG (wI σ t a k v) = sG σ := rfl
theorem sG_wR (σ : Sg) (t a k : Nat) (v : Option Nat) : sG (wR σ t a k v) = sG σ := rfl
theorem sG_wG (σ : Sg) (g : Nat → Nat → Int32) : sG (wG σ g) = g := rfl
theorem sG_wN (σ : Sg) (t : Nat) : sG (wN σ t) = sG σ := rfl
theorem sG_wA (σ : Sg) (t a : Nat) (f : Nat → Int32) : sG (wA σ t a f) = sG σ := rfl
theorem wG_self (σ : Sg) : wG σ (sG σ) = σ := rfl
theorem wG_wG (σ : Sg) (g h : Nat → Nat → Int32) : wG (wG σ g) h = wG σ h := rfl
/-! ===== the classes by number; tags: an object of the class ci has the tag ci + 1 ===== -/
def cR : Nat → String
  | 0 => RX0 | 1 => RX1 | 2 => RX2 | 3 => RX3 | 4 => RX4 | 5 => RX5 | 6 => RX6 | 7 => RX7 | 8 => RX8 | 9 => RX9 | 10 => RX10 | _ => RX11
def cT : Nat → u_T
  | 0 => TX0 | 1 => TX1 | 2 => TX2 | 3 => TX3 | 4 => TX4 | 5 => TX5 | 6 => TX6 | 7 => TX7 | 8 => TX8 | 9 => TX9 | 10 => TX10 | _ => TX11
def cN : Nat → Nat
  | 0 => 7 | 1 => 7 | 2 => 6 | 3 => 2 | 4 => 1 | 5 => 10 | 6 => 4 | 7 => 3 | 8 => 3 | 9 => 4 | 10 => 19 | _ => 48
def cTy : Nat → Nat → FieldType
  | 0 => tyX0 | 1 => tyX1 | 2 => tyX2 | 3 => tyX3 | 4 => tyX4 | 5 => tyX5 | 6 => tyX6 | 7 => tyX7 | 8 => tyX8 | 9 => tyX9 | 10 => tyX10 | _ => tyX11
theorem cl_at : ∀ ci, ci < 12 → vwCl[ci]? = some (cR ci, cT ci, cN ci)
  | 0, _ => rfl | 1, _ => rfl | 2, _ => rfl | 3, _ => rfl | 4, _ => rfl | 5, _ => rfl | 6, _ => rfl | 7, _ => rfl | 8, _ => rfl | 9, _ => rfl | 10, _ => rfl | 11, _ => rfl
  | n + 12, h => absurd h (by omega)
theorem cl_nm : ∀ ci, ci < 12 → ∀ a, a < cN ci → ∀ b, b < cN ci → a ≠ b → (cT ci a).2.1 ≠ (cT ci b).2.1
  | 0, _ => nmX0 | 1, _ => nmX1 | 2, _ => nmX2 | 3, _ => nmX3 | 4, _ => nmX4 | 5, _ => nmX5 | 6, _ => nmX6 | 7, _ => nmX7 | 8, _ => nmX8 | 9, _ => nmX9 | 10, _ => nmX10 | 11, _ => nmX11
  | n + 12, h => absurd h (by omega)
theorem cl_ty : ∀ ci, ci < 12 → ∀ k, k < cN ci → parseFieldDescriptor (cT ci k).2.2.1 = some (cTy ci k)
  | 0, _ => tyX0_ok | 1, _ => tyX1_ok | 2, _ => tyX2_ok | 3, _ => tyX3_ok | 4, _ => tyX4_ok | 5, _ => tyX5_ok | 6, _ => tyX6_ok | 7, _ => tyX7_ok | 8, _ => tyX8_ok | 9, _ => tyX9_ok | 10, _ => tyX10_ok | 11, _ => tyX11_ok
  | n + 12, h => absurd h (by omega)
/-- is the field a reference? -/
def fRef (ci k : Nat) : Bool := match cTy ci k with
  | .int => false
  | .boolean => false
  | _ => true
/-- arrays: their kind of element by tag (0 int, 1 boolean, 2 Ship, 3 Call, 4 Look, 5 Treaty, 6 Trait), their length -/
def rA : Nat → Bool
  | 0 => false | 1 => false | 6 => false | 10 => false | 13 => false | 19 => false | 21 => false | 26 => false | 33 => false | 35 => false | 39 => false | 42 => false | 47 => false
  | k => decide (k < 48)
def rK : Nat → Nat
  | 18 => 1 | 31 => 1 | 36 => 1 | _ => 0
def rL : Nat → Nat
  | 2 => 16 | 3 => 16 | 4 => 16 | 5 => 48 | 7 => 60 | 8 => 60 | 9 => 60 | 11 => 12 | 12 => 12 | 14 => 50 | 15 => 50 | 16 => 50 | 17 => 50 | 18 => 50 | 20 => 60 | 22 => 6 | 23 => 6 | 24 => 60 | 25 => 24
  | 27 => 60 | 28 => 60 | 29 => 60 | 30 => 60 | 31 => 60 | 32 => 60 | 34 => 112 | 36 => 16 | 37 => 16 | 38 => 16 | 40 => 16 | 41 => 6 | 43 => 8 | 44 => 8 | 45 => 8 | 46 => 8 | _ => 0
def aK : Nat → Nat
  | 32 => 2 | 33 => 3 | 34 => 4 | 35 => 5 | 36 => 6
  | t => if 100 ≤ t then rK (t - 100) else 0
def aL : Nat → Nat
  | 20 => 10 | 21 => 7 | 22 => 60 | 23 => 10 | 24 => 4 | 25 => 16 | 26 => 6 | 27 => 8 | 28 => 8 | 29 => 8 | 30 => 8 | 31 => 8 | 32 => 16 | 33 => 50 | 34 => 60 | 35 => 6 | 36 => 3
  | t => if 100 ≤ t then rL (t - 100) else 0
def aTy : Nat → FieldType
  | 0 => .int | 1 => .boolean | 2 => .object RX5 | 3 => .object RX1 | 4 => .object RX2 | 5 => .object RX9 | _ => .object RX8
/-- the class of the elements of a row of references -/
def aC : Nat → Nat
  | 2 => 5 | 3 => 1 | 4 => 2 | 5 => 9 | _ => 8
/-! ===== what is fixed through a run: launch, tables' numbers, array classes, the model's addresses, the static arrays, whether there is a model, the first heap ===== -/
abbrev VE : Type := Launch × va_G × (Nat → ClassId) × (Nat → Nat) × (Nat → Nat) × Bool × Heap
abbrev eL (E : VE) : Launch := E.1
abbrev eD (E : VE) : va_G := E.2.1
abbrev eA (E : VE) : Nat → ClassId := E.2.2.1
abbrev eQ (E : VE) : Nat → Nat := E.2.2.2.1
abbrev eS (E : VE) : Nat → Nat := E.2.2.2.2.1
abbrev eF (E : VE) : Bool := E.2.2.2.2.2.1
abbrev eH (E : VE) : Heap := E.2.2.2.2.2.2
def eTys (E : VE) : List (ClassId × FieldType) := [(eA E 0, .int), (eA E 1, .boolean), (eA E 2, .object RX5), (eA E 3, .object RX1), (eA E 4, .object RX2), (eA E 5, .object RX9), (eA E 6, .object RX8)]
theorem eTys_at (E : VE) : ∀ k, k < 7 → (eTys E)[k]? = some (eA E k, aTy k)
  | 0, _ => rfl | 1, _ => rfl | 2, _ => rfl | 3, _ => rfl | 4, _ => rfl | 5, _ => rfl | 6, _ => rfl
  | n + 7, h => absurd h (by omega)
def fv (σ : Sg) (t a k : Nat) : Value := if fRef (t - 1) k = true then va_rf (sR σ t a k) else .int (sI σ t a k)
def cOK (E : VE) (σ : Sg) (a t : Nat) (H : Heap) : Prop :=
  if t < 13 then t_OB a ((eD E).1 (t - 1)) (cN (t - 1)) ((eD E).2 (t - 1)) H (fv σ t a)
  else if aK t < 2 then H[a]? = some (vp_cell (eA E (aK t)) (aL t, .inl (sI σ t a)))
  else H[a]? = some (vp_cell (eA E (aK t)) (aL t, .inr (.inr (.inr (.inr (sR σ t a))))))
def rU (k : Nat) : Prop := k = 48 ∨ rA k = true
def rV (q : Nat → Nat) (G : Nat → Nat → Int32) (k : Nat) : Value := if rA k = true then .ref (q k) else .int (G k 0)
def RefAt (E : VE) (G : Nat → Nat → Int32) (H : Heap) : Prop :=
  (∀ k, rU k → (eH E).size ≤ eQ E k) ∧ (∀ j k, rU j → rU k → eQ E j = eQ E k → j = k) ∧ t_OB (eQ E 48) ((eD E).1 11) 48 ((eD E).2 11) H (rV (eQ E) G) ∧ ∀ k, rA k = true → H[eQ E k]? = some (vp_cell (eA E (rK k)) (rL k, .inl (G k)))
def AH (E : VE) (σ : Sg) (H : Heap) : Prop :=
  H.size = sN σ ∧ (eH E).size ≤ sN σ ∧ (∀ a, a < (eH E).size → H[a]? = (eH E)[a]?) ∧ (∀ a, sT σ a ≠ 0 → (eH E).size ≤ a ∧ cOK E σ a (sT σ a) H) ∧ (eF E = true → RefAt E (sG σ) H ∧ ∀ k, rU k → sT σ (eQ E k) = 0)
/-! ===== what the tables say, kept through a run ===== -/
def NW : List Cond := lw_tbl.filter (fun w => match w with | .methodLinkNest .. => true | _ => false)
def above : Nat → Int32
  | 0 => -1 | 1 => 0 | 2 => 1 | _ => 0
def lookHours : Nat → Int32
  | 0 => 3 | 1 => 5 | 2 => 7 | _ => 4
def KK (E : VE) (U : State) : Prop :=
  va_K (eD E) vwCl (eTys E) U ∧ (∀ w ∈ NW, va_Nw w U) ∧ (∀ k, 2 ≤ k → k < 7 → va_AO (cR (aC k)) U) ∧
  (va_Z RX10 "ABOVE" "[I" (.ref (eS E 0)) (fun a => (eH E).size ≤ a) U (eH E) ∧ va_T .int (eS E 0) 4 (fun j => .int (above j)) (fun a => (eH E).size ≤ a) U (eH E)) ∧
  (va_Z RX10 "LOOK_HOURS" "[I" (.ref (eS E 1)) (fun a => (eH E).size ≤ a) U (eH E) ∧ va_T .int (eS E 1) 4 (fun j => .int (lookHours j)) (fun a => (eH E).size ≤ a) U (eH E))
theorem NW_is {w : Cond} (h : w ∈ NW) : ∃ a i x b, w = .methodLinkNest a i x b := by
  have h2 := (List.mem_filter.mp h).2
  cases w <;> first | exact ⟨_, _, _, _, rfl⟩ | cases h2
theorem KK.warm {E : VE} {s U : State} (hW : s.WarmedH U.vm) (h : KK E s) : KK E U := by
  obtain ⟨h1, h2, h3, ⟨h4, h5⟩, h6, h7⟩ := h
  refine ⟨h1.moved hW.alike, fun w hw => ?_, fun k a b => (h3 k a b).moved hW.alike, ⟨h4.moved hW.alike, h5.moved hW.alike⟩, h6.moved hW.alike, h7.moved hW.alike⟩
  obtain ⟨a, i, x, b, rfl⟩ := NW_is hw
  exact va_Nw.warmM hW (h2 _ hw)
theorem KK.same {E : VE} {u U : State} (hv : u.vm = U.vm) (h : KK E u) : KK E U := by
  obtain ⟨h1, h2, h3, ⟨h4, h5⟩, h6, h7⟩ := h
  have hA : u.vm.Alike U.vm := hv ▸ Vm.Alike.refl _
  refine ⟨h1.moved hA, fun w hw => ?_, fun k a b => (h3 k a b).moved hA, ⟨h4.moved hA, h5.moved hA⟩, h6.moved hA, h7.moved hA⟩
  obtain ⟨a, i, x, b, rfl⟩ := NW_is hw
  exact va_Nw.same rfl hv (h2 _ hw)
/-! ===== locals ===== -/
def lget : List (Option Value) → Nat → Option Value
  | [], _ => none
  | x :: _, 0 => x
  | _ :: l, n + 1 => lget l n
def LV (arr : Array Slot) (nL : Nat) (ls : List (Option Value)) : Prop := arr.size = nL ∧ lv_wf arr ∧ ∀ i v, lget ls i = some v → arr[i]? = some (.val v) ∧ v.category = 1
def lset : List (Option Value) → Nat → Value → List (Option Value)
  | [], _, _ => []
  | _ :: l, 0, v => some v :: l
  | x :: l, n + 1, v => x :: lset l n v
theorem lget_lset : ∀ (ls : List (Option Value)) (i j : Nat) (v w : Value), lget (lset ls i v) j = some w → (j = i ∧ w = v) ∨ (j ≠ i ∧ lget ls j = some w)
  | [], i, j, v, w, h => by cases h
  | x :: l, 0, 0, v, w, h => Or.inl ⟨rfl, by cases h; rfl⟩
  | x :: l, 0, j + 1, v, w, h => Or.inr ⟨by omega, h⟩
  | x :: l, i + 1, 0, v, w, h => Or.inr ⟨by omega, h⟩
  | x :: l, i + 1, j + 1, v, w, h => by
    rcases lget_lset l i j v w h with ⟨h1, h2⟩ | ⟨h1, h2⟩
    · exact Or.inl ⟨by omega, h2⟩
    · exact Or.inr ⟨by omega, h2⟩
theorem lget_lt : ∀ (ls : List (Option Value)) (i : Nat) (w : Value), lget ls i = some w → i < ls.length
  | [], i, w, h => by cases h
  | x :: l, 0, w, h => by simp
  | x :: l, i + 1, w, h => by have := lget_lt l i w h; simp; omega
theorem LV.store {arr : Array Slot} {nL : Nat} {ls : List (Option Value)} {i : Nat} {v : Value} (h : LV arr nL ls) (hi : i < nL) (hc : v.category = 1) : ∃ arr', storeLocals arr i v = some arr' ∧ LV arr' nL (lset ls i v) := by
  obtain ⟨h1, h2, h3⟩ := h
  let l : List (Nat × Value) := (List.range ls.length).filterMap (fun j => (lget ls j).map (fun w => (j, w)))
  have hm : ∀ j w, lget ls j = some w → (j, w) ∈ l := fun j w hj => List.mem_filterMap.mpr ⟨j, List.mem_range.mpr (lget_lt ls j w hj), by rw [hj]; rfl⟩
  have hl : ∀ q ∈ l, arr[q.1]? = some (.val q.2) ∧ q.2.category = 1 := by
    intro q hq
    obtain ⟨j, -, hj⟩ := List.mem_filterMap.mp hq
    cases hg : lget ls j with
    | none => rw [hg] at hj; cases hj
    | some w => rw [hg] at hj; cases hj; exact h3 j w hg
  obtain ⟨arr', e1, e2⟩ := lv_store1 (l := l) (v := v) ⟨h1, h2, fun q hq => (hl q hq).1⟩ hi hc
  refine ⟨arr', e1, e2.1, e2.2.1, fun j w hj => ?_⟩
  rcases lget_lset ls i j v w hj with ⟨rfl, rfl⟩ | ⟨hne, hg⟩
  · exact ⟨e2.2.2 (j, w) List.mem_cons_self, hc⟩
  · have hq := hm j w hg
    have hcat := (hl _ hq).2
    refine ⟨e2.2.2 (j, w) (List.mem_cons_of_mem _ (List.mem_filter.mpr ⟨hq, ?_⟩)), hcat⟩
    have hc2 : (w.category == 2) = false := by
      have : w.category = 1 := hcat
      rw [this]; rfl
    simp [hne, hc2]
end
section
/-! ===== the judgement V: the machine in a method's frame, the heap shown by the abstract state ===== -/
abbrev VX : Type := Program × Env × Room × State × MethodId × Array Value × List Frame × Method × Code
abbrev xP (X : VX) : Program := X.1
abbrev xE (X : VX) : Env := X.2.1
abbrev xR (X : VX) : Room := X.2.2.1
abbrev xS (X : VX) : State := X.2.2.2.1
abbrev xM (X : VX) : MethodId := X.2.2.2.2.1
abbrev xA (X : VX) : Array Value := X.2.2.2.2.2.1
abbrev xB (X : VX) : List Frame := X.2.2.2.2.2.2.1
abbrev xT (X : VX) : Method := X.2.2.2.2.2.2.2.1
abbrev xC (X : VX) : Code := X.2.2.2.2.2.2.2.2
def CX (E : VE) (X : VX) (own mn : String) (cc : ByteArray) (nL : Nat) (ret : Option FieldType) (d mc ms : Nat) : Prop :=
  (xP X).tables.exec = Jvm.exec ∧ (xC X).code = cc ∧ (xC X).maxLocals = nL ∧ (xS X).vm.findClass own = some (xM X).cls ∧ (∀ w ∈ BIG, w.before (xA X) (xS X) = true) ∧ KK E (xS X) ∧ (xT X).locks = false ∧ (xT X).name = mn ∧ (xT X).sig.returnType = ret ∧
  d ≤ (xR X).frames ∧ 100 * d ≤ (xR X).locals ∧ mc ≤ (xR X).cells ∧ ms ≤ (xR X).slots
def V (E : VE) (X : VX) (own mn : String) (cc : ByteArray) (nL : Nat) (ret : Option FieldType) (d mc ms : Nat) (Q : State → Prop) (σ : Sg) (nc ns pc : Nat) (ls : List (Option Value)) (st : List Value) : Prop :=
  CX E X own mn cc nL ret d mc ms → ∀ (H : Heap) (locs : List Loc) (arr : Array Slot), AH E σ H → (∀ q ∈ locs, (eH E).size ≤ q.base) → LV arr nL ls →
    W (xP X) (eL E) (xE X) (xR X) (xS X) (xM X) (xA X) (xB X) (xT X) (xC X) H locs nc ns Q (F0 (xM X) pc arr st)
section VROWS
variable {E : VE} {X : VX} {own mn : String} {cc : ByteArray} {nL : Nat} {ret : Option FieldType} {d mc ms : Nat} {Q : State → Prop} {σ : Sg} {nc ns pc : Nat} {ls : List (Option Value)} {st : List Value}
/-- what the heap says of the state: tagged addresses are below the next one -/
theorem V.lt (k : (∀ a, sT σ a ≠ 0 → a < sN σ) → V E X own mn cc nL ret d mc ms Q σ nc ns pc ls st) : V E X own mn cc nL ret d mc ms Q σ nc ns pc ls st := by
  intro C H locs arr hA hl hL
  refine k (fun a ha => ?_) C H locs arr hA hl hL
  rw [← hA.1]
  have h := (hA.2.2.2.1 a ha).2
  unfold cOK at h
  split at h
  · obtain ⟨cell, h1, -⟩ := h
    exact (Array.getElem?_eq_some_iff.mp h1).1
  · split at h
    · exact (Array.getElem?_eq_some_iff.mp h).1
    · exact (Array.getElem?_eq_some_iff.mp h).1
theorem V.widen {k n : Nat} (h1 : nc ≤ k) (h2 : ns ≤ n) (kk : V E X own mn cc nL ret d mc ms Q σ k n pc ls st) : V E X own mn cc nL ret d mc ms Q σ nc ns pc ls st := fun C H locs arr hA hl hL => W.widen h1 h2 (kk C H locs arr hA hl hL)
theorem V.topi {x : Int32} (k : ∀ y : Int32, y = x → V E X own mn cc nL ret d mc ms Q σ nc ns pc ls (.int y :: st)) : V E X own mn cc nL ret d mc ms Q σ nc ns pc ls (.int x :: st) := k x rfl
theorem V.as {x : Int32} (y : Int32) (h : x = y) (k : V E X own mn cc nL ret d mc ms Q σ nc ns pc ls (.int y :: st)) : V E X own mn cc nL ret d mc ms Q σ nc ns pc ls (.int x :: st) := h ▸ k
theorem V.sts {σ' : Sg} (h : σ = σ') (k : V E X own mn cc nL ret d mc ms Q σ' nc ns pc ls st) : V E X own mn cc nL ret d mc ms Q σ nc ns pc ls st := h ▸ k

theorem V.iconst {n : Int} {v : Int32} (hd : decode cc pc = .ok (.iconst n, 1)) (hv : Int32.ofInt n = v) (k : V E X own mn cc nL ret d mc ms Q σ nc ns (pc + 1) ls (.int v :: st)) : V E X own mn cc nL ret d mc ms Q σ nc ns pc ls st := fun C H locs arr hA hl hL => lv_iconst C.1 C.2.1 hd hv (k C H locs arr hA hl hL)
theorem V.bipush {n : Int} {v : Int32} (hd : decode cc pc = .ok (.bipush n, 2)) (hv : (Int8.ofInt n).toInt32 = v) (k : V E X own mn cc nL ret d mc ms Q σ nc ns (pc + 2) ls (.int v :: st)) : V E X own mn cc nL ret d mc ms Q σ nc ns pc ls st := fun C H locs arr hA hl hL => lv_bipush C.1 C.2.1 hd hv (k C H locs arr hA hl hL)
theorem V.sipush {n : Int} {v : Int32} (hd : decode cc pc = .ok (.sipush n, 3)) (hv : (Int16.ofInt n).toInt32 = v) (k : V E X own mn cc nL ret d mc ms Q σ nc ns (pc + 3) ls (.int v :: st)) : V E X own mn cc nL ret d mc ms Q σ nc ns pc ls st := fun C H locs arr hA hl hL => lv_sipush C.1 C.2.1 hd hv (k C H locs arr hA hl hL)
theorem V.ldc {i : Nat} {v : Int32} (hd : decode cc pc = .ok (.ldc i, 2)) (hc : Cond.constant own i v ∈ BIG) (k : V E X own mn cc nL ret d mc ms Q σ nc ns (pc + 2) ls (.int v :: st)) : V E X own mn cc nL ret d mc ms Q σ nc ns pc ls st := fun C H locs arr hA hl hL => lv_ldc C.1 C.2.1 C.2.2.2.1 (C.2.2.2.2.1 _ hc) hd (k C H locs arr hA hl hL)
theorem V.ldcw {i : Nat} {v : Int32} (hd : decode cc pc = .ok (.ldc_w i, 3)) (hc : Cond.constant own i v ∈ BIG) (k : V E X own mn cc nL ret d mc ms Q σ nc ns (pc + 3) ls (.int v :: st)) : V E X own mn cc nL ret d mc ms Q σ nc ns pc ls st := fun C H locs arr hA hl hL => lv_ldcw C.1 C.2.1 C.2.2.2.1 (C.2.2.2.2.1 _ hc) hd (k C H locs arr hA hl hL)
theorem V.null (hd : decode cc pc = .ok (.aconst_null, 1)) (k : V E X own mn cc nL ret d mc ms Q σ nc ns (pc + 1) ls (.null :: st)) : V E X own mn cc nL ret d mc ms Q σ nc ns pc ls st := fun C H locs arr hA hl hL => lv_null C.1 C.2.1 hd (k C H locs arr hA hl hL)
theorem V.iload_n {f : Fin 4} {i : Nat} {x : Int32} (hd : decode cc pc = .ok (.iload_n f, 1)) (hi : (f : Nat) = i) (hv : lget ls i = some (.int x)) (k : V E X own mn cc nL ret d mc ms Q σ nc ns (pc + 1) ls (.int x :: st)) : V E X own mn cc nL ret d mc ms Q σ nc ns pc ls st := fun C H locs arr hA hl hL => lv_iload_n C.1 C.2.1 hd hi (hL.2.2 i _ hv).1 (k C H locs arr hA hl hL)
theorem V.iload {i : Nat} {x : Int32} (hd : decode cc pc = .ok (.iload i, 2)) (hv : lget ls i = some (.int x)) (k : V E X own mn cc nL ret d mc ms Q σ nc ns (pc + 2) ls (.int x :: st)) : V E X own mn cc nL ret d mc ms Q σ nc ns pc ls st := fun C H locs arr hA hl hL => lv_iload C.1 C.2.1 hd (hL.2.2 i _ hv).1 (k C H locs arr hA hl hL)
theorem V.aload_n {f : Fin 4} {i : Nat} {x : Nat} (hd : decode cc pc = .ok (.aload_n f, 1)) (hi : (f : Nat) = i) (hv : lget ls i = some (.ref x)) (k : V E X own mn cc nL ret d mc ms Q σ nc ns (pc + 1) ls (.ref x :: st)) : V E X own mn cc nL ret d mc ms Q σ nc ns pc ls st := fun C H locs arr hA hl hL => lv_aload_n C.1 C.2.1 hd hi (hL.2.2 i _ hv).1 (k C H locs arr hA hl hL)
theorem V.aload {i : Nat} {x : Nat} (hd : decode cc pc = .ok (.aload i, 2)) (hv : lget ls i = some (.ref x)) (k : V E X own mn cc nL ret d mc ms Q σ nc ns (pc + 2) ls (.ref x :: st)) : V E X own mn cc nL ret d mc ms Q σ nc ns pc ls st := fun C H locs arr hA hl hL => lv_aload C.1 C.2.1 hd (hL.2.2 i _ hv).1 (k C H locs arr hA hl hL)
theorem V.aload_nN {f : Fin 4} {i : Nat} (hd : decode cc pc = .ok (.aload_n f, 1)) (hi : (f : Nat) = i) (hv : lget ls i = some .null) (k : V E X own mn cc nL ret d mc ms Q σ nc ns (pc + 1) ls (.null :: st)) : V E X own mn cc nL ret d mc ms Q σ nc ns pc ls st := fun C H locs arr hA hl hL => lv_aload_nN C.1 C.2.1 hd hi (hL.2.2 i _ hv).1 (k C H locs arr hA hl hL)
theorem V.aloadN {i : Nat} (hd : decode cc pc = .ok (.aload i, 2)) (hv : lget ls i = some .null) (k : V E X own mn cc nL ret d mc ms Q σ nc ns (pc + 2) ls (.null :: st)) : V E X own mn cc nL ret d mc ms Q σ nc ns pc ls st := fun C H locs arr hA hl hL => lv_aloadN C.1 C.2.1 hd (hL.2.2 i _ hv).1 (k C H locs arr hA hl hL)
theorem V.iadd {x y : Int32} (hd : decode cc pc = .ok (.iadd, 1)) (k : V E X own mn cc nL ret d mc ms Q σ nc ns (pc + 1) ls (.int (x + y) :: st)) : V E X own mn cc nL ret d mc ms Q σ nc ns pc ls (.int y :: .int x :: st) := fun C H locs arr hA hl hL => lv_iadd C.1 C.2.1 hd (k C H locs arr hA hl hL)
theorem V.isub {x y : Int32} (hd : decode cc pc = .ok (.isub, 1)) (k : V E X own mn cc nL ret d mc ms Q σ nc ns (pc + 1) ls (.int (x - y) :: st)) : V E X own mn cc nL ret d mc ms Q σ nc ns pc ls (.int y :: .int x :: st) := fun C H locs arr hA hl hL => lv_isub C.1 C.2.1 hd (k C H locs arr hA hl hL)
theorem V.imul {x y : Int32} (hd : decode cc pc = .ok (.imul, 1)) (k : V E X own mn cc nL ret d mc ms Q σ nc ns (pc + 1) ls (.int (x * y) :: st)) : V E X own mn cc nL ret d mc ms Q σ nc ns pc ls (.int y :: .int x :: st) := fun C H locs arr hA hl hL => lv_imul C.1 C.2.1 hd (k C H locs arr hA hl hL)
theorem V.iand {x y : Int32} (hd : decode cc pc = .ok (.iand, 1)) (k : V E X own mn cc nL ret d mc ms Q σ nc ns (pc + 1) ls (.int (x &&& y) :: st)) : V E X own mn cc nL ret d mc ms Q σ nc ns pc ls (.int y :: .int x :: st) := fun C H locs arr hA hl hL => lv_iand C.1 C.2.1 hd (k C H locs arr hA hl hL)
theorem V.ior {x y : Int32} (hd : decode cc pc = .ok (.ior, 1)) (k : V E X own mn cc nL ret d mc ms Q σ nc ns (pc + 1) ls (.int (x ||| y) :: st)) : V E X own mn cc nL ret d mc ms Q σ nc ns pc ls (.int y :: .int x :: st) := fun C H locs arr hA hl hL => lv_ior C.1 C.2.1 hd (k C H locs arr hA hl hL)
theorem V.ishl {x y : Int32} (hd : decode cc pc = .ok (.ishl, 1)) (k : V E X own mn cc nL ret d mc ms Q σ nc ns (pc + 1) ls (.int (x <<< (y &&& 31)) :: st)) : V E X own mn cc nL ret d mc ms Q σ nc ns pc ls (.int y :: .int x :: st) := fun C H locs arr hA hl hL => lv_ishl C.1 C.2.1 hd (k C H locs arr hA hl hL)
theorem V.ishr {x y : Int32} (hd : decode cc pc = .ok (.ishr, 1)) (k : V E X own mn cc nL ret d mc ms Q σ nc ns (pc + 1) ls (.int (x >>> (y &&& 31)) :: st)) : V E X own mn cc nL ret d mc ms Q σ nc ns pc ls (.int y :: .int x :: st) := fun C H locs arr hA hl hL => lv_ishr C.1 C.2.1 hd (k C H locs arr hA hl hL)
theorem V.iushr {x y : Int32} (hd : decode cc pc = .ok (.iushr, 1)) (k : V E X own mn cc nL ret d mc ms Q σ nc ns (pc + 1) ls (.int ((x.toUInt32 >>> (y.toUInt32 &&& Int32.toUInt32 31)).toInt32) :: st)) : V E X own mn cc nL ret d mc ms Q σ nc ns pc ls (.int y :: .int x :: st) := fun C H locs arr hA hl hL => lv_iushr C.1 C.2.1 hd rfl (k C H locs arr hA hl hL)
theorem V.idiv {x y : Int32} (hd : decode cc pc = .ok (.idiv, 1)) (hne : ¬ y = 0) (k : V E X own mn cc nL ret d mc ms Q σ nc ns (pc + 1) ls (.int (x / y) :: st)) : V E X own mn cc nL ret d mc ms Q σ nc ns pc ls (.int y :: .int x :: st) := fun C H locs arr hA hl hL => lv_idiv C.1 C.2.1 hd hne (k C H locs arr hA hl hL)
theorem V.irem {x y : Int32} (hd : decode cc pc = .ok (.irem, 1)) (hne : ¬ y = 0) (k : V E X own mn cc nL ret d mc ms Q σ nc ns (pc + 1) ls (.int (x - x / y * y) :: st)) : V E X own mn cc nL ret d mc ms Q σ nc ns pc ls (.int y :: .int x :: st) := fun C H locs arr hA hl hL => lv_irem C.1 C.2.1 hd hne (k C H locs arr hA hl hL)
theorem V.dup {v : Value} (hd : decode cc pc = .ok (.dup, 1)) (hv : v.category = 1) (k : V E X own mn cc nL ret d mc ms Q σ nc ns (pc + 1) ls (v :: v :: st)) : V E X own mn cc nL ret d mc ms Q σ nc ns pc ls (v :: st) := fun C H locs arr hA hl hL => lv_dup C.1 C.2.1 hd hv (k C H locs arr hA hl hL)
theorem V.dup2 {u v : Value} (hd : decode cc pc = .ok (.dup2, 1)) (hu : u.category = 1) (hv : v.category = 1) (k : V E X own mn cc nL ret d mc ms Q σ nc ns (pc + 1) ls (u :: v :: u :: v :: st)) : V E X own mn cc nL ret d mc ms Q σ nc ns pc ls (u :: v :: st) := fun C H locs arr hA hl hL => lv_dup2_11 C.1 C.2.1 hd hu hv (k C H locs arr hA hl hL)
theorem V.dup_x1 {u v : Value} (hd : decode cc pc = .ok (.dup_x1, 1)) (hu : u.category = 1) (hv : v.category = 1) (k : V E X own mn cc nL ret d mc ms Q σ nc ns (pc + 1) ls (u :: v :: u :: st)) : V E X own mn cc nL ret d mc ms Q σ nc ns pc ls (u :: v :: st) := fun C H locs arr hA hl hL => lv_dup_x1 C.1 C.2.1 hd hu hv (k C H locs arr hA hl hL)
theorem V.pop {v : Value} (hd : decode cc pc = .ok (.pop, 1)) (hv : v.category = 1) (k : V E X own mn cc nL ret d mc ms Q σ nc ns (pc + 1) ls st) : V E X own mn cc nL ret d mc ms Q σ nc ns pc ls (v :: st) := fun C H locs arr hA hl hL => lv_pop C.1 C.2.1 hd hv (k C H locs arr hA hl hL)
theorem V.goto {off : Int} {tgt : Nat} (hd : decode cc pc = .ok (.goto off, 3)) (ht : (pc : Int) + off = (tgt : Int)) (k : V E X own mn cc nL ret d mc ms Q σ nc ns tgt ls st) : V E X own mn cc nL ret d mc ms Q σ nc ns pc ls st := fun C H locs arr hA hl hL => lv_goto C.1 C.2.1 hd ht (k C H locs arr hA hl hL)
theorem V.ifnonnull {off : Int} {tgt x : Nat} (hd : decode cc pc = .ok (.ifnonnull off, 3)) (ht : (pc : Int) + off = (tgt : Int)) (k : V E X own mn cc nL ret d mc ms Q σ nc ns tgt ls st) : V E X own mn cc nL ret d mc ms Q σ nc ns pc ls (.ref x :: st) := fun C H locs arr hA hl hL => lv_ifnonnull C.1 C.2.1 hd ht (k C H locs arr hA hl hL)
theorem V.ifnull {off : Int} {x : Nat} (hd : decode cc pc = .ok (.ifnull off, 3)) (k : V E X own mn cc nL ret d mc ms Q σ nc ns (pc + 3) ls st) : V E X own mn cc nL ret d mc ms Q σ nc ns pc ls (.ref x :: st) := fun C H locs arr hA hl hL => lv_ifnull C.1 C.2.1 hd (k C H locs arr hA hl hL)
theorem V.ifnullN {off : Int} {tgt : Nat} (hd : decode cc pc = .ok (.ifnull off, 3)) (ht : (pc : Int) + off = (tgt : Int)) (k : V E X own mn cc nL ret d mc ms Q σ nc ns tgt ls st) : V E X own mn cc nL ret d mc ms Q σ nc ns pc ls (.null :: st) := fun C H locs arr hA hl hL => lv_ifnullN C.1 C.2.1 hd ht (k C H locs arr hA hl hL)
theorem V.ifnonnullN {off : Int} (hd : decode cc pc = .ok (.ifnonnull off, 3)) (k : V E X own mn cc nL ret d mc ms Q σ nc ns (pc + 3) ls st) : V E X own mn cc nL ret d mc ms Q σ nc ns pc ls (.null :: st) := fun C H locs arr hA hl hL => lv_ifnonnullN C.1 C.2.1 hd (k C H locs arr hA hl hL)
theorem V.if_eq {x : Int32} {off : Int} {tgt : Nat} (hd : decode cc pc = .ok (.ifCond .eq off, 3)) (ht : (pc : Int) + off = (tgt : Int)) (kt : x = 0 → V E X own mn cc nL ret d mc ms Q σ nc ns tgt ls st) (kf : ¬ x = 0 → V E X own mn cc nL ret d mc ms Q σ nc ns (pc + 3) ls st) : V E X own mn cc nL ret d mc ms Q σ nc ns pc ls (.int x :: st) := fun C H locs arr hA hl hL => lv_if_eq C.1 C.2.1 hd ht (fun h => kt h C H locs arr hA hl hL) (fun h => kf h C H locs arr hA hl hL)
theorem V.if_eqT {x : Int32} {off : Int} {tgt : Nat} (hd : decode cc pc = .ok (.ifCond .eq off, 3)) (ht : (pc : Int) + off = (tgt : Int)) (h : x = 0) (k : V E X own mn cc nL ret d mc ms Q σ nc ns tgt ls st) : V E X own mn cc nL ret d mc ms Q σ nc ns pc ls (.int x :: st) := V.if_eq hd ht (fun _ => k) (fun n => absurd h (by simpa using n))
theorem V.if_eqF {x : Int32} {off : Int} (hd : decode cc pc = .ok (.ifCond .eq off, 3)) {tgt : Nat} (ht : (pc : Int) + off = (tgt : Int)) (h : ¬ x = 0) (k : V E X own mn cc nL ret d mc ms Q σ nc ns (pc + 3) ls st) : V E X own mn cc nL ret d mc ms Q σ nc ns pc ls (.int x :: st) := V.if_eq hd ht (fun n => absurd n (by simpa using h)) (fun _ => k)
theorem V.icmp_eq {x y : Int32} {off : Int} {tgt : Nat} (hd : decode cc pc = .ok (.if_icmp .eq off, 3)) (ht : (pc : Int) + off = (tgt : Int)) (kt : x = y → V E X own mn cc nL ret d mc ms Q σ nc ns tgt ls st) (kf : ¬ x = y → V E X own mn cc nL ret d mc ms Q σ nc ns (pc + 3) ls st) : V E X own mn cc nL ret d mc ms Q σ nc ns pc ls (.int y :: .int x :: st) := fun C H locs arr hA hl hL => lv_icmp_eq C.1 C.2.1 hd ht (fun h => kt h C H locs arr hA hl hL) (fun h => kf h C H locs arr hA hl hL)
theorem V.icmp_eqT {x y : Int32} {off : Int} {tgt : Nat} (hd : decode cc pc = .ok (.if_icmp .eq off, 3)) (ht : (pc : Int) + off = (tgt : Int)) (h : x = y) (k : V E X own mn cc nL ret d mc ms Q σ nc ns tgt ls st) : V E X own mn cc nL ret d mc ms Q σ nc ns pc ls (.int y :: .int x :: st) := V.icmp_eq hd ht (fun _ => k) (fun n => absurd h (by simpa using n))
theorem V.icmp_eqF {x y : Int32} {off : Int} (hd : decode cc pc = .ok (.if_icmp .eq off, 3)) {tgt : Nat} (ht : (pc : Int) + off = (tgt : Int)) (h : ¬ x = y) (k : V E X own mn cc nL ret d mc ms Q σ nc ns (pc + 3) ls st) : V E X own mn cc nL ret d mc ms Q σ nc ns pc ls (.int y :: .int x :: st) := V.icmp_eq hd ht (fun n => absurd n (by simpa using h)) (fun _ => k)
theorem V.if_ne {x : Int32} {off : Int} {tgt : Nat} (hd : decode cc pc = .ok (.ifCond .ne off, 3)) (ht : (pc : Int) + off = (tgt : Int)) (kt : ¬ x = 0 → V E X own mn cc nL ret d mc ms Q σ nc ns tgt ls st) (kf : x = 0 → V E X own mn cc nL ret d mc ms Q σ nc ns (pc + 3) ls st) : V E X own mn cc nL ret d mc ms Q σ nc ns pc ls (.int x :: st) := fun C H locs arr hA hl hL => lv_if_ne C.1 C.2.1 hd ht (fun h => kt h C H locs arr hA hl hL) (fun h => kf h C H locs arr hA hl hL)
theorem V.if_neT {x : Int32} {off : Int} {tgt : Nat} (hd : decode cc pc = .ok (.ifCond .ne off, 3)) (ht : (pc : Int) + off = (tgt : Int)) (h : ¬ x = 0) (k : V E X own mn cc nL ret d mc ms Q σ nc ns tgt ls st) : V E X own mn cc nL ret d mc ms Q σ nc ns pc ls (.int x :: st) := V.if_ne hd ht (fun _ => k) (fun n => absurd h (by simpa using n))
theorem V.if_neF {x : Int32} {off : Int} (hd : decode cc pc = .ok (.ifCond .ne off, 3)) {tgt : Nat} (ht : (pc : Int) + off = (tgt : Int)) (h : x = 0) (k : V E X own mn cc nL ret d mc ms Q σ nc ns (pc + 3) ls st) : V E X own mn cc nL ret d mc ms Q σ nc ns pc ls (.int x :: st) := V.if_ne hd ht (fun n => absurd n (by simpa using h)) (fun _ => k)
theorem V.icmp_ne {x y : Int32} {off : Int} {tgt : Nat} (hd : decode cc pc = .ok (.if_icmp .ne off, 3)) (ht : (pc : Int) + off = (tgt : Int)) (kt : ¬ x = y → V E X own mn cc nL ret d mc ms Q σ nc ns tgt ls st) (kf : x = y → V E X own mn cc nL ret d mc ms Q σ nc ns (pc + 3) ls st) : V E X own mn cc nL ret d mc ms Q σ nc ns pc ls (.int y :: .int x :: st) := fun C H locs arr hA hl hL => lv_icmp_ne C.1 C.2.1 hd ht (fun h => kt h C H locs arr hA hl hL) (fun h => kf h C H locs arr hA hl hL)
theorem V.icmp_neT {x y : Int32} {off : Int} {tgt : Nat} (hd : decode cc pc = .ok (.if_icmp .ne off, 3)) (ht : (pc : Int) + off = (tgt : Int)) (h : ¬ x = y) (k : V E X own mn cc nL ret d mc ms Q σ nc ns tgt ls st) : V E X own mn cc nL ret d mc ms Q σ nc ns pc ls (.int y :: .int x :: st) := V.icmp_ne hd ht (fun _ => k) (fun n => absurd h (by simpa using n))
theorem V.icmp_neF {x y : Int32} {off : Int} (hd : decode cc pc = .ok (.if_icmp .ne off, 3)) {tgt : Nat} (ht : (pc : Int) + off = (tgt : Int)) (h : x = y) (k : V E X own mn cc nL ret d mc ms Q σ nc ns (pc + 3) ls st) : V E X own mn cc nL ret d mc ms Q σ nc ns pc ls (.int y :: .int x :: st) := V.icmp_ne hd ht (fun n => absurd n (by simpa using h)) (fun _ => k)
theorem V.if_lt {x : Int32} {off : Int} {tgt : Nat} (hd : decode cc pc = .ok (.ifCond .lt off, 3)) (ht : (pc : Int) + off = (tgt : Int)) (kt : x < 0 → V E X own mn cc nL ret d mc ms Q σ nc ns tgt ls st) (kf : ¬ x < 0 → V E X own mn cc nL ret d mc ms Q σ nc ns (pc + 3) ls st) : V E X own mn cc nL ret d mc ms Q σ nc ns pc ls (.int x :: st) := fun C H locs arr hA hl hL => lv_if_lt C.1 C.2.1 hd ht (fun h => kt h C H locs arr hA hl hL) (fun h => kf h C H locs arr hA hl hL)
theorem V.if_ltT {x : Int32} {off : Int} {tgt : Nat} (hd : decode cc pc = .ok (.ifCond .lt off, 3)) (ht : (pc : Int) + off = (tgt : Int)) (h : x < 0) (k : V E X own mn cc nL ret d mc ms Q σ nc ns tgt ls st) : V E X own mn cc nL ret d mc ms Q σ nc ns pc ls (.int x :: st) := V.if_lt hd ht (fun _ => k) (fun n => absurd h (by simpa using n))
theorem V.if_ltF {x : Int32} {off : Int} (hd : decode cc pc = .ok (.ifCond .lt off, 3)) {tgt : Nat} (ht : (pc : Int) + off = (tgt : Int)) (h : ¬ x < 0) (k : V E X own mn cc nL ret d mc ms Q σ nc ns (pc + 3) ls st) : V E X own mn cc nL ret d mc ms Q σ nc ns pc ls (.int x :: st) := V.if_lt hd ht (fun n => absurd n (by simpa using h)) (fun _ => k)
theorem V.icmp_lt {x y : Int32} {off : Int} {tgt : Nat} (hd : decode cc pc = .ok (.if_icmp .lt off, 3)) (ht : (pc : Int) + off = (tgt : Int)) (kt : x < y → V E X own mn cc nL ret d mc ms Q σ nc ns tgt ls st) (kf : ¬ x < y → V E X own mn cc nL ret d mc ms Q σ nc ns (pc + 3) ls st) : V E X own mn cc nL ret d mc ms Q σ nc ns pc ls (.int y :: .int x :: st) := fun C H locs arr hA hl hL => lv_icmp_lt C.1 C.2.1 hd ht (fun h => kt h C H locs arr hA hl hL) (fun h => kf h C H locs arr hA hl hL)
theorem V.icmp_ltT {x y : Int32} {off : Int} {tgt : Nat} (hd : decode cc pc = .ok (.if_icmp .lt off, 3)) (ht : (pc : Int) + off = (tgt : Int)) (h : x < y) (k : V E X own mn cc nL ret d mc ms Q σ nc ns tgt ls st) : V E X own mn cc nL ret d mc ms Q σ nc ns pc ls (.int y :: .int x :: st) := V.icmp_lt hd ht (fun _ => k) (fun n => absurd h (by simpa using n))
theorem V.icmp_ltF {x y : Int32} {off : Int} (hd : decode cc pc = .ok (.if_icmp .lt off, 3)) {tgt : Nat} (ht : (pc : Int) + off = (tgt : Int)) (h : ¬ x < y) (k : V E X own mn cc nL ret d mc ms Q σ nc ns (pc + 3) ls st) : V E X own mn cc nL ret d mc ms Q σ nc ns pc ls (.int y :: .int x :: st) := V.icmp_lt hd ht (fun n => absurd n (by simpa using h)) (fun _ => k)
theorem V.if_ge {x : Int32} {off : Int} {tgt : Nat} (hd : decode cc pc = .ok (.ifCond .ge off, 3)) (ht : (pc : Int) + off = (tgt : Int)) (kt : 0 ≤ x → V E X own mn cc nL ret d mc ms Q σ nc ns tgt ls st) (kf : ¬ 0 ≤ x → V E X own mn cc nL ret d mc ms Q σ nc ns (pc + 3) ls st) : V E X own mn cc nL ret d mc ms Q σ nc ns pc ls (.int x :: st) := fun C H locs arr hA hl hL => lv_if_ge C.1 C.2.1 hd ht (fun h => kt h C H locs arr hA hl hL) (fun h => kf h C H locs arr hA hl hL)
theorem V.if_geT {x : Int32} {off : Int} {tgt : Nat} (hd : decode cc pc = .ok (.ifCond .ge off, 3)) (ht : (pc : Int) + off = (tgt : Int)) (h : 0 ≤ x) (k : V E X own mn cc nL ret d mc ms Q σ nc ns tgt ls st) : V E X own mn cc nL ret d mc ms Q σ nc ns pc ls (.int x :: st) := V.if_ge hd ht (fun _ => k) (fun n => absurd h (by simpa using n))
theorem V.if_geF {x : Int32} {off : Int} (hd : decode cc pc = .ok (.ifCond .ge off, 3)) {tgt : Nat} (ht : (pc : Int) + off = (tgt : Int)) (h : ¬ 0 ≤ x) (k : V E X own mn cc nL ret d mc ms Q σ nc ns (pc + 3) ls st) : V E X own mn cc nL ret d mc ms Q σ nc ns pc ls (.int x :: st) := V.if_ge hd ht (fun n => absurd n (by simpa using h)) (fun _ => k)
theorem V.icmp_ge {x y : Int32} {off : Int} {tgt : Nat} (hd : decode cc pc = .ok (.if_icmp .ge off, 3)) (ht : (pc : Int) + off = (tgt : Int)) (kt : y ≤ x → V E X own mn cc nL ret d mc ms Q σ nc ns tgt ls st) (kf : ¬ y ≤ x → V E X own mn cc nL ret d mc ms Q σ nc ns (pc + 3) ls st) : V E X own mn cc nL ret d mc ms Q σ nc ns pc ls (.int y :: .int x :: st) := fun C H locs arr hA hl hL => lv_icmp_ge C.1 C.2.1 hd ht (fun h => kt h C H locs arr hA hl hL) (fun h => kf h C H locs arr hA hl hL)
theorem V.icmp_geT {x y : Int32} {off : Int} {tgt : Nat} (hd : decode cc pc = .ok (.if_icmp .ge off, 3)) (ht : (pc : Int) + off = (tgt : Int)) (h : y ≤ x) (k : V E X own mn cc nL ret d mc ms Q σ nc ns tgt ls st) : V E X own mn cc nL ret d mc ms Q σ nc ns pc ls (.int y :: .int x :: st) := V.icmp_ge hd ht (fun _ => k) (fun n => absurd h (by simpa using n))
theorem V.icmp_geF {x y : Int32} {off : Int} (hd : decode cc pc = .ok (.if_icmp .ge off, 3)) {tgt : Nat} (ht : (pc : Int) + off = (tgt : Int)) (h : ¬ y ≤ x) (k : V E X own mn cc nL ret d mc ms Q σ nc ns (pc + 3) ls st) : V E X own mn cc nL ret d mc ms Q σ nc ns pc ls (.int y :: .int x :: st) := V.icmp_ge hd ht (fun n => absurd n (by simpa using h)) (fun _ => k)
theorem V.if_gt {x : Int32} {off : Int} {tgt : Nat} (hd : decode cc pc = .ok (.ifCond .gt off, 3)) (ht : (pc : Int) + off = (tgt : Int)) (kt : 0 < x → V E X own mn cc nL ret d mc ms Q σ nc ns tgt ls st) (kf : ¬ 0 < x → V E X own mn cc nL ret d mc ms Q σ nc ns (pc + 3) ls st) : V E X own mn cc nL ret d mc ms Q σ nc ns pc ls (.int x :: st) := fun C H locs arr hA hl hL => lv_if_gt C.1 C.2.1 hd ht (fun h => kt h C H locs arr hA hl hL) (fun h => kf h C H locs arr hA hl hL)
theorem V.if_gtT {x : Int32} {off : Int} {tgt : Nat} (hd : decode cc pc = .ok (.ifCond .gt off, 3)) (ht : (pc : Int) + off = (tgt : Int)) (h : 0 < x) (k : V E X own mn cc nL ret d mc ms Q σ nc ns tgt ls st) : V E X own mn cc nL ret d mc ms Q σ nc ns pc ls (.int x :: st) := V.if_gt hd ht (fun _ => k) (fun n => absurd h (by simpa using n))
theorem V.if_gtF {x : Int32} {off : Int} (hd : decode cc pc = .ok (.ifCond .gt off, 3)) {tgt : Nat} (ht : (pc : Int) + off = (tgt : Int)) (h : ¬ 0 < x) (k : V E X own mn cc nL ret d mc ms Q σ nc ns (pc + 3) ls st) : V E X own mn cc nL ret d mc ms Q σ nc ns pc ls (.int x :: st) := V.if_gt hd ht (fun n => absurd n (by simpa using h)) (fun _ => k)
theorem V.icmp_gt {x y : Int32} {off : Int} {tgt : Nat} (hd : decode cc pc = .ok (.if_icmp .gt off, 3)) (ht : (pc : Int) + off = (tgt : Int)) (kt : y < x → V E X own mn cc nL ret d mc ms Q σ nc ns tgt ls st) (kf : ¬ y < x → V E X own mn cc nL ret d mc ms Q σ nc ns (pc + 3) ls st) : V E X own mn cc nL ret d mc ms Q σ nc ns pc ls (.int y :: .int x :: st) := fun C H locs arr hA hl hL => lv_icmp_gt C.1 C.2.1 hd ht (fun h => kt h C H locs arr hA hl hL) (fun h => kf h C H locs arr hA hl hL)
theorem V.icmp_gtT {x y : Int32} {off : Int} {tgt : Nat} (hd : decode cc pc = .ok (.if_icmp .gt off, 3)) (ht : (pc : Int) + off = (tgt : Int)) (h : y < x) (k : V E X own mn cc nL ret d mc ms Q σ nc ns tgt ls st) : V E X own mn cc nL ret d mc ms Q σ nc ns pc ls (.int y :: .int x :: st) := V.icmp_gt hd ht (fun _ => k) (fun n => absurd h (by simpa using n))
theorem V.icmp_gtF {x y : Int32} {off : Int} (hd : decode cc pc = .ok (.if_icmp .gt off, 3)) {tgt : Nat} (ht : (pc : Int) + off = (tgt : Int)) (h : ¬ y < x) (k : V E X own mn cc nL ret d mc ms Q σ nc ns (pc + 3) ls st) : V E X own mn cc nL ret d mc ms Q σ nc ns pc ls (.int y :: .int x :: st) := V.icmp_gt hd ht (fun n => absurd n (by simpa using h)) (fun _ => k)
theorem V.if_le {x : Int32} {off : Int} {tgt : Nat} (hd : decode cc pc = .ok (.ifCond .le off, 3)) (ht : (pc : Int) + off = (tgt : Int)) (kt : x ≤ 0 → V E X own mn cc nL ret d mc ms Q σ nc ns tgt ls st) (kf : ¬ x ≤ 0 → V E X own mn cc nL ret d mc ms Q σ nc ns (pc + 3) ls st) : V E X own mn cc nL ret d mc ms Q σ nc ns pc ls (.int x :: st) := fun C H locs arr hA hl hL => lv_if_le C.1 C.2.1 hd ht (fun h => kt h C H locs arr hA hl hL) (fun h => kf h C H locs arr hA hl hL)
theorem V.if_leT {x : Int32} {off : Int} {tgt : Nat} (hd : decode cc pc = .ok (.ifCond .le off, 3)) (ht : (pc : Int) + off = (tgt : Int)) (h : x ≤ 0) (k : V E X own mn cc nL ret d mc ms Q σ nc ns tgt ls st) : V E X own mn cc nL ret d mc ms Q σ nc ns pc ls (.int x :: st) := V.if_le hd ht (fun _ => k) (fun n => absurd h (by simpa using n))
theorem V.if_leF {x : Int32} {off : Int} (hd : decode cc pc = .ok (.ifCond .le off, 3)) {tgt : Nat} (ht : (pc : Int) + off = (tgt : Int)) (h : ¬ x ≤ 0) (k : V E X own mn cc nL ret d mc ms Q σ nc ns (pc + 3) ls st) : V E X own mn cc nL ret d mc ms Q σ nc ns pc ls (.int x :: st) := V.if_le hd ht (fun n => absurd n (by simpa using h)) (fun _ => k)
theorem V.icmp_le {x y : Int32} {off : Int} {tgt : Nat} (hd : decode cc pc = .ok (.if_icmp .le off, 3)) (ht : (pc : Int) + off = (tgt : Int)) (kt : x ≤ y → V E X own mn cc nL ret d mc ms Q σ nc ns tgt ls st) (kf : ¬ x ≤ y → V E X own mn cc nL ret d mc ms Q σ nc ns (pc + 3) ls st) : V E X own mn cc nL ret d mc ms Q σ nc ns pc ls (.int y :: .int x :: st) := fun C H locs arr hA hl hL => lv_icmp_le C.1 C.2.1 hd ht (fun h => kt h C H locs arr hA hl hL) (fun h => kf h C H locs arr hA hl hL)
theorem V.icmp_leT {x y : Int32} {off : Int} {tgt : Nat} (hd : decode cc pc = .ok (.if_icmp .le off, 3)) (ht : (pc : Int) + off = (tgt : Int)) (h : x ≤ y) (k : V E X own mn cc nL ret d mc ms Q σ nc ns tgt ls st) : V E X own mn cc nL ret d mc ms Q σ nc ns pc ls (.int y :: .int x :: st) := V.icmp_le hd ht (fun _ => k) (fun n => absurd h (by simpa using n))
theorem V.icmp_leF {x y : Int32} {off : Int} (hd : decode cc pc = .ok (.if_icmp .le off, 3)) {tgt : Nat} (ht : (pc : Int) + off = (tgt : Int)) (h : ¬ x ≤ y) (k : V E X own mn cc nL ret d mc ms Q σ nc ns (pc + 3) ls st) : V E X own mn cc nL ret d mc ms Q σ nc ns pc ls (.int y :: .int x :: st) := V.icmp_le hd ht (fun n => absurd n (by simpa using h)) (fun _ => k)
theorem V.acmp_eq {x y : Nat} {off : Int} {tgt : Nat} (hd : decode cc pc = .ok (.if_acmp .eq off, 3)) (ht : (pc : Int) + off = (tgt : Int)) (kt : x = y → V E X own mn cc nL ret d mc ms Q σ nc ns tgt ls st) (kf : ¬ x = y → V E X own mn cc nL ret d mc ms Q σ nc ns (pc + 3) ls st) : V E X own mn cc nL ret d mc ms Q σ nc ns pc ls (.ref y :: .ref x :: st) := fun C H locs arr hA hl hL => lv_acmp_eq (rx := some x) (ry := some y) C.1 C.2.1 hd ht (fun h => kt (by simpa using h) C H locs arr hA hl hL) (fun h => kf (by simpa using h) C H locs arr hA hl hL)
theorem V.acmp_ne {x y : Nat} {off : Int} {tgt : Nat} (hd : decode cc pc = .ok (.if_acmp .ne off, 3)) (ht : (pc : Int) + off = (tgt : Int)) (kt : ¬ x = y → V E X own mn cc nL ret d mc ms Q σ nc ns tgt ls st) (kf : x = y → V E X own mn cc nL ret d mc ms Q σ nc ns (pc + 3) ls st) : V E X own mn cc nL ret d mc ms Q σ nc ns pc ls (.ref y :: .ref x :: st) := fun C H locs arr hA hl hL => lv_acmp_ne (rx := some x) (ry := some y) C.1 C.2.1 hd ht (fun h => kt (by simpa using h) C H locs arr hA hl hL) (fun h => kf (by simpa using h) C H locs arr hA hl hL)
theorem V.tableOut {dflt lo hi : Int} {offs : Array Int} {len : Nat} {x : Int32} {tgt : Nat} (hd : decode cc pc = .ok (.tableswitch dflt lo hi offs, len)) (h : x.toInt < lo ∨ hi < x.toInt) (ht : (pc : Int) + dflt = (tgt : Int)) (k : V E X own mn cc nL ret d mc ms Q σ nc ns tgt ls st) : V E X own mn cc nL ret d mc ms Q σ nc ns pc ls (.int x :: st) := fun C H locs arr hA hl hL => lv_tableOut C.1 C.2.1 hd h ht (k C H locs arr hA hl hL)
theorem V.tableIn {dflt lo hi : Int} {offs : Array Int} {len : Nat} {x : Int32} {off : Int} {tgt : Nat} (hd : decode cc pc = .ok (.tableswitch dflt lo hi offs, len)) (h1 : ¬ x.toInt < lo) (h2 : ¬ hi < x.toInt) (ho : offs[(x.toInt - lo).toNat]? = some off) (ht : (pc : Int) + off = (tgt : Int)) (k : V E X own mn cc nL ret d mc ms Q σ nc ns tgt ls st) : V E X own mn cc nL ret d mc ms Q σ nc ns pc ls (.int x :: st) := fun C H locs arr hA hl hL => lv_tableIn C.1 C.2.1 hd h1 h2 ho ht (k C H locs arr hA hl hL)
/-- a store into the locals, by what the step needs -/
theorem V.store_i {i len : Nat} {x : Int32} (hi : i < nL) (hd : (∃ f : Fin 4, (f : Nat) = i ∧ decode cc pc = .ok (.istore_n f, 1) ∧ len = 1) ∨ (decode cc pc = .ok (.istore i, 2) ∧ len = 2)) (k : V E X own mn cc nL ret d mc ms Q σ nc ns (pc + len) (lset ls i (.int x)) st) : V E X own mn cc nL ret d mc ms Q σ nc ns pc ls (.int x :: st) := by
  intro C H locs arr hA hl hL T hT Y
  obtain ⟨arr', e', h'⟩ := hL.store (v := .int x) hi rfl
  obtain ⟨t, a, b⟩ := k C H locs arr' hA hl h' T hT Y
  refine ⟨t, ?_, b⟩
  have hexec := C.1
  have hb := C.2.1
  rcases hd with ⟨f, rfl, hd, rfl⟩ | ⟨hd, rfl⟩
  · jvm_step Y.here [Y.here.top, ↓top_set Y.here.top, hexec, hb, hd, e']
    exact a
  · jvm_step Y.here [Y.here.top, ↓top_set Y.here.top, hexec, hb, hd, e']
    exact a
theorem V.store_a {i len : Nat} {v : Value} (hi : i < nL) (hv : v = .null ∨ ∃ a, v = .ref a) (hd : (∃ f : Fin 4, (f : Nat) = i ∧ decode cc pc = .ok (.astore_n f, 1) ∧ len = 1) ∨ (decode cc pc = .ok (.astore i, 2) ∧ len = 2)) (k : V E X own mn cc nL ret d mc ms Q σ nc ns (pc + len) (lset ls i v) st) : V E X own mn cc nL ret d mc ms Q σ nc ns pc ls (v :: st) := by
  intro C H locs arr hA hl hL T hT Y
  obtain ⟨arr', e', h'⟩ := hL.store (v := v) hi (by rcases hv with rfl | ⟨a, rfl⟩ <;> rfl)
  obtain ⟨t, a, b⟩ := k C H locs arr' hA hl h' T hT Y
  refine ⟨t, ?_, b⟩
  have hexec := C.1
  have hb := C.2.1
  rcases hv with rfl | ⟨av, rfl⟩
  · rcases hd with ⟨f, rfl, hd, rfl⟩ | ⟨hd, rfl⟩
    · jvm_step Y.here [Y.here.top, ↓top_set Y.here.top, hexec, hb, hd, e']
      exact ⟨rfl, a⟩
    · jvm_step Y.here [Y.here.top, ↓top_set Y.here.top, hexec, hb, hd, e']
      exact ⟨rfl, a⟩
  · rcases hd with ⟨f, rfl, hd, rfl⟩ | ⟨hd, rfl⟩
    · jvm_step Y.here [Y.here.top, ↓top_set Y.here.top, hexec, hb, hd, e']
      exact ⟨rfl, a⟩
    · jvm_step Y.here [Y.here.top, ↓top_set Y.here.top, hexec, hb, hd, e']
      exact ⟨rfl, a⟩
theorem V.inc {i : Nat} {n : Int} {x y : Int32} (hi : i < nL) (hd : decode cc pc = .ok (.iinc i n, 3)) (hx : lget ls i = some (.int x)) (hv : x + Int32.ofInt n = y) (k : V E X own mn cc nL ret d mc ms Q σ nc ns (pc + 3) (lset ls i (.int y)) st) : V E X own mn cc nL ret d mc ms Q σ nc ns pc ls st := by
  intro C H locs arr hA hl hL T hT Y
  obtain ⟨arr', e', h'⟩ := hL.store (v := .int y) hi rfl
  obtain ⟨t, a, b⟩ := k C H locs arr' hA hl h' T hT Y
  refine ⟨t, ?_, b⟩
  have hexec := C.1
  have hb := C.2.1
  have hg := (hL.2.2 i _ hx).1
  subst hv
  jvm_step Y.here [Y.here.top, ↓top_set Y.here.top, hexec, hb, hd, hg, e']
  exact a
theorem V.istore_n0 { z : Option Value} {tl : List (Option Value)} {x : Int32} (hi : 0 < nL) (hd : decode cc pc = .ok (.istore_n 0, 1)) (k : V E X own mn cc nL ret d mc ms Q σ nc ns (pc + 1) (some (.int x) :: tl) st) : V E X own mn cc nL ret d mc ms Q σ nc ns pc (z :: tl) (.int x :: st) := V.store_i (i := 0) hi (Or.inl ⟨0, rfl, hd, rfl⟩) k
theorem V.astore_n0 { z : Option Value} {tl : List (Option Value)} {x : Nat} (hi : 0 < nL) (hd : decode cc pc = .ok (.astore_n 0, 1)) (k : V E X own mn cc nL ret d mc ms Q σ nc ns (pc + 1) (some (.ref x) :: tl) st) : V E X own mn cc nL ret d mc ms Q σ nc ns pc (z :: tl) (.ref x :: st) := V.store_a (i := 0) hi (Or.inr ⟨_, rfl⟩) (Or.inl ⟨0, rfl, hd, rfl⟩) k
theorem V.astore_n0N { z : Option Value} {tl : List (Option Value)} (hi : 0 < nL) (hd : decode cc pc = .ok (.astore_n 0, 1)) (k : V E X own mn cc nL ret d mc ms Q σ nc ns (pc + 1) (some .null :: tl) st) : V E X own mn cc nL ret d mc ms Q σ nc ns pc (z :: tl) (.null :: st) := V.store_a (i := 0) hi (Or.inl rfl) (Or.inl ⟨0, rfl, hd, rfl⟩) k
theorem V.iinc0 {tl : List (Option Value)} {n : Int} {x y : Int32} (hi : 0 < nL) (hd : decode cc pc = .ok (.iinc 0 n, 3)) (hv : x + Int32.ofInt n = y) (k : V E X own mn cc nL ret d mc ms Q σ nc ns (pc + 3) (some (.int y) :: tl) st) : V E X own mn cc nL ret d mc ms Q σ nc ns pc (some (.int x) :: tl) st := V.inc (i := 0) hi hd rfl hv k
theorem V.istore_n1 {a0 z : Option Value} {tl : List (Option Value)} {x : Int32} (hi : 1 < nL) (hd : decode cc pc = .ok (.istore_n 1, 1)) (k : V E X own mn cc nL ret d mc ms Q σ nc ns (pc + 1) (a0 :: some (.int x) :: tl) st) : V E X own mn cc nL ret d mc ms Q σ nc ns pc (a0 :: z :: tl) (.int x :: st) := V.store_i (i := 1) hi (Or.inl ⟨1, rfl, hd, rfl⟩) k
theorem V.astore_n1 {a0 z : Option Value} {tl : List (Option Value)} {x : Nat} (hi : 1 < nL) (hd : decode cc pc = .ok (.astore_n 1, 1)) (k : V E X own mn cc nL ret d mc ms Q σ nc ns (pc + 1) (a0 :: some (.ref x) :: tl) st) : V E X own mn cc nL ret d mc ms Q σ nc ns pc (a0 :: z :: tl) (.ref x :: st) := V.store_a (i := 1) hi (Or.inr ⟨_, rfl⟩) (Or.inl ⟨1, rfl, hd, rfl⟩) k
theorem V.astore_n1N {a0 z : Option Value} {tl : List (Option Value)} (hi : 1 < nL) (hd : decode cc pc = .ok (.astore_n 1, 1)) (k : V E X own mn cc nL ret d mc ms Q σ nc ns (pc + 1) (a0 :: some .null :: tl) st) : V E X own mn cc nL ret d mc ms Q σ nc ns pc (a0 :: z :: tl) (.null :: st) := V.store_a (i := 1) hi (Or.inl rfl) (Or.inl ⟨1, rfl, hd, rfl⟩) k
theorem V.iinc1 {a0 : Option Value} {tl : List (Option Value)} {n : Int} {x y : Int32} (hi : 1 < nL) (hd : decode cc pc = .ok (.iinc 1 n, 3)) (hv : x + Int32.ofInt n = y) (k : V E X own mn cc nL ret d mc ms Q σ nc ns (pc + 3) (a0 :: some (.int y) :: tl) st) : V E X own mn cc nL ret d mc ms Q σ nc ns pc (a0 :: some (.int x) :: tl) st := V.inc (i := 1) hi hd rfl hv k
theorem V.istore_n2 {a0 a1 z : Option Value} {tl : List (Option Value)} {x : Int32} (hi : 2 < nL) (hd : decode cc pc = .ok (.istore_n 2, 1)) (k : V E X own mn cc nL ret d mc ms Q σ nc ns (pc + 1) (a0 :: a1 :: some (.int x) :: tl) st) : V E X own mn cc nL ret d mc ms Q σ nc ns pc (a0 :: a1 :: z :: tl) (.int x :: st) := V.store_i (i := 2) hi (Or.inl ⟨2, rfl, hd, rfl⟩) k
theorem V.astore_n2 {a0 a1 z : Option Value} {tl : List (Option Value)} {x : Nat} (hi : 2 < nL) (hd : decode cc pc = .ok (.astore_n 2, 1)) (k : V E X own mn cc nL ret d mc ms Q σ nc ns (pc + 1) (a0 :: a1 :: some (.ref x) :: tl) st) : V E X own mn cc nL ret d mc ms Q σ nc ns pc (a0 :: a1 :: z :: tl) (.ref x :: st) := V.store_a (i := 2) hi (Or.inr ⟨_, rfl⟩) (Or.inl ⟨2, rfl, hd, rfl⟩) k
theorem V.astore_n2N {a0 a1 z : Option Value} {tl : List (Option Value)} (hi : 2 < nL) (hd : decode cc pc = .ok (.astore_n 2, 1)) (k : V E X own mn cc nL ret d mc ms Q σ nc ns (pc + 1) (a0 :: a1 :: some .null :: tl) st) : V E X own mn cc nL ret d mc ms Q σ nc ns pc (a0 :: a1 :: z :: tl) (.null :: st) := V.store_a (i := 2) hi (Or.inl rfl) (Or.inl ⟨2, rfl, hd, rfl⟩) k
theorem V.iinc2 {a0 a1 : Option Value} {tl : List (Option Value)} {n : Int} {x y : Int32} (hi : 2 < nL) (hd : decode cc pc = .ok (.iinc 2 n, 3)) (hv : x + Int32.ofInt n = y) (k : V E X own mn cc nL ret d mc ms Q σ nc ns (pc + 3) (a0 :: a1 :: some (.int y) :: tl) st) : V E X own mn cc nL ret d mc ms Q σ nc ns pc (a0 :: a1 :: some (.int x) :: tl) st := V.inc (i := 2) hi hd rfl hv k
theorem V.istore_n3 {a0 a1 a2 z : Option Value} {tl : List (Option Value)} {x : Int32} (hi : 3 < nL) (hd : decode cc pc = .ok (.istore_n 3, 1)) (k : V E X own mn cc nL ret d mc ms Q σ nc ns (pc + 1) (a0 :: a1 :: a2 :: some (.int x) :: tl) st) : V E X own mn cc nL ret d mc ms Q σ nc ns pc (a0 :: a1 :: a2 :: z :: tl) (.int x :: st) := V.store_i (i := 3) hi (Or.inl ⟨3, rfl, hd, rfl⟩) k
theorem V.astore_n3 {a0 a1 a2 z : Option Value} {tl : List (Option Value)} {x : Nat} (hi : 3 < nL) (hd : decode cc pc = .ok (.astore_n 3, 1)) (k : V E X own mn cc nL ret d mc ms Q σ nc ns (pc + 1) (a0 :: a1 :: a2 :: some (.ref x) :: tl) st) : V E X own mn cc nL ret d mc ms Q σ nc ns pc (a0 :: a1 :: a2 :: z :: tl) (.ref x :: st) := V.store_a (i := 3) hi (Or.inr ⟨_, rfl⟩) (Or.inl ⟨3, rfl, hd, rfl⟩) k
theorem V.astore_n3N {a0 a1 a2 z : Option Value} {tl : List (Option Value)} (hi : 3 < nL) (hd : decode cc pc = .ok (.astore_n 3, 1)) (k : V E X own mn cc nL ret d mc ms Q σ nc ns (pc + 1) (a0 :: a1 :: a2 :: some .null :: tl) st) : V E X own mn cc nL ret d mc ms Q σ nc ns pc (a0 :: a1 :: a2 :: z :: tl) (.null :: st) := V.store_a (i := 3) hi (Or.inl rfl) (Or.inl ⟨3, rfl, hd, rfl⟩) k
theorem V.iinc3 {a0 a1 a2 : Option Value} {tl : List (Option Value)} {n : Int} {x y : Int32} (hi : 3 < nL) (hd : decode cc pc = .ok (.iinc 3 n, 3)) (hv : x + Int32.ofInt n = y) (k : V E X own mn cc nL ret d mc ms Q σ nc ns (pc + 3) (a0 :: a1 :: a2 :: some (.int y) :: tl) st) : V E X own mn cc nL ret d mc ms Q σ nc ns pc (a0 :: a1 :: a2 :: some (.int x) :: tl) st := V.inc (i := 3) hi hd rfl hv k
theorem V.istore4 {a0 a1 a2 a3 z : Option Value} {tl : List (Option Value)} {x : Int32} (hi : 4 < nL) (hd : decode cc pc = .ok (.istore 4, 2)) (k : V E X own mn cc nL ret d mc ms Q σ nc ns (pc + 2) (a0 :: a1 :: a2 :: a3 :: some (.int x) :: tl) st) : V E X own mn cc nL ret d mc ms Q σ nc ns pc (a0 :: a1 :: a2 :: a3 :: z :: tl) (.int x :: st) := V.store_i (i := 4) hi (Or.inr ⟨hd, rfl⟩) k
theorem V.astore4 {a0 a1 a2 a3 z : Option Value} {tl : List (Option Value)} {x : Nat} (hi : 4 < nL) (hd : decode cc pc = .ok (.astore 4, 2)) (k : V E X own mn cc nL ret d mc ms Q σ nc ns (pc + 2) (a0 :: a1 :: a2 :: a3 :: some (.ref x) :: tl) st) : V E X own mn cc nL ret d mc ms Q σ nc ns pc (a0 :: a1 :: a2 :: a3 :: z :: tl) (.ref x :: st) := V.store_a (i := 4) hi (Or.inr ⟨_, rfl⟩) (Or.inr ⟨hd, rfl⟩) k
theorem V.astore4N {a0 a1 a2 a3 z : Option Value} {tl : List (Option Value)} (hi : 4 < nL) (hd : decode cc pc = .ok (.astore 4, 2)) (k : V E X own mn cc nL ret d mc ms Q σ nc ns (pc + 2) (a0 :: a1 :: a2 :: a3 :: some .null :: tl) st) : V E X own mn cc nL ret d mc ms Q σ nc ns pc (a0 :: a1 :: a2 :: a3 :: z :: tl) (.null :: st) := V.store_a (i := 4) hi (Or.inl rfl) (Or.inr ⟨hd, rfl⟩) k
theorem V.iinc4 {a0 a1 a2 a3 : Option Value} {tl : List (Option Value)} {n : Int} {x y : Int32} (hi : 4 < nL) (hd : decode cc pc = .ok (.iinc 4 n, 3)) (hv : x + Int32.ofInt n = y) (k : V E X own mn cc nL ret d mc ms Q σ nc ns (pc + 3) (a0 :: a1 :: a2 :: a3 :: some (.int y) :: tl) st) : V E X own mn cc nL ret d mc ms Q σ nc ns pc (a0 :: a1 :: a2 :: a3 :: some (.int x) :: tl) st := V.inc (i := 4) hi hd rfl hv k
theorem V.istore5 {a0 a1 a2 a3 a4 z : Option Value} {tl : List (Option Value)} {x : Int32} (hi : 5 < nL) (hd : decode cc pc = .ok (.istore 5, 2)) (k : V E X own mn cc nL ret d mc ms Q σ nc ns (pc + 2) (a0 :: a1 :: a2 :: a3 :: a4 :: some (.int x) :: tl) st) : V E X own mn cc nL ret d mc ms Q σ nc ns pc (a0 :: a1 :: a2 :: a3 :: a4 :: z :: tl) (.int x :: st) := V.store_i (i := 5) hi (Or.inr ⟨hd, rfl⟩) k
theorem V.astore5 {a0 a1 a2 a3 a4 z : Option Value} {tl : List (Option Value)} {x : Nat} (hi : 5 < nL) (hd : decode cc pc = .ok (.astore 5, 2)) (k : V E X own mn cc nL ret d mc ms Q σ nc ns (pc + 2) (a0 :: a1 :: a2 :: a3 :: a4 :: some (.ref x) :: tl) st) : V E X own mn cc nL ret d mc ms Q σ nc ns pc (a0 :: a1 :: a2 :: a3 :: a4 :: z :: tl) (.ref x :: st) := V.store_a (i := 5) hi (Or.inr ⟨_, rfl⟩) (Or.inr ⟨hd, rfl⟩) k
theorem V.astore5N {a0 a1 a2 a3 a4 z : Option Value} {tl : List (Option Value)} (hi : 5 < nL) (hd : decode cc pc = .ok (.astore 5, 2)) (k : V E X own mn cc nL ret d mc ms Q σ nc ns (pc + 2) (a0 :: a1 :: a2 :: a3 :: a4 :: some .null :: tl) st) : V E X own mn cc nL ret d mc ms Q σ nc ns pc (a0 :: a1 :: a2 :: a3 :: a4 :: z :: tl) (.null :: st) := V.store_a (i := 5) hi (Or.inl rfl) (Or.inr ⟨hd, rfl⟩) k
theorem V.iinc5 {a0 a1 a2 a3 a4 : Option Value} {tl : List (Option Value)} {n : Int} {x y : Int32} (hi : 5 < nL) (hd : decode cc pc = .ok (.iinc 5 n, 3)) (hv : x + Int32.ofInt n = y) (k : V E X own mn cc nL ret d mc ms Q σ nc ns (pc + 3) (a0 :: a1 :: a2 :: a3 :: a4 :: some (.int y) :: tl) st) : V E X own mn cc nL ret d mc ms Q σ nc ns pc (a0 :: a1 :: a2 :: a3 :: a4 :: some (.int x) :: tl) st := V.inc (i := 5) hi hd rfl hv k
theorem V.istore6 {a0 a1 a2 a3 a4 a5 z : Option Value} {tl : List (Option Value)} {x : Int32} (hi : 6 < nL) (hd : decode cc pc = .ok (.istore 6, 2)) (k : V E X own mn cc nL ret d mc ms Q σ nc ns (pc + 2) (a0 :: a1 :: a2 :: a3 :: a4 :: a5 :: some (.int x) :: tl) st) : V E X own mn cc nL ret d mc ms Q σ nc ns pc (a0 :: a1 :: a2 :: a3 :: a4 :: a5 :: z :: tl) (.int x :: st) := V.store_i (i := 6) hi (Or.inr ⟨hd, rfl⟩) k
theorem V.astore6 {a0 a1 a2 a3 a4 a5 z : Option Value} {tl : List (Option Value)} {x : Nat} (hi : 6 < nL) (hd : decode cc pc = .ok (.astore 6, 2)) (k : V E X own mn cc nL ret d mc ms Q σ nc ns (pc + 2) (a0 :: a1 :: a2 :: a3 :: a4 :: a5 :: some (.ref x) :: tl) st) : V E X own mn cc nL ret d mc ms Q σ nc ns pc (a0 :: a1 :: a2 :: a3 :: a4 :: a5 :: z :: tl) (.ref x :: st) := V.store_a (i := 6) hi (Or.inr ⟨_, rfl⟩) (Or.inr ⟨hd, rfl⟩) k
theorem V.astore6N {a0 a1 a2 a3 a4 a5 z : Option Value} {tl : List (Option Value)} (hi : 6 < nL) (hd : decode cc pc = .ok (.astore 6, 2)) (k : V E X own mn cc nL ret d mc ms Q σ nc ns (pc + 2) (a0 :: a1 :: a2 :: a3 :: a4 :: a5 :: some .null :: tl) st) : V E X own mn cc nL ret d mc ms Q σ nc ns pc (a0 :: a1 :: a2 :: a3 :: a4 :: a5 :: z :: tl) (.null :: st) := V.store_a (i := 6) hi (Or.inl rfl) (Or.inr ⟨hd, rfl⟩) k
theorem V.iinc6 {a0 a1 a2 a3 a4 a5 : Option Value} {tl : List (Option Value)} {n : Int} {x y : Int32} (hi : 6 < nL) (hd : decode cc pc = .ok (.iinc 6 n, 3)) (hv : x + Int32.ofInt n = y) (k : V E X own mn cc nL ret d mc ms Q σ nc ns (pc + 3) (a0 :: a1 :: a2 :: a3 :: a4 :: a5 :: some (.int y) :: tl) st) : V E X own mn cc nL ret d mc ms Q σ nc ns pc (a0 :: a1 :: a2 :: a3 :: a4 :: a5 :: some (.int x) :: tl) st := V.inc (i := 6) hi hd rfl hv k
theorem V.istore7 {a0 a1 a2 a3 a4 a5 a6 z : Option Value} {tl : List (Option Value)} {x : Int32} (hi : 7 < nL) (hd : decode cc pc = .ok (.istore 7, 2)) (k : V E X own mn cc nL ret d mc ms Q σ nc ns (pc + 2) (a0 :: a1 :: a2 :: a3 :: a4 :: a5 :: a6 :: some (.int x) :: tl) st) : V E X own mn cc nL ret d mc ms Q σ nc ns pc (a0 :: a1 :: a2 :: a3 :: a4 :: a5 :: a6 :: z :: tl) (.int x :: st) := V.store_i (i := 7) hi (Or.inr ⟨hd, rfl⟩) k
theorem V.astore7 {a0 a1 a2 a3 a4 a5 a6 z : Option Value} {tl : List (Option Value)} {x : Nat} (hi : 7 < nL) (hd : decode cc pc = .ok (.astore 7, 2)) (k : V E X own mn cc nL ret d mc ms Q σ nc ns (pc + 2) (a0 :: a1 :: a2 :: a3 :: a4 :: a5 :: a6 :: some (.ref x) :: tl) st) : V E X own mn cc nL ret d mc ms Q σ nc ns pc (a0 :: a1 :: a2 :: a3 :: a4 :: a5 :: a6 :: z :: tl) (.ref x :: st) := V.store_a (i := 7) hi (Or.inr ⟨_, rfl⟩) (Or.inr ⟨hd, rfl⟩) k
theorem V.astore7N {a0 a1 a2 a3 a4 a5 a6 z : Option Value} {tl : List (Option Value)} (hi : 7 < nL) (hd : decode cc pc = .ok (.astore 7, 2)) (k : V E X own mn cc nL ret d mc ms Q σ nc ns (pc + 2) (a0 :: a1 :: a2 :: a3 :: a4 :: a5 :: a6 :: some .null :: tl) st) : V E X own mn cc nL ret d mc ms Q σ nc ns pc (a0 :: a1 :: a2 :: a3 :: a4 :: a5 :: a6 :: z :: tl) (.null :: st) := V.store_a (i := 7) hi (Or.inl rfl) (Or.inr ⟨hd, rfl⟩) k
theorem V.iinc7 {a0 a1 a2 a3 a4 a5 a6 : Option Value} {tl : List (Option Value)} {n : Int} {x y : Int32} (hi : 7 < nL) (hd : decode cc pc = .ok (.iinc 7 n, 3)) (hv : x + Int32.ofInt n = y) (k : V E X own mn cc nL ret d mc ms Q σ nc ns (pc + 3) (a0 :: a1 :: a2 :: a3 :: a4 :: a5 :: a6 :: some (.int y) :: tl) st) : V E X own mn cc nL ret d mc ms Q σ nc ns pc (a0 :: a1 :: a2 :: a3 :: a4 :: a5 :: a6 :: some (.int x) :: tl) st := V.inc (i := 7) hi hd rfl hv k
theorem V.istore8 {a0 a1 a2 a3 a4 a5 a6 a7 z : Option Value} {tl : List (Option Value)} {x : Int32} (hi : 8 < nL) (hd : decode cc pc = .ok (.istore 8, 2)) (k : V E X own mn cc nL ret d mc ms Q σ nc ns (pc + 2) (a0 :: a1 :: a2 :: a3 :: a4 :: a5 :: a6 :: a7 :: some (.int x) :: tl) st) : V E X own mn cc nL ret d mc ms Q σ nc ns pc (a0 :: a1 :: a2 :: a3 :: a4 :: a5 :: a6 :: a7 :: z :: tl) (.int x :: st) := V.store_i (i := 8) hi (Or.inr ⟨hd, rfl⟩) k
theorem V.astore8 {a0 a1 a2 a3 a4 a5 a6 a7 z : Option Value} {tl : List (Option Value)} {x : Nat} (hi : 8 < nL) (hd : decode cc pc = .ok (.astore 8, 2)) (k : V E X own mn cc nL ret d mc ms Q σ nc ns (pc + 2) (a0 :: a1 :: a2 :: a3 :: a4 :: a5 :: a6 :: a7 :: some (.ref x) :: tl) st) : V E X own mn cc nL ret d mc ms Q σ nc ns pc (a0 :: a1 :: a2 :: a3 :: a4 :: a5 :: a6 :: a7 :: z :: tl) (.ref x :: st) := V.store_a (i := 8) hi (Or.inr ⟨_, rfl⟩) (Or.inr ⟨hd, rfl⟩) k
theorem V.astore8N {a0 a1 a2 a3 a4 a5 a6 a7 z : Option Value} {tl : List (Option Value)} (hi : 8 < nL) (hd : decode cc pc = .ok (.astore 8, 2)) (k : V E X own mn cc nL ret d mc ms Q σ nc ns (pc + 2) (a0 :: a1 :: a2 :: a3 :: a4 :: a5 :: a6 :: a7 :: some .null :: tl) st) : V E X own mn cc nL ret d mc ms Q σ nc ns pc (a0 :: a1 :: a2 :: a3 :: a4 :: a5 :: a6 :: a7 :: z :: tl) (.null :: st) := V.store_a (i := 8) hi (Or.inl rfl) (Or.inr ⟨hd, rfl⟩) k
theorem V.iinc8 {a0 a1 a2 a3 a4 a5 a6 a7 : Option Value} {tl : List (Option Value)} {n : Int} {x y : Int32} (hi : 8 < nL) (hd : decode cc pc = .ok (.iinc 8 n, 3)) (hv : x + Int32.ofInt n = y) (k : V E X own mn cc nL ret d mc ms Q σ nc ns (pc + 3) (a0 :: a1 :: a2 :: a3 :: a4 :: a5 :: a6 :: a7 :: some (.int y) :: tl) st) : V E X own mn cc nL ret d mc ms Q σ nc ns pc (a0 :: a1 :: a2 :: a3 :: a4 :: a5 :: a6 :: a7 :: some (.int x) :: tl) st := V.inc (i := 8) hi hd rfl hv k
end VROWS
theorem bc_m10 : (Int8.ofInt (-10)).toInt32 = (-10) := by decide +kernel
theorem bc_6 : (Int8.ofInt (6)).toInt32 = nI 6 := by decide +kernel
theorem bc_7 : (Int8.ofInt (7)).toInt32 = nI 7 := by decide +kernel
theorem bc_8 : (Int8.ofInt (8)).toInt32 = nI 8 := by decide +kernel
theorem bc_9 : (Int8.ofInt (9)).toInt32 = nI 9 := by decide +kernel
theorem bc_10 : (Int8.ofInt (10)).toInt32 = nI 10 := by decide +kernel
theorem bc_12 : (Int8.ofInt (12)).toInt32 = nI 12 := by decide +kernel
theorem bc_16 : (Int8.ofInt (16)).toInt32 = nI 16 := by decide +kernel
theorem bc_19 : (Int8.ofInt (19)).toInt32 = nI 19 := by decide +kernel
theorem bc_20 : (Int8.ofInt (20)).toInt32 = nI 20 := by decide +kernel
theorem bc_23 : (Int8.ofInt (23)).toInt32 = nI 23 := by decide +kernel
theorem bc_24 : (Int8.ofInt (24)).toInt32 = nI 24 := by decide +kernel
theorem bc_30 : (Int8.ofInt (30)).toInt32 = nI 30 := by decide +kernel
theorem bc_31 : (Int8.ofInt (31)).toInt32 = nI 31 := by decide +kernel
theorem bc_36 : (Int8.ofInt (36)).toInt32 = nI 36 := by decide +kernel
theorem bc_40 : (Int8.ofInt (40)).toInt32 = nI 40 := by decide +kernel
theorem bc_48 : (Int8.ofInt (48)).toInt32 = nI 48 := by decide +kernel
theorem bc_50 : (Int8.ofInt (50)).toInt32 = nI 50 := by decide +kernel
theorem bc_57 : (Int8.ofInt (57)).toInt32 = nI 57 := by decide +kernel
theorem bc_59 : (Int8.ofInt (59)).toInt32 = nI 59 := by decide +kernel
theorem bc_60 : (Int8.ofInt (60)).toInt32 = nI 60 := by decide +kernel
theorem bc_63 : (Int8.ofInt (63)).toInt32 = nI 63 := by decide +kernel
theorem bc_77 : (Int8.ofInt (77)).toInt32 = nI 77 := by decide +kernel
theorem bc_90 : (Int8.ofInt (90)).toInt32 = nI 90 := by decide +kernel
theorem bc_99 : (Int8.ofInt (99)).toInt32 = nI 99 := by decide +kernel
theorem bc_100 : (Int8.ofInt (100)).toInt32 = nI 100 := by decide +kernel
theorem bc_102 : (Int8.ofInt (102)).toInt32 = nI 102 := by decide +kernel
theorem bc_103 : (Int8.ofInt (103)).toInt32 = nI 103 := by decide +kernel
theorem bc_108 : (Int8.ofInt (108)).toInt32 = nI 108 := by decide +kernel
theorem bc_112 : (Int8.ofInt (112)).toInt32 = nI 112 := by decide +kernel
theorem bc_115 : (Int8.ofInt (115)).toInt32 = nI 115 := by decide +kernel
theorem bc_116 : (Int8.ofInt (116)).toInt32 = nI 116 := by decide +kernel
theorem bc_119 : (Int8.ofInt (119)).toInt32 = nI 119 := by decide +kernel
theorem ic_m1 : Int32.ofInt (-1) = (-1) := by decide +kernel
theorem ic_0 : Int32.ofInt (0) = nI 0 := by decide +kernel
theorem ic_1 : Int32.ofInt (1) = nI 1 := by decide +kernel
theorem ic_2 : Int32.ofInt (2) = nI 2 := by decide +kernel
theorem ic_3 : Int32.ofInt (3) = nI 3 := by decide +kernel
theorem ic_4 : Int32.ofInt (4) = nI 4 := by decide +kernel
theorem ic_5 : Int32.ofInt (5) = nI 5 := by decide +kernel
theorem sc_168 : (Int16.ofInt (168)).toInt32 = nI 168 := by decide +kernel
theorem sc_255 : (Int16.ofInt (255)).toInt32 = nI 255 := by decide +kernel
theorem sc_256 : (Int16.ofInt (256)).toInt32 = nI 256 := by decide +kernel
theorem sc_365 : (Int16.ofInt (365)).toInt32 = nI 365 := by decide +kernel
theorem sc_1000 : (Int16.ofInt (1000)).toInt32 = nI 1000 := by decide +kernel
theorem sc_1023 : (Int16.ofInt (1023)).toInt32 = nI 1023 := by decide +kernel
theorem sc_1024 : (Int16.ofInt (1024)).toInt32 = nI 1024 := by decide +kernel
theorem sc_1095 : (Int16.ofInt (1095)).toInt32 = nI 1095 := by decide +kernel
theorem sc_5475 : (Int16.ofInt (5475)).toInt32 = nI 5475 := by decide +kernel
theorem sc_9999 : (Int16.ofInt (9999)).toInt32 = nI 9999 := by decide +kernel
theorem sc_10000 : (Int16.ofInt (10000)).toInt32 = nI 10000 := by decide +kernel
end
section
/-! ===== the heap under the abstract state ===== -/
set_option maxRecDepth 100000 in
theorem cl_in0 : ∀ ci, ci < 12 → (u_ws (cR ci) (cT ci) (cN ci)).all (fun w => decide (w ∈ BIG)) = true := by decide +kernel
theorem cl_in (ci : Nat) (h : ci < 12) : ∀ w ∈ u_ws (cR ci) (cT ci) (cN ci), w ∈ BIG := fun w hw => of_decide_eq_true (List.all_eq_true.mp (cl_in0 ci h) w hw)
theorem cl_def : ∀ ci, ci < 12 → ∀ k, k < cN ci → defaultValue (cTy ci k) = if fRef ci k = true then .null else .int 0 := by decide +kernel
/-- the link of a field: own class, place in its pool, class number and field number -/
def FL (own : String) (idx ci k : Nat) : Prop := ci < 12 ∧ k < cN ci ∧ Cond.fieldLink own idx (cT ci k).1 (cT ci k).2.1 (cT ci k).2.2.1 ∈ BIG
theorem AH.cell {E : VE} {σ : Sg} {H : Heap} {a t : Nat} (hA : AH E σ H) (hty : sT σ a = t) (ht : t ≠ 0) : (eH E).size ≤ a ∧ cOK E σ a t H := by
  have h := hA.2.2.2.1 a (by rw [hty]; exact ht)
  rw [hty] at h
  exact h
theorem cOK.kept {E : VE} {σ σ' : Sg} {H H' : Heap} {a t : Nat} (h : cOK E σ a t H) (hq : H'[a]? = H[a]?) (hI : ∀ k, sI σ' t a k = sI σ t a k) (hR : ∀ k, sR σ' t a k = sR σ t a k) : cOK E σ' a t H' := by
  have eI : sI σ' t a = sI σ t a := funext hI
  have eR : sR σ' t a = sR σ t a := funext hR
  have eF : fv σ' t a = fv σ t a := funext fun k => by unfold fv; rw [hI, hR]
  unfold cOK at h ⊢
  rw [eI, eR, eF]
  split
  · rename_i h1
    rw [if_pos h1] at h
    exact h.kept hq
  · rename_i h1
    rw [if_neg h1] at h
    split
    · rename_i h2
      rw [if_pos h2] at h
      rw [hq]; exact h
    · rename_i h2
      rw [if_neg h2] at h
      rw [hq]; exact h
theorem cOK.lt {E : VE} {σ : Sg} {H : Heap} {a t : Nat} (h : cOK E σ a t H) : a < H.size := by
  unfold cOK at h
  split at h
  · obtain ⟨cell, h1, -⟩ := h
    exact (Array.getElem?_eq_some_iff.mp h1).1
  · split at h
    · exact (Array.getElem?_eq_some_iff.mp h).1
    · exact (Array.getElem?_eq_some_iff.mp h).1
theorem RefAt.kept {E : VE} {G : Nat → Nat → Int32} {H H' : Heap} (h : RefAt E G H) (hq : ∀ k, rU k → H'[eQ E k]? = H[eQ E k]?) : RefAt E G H' :=
  ⟨h.1, h.2.1, h.2.2.1.kept (hq 48 (Or.inl rfl)), fun k hk => by rw [hq k (Or.inr hk)]; exact h.2.2.2 k hk⟩
theorem RefAt.lt {E : VE} {G : Nat → Nat → Int32} {H : Heap} (h : RefAt E G H) : ∀ k, rU k → eQ E k < H.size := by
  intro k hk
  rcases hk with rfl | hk
  · obtain ⟨cell, h1, -⟩ := h.2.2.1
    exact (Array.getElem?_eq_some_iff.mp h1).1
  · exact (Array.getElem?_eq_some_iff.mp (h.2.2.2 k hk)).1
theorem AH.put {E : VE} {σ σ' : Sg} {H H' : Heap} {a t : Nat} (hA : AH E σ H) (hty : sT σ a = t) (h0 : t ≠ 0) (z : H'.size = H.size) (oq : ∀ q, q ≠ a → H'[q]? = H[q]?) (hN : sN σ' = sN σ) (hT : ∀ b, sT σ' b = sT σ b) (hG : sG σ' = sG σ)
    (hI : ∀ b, b ≠ a → ∀ t' k, sI σ' t' b k = sI σ t' b k) (hR : ∀ b, b ≠ a → ∀ t' k, sR σ' t' b k = sR σ t' b k) (hc : cOK E σ' a t H') : AH E σ' H' := by
  have ha := hA.cell hty h0
  refine ⟨by rw [z, hN]; exact hA.1, by rw [hN]; exact hA.2.1, fun q hq => ?_, fun b hb => ?_, fun hf => ?_⟩
  · rw [oq q (by intro e; rw [e] at hq; omega)]
    exact hA.2.2.1 q hq
  · rw [hT] at hb ⊢
    by_cases e : b = a
    · subst e
      rw [hty]
      exact ⟨ha.1, hc⟩
    · have h := hA.2.2.2.1 b hb
      exact ⟨h.1, h.2.kept (oq b e) (hI b e _) (hR b e _)⟩
  · obtain ⟨h1, h2⟩ := hA.2.2.2.2 hf
    refine ⟨?_, fun k hk => by rw [hT]; exact h2 k hk⟩
    rw [hG]
    exact h1.kept (fun k hk => oq _ (fun e => h0 (by rw [← hty, ← e]; exact h2 k hk)))
theorem AH.new {E : VE} {σ : Sg} {H H' : Heap} {t : Nat} (hA : AH E σ H) (z : H'.size = sN σ + 1) (oq : ∀ q, q < sN σ → H'[q]? = H[q]?) (hc : cOK E (wN σ t) (sN σ) t H') : AH E (wN σ t) H' := by
  have hlt : ∀ b, sT σ b ≠ 0 → b < sN σ := fun b hb => by rw [← hA.1]; exact (hA.2.2.2.1 b hb).2.lt
  refine ⟨z, by rw [sN_wN]; exact Nat.le_succ_of_le hA.2.1, fun q hq => ?_, fun b hb => ?_, fun hf => ?_⟩
  · rw [oq q (Nat.lt_of_lt_of_le hq hA.2.1)]
    exact hA.2.2.1 q hq
  · rw [sT_wN] at hb ⊢
    by_cases e : b = sN σ
    · rw [if_pos e]
      subst e
      exact ⟨hA.2.1, hc⟩
    · rw [if_neg e] at hb ⊢
      have h := hA.2.2.2.1 b hb
      refine ⟨h.1, h.2.kept (oq b (hlt b hb)) (fun k => ?_) (fun k => ?_)⟩
      · rw [sI_wN, if_neg (fun q => e q.2)]
      · rw [sR_wN, if_neg (fun q => e q.2)]
  · obtain ⟨h1, h2⟩ := hA.2.2.2.2 hf
    have hl : ∀ k, rU k → eQ E k < sN σ := fun k hk => by rw [← hA.1]; exact h1.lt k hk
    refine ⟨?_, fun k hk => ?_⟩
    · rw [sG_wN]
      exact h1.kept (fun k hk => oq _ (hl k hk))
    · rw [sT_wN, if_neg (Nat.ne_of_lt (hl k hk))]
      exact h2 k hk
/-- the model's rows anew -/
theorem AH.putG {E : VE} {σ : Sg} {H H' : Heap} {G' : Nat → Nat → Int32} {q0 : Nat} (hA : AH E σ H) (hf : eF E = true) (hq0 : rU q0) (z : H'.size = H.size) (oq : ∀ q, q ≠ eQ E q0 → H'[q]? = H[q]?) (hR : RefAt E G' H') : AH E (wG σ G') H' := by
  obtain ⟨h1, h2⟩ := hA.2.2.2.2 hf
  refine ⟨by rw [z]; exact hA.1, hA.2.1, fun q hq => ?_, fun b hb => ?_, fun _ => ⟨hR, h2⟩⟩
  · rw [oq q (by intro e; have := h1.1 q0 hq0; rw [← e] at this; omega)]
    exact hA.2.2.1 q hq
  · have h := hA.2.2.2.1 b hb
    exact ⟨h.1, h.2.kept (oq b (fun e => hb (by rw [e]; exact h2 q0 hq0))) (fun _ => rfl) (fun _ => rfl)⟩
section HW
variable {E : VE} {X : VX} {own mn : String} {cc : ByteArray} {nL : Nat} {ret : Option FieldType} {d mc ms : Nat} {Q : State → Prop} {nc ns pc : Nat} {arr : Array Slot} {st : List Value} {H : Heap} {locs : List Loc} {ci k idx a : Nat} {Vf : Nat → Value}
/-- a field is read -/
theorem getW (C : CX E X own mn cc nL ret d mc ms) (hf : FL own idx ci k) (hO : t_OB a ((eD E).1 ci) (cN ci) ((eD E).2 ci) H Vf) (hd : decode cc pc = .ok (.getfield idx, 3))
    (kk : W (xP X) (eL E) (xE X) (xR X) (xS X) (xM X) (xA X) (xB X) (xT X) (xC X) H locs nc ns Q (F0 (xM X) (pc + 3) arr (Vf k :: st))) : W (xP X) (eL E) (xE X) (xR X) (xS X) (xM X) (xA X) (xB X) (xT X) (xC X) H locs nc ns Q (F0 (xM X) pc arr (.ref a :: st)) := by
  obtain ⟨hci, hk, hfl⟩ := hf
  obtain ⟨cell, q1, q2, q3, q4⟩ := hO
  have hts := C.2.2.2.2.1
  obtain ⟨hS, hfc, kC, hkC, hkind⟩ := C.2.2.2.2.2.1.1.1 ci _ (cl_at ci hci)
  obtain ⟨cf, kf, fi, f, hi, hsl⟩ := hS k hk
  refine W.getf C.1 C.2.1 C.2.2.2.1 (hts _ hfl) hi (u_facts hfc hkC (u_lays hts (cl_in ci hci) hk) hi).1 q1 (by rw [q3]; exact fun h => by cases h) (v := Vf k) ?_ rfl rfl hd kk
  rw [hsl, q4 k hk]
/-- a field is written -/
theorem putW {v : Value} (C : CX E X own mn cc nL ret d mc ms) (hf : FL own idx ci k) (hO : t_OB a ((eD E).1 ci) (cN ci) ((eD E).2 ci) H Vf) (hfin : (cT ci k).2.2.2 = false ∨ ((cT ci k).2.2.2 = true ∧ mn = "<init>" ∧ (cT ci k).1 = own)) (hn : narrow (cTy ci k) v = v) (hfit : fits (cTy ci k) v = true) (hd : decode cc pc = .ok (.putfield idx, 3))
    (kk : ∀ (H' : Heap) (sl : Nat), t_OB a ((eD E).1 ci) (cN ci) ((eD E).2 ci) H' (updV Vf k v) → H'.size = H.size → (∀ q, q ≠ a → H'[q]? = H[q]?) → W (xP X) (eL E) (xE X) (xR X) (xS X) (xM X) (xA X) (xB X) (xT X) (xC X) H' (locs ++ [⟨a, sl⟩]) nc ns Q (F0 (xM X) (pc + 3) arr st)) : W (xP X) (eL E) (xE X) (xR X) (xS X) (xM X) (xA X) (xB X) (xT X) (xC X) H locs nc ns Q (F0 (xM X) pc arr (v :: .ref a :: st)) := by
  obtain ⟨hci, hk, hfl⟩ := hf
  obtain ⟨cell, q1, q2, q3, q4⟩ := hO
  have hts := C.2.2.2.2.1
  have hin := cl_in ci hci
  have hK := C.2.2.2.2.2.1.1
  have hap := va_apart (own := own) hts hin (cTy ci) (cl_ty ci hci) (cl_nm ci hci) hK (cl_at ci hci)
  obtain ⟨hS, hfc, kC, hkC, hkind⟩ := hK.1 ci _ (cl_at ci hci)
  obtain ⟨cf, kf, fi, f, hi, hsl⟩ := hS k hk
  have hlay := hts _ (hin _ (u_in_lay hk))
  unfold u_lay at hlay
  have hst := (u_facts hfc hkC (u_lays hts hin hk) hi).1
  rcases hfin with hfin | ⟨hfin, hmn, hown⟩
  · rw [if_neg (by rw [hfin]; decide)] at hlay
    have h6 := u_store hfc hkC hkind hlay hi (cl_ty ci hci k hk) hn hfit
    refine W.putK C.1 C.2.1 (f := f) ⟨C.2.2.2.1, hts _ hfl, ⟨_, _, _, hi⟩, hst⟩ (by rw [q2]; exact h6) q1 q3 (by rw [hsl]; exact k2_hasslot (q4 k hk)) rfl rfl hd fun H' e1 e2 e3 => ?_
    rw [hsl] at e1 ⊢
    exact kk H' _ ⟨_, e1, q2, q3, t_set q4 hap hk v⟩ e2 e3
  · rw [if_pos hfin] at hlay
    have hcf : (xM X).cls = cf := by
      obtain ⟨_, _, c', _, _, _, -, -, hf', -, -, -, hown2, -⟩ := Cond.laysFinal_spec hlay
      have e1 : c' = cf := by have := hi.symm.trans hf'; simp at this; exact this.1.symm
      rw [hown] at hown2
      rw [← e1]; exact Option.some.inj (C.2.2.2.1.symm.trans hown2)
    have h6 := u_fits hfc hkC hkind (Or.inr hlay) hi (cl_ty ci hci k hk) hn hfit
    refine W.putFinK C.1 C.2.1 C.2.2.2.1 (hts _ hfl) hi hst hcf (C.2.2.2.2.2.2.2.1.trans hmn) (by rw [q2]; exact h6) q1 q3 (by rw [hsl]; exact k2_hasslot (q4 k hk)) rfl rfl hd fun H' e1 e2 e3 => ?_
    rw [hsl] at e1 ⊢
    exact kk H' _ ⟨_, e1, q2, q3, t_set q4 hap hk v⟩ e2 e3
end HW
theorem locs_add {E : VE} {locs : List Loc} {a sl : Nat} (h : ∀ q ∈ locs, (eH E).size ≤ q.base) (ha : (eH E).size ≤ a) : ∀ q ∈ locs ++ [(⟨a, sl⟩ : Loc)], (eH E).size ≤ q.base := by
  intro q hq
  rcases List.mem_append.mp hq with h1 | h1
  · exact h q h1
  · rw [List.mem_singleton.mp h1]; exact ha
section VHEAP
variable {E : VE} {X : VX} {own mn : String} {cc : ByteArray} {nL : Nat} {ret : Option FieldType} {d mc ms : Nat} {Q : State → Prop} {σ : Sg} {nc ns pc : Nat} {ls : List (Option Value)} {st : List Value} {idx ci k a t : Nat}
theorem cOK.ob {E : VE} {σ : Sg} {H : Heap} {a ci : Nat} (hci : ci < 12) (h : cOK E σ a (ci + 1) H) : t_OB a ((eD E).1 ci) (cN ci) ((eD E).2 ci) H (fv σ (ci + 1) a) := by
  unfold cOK at h
  rw [if_pos (by omega)] at h
  exact h
theorem cOK.of_ob {E : VE} {σ : Sg} {H : Heap} {a ci : Nat} (hci : ci < 12) (h : t_OB a ((eD E).1 ci) (cN ci) ((eD E).2 ci) H (fv σ (ci + 1) a)) : cOK E σ a (ci + 1) H := by
  unfold cOK
  rw [if_pos (by omega)]
  exact h
theorem V.geti (hd : decode cc pc = .ok (.getfield idx, 3)) (hf : FL own idx ci k) (hr : fRef ci k = false) (hty : sT σ a = ci + 1) (kk : V E X own mn cc nL ret d mc ms Q σ nc ns (pc + 3) ls (.int (sI σ (ci + 1) a k) :: st)) : V E X own mn cc nL ret d mc ms Q σ nc ns pc ls (.ref a :: st) := by
  intro C H locs arr hA hl hL
  refine getW C hf ((hA.cell hty (by omega)).2.ob hf.1) hd ?_
  have e : fv σ (ci + 1) a k = .int (sI σ (ci + 1) a k) := by unfold fv; rw [if_neg (by rw [show ci + 1 - 1 = ci from rfl, hr]; decide)]
  rw [e]
  exact kk C H locs arr hA hl hL
theorem V.getr (hd : decode cc pc = .ok (.getfield idx, 3)) (hf : FL own idx ci k) (hr : fRef ci k = true) (hty : sT σ a = ci + 1) {r : Option Nat} (hv : sR σ (ci + 1) a k = r) (kk : V E X own mn cc nL ret d mc ms Q σ nc ns (pc + 3) ls (va_rf r :: st)) : V E X own mn cc nL ret d mc ms Q σ nc ns pc ls (.ref a :: st) := by
  intro C H locs arr hA hl hL
  refine getW C hf ((hA.cell hty (by omega)).2.ob hf.1) hd ?_
  have e : fv σ (ci + 1) a k = va_rf r := by unfold fv; rw [if_pos (by rw [show ci + 1 - 1 = ci from rfl, hr]), hv]
  rw [e]
  exact kk C H locs arr hA hl hL
theorem V.getS (hd : decode cc pc = .ok (.getfield idx, 3)) (hf : FL own idx ci k) (hr : fRef ci k = true) (hty : sT σ a = ci + 1) {b : Nat} (hv : sR σ (ci + 1) a k = some b) (kk : V E X own mn cc nL ret d mc ms Q σ nc ns (pc + 3) ls (.ref b :: st)) : V E X own mn cc nL ret d mc ms Q σ nc ns pc ls (.ref a :: st) := V.getr hd hf hr hty hv kk
theorem V.getN (hd : decode cc pc = .ok (.getfield idx, 3)) (hf : FL own idx ci k) (hr : fRef ci k = true) (hty : sT σ a = ci + 1) (hv : sR σ (ci + 1) a k = none) (kk : V E X own mn cc nL ret d mc ms Q σ nc ns (pc + 3) ls (.null :: st)) : V E X own mn cc nL ret d mc ms Q σ nc ns pc ls (.ref a :: st) := V.getr hd hf hr hty hv kk
theorem fv_updI {σ : Sg} {ci a k : Nat} {v : Int32} (hr : fRef ci k = false) : ∀ j, updV (fv σ (ci + 1) a) k (.int v) j = fv (wI σ (ci + 1) a k v) (ci + 1) a j := by
  intro j
  unfold updV fv
  rw [sI_wI, sR_wI]
  by_cases e : j = k
  · subst e
    rw [if_pos rfl, show ci + 1 - 1 = ci from rfl, hr, if_neg (by decide), if_pos ⟨rfl, rfl, rfl⟩]
  · have e2 : ¬ (ci + 1 = ci + 1 ∧ a = a ∧ j = k) := fun q => e q.2.2
    rw [if_neg e, if_neg e2]
theorem fv_updR {σ : Sg} {ci a k : Nat} {v : Option Nat} (hr : fRef ci k = true) : ∀ j, updV (fv σ (ci + 1) a) k (va_rf v) j = fv (wR σ (ci + 1) a k v) (ci + 1) a j := by
  intro j
  unfold updV fv
  rw [sI_wR, sR_wR]
  by_cases e : j = k
  · subst e
    rw [if_pos rfl, show ci + 1 - 1 = ci from rfl, hr, if_pos rfl, if_pos ⟨rfl, rfl, rfl⟩]
  · have e2 : ¬ (ci + 1 = ci + 1 ∧ a = a ∧ j = k) := fun q => e q.2.2
    rw [if_neg e, if_neg e2]
/-- a number's field is written; z: a truth value, 0 or 1 -/
theorem V.puti0 {v : Int32} (hd : decode cc pc = .ok (.putfield idx, 3)) (hf : FL own idx ci k) (hfin : (cT ci k).2.2.2 = false ∨ ((cT ci k).2.2.2 = true ∧ mn = "<init>" ∧ (cT ci k).1 = own)) (hr : fRef ci k = false) (hn : narrow (cTy ci k) (.int v) = .int v) (hfit : fits (cTy ci k) (.int v) = true) (hty : sT σ a = ci + 1) (kk : V E X own mn cc nL ret d mc ms Q (wI σ (ci + 1) a k v) nc ns (pc + 3) ls st) : V E X own mn cc nL ret d mc ms Q σ nc ns pc ls (.int v :: .ref a :: st) := by
  intro C H locs arr hA hl hL
  have hc := hA.cell hty (by omega)
  refine putW C hf (hc.2.ob hf.1) hfin hn hfit hd fun H' sl hO z oq => ?_
  refine kk C H' _ arr (hA.put hty (by omega) z oq rfl (fun _ => rfl) rfl (fun b hb t' k' => ?_) (fun _ _ _ _ => rfl) (cOK.of_ob hf.1 (hO.to fun j _ => fv_updI hr j))) (locs_add hl hc.1) hL
  rw [sI_wI, if_neg (fun q => hb q.2.1)]
theorem V.puti {v : Int32} (hd : decode cc pc = .ok (.putfield idx, 3)) (hf : FL own idx ci k) (hfin : (cT ci k).2.2.2 = false) (hi : cTy ci k = .int) (hty : sT σ a = ci + 1) (kk : V E X own mn cc nL ret d mc ms Q (wI σ (ci + 1) a k v) nc ns (pc + 3) ls st) : V E X own mn cc nL ret d mc ms Q σ nc ns pc ls (.int v :: .ref a :: st) :=
  V.puti0 hd hf (Or.inl hfin) (by unfold fRef; rw [hi]) (by rw [hi]; rfl) (by rw [hi]; rfl) hty kk
theorem V.putFi {v : Int32} (hd : decode cc pc = .ok (.putfield idx, 3)) (hf : FL own idx ci k) (hfin : (cT ci k).2.2.2 = true) (hmn : mn = "<init>") (hown : (cT ci k).1 = own) (hi : cTy ci k = .int) (hty : sT σ a = ci + 1) (kk : V E X own mn cc nL ret d mc ms Q (wI σ (ci + 1) a k v) nc ns (pc + 3) ls st) : V E X own mn cc nL ret d mc ms Q σ nc ns pc ls (.int v :: .ref a :: st) :=
  V.puti0 hd hf (Or.inr ⟨hfin, hmn, hown⟩) (by unfold fRef; rw [hi]) (by rw [hi]; rfl) (by rw [hi]; rfl) hty kk
theorem V.putz {v : Int32} (hd : decode cc pc = .ok (.putfield idx, 3)) (hf : FL own idx ci k) (hfin : (cT ci k).2.2.2 = false) (hi : cTy ci k = .boolean) (h01 : v = 0 ∨ v = 1) (hty : sT σ a = ci + 1) (kk : V E X own mn cc nL ret d mc ms Q (wI σ (ci + 1) a k v) nc ns (pc + 3) ls st) : V E X own mn cc nL ret d mc ms Q σ nc ns pc ls (.int v :: .ref a :: st) :=
  V.puti0 hd hf (Or.inl hfin) (by unfold fRef; rw [hi]) (by rw [hi]; rcases h01 with rfl | rfl <;> rfl) (by rw [hi]; rcases h01 with rfl | rfl <;> rfl) hty kk
theorem V.putFz {v : Int32} (hd : decode cc pc = .ok (.putfield idx, 3)) (hf : FL own idx ci k) (hfin : (cT ci k).2.2.2 = true) (hmn : mn = "<init>") (hown : (cT ci k).1 = own) (hi : cTy ci k = .boolean) (h01 : v = 0 ∨ v = 1) (hty : sT σ a = ci + 1) (kk : V E X own mn cc nL ret d mc ms Q (wI σ (ci + 1) a k v) nc ns (pc + 3) ls st) : V E X own mn cc nL ret d mc ms Q σ nc ns pc ls (.int v :: .ref a :: st) :=
  V.puti0 hd hf (Or.inr ⟨hfin, hmn, hown⟩) (by unfold fRef; rw [hi]) (by rw [hi]; rcases h01 with rfl | rfl <;> rfl) (by rw [hi]; rcases h01 with rfl | rfl <;> rfl) hty kk
def isRefTy : FieldType → Bool
  | .object _ => true
  | .array _ => true
  | _ => false
theorem V.putr0 {v : Option Nat} (hd : decode cc pc = .ok (.putfield idx, 3)) (hf : FL own idx ci k) (hfin : (cT ci k).2.2.2 = false ∨ ((cT ci k).2.2.2 = true ∧ mn = "<init>" ∧ (cT ci k).1 = own)) (hi : isRefTy (cTy ci k) = true) (hty : sT σ a = ci + 1) (kk : V E X own mn cc nL ret d mc ms Q (wR σ (ci + 1) a k v) nc ns (pc + 3) ls st) : V E X own mn cc nL ret d mc ms Q σ nc ns pc ls (va_rf v :: .ref a :: st) := by
  have hr : fRef ci k = true := by
    unfold fRef
    revert hi
    cases cTy ci k <;> simp [isRefTy]
  have hnf : narrow (cTy ci k) (va_rf v) = va_rf v ∧ fits (cTy ci k) (va_rf v) = true := by
    revert hi
    cases cTy ci k <;> simp [isRefTy] <;> cases v <;> simp [va_rf, narrow, fits, Value.isRef]
  intro C H locs arr hA hl hL
  have hc := hA.cell hty (by omega)
  refine putW C hf (hc.2.ob hf.1) hfin hnf.1 hnf.2 hd fun H' sl hO z oq => ?_
  refine kk C H' _ arr (hA.put hty (by omega) z oq rfl (fun _ => rfl) rfl (fun _ _ _ _ => rfl) (fun b hb t' k' => ?_) (cOK.of_ob hf.1 (hO.to fun j _ => fv_updR hr j))) (locs_add hl hc.1) hL
  rw [sR_wR, if_neg (fun q => hb q.2.1)]
theorem V.putr {v : Nat} (hd : decode cc pc = .ok (.putfield idx, 3)) (hf : FL own idx ci k) (hfin : (cT ci k).2.2.2 = false) (hi : isRefTy (cTy ci k) = true) (hty : sT σ a = ci + 1) (kk : V E X own mn cc nL ret d mc ms Q (wR σ (ci + 1) a k (some v)) nc ns (pc + 3) ls st) : V E X own mn cc nL ret d mc ms Q σ nc ns pc ls (.ref v :: .ref a :: st) := V.putr0 (v := some v) hd hf (Or.inl hfin) hi hty kk
theorem V.putN (hd : decode cc pc = .ok (.putfield idx, 3)) (hf : FL own idx ci k) (hfin : (cT ci k).2.2.2 = false) (hi : isRefTy (cTy ci k) = true) (hty : sT σ a = ci + 1) (kk : V E X own mn cc nL ret d mc ms Q (wR σ (ci + 1) a k none) nc ns (pc + 3) ls st) : V E X own mn cc nL ret d mc ms Q σ nc ns pc ls (.null :: .ref a :: st) := V.putr0 (v := none) hd hf (Or.inl hfin) hi hty kk
theorem V.putFr {v : Nat} (hd : decode cc pc = .ok (.putfield idx, 3)) (hf : FL own idx ci k) (hfin : (cT ci k).2.2.2 = true) (hmn : mn = "<init>") (hown : (cT ci k).1 = own) (hi : isRefTy (cTy ci k) = true) (hty : sT σ a = ci + 1) (kk : V E X own mn cc nL ret d mc ms Q (wR σ (ci + 1) a k (some v)) nc ns (pc + 3) ls st) : V E X own mn cc nL ret d mc ms Q σ nc ns pc ls (.ref v :: .ref a :: st) := V.putr0 (v := some v) hd hf (Or.inr ⟨hfin, hmn, hown⟩) hi hty kk
theorem V.putFN (hd : decode cc pc = .ok (.putfield idx, 3)) (hf : FL own idx ci k) (hfin : (cT ci k).2.2.2 = true) (hmn : mn = "<init>") (hown : (cT ci k).1 = own) (hi : isRefTy (cTy ci k) = true) (hty : sT σ a = ci + 1) (kk : V E X own mn cc nL ret d mc ms Q (wR σ (ci + 1) a k none) nc ns (pc + 3) ls st) : V E X own mn cc nL ret d mc ms Q σ nc ns pc ls (.null :: .ref a :: st) := V.putr0 (v := none) hd hf (Or.inr ⟨hfin, hmn, hown⟩) hi hty kk
end VHEAP
end
section
/-! ===== rows for arrays, new cells, the model's cells, static arrays, answers ===== -/
theorem cOK.ai {E : VE} {σ : Sg} {H : Heap} {a t : Nat} (ht : 13 ≤ t) (hk : aK t < 2) (h : cOK E σ a t H) : H[a]? = some (vp_cell (eA E (aK t)) (aL t, .inl (sI σ t a))) := by
  unfold cOK at h
  rw [if_neg (by omega), if_pos hk] at h
  exact h
theorem cOK.aq {E : VE} {σ : Sg} {H : Heap} {a t : Nat} (ht : 13 ≤ t) (hk : 2 ≤ aK t) (h : cOK E σ a t H) : H[a]? = some (vp_cell (eA E (aK t)) (aL t, .inr (.inr (.inr (.inr (sR σ t a)))))) := by
  unfold cOK at h
  rw [if_neg (by omega), if_neg (by omega)] at h
  exact h
theorem cOK.of_ai {E : VE} {σ : Sg} {H : Heap} {a t : Nat} (ht : 13 ≤ t) (hk : aK t < 2) (h : H[a]? = some (vp_cell (eA E (aK t)) (aL t, .inl (sI σ t a)))) : cOK E σ a t H := by
  unfold cOK
  rw [if_neg (by omega), if_pos hk]
  exact h
theorem cOK.of_aq {E : VE} {σ : Sg} {H : Heap} {a t : Nat} (ht : 13 ≤ t) (hk : 2 ≤ aK t) (h : H[a]? = some (vp_cell (eA E (aK t)) (aL t, .inr (.inr (.inr (.inr (sR σ t a))))))) : cOK E σ a t H := by
  unfold cOK
  rw [if_neg (by omega), if_neg (by omega)]
  exact h
theorem in_nI {x : Int32} {j n : Nat} (hx : x = nI j) (hj : j < n) (hn : n < 2 ^ 31) : vp_in x n ∧ x.toNatClampNeg = j := by
  subst hx
  exact ⟨vp_in_nI hj hn, nI_clamp (by omega)⟩
theorem aK_lt : ∀ t, aK t < 7 := by
  intro t
  unfold aK
  split <;> try omega
  split
  · unfold rK
    split <;> omega
  · omega
section VARR
variable {E : VE} {X : VX} {own mn : String} {cc : ByteArray} {nL : Nat} {ret : Option FieldType} {d mc ms : Nat} {Q : State → Prop} {σ : Sg} {nc ns pc : Nat} {ls : List (Option Value)} {st : List Value} {idx a t j : Nat}
theorem kTy {E : VE} {U : State} (hK : va_K (eD E) vwCl (eTys E) U) {k : Nat} (hk : k < 7) : ArrOfT U (eA E k) (aTy k) ∧ va_RA U (eA E k) (aTy k) := hK.2 k _ (eTys_at E k hk)
theorem V.iald {x : Int32} (hd : decode cc pc = .ok (.iaload, 1)) (hty : sT σ a = t) (ht : 13 ≤ t) (hk : aK t = 0) (hx : x = nI j) (hj : j < aL t) (hL31 : aL t < 2 ^ 31) (kk : V E X own mn cc nL ret d mc ms Q σ nc ns (pc + 1) ls (.int (sI σ t a j) :: st)) : V E X own mn cc nL ret d mc ms Q σ nc ns pc ls (.int x :: .ref a :: st) := by
  intro C H locs arr hA hl hL
  have hc := (hA.cell hty (by omega)).2.ai ht (by omega)
  obtain ⟨h1, h2⟩ := in_nI hx hj hL31
  rw [hk] at hc
  refine va_iald (D := eD E) (cl := vwCl) (ws := [(a, .inl (eA E 0, aL t, .inl (sI σ t a)))]) C.1 C.2.1 C.2.2.2.2.2.1.1 (fun k q hq => ?_) 0 0 rfl (eTys_at E 0 (by omega)) h1 hd ?_
  · have hz : k < 1 := (List.getElem?_eq_some_iff.mp hq).1
    rw [show k = 0 by omega] at hq
    cases hq
    exact hc
  · rw [h2]
    exact kk C H locs arr hA hl hL
theorem V.aald {x : Int32} {r : Option Nat} (hd : decode cc pc = .ok (.aaload, 1)) (hty : sT σ a = t) (ht : 13 ≤ t) (hk : 2 ≤ aK t) (hx : x = nI j) (hj : j < aL t) (hL31 : aL t < 2 ^ 31) (hv : sR σ t a j = r) (kk : V E X own mn cc nL ret d mc ms Q σ nc ns (pc + 1) ls (va_rf r :: st)) : V E X own mn cc nL ret d mc ms Q σ nc ns pc ls (.int x :: .ref a :: st) := by
  intro C H locs arr hA hl hL
  have hc := (hA.cell hty (by omega)).2.aq ht hk
  obtain ⟨h1, h2⟩ := in_nI hx hj hL31
  have hlt : x.toNatClampNeg < aL t := by omega
  have hK := (kTy C.2.2.2.2.2.1.1 (aK_lt t)).1
  have hre : (aTy (aK t)).isReference = true := by
    have : ∀ n, n < 7 → 2 ≤ n → (aTy n).isReference = true := by decide
    exact this _ (aK_lt t) hk
  refine W.aald (v := va_rf (sR σ t a j)) (ty := aTy (aK t)) C.1 C.2.1 hc (hK _ (fun j => va_rf (sR σ t a j))) hre (fun q => by cases q) (by show ¬ (x < 0 ∨ (arrV _ _ _).slots.size ≤ _); rw [arrV_size]; exact h1) (by show (arrV _ _ _).slots[_]? = _; rw [arrV_read _ _ hlt, h2]) rfl rfl hd ?_
  rw [hv]
  exact kk C H locs arr hA hl hL
theorem V.aaldS {x : Int32} {b : Nat} (hd : decode cc pc = .ok (.aaload, 1)) (hty : sT σ a = t) (ht : 13 ≤ t) (hk : 2 ≤ aK t) (hx : x = nI j) (hj : j < aL t) (hL31 : aL t < 2 ^ 31) (hv : sR σ t a j = some b) (kk : V E X own mn cc nL ret d mc ms Q σ nc ns (pc + 1) ls (.ref b :: st)) : V E X own mn cc nL ret d mc ms Q σ nc ns pc ls (.int x :: .ref a :: st) := V.aald hd hty ht hk hx hj hL31 hv kk
theorem V.iast {x v : Int32} (hd : decode cc pc = .ok (.iastore, 1)) (hty : sT σ a = t) (ht : 13 ≤ t) (hk : aK t = 0) (hx : x = nI j) (hj : j < aL t) (hL31 : aL t < 2 ^ 31) (kk : V E X own mn cc nL ret d mc ms Q (wI σ t a j v) nc ns (pc + 1) ls st) : V E X own mn cc nL ret d mc ms Q σ nc ns pc ls (.int v :: .int x :: .ref a :: st) := by
  intro C H locs arr hA hl hL
  have hcl := hA.cell hty (by omega)
  have hc := hcl.2.ai ht (by omega)
  obtain ⟨h1, h2⟩ := in_nI hx hj hL31
  have hK := (kTy C.2.2.2.2.2.1.1 (k := 0) (by omega)).1
  rw [hk] at hc
  refine W.iast C.1 C.2.1 hc (hK _ (fun j => .int (sI σ t a j))) (fun q => by cases q) (by show ¬ (x < 0 ∨ (arrV _ _ _).slots.size ≤ _); rw [arrV_size]; exact h1) rfl rfl hd fun H1 e z oq => ?_
  refine kk C H1 _ arr (hA.put hty (by omega) z oq rfl (fun _ => rfl) rfl (fun b hb t' k' => ?_) (fun _ _ _ _ => rfl) (cOK.of_ai ht (by omega) ?_)) (locs_add hl hcl.1) hL
  · rw [sI_wI, if_neg (fun q => hb q.2.1)]
  · rw [e, hk]
    rw [vp_cell_i, vp_cell_i, arrV_store]
    congr 2
    funext q
    rw [h2]
    by_cases hq : q = j
    · subst hq
      simp [updV, sI_wI]
    · simp [updV, sI_wI, hq]
/-- references into a row; their objects are of the row's class -/
theorem V.aast {x : Int32} {b : Nat} (hd : decode cc pc = .ok (.aastore, 1)) (hty : sT σ a = t) (ht : 13 ≤ t) (hk : 2 ≤ aK t) (hx : x = nI j) (hj : j < aL t) (hL31 : aL t < 2 ^ 31) (hb : sT σ b = aC (aK t) + 1) (kk : V E X own mn cc nL ret d mc ms Q (wR σ t a j (some b)) nc ns (pc + 1) ls st) : V E X own mn cc nL ret d mc ms Q σ nc ns pc ls (.ref b :: .int x :: .ref a :: st) := by
  intro C H locs arr hA hl hL
  have hcl := hA.cell hty (by omega)
  have hc := hcl.2.aq ht hk
  obtain ⟨h1, h2⟩ := in_nI hx hj hL31
  have hlt : x.toNatClampNeg < aL t := by omega
  have hci : aC (aK t) < 12 := by
    have : ∀ n, n < 7 → aC n < 12 := by decide
    exact this _ (aK_lt t)
  have hK := kTy C.2.2.2.2.2.1.1 (aK_lt t)
  have hO := (hA.cell hb (by omega)).2.ob hci
  obtain ⟨cellV, g1, g2, g3, -⟩ := hO
  have hcls := (C.2.2.2.2.2.1.1.1 _ _ (cl_at _ hci)).2
  have hty2 : aTy (aK t) = .object (cR (aC (aK t))) := by
    have : ∀ n, n < 7 → 2 ≤ n → aTy n = .object (cR (aC n)) := by decide
    exact this _ (aK_lt t) hk
  rw [hty2] at hK
  obtain ⟨kA, comp, k1, k2, k3, -⟩ := hK.2
  have hcomp : comp = (eD E).1 (aC (aK t)) := Option.some.inj (k3.symm.trans hcls.1)
  subst hcomp
  obtain ⟨kC, hkC, -⟩ := hcls.2
  refine W.aast C.1 C.2.1 hc (fun q h => by cases h) (fun h => by cases h) k1 k2 rfl hkC ⟨fun q => h1 (Or.inl q), by show _ < (arrV _ _ _).slots.size; rw [arrV_size]; exact hlt⟩ g1 (fun q h => by rw [g3] at h; cases h) (by rw [g2]; exact hkC) (by rw [g2]; exact va_assign hcls) rfl rfl hd fun H1 e z oq => ?_
  refine kk C H1 _ arr (hA.put hty (by omega) z oq rfl (fun _ => rfl) rfl (fun _ _ _ _ => rfl) (fun b' hb' t' k' => ?_) (cOK.of_aq ht hk ?_)) (locs_add hl hcl.1) hL
  · rw [sR_wR, if_neg (fun q => hb' q.2.1)]
  · rw [e]
    rw [vp_cell_q, vp_cell_q, arrV_store]
    congr 2
    funext q
    rw [h2]
    by_cases hq : q = j
    · subst hq
      simp [updV, sR_wR, va_rf]
    · simp [updV, sR_wR, hq]
/-- a new object -/
theorem V.new {ci : Nat} (hd : decode cc pc = .ok (.new idx, 3)) (hci : ci < 12) (hcl : Cond.classLink own idx (cR ci) ∈ BIG) (hin : Cond.instantiable (cR ci) (cN ci) ∈ BIG) (hini : Cond.initialized (cR ci) ∈ BIG) (h1 : nc + 1 ≤ mc) (h2 : ns + cN ci ≤ ms) (kk : V E X own mn cc nL ret d mc ms Q (wN σ (ci + 1)) (nc + 1) (ns + cN ci) (pc + 3) ls (.ref (sN σ) :: st)) : V E X own mn cc nL ret d mc ms Q σ nc ns pc ls st := by
  intro C H locs arr hA hl hL
  have hts := C.2.2.2.2.1
  have hKn := C.2.2.2.2.2.1.1.1 ci _ (cl_at ci hci)
  have hR := C.2.2.2.2.2.2.2.2.2
  refine W.newcK C.1 C.2.1 C.2.2.2.1 (hts _ hcl) (hts _ hin) (hts _ hini) rfl hd (by omega) (by omega) hKn.2.1 hA.1 fun H1 kC hkC e1 z1 o1 => ?_
  refine kk C H1 locs arr (hA.new z1 o1 (cOK.of_ob hci ((u_born (cTy ci) hts (cl_in ci hci) hKn hkC e1 (cl_ty ci hci)).to fun j hj => ?_))) hl hL
  rw [cl_def ci hci j hj]
  unfold fv
  rw [show ci + 1 - 1 = ci from rfl, sI_wN, sR_wN, if_pos (⟨rfl, rfl⟩ : ci + 1 = ci + 1 ∧ sN σ = sN σ), if_pos (⟨rfl, rfl⟩ : ci + 1 = ci + 1 ∧ sN σ = sN σ)]
  rfl
/-- a new row of numbers -/
theorem V.newa {x : Int32} {at_ : ArrayType} (t : Nat) (hd : decode cc pc = .ok (.newarray at_, 2)) (hat : newarray.typeOf at_ = aTy (aK t)) (hac : Cond.arrayClass (aTy (aK t)) ∈ BIG) (ht : 13 ≤ t) (hk : aK t < 2) (hx : x = nI (aL t)) (hb : aL t ≤ 200) (h1 : nc + 1 ≤ mc) (h2 : ns + aL t ≤ ms) (kk : V E X own mn cc nL ret d mc ms Q (wN σ t) (nc + 1) (ns + aL t) (pc + 2) ls (.ref (sN σ) :: st)) : V E X own mn cc nL ret d mc ms Q σ nc ns pc ls (.int x :: st) := by
  intro C H locs arr hA hl hL
  have hts := C.2.2.2.2.1
  have hR := C.2.2.2.2.2.2.2.2.2
  have hK := kTy C.2.2.2.2.2.1.1 (aK_lt t)
  have hcb : componentBytes (newarray.typeOf at_) ≤ 8 := by cases at_ <;> decide
  refine va_newaK C.1 C.2.1 (by rw [hat]; exact hts _ hac) rfl hd rfl (by rw [hx]; exact nI_pos (by omega)) (N := aL t) (by rw [hx]; exact nI_clamp (by omega)) (Nat.le_trans (Nat.mul_le_mul hb hcb) (by decide)) (by omega) (by omega) hA.1 fun H1 cA e1 z1 o1 hAr hNm => ?_
  have hz : aTy (aK t) = .int ∨ aTy (aK t) = .boolean := by
    rcases (show aK t = 0 ∨ aK t = 1 by omega) with q | q <;> rw [q]
    · exact Or.inl rfl
    · exact Or.inr rfl
  have hcA : cA = eA E (aK t) := by
    have h3 := hK.2
    rw [hat] at hNm
    rcases hz with q | q <;> rw [q] at h3 hNm <;> exact Option.some.inj (hNm.symm.trans h3)
  subst hcA
  refine kk C H1 locs arr (hA.new z1 o1 (cOK.of_ai ht hk ?_)) hl hL
  rw [e1, vp_cell_i]
  congr 2
  funext q
  rw [sI_wN, if_pos ⟨rfl, rfl⟩, hat]
  rcases hz with w | w <;> rw [w] <;> rfl
/-- a new row of references -/
theorem V.newq {x : Int32} (t : Nat) (hd : decode cc pc = .ok (.anewarray idx, 3)) (hcl : Cond.classLink own idx (cR (aC (aK t))) ∈ BIG) (ht : 13 ≤ t) (hk : 2 ≤ aK t) (hx : x = nI (aL t)) (hb : aL t ≤ 200) (h1 : nc + 1 ≤ mc) (h2 : ns + aL t ≤ ms) (kk : V E X own mn cc nL ret d mc ms Q (wN σ t) (nc + 1) (ns + aL t) (pc + 3) ls (.ref (sN σ) :: st)) : V E X own mn cc nL ret d mc ms Q σ nc ns pc ls (.int x :: st) := by
  intro C H locs arr hA hl hL
  have hts := C.2.2.2.2.1
  have hR := C.2.2.2.2.2.2.2.2.2
  have hK := kTy C.2.2.2.2.2.1.1 (aK_lt t)
  have hAO := C.2.2.2.2.2.1.2.2.1 (aK t) hk (aK_lt t)
  have hcl2 : x.toNatClampNeg = aL t := by rw [hx]; exact nI_clamp (by omega)
  refine W.anew C.1 C.2.1 C.2.2.2.1 (hts _ hcl) (va_AO.use hAO) rfl hd rfl (by rw [hx]; exact nI_pos (by omega)) (by rw [hcl2]; omega) (by omega) (by omega) fun cA kA comp f1 f2 f3 f4 => ?_
  rw [hcl2]
  generalize hH1 : H.push ({ cls := cA, slots := Array.replicate (aL t) .null, vm := .none } : Cell) = H1
  have z1 : H1.size = sN σ + 1 := by rw [← hH1, Array.size_push, hA.1]
  have e1 : H1[sN σ]? = some (arrV cA (aL t) (fun _ => .null)) := by rw [← hH1, ← hA.1, Array.getElem?_push_size, ← arrV_new]
  have o1 : ∀ q : Nat, q < sN σ → H1[q]? = H[q]? := fun q hq => by rw [← hH1, Array.getElem?_push, if_neg (by rw [hA.1]; omega)]
  have hty2 : aTy (aK t) = .object (cR (aC (aK t))) := by
    have : ∀ n, n < 7 → 2 ≤ n → aTy n = .object (cR (aC n)) := by decide
    exact this _ (aK_lt t) hk
  have hcA : cA = eA E (aK t) := by
    have h3 := hK.2
    rw [hty2] at h3
    obtain ⟨kA', comp', k1, k2, k3, k4⟩ := h3
    exact Option.some.inj (f1.symm.trans k4)
  subst hcA
  have w := kk C H1 locs arr (hA.new z1 o1 (cOK.of_aq ht hk (by
    rw [e1, vp_cell_q]
    congr 2
    funext q
    rw [sR_wN, if_pos ⟨rfl, rfl⟩]
    rfl))) hl hL
  rw [hA.1]
  exact w
end VARR
end
section
/-! ===== rows for the model's cells, static arrays, answers, a method's entry, calls ===== -/
theorem rV_upd {q : Nat → Nat} {G : Nat → Nat → Int32} {k : Nat} {v : Int32} (hk : rA k = false) : ∀ j, updV (rV q G) k (.int v) j = rV q (u2 G k 0 v) j := by
  intro j
  unfold updV rV
  by_cases e : j = k
  · subst e
    rw [if_pos rfl, hk, if_neg (by decide)]
    simp [u2]
  · rw [if_neg e]
    have e2 : u2 G k 0 v j 0 = G j 0 := by simp [u2, e]
    rw [e2]
theorem u2_row {G : Nat → Nat → Int32} {k j : Nat} {v : Int32} {i : Nat} (h : i ≠ k) : u2 G k j v i = G i := by
  funext n
  simp [u2, h]
theorem RefAt.ob {E : VE} {G : Nat → Nat → Int32} {H : Heap} (h : RefAt E G H) : t_OB (eQ E 48) ((eD E).1 11) (cN 11) ((eD E).2 11) H (rV (eQ E) G) := h.2.2.1
section VREF
variable {E : VE} {X : VX} {own mn : String} {cc : ByteArray} {nL : Nat} {ret : Option FieldType} {d mc ms : Nat} {Q : State → Prop} {σ : Sg} {nc ns pc : Nat} {ls : List (Option Value)} {st : List Value} {idx k j : Nat} {G : Nat → Nat → Int32}
/-- a number of the model is read -/
theorem V.mgeti (hE : eF E = true) (hd : decode cc pc = .ok (.getfield idx, 3)) (hf : FL own idx 11 k) (hk : rA k = false) (kk : V E X own mn cc nL ret d mc ms Q (wG σ G) nc ns (pc + 3) ls (.int (G k 0) :: st)) : V E X own mn cc nL ret d mc ms Q (wG σ G) nc ns pc ls (.ref (eQ E 48) :: st) := by
  intro C H locs arr hA hl hL
  refine getW C hf (hA.2.2.2.2 hE).1.ob hd ?_
  have e : rV (eQ E) (sG (wG σ G)) k = .int (G k 0) := by unfold rV; rw [if_neg (by rw [hk]; decide)]; rfl
  rw [e]
  exact kk C H locs arr hA hl hL
/-- a row of the model -/
theorem V.mgeta (hE : eF E = true) (hd : decode cc pc = .ok (.getfield idx, 3)) (hf : FL own idx 11 k) (hk : rA k = true) (kk : V E X own mn cc nL ret d mc ms Q (wG σ G) nc ns (pc + 3) ls (.ref (eQ E k) :: st)) : V E X own mn cc nL ret d mc ms Q (wG σ G) nc ns pc ls (.ref (eQ E 48) :: st) := by
  intro C H locs arr hA hl hL
  refine getW C hf (hA.2.2.2.2 hE).1.ob hd ?_
  have e : rV (eQ E) (sG (wG σ G)) k = .ref (eQ E k) := by unfold rV; rw [if_pos hk]
  rw [e]
  exact kk C H locs arr hA hl hL
theorem V.mputi {v : Int32} (hE : eF E = true) (hd : decode cc pc = .ok (.putfield idx, 3)) (hf : FL own idx 11 k) (hk : rA k = false) (hfin : (cT 11 k).2.2.2 = false) (hi : cTy 11 k = .int) (kk : V E X own mn cc nL ret d mc ms Q (wG σ (u2 G k 0 v)) nc ns (pc + 3) ls st) : V E X own mn cc nL ret d mc ms Q (wG σ G) nc ns pc ls (.int v :: .ref (eQ E 48) :: st) := by
  intro C H locs arr hA hl hL
  have hR := (hA.2.2.2.2 hE).1
  refine putW C hf hR.ob (Or.inl hfin) (by rw [hi]; rfl) (by rw [hi]; rfl) hd fun H' sl hO z oq => ?_
  refine kk C H' _ arr (hA.putG (G' := u2 G k 0 v) hE (Or.inl rfl) z oq ⟨hR.1, hR.2.1, hO.to (fun i _ => rV_upd hk i), fun i hi => ?_⟩) (locs_add hl (hR.1 48 (Or.inl rfl))) hL
  have hne : i ≠ k := fun e => by rw [e, hk] at hi; cases hi
  rw [u2_row hne, oq _ (fun e => by
    have := hR.2.1 i 48 (Or.inr hi) (Or.inl rfl) e
    subst this
    cases hi)]
  exact hR.2.2.2 i hi
theorem rL_lt : ∀ k, rL k < 2 ^ 31 := by
  intro k
  unfold rL
  split <;> decide
theorem V.miald {x : Int32} (hE : eF E = true) (hd : decode cc pc = .ok (.iaload, 1)) (hk : rA k = true) (hz : rK k = 0) (hx : x = nI j) (hj : j < rL k) (kk : V E X own mn cc nL ret d mc ms Q (wG σ G) nc ns (pc + 1) ls (.int (G k j) :: st)) : V E X own mn cc nL ret d mc ms Q (wG σ G) nc ns pc ls (.int x :: .ref (eQ E k) :: st) := by
  intro C H locs arr hA hl hL
  have hc := (hA.2.2.2.2 hE).1.2.2.2 k hk
  rw [hz] at hc
  obtain ⟨h1, h2⟩ := in_nI hx hj (rL_lt k)
  have hlt : x.toNatClampNeg < rL k := by omega
  have hK := (kTy C.2.2.2.2.2.1.1 (k := 0) (by omega)).1
  refine W.iald (v := .int (G k j)) C.1 C.2.1 hc (hK _ (fun i => .int (G k i))) (fun q => by cases q) (by show ¬ (x < 0 ∨ (arrV _ _ _).slots.size ≤ _); rw [arrV_size]; exact h1) (by show (arrV _ _ _).slots[_]? = _; rw [arrV_read _ _ hlt, h2]; rfl) rfl rfl hd ?_
  exact kk C H locs arr hA hl hL
theorem V.mzald {x : Int32} (hE : eF E = true) (hd : decode cc pc = .ok (.baload, 1)) (hk : rA k = true) (hz : rK k = 1) (hx : x = nI j) (hj : j < rL k) (kk : V E X own mn cc nL ret d mc ms Q (wG σ G) nc ns (pc + 1) ls (.int (G k j) :: st)) : V E X own mn cc nL ret d mc ms Q (wG σ G) nc ns pc ls (.int x :: .ref (eQ E k) :: st) := by
  intro C H locs arr hA hl hL
  have hc := (hA.2.2.2.2 hE).1.2.2.2 k hk
  rw [hz] at hc
  obtain ⟨h1, h2⟩ := in_nI hx hj (rL_lt k)
  have hlt : x.toNatClampNeg < rL k := by omega
  have hK := (kTy C.2.2.2.2.2.1.1 (k := 1) (by omega)).1
  refine W.zald (v := .int (G k j)) C.1 C.2.1 hc (hK _ (fun i => .int (G k i))) (fun q => by cases q) (by show ¬ (x < 0 ∨ (arrV _ _ _).slots.size ≤ _); rw [arrV_size]; exact h1) (by show (arrV _ _ _).slots[_]? = _; rw [arrV_read _ _ hlt, h2]; rfl) rfl rfl hd ?_
  exact kk C H locs arr hA hl hL
theorem RefAt.row {E : VE} {G : Nat → Nat → Int32} {H H1 : Heap} {k j : Nat} {v : Int32} (hR : RefAt E G H) (hk : rA k = true) (oq : ∀ q, q ≠ eQ E k → H1[q]? = H[q]?) (e : H1[eQ E k]? = some (vp_cell (eA E (rK k)) (rL k, .inl (u2 G k j v k)))) : RefAt E (u2 G k j v) H1 := by
  refine ⟨hR.1, hR.2.1, ?_, fun i hi => ?_⟩
  · have h48 : H1[eQ E 48]? = H[eQ E 48]? := oq _ (fun e => by
      have := hR.2.1 48 k (Or.inl rfl) (Or.inr hk) e
      subst this
      cases hk)
    refine (hR.2.2.1.kept h48).to fun i hi => ?_
    unfold rV
    by_cases hri : rA i = true
    · rw [if_pos hri, if_pos hri]
    · rw [if_neg hri, if_neg hri]
      have hne : i ≠ k := fun e => hri (by rw [e]; exact hk)
      rw [u2_row hne]
  · by_cases hik : i = k
    · subst hik
      exact e
    · rw [u2_row hik, oq _ (fun e => hik (hR.2.1 i k (Or.inr hi) (Or.inr hk) e))]
      exact hR.2.2.2 i hi
theorem V.miast {x v : Int32} (hE : eF E = true) (hd : decode cc pc = .ok (.iastore, 1)) (hk : rA k = true) (hz : rK k = 0) (hx : x = nI j) (hj : j < rL k) (kk : V E X own mn cc nL ret d mc ms Q (wG σ (u2 G k j v)) nc ns (pc + 1) ls st) : V E X own mn cc nL ret d mc ms Q (wG σ G) nc ns pc ls (.int v :: .int x :: .ref (eQ E k) :: st) := by
  intro C H locs arr hA hl hL
  have hR := (hA.2.2.2.2 hE).1
  have hc := hR.2.2.2 k hk
  rw [hz] at hc
  obtain ⟨h1, h2⟩ := in_nI hx hj (rL_lt k)
  have hK := (kTy C.2.2.2.2.2.1.1 (k := 0) (by omega)).1
  refine W.iast C.1 C.2.1 hc (hK _ (fun i => .int (G k i))) (fun q => by cases q) (by show ¬ (x < 0 ∨ (arrV _ _ _).slots.size ≤ _); rw [arrV_size]; exact h1) rfl rfl hd fun H1 e z oq => ?_
  refine kk C H1 _ arr (hA.putG hE (Or.inr hk) z oq (hR.row hk oq ?_)) (locs_add hl (hR.1 k (Or.inr hk))) hL
  rw [e, hz]
  rw [vp_cell_i, vp_cell_i, arrV_store]
  congr 2
  funext q
  rw [h2]
  by_cases hq : q = j
  · subst hq
    simp [updV, u2]
  · simp [updV, u2, hq]
theorem V.mzast {x v : Int32} (hE : eF E = true) (hd : decode cc pc = .ok (.bastore, 1)) (hk : rA k = true) (hz : rK k = 1) (h01 : v = 0 ∨ v = 1) (hx : x = nI j) (hj : j < rL k) (kk : V E X own mn cc nL ret d mc ms Q (wG σ (u2 G k j v)) nc ns (pc + 1) ls st) : V E X own mn cc nL ret d mc ms Q (wG σ G) nc ns pc ls (.int v :: .int x :: .ref (eQ E k) :: st) := by
  intro C H locs arr hA hl hL
  have hR := (hA.2.2.2.2 hE).1
  have hc := hR.2.2.2 k hk
  rw [hz] at hc
  obtain ⟨h1, h2⟩ := in_nI hx hj (rL_lt k)
  have hK := (kTy C.2.2.2.2.2.1.1 (k := 1) (by omega)).1
  refine W.zast C.1 C.2.1 hc (hK _ (fun i => .int (G k i))) (fun q => by cases q) (by show ¬ (x < 0 ∨ (arrV _ _ _).slots.size ≤ _); rw [arrV_size]; exact h1) rfl rfl hd fun H1 e z oq => ?_
  refine kk C H1 _ arr (hA.putG hE (Or.inr hk) z oq (hR.row hk oq ?_)) (locs_add hl (hR.1 k (Or.inr hk))) hL
  rw [show narrow .boolean (.int v) = .int v by rcases h01 with rfl | rfl <;> rfl] at e
  rw [e, hz]
  rw [vp_cell_i, vp_cell_i, arrV_store]
  congr 2
  funext q
  rw [h2]
  by_cases hq : q = j
  · subst hq
    simp [updV, u2]
  · simp [updV, u2, hq]
/-- the static arrays -/
def sFld (i : Nat) : String := if i = 0 then "ABOVE" else "LOOK_HOURS"
def sRow (i : Nat) : Nat → Int32 := if i = 0 then above else lookHours
theorem KK.stat {E : VE} {U : State} (h : KK E U) {i : Nat} (hi : i < 2) : va_Z RX10 (sFld i) "[I" (.ref (eS E i)) (fun a => (eH E).size ≤ a) U (eH E) ∧ va_T .int (eS E i) 4 (fun j => .int (sRow i j)) (fun a => (eH E).size ≤ a) U (eH E) := by
  rcases (show i = 0 ∨ i = 1 by omega) with rfl | rfl
  · exact h.2.2.2.1
  · exact h.2.2.2.2
theorem V.gets {i : Nat} (hi : i < 2) (hd : decode cc pc = .ok (.getstatic idx, 3)) (hf : Cond.fieldLink own idx RX10 (sFld i) "[I" ∈ BIG) (kk : V E X own mn cc nL ret d mc ms Q σ nc ns (pc + 3) ls (.ref (eS E i) :: st)) : V E X own mn cc nL ret d mc ms Q σ nc ns pc ls st := by
  intro C H locs arr hA hl hL
  obtain ⟨cf, kf, fi, f, a, cell, h1, h2, h3, h4, h5, h6, h7, h8⟩ := (C.2.2.2.2.2.1.stat hi).1
  refine W.gets C.1 C.2.1 C.2.2.2.1 (C.2.2.2.2.1 _ hf) h1 h2 h3 h4 (by rw [hA.2.2.1 a (by omega)]; exact h5) (fun e => by rw [e] at h6; cases h6) h7 rfl hd ?_
  exact kk C H locs arr hA hl hL
theorem V.sald {i : Nat} {x : Int32} (hi : i < 2) (hd : decode cc pc = .ok (.iaload, 1)) (hx : x = nI j) (hj : j < 4) (kk : V E X own mn cc nL ret d mc ms Q σ nc ns (pc + 1) ls (.int (sRow i j) :: st)) : V E X own mn cc nL ret d mc ms Q σ nc ns pc ls (.int x :: .ref (eS E i) :: st) := by
  intro C H locs arr hA hl hL
  obtain ⟨cell, h1, h2, h3, h4, h5, h6, h7⟩ := (C.2.2.2.2.2.1.stat hi).2
  obtain ⟨g1, g2⟩ := in_nI hx hj (by omega)
  have hlt : x.toNatClampNeg < 4 := by omega
  refine W.iald (v := .int (sRow i j)) C.1 C.2.1 (by rw [hA.2.2.1 _ (by omega)]; exact h1) h2 h3 (fun q => ?_) (by rw [g2]; exact h6 j hj) rfl rfl hd ?_
  · rcases q with q | q
    · exact g1 (Or.inl q)
    · omega
  · exact kk C H locs arr hA hl hL
end VREF
/-! ===== contracts ===== -/
def rmL (d mc ms : Nat) : Room := { frames := d, cells := mc, slots := ms, locals := 100 * d }
def QA (E : VE) (post : Option Value → Sg → Prop) : Array Value → State → Outcome → State → Prop := fun _ _ oc t => ∃ (r : Option Value) (σ' : Sg), oc = .returned r ∧ post r σ' ∧ AH E σ' t.heap
def QM (E : VE) (X : VX) (post : Option Value → Sg → Prop) (mc ms : Nat) : State → Prop := MQ (xB X) (QA E post) (xA X) (xS X) mc ms (fun a => (eH E).size ≤ a)
/-- the contract of a method: at these arguments and this state it returns, and answer and state are as 'post' says -/
def MA (E : VE) (y : MethodName) (cc : ByteArray) (nL : Nat) (ret : Option FieldType) (d mc ms : Nat) (argv : List Value) (σ : Sg) (post : Option Value → Sg → Prop) : Prop :=
  Met (eL E) y (Cond.code y cc nL ret :: BIG) (rmL d mc ms) (va_Pc argv (fun U => AH E σ U.heap ∧ KK E U)) (QA E post) mc ms (fun a => (eH E).size ≤ a)
section VRET
variable {E : VE} {X : VX} {own mn : String} {cc : ByteArray} {nL : Nat} {ret : Option FieldType} {d mc ms : Nat} {σ : Sg} {nc ns pc : Nat} {ls : List (Option Value)} {post : Option Value → Sg → Prop}
theorem V.iret {v : Int32} (hd : decode cc pc = .ok (.ireturn, 1)) (h1 : nc ≤ mc) (h2 : ns ≤ ms) (hp : post (some (.int v)) σ) : V E X own mn cc nL (some .int) d mc ms (QM E X post mc ms) σ nc ns pc ls [.int v] := fun C H locs arr hA hl hL =>
  W.widen h1 h2 (W.iret C.1 C.2.1 C.2.2.2.2.2.2.2.2.1 (fun t ht _ => ⟨_, σ, rfl, hp, by rw [ht]; exact hA⟩) hl hd C.2.2.2.2.2.2.1)
theorem V.zret {v : Int32} (hd : decode cc pc = .ok (.ireturn, 1)) (h01 : v = 0 ∨ v = 1) (h1 : nc ≤ mc) (h2 : ns ≤ ms) (hp : post (some (.int v)) σ) : V E X own mn cc nL (some .boolean) d mc ms (QM E X post mc ms) σ nc ns pc ls [.int v] := fun C H locs arr hA hl hL =>
  W.widen h1 h2 (W.zret C.1 C.2.1 C.2.2.2.2.2.2.2.2.1 (by rcases h01 with rfl | rfl <;> rfl) (fun t ht _ => ⟨_, σ, rfl, hp, by rw [ht]; exact hA⟩) hl hd C.2.2.2.2.2.2.1)
theorem V.vret (hd : decode cc pc = .ok (.return_, 1)) (h1 : nc ≤ mc) (h2 : ns ≤ ms) (hp : post none σ) : V E X own mn cc nL none d mc ms (QM E X post mc ms) σ nc ns pc ls [] := fun C H locs arr hA hl hL =>
  W.widen h1 h2 (W.vret C.1 C.2.1 C.2.2.2.2.2.2.2.2.1 (fun t ht _ => ⟨_, σ, rfl, hp, by rw [ht]; exact hA⟩) hl hd C.2.2.2.2.2.2.1)
theorem V.aret {v : Nat} {rt : String} (hd : decode cc pc = .ok (.areturn, 1)) (h1 : nc ≤ mc) (h2 : ns ≤ ms) (hp : post (some (.ref v)) σ) : V E X own mn cc nL (some (.object rt)) d mc ms (QM E X post mc ms) σ nc ns pc ls [.ref v] := fun C H locs arr hA hl hL =>
  W.widen h1 h2 (W.aret C.1 C.2.1 C.2.2.2.2.2.2.2.2.1 (Or.inl ⟨_, rfl⟩) (Or.inr ⟨_, rfl⟩) (fun t ht _ => ⟨_, σ, rfl, hp, by rw [ht]; exact hA⟩) hl hd C.2.2.2.2.2.2.1)
theorem V.aretN {rt : String} (hd : decode cc pc = .ok (.areturn, 1)) (h1 : nc ≤ mc) (h2 : ns ≤ ms) (hp : post (some .null) σ) : V E X own mn cc nL (some (.object rt)) d mc ms (QM E X post mc ms) σ nc ns pc ls [.null] := fun C H locs arr hA hl hL =>
  W.widen h1 h2 (W.aret C.1 C.2.1 C.2.2.2.2.2.2.2.2.1 (Or.inl ⟨_, rfl⟩) (Or.inl rfl) (fun t ht _ => ⟨_, σ, rfl, hp, by rw [ht]; exact hA⟩) hl hd C.2.2.2.2.2.2.1)
end VRET
theorem lget_args : ∀ (vs : List Value) (n i : Nat) (v : Value), lget (vs.map some ++ List.replicate n none) i = some v → vs[i]? = some v
  | [], n, i, v, h => by
    exfalso
    rw [List.map_nil, List.nil_append] at h
    induction n generalizing i with
    | zero => cases h
    | succ n ih => cases i with
      | zero => cases h
      | succ i => exact ih i h
  | x :: vs, n, 0, v, h => by simpa [lget] using h
  | x :: vs, n, i + 1, v, h => by
    have := lget_args vs n i v h
    simpa using this
theorem lg_sl_cat1 : ∀ (vs : List Value), (∀ v ∈ vs, v.category = 1) → lg_sl vs = vs.map Slot.val
  | [], _ => rfl
  | x :: vs, h => by
    have h1 := lg_sl_cat1 vs (fun v hv => h v (List.mem_cons_of_mem _ hv))
    unfold lg_sl at h1 ⊢
    rw [List.flatMap_cons, h1, if_neg (by rw [h x List.mem_cons_self]; decide)]
    rfl
theorem MA.of {E : VE} {y : MethodName} {cc : ByteArray} {nL : Nat} {ret : Option FieldType} {d mc ms : Nat} {argv : List Value} {σ : Sg} {post : Option Value → Sg → Prop} (own mn : String) (ls : List (Option Value)) (hy : plainName y.cls = true) (ho : y.cls = own) (hm : y.name = mn) (hcat : ∀ v ∈ argv, v.category = 1) (hlen : argv.length ≤ nL) (hls : argv.map some ++ List.replicate (nL - argv.length) none = ls)
    (h : ∀ X, V E X own mn cc nL ret d mc ms (QM E X post mc ms) σ 0 0 0 ls []) : MA E y cc nL ret d mc ms argv σ post := by
  refine Met.ofW (cc := cc) (maxL := nL) (ret := ret) hy rfl ?_
  intro p e s m args below meth c s₁ B hml hv
  obtain ⟨rfl, hA, hK⟩ := hv
  have hts := atoms_spec (ws := Cond.code y cc nL ret :: BIG) B.pre
  have hsl := lg_sl_cat1 argv hcat
  have hE := lv_entry argv (n := nL) (by rw [hsl, List.length_map]; exact hlen)
  rw [lg_entry_eq]
  refine h (p, e, (headSpec (Cond.code y cc nL ret :: BIG) (rmL d mc ms)).room, s, m, argv.toArray, below, meth, c) ⟨B.exec, B.bytes, hml, by rw [← ho]; exact findClass_of_methodNamed B.named, fun w hw => hts w (List.mem_cons_of_mem _ hw), hK, B.notSynchronized, by rw [← hm]; exact (name_of_methodNamed B.named B.method).1, B.returns, Nat.le_refl _, Nat.le_refl _, Nat.le_refl _, Nat.le_refl _⟩ s.heap [] _ hA (fun q hq => by cases hq) ⟨hE.1, hE.2.1, fun i v hi => ?_⟩
  rw [← hls] at hi
  have h1 := lget_args _ _ _ _ hi
  refine ⟨?_, hcat v (List.mem_of_getElem? h1)⟩
  rw [hsl, List.getElem?_toArray, List.getElem?_append_left (by rw [List.length_map]; exact (List.getElem?_eq_some_iff.mp h1).1), List.getElem?_map, h1]
  rfl
end
section
/-! ===== calls ===== -/
def okD (y : MethodName) (n : Nat) : Prop := y.cls ≠ "java/lang/invoke/MethodHandle" ∧ y.cls ≠ "java/lang/invoke/VarHandle" ∧ (parseMethodDescriptor y.desc).map (fun d => d.parameters.length) = some n
/-- the words of a call: static, on an object, a constructor; the same of a nest mate's private one -/
def clS (own : String) (idx : Nat) (y : MethodName) (cc : ByteArray) (nL : Nat) (ret : Option FieldType) (n : Nat) : Prop := Cond.methodLink own idx y ∈ BIG ∧ Cond.static y ∈ BIG ∧ Cond.initialized y.cls ∈ BIG ∧ Cond.code y cc nL ret ∈ BIG ∧ okD y n
def clV (own : String) (idx : Nat) (y : MethodName) (cc : ByteArray) (nL : Nat) (ret : Option FieldType) (n : Nat) : Prop := Cond.methodLink own idx y ∈ BIG ∧ Cond.instanceMethod y ∈ BIG ∧ Cond.selects y.cls y y ∈ BIG ∧ Cond.initialized y.cls ∈ BIG ∧ Cond.code y cc nL ret ∈ BIG ∧ okD y n
def clI (own : String) (idx : Nat) (y : MethodName) (cc : ByteArray) (nL : Nat) (n : Nat) : Prop := Cond.methodLink own idx y ∈ BIG ∧ Cond.instanceMethod y ∈ BIG ∧ Cond.initialized y.cls ∈ BIG ∧ Cond.code y cc nL none ∈ BIG ∧ okD y n ∧ y.name = "<init>"
def clSN (own : String) (idx : Nat) (y : MethodName) (cc : ByteArray) (nL : Nat) (ret : Option FieldType) (n : Nat) : Prop := ∃ host, Cond.methodLinkNest own idx y host ∈ NW ∧ Cond.static y ∈ BIG ∧ Cond.initialized y.cls ∈ BIG ∧ Cond.code y cc nL ret ∈ BIG ∧ okD y n
def clIN (own : String) (idx : Nat) (y : MethodName) (cc : ByteArray) (nL : Nat) (n : Nat) : Prop := ∃ host, Cond.methodLinkNest own idx y host ∈ NW ∧ Cond.instanceMethod y ∈ BIG ∧ Cond.initialized y.cls ∈ BIG ∧ Cond.code y cc nL none ∈ BIG ∧ okD y n ∧ y.name = "<init>"
theorem good_all {ws : List Cond} (h : ∀ w ∈ ws, w ∈ BIG) : GoodIn BIG ws := fun w hw => ⟨h w hw, big_good w (h w hw)⟩
theorem blind_MA {E : VE} {σ : Sg} {argv : List Value} : FrameBlind (va_Pc argv (fun U => AH E σ U.heap ∧ KK E U)) := fun _ U _ _ h => ⟨h.1, h.2.1, KK.same (u := U) rfl h.2.2⟩
section VCALL
variable {E : VE} {X : VX} {own mn : String} {cc : ByteArray} {nL : Nat} {ret : Option FieldType} {d mc ms : Nat} {Q : State → Prop} {σ : Sg} {nc ns pc : Nat} {ls : List (Option Value)} {st : List Value} {idx : Nat}
variable {y : MethodName} {cy : ByteArray} {nLy : Nat} {rety : Option FieldType} {dy my py : Nat} {argv rest : List Value} {post : Option Value → Sg → Prop}
theorem callEnd {H : Heap} {locs : List Loc} {arr : Array Slot} {g : List Value} (C : CX E X own mn cc nL ret d mc ms) (hl : ∀ q ∈ locs, (eH E).size ≤ q.base) (hL : LV arr nL ls) {a : Array Value}
    (hr : va_Run (xP X) (eL E) (xE X) (xR X) (xS X) (xM X) (xA X) (xB X) (xT X) (xC X) H locs nc ns my py (F0 (xM X) pc arr g) rest (QA E post a) (fun a => (eH E).size ≤ a))
    (kk : ∀ r σ', post r σ' → V E X own mn cc nL ret d mc ms Q σ' (nc + my) (ns + py) (pc + 3) ls (r.toList ++ rest)) : W (xP X) (eL E) (xE X) (xR X) (xS X) (xM X) (xA X) (xB X) (xT X) (xC X) H locs nc ns Q (F0 (xM X) pc arr g) := by
  intro T hT Y
  obtain ⟨v, st₀, t, T', L, h0, X', hLf, e1, e2, ⟨r, σ', hv, hp, hA'⟩, stp⟩ := hr T hT Y
  cases hv
  obtain ⟨t2, a1, b1⟩ := kk _ σ' hp C T'.heap (locs ++ L) arr (by rw [e1]; exact hA') (fun q hq => by
    rcases List.mem_append.mp hq with h | h
    · exact hl q h
    · exact hLf q h) hL T' rfl X'
  exact ⟨t2, stp t2 a1, b1⟩
theorem V.callS (hd : decode cc pc = .ok (.invokestatic idx, 3)) (hw : clS own idx y cy nLy rety argv.length) (hM : MA E y cy nLy rety dy my py argv σ post) (hst : st = argv.reverse ++ rest) (hdd : dy < d) (hn : nLy ≤ 80) (hm : nc + my ≤ mc) (hs : ns + py ≤ ms) (hr : (rest.map fun v => v.category).sum ≤ 8)
    (kk : ∀ r σ', post r σ' → V E X own mn cc nL ret d mc ms Q σ' (nc + my) (ns + py) (pc + 3) ls (r.toList ++ rest)) : V E X own mn cc nL ret d mc ms Q σ nc ns pc ls st := by
  intro C H locs arr hA hl hL
  obtain ⟨w1, w2, w3, w4, w5⟩ := hw
  have hts := C.2.2.2.2.1
  have hR := C.2.2.2.2.2.2.2.2.2
  refine callEnd C hl hL (va_runS ⟨C.1, C.2.1, C.2.2.1, C.2.2.2.1, hts⟩ hM (va_cwS argv.length hts (good_all fun w hw => ?_) rfl rfl rfl w5 ⟨?_, ?_⟩) ⟨blind_MA, fun U hU hW => ⟨rfl, by rw [hU]; exact hA, C.2.2.2.2.2.1.warm hW⟩⟩ rfl rfl hL.1 hst (lv_room hr) hd ⟨by omega, by omega⟩) kk
  · unfold va_wsS at hw
    simp only [List.cons_append, List.nil_append, List.mem_cons] at hw
    rcases hw with rfl | rfl | rfl | rfl | hw
    · exact w1
    · exact w2
    · exact w3
    · exact w4
    · exact hw
  · show dy + 1 ≤ _; omega
  · show 8 + (nLy + 11) + 100 * dy ≤ _; omega
theorem V.callSN (hd : decode cc pc = .ok (.invokestatic idx, 3)) (hw : clSN own idx y cy nLy rety argv.length) (hM : MA E y cy nLy rety dy my py argv σ post) (hst : st = argv.reverse ++ rest) (hdd : dy < d) (hn : nLy ≤ 80) (hm : nc + my ≤ mc) (hs : ns + py ≤ ms) (hr : (rest.map fun v => v.category).sum ≤ 8)
    (kk : ∀ r σ', post r σ' → V E X own mn cc nL ret d mc ms Q σ' (nc + my) (ns + py) (pc + 3) ls (r.toList ++ rest)) : V E X own mn cc nL ret d mc ms Q σ nc ns pc ls st := by
  intro C H locs arr hA hl hL
  obtain ⟨host, w1, w2, w3, w4, w5⟩ := hw
  have hts := C.2.2.2.2.1
  have hR := C.2.2.2.2.2.2.2.2.2
  refine callEnd C hl hL (va_runSN (Ts := BIG) ⟨C.1, C.2.1, C.2.2.1, C.2.2.2.1, hts⟩ hM ⟨va_cnB argv.length hts (good_all fun w hw => ?_) rfl rfl rfl (C.2.2.2.2.2.1.2.1 _ w1) (hts _ w3) w5 ⟨?_, ?_⟩, hts _ w2, trivial⟩ ⟨blind_MA, fun U hU hW => ⟨rfl, by rw [hU]; exact hA, C.2.2.2.2.2.1.warm hW⟩⟩ rfl rfl hL.1 hst (lv_room hr) hd ⟨by omega, by omega⟩) kk
  · rcases List.mem_cons.mp hw with rfl | hw
    · exact w4
    · exact hw
  · show dy + 1 ≤ _; omega
  · show 8 + (nLy + 11) + 100 * dy ≤ _; omega
theorem V.callI {b : Nat} (hd : decode cc pc = .ok (.invokespecial idx, 3)) (hw : clI own idx y cy nLy argv.length) (hM : MA E y cy nLy none dy my py (.ref b :: argv) σ post) (hst : st = argv.reverse ++ .ref b :: rest) (hdd : dy < d) (hn : nLy ≤ 80) (hm : nc + my ≤ mc) (hs : ns + py ≤ ms) (hr : (rest.map fun v => v.category).sum ≤ 8)
    (kk : ∀ r σ', post r σ' → V E X own mn cc nL ret d mc ms Q σ' (nc + my) (ns + py) (pc + 3) ls (r.toList ++ rest)) : V E X own mn cc nL ret d mc ms Q σ nc ns pc ls st := by
  intro C H locs arr hA hl hL
  obtain ⟨w1, w2, w3, w4, w5, w6⟩ := hw
  have hts := C.2.2.2.2.1
  have hR := C.2.2.2.2.2.2.2.2.2
  refine callEnd C hl hL (va_runI ⟨C.1, C.2.1, C.2.2.1, C.2.2.2.1, hts⟩ hM (cwI argv.length hts (good_all fun w hw => ?_) rfl rfl rfl (hts _ w3) (hts _ w1) (hts _ w2) w6 w5 ⟨?_, ?_⟩) ⟨blind_MA, fun U hU hW => ⟨rfl, by rw [hU]; exact hA, C.2.2.2.2.2.1.warm hW⟩⟩ rfl rfl hL.1 hst (lv_room hr) hd ⟨by omega, by omega⟩) kk
  · rcases List.mem_cons.mp hw with rfl | hw
    · exact w4
    · exact hw
  · show dy + 1 ≤ _; omega
  · show 8 + (nLy + 11) + 100 * dy ≤ _; omega
theorem V.callIN {b : Nat} (hd : decode cc pc = .ok (.invokespecial idx, 3)) (hw : clIN own idx y cy nLy argv.length) (hM : MA E y cy nLy none dy my py (.ref b :: argv) σ post) (hst : st = argv.reverse ++ .ref b :: rest) (hdd : dy < d) (hn : nLy ≤ 80) (hm : nc + my ≤ mc) (hs : ns + py ≤ ms) (hr : (rest.map fun v => v.category).sum ≤ 8)
    (kk : ∀ r σ', post r σ' → V E X own mn cc nL ret d mc ms Q σ' (nc + my) (ns + py) (pc + 3) ls (r.toList ++ rest)) : V E X own mn cc nL ret d mc ms Q σ nc ns pc ls st := by
  intro C H locs arr hA hl hL
  obtain ⟨host, w1, w2, w3, w4, w5, w6⟩ := hw
  have hts := C.2.2.2.2.1
  have hR := C.2.2.2.2.2.2.2.2.2
  refine callEnd C hl hL (va_runIN (Ts := BIG) ⟨C.1, C.2.1, C.2.2.1, C.2.2.2.1, hts⟩ hM ⟨va_cnB argv.length hts (good_all fun w hw => ?_) rfl rfl rfl (C.2.2.2.2.2.1.2.1 _ w1) (hts _ w3) w5 ⟨?_, ?_⟩, w6, hts _ w2⟩ ⟨blind_MA, fun U hU hW => ⟨rfl, by rw [hU]; exact hA, C.2.2.2.2.2.1.warm hW⟩⟩ rfl rfl hL.1 hst (lv_room hr) hd ⟨by omega, by omega⟩) kk
  · rcases List.mem_cons.mp hw with rfl | hw
    · exact w4
    · exact hw
  · show dy + 1 ≤ _; omega
  · show 8 + (nLy + 11) + 100 * dy ≤ _; omega
theorem V.callV0 {b : Nat} (hrec : ∀ H, CX E X own mn cc nL ret d mc ms → AH E σ H → ∃ cellB : Cell, H[b]? = some cellB ∧ cellB.vm.isStatics = false ∧ (xS X).vm.findClass y.cls = some cellB.cls) (hd : decode cc pc = .ok (.invokevirtual idx, 3)) (hw : clV own idx y cy nLy rety argv.length) (hM : MA E y cy nLy rety dy my py (.ref b :: argv) σ post) (hst : st = argv.reverse ++ .ref b :: rest) (hdd : dy < d) (hn : nLy ≤ 80) (hm : nc + my ≤ mc) (hs : ns + py ≤ ms) (hr : (rest.map fun v => v.category).sum ≤ 8)
    (kk : ∀ r σ', post r σ' → V E X own mn cc nL ret d mc ms Q σ' (nc + my) (ns + py) (pc + 3) ls (r.toList ++ rest)) : V E X own mn cc nL ret d mc ms Q σ nc ns pc ls st := by
  intro C H locs arr hA hl hL
  obtain ⟨w1, w2, w3, w4, w5, w6⟩ := hw
  have hts := C.2.2.2.2.1
  have hR := C.2.2.2.2.2.2.2.2.2
  refine callEnd C hl hL (va_runV ⟨C.1, C.2.1, C.2.2.1, C.2.2.2.1, hts⟩ hM (cwV argv.length hts (good_all fun w hw => ?_) rfl rfl rfl ⟨rfl, w6⟩ ⟨?_, ?_⟩) ⟨blind_MA, hrec H C hA, fun U hU hW => ⟨rfl, by rw [hU]; exact hA, C.2.2.2.2.2.1.warm hW⟩⟩ rfl rfl hL.1 hst (lv_room hr) hd ⟨by omega, by omega⟩) kk
  · unfold wsV at hw
    simp only [List.cons_append, List.nil_append, List.mem_cons] at hw
    rcases hw with rfl | rfl | rfl | rfl | rfl | hw
    · exact w1
    · exact w2
    · exact w3
    · exact w4
    · exact w5
    · exact hw
  · show dy + 1 ≤ _; omega
  · show 8 + (nLy + 11) + 100 * dy ≤ _; omega
theorem recT {b ci : Nat} (hci : ci < 12) (hty : sT σ b = ci + 1) (hcls : cR ci = y.cls) : ∀ H, CX E X own mn cc nL ret d mc ms → AH E σ H → ∃ cellB : Cell, H[b]? = some cellB ∧ cellB.vm.isStatics = false ∧ (xS X).vm.findClass y.cls = some cellB.cls := by
  intro H C hA
  obtain ⟨cell, q1, q2, q3, -⟩ := (hA.cell hty (by omega)).2.ob hci
  exact ⟨cell, q1, by rw [q3]; rfl, by rw [q2, ← hcls]; exact (C.2.2.2.2.2.1.1.1 ci _ (cl_at ci hci)).2.1⟩
theorem recQ (hE : eF E = true) (hcls : RX11 = y.cls) : ∀ H, CX E X own mn cc nL ret d mc ms → AH E σ H → ∃ cellB : Cell, H[eQ E 48]? = some cellB ∧ cellB.vm.isStatics = false ∧ (xS X).vm.findClass y.cls = some cellB.cls := by
  intro H C hA
  obtain ⟨cell, q1, q2, q3, -⟩ := (hA.2.2.2.2 hE).1.ob
  exact ⟨cell, q1, by rw [q3]; rfl, by rw [q2, ← hcls]; exact (C.2.2.2.2.2.1.1.1 11 _ (cl_at 11 (by decide))).2.1⟩
theorem V.objInit {b : Nat} (hd : decode cc pc = .ok (.invokespecial idx, 3)) (h1 : Cond.methodLink own idx objectInit ∈ BIG) (h2 : Cond.instanceMethod objectInit ∈ BIG) (h3 : Cond.code objectInit ⟨#[0xb1]⟩ 1 none ∈ BIG) (hr : (rest.map fun v => v.category).sum ≤ 8) (hdd : 1 ≤ d) (kk : V E X own mn cc nL ret d mc ms Q σ nc ns (pc + 3) ls rest) : V E X own mn cc nL ret d mc ms Q σ nc ns pc ls (.ref b :: rest) := by
  intro C H locs arr hA hl hL
  have hts := C.2.2.2.2.1
  have hR := C.2.2.2.2.2.2.2.2.2
  refine W.objInit C.1 C.2.1 C.2.2.2.1 (hts _ h1) (hts _ h2) (hts _ h3) rfl (hL.1.trans C.2.2.1.symm) rfl hd (by omega) ?_ (kk C H locs arr hA hl hL)
  have := lv_room (m := xM X) (pc := pc) (ls := arr) (rest := .ref b :: rest) hr
  omega

theorem V.cs1D {v1 : Value} {w : Value} {σ2 : Sg} (hd : decode cc pc = .ok (.invokestatic idx, 3)) (hw : clS own idx y cy nLy rety 1) (hM : MA E y cy nLy rety dy my py [v1] σ (fun r s => r = some w ∧ s = σ2)) (hdd : dy < d) (hn : nLy ≤ 80) (hm : nc + my ≤ mc) (hs : ns + py ≤ ms) (hr : (rest.map fun v => v.category).sum ≤ 8) (kk : V E X own mn cc nL ret d mc ms Q σ2 (nc + my) (ns + py) (pc + 3) ls (w :: rest)) : V E X own mn cc nL ret d mc ms Q σ nc ns pc ls (v1 :: rest) := V.callS (argv := [v1]) (rest := rest) hd hw hM rfl hdd hn hm hs hr (fun r s h => by obtain ⟨rfl, rfl⟩ := h; exact kk)
theorem V.cs2D {v1 v2 : Value} {w : Value} {σ2 : Sg} (hd : decode cc pc = .ok (.invokestatic idx, 3)) (hw : clS own idx y cy nLy rety 2) (hM : MA E y cy nLy rety dy my py [v1, v2] σ (fun r s => r = some w ∧ s = σ2)) (hdd : dy < d) (hn : nLy ≤ 80) (hm : nc + my ≤ mc) (hs : ns + py ≤ ms) (hr : (rest.map fun v => v.category).sum ≤ 8) (kk : V E X own mn cc nL ret d mc ms Q σ2 (nc + my) (ns + py) (pc + 3) ls (w :: rest)) : V E X own mn cc nL ret d mc ms Q σ nc ns pc ls (v2 :: v1 :: rest) := V.callS (argv := [v1, v2]) (rest := rest) hd hw hM rfl hdd hn hm hs hr (fun r s h => by obtain ⟨rfl, rfl⟩ := h; exact kk)
theorem V.cs3D {v1 v2 v3 : Value} {w : Value} {σ2 : Sg} (hd : decode cc pc = .ok (.invokestatic idx, 3)) (hw : clS own idx y cy nLy rety 3) (hM : MA E y cy nLy rety dy my py [v1, v2, v3] σ (fun r s => r = some w ∧ s = σ2)) (hdd : dy < d) (hn : nLy ≤ 80) (hm : nc + my ≤ mc) (hs : ns + py ≤ ms) (hr : (rest.map fun v => v.category).sum ≤ 8) (kk : V E X own mn cc nL ret d mc ms Q σ2 (nc + my) (ns + py) (pc + 3) ls (w :: rest)) : V E X own mn cc nL ret d mc ms Q σ nc ns pc ls (v3 :: v2 :: v1 :: rest) := V.callS (argv := [v1, v2, v3]) (rest := rest) hd hw hM rfl hdd hn hm hs hr (fun r s h => by obtain ⟨rfl, rfl⟩ := h; exact kk)
theorem V.cv0D {w : Value} {σ2 : Sg} {b ci : Nat} (hd : decode cc pc = .ok (.invokevirtual idx, 3)) (hw : clV own idx y cy nLy rety 0) (hci : ci < 12) (hcls : cR ci = y.cls) (hty : sT σ b = ci + 1) (hM : MA E y cy nLy rety dy my py [.ref b] σ (fun r s => r = some w ∧ s = σ2)) (hdd : dy < d) (hn : nLy ≤ 80) (hm : nc + my ≤ mc) (hs : ns + py ≤ ms) (hr : (rest.map fun v => v.category).sum ≤ 8) (kk : V E X own mn cc nL ret d mc ms Q σ2 (nc + my) (ns + py) (pc + 3) ls (w :: rest)) : V E X own mn cc nL ret d mc ms Q σ nc ns pc ls (.ref b :: rest) := V.callV0 (argv := []) (rest := rest) (recT hci hty hcls) hd hw hM rfl hdd hn hm hs hr (fun r s h => by obtain ⟨rfl, rfl⟩ := h; exact kk)
theorem V.cq0D {w : Value} {σ2 : Sg} (hE : eF E = true) (hd : decode cc pc = .ok (.invokevirtual idx, 3)) (hw : clV own idx y cy nLy rety 0) (hcls : RX11 = y.cls) (hM : MA E y cy nLy rety dy my py [.ref (eQ E 48)] σ (fun r s => r = some w ∧ s = σ2)) (hdd : dy < d) (hn : nLy ≤ 80) (hm : nc + my ≤ mc) (hs : ns + py ≤ ms) (hr : (rest.map fun v => v.category).sum ≤ 8) (kk : V E X own mn cc nL ret d mc ms Q σ2 (nc + my) (ns + py) (pc + 3) ls (w :: rest)) : V E X own mn cc nL ret d mc ms Q σ nc ns pc ls (.ref (eQ E 48) :: rest) := V.callV0 (argv := []) (rest := rest) (recQ hE hcls) hd hw hM rfl hdd hn hm hs hr (fun r s h => by obtain ⟨rfl, rfl⟩ := h; exact kk)
theorem V.cv1D {v1 : Value} {w : Value} {σ2 : Sg} {b ci : Nat} (hd : decode cc pc = .ok (.invokevirtual idx, 3)) (hw : clV own idx y cy nLy rety 1) (hci : ci < 12) (hcls : cR ci = y.cls) (hty : sT σ b = ci + 1) (hM : MA E y cy nLy rety dy my py [.ref b, v1] σ (fun r s => r = some w ∧ s = σ2)) (hdd : dy < d) (hn : nLy ≤ 80) (hm : nc + my ≤ mc) (hs : ns + py ≤ ms) (hr : (rest.map fun v => v.category).sum ≤ 8) (kk : V E X own mn cc nL ret d mc ms Q σ2 (nc + my) (ns + py) (pc + 3) ls (w :: rest)) : V E X own mn cc nL ret d mc ms Q σ nc ns pc ls (v1 :: .ref b :: rest) := V.callV0 (argv := [v1]) (rest := rest) (recT hci hty hcls) hd hw hM rfl hdd hn hm hs hr (fun r s h => by obtain ⟨rfl, rfl⟩ := h; exact kk)
theorem V.cq1D {v1 : Value} {w : Value} {σ2 : Sg} (hE : eF E = true) (hd : decode cc pc = .ok (.invokevirtual idx, 3)) (hw : clV own idx y cy nLy rety 1) (hcls : RX11 = y.cls) (hM : MA E y cy nLy rety dy my py [.ref (eQ E 48), v1] σ (fun r s => r = some w ∧ s = σ2)) (hdd : dy < d) (hn : nLy ≤ 80) (hm : nc + my ≤ mc) (hs : ns + py ≤ ms) (hr : (rest.map fun v => v.category).sum ≤ 8) (kk : V E X own mn cc nL ret d mc ms Q σ2 (nc + my) (ns + py) (pc + 3) ls (w :: rest)) : V E X own mn cc nL ret d mc ms Q σ nc ns pc ls (v1 :: .ref (eQ E 48) :: rest) := V.callV0 (argv := [v1]) (rest := rest) (recQ hE hcls) hd hw hM rfl hdd hn hm hs hr (fun r s h => by obtain ⟨rfl, rfl⟩ := h; exact kk)
theorem V.cv2D {v1 v2 : Value} {w : Value} {σ2 : Sg} {b ci : Nat} (hd : decode cc pc = .ok (.invokevirtual idx, 3)) (hw : clV own idx y cy nLy rety 2) (hci : ci < 12) (hcls : cR ci = y.cls) (hty : sT σ b = ci + 1) (hM : MA E y cy nLy rety dy my py [.ref b, v1, v2] σ (fun r s => r = some w ∧ s = σ2)) (hdd : dy < d) (hn : nLy ≤ 80) (hm : nc + my ≤ mc) (hs : ns + py ≤ ms) (hr : (rest.map fun v => v.category).sum ≤ 8) (kk : V E X own mn cc nL ret d mc ms Q σ2 (nc + my) (ns + py) (pc + 3) ls (w :: rest)) : V E X own mn cc nL ret d mc ms Q σ nc ns pc ls (v2 :: v1 :: .ref b :: rest) := V.callV0 (argv := [v1, v2]) (rest := rest) (recT hci hty hcls) hd hw hM rfl hdd hn hm hs hr (fun r s h => by obtain ⟨rfl, rfl⟩ := h; exact kk)
theorem V.cq2D {v1 v2 : Value} {w : Value} {σ2 : Sg} (hE : eF E = true) (hd : decode cc pc = .ok (.invokevirtual idx, 3)) (hw : clV own idx y cy nLy rety 2) (hcls : RX11 = y.cls) (hM : MA E y cy nLy rety dy my py [.ref (eQ E 48), v1, v2] σ (fun r s => r = some w ∧ s = σ2)) (hdd : dy < d) (hn : nLy ≤ 80) (hm : nc + my ≤ mc) (hs : ns + py ≤ ms) (hr : (rest.map fun v => v.category).sum ≤ 8) (kk : V E X own mn cc nL ret d mc ms Q σ2 (nc + my) (ns + py) (pc + 3) ls (w :: rest)) : V E X own mn cc nL ret d mc ms Q σ nc ns pc ls (v2 :: v1 :: .ref (eQ E 48) :: rest) := V.callV0 (argv := [v1, v2]) (rest := rest) (recQ hE hcls) hd hw hM rfl hdd hn hm hs hr (fun r s h => by obtain ⟨rfl, rfl⟩ := h; exact kk)
theorem V.cv3D {v1 v2 v3 : Value} {w : Value} {σ2 : Sg} {b ci : Nat} (hd : decode cc pc = .ok (.invokevirtual idx, 3)) (hw : clV own idx y cy nLy rety 3) (hci : ci < 12) (hcls : cR ci = y.cls) (hty : sT σ b = ci + 1) (hM : MA E y cy nLy rety dy my py [.ref b, v1, v2, v3] σ (fun r s => r = some w ∧ s = σ2)) (hdd : dy < d) (hn : nLy ≤ 80) (hm : nc + my ≤ mc) (hs : ns + py ≤ ms) (hr : (rest.map fun v => v.category).sum ≤ 8) (kk : V E X own mn cc nL ret d mc ms Q σ2 (nc + my) (ns + py) (pc + 3) ls (w :: rest)) : V E X own mn cc nL ret d mc ms Q σ nc ns pc ls (v3 :: v2 :: v1 :: .ref b :: rest) := V.callV0 (argv := [v1, v2, v3]) (rest := rest) (recT hci hty hcls) hd hw hM rfl hdd hn hm hs hr (fun r s h => by obtain ⟨rfl, rfl⟩ := h; exact kk)
theorem V.cq3D {v1 v2 v3 : Value} {w : Value} {σ2 : Sg} (hE : eF E = true) (hd : decode cc pc = .ok (.invokevirtual idx, 3)) (hw : clV own idx y cy nLy rety 3) (hcls : RX11 = y.cls) (hM : MA E y cy nLy rety dy my py [.ref (eQ E 48), v1, v2, v3] σ (fun r s => r = some w ∧ s = σ2)) (hdd : dy < d) (hn : nLy ≤ 80) (hm : nc + my ≤ mc) (hs : ns + py ≤ ms) (hr : (rest.map fun v => v.category).sum ≤ 8) (kk : V E X own mn cc nL ret d mc ms Q σ2 (nc + my) (ns + py) (pc + 3) ls (w :: rest)) : V E X own mn cc nL ret d mc ms Q σ nc ns pc ls (v3 :: v2 :: v1 :: .ref (eQ E 48) :: rest) := V.callV0 (argv := [v1, v2, v3]) (rest := rest) (recQ hE hcls) hd hw hM rfl hdd hn hm hs hr (fun r s h => by obtain ⟨rfl, rfl⟩ := h; exact kk)
theorem V.cv4D {v1 v2 v3 v4 : Value} {w : Value} {σ2 : Sg} {b ci : Nat} (hd : decode cc pc = .ok (.invokevirtual idx, 3)) (hw : clV own idx y cy nLy rety 4) (hci : ci < 12) (hcls : cR ci = y.cls) (hty : sT σ b = ci + 1) (hM : MA E y cy nLy rety dy my py [.ref b, v1, v2, v3, v4] σ (fun r s => r = some w ∧ s = σ2)) (hdd : dy < d) (hn : nLy ≤ 80) (hm : nc + my ≤ mc) (hs : ns + py ≤ ms) (hr : (rest.map fun v => v.category).sum ≤ 8) (kk : V E X own mn cc nL ret d mc ms Q σ2 (nc + my) (ns + py) (pc + 3) ls (w :: rest)) : V E X own mn cc nL ret d mc ms Q σ nc ns pc ls (v4 :: v3 :: v2 :: v1 :: .ref b :: rest) := V.callV0 (argv := [v1, v2, v3, v4]) (rest := rest) (recT hci hty hcls) hd hw hM rfl hdd hn hm hs hr (fun r s h => by obtain ⟨rfl, rfl⟩ := h; exact kk)
theorem V.cq4D {v1 v2 v3 v4 : Value} {w : Value} {σ2 : Sg} (hE : eF E = true) (hd : decode cc pc = .ok (.invokevirtual idx, 3)) (hw : clV own idx y cy nLy rety 4) (hcls : RX11 = y.cls) (hM : MA E y cy nLy rety dy my py [.ref (eQ E 48), v1, v2, v3, v4] σ (fun r s => r = some w ∧ s = σ2)) (hdd : dy < d) (hn : nLy ≤ 80) (hm : nc + my ≤ mc) (hs : ns + py ≤ ms) (hr : (rest.map fun v => v.category).sum ≤ 8) (kk : V E X own mn cc nL ret d mc ms Q σ2 (nc + my) (ns + py) (pc + 3) ls (w :: rest)) : V E X own mn cc nL ret d mc ms Q σ nc ns pc ls (v4 :: v3 :: v2 :: v1 :: .ref (eQ E 48) :: rest) := V.callV0 (argv := [v1, v2, v3, v4]) (rest := rest) (recQ hE hcls) hd hw hM rfl hdd hn hm hs hr (fun r s h => by obtain ⟨rfl, rfl⟩ := h; exact kk)
theorem V.cv5D {v1 v2 v3 v4 v5 : Value} {w : Value} {σ2 : Sg} {b ci : Nat} (hd : decode cc pc = .ok (.invokevirtual idx, 3)) (hw : clV own idx y cy nLy rety 5) (hci : ci < 12) (hcls : cR ci = y.cls) (hty : sT σ b = ci + 1) (hM : MA E y cy nLy rety dy my py [.ref b, v1, v2, v3, v4, v5] σ (fun r s => r = some w ∧ s = σ2)) (hdd : dy < d) (hn : nLy ≤ 80) (hm : nc + my ≤ mc) (hs : ns + py ≤ ms) (hr : (rest.map fun v => v.category).sum ≤ 8) (kk : V E X own mn cc nL ret d mc ms Q σ2 (nc + my) (ns + py) (pc + 3) ls (w :: rest)) : V E X own mn cc nL ret d mc ms Q σ nc ns pc ls (v5 :: v4 :: v3 :: v2 :: v1 :: .ref b :: rest) := V.callV0 (argv := [v1, v2, v3, v4, v5]) (rest := rest) (recT hci hty hcls) hd hw hM rfl hdd hn hm hs hr (fun r s h => by obtain ⟨rfl, rfl⟩ := h; exact kk)
theorem V.cq5D {v1 v2 v3 v4 v5 : Value} {w : Value} {σ2 : Sg} (hE : eF E = true) (hd : decode cc pc = .ok (.invokevirtual idx, 3)) (hw : clV own idx y cy nLy rety 5) (hcls : RX11 = y.cls) (hM : MA E y cy nLy rety dy my py [.ref (eQ E 48), v1, v2, v3, v4, v5] σ (fun r s => r = some w ∧ s = σ2)) (hdd : dy < d) (hn : nLy ≤ 80) (hm : nc + my ≤ mc) (hs : ns + py ≤ ms) (hr : (rest.map fun v => v.category).sum ≤ 8) (kk : V E X own mn cc nL ret d mc ms Q σ2 (nc + my) (ns + py) (pc + 3) ls (w :: rest)) : V E X own mn cc nL ret d mc ms Q σ nc ns pc ls (v5 :: v4 :: v3 :: v2 :: v1 :: .ref (eQ E 48) :: rest) := V.callV0 (argv := [v1, v2, v3, v4, v5]) (rest := rest) (recQ hE hcls) hd hw hM rfl hdd hn hm hs hr (fun r s h => by obtain ⟨rfl, rfl⟩ := h; exact kk)
theorem V.cv6D {v1 v2 v3 v4 v5 v6 : Value} {w : Value} {σ2 : Sg} {b ci : Nat} (hd : decode cc pc = .ok (.invokevirtual idx, 3)) (hw : clV own idx y cy nLy rety 6) (hci : ci < 12) (hcls : cR ci = y.cls) (hty : sT σ b = ci + 1) (hM : MA E y cy nLy rety dy my py [.ref b, v1, v2, v3, v4, v5, v6] σ (fun r s => r = some w ∧ s = σ2)) (hdd : dy < d) (hn : nLy ≤ 80) (hm : nc + my ≤ mc) (hs : ns + py ≤ ms) (hr : (rest.map fun v => v.category).sum ≤ 8) (kk : V E X own mn cc nL ret d mc ms Q σ2 (nc + my) (ns + py) (pc + 3) ls (w :: rest)) : V E X own mn cc nL ret d mc ms Q σ nc ns pc ls (v6 :: v5 :: v4 :: v3 :: v2 :: v1 :: .ref b :: rest) := V.callV0 (argv := [v1, v2, v3, v4, v5, v6]) (rest := rest) (recT hci hty hcls) hd hw hM rfl hdd hn hm hs hr (fun r s h => by obtain ⟨rfl, rfl⟩ := h; exact kk)
theorem V.cq6D {v1 v2 v3 v4 v5 v6 : Value} {w : Value} {σ2 : Sg} (hE : eF E = true) (hd : decode cc pc = .ok (.invokevirtual idx, 3)) (hw : clV own idx y cy nLy rety 6) (hcls : RX11 = y.cls) (hM : MA E y cy nLy rety dy my py [.ref (eQ E 48), v1, v2, v3, v4, v5, v6] σ (fun r s => r = some w ∧ s = σ2)) (hdd : dy < d) (hn : nLy ≤ 80) (hm : nc + my ≤ mc) (hs : ns + py ≤ ms) (hr : (rest.map fun v => v.category).sum ≤ 8) (kk : V E X own mn cc nL ret d mc ms Q σ2 (nc + my) (ns + py) (pc + 3) ls (w :: rest)) : V E X own mn cc nL ret d mc ms Q σ nc ns pc ls (v6 :: v5 :: v4 :: v3 :: v2 :: v1 :: .ref (eQ E 48) :: rest) := V.callV0 (argv := [v1, v2, v3, v4, v5, v6]) (rest := rest) (recQ hE hcls) hd hw hM rfl hdd hn hm hs hr (fun r s h => by obtain ⟨rfl, rfl⟩ := h; exact kk)
theorem V.cs1U {v1 : Value} {σ2 : Sg} (hd : decode cc pc = .ok (.invokestatic idx, 3)) (hw : clS own idx y cy nLy rety 1) (hM : MA E y cy nLy rety dy my py [v1] σ (fun r s => r = none ∧ s = σ2)) (hdd : dy < d) (hn : nLy ≤ 80) (hm : nc + my ≤ mc) (hs : ns + py ≤ ms) (hr : (rest.map fun v => v.category).sum ≤ 8) (kk : V E X own mn cc nL ret d mc ms Q σ2 (nc + my) (ns + py) (pc + 3) ls rest) : V E X own mn cc nL ret d mc ms Q σ nc ns pc ls (v1 :: rest) := V.callS (argv := [v1]) (rest := rest) hd hw hM rfl hdd hn hm hs hr (fun r s h => by obtain ⟨rfl, rfl⟩ := h; exact kk)
theorem V.cs2U {v1 v2 : Value} {σ2 : Sg} (hd : decode cc pc = .ok (.invokestatic idx, 3)) (hw : clS own idx y cy nLy rety 2) (hM : MA E y cy nLy rety dy my py [v1, v2] σ (fun r s => r = none ∧ s = σ2)) (hdd : dy < d) (hn : nLy ≤ 80) (hm : nc + my ≤ mc) (hs : ns + py ≤ ms) (hr : (rest.map fun v => v.category).sum ≤ 8) (kk : V E X own mn cc nL ret d mc ms Q σ2 (nc + my) (ns + py) (pc + 3) ls rest) : V E X own mn cc nL ret d mc ms Q σ nc ns pc ls (v2 :: v1 :: rest) := V.callS (argv := [v1, v2]) (rest := rest) hd hw hM rfl hdd hn hm hs hr (fun r s h => by obtain ⟨rfl, rfl⟩ := h; exact kk)
theorem V.cs3U {v1 v2 v3 : Value} {σ2 : Sg} (hd : decode cc pc = .ok (.invokestatic idx, 3)) (hw : clS own idx y cy nLy rety 3) (hM : MA E y cy nLy rety dy my py [v1, v2, v3] σ (fun r s => r = none ∧ s = σ2)) (hdd : dy < d) (hn : nLy ≤ 80) (hm : nc + my ≤ mc) (hs : ns + py ≤ ms) (hr : (rest.map fun v => v.category).sum ≤ 8) (kk : V E X own mn cc nL ret d mc ms Q σ2 (nc + my) (ns + py) (pc + 3) ls rest) : V E X own mn cc nL ret d mc ms Q σ nc ns pc ls (v3 :: v2 :: v1 :: rest) := V.callS (argv := [v1, v2, v3]) (rest := rest) hd hw hM rfl hdd hn hm hs hr (fun r s h => by obtain ⟨rfl, rfl⟩ := h; exact kk)
theorem V.cv0U {σ2 : Sg} {b ci : Nat} (hd : decode cc pc = .ok (.invokevirtual idx, 3)) (hw : clV own idx y cy nLy rety 0) (hci : ci < 12) (hcls : cR ci = y.cls) (hty : sT σ b = ci + 1) (hM : MA E y cy nLy rety dy my py [.ref b] σ (fun r s => r = none ∧ s = σ2)) (hdd : dy < d) (hn : nLy ≤ 80) (hm : nc + my ≤ mc) (hs : ns + py ≤ ms) (hr : (rest.map fun v => v.category).sum ≤ 8) (kk : V E X own mn cc nL ret d mc ms Q σ2 (nc + my) (ns + py) (pc + 3) ls rest) : V E X own mn cc nL ret d mc ms Q σ nc ns pc ls (.ref b :: rest) := V.callV0 (argv := []) (rest := rest) (recT hci hty hcls) hd hw hM rfl hdd hn hm hs hr (fun r s h => by obtain ⟨rfl, rfl⟩ := h; exact kk)
theorem V.cq0U {σ2 : Sg} (hE : eF E = true) (hd : decode cc pc = .ok (.invokevirtual idx, 3)) (hw : clV own idx y cy nLy rety 0) (hcls : RX11 = y.cls) (hM : MA E y cy nLy rety dy my py [.ref (eQ E 48)] σ (fun r s => r = none ∧ s = σ2)) (hdd : dy < d) (hn : nLy ≤ 80) (hm : nc + my ≤ mc) (hs : ns + py ≤ ms) (hr : (rest.map fun v => v.category).sum ≤ 8) (kk : V E X own mn cc nL ret d mc ms Q σ2 (nc + my) (ns + py) (pc + 3) ls rest) : V E X own mn cc nL ret d mc ms Q σ nc ns pc ls (.ref (eQ E 48) :: rest) := V.callV0 (argv := []) (rest := rest) (recQ hE hcls) hd hw hM rfl hdd hn hm hs hr (fun r s h => by obtain ⟨rfl, rfl⟩ := h; exact kk)
theorem V.ci0U {σ2 : Sg} {b : Nat} (hd : decode cc pc = .ok (.invokespecial idx, 3)) (hw : clI own idx y cy nLy 0) (hM : MA E y cy nLy none dy my py [.ref b] σ (fun r s => r = none ∧ s = σ2)) (hdd : dy < d) (hn : nLy ≤ 80) (hm : nc + my ≤ mc) (hs : ns + py ≤ ms) (hr : (rest.map fun v => v.category).sum ≤ 8) (kk : V E X own mn cc nL ret d mc ms Q σ2 (nc + my) (ns + py) (pc + 3) ls rest) : V E X own mn cc nL ret d mc ms Q σ nc ns pc ls (.ref b :: rest) := V.callI (argv := []) (rest := rest) hd hw hM rfl hdd hn hm hs hr (fun r s h => by obtain ⟨rfl, rfl⟩ := h; exact kk)
theorem V.cin0U {σ2 : Sg} {b : Nat} (hd : decode cc pc = .ok (.invokespecial idx, 3)) (hw : clIN own idx y cy nLy 0) (hM : MA E y cy nLy none dy my py [.ref b] σ (fun r s => r = none ∧ s = σ2)) (hdd : dy < d) (hn : nLy ≤ 80) (hm : nc + my ≤ mc) (hs : ns + py ≤ ms) (hr : (rest.map fun v => v.category).sum ≤ 8) (kk : V E X own mn cc nL ret d mc ms Q σ2 (nc + my) (ns + py) (pc + 3) ls rest) : V E X own mn cc nL ret d mc ms Q σ nc ns pc ls (.ref b :: rest) := V.callIN (argv := []) (rest := rest) hd hw hM rfl hdd hn hm hs hr (fun r s h => by obtain ⟨rfl, rfl⟩ := h; exact kk)
theorem V.cv1U {v1 : Value} {σ2 : Sg} {b ci : Nat} (hd : decode cc pc = .ok (.invokevirtual idx, 3)) (hw : clV own idx y cy nLy rety 1) (hci : ci < 12) (hcls : cR ci = y.cls) (hty : sT σ b = ci + 1) (hM : MA E y cy nLy rety dy my py [.ref b, v1] σ (fun r s => r = none ∧ s = σ2)) (hdd : dy < d) (hn : nLy ≤ 80) (hm : nc + my ≤ mc) (hs : ns + py ≤ ms) (hr : (rest.map fun v => v.category).sum ≤ 8) (kk : V E X own mn cc nL ret d mc ms Q σ2 (nc + my) (ns + py) (pc + 3) ls rest) : V E X own mn cc nL ret d mc ms Q σ nc ns pc ls (v1 :: .ref b :: rest) := V.callV0 (argv := [v1]) (rest := rest) (recT hci hty hcls) hd hw hM rfl hdd hn hm hs hr (fun r s h => by obtain ⟨rfl, rfl⟩ := h; exact kk)
theorem V.cq1U {v1 : Value} {σ2 : Sg} (hE : eF E = true) (hd : decode cc pc = .ok (.invokevirtual idx, 3)) (hw : clV own idx y cy nLy rety 1) (hcls : RX11 = y.cls) (hM : MA E y cy nLy rety dy my py [.ref (eQ E 48), v1] σ (fun r s => r = none ∧ s = σ2)) (hdd : dy < d) (hn : nLy ≤ 80) (hm : nc + my ≤ mc) (hs : ns + py ≤ ms) (hr : (rest.map fun v => v.category).sum ≤ 8) (kk : V E X own mn cc nL ret d mc ms Q σ2 (nc + my) (ns + py) (pc + 3) ls rest) : V E X own mn cc nL ret d mc ms Q σ nc ns pc ls (v1 :: .ref (eQ E 48) :: rest) := V.callV0 (argv := [v1]) (rest := rest) (recQ hE hcls) hd hw hM rfl hdd hn hm hs hr (fun r s h => by obtain ⟨rfl, rfl⟩ := h; exact kk)
theorem V.ci1U {v1 : Value} {σ2 : Sg} {b : Nat} (hd : decode cc pc = .ok (.invokespecial idx, 3)) (hw : clI own idx y cy nLy 1) (hM : MA E y cy nLy none dy my py [.ref b, v1] σ (fun r s => r = none ∧ s = σ2)) (hdd : dy < d) (hn : nLy ≤ 80) (hm : nc + my ≤ mc) (hs : ns + py ≤ ms) (hr : (rest.map fun v => v.category).sum ≤ 8) (kk : V E X own mn cc nL ret d mc ms Q σ2 (nc + my) (ns + py) (pc + 3) ls rest) : V E X own mn cc nL ret d mc ms Q σ nc ns pc ls (v1 :: .ref b :: rest) := V.callI (argv := [v1]) (rest := rest) hd hw hM rfl hdd hn hm hs hr (fun r s h => by obtain ⟨rfl, rfl⟩ := h; exact kk)
theorem V.cin1U {v1 : Value} {σ2 : Sg} {b : Nat} (hd : decode cc pc = .ok (.invokespecial idx, 3)) (hw : clIN own idx y cy nLy 1) (hM : MA E y cy nLy none dy my py [.ref b, v1] σ (fun r s => r = none ∧ s = σ2)) (hdd : dy < d) (hn : nLy ≤ 80) (hm : nc + my ≤ mc) (hs : ns + py ≤ ms) (hr : (rest.map fun v => v.category).sum ≤ 8) (kk : V E X own mn cc nL ret d mc ms Q σ2 (nc + my) (ns + py) (pc + 3) ls rest) : V E X own mn cc nL ret d mc ms Q σ nc ns pc ls (v1 :: .ref b :: rest) := V.callIN (argv := [v1]) (rest := rest) hd hw hM rfl hdd hn hm hs hr (fun r s h => by obtain ⟨rfl, rfl⟩ := h; exact kk)
theorem V.cv2U {v1 v2 : Value} {σ2 : Sg} {b ci : Nat} (hd : decode cc pc = .ok (.invokevirtual idx, 3)) (hw : clV own idx y cy nLy rety 2) (hci : ci < 12) (hcls : cR ci = y.cls) (hty : sT σ b = ci + 1) (hM : MA E y cy nLy rety dy my py [.ref b, v1, v2] σ (fun r s => r = none ∧ s = σ2)) (hdd : dy < d) (hn : nLy ≤ 80) (hm : nc + my ≤ mc) (hs : ns + py ≤ ms) (hr : (rest.map fun v => v.category).sum ≤ 8) (kk : V E X own mn cc nL ret d mc ms Q σ2 (nc + my) (ns + py) (pc + 3) ls rest) : V E X own mn cc nL ret d mc ms Q σ nc ns pc ls (v2 :: v1 :: .ref b :: rest) := V.callV0 (argv := [v1, v2]) (rest := rest) (recT hci hty hcls) hd hw hM rfl hdd hn hm hs hr (fun r s h => by obtain ⟨rfl, rfl⟩ := h; exact kk)
theorem V.cq2U {v1 v2 : Value} {σ2 : Sg} (hE : eF E = true) (hd : decode cc pc = .ok (.invokevirtual idx, 3)) (hw : clV own idx y cy nLy rety 2) (hcls : RX11 = y.cls) (hM : MA E y cy nLy rety dy my py [.ref (eQ E 48), v1, v2] σ (fun r s => r = none ∧ s = σ2)) (hdd : dy < d) (hn : nLy ≤ 80) (hm : nc + my ≤ mc) (hs : ns + py ≤ ms) (hr : (rest.map fun v => v.category).sum ≤ 8) (kk : V E X own mn cc nL ret d mc ms Q σ2 (nc + my) (ns + py) (pc + 3) ls rest) : V E X own mn cc nL ret d mc ms Q σ nc ns pc ls (v2 :: v1 :: .ref (eQ E 48) :: rest) := V.callV0 (argv := [v1, v2]) (rest := rest) (recQ hE hcls) hd hw hM rfl hdd hn hm hs hr (fun r s h => by obtain ⟨rfl, rfl⟩ := h; exact kk)
theorem V.ci2U {v1 v2 : Value} {σ2 : Sg} {b : Nat} (hd : decode cc pc = .ok (.invokespecial idx, 3)) (hw : clI own idx y cy nLy 2) (hM : MA E y cy nLy none dy my py [.ref b, v1, v2] σ (fun r s => r = none ∧ s = σ2)) (hdd : dy < d) (hn : nLy ≤ 80) (hm : nc + my ≤ mc) (hs : ns + py ≤ ms) (hr : (rest.map fun v => v.category).sum ≤ 8) (kk : V E X own mn cc nL ret d mc ms Q σ2 (nc + my) (ns + py) (pc + 3) ls rest) : V E X own mn cc nL ret d mc ms Q σ nc ns pc ls (v2 :: v1 :: .ref b :: rest) := V.callI (argv := [v1, v2]) (rest := rest) hd hw hM rfl hdd hn hm hs hr (fun r s h => by obtain ⟨rfl, rfl⟩ := h; exact kk)
theorem V.cin2U {v1 v2 : Value} {σ2 : Sg} {b : Nat} (hd : decode cc pc = .ok (.invokespecial idx, 3)) (hw : clIN own idx y cy nLy 2) (hM : MA E y cy nLy none dy my py [.ref b, v1, v2] σ (fun r s => r = none ∧ s = σ2)) (hdd : dy < d) (hn : nLy ≤ 80) (hm : nc + my ≤ mc) (hs : ns + py ≤ ms) (hr : (rest.map fun v => v.category).sum ≤ 8) (kk : V E X own mn cc nL ret d mc ms Q σ2 (nc + my) (ns + py) (pc + 3) ls rest) : V E X own mn cc nL ret d mc ms Q σ nc ns pc ls (v2 :: v1 :: .ref b :: rest) := V.callIN (argv := [v1, v2]) (rest := rest) hd hw hM rfl hdd hn hm hs hr (fun r s h => by obtain ⟨rfl, rfl⟩ := h; exact kk)
theorem V.cv3U {v1 v2 v3 : Value} {σ2 : Sg} {b ci : Nat} (hd : decode cc pc = .ok (.invokevirtual idx, 3)) (hw : clV own idx y cy nLy rety 3) (hci : ci < 12) (hcls : cR ci = y.cls) (hty : sT σ b = ci + 1) (hM : MA E y cy nLy rety dy my py [.ref b, v1, v2, v3] σ (fun r s => r = none ∧ s = σ2)) (hdd : dy < d) (hn : nLy ≤ 80) (hm : nc + my ≤ mc) (hs : ns + py ≤ ms) (hr : (rest.map fun v => v.category).sum ≤ 8) (kk : V E X own mn cc nL ret d mc ms Q σ2 (nc + my) (ns + py) (pc + 3) ls rest) : V E X own mn cc nL ret d mc ms Q σ nc ns pc ls (v3 :: v2 :: v1 :: .ref b :: rest) := V.callV0 (argv := [v1, v2, v3]) (rest := rest) (recT hci hty hcls) hd hw hM rfl hdd hn hm hs hr (fun r s h => by obtain ⟨rfl, rfl⟩ := h; exact kk)
theorem V.cq3U {v1 v2 v3 : Value} {σ2 : Sg} (hE : eF E = true) (hd : decode cc pc = .ok (.invokevirtual idx, 3)) (hw : clV own idx y cy nLy rety 3) (hcls : RX11 = y.cls) (hM : MA E y cy nLy rety dy my py [.ref (eQ E 48), v1, v2, v3] σ (fun r s => r = none ∧ s = σ2)) (hdd : dy < d) (hn : nLy ≤ 80) (hm : nc + my ≤ mc) (hs : ns + py ≤ ms) (hr : (rest.map fun v => v.category).sum ≤ 8) (kk : V E X own mn cc nL ret d mc ms Q σ2 (nc + my) (ns + py) (pc + 3) ls rest) : V E X own mn cc nL ret d mc ms Q σ nc ns pc ls (v3 :: v2 :: v1 :: .ref (eQ E 48) :: rest) := V.callV0 (argv := [v1, v2, v3]) (rest := rest) (recQ hE hcls) hd hw hM rfl hdd hn hm hs hr (fun r s h => by obtain ⟨rfl, rfl⟩ := h; exact kk)
theorem V.ci3U {v1 v2 v3 : Value} {σ2 : Sg} {b : Nat} (hd : decode cc pc = .ok (.invokespecial idx, 3)) (hw : clI own idx y cy nLy 3) (hM : MA E y cy nLy none dy my py [.ref b, v1, v2, v3] σ (fun r s => r = none ∧ s = σ2)) (hdd : dy < d) (hn : nLy ≤ 80) (hm : nc + my ≤ mc) (hs : ns + py ≤ ms) (hr : (rest.map fun v => v.category).sum ≤ 8) (kk : V E X own mn cc nL ret d mc ms Q σ2 (nc + my) (ns + py) (pc + 3) ls rest) : V E X own mn cc nL ret d mc ms Q σ nc ns pc ls (v3 :: v2 :: v1 :: .ref b :: rest) := V.callI (argv := [v1, v2, v3]) (rest := rest) hd hw hM rfl hdd hn hm hs hr (fun r s h => by obtain ⟨rfl, rfl⟩ := h; exact kk)
theorem V.cin3U {v1 v2 v3 : Value} {σ2 : Sg} {b : Nat} (hd : decode cc pc = .ok (.invokespecial idx, 3)) (hw : clIN own idx y cy nLy 3) (hM : MA E y cy nLy none dy my py [.ref b, v1, v2, v3] σ (fun r s => r = none ∧ s = σ2)) (hdd : dy < d) (hn : nLy ≤ 80) (hm : nc + my ≤ mc) (hs : ns + py ≤ ms) (hr : (rest.map fun v => v.category).sum ≤ 8) (kk : V E X own mn cc nL ret d mc ms Q σ2 (nc + my) (ns + py) (pc + 3) ls rest) : V E X own mn cc nL ret d mc ms Q σ nc ns pc ls (v3 :: v2 :: v1 :: .ref b :: rest) := V.callIN (argv := [v1, v2, v3]) (rest := rest) hd hw hM rfl hdd hn hm hs hr (fun r s h => by obtain ⟨rfl, rfl⟩ := h; exact kk)
theorem V.cv4U {v1 v2 v3 v4 : Value} {σ2 : Sg} {b ci : Nat} (hd : decode cc pc = .ok (.invokevirtual idx, 3)) (hw : clV own idx y cy nLy rety 4) (hci : ci < 12) (hcls : cR ci = y.cls) (hty : sT σ b = ci + 1) (hM : MA E y cy nLy rety dy my py [.ref b, v1, v2, v3, v4] σ (fun r s => r = none ∧ s = σ2)) (hdd : dy < d) (hn : nLy ≤ 80) (hm : nc + my ≤ mc) (hs : ns + py ≤ ms) (hr : (rest.map fun v => v.category).sum ≤ 8) (kk : V E X own mn cc nL ret d mc ms Q σ2 (nc + my) (ns + py) (pc + 3) ls rest) : V E X own mn cc nL ret d mc ms Q σ nc ns pc ls (v4 :: v3 :: v2 :: v1 :: .ref b :: rest) := V.callV0 (argv := [v1, v2, v3, v4]) (rest := rest) (recT hci hty hcls) hd hw hM rfl hdd hn hm hs hr (fun r s h => by obtain ⟨rfl, rfl⟩ := h; exact kk)
theorem V.cq4U {v1 v2 v3 v4 : Value} {σ2 : Sg} (hE : eF E = true) (hd : decode cc pc = .ok (.invokevirtual idx, 3)) (hw : clV own idx y cy nLy rety 4) (hcls : RX11 = y.cls) (hM : MA E y cy nLy rety dy my py [.ref (eQ E 48), v1, v2, v3, v4] σ (fun r s => r = none ∧ s = σ2)) (hdd : dy < d) (hn : nLy ≤ 80) (hm : nc + my ≤ mc) (hs : ns + py ≤ ms) (hr : (rest.map fun v => v.category).sum ≤ 8) (kk : V E X own mn cc nL ret d mc ms Q σ2 (nc + my) (ns + py) (pc + 3) ls rest) : V E X own mn cc nL ret d mc ms Q σ nc ns pc ls (v4 :: v3 :: v2 :: v1 :: .ref (eQ E 48) :: rest) := V.callV0 (argv := [v1, v2, v3, v4]) (rest := rest) (recQ hE hcls) hd hw hM rfl hdd hn hm hs hr (fun r s h => by obtain ⟨rfl, rfl⟩ := h; exact kk)
theorem V.ci4U {v1 v2 v3 v4 : Value} {σ2 : Sg} {b : Nat} (hd : decode cc pc = .ok (.invokespecial idx, 3)) (hw : clI own idx y cy nLy 4) (hM : MA E y cy nLy none dy my py [.ref b, v1, v2, v3, v4] σ (fun r s => r = none ∧ s = σ2)) (hdd : dy < d) (hn : nLy ≤ 80) (hm : nc + my ≤ mc) (hs : ns + py ≤ ms) (hr : (rest.map fun v => v.category).sum ≤ 8) (kk : V E X own mn cc nL ret d mc ms Q σ2 (nc + my) (ns + py) (pc + 3) ls rest) : V E X own mn cc nL ret d mc ms Q σ nc ns pc ls (v4 :: v3 :: v2 :: v1 :: .ref b :: rest) := V.callI (argv := [v1, v2, v3, v4]) (rest := rest) hd hw hM rfl hdd hn hm hs hr (fun r s h => by obtain ⟨rfl, rfl⟩ := h; exact kk)
theorem V.cin4U {v1 v2 v3 v4 : Value} {σ2 : Sg} {b : Nat} (hd : decode cc pc = .ok (.invokespecial idx, 3)) (hw : clIN own idx y cy nLy 4) (hM : MA E y cy nLy none dy my py [.ref b, v1, v2, v3, v4] σ (fun r s => r = none ∧ s = σ2)) (hdd : dy < d) (hn : nLy ≤ 80) (hm : nc + my ≤ mc) (hs : ns + py ≤ ms) (hr : (rest.map fun v => v.category).sum ≤ 8) (kk : V E X own mn cc nL ret d mc ms Q σ2 (nc + my) (ns + py) (pc + 3) ls rest) : V E X own mn cc nL ret d mc ms Q σ nc ns pc ls (v4 :: v3 :: v2 :: v1 :: .ref b :: rest) := V.callIN (argv := [v1, v2, v3, v4]) (rest := rest) hd hw hM rfl hdd hn hm hs hr (fun r s h => by obtain ⟨rfl, rfl⟩ := h; exact kk)
theorem V.cv5U {v1 v2 v3 v4 v5 : Value} {σ2 : Sg} {b ci : Nat} (hd : decode cc pc = .ok (.invokevirtual idx, 3)) (hw : clV own idx y cy nLy rety 5) (hci : ci < 12) (hcls : cR ci = y.cls) (hty : sT σ b = ci + 1) (hM : MA E y cy nLy rety dy my py [.ref b, v1, v2, v3, v4, v5] σ (fun r s => r = none ∧ s = σ2)) (hdd : dy < d) (hn : nLy ≤ 80) (hm : nc + my ≤ mc) (hs : ns + py ≤ ms) (hr : (rest.map fun v => v.category).sum ≤ 8) (kk : V E X own mn cc nL ret d mc ms Q σ2 (nc + my) (ns + py) (pc + 3) ls rest) : V E X own mn cc nL ret d mc ms Q σ nc ns pc ls (v5 :: v4 :: v3 :: v2 :: v1 :: .ref b :: rest) := V.callV0 (argv := [v1, v2, v3, v4, v5]) (rest := rest) (recT hci hty hcls) hd hw hM rfl hdd hn hm hs hr (fun r s h => by obtain ⟨rfl, rfl⟩ := h; exact kk)
theorem V.cq5U {v1 v2 v3 v4 v5 : Value} {σ2 : Sg} (hE : eF E = true) (hd : decode cc pc = .ok (.invokevirtual idx, 3)) (hw : clV own idx y cy nLy rety 5) (hcls : RX11 = y.cls) (hM : MA E y cy nLy rety dy my py [.ref (eQ E 48), v1, v2, v3, v4, v5] σ (fun r s => r = none ∧ s = σ2)) (hdd : dy < d) (hn : nLy ≤ 80) (hm : nc + my ≤ mc) (hs : ns + py ≤ ms) (hr : (rest.map fun v => v.category).sum ≤ 8) (kk : V E X own mn cc nL ret d mc ms Q σ2 (nc + my) (ns + py) (pc + 3) ls rest) : V E X own mn cc nL ret d mc ms Q σ nc ns pc ls (v5 :: v4 :: v3 :: v2 :: v1 :: .ref (eQ E 48) :: rest) := V.callV0 (argv := [v1, v2, v3, v4, v5]) (rest := rest) (recQ hE hcls) hd hw hM rfl hdd hn hm hs hr (fun r s h => by obtain ⟨rfl, rfl⟩ := h; exact kk)
theorem V.ci5U {v1 v2 v3 v4 v5 : Value} {σ2 : Sg} {b : Nat} (hd : decode cc pc = .ok (.invokespecial idx, 3)) (hw : clI own idx y cy nLy 5) (hM : MA E y cy nLy none dy my py [.ref b, v1, v2, v3, v4, v5] σ (fun r s => r = none ∧ s = σ2)) (hdd : dy < d) (hn : nLy ≤ 80) (hm : nc + my ≤ mc) (hs : ns + py ≤ ms) (hr : (rest.map fun v => v.category).sum ≤ 8) (kk : V E X own mn cc nL ret d mc ms Q σ2 (nc + my) (ns + py) (pc + 3) ls rest) : V E X own mn cc nL ret d mc ms Q σ nc ns pc ls (v5 :: v4 :: v3 :: v2 :: v1 :: .ref b :: rest) := V.callI (argv := [v1, v2, v3, v4, v5]) (rest := rest) hd hw hM rfl hdd hn hm hs hr (fun r s h => by obtain ⟨rfl, rfl⟩ := h; exact kk)
theorem V.cin5U {v1 v2 v3 v4 v5 : Value} {σ2 : Sg} {b : Nat} (hd : decode cc pc = .ok (.invokespecial idx, 3)) (hw : clIN own idx y cy nLy 5) (hM : MA E y cy nLy none dy my py [.ref b, v1, v2, v3, v4, v5] σ (fun r s => r = none ∧ s = σ2)) (hdd : dy < d) (hn : nLy ≤ 80) (hm : nc + my ≤ mc) (hs : ns + py ≤ ms) (hr : (rest.map fun v => v.category).sum ≤ 8) (kk : V E X own mn cc nL ret d mc ms Q σ2 (nc + my) (ns + py) (pc + 3) ls rest) : V E X own mn cc nL ret d mc ms Q σ nc ns pc ls (v5 :: v4 :: v3 :: v2 :: v1 :: .ref b :: rest) := V.callIN (argv := [v1, v2, v3, v4, v5]) (rest := rest) hd hw hM rfl hdd hn hm hs hr (fun r s h => by obtain ⟨rfl, rfl⟩ := h; exact kk)
theorem V.cv6U {v1 v2 v3 v4 v5 v6 : Value} {σ2 : Sg} {b ci : Nat} (hd : decode cc pc = .ok (.invokevirtual idx, 3)) (hw : clV own idx y cy nLy rety 6) (hci : ci < 12) (hcls : cR ci = y.cls) (hty : sT σ b = ci + 1) (hM : MA E y cy nLy rety dy my py [.ref b, v1, v2, v3, v4, v5, v6] σ (fun r s => r = none ∧ s = σ2)) (hdd : dy < d) (hn : nLy ≤ 80) (hm : nc + my ≤ mc) (hs : ns + py ≤ ms) (hr : (rest.map fun v => v.category).sum ≤ 8) (kk : V E X own mn cc nL ret d mc ms Q σ2 (nc + my) (ns + py) (pc + 3) ls rest) : V E X own mn cc nL ret d mc ms Q σ nc ns pc ls (v6 :: v5 :: v4 :: v3 :: v2 :: v1 :: .ref b :: rest) := V.callV0 (argv := [v1, v2, v3, v4, v5, v6]) (rest := rest) (recT hci hty hcls) hd hw hM rfl hdd hn hm hs hr (fun r s h => by obtain ⟨rfl, rfl⟩ := h; exact kk)
theorem V.cq6U {v1 v2 v3 v4 v5 v6 : Value} {σ2 : Sg} (hE : eF E = true) (hd : decode cc pc = .ok (.invokevirtual idx, 3)) (hw : clV own idx y cy nLy rety 6) (hcls : RX11 = y.cls) (hM : MA E y cy nLy rety dy my py [.ref (eQ E 48), v1, v2, v3, v4, v5, v6] σ (fun r s => r = none ∧ s = σ2)) (hdd : dy < d) (hn : nLy ≤ 80) (hm : nc + my ≤ mc) (hs : ns + py ≤ ms) (hr : (rest.map fun v => v.category).sum ≤ 8) (kk : V E X own mn cc nL ret d mc ms Q σ2 (nc + my) (ns + py) (pc + 3) ls rest) : V E X own mn cc nL ret d mc ms Q σ nc ns pc ls (v6 :: v5 :: v4 :: v3 :: v2 :: v1 :: .ref (eQ E 48) :: rest) := V.callV0 (argv := [v1, v2, v3, v4, v5, v6]) (rest := rest) (recQ hE hcls) hd hw hM rfl hdd hn hm hs hr (fun r s h => by obtain ⟨rfl, rfl⟩ := h; exact kk)
theorem V.ci6U {v1 v2 v3 v4 v5 v6 : Value} {σ2 : Sg} {b : Nat} (hd : decode cc pc = .ok (.invokespecial idx, 3)) (hw : clI own idx y cy nLy 6) (hM : MA E y cy nLy none dy my py [.ref b, v1, v2, v3, v4, v5, v6] σ (fun r s => r = none ∧ s = σ2)) (hdd : dy < d) (hn : nLy ≤ 80) (hm : nc + my ≤ mc) (hs : ns + py ≤ ms) (hr : (rest.map fun v => v.category).sum ≤ 8) (kk : V E X own mn cc nL ret d mc ms Q σ2 (nc + my) (ns + py) (pc + 3) ls rest) : V E X own mn cc nL ret d mc ms Q σ nc ns pc ls (v6 :: v5 :: v4 :: v3 :: v2 :: v1 :: .ref b :: rest) := V.callI (argv := [v1, v2, v3, v4, v5, v6]) (rest := rest) hd hw hM rfl hdd hn hm hs hr (fun r s h => by obtain ⟨rfl, rfl⟩ := h; exact kk)
theorem V.cin6U {v1 v2 v3 v4 v5 v6 : Value} {σ2 : Sg} {b : Nat} (hd : decode cc pc = .ok (.invokespecial idx, 3)) (hw : clIN own idx y cy nLy 6) (hM : MA E y cy nLy none dy my py [.ref b, v1, v2, v3, v4, v5, v6] σ (fun r s => r = none ∧ s = σ2)) (hdd : dy < d) (hn : nLy ≤ 80) (hm : nc + my ≤ mc) (hs : ns + py ≤ ms) (hr : (rest.map fun v => v.category).sum ≤ 8) (kk : V E X own mn cc nL ret d mc ms Q σ2 (nc + my) (ns + py) (pc + 3) ls rest) : V E X own mn cc nL ret d mc ms Q σ nc ns pc ls (v6 :: v5 :: v4 :: v3 :: v2 :: v1 :: .ref b :: rest) := V.callIN (argv := [v1, v2, v3, v4, v5, v6]) (rest := rest) hd hw hM rfl hdd hn hm hs hr (fun r s h => by obtain ⟨rfl, rfl⟩ := h; exact kk)
theorem V.cs1i {v1 : Value} {pi : Int32 → Sg → Prop} (hd : decode cc pc = .ok (.invokestatic idx, 3)) (hw : clS own idx y cy nLy rety 1) (hM : MA E y cy nLy rety dy my py [v1] σ (fun r s => ∃ x, r = some (.int x) ∧ pi x s)) (hdd : dy < d) (hn : nLy ≤ 80) (hm : nc + my ≤ mc) (hs : ns + py ≤ ms) (hr : (rest.map fun v => v.category).sum ≤ 8) (kk : ∀ x s, pi x s → V E X own mn cc nL ret d mc ms Q s (nc + my) (ns + py) (pc + 3) ls (.int x :: rest)) : V E X own mn cc nL ret d mc ms Q σ nc ns pc ls (v1 :: rest) := V.callS (argv := [v1]) (rest := rest) hd hw hM rfl hdd hn hm hs hr (fun r s h => by obtain ⟨x, rfl, h⟩ := h; exact kk x s h)
theorem V.cs2i {v1 v2 : Value} {pi : Int32 → Sg → Prop} (hd : decode cc pc = .ok (.invokestatic idx, 3)) (hw : clS own idx y cy nLy rety 2) (hM : MA E y cy nLy rety dy my py [v1, v2] σ (fun r s => ∃ x, r = some (.int x) ∧ pi x s)) (hdd : dy < d) (hn : nLy ≤ 80) (hm : nc + my ≤ mc) (hs : ns + py ≤ ms) (hr : (rest.map fun v => v.category).sum ≤ 8) (kk : ∀ x s, pi x s → V E X own mn cc nL ret d mc ms Q s (nc + my) (ns + py) (pc + 3) ls (.int x :: rest)) : V E X own mn cc nL ret d mc ms Q σ nc ns pc ls (v2 :: v1 :: rest) := V.callS (argv := [v1, v2]) (rest := rest) hd hw hM rfl hdd hn hm hs hr (fun r s h => by obtain ⟨x, rfl, h⟩ := h; exact kk x s h)
theorem V.cs3i {v1 v2 v3 : Value} {pi : Int32 → Sg → Prop} (hd : decode cc pc = .ok (.invokestatic idx, 3)) (hw : clS own idx y cy nLy rety 3) (hM : MA E y cy nLy rety dy my py [v1, v2, v3] σ (fun r s => ∃ x, r = some (.int x) ∧ pi x s)) (hdd : dy < d) (hn : nLy ≤ 80) (hm : nc + my ≤ mc) (hs : ns + py ≤ ms) (hr : (rest.map fun v => v.category).sum ≤ 8) (kk : ∀ x s, pi x s → V E X own mn cc nL ret d mc ms Q s (nc + my) (ns + py) (pc + 3) ls (.int x :: rest)) : V E X own mn cc nL ret d mc ms Q σ nc ns pc ls (v3 :: v2 :: v1 :: rest) := V.callS (argv := [v1, v2, v3]) (rest := rest) hd hw hM rfl hdd hn hm hs hr (fun r s h => by obtain ⟨x, rfl, h⟩ := h; exact kk x s h)
theorem V.cv0i {pi : Int32 → Sg → Prop} {b ci : Nat} (hd : decode cc pc = .ok (.invokevirtual idx, 3)) (hw : clV own idx y cy nLy rety 0) (hci : ci < 12) (hcls : cR ci = y.cls) (hty : sT σ b = ci + 1) (hM : MA E y cy nLy rety dy my py [.ref b] σ (fun r s => ∃ x, r = some (.int x) ∧ pi x s)) (hdd : dy < d) (hn : nLy ≤ 80) (hm : nc + my ≤ mc) (hs : ns + py ≤ ms) (hr : (rest.map fun v => v.category).sum ≤ 8) (kk : ∀ x s, pi x s → V E X own mn cc nL ret d mc ms Q s (nc + my) (ns + py) (pc + 3) ls (.int x :: rest)) : V E X own mn cc nL ret d mc ms Q σ nc ns pc ls (.ref b :: rest) := V.callV0 (argv := []) (rest := rest) (recT hci hty hcls) hd hw hM rfl hdd hn hm hs hr (fun r s h => by obtain ⟨x, rfl, h⟩ := h; exact kk x s h)
theorem V.cq0i {pi : Int32 → Sg → Prop} (hE : eF E = true) (hd : decode cc pc = .ok (.invokevirtual idx, 3)) (hw : clV own idx y cy nLy rety 0) (hcls : RX11 = y.cls) (hM : MA E y cy nLy rety dy my py [.ref (eQ E 48)] σ (fun r s => ∃ x, r = some (.int x) ∧ pi x s)) (hdd : dy < d) (hn : nLy ≤ 80) (hm : nc + my ≤ mc) (hs : ns + py ≤ ms) (hr : (rest.map fun v => v.category).sum ≤ 8) (kk : ∀ x s, pi x s → V E X own mn cc nL ret d mc ms Q s (nc + my) (ns + py) (pc + 3) ls (.int x :: rest)) : V E X own mn cc nL ret d mc ms Q σ nc ns pc ls (.ref (eQ E 48) :: rest) := V.callV0 (argv := []) (rest := rest) (recQ hE hcls) hd hw hM rfl hdd hn hm hs hr (fun r s h => by obtain ⟨x, rfl, h⟩ := h; exact kk x s h)
theorem V.cv1i {v1 : Value} {pi : Int32 → Sg → Prop} {b ci : Nat} (hd : decode cc pc = .ok (.invokevirtual idx, 3)) (hw : clV own idx y cy nLy rety 1) (hci : ci < 12) (hcls : cR ci = y.cls) (hty : sT σ b = ci + 1) (hM : MA E y cy nLy rety dy my py [.ref b, v1] σ (fun r s => ∃ x, r = some (.int x) ∧ pi x s)) (hdd : dy < d) (hn : nLy ≤ 80) (hm : nc + my ≤ mc) (hs : ns + py ≤ ms) (hr : (rest.map fun v => v.category).sum ≤ 8) (kk : ∀ x s, pi x s → V E X own mn cc nL ret d mc ms Q s (nc + my) (ns + py) (pc + 3) ls (.int x :: rest)) : V E X own mn cc nL ret d mc ms Q σ nc ns pc ls (v1 :: .ref b :: rest) := V.callV0 (argv := [v1]) (rest := rest) (recT hci hty hcls) hd hw hM rfl hdd hn hm hs hr (fun r s h => by obtain ⟨x, rfl, h⟩ := h; exact kk x s h)
theorem V.cq1i {v1 : Value} {pi : Int32 → Sg → Prop} (hE : eF E = true) (hd : decode cc pc = .ok (.invokevirtual idx, 3)) (hw : clV own idx y cy nLy rety 1) (hcls : RX11 = y.cls) (hM : MA E y cy nLy rety dy my py [.ref (eQ E 48), v1] σ (fun r s => ∃ x, r = some (.int x) ∧ pi x s)) (hdd : dy < d) (hn : nLy ≤ 80) (hm : nc + my ≤ mc) (hs : ns + py ≤ ms) (hr : (rest.map fun v => v.category).sum ≤ 8) (kk : ∀ x s, pi x s → V E X own mn cc nL ret d mc ms Q s (nc + my) (ns + py) (pc + 3) ls (.int x :: rest)) : V E X own mn cc nL ret d mc ms Q σ nc ns pc ls (v1 :: .ref (eQ E 48) :: rest) := V.callV0 (argv := [v1]) (rest := rest) (recQ hE hcls) hd hw hM rfl hdd hn hm hs hr (fun r s h => by obtain ⟨x, rfl, h⟩ := h; exact kk x s h)
theorem V.cv2i {v1 v2 : Value} {pi : Int32 → Sg → Prop} {b ci : Nat} (hd : decode cc pc = .ok (.invokevirtual idx, 3)) (hw : clV own idx y cy nLy rety 2) (hci : ci < 12) (hcls : cR ci = y.cls) (hty : sT σ b = ci + 1) (hM : MA E y cy nLy rety dy my py [.ref b, v1, v2] σ (fun r s => ∃ x, r = some (.int x) ∧ pi x s)) (hdd : dy < d) (hn : nLy ≤ 80) (hm : nc + my ≤ mc) (hs : ns + py ≤ ms) (hr : (rest.map fun v => v.category).sum ≤ 8) (kk : ∀ x s, pi x s → V E X own mn cc nL ret d mc ms Q s (nc + my) (ns + py) (pc + 3) ls (.int x :: rest)) : V E X own mn cc nL ret d mc ms Q σ nc ns pc ls (v2 :: v1 :: .ref b :: rest) := V.callV0 (argv := [v1, v2]) (rest := rest) (recT hci hty hcls) hd hw hM rfl hdd hn hm hs hr (fun r s h => by obtain ⟨x, rfl, h⟩ := h; exact kk x s h)
theorem V.cq2i {v1 v2 : Value} {pi : Int32 → Sg → Prop} (hE : eF E = true) (hd : decode cc pc = .ok (.invokevirtual idx, 3)) (hw : clV own idx y cy nLy rety 2) (hcls : RX11 = y.cls) (hM : MA E y cy nLy rety dy my py [.ref (eQ E 48), v1, v2] σ (fun r s => ∃ x, r = some (.int x) ∧ pi x s)) (hdd : dy < d) (hn : nLy ≤ 80) (hm : nc + my ≤ mc) (hs : ns + py ≤ ms) (hr : (rest.map fun v => v.category).sum ≤ 8) (kk : ∀ x s, pi x s → V E X own mn cc nL ret d mc ms Q s (nc + my) (ns + py) (pc + 3) ls (.int x :: rest)) : V E X own mn cc nL ret d mc ms Q σ nc ns pc ls (v2 :: v1 :: .ref (eQ E 48) :: rest) := V.callV0 (argv := [v1, v2]) (rest := rest) (recQ hE hcls) hd hw hM rfl hdd hn hm hs hr (fun r s h => by obtain ⟨x, rfl, h⟩ := h; exact kk x s h)
theorem V.cv3i {v1 v2 v3 : Value} {pi : Int32 → Sg → Prop} {b ci : Nat} (hd : decode cc pc = .ok (.invokevirtual idx, 3)) (hw : clV own idx y cy nLy rety 3) (hci : ci < 12) (hcls : cR ci = y.cls) (hty : sT σ b = ci + 1) (hM : MA E y cy nLy rety dy my py [.ref b, v1, v2, v3] σ (fun r s => ∃ x, r = some (.int x) ∧ pi x s)) (hdd : dy < d) (hn : nLy ≤ 80) (hm : nc + my ≤ mc) (hs : ns + py ≤ ms) (hr : (rest.map fun v => v.category).sum ≤ 8) (kk : ∀ x s, pi x s → V E X own mn cc nL ret d mc ms Q s (nc + my) (ns + py) (pc + 3) ls (.int x :: rest)) : V E X own mn cc nL ret d mc ms Q σ nc ns pc ls (v3 :: v2 :: v1 :: .ref b :: rest) := V.callV0 (argv := [v1, v2, v3]) (rest := rest) (recT hci hty hcls) hd hw hM rfl hdd hn hm hs hr (fun r s h => by obtain ⟨x, rfl, h⟩ := h; exact kk x s h)
theorem V.cq3i {v1 v2 v3 : Value} {pi : Int32 → Sg → Prop} (hE : eF E = true) (hd : decode cc pc = .ok (.invokevirtual idx, 3)) (hw : clV own idx y cy nLy rety 3) (hcls : RX11 = y.cls) (hM : MA E y cy nLy rety dy my py [.ref (eQ E 48), v1, v2, v3] σ (fun r s => ∃ x, r = some (.int x) ∧ pi x s)) (hdd : dy < d) (hn : nLy ≤ 80) (hm : nc + my ≤ mc) (hs : ns + py ≤ ms) (hr : (rest.map fun v => v.category).sum ≤ 8) (kk : ∀ x s, pi x s → V E X own mn cc nL ret d mc ms Q s (nc + my) (ns + py) (pc + 3) ls (.int x :: rest)) : V E X own mn cc nL ret d mc ms Q σ nc ns pc ls (v3 :: v2 :: v1 :: .ref (eQ E 48) :: rest) := V.callV0 (argv := [v1, v2, v3]) (rest := rest) (recQ hE hcls) hd hw hM rfl hdd hn hm hs hr (fun r s h => by obtain ⟨x, rfl, h⟩ := h; exact kk x s h)
theorem V.cv4i {v1 v2 v3 v4 : Value} {pi : Int32 → Sg → Prop} {b ci : Nat} (hd : decode cc pc = .ok (.invokevirtual idx, 3)) (hw : clV own idx y cy nLy rety 4) (hci : ci < 12) (hcls : cR ci = y.cls) (hty : sT σ b = ci + 1) (hM : MA E y cy nLy rety dy my py [.ref b, v1, v2, v3, v4] σ (fun r s => ∃ x, r = some (.int x) ∧ pi x s)) (hdd : dy < d) (hn : nLy ≤ 80) (hm : nc + my ≤ mc) (hs : ns + py ≤ ms) (hr : (rest.map fun v => v.category).sum ≤ 8) (kk : ∀ x s, pi x s → V E X own mn cc nL ret d mc ms Q s (nc + my) (ns + py) (pc + 3) ls (.int x :: rest)) : V E X own mn cc nL ret d mc ms Q σ nc ns pc ls (v4 :: v3 :: v2 :: v1 :: .ref b :: rest) := V.callV0 (argv := [v1, v2, v3, v4]) (rest := rest) (recT hci hty hcls) hd hw hM rfl hdd hn hm hs hr (fun r s h => by obtain ⟨x, rfl, h⟩ := h; exact kk x s h)
theorem V.cq4i {v1 v2 v3 v4 : Value} {pi : Int32 → Sg → Prop} (hE : eF E = true) (hd : decode cc pc = .ok (.invokevirtual idx, 3)) (hw : clV own idx y cy nLy rety 4) (hcls : RX11 = y.cls) (hM : MA E y cy nLy rety dy my py [.ref (eQ E 48), v1, v2, v3, v4] σ (fun r s => ∃ x, r = some (.int x) ∧ pi x s)) (hdd : dy < d) (hn : nLy ≤ 80) (hm : nc + my ≤ mc) (hs : ns + py ≤ ms) (hr : (rest.map fun v => v.category).sum ≤ 8) (kk : ∀ x s, pi x s → V E X own mn cc nL ret d mc ms Q s (nc + my) (ns + py) (pc + 3) ls (.int x :: rest)) : V E X own mn cc nL ret d mc ms Q σ nc ns pc ls (v4 :: v3 :: v2 :: v1 :: .ref (eQ E 48) :: rest) := V.callV0 (argv := [v1, v2, v3, v4]) (rest := rest) (recQ hE hcls) hd hw hM rfl hdd hn hm hs hr (fun r s h => by obtain ⟨x, rfl, h⟩ := h; exact kk x s h)
theorem V.cv5i {v1 v2 v3 v4 v5 : Value} {pi : Int32 → Sg → Prop} {b ci : Nat} (hd : decode cc pc = .ok (.invokevirtual idx, 3)) (hw : clV own idx y cy nLy rety 5) (hci : ci < 12) (hcls : cR ci = y.cls) (hty : sT σ b = ci + 1) (hM : MA E y cy nLy rety dy my py [.ref b, v1, v2, v3, v4, v5] σ (fun r s => ∃ x, r = some (.int x) ∧ pi x s)) (hdd : dy < d) (hn : nLy ≤ 80) (hm : nc + my ≤ mc) (hs : ns + py ≤ ms) (hr : (rest.map fun v => v.category).sum ≤ 8) (kk : ∀ x s, pi x s → V E X own mn cc nL ret d mc ms Q s (nc + my) (ns + py) (pc + 3) ls (.int x :: rest)) : V E X own mn cc nL ret d mc ms Q σ nc ns pc ls (v5 :: v4 :: v3 :: v2 :: v1 :: .ref b :: rest) := V.callV0 (argv := [v1, v2, v3, v4, v5]) (rest := rest) (recT hci hty hcls) hd hw hM rfl hdd hn hm hs hr (fun r s h => by obtain ⟨x, rfl, h⟩ := h; exact kk x s h)
theorem V.cq5i {v1 v2 v3 v4 v5 : Value} {pi : Int32 → Sg → Prop} (hE : eF E = true) (hd : decode cc pc = .ok (.invokevirtual idx, 3)) (hw : clV own idx y cy nLy rety 5) (hcls : RX11 = y.cls) (hM : MA E y cy nLy rety dy my py [.ref (eQ E 48), v1, v2, v3, v4, v5] σ (fun r s => ∃ x, r = some (.int x) ∧ pi x s)) (hdd : dy < d) (hn : nLy ≤ 80) (hm : nc + my ≤ mc) (hs : ns + py ≤ ms) (hr : (rest.map fun v => v.category).sum ≤ 8) (kk : ∀ x s, pi x s → V E X own mn cc nL ret d mc ms Q s (nc + my) (ns + py) (pc + 3) ls (.int x :: rest)) : V E X own mn cc nL ret d mc ms Q σ nc ns pc ls (v5 :: v4 :: v3 :: v2 :: v1 :: .ref (eQ E 48) :: rest) := V.callV0 (argv := [v1, v2, v3, v4, v5]) (rest := rest) (recQ hE hcls) hd hw hM rfl hdd hn hm hs hr (fun r s h => by obtain ⟨x, rfl, h⟩ := h; exact kk x s h)
theorem V.cv6i {v1 v2 v3 v4 v5 v6 : Value} {pi : Int32 → Sg → Prop} {b ci : Nat} (hd : decode cc pc = .ok (.invokevirtual idx, 3)) (hw : clV own idx y cy nLy rety 6) (hci : ci < 12) (hcls : cR ci = y.cls) (hty : sT σ b = ci + 1) (hM : MA E y cy nLy rety dy my py [.ref b, v1, v2, v3, v4, v5, v6] σ (fun r s => ∃ x, r = some (.int x) ∧ pi x s)) (hdd : dy < d) (hn : nLy ≤ 80) (hm : nc + my ≤ mc) (hs : ns + py ≤ ms) (hr : (rest.map fun v => v.category).sum ≤ 8) (kk : ∀ x s, pi x s → V E X own mn cc nL ret d mc ms Q s (nc + my) (ns + py) (pc + 3) ls (.int x :: rest)) : V E X own mn cc nL ret d mc ms Q σ nc ns pc ls (v6 :: v5 :: v4 :: v3 :: v2 :: v1 :: .ref b :: rest) := V.callV0 (argv := [v1, v2, v3, v4, v5, v6]) (rest := rest) (recT hci hty hcls) hd hw hM rfl hdd hn hm hs hr (fun r s h => by obtain ⟨x, rfl, h⟩ := h; exact kk x s h)
theorem V.cq6i {v1 v2 v3 v4 v5 v6 : Value} {pi : Int32 → Sg → Prop} (hE : eF E = true) (hd : decode cc pc = .ok (.invokevirtual idx, 3)) (hw : clV own idx y cy nLy rety 6) (hcls : RX11 = y.cls) (hM : MA E y cy nLy rety dy my py [.ref (eQ E 48), v1, v2, v3, v4, v5, v6] σ (fun r s => ∃ x, r = some (.int x) ∧ pi x s)) (hdd : dy < d) (hn : nLy ≤ 80) (hm : nc + my ≤ mc) (hs : ns + py ≤ ms) (hr : (rest.map fun v => v.category).sum ≤ 8) (kk : ∀ x s, pi x s → V E X own mn cc nL ret d mc ms Q s (nc + my) (ns + py) (pc + 3) ls (.int x :: rest)) : V E X own mn cc nL ret d mc ms Q σ nc ns pc ls (v6 :: v5 :: v4 :: v3 :: v2 :: v1 :: .ref (eQ E 48) :: rest) := V.callV0 (argv := [v1, v2, v3, v4, v5, v6]) (rest := rest) (recQ hE hcls) hd hw hM rfl hdd hn hm hs hr (fun r s h => by obtain ⟨x, rfl, h⟩ := h; exact kk x s h)
theorem V.cs1v {v1 : Value} {pv : Sg → Prop} (hd : decode cc pc = .ok (.invokestatic idx, 3)) (hw : clS own idx y cy nLy rety 1) (hM : MA E y cy nLy rety dy my py [v1] σ (fun r s => r = none ∧ pv s)) (hdd : dy < d) (hn : nLy ≤ 80) (hm : nc + my ≤ mc) (hs : ns + py ≤ ms) (hr : (rest.map fun v => v.category).sum ≤ 8) (kk : ∀ s, pv s → V E X own mn cc nL ret d mc ms Q s (nc + my) (ns + py) (pc + 3) ls rest) : V E X own mn cc nL ret d mc ms Q σ nc ns pc ls (v1 :: rest) := V.callS (argv := [v1]) (rest := rest) hd hw hM rfl hdd hn hm hs hr (fun r s h => by obtain ⟨rfl, h⟩ := h; exact kk s h)
theorem V.cs2v {v1 v2 : Value} {pv : Sg → Prop} (hd : decode cc pc = .ok (.invokestatic idx, 3)) (hw : clS own idx y cy nLy rety 2) (hM : MA E y cy nLy rety dy my py [v1, v2] σ (fun r s => r = none ∧ pv s)) (hdd : dy < d) (hn : nLy ≤ 80) (hm : nc + my ≤ mc) (hs : ns + py ≤ ms) (hr : (rest.map fun v => v.category).sum ≤ 8) (kk : ∀ s, pv s → V E X own mn cc nL ret d mc ms Q s (nc + my) (ns + py) (pc + 3) ls rest) : V E X own mn cc nL ret d mc ms Q σ nc ns pc ls (v2 :: v1 :: rest) := V.callS (argv := [v1, v2]) (rest := rest) hd hw hM rfl hdd hn hm hs hr (fun r s h => by obtain ⟨rfl, h⟩ := h; exact kk s h)
theorem V.cs3v {v1 v2 v3 : Value} {pv : Sg → Prop} (hd : decode cc pc = .ok (.invokestatic idx, 3)) (hw : clS own idx y cy nLy rety 3) (hM : MA E y cy nLy rety dy my py [v1, v2, v3] σ (fun r s => r = none ∧ pv s)) (hdd : dy < d) (hn : nLy ≤ 80) (hm : nc + my ≤ mc) (hs : ns + py ≤ ms) (hr : (rest.map fun v => v.category).sum ≤ 8) (kk : ∀ s, pv s → V E X own mn cc nL ret d mc ms Q s (nc + my) (ns + py) (pc + 3) ls rest) : V E X own mn cc nL ret d mc ms Q σ nc ns pc ls (v3 :: v2 :: v1 :: rest) := V.callS (argv := [v1, v2, v3]) (rest := rest) hd hw hM rfl hdd hn hm hs hr (fun r s h => by obtain ⟨rfl, h⟩ := h; exact kk s h)
theorem V.cv0v {pv : Sg → Prop} {b ci : Nat} (hd : decode cc pc = .ok (.invokevirtual idx, 3)) (hw : clV own idx y cy nLy rety 0) (hci : ci < 12) (hcls : cR ci = y.cls) (hty : sT σ b = ci + 1) (hM : MA E y cy nLy rety dy my py [.ref b] σ (fun r s => r = none ∧ pv s)) (hdd : dy < d) (hn : nLy ≤ 80) (hm : nc + my ≤ mc) (hs : ns + py ≤ ms) (hr : (rest.map fun v => v.category).sum ≤ 8) (kk : ∀ s, pv s → V E X own mn cc nL ret d mc ms Q s (nc + my) (ns + py) (pc + 3) ls rest) : V E X own mn cc nL ret d mc ms Q σ nc ns pc ls (.ref b :: rest) := V.callV0 (argv := []) (rest := rest) (recT hci hty hcls) hd hw hM rfl hdd hn hm hs hr (fun r s h => by obtain ⟨rfl, h⟩ := h; exact kk s h)
theorem V.cq0v {pv : Sg → Prop} (hE : eF E = true) (hd : decode cc pc = .ok (.invokevirtual idx, 3)) (hw : clV own idx y cy nLy rety 0) (hcls : RX11 = y.cls) (hM : MA E y cy nLy rety dy my py [.ref (eQ E 48)] σ (fun r s => r = none ∧ pv s)) (hdd : dy < d) (hn : nLy ≤ 80) (hm : nc + my ≤ mc) (hs : ns + py ≤ ms) (hr : (rest.map fun v => v.category).sum ≤ 8) (kk : ∀ s, pv s → V E X own mn cc nL ret d mc ms Q s (nc + my) (ns + py) (pc + 3) ls rest) : V E X own mn cc nL ret d mc ms Q σ nc ns pc ls (.ref (eQ E 48) :: rest) := V.callV0 (argv := []) (rest := rest) (recQ hE hcls) hd hw hM rfl hdd hn hm hs hr (fun r s h => by obtain ⟨rfl, h⟩ := h; exact kk s h)
theorem V.ci0v {pv : Sg → Prop} {b : Nat} (hd : decode cc pc = .ok (.invokespecial idx, 3)) (hw : clI own idx y cy nLy 0) (hM : MA E y cy nLy none dy my py [.ref b] σ (fun r s => r = none ∧ pv s)) (hdd : dy < d) (hn : nLy ≤ 80) (hm : nc + my ≤ mc) (hs : ns + py ≤ ms) (hr : (rest.map fun v => v.category).sum ≤ 8) (kk : ∀ s, pv s → V E X own mn cc nL ret d mc ms Q s (nc + my) (ns + py) (pc + 3) ls rest) : V E X own mn cc nL ret d mc ms Q σ nc ns pc ls (.ref b :: rest) := V.callI (argv := []) (rest := rest) hd hw hM rfl hdd hn hm hs hr (fun r s h => by obtain ⟨rfl, h⟩ := h; exact kk s h)
theorem V.cin0v {pv : Sg → Prop} {b : Nat} (hd : decode cc pc = .ok (.invokespecial idx, 3)) (hw : clIN own idx y cy nLy 0) (hM : MA E y cy nLy none dy my py [.ref b] σ (fun r s => r = none ∧ pv s)) (hdd : dy < d) (hn : nLy ≤ 80) (hm : nc + my ≤ mc) (hs : ns + py ≤ ms) (hr : (rest.map fun v => v.category).sum ≤ 8) (kk : ∀ s, pv s → V E X own mn cc nL ret d mc ms Q s (nc + my) (ns + py) (pc + 3) ls rest) : V E X own mn cc nL ret d mc ms Q σ nc ns pc ls (.ref b :: rest) := V.callIN (argv := []) (rest := rest) hd hw hM rfl hdd hn hm hs hr (fun r s h => by obtain ⟨rfl, h⟩ := h; exact kk s h)
theorem V.cv1v {v1 : Value} {pv : Sg → Prop} {b ci : Nat} (hd : decode cc pc = .ok (.invokevirtual idx, 3)) (hw : clV own idx y cy nLy rety 1) (hci : ci < 12) (hcls : cR ci = y.cls) (hty : sT σ b = ci + 1) (hM : MA E y cy nLy rety dy my py [.ref b, v1] σ (fun r s => r = none ∧ pv s)) (hdd : dy < d) (hn : nLy ≤ 80) (hm : nc + my ≤ mc) (hs : ns + py ≤ ms) (hr : (rest.map fun v => v.category).sum ≤ 8) (kk : ∀ s, pv s → V E X own mn cc nL ret d mc ms Q s (nc + my) (ns + py) (pc + 3) ls rest) : V E X own mn cc nL ret d mc ms Q σ nc ns pc ls (v1 :: .ref b :: rest) := V.callV0 (argv := [v1]) (rest := rest) (recT hci hty hcls) hd hw hM rfl hdd hn hm hs hr (fun r s h => by obtain ⟨rfl, h⟩ := h; exact kk s h)
theorem V.cq1v {v1 : Value} {pv : Sg → Prop} (hE : eF E = true) (hd : decode cc pc = .ok (.invokevirtual idx, 3)) (hw : clV own idx y cy nLy rety 1) (hcls : RX11 = y.cls) (hM : MA E y cy nLy rety dy my py [.ref (eQ E 48), v1] σ (fun r s => r = none ∧ pv s)) (hdd : dy < d) (hn : nLy ≤ 80) (hm : nc + my ≤ mc) (hs : ns + py ≤ ms) (hr : (rest.map fun v => v.category).sum ≤ 8) (kk : ∀ s, pv s → V E X own mn cc nL ret d mc ms Q s (nc + my) (ns + py) (pc + 3) ls rest) : V E X own mn cc nL ret d mc ms Q σ nc ns pc ls (v1 :: .ref (eQ E 48) :: rest) := V.callV0 (argv := [v1]) (rest := rest) (recQ hE hcls) hd hw hM rfl hdd hn hm hs hr (fun r s h => by obtain ⟨rfl, h⟩ := h; exact kk s h)
theorem V.ci1v {v1 : Value} {pv : Sg → Prop} {b : Nat} (hd : decode cc pc = .ok (.invokespecial idx, 3)) (hw : clI own idx y cy nLy 1) (hM : MA E y cy nLy none dy my py [.ref b, v1] σ (fun r s => r = none ∧ pv s)) (hdd : dy < d) (hn : nLy ≤ 80) (hm : nc + my ≤ mc) (hs : ns + py ≤ ms) (hr : (rest.map fun v => v.category).sum ≤ 8) (kk : ∀ s, pv s → V E X own mn cc nL ret d mc ms Q s (nc + my) (ns + py) (pc + 3) ls rest) : V E X own mn cc nL ret d mc ms Q σ nc ns pc ls (v1 :: .ref b :: rest) := V.callI (argv := [v1]) (rest := rest) hd hw hM rfl hdd hn hm hs hr (fun r s h => by obtain ⟨rfl, h⟩ := h; exact kk s h)
theorem V.cin1v {v1 : Value} {pv : Sg → Prop} {b : Nat} (hd : decode cc pc = .ok (.invokespecial idx, 3)) (hw : clIN own idx y cy nLy 1) (hM : MA E y cy nLy none dy my py [.ref b, v1] σ (fun r s => r = none ∧ pv s)) (hdd : dy < d) (hn : nLy ≤ 80) (hm : nc + my ≤ mc) (hs : ns + py ≤ ms) (hr : (rest.map fun v => v.category).sum ≤ 8) (kk : ∀ s, pv s → V E X own mn cc nL ret d mc ms Q s (nc + my) (ns + py) (pc + 3) ls rest) : V E X own mn cc nL ret d mc ms Q σ nc ns pc ls (v1 :: .ref b :: rest) := V.callIN (argv := [v1]) (rest := rest) hd hw hM rfl hdd hn hm hs hr (fun r s h => by obtain ⟨rfl, h⟩ := h; exact kk s h)
theorem V.cv2v {v1 v2 : Value} {pv : Sg → Prop} {b ci : Nat} (hd : decode cc pc = .ok (.invokevirtual idx, 3)) (hw : clV own idx y cy nLy rety 2) (hci : ci < 12) (hcls : cR ci = y.cls) (hty : sT σ b = ci + 1) (hM : MA E y cy nLy rety dy my py [.ref b, v1, v2] σ (fun r s => r = none ∧ pv s)) (hdd : dy < d) (hn : nLy ≤ 80) (hm : nc + my ≤ mc) (hs : ns + py ≤ ms) (hr : (rest.map fun v => v.category).sum ≤ 8) (kk : ∀ s, pv s → V E X own mn cc nL ret d mc ms Q s (nc + my) (ns + py) (pc + 3) ls rest) : V E X own mn cc nL ret d mc ms Q σ nc ns pc ls (v2 :: v1 :: .ref b :: rest) := V.callV0 (argv := [v1, v2]) (rest := rest) (recT hci hty hcls) hd hw hM rfl hdd hn hm hs hr (fun r s h => by obtain ⟨rfl, h⟩ := h; exact kk s h)
theorem V.cq2v {v1 v2 : Value} {pv : Sg → Prop} (hE : eF E = true) (hd : decode cc pc = .ok (.invokevirtual idx, 3)) (hw : clV own idx y cy nLy rety 2) (hcls : RX11 = y.cls) (hM : MA E y cy nLy rety dy my py [.ref (eQ E 48), v1, v2] σ (fun r s => r = none ∧ pv s)) (hdd : dy < d) (hn : nLy ≤ 80) (hm : nc + my ≤ mc) (hs : ns + py ≤ ms) (hr : (rest.map fun v => v.category).sum ≤ 8) (kk : ∀ s, pv s → V E X own mn cc nL ret d mc ms Q s (nc + my) (ns + py) (pc + 3) ls rest) : V E X own mn cc nL ret d mc ms Q σ nc ns pc ls (v2 :: v1 :: .ref (eQ E 48) :: rest) := V.callV0 (argv := [v1, v2]) (rest := rest) (recQ hE hcls) hd hw hM rfl hdd hn hm hs hr (fun r s h => by obtain ⟨rfl, h⟩ := h; exact kk s h)
theorem V.ci2v {v1 v2 : Value} {pv : Sg → Prop} {b : Nat} (hd : decode cc pc = .ok (.invokespecial idx, 3)) (hw : clI own idx y cy nLy 2) (hM : MA E y cy nLy none dy my py [.ref b, v1, v2] σ (fun r s => r = none ∧ pv s)) (hdd : dy < d) (hn : nLy ≤ 80) (hm : nc + my ≤ mc) (hs : ns + py ≤ ms) (hr : (rest.map fun v => v.category).sum ≤ 8) (kk : ∀ s, pv s → V E X own mn cc nL ret d mc ms Q s (nc + my) (ns + py) (pc + 3) ls rest) : V E X own mn cc nL ret d mc ms Q σ nc ns pc ls (v2 :: v1 :: .ref b :: rest) := V.callI (argv := [v1, v2]) (rest := rest) hd hw hM rfl hdd hn hm hs hr (fun r s h => by obtain ⟨rfl, h⟩ := h; exact kk s h)
theorem V.cin2v {v1 v2 : Value} {pv : Sg → Prop} {b : Nat} (hd : decode cc pc = .ok (.invokespecial idx, 3)) (hw : clIN own idx y cy nLy 2) (hM : MA E y cy nLy none dy my py [.ref b, v1, v2] σ (fun r s => r = none ∧ pv s)) (hdd : dy < d) (hn : nLy ≤ 80) (hm : nc + my ≤ mc) (hs : ns + py ≤ ms) (hr : (rest.map fun v => v.category).sum ≤ 8) (kk : ∀ s, pv s → V E X own mn cc nL ret d mc ms Q s (nc + my) (ns + py) (pc + 3) ls rest) : V E X own mn cc nL ret d mc ms Q σ nc ns pc ls (v2 :: v1 :: .ref b :: rest) := V.callIN (argv := [v1, v2]) (rest := rest) hd hw hM rfl hdd hn hm hs hr (fun r s h => by obtain ⟨rfl, h⟩ := h; exact kk s h)
theorem V.cv3v {v1 v2 v3 : Value} {pv : Sg → Prop} {b ci : Nat} (hd : decode cc pc = .ok (.invokevirtual idx, 3)) (hw : clV own idx y cy nLy rety 3) (hci : ci < 12) (hcls : cR ci = y.cls) (hty : sT σ b = ci + 1) (hM : MA E y cy nLy rety dy my py [.ref b, v1, v2, v3] σ (fun r s => r = none ∧ pv s)) (hdd : dy < d) (hn : nLy ≤ 80) (hm : nc + my ≤ mc) (hs : ns + py ≤ ms) (hr : (rest.map fun v => v.category).sum ≤ 8) (kk : ∀ s, pv s → V E X own mn cc nL ret d mc ms Q s (nc + my) (ns + py) (pc + 3) ls rest) : V E X own mn cc nL ret d mc ms Q σ nc ns pc ls (v3 :: v2 :: v1 :: .ref b :: rest) := V.callV0 (argv := [v1, v2, v3]) (rest := rest) (recT hci hty hcls) hd hw hM rfl hdd hn hm hs hr (fun r s h => by obtain ⟨rfl, h⟩ := h; exact kk s h)
theorem V.cq3v {v1 v2 v3 : Value} {pv : Sg → Prop} (hE : eF E = true) (hd : decode cc pc = .ok (.invokevirtual idx, 3)) (hw : clV own idx y cy nLy rety 3) (hcls : RX11 = y.cls) (hM : MA E y cy nLy rety dy my py [.ref (eQ E 48), v1, v2, v3] σ (fun r s => r = none ∧ pv s)) (hdd : dy < d) (hn : nLy ≤ 80) (hm : nc + my ≤ mc) (hs : ns + py ≤ ms) (hr : (rest.map fun v => v.category).sum ≤ 8) (kk : ∀ s, pv s → V E X own mn cc nL ret d mc ms Q s (nc + my) (ns + py) (pc + 3) ls rest) : V E X own mn cc nL ret d mc ms Q σ nc ns pc ls (v3 :: v2 :: v1 :: .ref (eQ E 48) :: rest) := V.callV0 (argv := [v1, v2, v3]) (rest := rest) (recQ hE hcls) hd hw hM rfl hdd hn hm hs hr (fun r s h => by obtain ⟨rfl, h⟩ := h; exact kk s h)
theorem V.ci3v {v1 v2 v3 : Value} {pv : Sg → Prop} {b : Nat} (hd : decode cc pc = .ok (.invokespecial idx, 3)) (hw : clI own idx y cy nLy 3) (hM : MA E y cy nLy none dy my py [.ref b, v1, v2, v3] σ (fun r s => r = none ∧ pv s)) (hdd : dy < d) (hn : nLy ≤ 80) (hm : nc + my ≤ mc) (hs : ns + py ≤ ms) (hr : (rest.map fun v => v.category).sum ≤ 8) (kk : ∀ s, pv s → V E X own mn cc nL ret d mc ms Q s (nc + my) (ns + py) (pc + 3) ls rest) : V E X own mn cc nL ret d mc ms Q σ nc ns pc ls (v3 :: v2 :: v1 :: .ref b :: rest) := V.callI (argv := [v1, v2, v3]) (rest := rest) hd hw hM rfl hdd hn hm hs hr (fun r s h => by obtain ⟨rfl, h⟩ := h; exact kk s h)
theorem V.cin3v {v1 v2 v3 : Value} {pv : Sg → Prop} {b : Nat} (hd : decode cc pc = .ok (.invokespecial idx, 3)) (hw : clIN own idx y cy nLy 3) (hM : MA E y cy nLy none dy my py [.ref b, v1, v2, v3] σ (fun r s => r = none ∧ pv s)) (hdd : dy < d) (hn : nLy ≤ 80) (hm : nc + my ≤ mc) (hs : ns + py ≤ ms) (hr : (rest.map fun v => v.category).sum ≤ 8) (kk : ∀ s, pv s → V E X own mn cc nL ret d mc ms Q s (nc + my) (ns + py) (pc + 3) ls rest) : V E X own mn cc nL ret d mc ms Q σ nc ns pc ls (v3 :: v2 :: v1 :: .ref b :: rest) := V.callIN (argv := [v1, v2, v3]) (rest := rest) hd hw hM rfl hdd hn hm hs hr (fun r s h => by obtain ⟨rfl, h⟩ := h; exact kk s h)
theorem V.cv4v {v1 v2 v3 v4 : Value} {pv : Sg → Prop} {b ci : Nat} (hd : decode cc pc = .ok (.invokevirtual idx, 3)) (hw : clV own idx y cy nLy rety 4) (hci : ci < 12) (hcls : cR ci = y.cls) (hty : sT σ b = ci + 1) (hM : MA E y cy nLy rety dy my py [.ref b, v1, v2, v3, v4] σ (fun r s => r = none ∧ pv s)) (hdd : dy < d) (hn : nLy ≤ 80) (hm : nc + my ≤ mc) (hs : ns + py ≤ ms) (hr : (rest.map fun v => v.category).sum ≤ 8) (kk : ∀ s, pv s → V E X own mn cc nL ret d mc ms Q s (nc + my) (ns + py) (pc + 3) ls rest) : V E X own mn cc nL ret d mc ms Q σ nc ns pc ls (v4 :: v3 :: v2 :: v1 :: .ref b :: rest) := V.callV0 (argv := [v1, v2, v3, v4]) (rest := rest) (recT hci hty hcls) hd hw hM rfl hdd hn hm hs hr (fun r s h => by obtain ⟨rfl, h⟩ := h; exact kk s h)
theorem V.cq4v {v1 v2 v3 v4 : Value} {pv : Sg → Prop} (hE : eF E = true) (hd : decode cc pc = .ok (.invokevirtual idx, 3)) (hw : clV own idx y cy nLy rety 4) (hcls : RX11 = y.cls) (hM : MA E y cy nLy rety dy my py [.ref (eQ E 48), v1, v2, v3, v4] σ (fun r s => r = none ∧ pv s)) (hdd : dy < d) (hn : nLy ≤ 80) (hm : nc + my ≤ mc) (hs : ns + py ≤ ms) (hr : (rest.map fun v => v.category).sum ≤ 8) (kk : ∀ s, pv s → V E X own mn cc nL ret d mc ms Q s (nc + my) (ns + py) (pc + 3) ls rest) : V E X own mn cc nL ret d mc ms Q σ nc ns pc ls (v4 :: v3 :: v2 :: v1 :: .ref (eQ E 48) :: rest) := V.callV0 (argv := [v1, v2, v3, v4]) (rest := rest) (recQ hE hcls) hd hw hM rfl hdd hn hm hs hr (fun r s h => by obtain ⟨rfl, h⟩ := h; exact kk s h)
theorem V.ci4v {v1 v2 v3 v4 : Value} {pv : Sg → Prop} {b : Nat} (hd : decode cc pc = .ok (.invokespecial idx, 3)) (hw : clI own idx y cy nLy 4) (hM : MA E y cy nLy none dy my py [.ref b, v1, v2, v3, v4] σ (fun r s => r = none ∧ pv s)) (hdd : dy < d) (hn : nLy ≤ 80) (hm : nc + my ≤ mc) (hs : ns + py ≤ ms) (hr : (rest.map fun v => v.category).sum ≤ 8) (kk : ∀ s, pv s → V E X own mn cc nL ret d mc ms Q s (nc + my) (ns + py) (pc + 3) ls rest) : V E X own mn cc nL ret d mc ms Q σ nc ns pc ls (v4 :: v3 :: v2 :: v1 :: .ref b :: rest) := V.callI (argv := [v1, v2, v3, v4]) (rest := rest) hd hw hM rfl hdd hn hm hs hr (fun r s h => by obtain ⟨rfl, h⟩ := h; exact kk s h)
theorem V.cin4v {v1 v2 v3 v4 : Value} {pv : Sg → Prop} {b : Nat} (hd : decode cc pc = .ok (.invokespecial idx, 3)) (hw : clIN own idx y cy nLy 4) (hM : MA E y cy nLy none dy my py [.ref b, v1, v2, v3, v4] σ (fun r s => r = none ∧ pv s)) (hdd : dy < d) (hn : nLy ≤ 80) (hm : nc + my ≤ mc) (hs : ns + py ≤ ms) (hr : (rest.map fun v => v.category).sum ≤ 8) (kk : ∀ s, pv s → V E X own mn cc nL ret d mc ms Q s (nc + my) (ns + py) (pc + 3) ls rest) : V E X own mn cc nL ret d mc ms Q σ nc ns pc ls (v4 :: v3 :: v2 :: v1 :: .ref b :: rest) := V.callIN (argv := [v1, v2, v3, v4]) (rest := rest) hd hw hM rfl hdd hn hm hs hr (fun r s h => by obtain ⟨rfl, h⟩ := h; exact kk s h)
theorem V.cv5v {v1 v2 v3 v4 v5 : Value} {pv : Sg → Prop} {b ci : Nat} (hd : decode cc pc = .ok (.invokevirtual idx, 3)) (hw : clV own idx y cy nLy rety 5) (hci : ci < 12) (hcls : cR ci = y.cls) (hty : sT σ b = ci + 1) (hM : MA E y cy nLy rety dy my py [.ref b, v1, v2, v3, v4, v5] σ (fun r s => r = none ∧ pv s)) (hdd : dy < d) (hn : nLy ≤ 80) (hm : nc + my ≤ mc) (hs : ns + py ≤ ms) (hr : (rest.map fun v => v.category).sum ≤ 8) (kk : ∀ s, pv s → V E X own mn cc nL ret d mc ms Q s (nc + my) (ns + py) (pc + 3) ls rest) : V E X own mn cc nL ret d mc ms Q σ nc ns pc ls (v5 :: v4 :: v3 :: v2 :: v1 :: .ref b :: rest) := V.callV0 (argv := [v1, v2, v3, v4, v5]) (rest := rest) (recT hci hty hcls) hd hw hM rfl hdd hn hm hs hr (fun r s h => by obtain ⟨rfl, h⟩ := h; exact kk s h)
theorem V.cq5v {v1 v2 v3 v4 v5 : Value} {pv : Sg → Prop} (hE : eF E = true) (hd : decode cc pc = .ok (.invokevirtual idx, 3)) (hw : clV own idx y cy nLy rety 5) (hcls : RX11 = y.cls) (hM : MA E y cy nLy rety dy my py [.ref (eQ E 48), v1, v2, v3, v4, v5] σ (fun r s => r = none ∧ pv s)) (hdd : dy < d) (hn : nLy ≤ 80) (hm : nc + my ≤ mc) (hs : ns + py ≤ ms) (hr : (rest.map fun v => v.category).sum ≤ 8) (kk : ∀ s, pv s → V E X own mn cc nL ret d mc ms Q s (nc + my) (ns + py) (pc + 3) ls rest) : V E X own mn cc nL ret d mc ms Q σ nc ns pc ls (v5 :: v4 :: v3 :: v2 :: v1 :: .ref (eQ E 48) :: rest) := V.callV0 (argv := [v1, v2, v3, v4, v5]) (rest := rest) (recQ hE hcls) hd hw hM rfl hdd hn hm hs hr (fun r s h => by obtain ⟨rfl, h⟩ := h; exact kk s h)
theorem V.ci5v {v1 v2 v3 v4 v5 : Value} {pv : Sg → Prop} {b : Nat} (hd : decode cc pc = .ok (.invokespecial idx, 3)) (hw : clI own idx y cy nLy 5) (hM : MA E y cy nLy none dy my py [.ref b, v1, v2, v3, v4, v5] σ (fun r s => r = none ∧ pv s)) (hdd : dy < d) (hn : nLy ≤ 80) (hm : nc + my ≤ mc) (hs : ns + py ≤ ms) (hr : (rest.map fun v => v.category).sum ≤ 8) (kk : ∀ s, pv s → V E X own mn cc nL ret d mc ms Q s (nc + my) (ns + py) (pc + 3) ls rest) : V E X own mn cc nL ret d mc ms Q σ nc ns pc ls (v5 :: v4 :: v3 :: v2 :: v1 :: .ref b :: rest) := V.callI (argv := [v1, v2, v3, v4, v5]) (rest := rest) hd hw hM rfl hdd hn hm hs hr (fun r s h => by obtain ⟨rfl, h⟩ := h; exact kk s h)
theorem V.cin5v {v1 v2 v3 v4 v5 : Value} {pv : Sg → Prop} {b : Nat} (hd : decode cc pc = .ok (.invokespecial idx, 3)) (hw : clIN own idx y cy nLy 5) (hM : MA E y cy nLy none dy my py [.ref b, v1, v2, v3, v4, v5] σ (fun r s => r = none ∧ pv s)) (hdd : dy < d) (hn : nLy ≤ 80) (hm : nc + my ≤ mc) (hs : ns + py ≤ ms) (hr : (rest.map fun v => v.category).sum ≤ 8) (kk : ∀ s, pv s → V E X own mn cc nL ret d mc ms Q s (nc + my) (ns + py) (pc + 3) ls rest) : V E X own mn cc nL ret d mc ms Q σ nc ns pc ls (v5 :: v4 :: v3 :: v2 :: v1 :: .ref b :: rest) := V.callIN (argv := [v1, v2, v3, v4, v5]) (rest := rest) hd hw hM rfl hdd hn hm hs hr (fun r s h => by obtain ⟨rfl, h⟩ := h; exact kk s h)
theorem V.cv6v {v1 v2 v3 v4 v5 v6 : Value} {pv : Sg → Prop} {b ci : Nat} (hd : decode cc pc = .ok (.invokevirtual idx, 3)) (hw : clV own idx y cy nLy rety 6) (hci : ci < 12) (hcls : cR ci = y.cls) (hty : sT σ b = ci + 1) (hM : MA E y cy nLy rety dy my py [.ref b, v1, v2, v3, v4, v5, v6] σ (fun r s => r = none ∧ pv s)) (hdd : dy < d) (hn : nLy ≤ 80) (hm : nc + my ≤ mc) (hs : ns + py ≤ ms) (hr : (rest.map fun v => v.category).sum ≤ 8) (kk : ∀ s, pv s → V E X own mn cc nL ret d mc ms Q s (nc + my) (ns + py) (pc + 3) ls rest) : V E X own mn cc nL ret d mc ms Q σ nc ns pc ls (v6 :: v5 :: v4 :: v3 :: v2 :: v1 :: .ref b :: rest) := V.callV0 (argv := [v1, v2, v3, v4, v5, v6]) (rest := rest) (recT hci hty hcls) hd hw hM rfl hdd hn hm hs hr (fun r s h => by obtain ⟨rfl, h⟩ := h; exact kk s h)
theorem V.cq6v {v1 v2 v3 v4 v5 v6 : Value} {pv : Sg → Prop} (hE : eF E = true) (hd : decode cc pc = .ok (.invokevirtual idx, 3)) (hw : clV own idx y cy nLy rety 6) (hcls : RX11 = y.cls) (hM : MA E y cy nLy rety dy my py [.ref (eQ E 48), v1, v2, v3, v4, v5, v6] σ (fun r s => r = none ∧ pv s)) (hdd : dy < d) (hn : nLy ≤ 80) (hm : nc + my ≤ mc) (hs : ns + py ≤ ms) (hr : (rest.map fun v => v.category).sum ≤ 8) (kk : ∀ s, pv s → V E X own mn cc nL ret d mc ms Q s (nc + my) (ns + py) (pc + 3) ls rest) : V E X own mn cc nL ret d mc ms Q σ nc ns pc ls (v6 :: v5 :: v4 :: v3 :: v2 :: v1 :: .ref (eQ E 48) :: rest) := V.callV0 (argv := [v1, v2, v3, v4, v5, v6]) (rest := rest) (recQ hE hcls) hd hw hM rfl hdd hn hm hs hr (fun r s h => by obtain ⟨rfl, h⟩ := h; exact kk s h)
theorem V.ci6v {v1 v2 v3 v4 v5 v6 : Value} {pv : Sg → Prop} {b : Nat} (hd : decode cc pc = .ok (.invokespecial idx, 3)) (hw : clI own idx y cy nLy 6) (hM : MA E y cy nLy none dy my py [.ref b, v1, v2, v3, v4, v5, v6] σ (fun r s => r = none ∧ pv s)) (hdd : dy < d) (hn : nLy ≤ 80) (hm : nc + my ≤ mc) (hs : ns + py ≤ ms) (hr : (rest.map fun v => v.category).sum ≤ 8) (kk : ∀ s, pv s → V E X own mn cc nL ret d mc ms Q s (nc + my) (ns + py) (pc + 3) ls rest) : V E X own mn cc nL ret d mc ms Q σ nc ns pc ls (v6 :: v5 :: v4 :: v3 :: v2 :: v1 :: .ref b :: rest) := V.callI (argv := [v1, v2, v3, v4, v5, v6]) (rest := rest) hd hw hM rfl hdd hn hm hs hr (fun r s h => by obtain ⟨rfl, h⟩ := h; exact kk s h)
theorem V.cin6v {v1 v2 v3 v4 v5 v6 : Value} {pv : Sg → Prop} {b : Nat} (hd : decode cc pc = .ok (.invokespecial idx, 3)) (hw : clIN own idx y cy nLy 6) (hM : MA E y cy nLy none dy my py [.ref b, v1, v2, v3, v4, v5, v6] σ (fun r s => r = none ∧ pv s)) (hdd : dy < d) (hn : nLy ≤ 80) (hm : nc + my ≤ mc) (hs : ns + py ≤ ms) (hr : (rest.map fun v => v.category).sum ≤ 8) (kk : ∀ s, pv s → V E X own mn cc nL ret d mc ms Q s (nc + my) (ns + py) (pc + 3) ls rest) : V E X own mn cc nL ret d mc ms Q σ nc ns pc ls (v6 :: v5 :: v4 :: v3 :: v2 :: v1 :: .ref b :: rest) := V.callIN (argv := [v1, v2, v3, v4, v5, v6]) (rest := rest) hd hw hM rfl hdd hn hm hs hr (fun r s h => by obtain ⟨rfl, h⟩ := h; exact kk s h)
theorem V.csn2D {v1 v2 : Value} {w : Value} {σ2 : Sg} (hd : decode cc pc = .ok (.invokestatic idx, 3)) (hw : clSN own idx y cy nLy rety 2) (hM : MA E y cy nLy rety dy my py [v1, v2] σ (fun r s => r = some w ∧ s = σ2)) (hdd : dy < d) (hn : nLy ≤ 80) (hm : nc + my ≤ mc) (hs : ns + py ≤ ms) (hr : (rest.map fun v => v.category).sum ≤ 8) (kk : V E X own mn cc nL ret d mc ms Q σ2 (nc + my) (ns + py) (pc + 3) ls (w :: rest)) : V E X own mn cc nL ret d mc ms Q σ nc ns pc ls (v2 :: v1 :: rest) := V.callSN (argv := [v1, v2]) (rest := rest) hd hw hM rfl hdd hn hm hs hr (fun r s h => by obtain ⟨rfl, rfl⟩ := h; exact kk)
end VCALL
end
section
theorem ws_X10_finding : Cond.selects RX10 yX10_finding yX10_finding ∈ BIG := big_in 0 (by decide +kernel) rfl
theorem ws_X10_shipAt : Cond.selects RX10 yX10_shipAt yX10_shipAt ∈ BIG := big_in 1 (by decide +kernel) rfl
theorem ws_X10_fleetBits : Cond.selects RX10 yX10_fleetBits yX10_fleetBits ∈ BIG := big_in 2 (by decide +kernel) rfl
theorem ws_X10_callAt : Cond.selects RX10 yX10_callAt yX10_callAt ∈ BIG := big_in 3 (by decide +kernel) rfl
theorem ws_X10_treatyInForce : Cond.selects RX10 yX10_treatyInForce yX10_treatyInForce ∈ BIG := big_in 4 (by decide +kernel) rfl
theorem ws_X10_banIfDue : Cond.selects RX10 yX10_banIfDue yX10_banIfDue ∈ BIG := big_in 5 (by decide +kernel) rfl
theorem ws_X10_isFlagDark : Cond.selects RX10 yX10_isFlagDark yX10_isFlagDark ∈ BIG := big_in 6 (by decide +kernel) rfl
theorem ws_X10_isDarkGroup : Cond.selects RX10 yX10_isDarkGroup yX10_isDarkGroup ∈ BIG := big_in 7 (by decide +kernel) rfl
theorem ws_X10_tallyUp : Cond.selects RX10 yX10_tallyUp yX10_tallyUp ∈ BIG := big_in 8 (by decide +kernel) rfl
theorem ws_X10_isInLast : Cond.selects RX10 yX10_isInLast yX10_isInLast ∈ BIG := big_in 9 (by decide +kernel) rfl
theorem ws_X10_lookAt : Cond.selects RX10 yX10_lookAt yX10_lookAt ∈ BIG := big_in 10 (by decide +kernel) rfl
theorem ws_X10_riskOf : Cond.selects RX10 yX10_riskOf yX10_riskOf ∈ BIG := big_in 11 (by decide +kernel) rfl
theorem ws_X10_holdsInFleet : Cond.selects RX10 yX10_holdsInFleet yX10_holdsInFleet ∈ BIG := big_in 12 (by decide +kernel) rfl
theorem ws_X10_gatherBoarding : Cond.selects RX10 yX10_gatherBoarding yX10_gatherBoarding ∈ BIG := big_in 13 (by decide +kernel) rfl
theorem ws_X0_attempt : Cond.selects RX0 yX0_attempt yX0_attempt ∈ BIG := big_in 14 (by decide +kernel) rfl
theorem ws_X10_shipsInPorts : Cond.selects RX10 yX10_shipsInPorts yX10_shipsInPorts ∈ BIG := big_in 15 (by decide +kernel) rfl
theorem ws_X10_heldCalls : Cond.selects RX10 yX10_heldCalls yX10_heldCalls ∈ BIG := big_in 16 (by decide +kernel) rfl
theorem ws_X10_bannedShips : Cond.selects RX10 yX10_bannedShips yX10_bannedShips ∈ BIG := big_in 17 (by decide +kernel) rfl
theorem ws_X11_finding : Cond.selects RX11 yX11_finding yX11_finding ∈ BIG := big_in 18 (by decide +kernel) rfl
theorem ws_X11_isShip : Cond.selects RX11 yX11_isShip yX11_isShip ∈ BIG := big_in 19 (by decide +kernel) rfl
theorem ws_X11_isUnder : Cond.selects RX11 yX11_isUnder yX11_isUnder ∈ BIG := big_in 20 (by decide +kernel) rfl
theorem ws_X11_hoursOf : Cond.selects RX11 yX11_hoursOf yX11_hoursOf ∈ BIG := big_in 21 (by decide +kernel) rfl
theorem ws_X11_hadOn : Cond.selects RX11 yX11_hadOn yX11_hadOn ∈ BIG := big_in 22 (by decide +kernel) rfl
theorem ws_X11_fleetOf : Cond.selects RX11 yX11_fleetOf yX11_fleetOf ∈ BIG := big_in 23 (by decide +kernel) rfl
theorem ws_X11_onesOf : Cond.selects RX11 yX11_onesOf yX11_onesOf ∈ BIG := big_in 24 (by decide +kernel) rfl
theorem ws_X11_openCall : Cond.selects RX11 yX11_openCall yX11_openCall ∈ BIG := big_in 25 (by decide +kernel) rfl
theorem ws_X11_isCall : Cond.selects RX11 yX11_isCall yX11_isCall ∈ BIG := big_in 26 (by decide +kernel) rfl
theorem ws_X11_looksAt : Cond.selects RX11 yX11_looksAt yX11_looksAt ∈ BIG := big_in 27 (by decide +kernel) rfl
theorem ws_X11_readAll : Cond.selects RX11 yX11_readAll yX11_readAll ∈ BIG := big_in 28 (by decide +kernel) rfl
theorem ws_X11_rowEnd : Cond.selects RX11 yX11_rowEnd yX11_rowEnd ∈ BIG := big_in 29 (by decide +kernel) rfl
theorem ws_X11_isByte : Cond.selects RX11 yX11_isByte yX11_isByte ∈ BIG := big_in 30 (by decide +kernel) rfl
theorem ws_X11_isDigit : Cond.selects RX11 yX11_isDigit yX11_isDigit ∈ BIG := big_in 31 (by decide +kernel) rfl
theorem ws_X11_kindAt : Cond.selects RX11 yX11_kindAt yX11_kindAt ∈ BIG := big_in 32 (by decide +kernel) rfl
theorem ws_X11_rowLeast : Cond.selects RX11 yX11_rowLeast yX11_rowLeast ∈ BIG := big_in 33 (by decide +kernel) rfl
theorem ws_X11_rowTells : Cond.selects RX11 yX11_rowTells yX11_rowTells ∈ BIG := big_in 34 (by decide +kernel) rfl
theorem ws_X11_forceOn : Cond.selects RX11 yX11_forceOn yX11_forceOn ∈ BIG := big_in 35 (by decide +kernel) rfl
theorem ws_X11_wouldHold : Cond.selects RX11 yX11_wouldHold yX11_wouldHold ∈ BIG := big_in 36 (by decide +kernel) rfl
theorem ws_X11_ban : Cond.selects RX11 yX11_ban yX11_ban ∈ BIG := big_in 37 (by decide +kernel) rfl
theorem ws_X11_darkOf : Cond.selects RX11 yX11_darkOf yX11_darkOf ∈ BIG := big_in 38 (by decide +kernel) rfl
theorem ws_X11_counted : Cond.selects RX11 yX11_counted yX11_counted ∈ BIG := big_in 39 (by decide +kernel) rfl
theorem ws_X11_shipOf : Cond.selects RX11 yX11_shipOf yX11_shipOf ∈ BIG := big_in 40 (by decide +kernel) rfl
theorem ws_X11_isLook : Cond.selects RX11 yX11_isLook yX11_isLook ∈ BIG := big_in 41 (by decide +kernel) rfl
theorem ws_X11_riskOf : Cond.selects RX11 yX11_riskOf yX11_riskOf ∈ BIG := big_in 42 (by decide +kernel) rfl
theorem ws_X11_gather : Cond.selects RX11 yX11_gather yX11_gather ∈ BIG := big_in 43 (by decide +kernel) rfl
theorem ws_X11_tryFrom : Cond.selects RX11 yX11_tryFrom yX11_tryFrom ∈ BIG := big_in 44 (by decide +kernel) rfl
theorem ws_X11_restIn : Cond.selects RX11 yX11_restIn yX11_restIn ∈ BIG := big_in 45 (by decide +kernel) rfl
theorem ws_X11_isRest : Cond.selects RX11 yX11_isRest yX11_isRest ∈ BIG := big_in 46 (by decide +kernel) rfl
theorem ws_X11_areDoubles : Cond.selects RX11 yX11_areDoubles yX11_areDoubles ∈ BIG := big_in 47 (by decide +kernel) rfl
theorem wn_L : Cond.initialized RL ∈ BIG := big_in 48 (by decide +kernel) rfl
theorem wn_X10 : Cond.initialized RX10 ∈ BIG := big_in 49 (by decide +kernel) rfl
theorem wn_X3 : Cond.initialized RX3 ∈ BIG := big_in 50 (by decide +kernel) rfl
theorem wn_X7 : Cond.initialized RX7 ∈ BIG := big_in 51 (by decide +kernel) rfl
theorem wn_X6 : Cond.initialized RX6 ∈ BIG := big_in 52 (by decide +kernel) rfl
theorem wn_X0 : Cond.initialized RX0 ∈ BIG := big_in 53 (by decide +kernel) rfl
theorem wn_X11 : Cond.initialized RX11 ∈ BIG := big_in 54 (by decide +kernel) rfl
theorem wn_X5 : Cond.initialized RX5 ∈ BIG := big_in 55 (by decide +kernel) rfl
theorem wn_X4 : Cond.initialized RX4 ∈ BIG := big_in 56 (by decide +kernel) rfl
theorem wn_X8 : Cond.initialized RX8 ∈ BIG := big_in 57 (by decide +kernel) rfl
theorem wn_X1 : Cond.initialized RX1 ∈ BIG := big_in 58 (by decide +kernel) rfl
theorem wn_X9 : Cond.initialized RX9 ∈ BIG := big_in 59 (by decide +kernel) rfl
theorem wn_X2 : Cond.initialized RX2 ∈ BIG := big_in 60 (by decide +kernel) rfl
theorem wn_J9 : Cond.initialized RJ9 ∈ BIG := big_in 61 (by decide +kernel) rfl
theorem wn_J10 : Cond.initialized RJ10 ∈ BIG := big_in 62 (by decide +kernel) rfl
theorem wn_J6 : Cond.initialized RJ6 ∈ BIG := big_in 63 (by decide +kernel) rfl
theorem wk_L_7 : Cond.classLink RL 7 RX10 ∈ BIG := big_in 64 (by decide +kernel) rfl
theorem wx_X10 : Cond.instantiable RX10 19 ∈ BIG := big_in 65 (by decide +kernel) rfl
theorem wm_L_9 : Cond.methodLink RL 9 yX10_init ∈ BIG := big_in 66 (by decide +kernel) rfl
theorem wi_X10_init : Cond.instanceMethod yX10_init ∈ BIG := big_in 67 (by decide +kernel) rfl
theorem wc_X10_init : Cond.code yX10_init cX10_init 1 none ∈ BIG := big_in 68 (by decide +kernel) rfl
theorem wm_X10_3 : Cond.methodLink RX10 3 objectInit ∈ BIG := big_in 69 (by decide +kernel) rfl
theorem wi_objectInit : Cond.instanceMethod objectInit ∈ BIG := big_in 70 (by decide +kernel) rfl
theorem wc_objectInit : Cond.code objectInit ⟨#[0xb1]⟩ 1 none ∈ BIG := big_in 71 (by decide +kernel) rfl
theorem wk_X10_9 : Cond.classLink RX10 9 RX5 ∈ BIG := big_in 72 (by decide +kernel) rfl
theorem wk_X10_15 : Cond.classLink RX10 15 RX3 ∈ BIG := big_in 74 (by decide +kernel) rfl
theorem wx_X3 : Cond.instantiable RX3 2 ∈ BIG := big_in 75 (by decide +kernel) rfl
theorem wi_X3_init : Cond.instanceMethod yX3_init ∈ BIG := big_in 77 (by decide +kernel) rfl
theorem wc_X3_init : Cond.code yX3_init cX3_init 1 none ∈ BIG := big_in 78 (by decide +kernel) rfl
theorem wm_X3_3 : Cond.methodLink RX3 3 objectInit ∈ BIG := big_in 79 (by decide +kernel) rfl
theorem fl_X3_9 : FL RX3 9 3 0 := ⟨by decide, by decide, big_in 80 (by decide +kernel) rfl⟩
theorem fl_X3_15 : FL RX3 15 3 1 := ⟨by decide, by decide, big_in 81 (by decide +kernel) rfl⟩
theorem fl_X10_123 : FL RX10 123 3 1 := ⟨by decide, by decide, big_in 82 (by decide +kernel) rfl⟩
theorem wa_int : Cond.arrayClass .int ∈ BIG := big_in 88 (by decide +kernel) rfl
theorem wk_X10_22 : Cond.classLink RX10 22 RX1 ∈ BIG := big_in 89 (by decide +kernel) rfl
theorem wk_X10_28 : Cond.classLink RX10 28 RX2 ∈ BIG := big_in 91 (by decide +kernel) rfl
theorem wk_X10_34 : Cond.classLink RX10 34 RX9 ∈ BIG := big_in 93 (by decide +kernel) rfl
theorem wk_X10_40 : Cond.classLink RX10 40 RX7 ∈ BIG := big_in 95 (by decide +kernel) rfl
theorem wx_X7 : Cond.instantiable RX7 3 ∈ BIG := big_in 96 (by decide +kernel) rfl
theorem wi_X7_init : Cond.instanceMethod yX7_init ∈ BIG := big_in 98 (by decide +kernel) rfl
theorem wc_X7_init : Cond.code yX7_init cX7_init 1 none ∈ BIG := big_in 99 (by decide +kernel) rfl
theorem wm_X7_3 : Cond.methodLink RX7 3 objectInit ∈ BIG := big_in 100 (by decide +kernel) rfl
theorem fl_X7_9 : FL RX7 9 7 0 := ⟨by decide, by decide, big_in 101 (by decide +kernel) rfl⟩
theorem fl_X7_15 : FL RX7 15 7 1 := ⟨by decide, by decide, big_in 102 (by decide +kernel) rfl⟩
theorem fl_X10_178 : FL RX10 178 7 1 := ⟨by decide, by decide, big_in 103 (by decide +kernel) rfl⟩
theorem fl_X7_19 : FL RX7 19 7 2 := ⟨by decide, by decide, big_in 104 (by decide +kernel) rfl⟩
theorem fl_X10_194 : FL RX10 194 7 2 := ⟨by decide, by decide, big_in 105 (by decide +kernel) rfl⟩
theorem wk_X10_58 : Cond.classLink RX10 58 RX6 ∈ BIG := big_in 113 (by decide +kernel) rfl
theorem wx_X6 : Cond.instantiable RX6 4 ∈ BIG := big_in 114 (by decide +kernel) rfl
theorem wi_X6_init : Cond.instanceMethod yX6_init ∈ BIG := big_in 116 (by decide +kernel) rfl
theorem wc_X6_init : Cond.code yX6_init cX6_init 1 none ∈ BIG := big_in 117 (by decide +kernel) rfl
theorem wm_X6_1 : Cond.methodLink RX6 1 objectInit ∈ BIG := big_in 118 (by decide +kernel) rfl
theorem fl_X6_7 : FL RX6 7 6 0 := ⟨by decide, by decide, big_in 119 (by decide +kernel) rfl⟩
theorem fl_X10_251 : FL RX10 251 6 0 := ⟨by decide, by decide, big_in 120 (by decide +kernel) rfl⟩
theorem fl_X6_13 : FL RX6 13 6 1 := ⟨by decide, by decide, big_in 121 (by decide +kernel) rfl⟩
theorem fl_X10_253 : FL RX10 253 6 1 := ⟨by decide, by decide, big_in 122 (by decide +kernel) rfl⟩
theorem fl_X6_16 : FL RX6 16 6 2 := ⟨by decide, by decide, big_in 123 (by decide +kernel) rfl⟩
theorem fl_X6_19 : FL RX6 19 6 3 := ⟨by decide, by decide, big_in 124 (by decide +kernel) rfl⟩
theorem wk_X10_65 : Cond.classLink RX10 65 RX0 ∈ BIG := big_in 134 (by decide +kernel) rfl
theorem wx_X0 : Cond.instantiable RX0 7 ∈ BIG := big_in 135 (by decide +kernel) rfl
theorem wi_X0_init : Cond.instanceMethod yX0_init ∈ BIG := big_in 137 (by decide +kernel) rfl
theorem wc_X0_init : Cond.code yX0_init cX0_init 1 none ∈ BIG := big_in 138 (by decide +kernel) rfl
theorem wm_X0_3 : Cond.methodLink RX0 3 objectInit ∈ BIG := big_in 139 (by decide +kernel) rfl
theorem fl_X0_9 : FL RX0 9 0 0 := ⟨by decide, by decide, big_in 140 (by decide +kernel) rfl⟩
theorem fl_X0_15 : FL RX0 15 0 1 := ⟨by decide, by decide, big_in 141 (by decide +kernel) rfl⟩
theorem fl_X0_18 : FL RX0 18 0 2 := ⟨by decide, by decide, big_in 142 (by decide +kernel) rfl⟩
theorem fl_X0_21 : FL RX0 21 0 3 := ⟨by decide, by decide, big_in 143 (by decide +kernel) rfl⟩
theorem fl_X0_24 : FL RX0 24 0 4 := ⟨by decide, by decide, big_in 144 (by decide +kernel) rfl⟩
theorem fl_X10_277 : FL RX10 277 0 4 := ⟨by decide, by decide, big_in 145 (by decide +kernel) rfl⟩
theorem fl_X0_27 : FL RX0 27 0 5 := ⟨by decide, by decide, big_in 146 (by decide +kernel) rfl⟩
theorem fl_X10_376 : FL RX10 376 0 5 := ⟨by decide, by decide, big_in 147 (by decide +kernel) rfl⟩
theorem fl_X0_31 : FL RX0 31 0 6 := ⟨by decide, by decide, big_in 148 (by decide +kernel) rfl⟩
theorem fl_X10_274 : FL RX10 274 0 6 := ⟨by decide, by decide, big_in 149 (by decide +kernel) rfl⟩
theorem fl_X10_11 : FL RX10 11 10 0 := ⟨by decide, by decide, big_in 165 (by decide +kernel) rfl⟩
theorem fl_X10_86 : FL RX10 86 10 1 := ⟨by decide, by decide, big_in 166 (by decide +kernel) rfl⟩
theorem fl_X10_112 : FL RX10 112 10 2 := ⟨by decide, by decide, big_in 167 (by decide +kernel) rfl⟩
theorem fl_X10_18 : FL RX10 18 10 3 := ⟨by decide, by decide, big_in 168 (by decide +kernel) rfl⟩
theorem fl_X10_24 : FL RX10 24 10 4 := ⟨by decide, by decide, big_in 169 (by decide +kernel) rfl⟩
theorem fl_X10_141 : FL RX10 141 10 5 := ⟨by decide, by decide, big_in 170 (by decide +kernel) rfl⟩
theorem fl_X10_30 : FL RX10 30 10 6 := ⟨by decide, by decide, big_in 171 (by decide +kernel) rfl⟩
theorem fl_X10_210 : FL RX10 210 10 7 := ⟨by decide, by decide, big_in 172 (by decide +kernel) rfl⟩
theorem fl_X10_36 : FL RX10 36 10 8 := ⟨by decide, by decide, big_in 173 (by decide +kernel) rfl⟩
theorem fl_X10_185 : FL RX10 185 10 9 := ⟨by decide, by decide, big_in 174 (by decide +kernel) rfl⟩
theorem fl_X10_43 : FL RX10 43 10 10 := ⟨by decide, by decide, big_in 175 (by decide +kernel) rfl⟩
theorem fl_X10_79 : FL RX10 79 10 11 := ⟨by decide, by decide, big_in 176 (by decide +kernel) rfl⟩
theorem fl_X10_47 : FL RX10 47 10 12 := ⟨by decide, by decide, big_in 177 (by decide +kernel) rfl⟩
theorem fl_X10_318 : FL RX10 318 10 13 := ⟨by decide, by decide, big_in 178 (by decide +kernel) rfl⟩
theorem fl_X10_51 : FL RX10 51 10 14 := ⟨by decide, by decide, big_in 179 (by decide +kernel) rfl⟩
theorem fl_X10_321 : FL RX10 321 10 15 := ⟨by decide, by decide, big_in 180 (by decide +kernel) rfl⟩
theorem fl_X10_55 : FL RX10 55 10 16 := ⟨by decide, by decide, big_in 181 (by decide +kernel) rfl⟩
theorem fl_X10_61 : FL RX10 61 10 17 := ⟨by decide, by decide, big_in 182 (by decide +kernel) rfl⟩
theorem fl_X10_68 : FL RX10 68 10 18 := ⟨by decide, by decide, big_in 183 (by decide +kernel) rfl⟩
theorem wm_L_13 : Cond.methodLink RL 13 yX10_ship ∈ BIG := big_in 223 (by decide +kernel) rfl
theorem wi_X10_ship : Cond.instanceMethod yX10_ship ∈ BIG := big_in 224 (by decide +kernel) rfl
theorem ws_X10_ship : Cond.selects RX10 yX10_ship yX10_ship ∈ BIG := big_in 225 (by decide +kernel) rfl
theorem wc_X10_ship : Cond.code yX10_ship cX10_ship 4 (some .int) ∈ BIG := big_in 226 (by decide +kernel) rfl
theorem wm_X10_72 : Cond.methodLink RX10 72 yX10_isKindAndClass ∈ BIG := big_in 227 (by decide +kernel) rfl
theorem wt_X10_isKindAndClass : Cond.static yX10_isKindAndClass ∈ BIG := big_in 228 (by decide +kernel) rfl
theorem wc_X10_isKindAndClass : Cond.code yX10_isKindAndClass cX10_isKindAndClass 1 (some .boolean) ∈ BIG := big_in 229 (by decide +kernel) rfl
theorem wm_X10_96 : Cond.methodLink RX10 96 yX10_isBelow ∈ BIG := big_in 230 (by decide +kernel) rfl
theorem wt_X10_isBelow : Cond.static yX10_isBelow ∈ BIG := big_in 231 (by decide +kernel) rfl
theorem wc_X10_isBelow : Cond.code yX10_isBelow cX10_isBelow 2 (some .boolean) ∈ BIG := big_in 232 (by decide +kernel) rfl
theorem wm_X10_76 : Cond.methodLink RX10 76 yX10_isNameOwnerAndFlag ∈ BIG := big_in 233 (by decide +kernel) rfl
theorem wt_X10_isNameOwnerAndFlag : Cond.static yX10_isNameOwnerAndFlag ∈ BIG := big_in 234 (by decide +kernel) rfl
theorem wc_X10_isNameOwnerAndFlag : Cond.code yX10_isNameOwnerAndFlag cX10_isNameOwnerAndFlag 1 (some .boolean) ∈ BIG := big_in 235 (by decide +kernel) rfl
theorem wm_X10_82 : Cond.methodLink RX10 82 yX10_finding ∈ BIG := big_in 236 (by decide +kernel) rfl
theorem wi_X10_finding : Cond.instanceMethod yX10_finding ∈ BIG := big_in 238 (by decide +kernel) rfl
theorem wc_X10_finding : Cond.code yX10_finding cX10_finding 2 (some .int) ∈ BIG := big_in 239 (by decide +kernel) rfl
theorem wv_X10_333 : Cond.constant RX10 333 ((-1000000)) ∈ BIG := big_in 240 (by decide +kernel) rfl
theorem wx_X5 : Cond.instantiable RX5 10 ∈ BIG := big_in 241 (by decide +kernel) rfl
theorem wm_X10_89 : Cond.methodLink RX10 89 yX5_init ∈ BIG := big_in 242 (by decide +kernel) rfl
theorem wi_X5_init : Cond.instanceMethod yX5_init ∈ BIG := big_in 243 (by decide +kernel) rfl
theorem wc_X5_init : Cond.code yX5_init cX5_init 5 none ∈ BIG := big_in 244 (by decide +kernel) rfl
theorem wm_X5_3 : Cond.methodLink RX5 3 objectInit ∈ BIG := big_in 245 (by decide +kernel) rfl
theorem wk_X5_9 : Cond.classLink RX5 9 RX8 ∈ BIG := big_in 246 (by decide +kernel) rfl
theorem wk_X5_17 : Cond.classLink RX5 17 RX4 ∈ BIG := big_in 248 (by decide +kernel) rfl
theorem wx_X4 : Cond.instantiable RX4 1 ∈ BIG := big_in 249 (by decide +kernel) rfl
theorem wi_X4_init : Cond.instanceMethod yX4_init ∈ BIG := big_in 251 (by decide +kernel) rfl
theorem wc_X4_init : Cond.code yX4_init cX4_init 1 none ∈ BIG := big_in 252 (by decide +kernel) rfl
theorem wm_X4_3 : Cond.methodLink RX4 3 objectInit ∈ BIG := big_in 253 (by decide +kernel) rfl
theorem fl_X4_9 : FL RX4 9 4 0 := ⟨by decide, by decide, big_in 254 (by decide +kernel) rfl⟩
theorem wx_X8 : Cond.instantiable RX8 3 ∈ BIG := big_in 258 (by decide +kernel) rfl
theorem wm_X5_43 : Cond.methodLink RX5 43 yX8_init ∈ BIG := big_in 259 (by decide +kernel) rfl
theorem wi_X8_init : Cond.instanceMethod yX8_init ∈ BIG := big_in 260 (by decide +kernel) rfl
theorem wc_X8_init : Cond.code yX8_init cX8_init 4 none ∈ BIG := big_in 261 (by decide +kernel) rfl
theorem wm_X8_1 : Cond.methodLink RX8 1 objectInit ∈ BIG := big_in 262 (by decide +kernel) rfl
theorem fl_X8_7 : FL RX8 7 8 0 := ⟨by decide, by decide, big_in 263 (by decide +kernel) rfl⟩
theorem fl_X5_50 : FL RX5 50 8 0 := ⟨by decide, by decide, big_in 264 (by decide +kernel) rfl⟩
theorem fl_X8_13 : FL RX8 13 8 1 := ⟨by decide, by decide, big_in 265 (by decide +kernel) rfl⟩
theorem fl_X5_53 : FL RX5 53 8 1 := ⟨by decide, by decide, big_in 266 (by decide +kernel) rfl⟩
theorem fl_X8_16 : FL RX8 16 8 2 := ⟨by decide, by decide, big_in 267 (by decide +kernel) rfl⟩
theorem fl_X5_46 : FL RX5 46 8 2 := ⟨by decide, by decide, big_in 268 (by decide +kernel) rfl⟩
theorem fl_X5_31 : FL RX5 31 5 0 := ⟨by decide, by decide, big_in 276 (by decide +kernel) rfl⟩
theorem fl_X10_168 : FL RX10 168 5 0 := ⟨by decide, by decide, big_in 277 (by decide +kernel) rfl⟩
theorem fl_X5_34 : FL RX5 34 5 1 := ⟨by decide, by decide, big_in 278 (by decide +kernel) rfl⟩
theorem fl_X10_100 : FL RX10 100 5 1 := ⟨by decide, by decide, big_in 279 (by decide +kernel) rfl⟩
theorem fl_X5_37 : FL RX5 37 5 2 := ⟨by decide, by decide, big_in 280 (by decide +kernel) rfl⟩
theorem fl_X10_355 : FL RX10 355 5 2 := ⟨by decide, by decide, big_in 281 (by decide +kernel) rfl⟩
theorem fl_X5_40 : FL RX5 40 5 3 := ⟨by decide, by decide, big_in 282 (by decide +kernel) rfl⟩
theorem fl_X10_361 : FL RX10 361 5 3 := ⟨by decide, by decide, big_in 283 (by decide +kernel) rfl⟩
theorem fl_X5_11 : FL RX5 11 5 4 := ⟨by decide, by decide, big_in 284 (by decide +kernel) rfl⟩
theorem fl_X5_20 : FL RX5 20 5 5 := ⟨by decide, by decide, big_in 285 (by decide +kernel) rfl⟩
theorem fl_X10_281 : FL RX10 281 5 5 := ⟨by decide, by decide, big_in 286 (by decide +kernel) rfl⟩
theorem fl_X10_133 : FL RX10 133 5 6 := ⟨by decide, by decide, big_in 287 (by decide +kernel) rfl⟩
theorem fl_X5_24 : FL RX5 24 5 7 := ⟨by decide, by decide, big_in 288 (by decide +kernel) rfl⟩
theorem fl_X10_219 : FL RX10 219 5 7 := ⟨by decide, by decide, big_in 289 (by decide +kernel) rfl⟩
theorem fl_X5_28 : FL RX5 28 5 8 := ⟨by decide, by decide, big_in 290 (by decide +kernel) rfl⟩
theorem fl_X10_300 : FL RX10 300 5 8 := ⟨by decide, by decide, big_in 291 (by decide +kernel) rfl⟩
theorem fl_X10_297 : FL RX10 297 5 9 := ⟨by decide, by decide, big_in 292 (by decide +kernel) rfl⟩
theorem wm_L_18 : Cond.methodLink RL 18 yX10_as ∈ BIG := big_in 314 (by decide +kernel) rfl
theorem wi_X10_as : Cond.instanceMethod yX10_as ∈ BIG := big_in 315 (by decide +kernel) rfl
theorem ws_X10_as : Cond.selects RX10 yX10_as yX10_as ∈ BIG := big_in 316 (by decide +kernel) rfl
theorem wc_X10_as : Cond.code yX10_as cX10_as 4 (some .int) ∈ BIG := big_in 317 (by decide +kernel) rfl
theorem wm_X10_92 : Cond.methodLink RX10 92 yX10_shipAt ∈ BIG := big_in 318 (by decide +kernel) rfl
theorem wi_X10_shipAt : Cond.instanceMethod yX10_shipAt ∈ BIG := big_in 320 (by decide +kernel) rfl
theorem wc_X10_shipAt : Cond.code yX10_shipAt cX10_shipAt 2 (some (.object RX5)) ∈ BIG := big_in 321 (by decide +kernel) rfl
theorem wm_X10_103 : Cond.methodLink RX10 103 yX10_isUnder ∈ BIG := big_in 322 (by decide +kernel) rfl
theorem wt_X10_isUnder : Cond.static yX10_isUnder ∈ BIG := big_in 323 (by decide +kernel) rfl
theorem wc_X10_isUnder : Cond.code yX10_isUnder cX10_isUnder 4 (some .boolean) ∈ BIG := big_in 324 (by decide +kernel) rfl
theorem fs_X10_334 : Cond.fieldLink RX10 334 RX10 "ABOVE" "[I" ∈ BIG := big_in 325 (by decide +kernel) rfl
theorem fs_X10_106 : Cond.fieldLink RX10 106 RX10 "LOOK_HOURS" "[I" ∈ BIG := big_in 327 (by decide +kernel) rfl
theorem wm_L_23 : Cond.methodLink RL 23 yX10_change ∈ BIG := big_in 329 (by decide +kernel) rfl
theorem wi_X10_change : Cond.instanceMethod yX10_change ∈ BIG := big_in 330 (by decide +kernel) rfl
theorem ws_X10_change : Cond.selects RX10 yX10_change yX10_change ∈ BIG := big_in 331 (by decide +kernel) rfl
theorem wc_X10_change : Cond.code yX10_change cX10_change 6 (some .int) ∈ BIG := big_in 332 (by decide +kernel) rfl
theorem wm_X10_109 : Cond.methodLink RX10 109 yX10_valuesOf ∈ BIG := big_in 333 (by decide +kernel) rfl
theorem wt_X10_valuesOf : Cond.static yX10_valuesOf ∈ BIG := big_in 334 (by decide +kernel) rfl
theorem wc_X10_valuesOf : Cond.code yX10_valuesOf cX10_valuesOf 1 (some .int) ∈ BIG := big_in 335 (by decide +kernel) rfl
theorem wm_X10_115 : Cond.methodLink RX10 115 yX5_traitOn ∈ BIG := big_in 336 (by decide +kernel) rfl
theorem wi_X5_traitOn : Cond.instanceMethod yX5_traitOn ∈ BIG := big_in 337 (by decide +kernel) rfl
theorem ws_X5_traitOn : Cond.selects RX5 yX5_traitOn yX5_traitOn ∈ BIG := big_in 338 (by decide +kernel) rfl
theorem wc_X5_traitOn : Cond.code yX5_traitOn cX5_traitOn 4 (some .int) ∈ BIG := big_in 339 (by decide +kernel) rfl
theorem wm_X10_119 : Cond.methodLink RX10 119 yX5_setTrait ∈ BIG := big_in 340 (by decide +kernel) rfl
theorem wi_X5_setTrait : Cond.instanceMethod yX5_setTrait ∈ BIG := big_in 341 (by decide +kernel) rfl
theorem ws_X5_setTrait : Cond.selects RX5 yX5_setTrait yX5_setTrait ∈ BIG := big_in 342 (by decide +kernel) rfl
theorem wc_X5_setTrait : Cond.code yX5_setTrait cX5_setTrait 4 none ∈ BIG := big_in 343 (by decide +kernel) rfl
theorem wm_L_27 : Cond.methodLink RL 27 yX10_has ∈ BIG := big_in 344 (by decide +kernel) rfl
theorem wi_X10_has : Cond.instanceMethod yX10_has ∈ BIG := big_in 345 (by decide +kernel) rfl
theorem ws_X10_has : Cond.selects RX10 yX10_has yX10_has ∈ BIG := big_in 346 (by decide +kernel) rfl
theorem wc_X10_has : Cond.code yX10_has cX10_has 5 (some .int) ∈ BIG := big_in 347 (by decide +kernel) rfl
theorem wm_L_31 : Cond.methodLink RL 31 yX10_named ∈ BIG := big_in 348 (by decide +kernel) rfl
theorem wi_X10_named : Cond.instanceMethod yX10_named ∈ BIG := big_in 349 (by decide +kernel) rfl
theorem ws_X10_named : Cond.selects RX10 yX10_named yX10_named ∈ BIG := big_in 350 (by decide +kernel) rfl
theorem wc_X10_named : Cond.code yX10_named cX10_named 4 (some .int) ∈ BIG := big_in 351 (by decide +kernel) rfl
theorem wm_L_35 : Cond.methodLink RL 35 yX10_one ∈ BIG := big_in 352 (by decide +kernel) rfl
theorem wi_X10_one : Cond.instanceMethod yX10_one ∈ BIG := big_in 353 (by decide +kernel) rfl
theorem ws_X10_one : Cond.selects RX10 yX10_one yX10_one ∈ BIG := big_in 354 (by decide +kernel) rfl
theorem wc_X10_one : Cond.code yX10_one cX10_one 3 (some .int) ∈ BIG := big_in 355 (by decide +kernel) rfl
theorem wm_X10_126 : Cond.methodLink RX10 126 yX3_join ∈ BIG := big_in 356 (by decide +kernel) rfl
theorem wi_X3_join : Cond.instanceMethod yX3_join ∈ BIG := big_in 357 (by decide +kernel) rfl
theorem ws_X3_join : Cond.selects RX3 yX3_join yX3_join ∈ BIG := big_in 358 (by decide +kernel) rfl
theorem wc_X3_join : Cond.code yX3_join cX3_join 6 none ∈ BIG := big_in 359 (by decide +kernel) rfl
theorem wm_L_39 : Cond.methodLink RL 39 yX10_fleet ∈ BIG := big_in 360 (by decide +kernel) rfl
theorem wi_X10_fleet : Cond.instanceMethod yX10_fleet ∈ BIG := big_in 361 (by decide +kernel) rfl
theorem ws_X10_fleet : Cond.selects RX10 yX10_fleet yX10_fleet ∈ BIG := big_in 362 (by decide +kernel) rfl
theorem wc_X10_fleet : Cond.code yX10_fleet cX10_fleet 3 (some .int) ∈ BIG := big_in 363 (by decide +kernel) rfl
theorem wm_X10_130 : Cond.methodLink RX10 130 yX10_fleetBits ∈ BIG := big_in 364 (by decide +kernel) rfl
theorem wi_X10_fleetBits : Cond.instanceMethod yX10_fleetBits ∈ BIG := big_in 366 (by decide +kernel) rfl
theorem wc_X10_fleetBits : Cond.code yX10_fleetBits cX10_fleetBits 5 (some .int) ∈ BIG := big_in 367 (by decide +kernel) rfl
theorem wm_X10_338 : Cond.methodLink RX10 338 yX3_areOne ∈ BIG := big_in 368 (by decide +kernel) rfl
theorem wi_X3_areOne : Cond.instanceMethod yX3_areOne ∈ BIG := big_in 369 (by decide +kernel) rfl
theorem ws_X3_areOne : Cond.selects RX3 yX3_areOne yX3_areOne ∈ BIG := big_in 370 (by decide +kernel) rfl
theorem wc_X3_areOne : Cond.code yX3_areOne cX3_areOne 3 (some .boolean) ∈ BIG := big_in 371 (by decide +kernel) rfl
theorem wm_L_43 : Cond.methodLink RL 43 yX10_day ∈ BIG := big_in 372 (by decide +kernel) rfl
theorem wi_X10_day : Cond.instanceMethod yX10_day ∈ BIG := big_in 373 (by decide +kernel) rfl
theorem ws_X10_day : Cond.selects RX10 yX10_day yX10_day ∈ BIG := big_in 374 (by decide +kernel) rfl
theorem wc_X10_day : Cond.code yX10_day cX10_day 3 (some .int) ∈ BIG := big_in 375 (by decide +kernel) rfl
theorem wm_L_48 : Cond.methodLink RL 48 yX10_call ∈ BIG := big_in 376 (by decide +kernel) rfl
theorem wi_X10_call : Cond.instanceMethod yX10_call ∈ BIG := big_in 377 (by decide +kernel) rfl
theorem ws_X10_call : Cond.selects RX10 yX10_call yX10_call ∈ BIG := big_in 378 (by decide +kernel) rfl
theorem wc_X10_call : Cond.code yX10_call cX10_call 5 (some .int) ∈ BIG := big_in 379 (by decide +kernel) rfl
theorem wm_X10_137 : Cond.methodLink RX10 137 yX5_isBanned ∈ BIG := big_in 380 (by decide +kernel) rfl
theorem wi_X5_isBanned : Cond.instanceMethod yX5_isBanned ∈ BIG := big_in 381 (by decide +kernel) rfl
theorem ws_X5_isBanned : Cond.selects RX5 yX5_isBanned yX5_isBanned ∈ BIG := big_in 382 (by decide +kernel) rfl
theorem wc_X5_isBanned : Cond.code yX5_isBanned cX5_isBanned 1 (some .boolean) ∈ BIG := big_in 383 (by decide +kernel) rfl
theorem wx_X1 : Cond.instantiable RX1 7 ∈ BIG := big_in 384 (by decide +kernel) rfl
theorem wm_X10_144 : Cond.methodLink RX10 144 yX1_init ∈ BIG := big_in 385 (by decide +kernel) rfl
theorem wi_X1_init : Cond.instanceMethod yX1_init ∈ BIG := big_in 386 (by decide +kernel) rfl
theorem wc_X1_init : Cond.code yX1_init cX1_init 5 none ∈ BIG := big_in 387 (by decide +kernel) rfl
theorem wm_X1_1 : Cond.methodLink RX1 1 objectInit ∈ BIG := big_in 388 (by decide +kernel) rfl
theorem fl_X1_13 : FL RX1 13 1 0 := ⟨by decide, by decide, big_in 389 (by decide +kernel) rfl⟩
theorem fl_X10_147 : FL RX10 147 1 0 := ⟨by decide, by decide, big_in 390 (by decide +kernel) rfl⟩
theorem fl_X1_16 : FL RX1 16 1 1 := ⟨by decide, by decide, big_in 391 (by decide +kernel) rfl⟩
theorem fl_X10_164 : FL RX10 164 1 1 := ⟨by decide, by decide, big_in 392 (by decide +kernel) rfl⟩
theorem fl_X1_20 : FL RX1 20 1 2 := ⟨by decide, by decide, big_in 393 (by decide +kernel) rfl⟩
theorem fl_X10_169 : FL RX10 169 1 2 := ⟨by decide, by decide, big_in 394 (by decide +kernel) rfl⟩
theorem fl_X1_23 : FL RX1 23 1 3 := ⟨by decide, by decide, big_in 395 (by decide +kernel) rfl⟩
theorem fl_X10_172 : FL RX10 172 1 3 := ⟨by decide, by decide, big_in 396 (by decide +kernel) rfl⟩
theorem fl_X1_7 : FL RX1 7 1 4 := ⟨by decide, by decide, big_in 397 (by decide +kernel) rfl⟩
theorem fl_X10_161 : FL RX10 161 1 4 := ⟨by decide, by decide, big_in 398 (by decide +kernel) rfl⟩
theorem fl_X10_157 : FL RX10 157 1 5 := ⟨by decide, by decide, big_in 399 (by decide +kernel) rfl⟩
theorem fl_X10_175 : FL RX10 175 1 6 := ⟨by decide, by decide, big_in 400 (by decide +kernel) rfl⟩
theorem wm_L_52 : Cond.methodLink RL 52 yX10_leave ∈ BIG := big_in 416 (by decide +kernel) rfl
theorem wi_X10_leave : Cond.instanceMethod yX10_leave ∈ BIG := big_in 417 (by decide +kernel) rfl
theorem ws_X10_leave : Cond.selects RX10 yX10_leave yX10_leave ∈ BIG := big_in 418 (by decide +kernel) rfl
theorem wc_X10_leave : Cond.code yX10_leave cX10_leave 3 (some .int) ∈ BIG := big_in 419 (by decide +kernel) rfl
theorem wm_X10_150 : Cond.methodLink RX10 150 yX10_callAt ∈ BIG := big_in 420 (by decide +kernel) rfl
theorem wi_X10_callAt : Cond.instanceMethod yX10_callAt ∈ BIG := big_in 422 (by decide +kernel) rfl
theorem wc_X10_callAt : Cond.code yX10_callAt cX10_callAt 2 (some (.object RX1)) ∈ BIG := big_in 423 (by decide +kernel) rfl
theorem wm_X10_154 : Cond.methodLink RX10 154 yX1_isOver ∈ BIG := big_in 424 (by decide +kernel) rfl
theorem wi_X1_isOver : Cond.instanceMethod yX1_isOver ∈ BIG := big_in 425 (by decide +kernel) rfl
theorem ws_X1_isOver : Cond.selects RX1 yX1_isOver yX1_isOver ∈ BIG := big_in 426 (by decide +kernel) rfl
theorem wc_X1_isOver : Cond.code yX1_isOver cX1_isOver 1 (some .boolean) ∈ BIG := big_in 427 (by decide +kernel) rfl
theorem wm_L_56 : Cond.methodLink RL 56 yX10_of ∈ BIG := big_in 428 (by decide +kernel) rfl
theorem wi_X10_of : Cond.instanceMethod yX10_of ∈ BIG := big_in 429 (by decide +kernel) rfl
theorem ws_X10_of : Cond.selects RX10 yX10_of yX10_of ∈ BIG := big_in 430 (by decide +kernel) rfl
theorem wc_X10_of : Cond.code yX10_of cX10_of 4 (some .int) ∈ BIG := big_in 431 (by decide +kernel) rfl
theorem wm_L_60 : Cond.methodLink RL 60 yX10_feed ∈ BIG := big_in 432 (by decide +kernel) rfl
theorem wi_X10_feed : Cond.instanceMethod yX10_feed ∈ BIG := big_in 433 (by decide +kernel) rfl
theorem ws_X10_feed : Cond.selects RX10 yX10_feed yX10_feed ∈ BIG := big_in 434 (by decide +kernel) rfl
theorem wc_X10_feed : Cond.code yX10_feed cX10_feed 2 (some .int) ∈ BIG := big_in 435 (by decide +kernel) rfl
theorem wm_X10_181 : Cond.methodLink RX10 181 yX7_put ∈ BIG := big_in 436 (by decide +kernel) rfl
end
section
theorem wi_X7_put : Cond.instanceMethod yX7_put ∈ BIG := big_in 437 (by decide +kernel) rfl
theorem ws_X7_put : Cond.selects RX7 yX7_put yX7_put ∈ BIG := big_in 438 (by decide +kernel) rfl
theorem wc_X7_put : Cond.code yX7_put cX7_put 2 none ∈ BIG := big_in 439 (by decide +kernel) rfl
theorem wm_L_64 : Cond.methodLink RL 64 yX10_treaty ∈ BIG := big_in 440 (by decide +kernel) rfl
theorem wi_X10_treaty : Cond.instanceMethod yX10_treaty ∈ BIG := big_in 441 (by decide +kernel) rfl
theorem ws_X10_treaty : Cond.selects RX10 yX10_treaty yX10_treaty ∈ BIG := big_in 442 (by decide +kernel) rfl
theorem wc_X10_treaty : Cond.code yX10_treaty cX10_treaty 4 (some .int) ∈ BIG := big_in 443 (by decide +kernel) rfl
theorem wx_X9 : Cond.instantiable RX9 4 ∈ BIG := big_in 444 (by decide +kernel) rfl
theorem wm_X10_188 : Cond.methodLink RX10 188 yX9_init ∈ BIG := big_in 445 (by decide +kernel) rfl
theorem wi_X9_init : Cond.instanceMethod yX9_init ∈ BIG := big_in 446 (by decide +kernel) rfl
theorem wc_X9_init : Cond.code yX9_init cX9_init 2 none ∈ BIG := big_in 447 (by decide +kernel) rfl
theorem wm_X9_3 : Cond.methodLink RX9 3 objectInit ∈ BIG := big_in 448 (by decide +kernel) rfl
theorem fl_X9_22 : FL RX9 22 9 0 := ⟨by decide, by decide, big_in 449 (by decide +kernel) rfl⟩
theorem fl_X10_337 : FL RX10 337 9 0 := ⟨by decide, by decide, big_in 450 (by decide +kernel) rfl⟩
theorem fl_X9_9 : FL RX9 9 9 1 := ⟨by decide, by decide, big_in 451 (by decide +kernel) rfl⟩
theorem fl_X7_52 : FL RX7 52 9 1 := ⟨by decide, by decide, big_in 452 (by decide +kernel) rfl⟩
theorem fl_X10_201 : FL RX10 201 9 1 := ⟨by decide, by decide, big_in 453 (by decide +kernel) rfl⟩
theorem fl_X9_15 : FL RX9 15 9 2 := ⟨by decide, by decide, big_in 454 (by decide +kernel) rfl⟩
theorem fl_X10_204 : FL RX10 204 9 2 := ⟨by decide, by decide, big_in 455 (by decide +kernel) rfl⟩
theorem fl_X9_18 : FL RX9 18 9 3 := ⟨by decide, by decide, big_in 456 (by decide +kernel) rfl⟩
theorem fl_X7_55 : FL RX7 55 9 3 := ⟨by decide, by decide, big_in 457 (by decide +kernel) rfl⟩
theorem fl_X10_207 : FL RX10 207 9 3 := ⟨by decide, by decide, big_in 458 (by decide +kernel) rfl⟩
theorem wm_X10_190 : Cond.methodLink RX10 190 yX7_readInto ∈ BIG := big_in 468 (by decide +kernel) rfl
theorem wi_X7_readInto : Cond.instanceMethod yX7_readInto ∈ BIG := big_in 469 (by decide +kernel) rfl
theorem ws_X7_readInto : Cond.selects RX7 yX7_readInto yX7_readInto ∈ BIG := big_in 470 (by decide +kernel) rfl
theorem wc_X7_readInto : Cond.code yX7_readInto cX7_readInto 4 (some .boolean) ∈ BIG := big_in 471 (by decide +kernel) rfl
theorem wm_X7_22 : Cond.methodLink RX7 22 yX7_readRow ∈ BIG := big_in 472 (by decide +kernel) rfl
theorem wi_X7_readRow : Cond.instanceMethod yX7_readRow ∈ BIG := big_in 473 (by decide +kernel) rfl
theorem ws_X7_readRow : Cond.selects RX7 yX7_readRow yX7_readRow ∈ BIG := big_in 474 (by decide +kernel) rfl
theorem wc_X7_readRow : Cond.code yX7_readRow cX7_readRow 2 (some .boolean) ∈ BIG := big_in 475 (by decide +kernel) rfl
theorem wm_X7_26 : Cond.methodLink RX7 26 yX7_take ∈ BIG := big_in 476 (by decide +kernel) rfl
theorem wi_X7_take : Cond.instanceMethod yX7_take ∈ BIG := big_in 477 (by decide +kernel) rfl
theorem ws_X7_take : Cond.selects RX7 yX7_take yX7_take ∈ BIG := big_in 478 (by decide +kernel) rfl
theorem wc_X7_take : Cond.code yX7_take cX7_take 2 (some .boolean) ∈ BIG := big_in 479 (by decide +kernel) rfl
theorem wm_X7_30 : Cond.methodLink RX7 30 yX7_readGrave ∈ BIG := big_in 480 (by decide +kernel) rfl
theorem wi_X7_readGrave : Cond.instanceMethod yX7_readGrave ∈ BIG := big_in 481 (by decide +kernel) rfl
theorem ws_X7_readGrave : Cond.selects RX7 yX7_readGrave yX7_readGrave ∈ BIG := big_in 482 (by decide +kernel) rfl
theorem wc_X7_readGrave : Cond.code yX7_readGrave cX7_readGrave 4 (some .boolean) ∈ BIG := big_in 483 (by decide +kernel) rfl
theorem wm_X7_39 : Cond.methodLink RX7 39 yX7_takeDigit ∈ BIG := big_in 484 (by decide +kernel) rfl
theorem wi_X7_takeDigit : Cond.instanceMethod yX7_takeDigit ∈ BIG := big_in 485 (by decide +kernel) rfl
theorem ws_X7_takeDigit : Cond.selects RX7 yX7_takeDigit yX7_takeDigit ∈ BIG := big_in 486 (by decide +kernel) rfl
theorem wc_X7_takeDigit : Cond.code yX7_takeDigit cX7_takeDigit 1 (some .int) ∈ BIG := big_in 487 (by decide +kernel) rfl
theorem wm_X7_43 : Cond.methodLink RX7 43 yX7_takeKind ∈ BIG := big_in 488 (by decide +kernel) rfl
theorem wi_X7_takeKind : Cond.instanceMethod yX7_takeKind ∈ BIG := big_in 489 (by decide +kernel) rfl
theorem ws_X7_takeKind : Cond.selects RX7 yX7_takeKind yX7_takeKind ∈ BIG := big_in 490 (by decide +kernel) rfl
theorem wc_X7_takeKind : Cond.code yX7_takeKind cX7_takeKind 1 (some .int) ∈ BIG := big_in 491 (by decide +kernel) rfl
theorem wm_X7_46 : Cond.methodLink RX7 46 yX9_addGrave ∈ BIG := big_in 492 (by decide +kernel) rfl
theorem wi_X9_addGrave : Cond.instanceMethod yX9_addGrave ∈ BIG := big_in 493 (by decide +kernel) rfl
theorem ws_X9_addGrave : Cond.selects RX9 yX9_addGrave yX9_addGrave ∈ BIG := big_in 494 (by decide +kernel) rfl
theorem wc_X9_addGrave : Cond.code yX9_addGrave cX9_addGrave 4 none ∈ BIG := big_in 495 (by decide +kernel) rfl
theorem wm_X7_33 : Cond.methodLink RX7 33 yX7_readWeight ∈ BIG := big_in 497 (by decide +kernel) rfl
theorem wi_X7_readWeight : Cond.instanceMethod yX7_readWeight ∈ BIG := big_in 498 (by decide +kernel) rfl
theorem ws_X7_readWeight : Cond.selects RX7 yX7_readWeight yX7_readWeight ∈ BIG := big_in 499 (by decide +kernel) rfl
theorem wc_X7_readWeight : Cond.code yX7_readWeight cX7_readWeight 4 (some .boolean) ∈ BIG := big_in 500 (by decide +kernel) rfl
theorem wm_X7_36 : Cond.methodLink RX7 36 yX7_readLimit ∈ BIG := big_in 501 (by decide +kernel) rfl
theorem wi_X7_readLimit : Cond.instanceMethod yX7_readLimit ∈ BIG := big_in 502 (by decide +kernel) rfl
theorem ws_X7_readLimit : Cond.selects RX7 yX7_readLimit yX7_readLimit ∈ BIG := big_in 503 (by decide +kernel) rfl
theorem wc_X7_readLimit : Cond.code yX7_readLimit cX7_readLimit 4 (some .boolean) ∈ BIG := big_in 504 (by decide +kernel) rfl
theorem wm_L_68 : Cond.methodLink RL 68 yX10_says ∈ BIG := big_in 505 (by decide +kernel) rfl
theorem wi_X10_says : Cond.instanceMethod yX10_says ∈ BIG := big_in 506 (by decide +kernel) rfl
theorem ws_X10_says : Cond.selects RX10 yX10_says yX10_says ∈ BIG := big_in 507 (by decide +kernel) rfl
theorem wc_X10_says : Cond.code yX10_says cX10_says 6 (some .int) ∈ BIG := big_in 508 (by decide +kernel) rfl
theorem wm_X10_197 : Cond.methodLink RX10 197 yX10_treatyInForce ∈ BIG := big_in 509 (by decide +kernel) rfl
theorem wi_X10_treatyInForce : Cond.instanceMethod yX10_treatyInForce ∈ BIG := big_in 511 (by decide +kernel) rfl
theorem wc_X10_treatyInForce : Cond.code yX10_treatyInForce cX10_treatyInForce 3 (some (.object RX9)) ∈ BIG := big_in 512 (by decide +kernel) rfl
theorem wm_L_72 : Cond.methodLink RL 72 yX10_look ∈ BIG := big_in 513 (by decide +kernel) rfl
theorem wi_X10_look : Cond.instanceMethod yX10_look ∈ BIG := big_in 514 (by decide +kernel) rfl
theorem ws_X10_look : Cond.selects RX10 yX10_look yX10_look ∈ BIG := big_in 515 (by decide +kernel) rfl
theorem wc_X10_look : Cond.code yX10_look cX10_look 7 (some .int) ∈ BIG := big_in 516 (by decide +kernel) rfl
theorem wm_X10_213 : Cond.methodLink RX10 213 yX9_holdsFor ∈ BIG := big_in 517 (by decide +kernel) rfl
theorem wi_X9_holdsFor : Cond.instanceMethod yX9_holdsFor ∈ BIG := big_in 518 (by decide +kernel) rfl
theorem ws_X9_holdsFor : Cond.selects RX9 yX9_holdsFor yX9_holdsFor ∈ BIG := big_in 519 (by decide +kernel) rfl
theorem wc_X9_holdsFor : Cond.code yX9_holdsFor cX9_holdsFor 5 (some .boolean) ∈ BIG := big_in 520 (by decide +kernel) rfl
theorem wx_X2 : Cond.instantiable RX2 6 ∈ BIG := big_in 521 (by decide +kernel) rfl
theorem wm_X10_216 : Cond.methodLink RX10 216 yX2_init ∈ BIG := big_in 522 (by decide +kernel) rfl
theorem wi_X2_init : Cond.instanceMethod yX2_init ∈ BIG := big_in 523 (by decide +kernel) rfl
theorem wc_X2_init : Cond.code yX2_init cX2_init 6 none ∈ BIG := big_in 524 (by decide +kernel) rfl
theorem wm_X2_1 : Cond.methodLink RX2 1 objectInit ∈ BIG := big_in 525 (by decide +kernel) rfl
theorem fl_X2_7 : FL RX2 7 2 0 := ⟨by decide, by decide, big_in 526 (by decide +kernel) rfl⟩
theorem fl_X10_230 : FL RX10 230 2 0 := ⟨by decide, by decide, big_in 527 (by decide +kernel) rfl⟩
theorem fl_X2_13 : FL RX2 13 2 1 := ⟨by decide, by decide, big_in 528 (by decide +kernel) rfl⟩
theorem fl_X10_233 : FL RX10 233 2 1 := ⟨by decide, by decide, big_in 529 (by decide +kernel) rfl⟩
theorem fl_X2_17 : FL RX2 17 2 2 := ⟨by decide, by decide, big_in 530 (by decide +kernel) rfl⟩
theorem fl_X10_236 : FL RX10 236 2 2 := ⟨by decide, by decide, big_in 531 (by decide +kernel) rfl⟩
theorem fl_X2_20 : FL RX2 20 2 3 := ⟨by decide, by decide, big_in 532 (by decide +kernel) rfl⟩
theorem fl_X10_239 : FL RX10 239 2 3 := ⟨by decide, by decide, big_in 533 (by decide +kernel) rfl⟩
theorem fl_X2_23 : FL RX2 23 2 4 := ⟨by decide, by decide, big_in 534 (by decide +kernel) rfl⟩
theorem fl_X10_242 : FL RX10 242 2 4 := ⟨by decide, by decide, big_in 535 (by decide +kernel) rfl⟩
theorem fl_X2_27 : FL RX2 27 2 5 := ⟨by decide, by decide, big_in 536 (by decide +kernel) rfl⟩
theorem fl_X10_315 : FL RX10 315 2 5 := ⟨by decide, by decide, big_in 537 (by decide +kernel) rfl⟩
theorem wm_X10_222 : Cond.methodLink RX10 222 yX10_banIfDue ∈ BIG := big_in 551 (by decide +kernel) rfl
theorem wi_X10_banIfDue : Cond.instanceMethod yX10_banIfDue ∈ BIG := big_in 553 (by decide +kernel) rfl
theorem wc_X10_banIfDue : Cond.code yX10_banIfDue cX10_banIfDue 6 none ∈ BIG := big_in 554 (by decide +kernel) rfl
theorem wm_X10_364 : Cond.methodLink RX10 364 yX10_isFlagDark ∈ BIG := big_in 555 (by decide +kernel) rfl
theorem wi_X10_isFlagDark : Cond.instanceMethod yX10_isFlagDark ∈ BIG := big_in 557 (by decide +kernel) rfl
theorem wc_X10_isFlagDark : Cond.code yX10_isFlagDark cX10_isFlagDark 2 (some .boolean) ∈ BIG := big_in 558 (by decide +kernel) rfl
theorem wm_X10_358 : Cond.methodLink RX10 358 yX10_isDarkGroup ∈ BIG := big_in 559 (by decide +kernel) rfl
theorem wi_X10_isDarkGroup : Cond.instanceMethod yX10_isDarkGroup ∈ BIG := big_in 561 (by decide +kernel) rfl
theorem wc_X10_isDarkGroup : Cond.code yX10_isDarkGroup cX10_isDarkGroup 3 (some .boolean) ∈ BIG := big_in 562 (by decide +kernel) rfl
theorem wm_X10_248 : Cond.methodLink RX10 248 yX10_tallyUp ∈ BIG := big_in 563 (by decide +kernel) rfl
theorem wi_X10_tallyUp : Cond.instanceMethod yX10_tallyUp ∈ BIG := big_in 565 (by decide +kernel) rfl
theorem wc_X10_tallyUp : Cond.code yX10_tallyUp cX10_tallyUp 5 none ∈ BIG := big_in 566 (by decide +kernel) rfl
theorem wm_X10_341 : Cond.methodLink RX10 341 yX6_clear ∈ BIG := big_in 567 (by decide +kernel) rfl
theorem wi_X6_clear : Cond.instanceMethod yX6_clear ∈ BIG := big_in 568 (by decide +kernel) rfl
theorem ws_X6_clear : Cond.selects RX6 yX6_clear yX6_clear ∈ BIG := big_in 569 (by decide +kernel) rfl
theorem wc_X6_clear : Cond.code yX6_clear cX6_clear 1 none ∈ BIG := big_in 570 (by decide +kernel) rfl
theorem wm_X10_344 : Cond.methodLink RX10 344 yX10_isInLast ∈ BIG := big_in 571 (by decide +kernel) rfl
theorem wi_X10_isInLast : Cond.instanceMethod yX10_isInLast ∈ BIG := big_in 573 (by decide +kernel) rfl
theorem wc_X10_isInLast : Cond.code yX10_isInLast cX10_isInLast 3 (some .boolean) ∈ BIG := big_in 574 (by decide +kernel) rfl
theorem wm_X10_347 : Cond.methodLink RX10 347 yX10_isOfGroup ∈ BIG := big_in 575 (by decide +kernel) rfl
theorem wt_X10_isOfGroup : Cond.static yX10_isOfGroup ∈ BIG := big_in 576 (by decide +kernel) rfl
theorem wc_X10_isOfGroup : Cond.code yX10_isOfGroup cX10_isOfGroup 4 (some .boolean) ∈ BIG := big_in 577 (by decide +kernel) rfl
theorem wm_X10_351 : Cond.methodLink RX10 351 yX6_add ∈ BIG := big_in 578 (by decide +kernel) rfl
theorem wi_X6_add : Cond.instanceMethod yX6_add ∈ BIG := big_in 579 (by decide +kernel) rfl
theorem ws_X6_add : Cond.selects RX6 yX6_add yX6_add ∈ BIG := big_in 580 (by decide +kernel) rfl
theorem wc_X6_add : Cond.code yX6_add cX6_add 3 none ∈ BIG := big_in 581 (by decide +kernel) rfl
theorem wm_X10_255 : Cond.methodLink RX10 255 yX6_isDark ∈ BIG := big_in 582 (by decide +kernel) rfl
theorem wi_X6_isDark : Cond.instanceMethod yX6_isDark ∈ BIG := big_in 583 (by decide +kernel) rfl
theorem ws_X6_isDark : Cond.selects RX6 yX6_isDark yX6_isDark ∈ BIG := big_in 584 (by decide +kernel) rfl
theorem wc_X6_isDark : Cond.code yX6_isDark cX6_isDark 2 (some .boolean) ∈ BIG := big_in 585 (by decide +kernel) rfl
theorem wm_L_76 : Cond.methodLink RL 76 yX10_told ∈ BIG := big_in 586 (by decide +kernel) rfl
theorem wi_X10_told : Cond.instanceMethod yX10_told ∈ BIG := big_in 587 (by decide +kernel) rfl
theorem ws_X10_told : Cond.selects RX10 yX10_told yX10_told ∈ BIG := big_in 588 (by decide +kernel) rfl
theorem wc_X10_told : Cond.code yX10_told cX10_told 4 (some .int) ∈ BIG := big_in 589 (by decide +kernel) rfl
theorem wm_X10_226 : Cond.methodLink RX10 226 yX10_lookAt ∈ BIG := big_in 590 (by decide +kernel) rfl
theorem wi_X10_lookAt : Cond.instanceMethod yX10_lookAt ∈ BIG := big_in 592 (by decide +kernel) rfl
theorem wc_X10_lookAt : Cond.code yX10_lookAt cX10_lookAt 2 (some (.object RX2)) ∈ BIG := big_in 593 (by decide +kernel) rfl
theorem wm_L_80 : Cond.methodLink RL 80 yX10_share ∈ BIG := big_in 594 (by decide +kernel) rfl
theorem wi_X10_share : Cond.instanceMethod yX10_share ∈ BIG := big_in 595 (by decide +kernel) rfl
theorem ws_X10_share : Cond.selects RX10 yX10_share yX10_share ∈ BIG := big_in 596 (by decide +kernel) rfl
theorem wc_X10_share : Cond.code yX10_share cX10_share 4 (some .int) ∈ BIG := big_in 597 (by decide +kernel) rfl
theorem wm_X10_245 : Cond.methodLink RX10 245 yX10_groupsOf ∈ BIG := big_in 598 (by decide +kernel) rfl
theorem wt_X10_groupsOf : Cond.static yX10_groupsOf ∈ BIG := big_in 599 (by decide +kernel) rfl
theorem wc_X10_groupsOf : Cond.code yX10_groupsOf cX10_groupsOf 1 (some .int) ∈ BIG := big_in 600 (by decide +kernel) rfl
theorem wm_L_84 : Cond.methodLink RL 84 yX10_risk ∈ BIG := big_in 601 (by decide +kernel) rfl
theorem wi_X10_risk : Cond.instanceMethod yX10_risk ∈ BIG := big_in 602 (by decide +kernel) rfl
theorem ws_X10_risk : Cond.selects RX10 yX10_risk yX10_risk ∈ BIG := big_in 603 (by decide +kernel) rfl
theorem wc_X10_risk : Cond.code yX10_risk cX10_risk 3 (some .int) ∈ BIG := big_in 604 (by decide +kernel) rfl
theorem wm_X10_258 : Cond.methodLink RX10 258 yX10_riskOf ∈ BIG := big_in 605 (by decide +kernel) rfl
theorem wi_X10_riskOf : Cond.instanceMethod yX10_riskOf ∈ BIG := big_in 607 (by decide +kernel) rfl
theorem wc_X10_riskOf : Cond.code yX10_riskOf cX10_riskOf 4 (some .int) ∈ BIG := big_in 608 (by decide +kernel) rfl
theorem wm_X10_368 : Cond.methodLink RX10 368 yX10_holdsInFleet ∈ BIG := big_in 609 (by decide +kernel) rfl
theorem wi_X10_holdsInFleet : Cond.instanceMethod yX10_holdsInFleet ∈ BIG := big_in 611 (by decide +kernel) rfl
theorem wc_X10_holdsInFleet : Cond.code yX10_holdsInFleet cX10_holdsInFleet 8 (some .int) ∈ BIG := big_in 612 (by decide +kernel) rfl
theorem wm_X10_371 : Cond.methodLink RX10 371 yJ9_min_7cf53 ∈ BIG := big_in 613 (by decide +kernel) rfl
theorem wt_J9_min_7cf53 : Cond.static yJ9_min_7cf53 ∈ BIG := big_in 614 (by decide +kernel) rfl
theorem wc_J9_min_7cf53 : Cond.code yJ9_min_7cf53 cJ9_min_7cf53 2 (some .int) ∈ BIG := big_in 615 (by decide +kernel) rfl
theorem wm_L_88 : Cond.methodLink RL 88 yX10_board ∈ BIG := big_in 616 (by decide +kernel) rfl
theorem wi_X10_board : Cond.instanceMethod yX10_board ∈ BIG := big_in 617 (by decide +kernel) rfl
theorem ws_X10_board : Cond.selects RX10 yX10_board yX10_board ∈ BIG := big_in 618 (by decide +kernel) rfl
theorem wc_X10_board : Cond.code yX10_board cX10_board 5 (some .int) ∈ BIG := big_in 619 (by decide +kernel) rfl
theorem wm_X10_262 : Cond.methodLink RX10 262 yX10_areHours ∈ BIG := big_in 620 (by decide +kernel) rfl
theorem wt_X10_areHours : Cond.static yX10_areHours ∈ BIG := big_in 621 (by decide +kernel) rfl
theorem wc_X10_areHours : Cond.code yX10_areHours cX10_areHours 1 (some .boolean) ∈ BIG := big_in 622 (by decide +kernel) rfl
theorem wm_X10_265 : Cond.methodLink RX10 265 yX10_gatherBoarding ∈ BIG := big_in 623 (by decide +kernel) rfl
theorem wi_X10_gatherBoarding : Cond.instanceMethod yX10_gatherBoarding ∈ BIG := big_in 625 (by decide +kernel) rfl
theorem wc_X10_gatherBoarding : Cond.code yX10_gatherBoarding cX10_gatherBoarding 4 none ∈ BIG := big_in 626 (by decide +kernel) rfl
theorem wm_X10_379 : Cond.methodLink RX10 379 yX0_add ∈ BIG := big_in 627 (by decide +kernel) rfl
theorem wi_X0_add : Cond.instanceMethod yX0_add ∈ BIG := big_in 628 (by decide +kernel) rfl
theorem ws_X0_add : Cond.selects RX0 yX0_add yX0_add ∈ BIG := big_in 629 (by decide +kernel) rfl
theorem wc_X0_add : Cond.code yX0_add cX0_add 4 none ∈ BIG := big_in 630 (by decide +kernel) rfl
theorem wm_X10_268 : Cond.methodLink RX10 268 yX0_placeOf ∈ BIG := big_in 631 (by decide +kernel) rfl
theorem wi_X0_placeOf : Cond.instanceMethod yX0_placeOf ∈ BIG := big_in 632 (by decide +kernel) rfl
theorem ws_X0_placeOf : Cond.selects RX0 yX0_placeOf yX0_placeOf ∈ BIG := big_in 633 (by decide +kernel) rfl
theorem wc_X0_placeOf : Cond.code yX0_placeOf cX0_placeOf 3 (some .int) ∈ BIG := big_in 634 (by decide +kernel) rfl
theorem wm_X10_271 : Cond.methodLink RX10 271 yX0_settle ∈ BIG := big_in 635 (by decide +kernel) rfl
theorem wi_X0_settle : Cond.instanceMethod yX0_settle ∈ BIG := big_in 636 (by decide +kernel) rfl
theorem ws_X0_settle : Cond.selects RX0 yX0_settle yX0_settle ∈ BIG := big_in 637 (by decide +kernel) rfl
theorem wc_X0_settle : Cond.code yX0_settle cX0_settle 5 none ∈ BIG := big_in 638 (by decide +kernel) rfl
theorem wm_X0_34 : Cond.methodLink RX0 34 yX0_attempt ∈ BIG := big_in 639 (by decide +kernel) rfl
theorem wi_X0_attempt : Cond.instanceMethod yX0_attempt ∈ BIG := big_in 641 (by decide +kernel) rfl
theorem wc_X0_attempt : Cond.code yX0_attempt cX0_attempt 8 none ∈ BIG := big_in 642 (by decide +kernel) rfl
theorem wnat : Cond.native ⟨"java/lang/System", "arraycopy", "(Ljava/lang/Object;ILjava/lang/Object;II)V"⟩ ∈ BIG := big_in 645 (by decide +kernel) rfl
theorem wm_L_92 : Cond.methodLink RL 92 yX10_rest ∈ BIG := big_in 646 (by decide +kernel) rfl
theorem wi_X10_rest : Cond.instanceMethod yX10_rest ∈ BIG := big_in 647 (by decide +kernel) rfl
theorem ws_X10_rest : Cond.selects RX10 yX10_rest yX10_rest ∈ BIG := big_in 648 (by decide +kernel) rfl
theorem wc_X10_rest : Cond.code yX10_rest cX10_rest 4 (some .int) ∈ BIG := big_in 649 (by decide +kernel) rfl
theorem wv_X10_280 : Cond.constant RX10 280 (nI 16777216) ∈ BIG := big_in 650 (by decide +kernel) rfl
theorem wm_X10_285 : Cond.methodLink RX10 285 yX4_putDay ∈ BIG := big_in 651 (by decide +kernel) rfl
theorem wi_X4_putDay : Cond.instanceMethod yX4_putDay ∈ BIG := big_in 652 (by decide +kernel) rfl
theorem ws_X4_putDay : Cond.selects RX4 yX4_putDay yX4_putDay ∈ BIG := big_in 653 (by decide +kernel) rfl
theorem wc_X4_putDay : Cond.code yX4_putDay cX4_putDay 3 none ∈ BIG := big_in 654 (by decide +kernel) rfl
theorem wm_X10_290 : Cond.methodLink RX10 290 yX4_hoursOfRest ∈ BIG := big_in 655 (by decide +kernel) rfl
theorem wi_X4_hoursOfRest : Cond.instanceMethod yX4_hoursOfRest ∈ BIG := big_in 656 (by decide +kernel) rfl
theorem ws_X4_hoursOfRest : Cond.selects RX4 yX4_hoursOfRest yX4_hoursOfRest ∈ BIG := big_in 657 (by decide +kernel) rfl
theorem wc_X4_hoursOfRest : Cond.code yX4_hoursOfRest cX4_hoursOfRest 3 (some .int) ∈ BIG := big_in 658 (by decide +kernel) rfl
theorem wm_X4_15 : Cond.methodLink RX4 15 yJ6_bitCount_0f7a4 ∈ BIG := big_in 659 (by decide +kernel) rfl
theorem wt_J6_bitCount_0f7a4 : Cond.static yJ6_bitCount_0f7a4 ∈ BIG := big_in 660 (by decide +kernel) rfl
theorem wc_J6_bitCount_0f7a4 : Cond.code yJ6_bitCount_0f7a4 cJ6_bitCount_0f7a4 1 (some .int) ∈ BIG := big_in 661 (by decide +kernel) rfl
theorem wv_J6_265 : Cond.constant RJ6 265 (nI 1431655765) ∈ BIG := big_in 662 (by decide +kernel) rfl
theorem wv_J6_266 : Cond.constant RJ6 266 (nI 858993459) ∈ BIG := big_in 663 (by decide +kernel) rfl
theorem wv_J6_267 : Cond.constant RJ6 267 (nI 252645135) ∈ BIG := big_in 664 (by decide +kernel) rfl
theorem wm_L_96 : Cond.methodLink RL 96 yX10_tired ∈ BIG := big_in 665 (by decide +kernel) rfl
theorem wi_X10_tired : Cond.instanceMethod yX10_tired ∈ BIG := big_in 666 (by decide +kernel) rfl
theorem ws_X10_tired : Cond.selects RX10 yX10_tired yX10_tired ∈ BIG := big_in 667 (by decide +kernel) rfl
theorem wc_X10_tired : Cond.code yX10_tired cX10_tired 5 (some .int) ∈ BIG := big_in 668 (by decide +kernel) rfl
theorem wm_X10_294 : Cond.methodLink RX10 294 yX4_firstWrong ∈ BIG := big_in 669 (by decide +kernel) rfl
theorem wi_X4_firstWrong : Cond.instanceMethod yX4_firstWrong ∈ BIG := big_in 670 (by decide +kernel) rfl
theorem ws_X4_firstWrong : Cond.selects RX4 yX4_firstWrong yX4_firstWrong ∈ BIG := big_in 671 (by decide +kernel) rfl
theorem wc_X4_firstWrong : Cond.code yX4_firstWrong cX4_firstWrong 3 (some .int) ∈ BIG := big_in 672 (by decide +kernel) rfl
theorem wm_X4_21 : Cond.methodLink RX4 21 yX4_restIn ∈ BIG := big_in 673 (by decide +kernel) rfl
theorem wi_X4_restIn : Cond.instanceMethod yX4_restIn ∈ BIG := big_in 674 (by decide +kernel) rfl
theorem ws_X4_restIn : Cond.selects RX4 yX4_restIn yX4_restIn ∈ BIG := big_in 675 (by decide +kernel) rfl
theorem wc_X4_restIn : Cond.code yX4_restIn cX4_restIn 2 (some .int) ∈ BIG := big_in 676 (by decide +kernel) rfl
theorem wm_L_100 : Cond.methodLink RL 100 yX10_months ∈ BIG := big_in 677 (by decide +kernel) rfl
theorem wi_X10_months : Cond.instanceMethod yX10_months ∈ BIG := big_in 678 (by decide +kernel) rfl
theorem ws_X10_months : Cond.selects RX10 yX10_months yX10_months ∈ BIG := big_in 679 (by decide +kernel) rfl
theorem wc_X10_months : Cond.code yX10_months cX10_months 3 (some .int) ∈ BIG := big_in 680 (by decide +kernel) rfl
theorem wm_L_104 : Cond.methodLink RL 104 yX10_banned ∈ BIG := big_in 681 (by decide +kernel) rfl
theorem wi_X10_banned : Cond.instanceMethod yX10_banned ∈ BIG := big_in 682 (by decide +kernel) rfl
theorem ws_X10_banned : Cond.selects RX10 yX10_banned yX10_banned ∈ BIG := big_in 683 (by decide +kernel) rfl
theorem wc_X10_banned : Cond.code yX10_banned cX10_banned 4 (some .int) ∈ BIG := big_in 684 (by decide +kernel) rfl
theorem wm_L_108 : Cond.methodLink RL 108 yX10_lift ∈ BIG := big_in 685 (by decide +kernel) rfl
theorem wi_X10_lift : Cond.instanceMethod yX10_lift ∈ BIG := big_in 686 (by decide +kernel) rfl
theorem ws_X10_lift : Cond.selects RX10 yX10_lift yX10_lift ∈ BIG := big_in 687 (by decide +kernel) rfl
theorem wc_X10_lift : Cond.code yX10_lift cX10_lift 3 (some .int) ∈ BIG := big_in 688 (by decide +kernel) rfl
theorem wm_L_112 : Cond.methodLink RL 112 yX10_were ∈ BIG := big_in 689 (by decide +kernel) rfl
theorem wi_X10_were : Cond.instanceMethod yX10_were ∈ BIG := big_in 690 (by decide +kernel) rfl
theorem ws_X10_were : Cond.selects RX10 yX10_were yX10_were ∈ BIG := big_in 691 (by decide +kernel) rfl
theorem wc_X10_were : Cond.code yX10_were cX10_were 6 (some .int) ∈ BIG := big_in 692 (by decide +kernel) rfl
theorem wm_X10_303 : Cond.methodLink RX10 303 yX2_isDoubleOf ∈ BIG := big_in 693 (by decide +kernel) rfl
theorem wi_X2_isDoubleOf : Cond.instanceMethod yX2_isDoubleOf ∈ BIG := big_in 694 (by decide +kernel) rfl
theorem ws_X2_isDoubleOf : Cond.selects RX2 yX2_isDoubleOf yX2_isDoubleOf ∈ BIG := big_in 695 (by decide +kernel) rfl
theorem wc_X2_isDoubleOf : Cond.code yX2_isDoubleOf cX2_isDoubleOf 2 (some .boolean) ∈ BIG := big_in 696 (by decide +kernel) rfl
theorem wm_X10_307 : Cond.methodLink RX10 307 yJ6_bitCount_0f7a4 ∈ BIG := big_in 697 (by decide +kernel) rfl
theorem wm_L_116 : Cond.methodLink RL 116 yX10_habit ∈ BIG := big_in 698 (by decide +kernel) rfl
theorem wi_X10_habit : Cond.instanceMethod yX10_habit ∈ BIG := big_in 699 (by decide +kernel) rfl
theorem ws_X10_habit : Cond.selects RX10 yX10_habit yX10_habit ∈ BIG := big_in 700 (by decide +kernel) rfl
theorem wc_X10_habit : Cond.code yX10_habit cX10_habit 8 (some .int) ∈ BIG := big_in 701 (by decide +kernel) rfl
theorem wm_L_120 : Cond.methodLink RL 120 yX10_draw ∈ BIG := big_in 702 (by decide +kernel) rfl
theorem wi_X10_draw : Cond.instanceMethod yX10_draw ∈ BIG := big_in 703 (by decide +kernel) rfl
theorem ws_X10_draw : Cond.selects RX10 yX10_draw yX10_draw ∈ BIG := big_in 704 (by decide +kernel) rfl
theorem wc_X10_draw : Cond.code yX10_draw cX10_draw 4 (some .int) ∈ BIG := big_in 705 (by decide +kernel) rfl
theorem wm_X10_312 : Cond.methodLink RX10 312 yX2_isDrawn ∈ BIG := big_in 706 (by decide +kernel) rfl
theorem wi_X2_isDrawn : Cond.instanceMethod yX2_isDrawn ∈ BIG := big_in 707 (by decide +kernel) rfl
theorem ws_X2_isDrawn : Cond.selects RX2 yX2_isDrawn yX2_isDrawn ∈ BIG := big_in 708 (by decide +kernel) rfl
theorem wc_X2_isDrawn : Cond.code yX2_isDrawn cX2_isDrawn 1 (some .boolean) ∈ BIG := big_in 709 (by decide +kernel) rfl
theorem wm_L_124 : Cond.methodLink RL 124 yX10_rate ∈ BIG := big_in 710 (by decide +kernel) rfl
theorem wi_X10_rate : Cond.instanceMethod yX10_rate ∈ BIG := big_in 711 (by decide +kernel) rfl
theorem ws_X10_rate : Cond.selects RX10 yX10_rate yX10_rate ∈ BIG := big_in 712 (by decide +kernel) rfl
theorem wc_X10_rate : Cond.code yX10_rate cX10_rate 6 (some .int) ∈ BIG := big_in 713 (by decide +kernel) rfl
theorem wm_L_129 : Cond.methodLink RL 129 yX10_tell ∈ BIG := big_in 714 (by decide +kernel) rfl
theorem wi_X10_tell : Cond.instanceMethod yX10_tell ∈ BIG := big_in 715 (by decide +kernel) rfl
theorem ws_X10_tell : Cond.selects RX10 yX10_tell yX10_tell ∈ BIG := big_in 716 (by decide +kernel) rfl
theorem wc_X10_tell : Cond.code yX10_tell cX10_tell 2 (some .int) ∈ BIG := big_in 717 (by decide +kernel) rfl
theorem wm_L_133 : Cond.methodLink RL 133 yX10_check ∈ BIG := big_in 718 (by decide +kernel) rfl
theorem wi_X10_check : Cond.instanceMethod yX10_check ∈ BIG := big_in 719 (by decide +kernel) rfl
theorem ws_X10_check : Cond.selects RX10 yX10_check yX10_check ∈ BIG := big_in 720 (by decide +kernel) rfl
theorem wc_X10_check : Cond.code yX10_check cX10_check 4 (some .int) ∈ BIG := big_in 721 (by decide +kernel) rfl
theorem wm_L_137 : Cond.methodLink RL 137 yX10_count ∈ BIG := big_in 722 (by decide +kernel) rfl
theorem wi_X10_count : Cond.instanceMethod yX10_count ∈ BIG := big_in 723 (by decide +kernel) rfl
theorem ws_X10_count : Cond.selects RX10 yX10_count yX10_count ∈ BIG := big_in 724 (by decide +kernel) rfl
theorem wc_X10_count : Cond.code yX10_count cX10_count 2 (some .int) ∈ BIG := big_in 725 (by decide +kernel) rfl
theorem wm_X10_324 : Cond.methodLink RX10 324 yX10_shipsInPorts ∈ BIG := big_in 726 (by decide +kernel) rfl
theorem wi_X10_shipsInPorts : Cond.instanceMethod yX10_shipsInPorts ∈ BIG := big_in 728 (by decide +kernel) rfl
theorem wc_X10_shipsInPorts : Cond.code yX10_shipsInPorts cX10_shipsInPorts 3 (some .int) ∈ BIG := big_in 729 (by decide +kernel) rfl
theorem wm_X10_327 : Cond.methodLink RX10 327 yX10_heldCalls ∈ BIG := big_in 730 (by decide +kernel) rfl
theorem wi_X10_heldCalls : Cond.instanceMethod yX10_heldCalls ∈ BIG := big_in 732 (by decide +kernel) rfl
theorem wc_X10_heldCalls : Cond.code yX10_heldCalls cX10_heldCalls 3 (some .int) ∈ BIG := big_in 733 (by decide +kernel) rfl
theorem wm_X10_330 : Cond.methodLink RX10 330 yX10_bannedShips ∈ BIG := big_in 734 (by decide +kernel) rfl
theorem wi_X10_bannedShips : Cond.instanceMethod yX10_bannedShips ∈ BIG := big_in 736 (by decide +kernel) rfl
theorem wc_X10_bannedShips : Cond.code yX10_bannedShips cX10_bannedShips 3 (some .int) ∈ BIG := big_in 737 (by decide +kernel) rfl
theorem wm_L_141 : Cond.methodLink RL 141 yX10_found ∈ BIG := big_in 738 (by decide +kernel) rfl
theorem wi_X10_found : Cond.instanceMethod yX10_found ∈ BIG := big_in 739 (by decide +kernel) rfl
theorem ws_X10_found : Cond.selects RX10 yX10_found yX10_found ∈ BIG := big_in 740 (by decide +kernel) rfl
theorem wc_X10_found : Cond.code yX10_found cX10_found 2 (some .int) ∈ BIG := big_in 741 (by decide +kernel) rfl
theorem wk_L_10 : Cond.classLink RL 10 RX11 ∈ BIG := big_in 742 (by decide +kernel) rfl
theorem wx_X11 : Cond.instantiable RX11 48 ∈ BIG := big_in 743 (by decide +kernel) rfl
theorem wm_L_12 : Cond.methodLink RL 12 yX11_init ∈ BIG := big_in 744 (by decide +kernel) rfl
theorem wi_X11_init : Cond.instanceMethod yX11_init ∈ BIG := big_in 745 (by decide +kernel) rfl
theorem wc_X11_init : Cond.code yX11_init cX11_init 1 none ∈ BIG := big_in 746 (by decide +kernel) rfl
theorem wm_X11_1 : Cond.methodLink RX11 1 objectInit ∈ BIG := big_in 747 (by decide +kernel) rfl
theorem fl_X11_134 : FL RX11 134 11 0 := ⟨by decide, by decide, big_in 748 (by decide +kernel) rfl⟩
theorem fl_X11_121 : FL RX11 121 11 1 := ⟨by decide, by decide, big_in 749 (by decide +kernel) rfl⟩
theorem fl_X11_7 : FL RX11 7 11 2 := ⟨by decide, by decide, big_in 750 (by decide +kernel) rfl⟩
theorem fl_X11_13 : FL RX11 13 11 3 := ⟨by decide, by decide, big_in 751 (by decide +kernel) rfl⟩
theorem fl_X11_16 : FL RX11 16 11 4 := ⟨by decide, by decide, big_in 752 (by decide +kernel) rfl⟩
theorem fl_X11_19 : FL RX11 19 11 5 := ⟨by decide, by decide, big_in 753 (by decide +kernel) rfl⟩
theorem fl_X11_152 : FL RX11 152 11 6 := ⟨by decide, by decide, big_in 754 (by decide +kernel) rfl⟩
theorem fl_X11_22 : FL RX11 22 11 7 := ⟨by decide, by decide, big_in 755 (by decide +kernel) rfl⟩
theorem fl_X11_25 : FL RX11 25 11 8 := ⟨by decide, by decide, big_in 756 (by decide +kernel) rfl⟩
theorem fl_X11_28 : FL RX11 28 11 9 := ⟨by decide, by decide, big_in 757 (by decide +kernel) rfl⟩
theorem fl_X11_162 : FL RX11 162 11 10 := ⟨by decide, by decide, big_in 758 (by decide +kernel) rfl⟩
theorem fl_X11_31 : FL RX11 31 11 11 := ⟨by decide, by decide, big_in 759 (by decide +kernel) rfl⟩
theorem fl_X11_34 : FL RX11 34 11 12 := ⟨by decide, by decide, big_in 760 (by decide +kernel) rfl⟩
theorem fl_X11_128 : FL RX11 128 11 13 := ⟨by decide, by decide, big_in 761 (by decide +kernel) rfl⟩
theorem fl_X11_37 : FL RX11 37 11 14 := ⟨by decide, by decide, big_in 762 (by decide +kernel) rfl⟩
theorem fl_X11_40 : FL RX11 40 11 15 := ⟨by decide, by decide, big_in 763 (by decide +kernel) rfl⟩
theorem fl_X11_43 : FL RX11 43 11 16 := ⟨by decide, by decide, big_in 764 (by decide +kernel) rfl⟩
theorem fl_X11_46 : FL RX11 46 11 17 := ⟨by decide, by decide, big_in 765 (by decide +kernel) rfl⟩
theorem fl_X11_49 : FL RX11 49 11 18 := ⟨by decide, by decide, big_in 766 (by decide +kernel) rfl⟩
theorem fl_X11_181 : FL RX11 181 11 19 := ⟨by decide, by decide, big_in 767 (by decide +kernel) rfl⟩
theorem fl_X11_53 : FL RX11 53 11 20 := ⟨by decide, by decide, big_in 768 (by decide +kernel) rfl⟩
theorem fl_X11_193 : FL RX11 193 11 21 := ⟨by decide, by decide, big_in 769 (by decide +kernel) rfl⟩
theorem fl_X11_56 : FL RX11 56 11 22 := ⟨by decide, by decide, big_in 770 (by decide +kernel) rfl⟩
theorem fl_X11_59 : FL RX11 59 11 23 := ⟨by decide, by decide, big_in 771 (by decide +kernel) rfl⟩
theorem fl_X11_62 : FL RX11 62 11 24 := ⟨by decide, by decide, big_in 772 (by decide +kernel) rfl⟩
theorem fl_X11_65 : FL RX11 65 11 25 := ⟨by decide, by decide, big_in 773 (by decide +kernel) rfl⟩
theorem fl_X11_131 : FL RX11 131 11 26 := ⟨by decide, by decide, big_in 774 (by decide +kernel) rfl⟩
theorem fl_X11_68 : FL RX11 68 11 27 := ⟨by decide, by decide, big_in 775 (by decide +kernel) rfl⟩
end
section
theorem fl_X11_71 : FL RX11 71 11 28 := ⟨by decide, by decide, big_in 776 (by decide +kernel) rfl⟩
theorem fl_X11_74 : FL RX11 74 11 29 := ⟨by decide, by decide, big_in 777 (by decide +kernel) rfl⟩
theorem fl_X11_77 : FL RX11 77 11 30 := ⟨by decide, by decide, big_in 778 (by decide +kernel) rfl⟩
theorem fl_X11_80 : FL RX11 80 11 31 := ⟨by decide, by decide, big_in 779 (by decide +kernel) rfl⟩
theorem fl_X11_83 : FL RX11 83 11 32 := ⟨by decide, by decide, big_in 780 (by decide +kernel) rfl⟩
theorem fl_X11_264 : FL RX11 264 11 33 := ⟨by decide, by decide, big_in 781 (by decide +kernel) rfl⟩
theorem fl_X11_86 : FL RX11 86 11 34 := ⟨by decide, by decide, big_in 782 (by decide +kernel) rfl⟩
theorem fl_X11_89 : FL RX11 89 11 35 := ⟨by decide, by decide, big_in 783 (by decide +kernel) rfl⟩
theorem fl_X11_93 : FL RX11 93 11 36 := ⟨by decide, by decide, big_in 784 (by decide +kernel) rfl⟩
theorem fl_X11_96 : FL RX11 96 11 37 := ⟨by decide, by decide, big_in 785 (by decide +kernel) rfl⟩
theorem fl_X11_99 : FL RX11 99 11 38 := ⟨by decide, by decide, big_in 786 (by decide +kernel) rfl⟩
theorem fl_X11_267 : FL RX11 267 11 39 := ⟨by decide, by decide, big_in 787 (by decide +kernel) rfl⟩
theorem fl_X11_102 : FL RX11 102 11 40 := ⟨by decide, by decide, big_in 788 (by decide +kernel) rfl⟩
theorem fl_X11_105 : FL RX11 105 11 41 := ⟨by decide, by decide, big_in 789 (by decide +kernel) rfl⟩
theorem fl_X11_238 : FL RX11 238 11 42 := ⟨by decide, by decide, big_in 790 (by decide +kernel) rfl⟩
theorem fl_X11_108 : FL RX11 108 11 43 := ⟨by decide, by decide, big_in 791 (by decide +kernel) rfl⟩
theorem fl_X11_111 : FL RX11 111 11 44 := ⟨by decide, by decide, big_in 792 (by decide +kernel) rfl⟩
theorem fl_X11_114 : FL RX11 114 11 45 := ⟨by decide, by decide, big_in 793 (by decide +kernel) rfl⟩
theorem fl_X11_117 : FL RX11 117 11 46 := ⟨by decide, by decide, big_in 794 (by decide +kernel) rfl⟩
theorem fl_X11_241 : FL RX11 241 11 47 := ⟨by decide, by decide, big_in 795 (by decide +kernel) rfl⟩
theorem wa_boolean : Cond.arrayClass .boolean ∈ BIG := big_in 893 (by decide +kernel) rfl
theorem wm_L_17 : Cond.methodLink RL 17 yX11_ship ∈ BIG := big_in 894 (by decide +kernel) rfl
theorem wi_X11_ship : Cond.instanceMethod yX11_ship ∈ BIG := big_in 895 (by decide +kernel) rfl
theorem ws_X11_ship : Cond.selects RX11 yX11_ship yX11_ship ∈ BIG := big_in 896 (by decide +kernel) rfl
theorem wc_X11_ship : Cond.code yX11_ship cX11_ship 4 (some .int) ∈ BIG := big_in 897 (by decide +kernel) rfl
theorem wm_X11_124 : Cond.methodLink RX11 124 yX11_isIn ∈ BIG := big_in 898 (by decide +kernel) rfl
theorem wt_X11_isIn : Cond.static yX11_isIn ∈ BIG := big_in 899 (by decide +kernel) rfl
theorem wc_X11_isIn : Cond.code yX11_isIn cX11_isIn 3 (some .boolean) ∈ BIG := big_in 900 (by decide +kernel) rfl
theorem wm_X11_137 : Cond.methodLink RX11 137 yX11_finding ∈ BIG := big_in 901 (by decide +kernel) rfl
theorem wi_X11_finding : Cond.instanceMethod yX11_finding ∈ BIG := big_in 903 (by decide +kernel) rfl
theorem wc_X11_finding : Cond.code yX11_finding cX11_finding 2 (some .int) ∈ BIG := big_in 904 (by decide +kernel) rfl
theorem wv_X11_120 : Cond.constant RX11 120 ((-1000000)) ∈ BIG := big_in 905 (by decide +kernel) rfl
theorem wm_L_22 : Cond.methodLink RL 22 yX11_as ∈ BIG := big_in 906 (by decide +kernel) rfl
theorem wi_X11_as : Cond.instanceMethod yX11_as ∈ BIG := big_in 907 (by decide +kernel) rfl
theorem ws_X11_as : Cond.selects RX11 yX11_as yX11_as ∈ BIG := big_in 908 (by decide +kernel) rfl
theorem wc_X11_as : Cond.code yX11_as cX11_as 3 (some .int) ∈ BIG := big_in 909 (by decide +kernel) rfl
theorem wm_X11_141 : Cond.methodLink RX11 141 yX11_isShip ∈ BIG := big_in 910 (by decide +kernel) rfl
theorem wi_X11_isShip : Cond.instanceMethod yX11_isShip ∈ BIG := big_in 912 (by decide +kernel) rfl
theorem wc_X11_isShip : Cond.code yX11_isShip cX11_isShip 2 (some .boolean) ∈ BIG := big_in 913 (by decide +kernel) rfl
theorem wm_X11_145 : Cond.methodLink RX11 145 yX11_isUnder ∈ BIG := big_in 914 (by decide +kernel) rfl
theorem wi_X11_isUnder : Cond.instanceMethod yX11_isUnder ∈ BIG := big_in 916 (by decide +kernel) rfl
theorem wc_X11_isUnder : Cond.code yX11_isUnder cX11_isUnder 3 (some .boolean) ∈ BIG := big_in 917 (by decide +kernel) rfl
theorem wm_X11_149 : Cond.methodLink RX11 149 yX11_hoursOf ∈ BIG := big_in 918 (by decide +kernel) rfl
theorem wi_X11_hoursOf : Cond.instanceMethod yX11_hoursOf ∈ BIG := big_in 920 (by decide +kernel) rfl
theorem wc_X11_hoursOf : Cond.code yX11_hoursOf cX11_hoursOf 2 (some .int) ∈ BIG := big_in 921 (by decide +kernel) rfl
theorem wm_L_26 : Cond.methodLink RL 26 yX11_change ∈ BIG := big_in 922 (by decide +kernel) rfl
theorem wi_X11_change : Cond.instanceMethod yX11_change ∈ BIG := big_in 923 (by decide +kernel) rfl
theorem ws_X11_change : Cond.selects RX11 yX11_change yX11_change ∈ BIG := big_in 924 (by decide +kernel) rfl
theorem wc_X11_change : Cond.code yX11_change cX11_change 5 (some .int) ∈ BIG := big_in 925 (by decide +kernel) rfl
theorem wm_X11_155 : Cond.methodLink RX11 155 yX11_hadOn ∈ BIG := big_in 926 (by decide +kernel) rfl
theorem wi_X11_hadOn : Cond.instanceMethod yX11_hadOn ∈ BIG := big_in 928 (by decide +kernel) rfl
theorem wc_X11_hadOn : Cond.code yX11_hadOn cX11_hadOn 6 (some .int) ∈ BIG := big_in 929 (by decide +kernel) rfl
theorem wm_L_30 : Cond.methodLink RL 30 yX11_has ∈ BIG := big_in 930 (by decide +kernel) rfl
theorem wi_X11_has : Cond.instanceMethod yX11_has ∈ BIG := big_in 931 (by decide +kernel) rfl
theorem ws_X11_has : Cond.selects RX11 yX11_has yX11_has ∈ BIG := big_in 932 (by decide +kernel) rfl
theorem wc_X11_has : Cond.code yX11_has cX11_has 4 (some .int) ∈ BIG := big_in 933 (by decide +kernel) rfl
theorem wm_X11_159 : Cond.methodLink RX11 159 yX11_isDay ∈ BIG := big_in 934 (by decide +kernel) rfl
theorem wt_X11_isDay : Cond.static yX11_isDay ∈ BIG := big_in 935 (by decide +kernel) rfl
theorem wc_X11_isDay : Cond.code yX11_isDay cX11_isDay 1 (some .boolean) ∈ BIG := big_in 936 (by decide +kernel) rfl
theorem wm_L_34 : Cond.methodLink RL 34 yX11_named ∈ BIG := big_in 937 (by decide +kernel) rfl
theorem wi_X11_named : Cond.instanceMethod yX11_named ∈ BIG := big_in 938 (by decide +kernel) rfl
theorem ws_X11_named : Cond.selects RX11 yX11_named yX11_named ∈ BIG := big_in 939 (by decide +kernel) rfl
theorem wc_X11_named : Cond.code yX11_named cX11_named 4 (some .int) ∈ BIG := big_in 940 (by decide +kernel) rfl
theorem wm_L_38 : Cond.methodLink RL 38 yX11_one ∈ BIG := big_in 941 (by decide +kernel) rfl
theorem wi_X11_one : Cond.instanceMethod yX11_one ∈ BIG := big_in 942 (by decide +kernel) rfl
theorem ws_X11_one : Cond.selects RX11 yX11_one yX11_one ∈ BIG := big_in 943 (by decide +kernel) rfl
theorem wc_X11_one : Cond.code yX11_one cX11_one 3 (some .int) ∈ BIG := big_in 944 (by decide +kernel) rfl
theorem wm_L_42 : Cond.methodLink RL 42 yX11_fleet ∈ BIG := big_in 945 (by decide +kernel) rfl
theorem wi_X11_fleet : Cond.instanceMethod yX11_fleet ∈ BIG := big_in 946 (by decide +kernel) rfl
theorem ws_X11_fleet : Cond.selects RX11 yX11_fleet yX11_fleet ∈ BIG := big_in 947 (by decide +kernel) rfl
theorem wc_X11_fleet : Cond.code yX11_fleet cX11_fleet 3 (some .int) ∈ BIG := big_in 948 (by decide +kernel) rfl
theorem wm_X11_168 : Cond.methodLink RX11 168 yX11_fleetOf ∈ BIG := big_in 949 (by decide +kernel) rfl
theorem wi_X11_fleetOf : Cond.instanceMethod yX11_fleetOf ∈ BIG := big_in 951 (by decide +kernel) rfl
theorem wc_X11_fleetOf : Cond.code yX11_fleetOf cX11_fleetOf 6 (some .int) ∈ BIG := big_in 952 (by decide +kernel) rfl
theorem wm_X11_165 : Cond.methodLink RX11 165 yX11_onesOf ∈ BIG := big_in 953 (by decide +kernel) rfl
theorem wi_X11_onesOf : Cond.instanceMethod yX11_onesOf ∈ BIG := big_in 955 (by decide +kernel) rfl
theorem wc_X11_onesOf : Cond.code yX11_onesOf cX11_onesOf 6 (some .int) ∈ BIG := big_in 956 (by decide +kernel) rfl
theorem wm_L_47 : Cond.methodLink RL 47 yX11_day ∈ BIG := big_in 957 (by decide +kernel) rfl
theorem wi_X11_day : Cond.instanceMethod yX11_day ∈ BIG := big_in 958 (by decide +kernel) rfl
theorem ws_X11_day : Cond.selects RX11 yX11_day yX11_day ∈ BIG := big_in 959 (by decide +kernel) rfl
theorem wc_X11_day : Cond.code yX11_day cX11_day 3 (some .int) ∈ BIG := big_in 960 (by decide +kernel) rfl
theorem wm_L_51 : Cond.methodLink RL 51 yX11_call ∈ BIG := big_in 961 (by decide +kernel) rfl
theorem wi_X11_call : Cond.instanceMethod yX11_call ∈ BIG := big_in 962 (by decide +kernel) rfl
theorem ws_X11_call : Cond.selects RX11 yX11_call yX11_call ∈ BIG := big_in 963 (by decide +kernel) rfl
theorem wc_X11_call : Cond.code yX11_call cX11_call 3 (some .int) ∈ BIG := big_in 964 (by decide +kernel) rfl
theorem wm_X11_172 : Cond.methodLink RX11 172 yX11_openCall ∈ BIG := big_in 965 (by decide +kernel) rfl
theorem wi_X11_openCall : Cond.instanceMethod yX11_openCall ∈ BIG := big_in 967 (by decide +kernel) rfl
theorem wc_X11_openCall : Cond.code yX11_openCall cX11_openCall 4 (some .int) ∈ BIG := big_in 968 (by decide +kernel) rfl
theorem wm_L_55 : Cond.methodLink RL 55 yX11_leave ∈ BIG := big_in 969 (by decide +kernel) rfl
theorem wi_X11_leave : Cond.instanceMethod yX11_leave ∈ BIG := big_in 970 (by decide +kernel) rfl
theorem ws_X11_leave : Cond.selects RX11 yX11_leave yX11_leave ∈ BIG := big_in 971 (by decide +kernel) rfl
theorem wc_X11_leave : Cond.code yX11_leave cX11_leave 2 (some .int) ∈ BIG := big_in 972 (by decide +kernel) rfl
theorem wm_X11_175 : Cond.methodLink RX11 175 yX11_isCall ∈ BIG := big_in 973 (by decide +kernel) rfl
theorem wi_X11_isCall : Cond.instanceMethod yX11_isCall ∈ BIG := big_in 975 (by decide +kernel) rfl
theorem wc_X11_isCall : Cond.code yX11_isCall cX11_isCall 2 (some .boolean) ∈ BIG := big_in 976 (by decide +kernel) rfl
theorem wm_L_59 : Cond.methodLink RL 59 yX11_of ∈ BIG := big_in 977 (by decide +kernel) rfl
theorem wi_X11_of : Cond.instanceMethod yX11_of ∈ BIG := big_in 978 (by decide +kernel) rfl
theorem ws_X11_of : Cond.selects RX11 yX11_of yX11_of ∈ BIG := big_in 979 (by decide +kernel) rfl
theorem wc_X11_of : Cond.code yX11_of cX11_of 3 (some .int) ∈ BIG := big_in 980 (by decide +kernel) rfl
theorem wm_X11_178 : Cond.methodLink RX11 178 yX11_looksAt ∈ BIG := big_in 981 (by decide +kernel) rfl
theorem wi_X11_looksAt : Cond.instanceMethod yX11_looksAt ∈ BIG := big_in 983 (by decide +kernel) rfl
theorem wc_X11_looksAt : Cond.code yX11_looksAt cX11_looksAt 4 (some .int) ∈ BIG := big_in 984 (by decide +kernel) rfl
theorem wm_L_63 : Cond.methodLink RL 63 yX11_feed ∈ BIG := big_in 985 (by decide +kernel) rfl
theorem wi_X11_feed : Cond.instanceMethod yX11_feed ∈ BIG := big_in 986 (by decide +kernel) rfl
theorem ws_X11_feed : Cond.selects RX11 yX11_feed yX11_feed ∈ BIG := big_in 987 (by decide +kernel) rfl
theorem wc_X11_feed : Cond.code yX11_feed cX11_feed 2 (some .int) ∈ BIG := big_in 988 (by decide +kernel) rfl
theorem wm_L_67 : Cond.methodLink RL 67 yX11_treaty ∈ BIG := big_in 989 (by decide +kernel) rfl
theorem wi_X11_treaty : Cond.instanceMethod yX11_treaty ∈ BIG := big_in 990 (by decide +kernel) rfl
theorem ws_X11_treaty : Cond.selects RX11 yX11_treaty yX11_treaty ∈ BIG := big_in 991 (by decide +kernel) rfl
theorem wc_X11_treaty : Cond.code yX11_treaty cX11_treaty 3 (some .int) ∈ BIG := big_in 992 (by decide +kernel) rfl
theorem wm_X11_206 : Cond.methodLink RX11 206 yX11_readAll ∈ BIG := big_in 993 (by decide +kernel) rfl
theorem wi_X11_readAll : Cond.instanceMethod yX11_readAll ∈ BIG := big_in 995 (by decide +kernel) rfl
theorem wc_X11_readAll : Cond.code yX11_readAll cX11_readAll 4 (some .int) ∈ BIG := big_in 996 (by decide +kernel) rfl
theorem wm_X11_196 : Cond.methodLink RX11 196 yX11_rowEnd ∈ BIG := big_in 997 (by decide +kernel) rfl
theorem wi_X11_rowEnd : Cond.instanceMethod yX11_rowEnd ∈ BIG := big_in 999 (by decide +kernel) rfl
theorem wc_X11_rowEnd : Cond.code yX11_rowEnd cX11_rowEnd 2 (some .int) ∈ BIG := big_in 1000 (by decide +kernel) rfl
theorem wm_X11_184 : Cond.methodLink RX11 184 yX11_isByte ∈ BIG := big_in 1001 (by decide +kernel) rfl
theorem wi_X11_isByte : Cond.instanceMethod yX11_isByte ∈ BIG := big_in 1003 (by decide +kernel) rfl
theorem wc_X11_isByte : Cond.code yX11_isByte cX11_isByte 3 (some .boolean) ∈ BIG := big_in 1004 (by decide +kernel) rfl
theorem wm_X11_187 : Cond.methodLink RX11 187 yX11_isDigit ∈ BIG := big_in 1005 (by decide +kernel) rfl
theorem wi_X11_isDigit : Cond.instanceMethod yX11_isDigit ∈ BIG := big_in 1007 (by decide +kernel) rfl
theorem wc_X11_isDigit : Cond.code yX11_isDigit cX11_isDigit 2 (some .boolean) ∈ BIG := big_in 1008 (by decide +kernel) rfl
theorem wm_X11_190 : Cond.methodLink RX11 190 yX11_kindAt ∈ BIG := big_in 1009 (by decide +kernel) rfl
theorem wi_X11_kindAt : Cond.instanceMethod yX11_kindAt ∈ BIG := big_in 1011 (by decide +kernel) rfl
theorem wc_X11_kindAt : Cond.code yX11_kindAt cX11_kindAt 2 (some .int) ∈ BIG := big_in 1012 (by decide +kernel) rfl
theorem wm_X11_199 : Cond.methodLink RX11 199 yX11_rowLeast ∈ BIG := big_in 1013 (by decide +kernel) rfl
theorem wi_X11_rowLeast : Cond.instanceMethod yX11_rowLeast ∈ BIG := big_in 1015 (by decide +kernel) rfl
theorem wc_X11_rowLeast : Cond.code yX11_rowLeast cX11_rowLeast 2 (some .int) ∈ BIG := big_in 1016 (by decide +kernel) rfl
theorem wm_X11_202 : Cond.methodLink RX11 202 yX11_rowTells ∈ BIG := big_in 1017 (by decide +kernel) rfl
theorem wi_X11_rowTells : Cond.instanceMethod yX11_rowTells ∈ BIG := big_in 1019 (by decide +kernel) rfl
theorem wc_X11_rowTells : Cond.code yX11_rowTells cX11_rowTells 8 none ∈ BIG := big_in 1020 (by decide +kernel) rfl
theorem wm_L_71 : Cond.methodLink RL 71 yX11_says ∈ BIG := big_in 1021 (by decide +kernel) rfl
theorem wi_X11_says : Cond.instanceMethod yX11_says ∈ BIG := big_in 1022 (by decide +kernel) rfl
theorem ws_X11_says : Cond.selects RX11 yX11_says yX11_says ∈ BIG := big_in 1023 (by decide +kernel) rfl
theorem wc_X11_says : Cond.code yX11_says cX11_says 4 (some .int) ∈ BIG := big_in 1024 (by decide +kernel) rfl
theorem wm_X11_210 : Cond.methodLink RX11 210 yX11_forceOn ∈ BIG := big_in 1025 (by decide +kernel) rfl
theorem wi_X11_forceOn : Cond.instanceMethod yX11_forceOn ∈ BIG := big_in 1027 (by decide +kernel) rfl
theorem wc_X11_forceOn : Cond.code yX11_forceOn cX11_forceOn 3 (some .int) ∈ BIG := big_in 1028 (by decide +kernel) rfl
theorem wm_L_75 : Cond.methodLink RL 75 yX11_look ∈ BIG := big_in 1029 (by decide +kernel) rfl
theorem wi_X11_look : Cond.instanceMethod yX11_look ∈ BIG := big_in 1030 (by decide +kernel) rfl
theorem ws_X11_look : Cond.selects RX11 yX11_look yX11_look ∈ BIG := big_in 1031 (by decide +kernel) rfl
theorem wc_X11_look : Cond.code yX11_look cX11_look 5 (some .int) ∈ BIG := big_in 1032 (by decide +kernel) rfl
theorem wm_X11_219 : Cond.methodLink RX11 219 yX11_wouldHold ∈ BIG := big_in 1033 (by decide +kernel) rfl
theorem wi_X11_wouldHold : Cond.instanceMethod yX11_wouldHold ∈ BIG := big_in 1035 (by decide +kernel) rfl
theorem wc_X11_wouldHold : Cond.code yX11_wouldHold cX11_wouldHold 6 (some .boolean) ∈ BIG := big_in 1036 (by decide +kernel) rfl
theorem wm_X11_222 : Cond.methodLink RX11 222 yX11_ban ∈ BIG := big_in 1037 (by decide +kernel) rfl
theorem wi_X11_ban : Cond.instanceMethod yX11_ban ∈ BIG := big_in 1039 (by decide +kernel) rfl
theorem wc_X11_ban : Cond.code yX11_ban cX11_ban 5 none ∈ BIG := big_in 1040 (by decide +kernel) rfl
theorem wm_X11_213 : Cond.methodLink RX11 213 yX11_darkOf ∈ BIG := big_in 1041 (by decide +kernel) rfl
theorem wi_X11_darkOf : Cond.instanceMethod yX11_darkOf ∈ BIG := big_in 1043 (by decide +kernel) rfl
theorem wc_X11_darkOf : Cond.code yX11_darkOf cX11_darkOf 13 (some .int) ∈ BIG := big_in 1044 (by decide +kernel) rfl
theorem wm_X11_229 : Cond.methodLink RX11 229 yX11_counted ∈ BIG := big_in 1045 (by decide +kernel) rfl
theorem wi_X11_counted : Cond.instanceMethod yX11_counted ∈ BIG := big_in 1047 (by decide +kernel) rfl
theorem wc_X11_counted : Cond.code yX11_counted cX11_counted 8 (some .int) ∈ BIG := big_in 1048 (by decide +kernel) rfl
theorem wm_X11_216 : Cond.methodLink RX11 216 yX11_shipOf ∈ BIG := big_in 1049 (by decide +kernel) rfl
theorem wi_X11_shipOf : Cond.instanceMethod yX11_shipOf ∈ BIG := big_in 1051 (by decide +kernel) rfl
theorem wc_X11_shipOf : Cond.code yX11_shipOf cX11_shipOf 2 (some .int) ∈ BIG := big_in 1052 (by decide +kernel) rfl
theorem wl_X11_233 : Cond.constantLong RX11 233 4 ∈ BIG := big_in 1053 (by decide +kernel) rfl
theorem wm_L_79 : Cond.methodLink RL 79 yX11_told ∈ BIG := big_in 1054 (by decide +kernel) rfl
theorem wi_X11_told : Cond.instanceMethod yX11_told ∈ BIG := big_in 1055 (by decide +kernel) rfl
theorem ws_X11_told : Cond.selects RX11 yX11_told yX11_told ∈ BIG := big_in 1056 (by decide +kernel) rfl
theorem wc_X11_told : Cond.code yX11_told cX11_told 3 (some .int) ∈ BIG := big_in 1057 (by decide +kernel) rfl
theorem wm_X11_226 : Cond.methodLink RX11 226 yX11_isLook ∈ BIG := big_in 1058 (by decide +kernel) rfl
theorem wi_X11_isLook : Cond.instanceMethod yX11_isLook ∈ BIG := big_in 1060 (by decide +kernel) rfl
theorem wc_X11_isLook : Cond.code yX11_isLook cX11_isLook 2 (some .boolean) ∈ BIG := big_in 1061 (by decide +kernel) rfl
theorem wm_L_83 : Cond.methodLink RL 83 yX11_share ∈ BIG := big_in 1062 (by decide +kernel) rfl
theorem wi_X11_share : Cond.instanceMethod yX11_share ∈ BIG := big_in 1063 (by decide +kernel) rfl
theorem ws_X11_share : Cond.selects RX11 yX11_share yX11_share ∈ BIG := big_in 1064 (by decide +kernel) rfl
theorem wc_X11_share : Cond.code yX11_share cX11_share 4 (some .int) ∈ BIG := big_in 1065 (by decide +kernel) rfl
theorem wm_L_87 : Cond.methodLink RL 87 yX11_risk ∈ BIG := big_in 1066 (by decide +kernel) rfl
theorem wi_X11_risk : Cond.instanceMethod yX11_risk ∈ BIG := big_in 1067 (by decide +kernel) rfl
theorem ws_X11_risk : Cond.selects RX11 yX11_risk yX11_risk ∈ BIG := big_in 1068 (by decide +kernel) rfl
theorem wc_X11_risk : Cond.code yX11_risk cX11_risk 2 (some .int) ∈ BIG := big_in 1069 (by decide +kernel) rfl
theorem wm_X11_235 : Cond.methodLink RX11 235 yX11_riskOf ∈ BIG := big_in 1070 (by decide +kernel) rfl
theorem wi_X11_riskOf : Cond.instanceMethod yX11_riskOf ∈ BIG := big_in 1072 (by decide +kernel) rfl
theorem wc_X11_riskOf : Cond.code yX11_riskOf cX11_riskOf 8 (some .int) ∈ BIG := big_in 1073 (by decide +kernel) rfl
theorem wm_L_91 : Cond.methodLink RL 91 yX11_board ∈ BIG := big_in 1074 (by decide +kernel) rfl
theorem wi_X11_board : Cond.instanceMethod yX11_board ∈ BIG := big_in 1075 (by decide +kernel) rfl
theorem ws_X11_board : Cond.selects RX11 yX11_board yX11_board ∈ BIG := big_in 1076 (by decide +kernel) rfl
theorem wc_X11_board : Cond.code yX11_board cX11_board 5 (some .int) ∈ BIG := big_in 1077 (by decide +kernel) rfl
theorem wm_X11_248 : Cond.methodLink RX11 248 yX11_gather ∈ BIG := big_in 1078 (by decide +kernel) rfl
theorem wi_X11_gather : Cond.instanceMethod yX11_gather ∈ BIG := big_in 1080 (by decide +kernel) rfl
theorem wc_X11_gather : Cond.code yX11_gather cX11_gather 4 none ∈ BIG := big_in 1081 (by decide +kernel) rfl
theorem wm_X11_244 : Cond.methodLink RX11 244 yX11_tryFrom ∈ BIG := big_in 1082 (by decide +kernel) rfl
theorem wi_X11_tryFrom : Cond.instanceMethod yX11_tryFrom ∈ BIG := big_in 1084 (by decide +kernel) rfl
theorem wc_X11_tryFrom : Cond.code yX11_tryFrom cX11_tryFrom 6 none ∈ BIG := big_in 1085 (by decide +kernel) rfl
theorem wm_L_95 : Cond.methodLink RL 95 yX11_rest ∈ BIG := big_in 1086 (by decide +kernel) rfl
theorem wi_X11_rest : Cond.instanceMethod yX11_rest ∈ BIG := big_in 1087 (by decide +kernel) rfl
theorem ws_X11_rest : Cond.selects RX11 yX11_rest yX11_rest ∈ BIG := big_in 1088 (by decide +kernel) rfl
theorem wc_X11_rest : Cond.code yX11_rest cX11_rest 4 (some .int) ∈ BIG := big_in 1089 (by decide +kernel) rfl
theorem wv_X11_254 : Cond.constant RX11 254 (nI 16777215) ∈ BIG := big_in 1090 (by decide +kernel) rfl
theorem wm_X11_255 : Cond.methodLink RX11 255 yX11_restIn ∈ BIG := big_in 1091 (by decide +kernel) rfl
theorem wi_X11_restIn : Cond.instanceMethod yX11_restIn ∈ BIG := big_in 1093 (by decide +kernel) rfl
theorem wc_X11_restIn : Cond.code yX11_restIn cX11_restIn 6 (some .int) ∈ BIG := big_in 1094 (by decide +kernel) rfl
theorem wm_X11_251 : Cond.methodLink RX11 251 yX11_isRest ∈ BIG := big_in 1095 (by decide +kernel) rfl
theorem wi_X11_isRest : Cond.instanceMethod yX11_isRest ∈ BIG := big_in 1097 (by decide +kernel) rfl
theorem wc_X11_isRest : Cond.code yX11_isRest cX11_isRest 3 (some .boolean) ∈ BIG := big_in 1098 (by decide +kernel) rfl
theorem wm_L_99 : Cond.methodLink RL 99 yX11_tired ∈ BIG := big_in 1099 (by decide +kernel) rfl
theorem wi_X11_tired : Cond.instanceMethod yX11_tired ∈ BIG := big_in 1100 (by decide +kernel) rfl
theorem ws_X11_tired : Cond.selects RX11 yX11_tired yX11_tired ∈ BIG := big_in 1101 (by decide +kernel) rfl
theorem wc_X11_tired : Cond.code yX11_tired cX11_tired 4 (some .int) ∈ BIG := big_in 1102 (by decide +kernel) rfl
theorem wm_L_103 : Cond.methodLink RL 103 yX11_months ∈ BIG := big_in 1103 (by decide +kernel) rfl
theorem wi_X11_months : Cond.instanceMethod yX11_months ∈ BIG := big_in 1104 (by decide +kernel) rfl
theorem ws_X11_months : Cond.selects RX11 yX11_months yX11_months ∈ BIG := big_in 1105 (by decide +kernel) rfl
theorem wc_X11_months : Cond.code yX11_months cX11_months 3 (some .int) ∈ BIG := big_in 1106 (by decide +kernel) rfl
theorem wm_L_107 : Cond.methodLink RL 107 yX11_banned ∈ BIG := big_in 1107 (by decide +kernel) rfl
theorem wi_X11_banned : Cond.instanceMethod yX11_banned ∈ BIG := big_in 1108 (by decide +kernel) rfl
theorem ws_X11_banned : Cond.selects RX11 yX11_banned yX11_banned ∈ BIG := big_in 1109 (by decide +kernel) rfl
theorem wc_X11_banned : Cond.code yX11_banned cX11_banned 3 (some .int) ∈ BIG := big_in 1110 (by decide +kernel) rfl
theorem wm_L_111 : Cond.methodLink RL 111 yX11_lift ∈ BIG := big_in 1111 (by decide +kernel) rfl
theorem wi_X11_lift : Cond.instanceMethod yX11_lift ∈ BIG := big_in 1112 (by decide +kernel) rfl
theorem ws_X11_lift : Cond.selects RX11 yX11_lift yX11_lift ∈ BIG := big_in 1113 (by decide +kernel) rfl
theorem wc_X11_lift : Cond.code yX11_lift cX11_lift 2 (some .int) ∈ BIG := big_in 1114 (by decide +kernel) rfl
theorem wm_L_115 : Cond.methodLink RL 115 yX11_were ∈ BIG := big_in 1115 (by decide +kernel) rfl
theorem wi_X11_were : Cond.instanceMethod yX11_were ∈ BIG := big_in 1116 (by decide +kernel) rfl
theorem ws_X11_were : Cond.selects RX11 yX11_were yX11_were ∈ BIG := big_in 1117 (by decide +kernel) rfl
theorem wc_X11_were : Cond.code yX11_were cX11_were 4 (some .int) ∈ BIG := big_in 1118 (by decide +kernel) rfl
theorem wm_X11_258 : Cond.methodLink RX11 258 yX11_areDoubles ∈ BIG := big_in 1119 (by decide +kernel) rfl
theorem wi_X11_areDoubles : Cond.instanceMethod yX11_areDoubles ∈ BIG := big_in 1121 (by decide +kernel) rfl
theorem wc_X11_areDoubles : Cond.code yX11_areDoubles cX11_areDoubles 3 (some .boolean) ∈ BIG := big_in 1122 (by decide +kernel) rfl
theorem wm_X11_261 : Cond.methodLink RX11 261 yX11_ones ∈ BIG := big_in 1123 (by decide +kernel) rfl
theorem wt_X11_ones : Cond.static yX11_ones ∈ BIG := big_in 1124 (by decide +kernel) rfl
theorem wc_X11_ones : Cond.code yX11_ones cX11_ones 3 (some .int) ∈ BIG := big_in 1125 (by decide +kernel) rfl
theorem wm_L_119 : Cond.methodLink RL 119 yX11_habit ∈ BIG := big_in 1126 (by decide +kernel) rfl
theorem wi_X11_habit : Cond.instanceMethod yX11_habit ∈ BIG := big_in 1127 (by decide +kernel) rfl
theorem ws_X11_habit : Cond.selects RX11 yX11_habit yX11_habit ∈ BIG := big_in 1128 (by decide +kernel) rfl
theorem wc_X11_habit : Cond.code yX11_habit cX11_habit 6 (some .int) ∈ BIG := big_in 1129 (by decide +kernel) rfl
theorem wm_L_123 : Cond.methodLink RL 123 yX11_draw ∈ BIG := big_in 1130 (by decide +kernel) rfl
theorem wi_X11_draw : Cond.instanceMethod yX11_draw ∈ BIG := big_in 1131 (by decide +kernel) rfl
theorem ws_X11_draw : Cond.selects RX11 yX11_draw yX11_draw ∈ BIG := big_in 1132 (by decide +kernel) rfl
theorem wc_X11_draw : Cond.code yX11_draw cX11_draw 3 (some .int) ∈ BIG := big_in 1133 (by decide +kernel) rfl
theorem wm_L_128 : Cond.methodLink RL 128 yX11_rate ∈ BIG := big_in 1134 (by decide +kernel) rfl
theorem wi_X11_rate : Cond.instanceMethod yX11_rate ∈ BIG := big_in 1135 (by decide +kernel) rfl
theorem ws_X11_rate : Cond.selects RX11 yX11_rate yX11_rate ∈ BIG := big_in 1136 (by decide +kernel) rfl
theorem wc_X11_rate : Cond.code yX11_rate cX11_rate 5 (some .int) ∈ BIG := big_in 1137 (by decide +kernel) rfl
theorem wm_L_132 : Cond.methodLink RL 132 yX11_tell ∈ BIG := big_in 1138 (by decide +kernel) rfl
theorem wi_X11_tell : Cond.instanceMethod yX11_tell ∈ BIG := big_in 1139 (by decide +kernel) rfl
theorem ws_X11_tell : Cond.selects RX11 yX11_tell yX11_tell ∈ BIG := big_in 1140 (by decide +kernel) rfl
theorem wc_X11_tell : Cond.code yX11_tell cX11_tell 2 (some .int) ∈ BIG := big_in 1141 (by decide +kernel) rfl
theorem wm_L_136 : Cond.methodLink RL 136 yX11_check ∈ BIG := big_in 1142 (by decide +kernel) rfl
theorem wi_X11_check : Cond.instanceMethod yX11_check ∈ BIG := big_in 1143 (by decide +kernel) rfl
theorem ws_X11_check : Cond.selects RX11 yX11_check yX11_check ∈ BIG := big_in 1144 (by decide +kernel) rfl
theorem wc_X11_check : Cond.code yX11_check cX11_check 3 (some .int) ∈ BIG := big_in 1145 (by decide +kernel) rfl
theorem wm_L_140 : Cond.methodLink RL 140 yX11_count ∈ BIG := big_in 1146 (by decide +kernel) rfl
theorem wi_X11_count : Cond.instanceMethod yX11_count ∈ BIG := big_in 1147 (by decide +kernel) rfl
theorem ws_X11_count : Cond.selects RX11 yX11_count yX11_count ∈ BIG := big_in 1148 (by decide +kernel) rfl
theorem wc_X11_count : Cond.code yX11_count cX11_count 4 (some .int) ∈ BIG := big_in 1149 (by decide +kernel) rfl
theorem wm_L_144 : Cond.methodLink RL 144 yX11_found ∈ BIG := big_in 1150 (by decide +kernel) rfl
theorem wi_X11_found : Cond.instanceMethod yX11_found ∈ BIG := big_in 1151 (by decide +kernel) rfl
theorem ws_X11_found : Cond.selects RX11 yX11_found yX11_found ∈ BIG := big_in 1152 (by decide +kernel) rfl
theorem wc_X11_found : Cond.code yX11_found cX11_found 2 (some .int) ∈ BIG := big_in 1153 (by decide +kernel) rfl
end
section
theorem lk_L_9 : clI RL 9 yX10_init cX10_init 1 0 := ⟨wm_L_9, wi_X10_init, wn_X10, wc_X10_init, ⟨by decide +kernel, by decide +kernel, by decide +kernel⟩, rfl⟩
theorem lk_L_12 : clI RL 12 yX11_init cX11_init 1 0 := ⟨wm_L_12, wi_X11_init, wn_X11, wc_X11_init, ⟨by decide +kernel, by decide +kernel, by decide +kernel⟩, rfl⟩
theorem lk_L_13 : clV RL 13 yX10_ship cX10_ship 4 (some .int) 3 := ⟨wm_L_13, wi_X10_ship, ws_X10_ship, wn_X10, wc_X10_ship, ⟨by decide +kernel, by decide +kernel, by decide +kernel⟩⟩
theorem lk_L_17 : clV RL 17 yX11_ship cX11_ship 4 (some .int) 3 := ⟨wm_L_17, wi_X11_ship, ws_X11_ship, wn_X11, wc_X11_ship, ⟨by decide +kernel, by decide +kernel, by decide +kernel⟩⟩
theorem lk_L_18 : clV RL 18 yX10_as cX10_as 4 (some .int) 2 := ⟨wm_L_18, wi_X10_as, ws_X10_as, wn_X10, wc_X10_as, ⟨by decide +kernel, by decide +kernel, by decide +kernel⟩⟩
theorem lk_L_22 : clV RL 22 yX11_as cX11_as 3 (some .int) 2 := ⟨wm_L_22, wi_X11_as, ws_X11_as, wn_X11, wc_X11_as, ⟨by decide +kernel, by decide +kernel, by decide +kernel⟩⟩
theorem lk_L_23 : clV RL 23 yX10_change cX10_change 6 (some .int) 3 := ⟨wm_L_23, wi_X10_change, ws_X10_change, wn_X10, wc_X10_change, ⟨by decide +kernel, by decide +kernel, by decide +kernel⟩⟩
theorem lk_L_26 : clV RL 26 yX11_change cX11_change 5 (some .int) 3 := ⟨wm_L_26, wi_X11_change, ws_X11_change, wn_X11, wc_X11_change, ⟨by decide +kernel, by decide +kernel, by decide +kernel⟩⟩
theorem lk_L_27 : clV RL 27 yX10_has cX10_has 5 (some .int) 3 := ⟨wm_L_27, wi_X10_has, ws_X10_has, wn_X10, wc_X10_has, ⟨by decide +kernel, by decide +kernel, by decide +kernel⟩⟩
theorem lk_L_30 : clV RL 30 yX11_has cX11_has 4 (some .int) 3 := ⟨wm_L_30, wi_X11_has, ws_X11_has, wn_X11, wc_X11_has, ⟨by decide +kernel, by decide +kernel, by decide +kernel⟩⟩
theorem lk_L_31 : clV RL 31 yX10_named cX10_named 4 (some .int) 2 := ⟨wm_L_31, wi_X10_named, ws_X10_named, wn_X10, wc_X10_named, ⟨by decide +kernel, by decide +kernel, by decide +kernel⟩⟩
theorem lk_L_34 : clV RL 34 yX11_named cX11_named 4 (some .int) 2 := ⟨wm_L_34, wi_X11_named, ws_X11_named, wn_X11, wc_X11_named, ⟨by decide +kernel, by decide +kernel, by decide +kernel⟩⟩
theorem lk_L_35 : clV RL 35 yX10_one cX10_one 3 (some .int) 2 := ⟨wm_L_35, wi_X10_one, ws_X10_one, wn_X10, wc_X10_one, ⟨by decide +kernel, by decide +kernel, by decide +kernel⟩⟩
theorem lk_L_38 : clV RL 38 yX11_one cX11_one 3 (some .int) 2 := ⟨wm_L_38, wi_X11_one, ws_X11_one, wn_X11, wc_X11_one, ⟨by decide +kernel, by decide +kernel, by decide +kernel⟩⟩
theorem lk_L_39 : clV RL 39 yX10_fleet cX10_fleet 3 (some .int) 2 := ⟨wm_L_39, wi_X10_fleet, ws_X10_fleet, wn_X10, wc_X10_fleet, ⟨by decide +kernel, by decide +kernel, by decide +kernel⟩⟩
theorem lk_L_42 : clV RL 42 yX11_fleet cX11_fleet 3 (some .int) 2 := ⟨wm_L_42, wi_X11_fleet, ws_X11_fleet, wn_X11, wc_X11_fleet, ⟨by decide +kernel, by decide +kernel, by decide +kernel⟩⟩
theorem lk_L_43 : clV RL 43 yX10_day cX10_day 3 (some .int) 1 := ⟨wm_L_43, wi_X10_day, ws_X10_day, wn_X10, wc_X10_day, ⟨by decide +kernel, by decide +kernel, by decide +kernel⟩⟩
theorem lk_L_47 : clV RL 47 yX11_day cX11_day 3 (some .int) 1 := ⟨wm_L_47, wi_X11_day, ws_X11_day, wn_X11, wc_X11_day, ⟨by decide +kernel, by decide +kernel, by decide +kernel⟩⟩
theorem lk_L_48 : clV RL 48 yX10_call cX10_call 5 (some .int) 2 := ⟨wm_L_48, wi_X10_call, ws_X10_call, wn_X10, wc_X10_call, ⟨by decide +kernel, by decide +kernel, by decide +kernel⟩⟩
theorem lk_L_51 : clV RL 51 yX11_call cX11_call 3 (some .int) 2 := ⟨wm_L_51, wi_X11_call, ws_X11_call, wn_X11, wc_X11_call, ⟨by decide +kernel, by decide +kernel, by decide +kernel⟩⟩
theorem lk_L_52 : clV RL 52 yX10_leave cX10_leave 3 (some .int) 1 := ⟨wm_L_52, wi_X10_leave, ws_X10_leave, wn_X10, wc_X10_leave, ⟨by decide +kernel, by decide +kernel, by decide +kernel⟩⟩
theorem lk_L_55 : clV RL 55 yX11_leave cX11_leave 2 (some .int) 1 := ⟨wm_L_55, wi_X11_leave, ws_X11_leave, wn_X11, wc_X11_leave, ⟨by decide +kernel, by decide +kernel, by decide +kernel⟩⟩
theorem lk_L_56 : clV RL 56 yX10_of cX10_of 4 (some .int) 2 := ⟨wm_L_56, wi_X10_of, ws_X10_of, wn_X10, wc_X10_of, ⟨by decide +kernel, by decide +kernel, by decide +kernel⟩⟩
theorem lk_L_59 : clV RL 59 yX11_of cX11_of 3 (some .int) 2 := ⟨wm_L_59, wi_X11_of, ws_X11_of, wn_X11, wc_X11_of, ⟨by decide +kernel, by decide +kernel, by decide +kernel⟩⟩
theorem lk_L_60 : clV RL 60 yX10_feed cX10_feed 2 (some .int) 1 := ⟨wm_L_60, wi_X10_feed, ws_X10_feed, wn_X10, wc_X10_feed, ⟨by decide +kernel, by decide +kernel, by decide +kernel⟩⟩
theorem lk_L_63 : clV RL 63 yX11_feed cX11_feed 2 (some .int) 1 := ⟨wm_L_63, wi_X11_feed, ws_X11_feed, wn_X11, wc_X11_feed, ⟨by decide +kernel, by decide +kernel, by decide +kernel⟩⟩
theorem lk_L_64 : clV RL 64 yX10_treaty cX10_treaty 4 (some .int) 1 := ⟨wm_L_64, wi_X10_treaty, ws_X10_treaty, wn_X10, wc_X10_treaty, ⟨by decide +kernel, by decide +kernel, by decide +kernel⟩⟩
theorem lk_L_67 : clV RL 67 yX11_treaty cX11_treaty 3 (some .int) 1 := ⟨wm_L_67, wi_X11_treaty, ws_X11_treaty, wn_X11, wc_X11_treaty, ⟨by decide +kernel, by decide +kernel, by decide +kernel⟩⟩
theorem lk_L_68 : clV RL 68 yX10_says cX10_says 6 (some .int) 2 := ⟨wm_L_68, wi_X10_says, ws_X10_says, wn_X10, wc_X10_says, ⟨by decide +kernel, by decide +kernel, by decide +kernel⟩⟩
theorem lk_L_71 : clV RL 71 yX11_says cX11_says 4 (some .int) 2 := ⟨wm_L_71, wi_X11_says, ws_X11_says, wn_X11, wc_X11_says, ⟨by decide +kernel, by decide +kernel, by decide +kernel⟩⟩
theorem lk_L_72 : clV RL 72 yX10_look cX10_look 7 (some .int) 3 := ⟨wm_L_72, wi_X10_look, ws_X10_look, wn_X10, wc_X10_look, ⟨by decide +kernel, by decide +kernel, by decide +kernel⟩⟩
theorem lk_L_75 : clV RL 75 yX11_look cX11_look 5 (some .int) 3 := ⟨wm_L_75, wi_X11_look, ws_X11_look, wn_X11, wc_X11_look, ⟨by decide +kernel, by decide +kernel, by decide +kernel⟩⟩
theorem lk_L_76 : clV RL 76 yX10_told cX10_told 4 (some .int) 2 := ⟨wm_L_76, wi_X10_told, ws_X10_told, wn_X10, wc_X10_told, ⟨by decide +kernel, by decide +kernel, by decide +kernel⟩⟩
theorem lk_L_79 : clV RL 79 yX11_told cX11_told 3 (some .int) 2 := ⟨wm_L_79, wi_X11_told, ws_X11_told, wn_X11, wc_X11_told, ⟨by decide +kernel, by decide +kernel, by decide +kernel⟩⟩
theorem lk_L_80 : clV RL 80 yX10_share cX10_share 4 (some .int) 3 := ⟨wm_L_80, wi_X10_share, ws_X10_share, wn_X10, wc_X10_share, ⟨by decide +kernel, by decide +kernel, by decide +kernel⟩⟩
theorem lk_L_83 : clV RL 83 yX11_share cX11_share 4 (some .int) 3 := ⟨wm_L_83, wi_X11_share, ws_X11_share, wn_X11, wc_X11_share, ⟨by decide +kernel, by decide +kernel, by decide +kernel⟩⟩
theorem lk_L_84 : clV RL 84 yX10_risk cX10_risk 3 (some .int) 1 := ⟨wm_L_84, wi_X10_risk, ws_X10_risk, wn_X10, wc_X10_risk, ⟨by decide +kernel, by decide +kernel, by decide +kernel⟩⟩
theorem lk_L_87 : clV RL 87 yX11_risk cX11_risk 2 (some .int) 1 := ⟨wm_L_87, wi_X11_risk, ws_X11_risk, wn_X11, wc_X11_risk, ⟨by decide +kernel, by decide +kernel, by decide +kernel⟩⟩
theorem lk_L_88 : clV RL 88 yX10_board cX10_board 5 (some .int) 3 := ⟨wm_L_88, wi_X10_board, ws_X10_board, wn_X10, wc_X10_board, ⟨by decide +kernel, by decide +kernel, by decide +kernel⟩⟩
theorem lk_L_91 : clV RL 91 yX11_board cX11_board 5 (some .int) 3 := ⟨wm_L_91, wi_X11_board, ws_X11_board, wn_X11, wc_X11_board, ⟨by decide +kernel, by decide +kernel, by decide +kernel⟩⟩
theorem lk_L_92 : clV RL 92 yX10_rest cX10_rest 4 (some .int) 2 := ⟨wm_L_92, wi_X10_rest, ws_X10_rest, wn_X10, wc_X10_rest, ⟨by decide +kernel, by decide +kernel, by decide +kernel⟩⟩
theorem lk_L_95 : clV RL 95 yX11_rest cX11_rest 4 (some .int) 2 := ⟨wm_L_95, wi_X11_rest, ws_X11_rest, wn_X11, wc_X11_rest, ⟨by decide +kernel, by decide +kernel, by decide +kernel⟩⟩
theorem lk_L_96 : clV RL 96 yX10_tired cX10_tired 5 (some .int) 2 := ⟨wm_L_96, wi_X10_tired, ws_X10_tired, wn_X10, wc_X10_tired, ⟨by decide +kernel, by decide +kernel, by decide +kernel⟩⟩
theorem lk_L_99 : clV RL 99 yX11_tired cX11_tired 4 (some .int) 2 := ⟨wm_L_99, wi_X11_tired, ws_X11_tired, wn_X11, wc_X11_tired, ⟨by decide +kernel, by decide +kernel, by decide +kernel⟩⟩
theorem lk_L_100 : clV RL 100 yX10_months cX10_months 3 (some .int) 1 := ⟨wm_L_100, wi_X10_months, ws_X10_months, wn_X10, wc_X10_months, ⟨by decide +kernel, by decide +kernel, by decide +kernel⟩⟩
theorem lk_L_103 : clV RL 103 yX11_months cX11_months 3 (some .int) 1 := ⟨wm_L_103, wi_X11_months, ws_X11_months, wn_X11, wc_X11_months, ⟨by decide +kernel, by decide +kernel, by decide +kernel⟩⟩
theorem lk_L_104 : clV RL 104 yX10_banned cX10_banned 4 (some .int) 2 := ⟨wm_L_104, wi_X10_banned, ws_X10_banned, wn_X10, wc_X10_banned, ⟨by decide +kernel, by decide +kernel, by decide +kernel⟩⟩
theorem lk_L_107 : clV RL 107 yX11_banned cX11_banned 3 (some .int) 2 := ⟨wm_L_107, wi_X11_banned, ws_X11_banned, wn_X11, wc_X11_banned, ⟨by decide +kernel, by decide +kernel, by decide +kernel⟩⟩
theorem lk_L_108 : clV RL 108 yX10_lift cX10_lift 3 (some .int) 1 := ⟨wm_L_108, wi_X10_lift, ws_X10_lift, wn_X10, wc_X10_lift, ⟨by decide +kernel, by decide +kernel, by decide +kernel⟩⟩
theorem lk_L_111 : clV RL 111 yX11_lift cX11_lift 2 (some .int) 1 := ⟨wm_L_111, wi_X11_lift, ws_X11_lift, wn_X11, wc_X11_lift, ⟨by decide +kernel, by decide +kernel, by decide +kernel⟩⟩
theorem lk_L_112 : clV RL 112 yX10_were cX10_were 6 (some .int) 2 := ⟨wm_L_112, wi_X10_were, ws_X10_were, wn_X10, wc_X10_were, ⟨by decide +kernel, by decide +kernel, by decide +kernel⟩⟩
theorem lk_L_115 : clV RL 115 yX11_were cX11_were 4 (some .int) 2 := ⟨wm_L_115, wi_X11_were, ws_X11_were, wn_X11, wc_X11_were, ⟨by decide +kernel, by decide +kernel, by decide +kernel⟩⟩
theorem lk_L_116 : clV RL 116 yX10_habit cX10_habit 8 (some .int) 1 := ⟨wm_L_116, wi_X10_habit, ws_X10_habit, wn_X10, wc_X10_habit, ⟨by decide +kernel, by decide +kernel, by decide +kernel⟩⟩
theorem lk_L_119 : clV RL 119 yX11_habit cX11_habit 6 (some .int) 1 := ⟨wm_L_119, wi_X11_habit, ws_X11_habit, wn_X11, wc_X11_habit, ⟨by decide +kernel, by decide +kernel, by decide +kernel⟩⟩
theorem lk_L_120 : clV RL 120 yX10_draw cX10_draw 4 (some .int) 2 := ⟨wm_L_120, wi_X10_draw, ws_X10_draw, wn_X10, wc_X10_draw, ⟨by decide +kernel, by decide +kernel, by decide +kernel⟩⟩
theorem lk_L_123 : clV RL 123 yX11_draw cX11_draw 3 (some .int) 2 := ⟨wm_L_123, wi_X11_draw, ws_X11_draw, wn_X11, wc_X11_draw, ⟨by decide +kernel, by decide +kernel, by decide +kernel⟩⟩
theorem lk_L_124 : clV RL 124 yX10_rate cX10_rate 6 (some .int) 0 := ⟨wm_L_124, wi_X10_rate, ws_X10_rate, wn_X10, wc_X10_rate, ⟨by decide +kernel, by decide +kernel, by decide +kernel⟩⟩
theorem lk_L_128 : clV RL 128 yX11_rate cX11_rate 5 (some .int) 0 := ⟨wm_L_128, wi_X11_rate, ws_X11_rate, wn_X11, wc_X11_rate, ⟨by decide +kernel, by decide +kernel, by decide +kernel⟩⟩
theorem lk_L_129 : clV RL 129 yX10_tell cX10_tell 2 (some .int) 1 := ⟨wm_L_129, wi_X10_tell, ws_X10_tell, wn_X10, wc_X10_tell, ⟨by decide +kernel, by decide +kernel, by decide +kernel⟩⟩
theorem lk_L_132 : clV RL 132 yX11_tell cX11_tell 2 (some .int) 1 := ⟨wm_L_132, wi_X11_tell, ws_X11_tell, wn_X11, wc_X11_tell, ⟨by decide +kernel, by decide +kernel, by decide +kernel⟩⟩
theorem lk_L_133 : clV RL 133 yX10_check cX10_check 4 (some .int) 0 := ⟨wm_L_133, wi_X10_check, ws_X10_check, wn_X10, wc_X10_check, ⟨by decide +kernel, by decide +kernel, by decide +kernel⟩⟩
theorem lk_L_136 : clV RL 136 yX11_check cX11_check 3 (some .int) 0 := ⟨wm_L_136, wi_X11_check, ws_X11_check, wn_X11, wc_X11_check, ⟨by decide +kernel, by decide +kernel, by decide +kernel⟩⟩
theorem lk_L_137 : clV RL 137 yX10_count cX10_count 2 (some .int) 1 := ⟨wm_L_137, wi_X10_count, ws_X10_count, wn_X10, wc_X10_count, ⟨by decide +kernel, by decide +kernel, by decide +kernel⟩⟩
theorem lk_L_140 : clV RL 140 yX11_count cX11_count 4 (some .int) 1 := ⟨wm_L_140, wi_X11_count, ws_X11_count, wn_X11, wc_X11_count, ⟨by decide +kernel, by decide +kernel, by decide +kernel⟩⟩
theorem lk_L_141 : clV RL 141 yX10_found cX10_found 2 (some .int) 1 := ⟨wm_L_141, wi_X10_found, ws_X10_found, wn_X10, wc_X10_found, ⟨by decide +kernel, by decide +kernel, by decide +kernel⟩⟩
theorem lk_L_144 : clV RL 144 yX11_found cX11_found 2 (some .int) 1 := ⟨wm_L_144, wi_X11_found, ws_X11_found, wn_X11, wc_X11_found, ⟨by decide +kernel, by decide +kernel, by decide +kernel⟩⟩
theorem lk_X0_34 : clV RX0 34 yX0_attempt cX0_attempt 8 none 5 := ⟨wm_X0_34, wi_X0_attempt, ws_X0_attempt, wn_X0, wc_X0_attempt, ⟨by decide +kernel, by decide +kernel, by decide +kernel⟩⟩
theorem lk_X10_72 : clS RX10 72 yX10_isKindAndClass cX10_isKindAndClass 1 (some .boolean) 1 := ⟨wm_X10_72, wt_X10_isKindAndClass, wn_X10, wc_X10_isKindAndClass, ⟨by decide +kernel, by decide +kernel, by decide +kernel⟩⟩
theorem lk_X10_76 : clS RX10 76 yX10_isNameOwnerAndFlag cX10_isNameOwnerAndFlag 1 (some .boolean) 1 := ⟨wm_X10_76, wt_X10_isNameOwnerAndFlag, wn_X10, wc_X10_isNameOwnerAndFlag, ⟨by decide +kernel, by decide +kernel, by decide +kernel⟩⟩
theorem lk_X10_82 : clV RX10 82 yX10_finding cX10_finding 2 (some .int) 1 := ⟨wm_X10_82, wi_X10_finding, ws_X10_finding, wn_X10, wc_X10_finding, ⟨by decide +kernel, by decide +kernel, by decide +kernel⟩⟩
theorem lk_X10_89 : clI RX10 89 yX5_init cX5_init 5 4 := ⟨wm_X10_89, wi_X5_init, wn_X5, wc_X5_init, ⟨by decide +kernel, by decide +kernel, by decide +kernel⟩, rfl⟩
theorem lk_X10_92 : clV RX10 92 yX10_shipAt cX10_shipAt 2 (some (.object RX5)) 1 := ⟨wm_X10_92, wi_X10_shipAt, ws_X10_shipAt, wn_X10, wc_X10_shipAt, ⟨by decide +kernel, by decide +kernel, by decide +kernel⟩⟩
theorem lk_X10_96 : clS RX10 96 yX10_isBelow cX10_isBelow 2 (some .boolean) 2 := ⟨wm_X10_96, wt_X10_isBelow, wn_X10, wc_X10_isBelow, ⟨by decide +kernel, by decide +kernel, by decide +kernel⟩⟩
theorem lk_X10_103 : clS RX10 103 yX10_isUnder cX10_isUnder 4 (some .boolean) 2 := ⟨wm_X10_103, wt_X10_isUnder, wn_X10, wc_X10_isUnder, ⟨by decide +kernel, by decide +kernel, by decide +kernel⟩⟩
theorem lk_X10_109 : clS RX10 109 yX10_valuesOf cX10_valuesOf 1 (some .int) 1 := ⟨wm_X10_109, wt_X10_valuesOf, wn_X10, wc_X10_valuesOf, ⟨by decide +kernel, by decide +kernel, by decide +kernel⟩⟩
theorem lk_X10_115 : clV RX10 115 yX5_traitOn cX5_traitOn 4 (some .int) 2 := ⟨wm_X10_115, wi_X5_traitOn, ws_X5_traitOn, wn_X5, wc_X5_traitOn, ⟨by decide +kernel, by decide +kernel, by decide +kernel⟩⟩
theorem lk_X10_119 : clV RX10 119 yX5_setTrait cX5_setTrait 4 none 3 := ⟨wm_X10_119, wi_X5_setTrait, ws_X5_setTrait, wn_X5, wc_X5_setTrait, ⟨by decide +kernel, by decide +kernel, by decide +kernel⟩⟩
theorem lk_X10_126 : clV RX10 126 yX3_join cX3_join 6 none 2 := ⟨wm_X10_126, wi_X3_join, ws_X3_join, wn_X3, wc_X3_join, ⟨by decide +kernel, by decide +kernel, by decide +kernel⟩⟩
theorem lk_X10_130 : clV RX10 130 yX10_fleetBits cX10_fleetBits 5 (some .int) 2 := ⟨wm_X10_130, wi_X10_fleetBits, ws_X10_fleetBits, wn_X10, wc_X10_fleetBits, ⟨by decide +kernel, by decide +kernel, by decide +kernel⟩⟩
theorem lk_X10_137 : clV RX10 137 yX5_isBanned cX5_isBanned 1 (some .boolean) 0 := ⟨wm_X10_137, wi_X5_isBanned, ws_X5_isBanned, wn_X5, wc_X5_isBanned, ⟨by decide +kernel, by decide +kernel, by decide +kernel⟩⟩
theorem lk_X10_144 : clI RX10 144 yX1_init cX1_init 5 4 := ⟨wm_X10_144, wi_X1_init, wn_X1, wc_X1_init, ⟨by decide +kernel, by decide +kernel, by decide +kernel⟩, rfl⟩
theorem lk_X10_150 : clV RX10 150 yX10_callAt cX10_callAt 2 (some (.object RX1)) 1 := ⟨wm_X10_150, wi_X10_callAt, ws_X10_callAt, wn_X10, wc_X10_callAt, ⟨by decide +kernel, by decide +kernel, by decide +kernel⟩⟩
theorem lk_X10_154 : clV RX10 154 yX1_isOver cX1_isOver 1 (some .boolean) 0 := ⟨wm_X10_154, wi_X1_isOver, ws_X1_isOver, wn_X1, wc_X1_isOver, ⟨by decide +kernel, by decide +kernel, by decide +kernel⟩⟩
theorem lk_X10_181 : clV RX10 181 yX7_put cX7_put 2 none 1 := ⟨wm_X10_181, wi_X7_put, ws_X7_put, wn_X7, wc_X7_put, ⟨by decide +kernel, by decide +kernel, by decide +kernel⟩⟩
theorem lk_X10_188 : clI RX10 188 yX9_init cX9_init 2 1 := ⟨wm_X10_188, wi_X9_init, wn_X9, wc_X9_init, ⟨by decide +kernel, by decide +kernel, by decide +kernel⟩, rfl⟩
theorem lk_X10_190 : clV RX10 190 yX7_readInto cX7_readInto 4 (some .boolean) 1 := ⟨wm_X10_190, wi_X7_readInto, ws_X7_readInto, wn_X7, wc_X7_readInto, ⟨by decide +kernel, by decide +kernel, by decide +kernel⟩⟩
theorem lk_X10_197 : clV RX10 197 yX10_treatyInForce cX10_treatyInForce 3 (some (.object RX9)) 1 := ⟨wm_X10_197, wi_X10_treatyInForce, ws_X10_treatyInForce, wn_X10, wc_X10_treatyInForce, ⟨by decide +kernel, by decide +kernel, by decide +kernel⟩⟩
theorem lk_X10_213 : clV RX10 213 yX9_holdsFor cX9_holdsFor 5 (some .boolean) 2 := ⟨wm_X10_213, wi_X9_holdsFor, ws_X9_holdsFor, wn_X9, wc_X9_holdsFor, ⟨by decide +kernel, by decide +kernel, by decide +kernel⟩⟩
theorem lk_X10_216 : clI RX10 216 yX2_init cX2_init 6 5 := ⟨wm_X10_216, wi_X2_init, wn_X2, wc_X2_init, ⟨by decide +kernel, by decide +kernel, by decide +kernel⟩, rfl⟩
theorem lk_X10_222 : clV RX10 222 yX10_banIfDue cX10_banIfDue 6 none 1 := ⟨wm_X10_222, wi_X10_banIfDue, ws_X10_banIfDue, wn_X10, wc_X10_banIfDue, ⟨by decide +kernel, by decide +kernel, by decide +kernel⟩⟩
theorem lk_X10_226 : clV RX10 226 yX10_lookAt cX10_lookAt 2 (some (.object RX2)) 1 := ⟨wm_X10_226, wi_X10_lookAt, ws_X10_lookAt, wn_X10, wc_X10_lookAt, ⟨by decide +kernel, by decide +kernel, by decide +kernel⟩⟩
theorem lk_X10_245 : clS RX10 245 yX10_groupsOf cX10_groupsOf 1 (some .int) 1 := ⟨wm_X10_245, wt_X10_groupsOf, wn_X10, wc_X10_groupsOf, ⟨by decide +kernel, by decide +kernel, by decide +kernel⟩⟩
theorem lk_X10_248 : clV RX10 248 yX10_tallyUp cX10_tallyUp 5 none 2 := ⟨wm_X10_248, wi_X10_tallyUp, ws_X10_tallyUp, wn_X10, wc_X10_tallyUp, ⟨by decide +kernel, by decide +kernel, by decide +kernel⟩⟩
theorem lk_X10_255 : clV RX10 255 yX6_isDark cX6_isDark 2 (some .boolean) 0 := ⟨wm_X10_255, wi_X6_isDark, ws_X6_isDark, wn_X6, wc_X6_isDark, ⟨by decide +kernel, by decide +kernel, by decide +kernel⟩⟩
theorem lk_X10_258 : clV RX10 258 yX10_riskOf cX10_riskOf 4 (some .int) 1 := ⟨wm_X10_258, wi_X10_riskOf, ws_X10_riskOf, wn_X10, wc_X10_riskOf, ⟨by decide +kernel, by decide +kernel, by decide +kernel⟩⟩
theorem lk_X10_262 : clS RX10 262 yX10_areHours cX10_areHours 1 (some .boolean) 1 := ⟨wm_X10_262, wt_X10_areHours, wn_X10, wc_X10_areHours, ⟨by decide +kernel, by decide +kernel, by decide +kernel⟩⟩
theorem lk_X10_265 : clV RX10 265 yX10_gatherBoarding cX10_gatherBoarding 4 none 1 := ⟨wm_X10_265, wi_X10_gatherBoarding, ws_X10_gatherBoarding, wn_X10, wc_X10_gatherBoarding, ⟨by decide +kernel, by decide +kernel, by decide +kernel⟩⟩
theorem lk_X10_268 : clV RX10 268 yX0_placeOf cX0_placeOf 3 (some .int) 1 := ⟨wm_X10_268, wi_X0_placeOf, ws_X0_placeOf, wn_X0, wc_X0_placeOf, ⟨by decide +kernel, by decide +kernel, by decide +kernel⟩⟩
theorem lk_X10_271 : clV RX10 271 yX0_settle cX0_settle 5 none 2 := ⟨wm_X10_271, wi_X0_settle, ws_X0_settle, wn_X0, wc_X0_settle, ⟨by decide +kernel, by decide +kernel, by decide +kernel⟩⟩
theorem lk_X10_285 : clV RX10 285 yX4_putDay cX4_putDay 3 none 1 := ⟨wm_X10_285, wi_X4_putDay, ws_X4_putDay, wn_X4, wc_X4_putDay, ⟨by decide +kernel, by decide +kernel, by decide +kernel⟩⟩
theorem lk_X10_290 : clV RX10 290 yX4_hoursOfRest cX4_hoursOfRest 3 (some .int) 0 := ⟨wm_X10_290, wi_X4_hoursOfRest, ws_X4_hoursOfRest, wn_X4, wc_X4_hoursOfRest, ⟨by decide +kernel, by decide +kernel, by decide +kernel⟩⟩
theorem lk_X10_294 : clV RX10 294 yX4_firstWrong cX4_firstWrong 3 (some .int) 0 := ⟨wm_X10_294, wi_X4_firstWrong, ws_X4_firstWrong, wn_X4, wc_X4_firstWrong, ⟨by decide +kernel, by decide +kernel, by decide +kernel⟩⟩
theorem lk_X10_303 : clV RX10 303 yX2_isDoubleOf cX2_isDoubleOf 2 (some .boolean) 1 := ⟨wm_X10_303, wi_X2_isDoubleOf, ws_X2_isDoubleOf, wn_X2, wc_X2_isDoubleOf, ⟨by decide +kernel, by decide +kernel, by decide +kernel⟩⟩
theorem lk_X10_307 : clS RX10 307 yJ6_bitCount_0f7a4 cJ6_bitCount_0f7a4 1 (some .int) 1 := ⟨wm_X10_307, wt_J6_bitCount_0f7a4, wn_J6, wc_J6_bitCount_0f7a4, ⟨by decide +kernel, by decide +kernel, by decide +kernel⟩⟩
theorem lk_X10_312 : clV RX10 312 yX2_isDrawn cX2_isDrawn 1 (some .boolean) 0 := ⟨wm_X10_312, wi_X2_isDrawn, ws_X2_isDrawn, wn_X2, wc_X2_isDrawn, ⟨by decide +kernel, by decide +kernel, by decide +kernel⟩⟩
theorem lk_X10_324 : clV RX10 324 yX10_shipsInPorts cX10_shipsInPorts 3 (some .int) 0 := ⟨wm_X10_324, wi_X10_shipsInPorts, ws_X10_shipsInPorts, wn_X10, wc_X10_shipsInPorts, ⟨by decide +kernel, by decide +kernel, by decide +kernel⟩⟩
theorem lk_X10_327 : clV RX10 327 yX10_heldCalls cX10_heldCalls 3 (some .int) 0 := ⟨wm_X10_327, wi_X10_heldCalls, ws_X10_heldCalls, wn_X10, wc_X10_heldCalls, ⟨by decide +kernel, by decide +kernel, by decide +kernel⟩⟩
theorem lk_X10_330 : clV RX10 330 yX10_bannedShips cX10_bannedShips 3 (some .int) 0 := ⟨wm_X10_330, wi_X10_bannedShips, ws_X10_bannedShips, wn_X10, wc_X10_bannedShips, ⟨by decide +kernel, by decide +kernel, by decide +kernel⟩⟩
theorem lk_X10_338 : clV RX10 338 yX3_areOne cX3_areOne 3 (some .boolean) 2 := ⟨wm_X10_338, wi_X3_areOne, ws_X3_areOne, wn_X3, wc_X3_areOne, ⟨by decide +kernel, by decide +kernel, by decide +kernel⟩⟩
theorem lk_X10_341 : clV RX10 341 yX6_clear cX6_clear 1 none 0 := ⟨wm_X10_341, wi_X6_clear, ws_X6_clear, wn_X6, wc_X6_clear, ⟨by decide +kernel, by decide +kernel, by decide +kernel⟩⟩
theorem lk_X10_344 : clV RX10 344 yX10_isInLast cX10_isInLast 3 (some .boolean) 2 := ⟨wm_X10_344, wi_X10_isInLast, ws_X10_isInLast, wn_X10, wc_X10_isInLast, ⟨by decide +kernel, by decide +kernel, by decide +kernel⟩⟩
theorem lk_X10_347 : clS RX10 347 yX10_isOfGroup cX10_isOfGroup 4 (some .boolean) 3 := ⟨wm_X10_347, wt_X10_isOfGroup, wn_X10, wc_X10_isOfGroup, ⟨by decide +kernel, by decide +kernel, by decide +kernel⟩⟩
theorem lk_X10_351 : clV RX10 351 yX6_add cX6_add 3 none 2 := ⟨wm_X10_351, wi_X6_add, ws_X6_add, wn_X6, wc_X6_add, ⟨by decide +kernel, by decide +kernel, by decide +kernel⟩⟩
theorem lk_X10_358 : clV RX10 358 yX10_isDarkGroup cX10_isDarkGroup 3 (some .boolean) 2 := ⟨wm_X10_358, wi_X10_isDarkGroup, ws_X10_isDarkGroup, wn_X10, wc_X10_isDarkGroup, ⟨by decide +kernel, by decide +kernel, by decide +kernel⟩⟩
theorem lk_X10_364 : clV RX10 364 yX10_isFlagDark cX10_isFlagDark 2 (some .boolean) 1 := ⟨wm_X10_364, wi_X10_isFlagDark, ws_X10_isFlagDark, wn_X10, wc_X10_isFlagDark, ⟨by decide +kernel, by decide +kernel, by decide +kernel⟩⟩
theorem lk_X10_368 : clV RX10 368 yX10_holdsInFleet cX10_holdsInFleet 8 (some .int) 1 := ⟨wm_X10_368, wi_X10_holdsInFleet, ws_X10_holdsInFleet, wn_X10, wc_X10_holdsInFleet, ⟨by decide +kernel, by decide +kernel, by decide +kernel⟩⟩
theorem lk_X10_371 : clS RX10 371 yJ9_min_7cf53 cJ9_min_7cf53 2 (some .int) 2 := ⟨wm_X10_371, wt_J9_min_7cf53, wn_J9, wc_J9_min_7cf53, ⟨by decide +kernel, by decide +kernel, by decide +kernel⟩⟩
theorem lk_X10_379 : clV RX10 379 yX0_add cX0_add 4 none 3 := ⟨wm_X10_379, wi_X0_add, ws_X0_add, wn_X0, wc_X0_add, ⟨by decide +kernel, by decide +kernel, by decide +kernel⟩⟩
theorem lk_X11_124 : clS RX11 124 yX11_isIn cX11_isIn 3 (some .boolean) 3 := ⟨wm_X11_124, wt_X11_isIn, wn_X11, wc_X11_isIn, ⟨by decide +kernel, by decide +kernel, by decide +kernel⟩⟩
theorem lk_X11_137 : clV RX11 137 yX11_finding cX11_finding 2 (some .int) 1 := ⟨wm_X11_137, wi_X11_finding, ws_X11_finding, wn_X11, wc_X11_finding, ⟨by decide +kernel, by decide +kernel, by decide +kernel⟩⟩
theorem lk_X11_141 : clV RX11 141 yX11_isShip cX11_isShip 2 (some .boolean) 1 := ⟨wm_X11_141, wi_X11_isShip, ws_X11_isShip, wn_X11, wc_X11_isShip, ⟨by decide +kernel, by decide +kernel, by decide +kernel⟩⟩
theorem lk_X11_145 : clV RX11 145 yX11_isUnder cX11_isUnder 3 (some .boolean) 2 := ⟨wm_X11_145, wi_X11_isUnder, ws_X11_isUnder, wn_X11, wc_X11_isUnder, ⟨by decide +kernel, by decide +kernel, by decide +kernel⟩⟩
theorem lk_X11_149 : clV RX11 149 yX11_hoursOf cX11_hoursOf 2 (some .int) 1 := ⟨wm_X11_149, wi_X11_hoursOf, ws_X11_hoursOf, wn_X11, wc_X11_hoursOf, ⟨by decide +kernel, by decide +kernel, by decide +kernel⟩⟩
theorem lk_X11_155 : clV RX11 155 yX11_hadOn cX11_hadOn 6 (some .int) 3 := ⟨wm_X11_155, wi_X11_hadOn, ws_X11_hadOn, wn_X11, wc_X11_hadOn, ⟨by decide +kernel, by decide +kernel, by decide +kernel⟩⟩
theorem lk_X11_159 : clS RX11 159 yX11_isDay cX11_isDay 1 (some .boolean) 1 := ⟨wm_X11_159, wt_X11_isDay, wn_X11, wc_X11_isDay, ⟨by decide +kernel, by decide +kernel, by decide +kernel⟩⟩
theorem lk_X11_165 : clV RX11 165 yX11_onesOf cX11_onesOf 6 (some .int) 1 := ⟨wm_X11_165, wi_X11_onesOf, ws_X11_onesOf, wn_X11, wc_X11_onesOf, ⟨by decide +kernel, by decide +kernel, by decide +kernel⟩⟩
theorem lk_X11_168 : clV RX11 168 yX11_fleetOf cX11_fleetOf 6 (some .int) 2 := ⟨wm_X11_168, wi_X11_fleetOf, ws_X11_fleetOf, wn_X11, wc_X11_fleetOf, ⟨by decide +kernel, by decide +kernel, by decide +kernel⟩⟩
theorem lk_X11_172 : clV RX11 172 yX11_openCall cX11_openCall 4 (some .int) 1 := ⟨wm_X11_172, wi_X11_openCall, ws_X11_openCall, wn_X11, wc_X11_openCall, ⟨by decide +kernel, by decide +kernel, by decide +kernel⟩⟩
theorem lk_X11_175 : clV RX11 175 yX11_isCall cX11_isCall 2 (some .boolean) 1 := ⟨wm_X11_175, wi_X11_isCall, ws_X11_isCall, wn_X11, wc_X11_isCall, ⟨by decide +kernel, by decide +kernel, by decide +kernel⟩⟩
theorem lk_X11_178 : clV RX11 178 yX11_looksAt cX11_looksAt 4 (some .int) 1 := ⟨wm_X11_178, wi_X11_looksAt, ws_X11_looksAt, wn_X11, wc_X11_looksAt, ⟨by decide +kernel, by decide +kernel, by decide +kernel⟩⟩
theorem lk_X11_184 : clV RX11 184 yX11_isByte cX11_isByte 3 (some .boolean) 2 := ⟨wm_X11_184, wi_X11_isByte, ws_X11_isByte, wn_X11, wc_X11_isByte, ⟨by decide +kernel, by decide +kernel, by decide +kernel⟩⟩
theorem lk_X11_187 : clV RX11 187 yX11_isDigit cX11_isDigit 2 (some .boolean) 1 := ⟨wm_X11_187, wi_X11_isDigit, ws_X11_isDigit, wn_X11, wc_X11_isDigit, ⟨by decide +kernel, by decide +kernel, by decide +kernel⟩⟩
theorem lk_X11_190 : clV RX11 190 yX11_kindAt cX11_kindAt 2 (some .int) 1 := ⟨wm_X11_190, wi_X11_kindAt, ws_X11_kindAt, wn_X11, wc_X11_kindAt, ⟨by decide +kernel, by decide +kernel, by decide +kernel⟩⟩
theorem lk_X11_196 : clV RX11 196 yX11_rowEnd cX11_rowEnd 2 (some .int) 1 := ⟨wm_X11_196, wi_X11_rowEnd, ws_X11_rowEnd, wn_X11, wc_X11_rowEnd, ⟨by decide +kernel, by decide +kernel, by decide +kernel⟩⟩
theorem lk_X11_199 : clV RX11 199 yX11_rowLeast cX11_rowLeast 2 (some .int) 1 := ⟨wm_X11_199, wi_X11_rowLeast, ws_X11_rowLeast, wn_X11, wc_X11_rowLeast, ⟨by decide +kernel, by decide +kernel, by decide +kernel⟩⟩
theorem lk_X11_202 : clV RX11 202 yX11_rowTells cX11_rowTells 8 none 2 := ⟨wm_X11_202, wi_X11_rowTells, ws_X11_rowTells, wn_X11, wc_X11_rowTells, ⟨by decide +kernel, by decide +kernel, by decide +kernel⟩⟩
theorem lk_X11_206 : clV RX11 206 yX11_readAll cX11_readAll 4 (some .int) 0 := ⟨wm_X11_206, wi_X11_readAll, ws_X11_readAll, wn_X11, wc_X11_readAll, ⟨by decide +kernel, by decide +kernel, by decide +kernel⟩⟩
theorem lk_X11_210 : clV RX11 210 yX11_forceOn cX11_forceOn 3 (some .int) 1 := ⟨wm_X11_210, wi_X11_forceOn, ws_X11_forceOn, wn_X11, wc_X11_forceOn, ⟨by decide +kernel, by decide +kernel, by decide +kernel⟩⟩
theorem lk_X11_213 : clV RX11 213 yX11_darkOf cX11_darkOf 13 (some .int) 2 := ⟨wm_X11_213, wi_X11_darkOf, ws_X11_darkOf, wn_X11, wc_X11_darkOf, ⟨by decide +kernel, by decide +kernel, by decide +kernel⟩⟩
theorem lk_X11_216 : clV RX11 216 yX11_shipOf cX11_shipOf 2 (some .int) 1 := ⟨wm_X11_216, wi_X11_shipOf, ws_X11_shipOf, wn_X11, wc_X11_shipOf, ⟨by decide +kernel, by decide +kernel, by decide +kernel⟩⟩
theorem lk_X11_219 : clV RX11 219 yX11_wouldHold cX11_wouldHold 6 (some .boolean) 2 := ⟨wm_X11_219, wi_X11_wouldHold, ws_X11_wouldHold, wn_X11, wc_X11_wouldHold, ⟨by decide +kernel, by decide +kernel, by decide +kernel⟩⟩
theorem lk_X11_222 : clV RX11 222 yX11_ban cX11_ban 5 none 1 := ⟨wm_X11_222, wi_X11_ban, ws_X11_ban, wn_X11, wc_X11_ban, ⟨by decide +kernel, by decide +kernel, by decide +kernel⟩⟩
theorem lk_X11_226 : clV RX11 226 yX11_isLook cX11_isLook 2 (some .boolean) 1 := ⟨wm_X11_226, wi_X11_isLook, ws_X11_isLook, wn_X11, wc_X11_isLook, ⟨by decide +kernel, by decide +kernel, by decide +kernel⟩⟩
theorem lk_X11_229 : clV RX11 229 yX11_counted cX11_counted 8 (some .int) 3 := ⟨wm_X11_229, wi_X11_counted, ws_X11_counted, wn_X11, wc_X11_counted, ⟨by decide +kernel, by decide +kernel, by decide +kernel⟩⟩
theorem lk_X11_235 : clV RX11 235 yX11_riskOf cX11_riskOf 8 (some .int) 1 := ⟨wm_X11_235, wi_X11_riskOf, ws_X11_riskOf, wn_X11, wc_X11_riskOf, ⟨by decide +kernel, by decide +kernel, by decide +kernel⟩⟩
theorem lk_X11_244 : clV RX11 244 yX11_tryFrom cX11_tryFrom 6 none 4 := ⟨wm_X11_244, wi_X11_tryFrom, ws_X11_tryFrom, wn_X11, wc_X11_tryFrom, ⟨by decide +kernel, by decide +kernel, by decide +kernel⟩⟩
theorem lk_X11_248 : clV RX11 248 yX11_gather cX11_gather 4 none 1 := ⟨wm_X11_248, wi_X11_gather, ws_X11_gather, wn_X11, wc_X11_gather, ⟨by decide +kernel, by decide +kernel, by decide +kernel⟩⟩
theorem lk_X11_251 : clV RX11 251 yX11_isRest cX11_isRest 3 (some .boolean) 2 := ⟨wm_X11_251, wi_X11_isRest, ws_X11_isRest, wn_X11, wc_X11_isRest, ⟨by decide +kernel, by decide +kernel, by decide +kernel⟩⟩
theorem lk_X11_255 : clV RX11 255 yX11_restIn cX11_restIn 6 (some .int) 3 := ⟨wm_X11_255, wi_X11_restIn, ws_X11_restIn, wn_X11, wc_X11_restIn, ⟨by decide +kernel, by decide +kernel, by decide +kernel⟩⟩
theorem lk_X11_258 : clV RX11 258 yX11_areDoubles cX11_areDoubles 3 (some .boolean) 2 := ⟨wm_X11_258, wi_X11_areDoubles, ws_X11_areDoubles, wn_X11, wc_X11_areDoubles, ⟨by decide +kernel, by decide +kernel, by decide +kernel⟩⟩
theorem lk_X11_261 : clS RX11 261 yX11_ones cX11_ones 3 (some .int) 1 := ⟨wm_X11_261, wt_X11_ones, wn_X11, wc_X11_ones, ⟨by decide +kernel, by decide +kernel, by decide +kernel⟩⟩
theorem lk_X4_15 : clS RX4 15 yJ6_bitCount_0f7a4 cJ6_bitCount_0f7a4 1 (some .int) 1 := ⟨wm_X4_15, wt_J6_bitCount_0f7a4, wn_J6, wc_J6_bitCount_0f7a4, ⟨by decide +kernel, by decide +kernel, by decide +kernel⟩⟩
theorem lk_X4_21 : clV RX4 21 yX4_restIn cX4_restIn 2 (some .int) 1 := ⟨wm_X4_21, wi_X4_restIn, ws_X4_restIn, wn_X4, wc_X4_restIn, ⟨by decide +kernel, by decide +kernel, by decide +kernel⟩⟩
theorem lk_X5_43 : clI RX5 43 yX8_init cX8_init 4 3 := ⟨wm_X5_43, wi_X8_init, wn_X8, wc_X8_init, ⟨by decide +kernel, by decide +kernel, by decide +kernel⟩, rfl⟩
theorem lk_X7_22 : clV RX7 22 yX7_readRow cX7_readRow 2 (some .boolean) 1 := ⟨wm_X7_22, wi_X7_readRow, ws_X7_readRow, wn_X7, wc_X7_readRow, ⟨by decide +kernel, by decide +kernel, by decide +kernel⟩⟩
theorem lk_X7_26 : clV RX7 26 yX7_take cX7_take 2 (some .boolean) 1 := ⟨wm_X7_26, wi_X7_take, ws_X7_take, wn_X7, wc_X7_take, ⟨by decide +kernel, by decide +kernel, by decide +kernel⟩⟩
theorem lk_X7_30 : clV RX7 30 yX7_readGrave cX7_readGrave 4 (some .boolean) 1 := ⟨wm_X7_30, wi_X7_readGrave, ws_X7_readGrave, wn_X7, wc_X7_readGrave, ⟨by decide +kernel, by decide +kernel, by decide +kernel⟩⟩
theorem lk_X7_33 : clV RX7 33 yX7_readWeight cX7_readWeight 4 (some .boolean) 1 := ⟨wm_X7_33, wi_X7_readWeight, ws_X7_readWeight, wn_X7, wc_X7_readWeight, ⟨by decide +kernel, by decide +kernel, by decide +kernel⟩⟩
theorem lk_X7_36 : clV RX7 36 yX7_readLimit cX7_readLimit 4 (some .boolean) 1 := ⟨wm_X7_36, wi_X7_readLimit, ws_X7_readLimit, wn_X7, wc_X7_readLimit, ⟨by decide +kernel, by decide +kernel, by decide +kernel⟩⟩
theorem lk_X7_39 : clV RX7 39 yX7_takeDigit cX7_takeDigit 1 (some .int) 0 := ⟨wm_X7_39, wi_X7_takeDigit, ws_X7_takeDigit, wn_X7, wc_X7_takeDigit, ⟨by decide +kernel, by decide +kernel, by decide +kernel⟩⟩
theorem lk_X7_43 : clV RX7 43 yX7_takeKind cX7_takeKind 1 (some .int) 0 := ⟨wm_X7_43, wi_X7_takeKind, ws_X7_takeKind, wn_X7, wc_X7_takeKind, ⟨by decide +kernel, by decide +kernel, by decide +kernel⟩⟩
theorem lk_X7_46 : clV RX7 46 yX9_addGrave cX9_addGrave 4 none 2 := ⟨wm_X7_46, wi_X9_addGrave, ws_X9_addGrave, wn_X9, wc_X9_addGrave, ⟨by decide +kernel, by decide +kernel, by decide +kernel⟩⟩
theorem lk_X10_17 : clIN RX10 17 yX3_init cX3_init 1 0 := ⟨RX10, List.mem_filter.mpr ⟨List.mem_of_getElem? (i := 76) (by decide +kernel), rfl⟩, wi_X3_init, wn_X3, wc_X3_init, ⟨by decide +kernel, by decide +kernel, by decide +kernel⟩, rfl⟩
theorem lk_X10_42 : clIN RX10 42 yX7_init cX7_init 1 0 := ⟨RX10, List.mem_filter.mpr ⟨List.mem_of_getElem? (i := 97) (by decide +kernel), rfl⟩, wi_X7_init, wn_X7, wc_X7_init, ⟨by decide +kernel, by decide +kernel, by decide +kernel⟩, rfl⟩
theorem lk_X10_60 : clIN RX10 60 yX6_init cX6_init 1 0 := ⟨RX10, List.mem_filter.mpr ⟨List.mem_of_getElem? (i := 115) (by decide +kernel), rfl⟩, wi_X6_init, wn_X6, wc_X6_init, ⟨by decide +kernel, by decide +kernel, by decide +kernel⟩, rfl⟩
theorem lk_X10_67 : clIN RX10 67 yX0_init cX0_init 1 0 := ⟨RX10, List.mem_filter.mpr ⟨List.mem_of_getElem? (i := 136) (by decide +kernel), rfl⟩, wi_X0_init, wn_X0, wc_X0_init, ⟨by decide +kernel, by decide +kernel, by decide +kernel⟩, rfl⟩
theorem lk_X5_19 : clIN RX5 19 yX4_init cX4_init 1 0 := ⟨RX10, List.mem_filter.mpr ⟨List.mem_of_getElem? (i := 250) (by decide +kernel), rfl⟩, wi_X4_init, wn_X4, wc_X4_init, ⟨by decide +kernel, by decide +kernel, by decide +kernel⟩, rfl⟩
theorem lk_X9_25 : clSN RX9 25 yX10_isUnder cX10_isUnder 4 (some .boolean) 2 := ⟨RX10, List.mem_filter.mpr ⟨List.mem_of_getElem? (i := 496) (by decide +kernel), rfl⟩, wt_X10_isUnder, wn_X10, wc_X10_isUnder, ⟨by decide +kernel, by decide +kernel, by decide +kernel⟩⟩
abbrev MJ6_bitCount_0f7a4 (E : VE) (d mc ms : Nat) (argv : List Value) (σ : Sg) (post : Option Value → Sg → Prop) : Prop := MA E yJ6_bitCount_0f7a4 cJ6_bitCount_0f7a4 1 (some .int) d mc ms argv σ post
abbrev MJ9_min_7cf53 (E : VE) (d mc ms : Nat) (argv : List Value) (σ : Sg) (post : Option Value → Sg → Prop) : Prop := MA E yJ9_min_7cf53 cJ9_min_7cf53 2 (some .int) d mc ms argv σ post
abbrev MX0_add (E : VE) (d mc ms : Nat) (argv : List Value) (σ : Sg) (post : Option Value → Sg → Prop) : Prop := MA E yX0_add cX0_add 4 none d mc ms argv σ post
abbrev MX0_attempt (E : VE) (d mc ms : Nat) (argv : List Value) (σ : Sg) (post : Option Value → Sg → Prop) : Prop := MA E yX0_attempt cX0_attempt 8 none d mc ms argv σ post
abbrev MX0_init (E : VE) (d mc ms : Nat) (argv : List Value) (σ : Sg) (post : Option Value → Sg → Prop) : Prop := MA E yX0_init cX0_init 1 none d mc ms argv σ post
abbrev MX0_placeOf (E : VE) (d mc ms : Nat) (argv : List Value) (σ : Sg) (post : Option Value → Sg → Prop) : Prop := MA E yX0_placeOf cX0_placeOf 3 (some .int) d mc ms argv σ post
abbrev MX0_settle (E : VE) (d mc ms : Nat) (argv : List Value) (σ : Sg) (post : Option Value → Sg → Prop) : Prop := MA E yX0_settle cX0_settle 5 none d mc ms argv σ post
abbrev MX10_areHours (E : VE) (d mc ms : Nat) (argv : List Value) (σ : Sg) (post : Option Value → Sg → Prop) : Prop := MA E yX10_areHours cX10_areHours 1 (some .boolean) d mc ms argv σ post
abbrev MX10_as (E : VE) (d mc ms : Nat) (argv : List Value) (σ : Sg) (post : Option Value → Sg → Prop) : Prop := MA E yX10_as cX10_as 4 (some .int) d mc ms argv σ post
abbrev MX10_banIfDue (E : VE) (d mc ms : Nat) (argv : List Value) (σ : Sg) (post : Option Value → Sg → Prop) : Prop := MA E yX10_banIfDue cX10_banIfDue 6 none d mc ms argv σ post
abbrev MX10_banned (E : VE) (d mc ms : Nat) (argv : List Value) (σ : Sg) (post : Option Value → Sg → Prop) : Prop := MA E yX10_banned cX10_banned 4 (some .int) d mc ms argv σ post
abbrev MX10_bannedShips (E : VE) (d mc ms : Nat) (argv : List Value) (σ : Sg) (post : Option Value → Sg → Prop) : Prop := MA E yX10_bannedShips cX10_bannedShips 3 (some .int) d mc ms argv σ post
abbrev MX10_board (E : VE) (d mc ms : Nat) (argv : List Value) (σ : Sg) (post : Option Value → Sg → Prop) : Prop := MA E yX10_board cX10_board 5 (some .int) d mc ms argv σ post
abbrev MX10_call (E : VE) (d mc ms : Nat) (argv : List Value) (σ : Sg) (post : Option Value → Sg → Prop) : Prop := MA E yX10_call cX10_call 5 (some .int) d mc ms argv σ post
abbrev MX10_callAt (E : VE) (d mc ms : Nat) (argv : List Value) (σ : Sg) (post : Option Value → Sg → Prop) : Prop := MA E yX10_callAt cX10_callAt 2 (some (.object RX1)) d mc ms argv σ post
abbrev MX10_change (E : VE) (d mc ms : Nat) (argv : List Value) (σ : Sg) (post : Option Value → Sg → Prop) : Prop := MA E yX10_change cX10_change 6 (some .int) d mc ms argv σ post
abbrev MX10_check (E : VE) (d mc ms : Nat) (argv : List Value) (σ : Sg) (post : Option Value → Sg → Prop) : Prop := MA E yX10_check cX10_check 4 (some .int) d mc ms argv σ post
abbrev MX10_count (E : VE) (d mc ms : Nat) (argv : List Value) (σ : Sg) (post : Option Value → Sg → Prop) : Prop := MA E yX10_count cX10_count 2 (some .int) d mc ms argv σ post
abbrev MX10_day (E : VE) (d mc ms : Nat) (argv : List Value) (σ : Sg) (post : Option Value → Sg → Prop) : Prop := MA E yX10_day cX10_day 3 (some .int) d mc ms argv σ post
abbrev MX10_draw (E : VE) (d mc ms : Nat) (argv : List Value) (σ : Sg) (post : Option Value → Sg → Prop) : Prop := MA E yX10_draw cX10_draw 4 (some .int) d mc ms argv σ post
abbrev MX10_feed (E : VE) (d mc ms : Nat) (argv : List Value) (σ : Sg) (post : Option Value → Sg → Prop) : Prop := MA E yX10_feed cX10_feed 2 (some .int) d mc ms argv σ post
abbrev MX10_finding (E : VE) (d mc ms : Nat) (argv : List Value) (σ : Sg) (post : Option Value → Sg → Prop) : Prop := MA E yX10_finding cX10_finding 2 (some .int) d mc ms argv σ post
abbrev MX10_fleet (E : VE) (d mc ms : Nat) (argv : List Value) (σ : Sg) (post : Option Value → Sg → Prop) : Prop := MA E yX10_fleet cX10_fleet 3 (some .int) d mc ms argv σ post
abbrev MX10_fleetBits (E : VE) (d mc ms : Nat) (argv : List Value) (σ : Sg) (post : Option Value → Sg → Prop) : Prop := MA E yX10_fleetBits cX10_fleetBits 5 (some .int) d mc ms argv σ post
abbrev MX10_found (E : VE) (d mc ms : Nat) (argv : List Value) (σ : Sg) (post : Option Value → Sg → Prop) : Prop := MA E yX10_found cX10_found 2 (some .int) d mc ms argv σ post
abbrev MX10_gatherBoarding (E : VE) (d mc ms : Nat) (argv : List Value) (σ : Sg) (post : Option Value → Sg → Prop) : Prop := MA E yX10_gatherBoarding cX10_gatherBoarding 4 none d mc ms argv σ post
abbrev MX10_groupsOf (E : VE) (d mc ms : Nat) (argv : List Value) (σ : Sg) (post : Option Value → Sg → Prop) : Prop := MA E yX10_groupsOf cX10_groupsOf 1 (some .int) d mc ms argv σ post
abbrev MX10_habit (E : VE) (d mc ms : Nat) (argv : List Value) (σ : Sg) (post : Option Value → Sg → Prop) : Prop := MA E yX10_habit cX10_habit 8 (some .int) d mc ms argv σ post
abbrev MX10_has (E : VE) (d mc ms : Nat) (argv : List Value) (σ : Sg) (post : Option Value → Sg → Prop) : Prop := MA E yX10_has cX10_has 5 (some .int) d mc ms argv σ post
abbrev MX10_heldCalls (E : VE) (d mc ms : Nat) (argv : List Value) (σ : Sg) (post : Option Value → Sg → Prop) : Prop := MA E yX10_heldCalls cX10_heldCalls 3 (some .int) d mc ms argv σ post
abbrev MX10_holdsInFleet (E : VE) (d mc ms : Nat) (argv : List Value) (σ : Sg) (post : Option Value → Sg → Prop) : Prop := MA E yX10_holdsInFleet cX10_holdsInFleet 8 (some .int) d mc ms argv σ post
abbrev MX10_init (E : VE) (d mc ms : Nat) (argv : List Value) (σ : Sg) (post : Option Value → Sg → Prop) : Prop := MA E yX10_init cX10_init 1 none d mc ms argv σ post
abbrev MX10_isBelow (E : VE) (d mc ms : Nat) (argv : List Value) (σ : Sg) (post : Option Value → Sg → Prop) : Prop := MA E yX10_isBelow cX10_isBelow 2 (some .boolean) d mc ms argv σ post
abbrev MX10_isDarkGroup (E : VE) (d mc ms : Nat) (argv : List Value) (σ : Sg) (post : Option Value → Sg → Prop) : Prop := MA E yX10_isDarkGroup cX10_isDarkGroup 3 (some .boolean) d mc ms argv σ post
abbrev MX10_isFlagDark (E : VE) (d mc ms : Nat) (argv : List Value) (σ : Sg) (post : Option Value → Sg → Prop) : Prop := MA E yX10_isFlagDark cX10_isFlagDark 2 (some .boolean) d mc ms argv σ post
abbrev MX10_isInLast (E : VE) (d mc ms : Nat) (argv : List Value) (σ : Sg) (post : Option Value → Sg → Prop) : Prop := MA E yX10_isInLast cX10_isInLast 3 (some .boolean) d mc ms argv σ post
abbrev MX10_isKindAndClass (E : VE) (d mc ms : Nat) (argv : List Value) (σ : Sg) (post : Option Value → Sg → Prop) : Prop := MA E yX10_isKindAndClass cX10_isKindAndClass 1 (some .boolean) d mc ms argv σ post
abbrev MX10_isNameOwnerAndFlag (E : VE) (d mc ms : Nat) (argv : List Value) (σ : Sg) (post : Option Value → Sg → Prop) : Prop := MA E yX10_isNameOwnerAndFlag cX10_isNameOwnerAndFlag 1 (some .boolean) d mc ms argv σ post
abbrev MX10_isOfGroup (E : VE) (d mc ms : Nat) (argv : List Value) (σ : Sg) (post : Option Value → Sg → Prop) : Prop := MA E yX10_isOfGroup cX10_isOfGroup 4 (some .boolean) d mc ms argv σ post
abbrev MX10_isUnder (E : VE) (d mc ms : Nat) (argv : List Value) (σ : Sg) (post : Option Value → Sg → Prop) : Prop := MA E yX10_isUnder cX10_isUnder 4 (some .boolean) d mc ms argv σ post
abbrev MX10_leave (E : VE) (d mc ms : Nat) (argv : List Value) (σ : Sg) (post : Option Value → Sg → Prop) : Prop := MA E yX10_leave cX10_leave 3 (some .int) d mc ms argv σ post
abbrev MX10_lift (E : VE) (d mc ms : Nat) (argv : List Value) (σ : Sg) (post : Option Value → Sg → Prop) : Prop := MA E yX10_lift cX10_lift 3 (some .int) d mc ms argv σ post
abbrev MX10_look (E : VE) (d mc ms : Nat) (argv : List Value) (σ : Sg) (post : Option Value → Sg → Prop) : Prop := MA E yX10_look cX10_look 7 (some .int) d mc ms argv σ post
abbrev MX10_lookAt (E : VE) (d mc ms : Nat) (argv : List Value) (σ : Sg) (post : Option Value → Sg → Prop) : Prop := MA E yX10_lookAt cX10_lookAt 2 (some (.object RX2)) d mc ms argv σ post
abbrev MX10_months (E : VE) (d mc ms : Nat) (argv : List Value) (σ : Sg) (post : Option Value → Sg → Prop) : Prop := MA E yX10_months cX10_months 3 (some .int) d mc ms argv σ post
abbrev MX10_named (E : VE) (d mc ms : Nat) (argv : List Value) (σ : Sg) (post : Option Value → Sg → Prop) : Prop := MA E yX10_named cX10_named 4 (some .int) d mc ms argv σ post
abbrev MX10_of (E : VE) (d mc ms : Nat) (argv : List Value) (σ : Sg) (post : Option Value → Sg → Prop) : Prop := MA E yX10_of cX10_of 4 (some .int) d mc ms argv σ post
abbrev MX10_one (E : VE) (d mc ms : Nat) (argv : List Value) (σ : Sg) (post : Option Value → Sg → Prop) : Prop := MA E yX10_one cX10_one 3 (some .int) d mc ms argv σ post
abbrev MX10_rate (E : VE) (d mc ms : Nat) (argv : List Value) (σ : Sg) (post : Option Value → Sg → Prop) : Prop := MA E yX10_rate cX10_rate 6 (some .int) d mc ms argv σ post
abbrev MX10_rest (E : VE) (d mc ms : Nat) (argv : List Value) (σ : Sg) (post : Option Value → Sg → Prop) : Prop := MA E yX10_rest cX10_rest 4 (some .int) d mc ms argv σ post
abbrev MX10_risk (E : VE) (d mc ms : Nat) (argv : List Value) (σ : Sg) (post : Option Value → Sg → Prop) : Prop := MA E yX10_risk cX10_risk 3 (some .int) d mc ms argv σ post
abbrev MX10_riskOf (E : VE) (d mc ms : Nat) (argv : List Value) (σ : Sg) (post : Option Value → Sg → Prop) : Prop := MA E yX10_riskOf cX10_riskOf 4 (some .int) d mc ms argv σ post
abbrev MX10_says (E : VE) (d mc ms : Nat) (argv : List Value) (σ : Sg) (post : Option Value → Sg → Prop) : Prop := MA E yX10_says cX10_says 6 (some .int) d mc ms argv σ post
abbrev MX10_share (E : VE) (d mc ms : Nat) (argv : List Value) (σ : Sg) (post : Option Value → Sg → Prop) : Prop := MA E yX10_share cX10_share 4 (some .int) d mc ms argv σ post
abbrev MX10_ship (E : VE) (d mc ms : Nat) (argv : List Value) (σ : Sg) (post : Option Value → Sg → Prop) : Prop := MA E yX10_ship cX10_ship 4 (some .int) d mc ms argv σ post
abbrev MX10_shipAt (E : VE) (d mc ms : Nat) (argv : List Value) (σ : Sg) (post : Option Value → Sg → Prop) : Prop := MA E yX10_shipAt cX10_shipAt 2 (some (.object RX5)) d mc ms argv σ post
abbrev MX10_shipsInPorts (E : VE) (d mc ms : Nat) (argv : List Value) (σ : Sg) (post : Option Value → Sg → Prop) : Prop := MA E yX10_shipsInPorts cX10_shipsInPorts 3 (some .int) d mc ms argv σ post
abbrev MX10_tallyUp (E : VE) (d mc ms : Nat) (argv : List Value) (σ : Sg) (post : Option Value → Sg → Prop) : Prop := MA E yX10_tallyUp cX10_tallyUp 5 none d mc ms argv σ post
abbrev MX10_tell (E : VE) (d mc ms : Nat) (argv : List Value) (σ : Sg) (post : Option Value → Sg → Prop) : Prop := MA E yX10_tell cX10_tell 2 (some .int) d mc ms argv σ post
abbrev MX10_tired (E : VE) (d mc ms : Nat) (argv : List Value) (σ : Sg) (post : Option Value → Sg → Prop) : Prop := MA E yX10_tired cX10_tired 5 (some .int) d mc ms argv σ post
abbrev MX10_told (E : VE) (d mc ms : Nat) (argv : List Value) (σ : Sg) (post : Option Value → Sg → Prop) : Prop := MA E yX10_told cX10_told 4 (some .int) d mc ms argv σ post
abbrev MX10_treaty (E : VE) (d mc ms : Nat) (argv : List Value) (σ : Sg) (post : Option Value → Sg → Prop) : Prop := MA E yX10_treaty cX10_treaty 4 (some .int) d mc ms argv σ post
abbrev MX10_treatyInForce (E : VE) (d mc ms : Nat) (argv : List Value) (σ : Sg) (post : Option Value → Sg → Prop) : Prop := MA E yX10_treatyInForce cX10_treatyInForce 3 (some (.object RX9)) d mc ms argv σ post
abbrev MX10_valuesOf (E : VE) (d mc ms : Nat) (argv : List Value) (σ : Sg) (post : Option Value → Sg → Prop) : Prop := MA E yX10_valuesOf cX10_valuesOf 1 (some .int) d mc ms argv σ post
abbrev MX10_were (E : VE) (d mc ms : Nat) (argv : List Value) (σ : Sg) (post : Option Value → Sg → Prop) : Prop := MA E yX10_were cX10_were 6 (some .int) d mc ms argv σ post
abbrev MX11_areDoubles (E : VE) (d mc ms : Nat) (argv : List Value) (σ : Sg) (post : Option Value → Sg → Prop) : Prop := MA E yX11_areDoubles cX11_areDoubles 3 (some .boolean) d mc ms argv σ post
abbrev MX11_as (E : VE) (d mc ms : Nat) (argv : List Value) (σ : Sg) (post : Option Value → Sg → Prop) : Prop := MA E yX11_as cX11_as 3 (some .int) d mc ms argv σ post
abbrev MX11_ban (E : VE) (d mc ms : Nat) (argv : List Value) (σ : Sg) (post : Option Value → Sg → Prop) : Prop := MA E yX11_ban cX11_ban 5 none d mc ms argv σ post
abbrev MX11_banned (E : VE) (d mc ms : Nat) (argv : List Value) (σ : Sg) (post : Option Value → Sg → Prop) : Prop := MA E yX11_banned cX11_banned 3 (some .int) d mc ms argv σ post
abbrev MX11_board (E : VE) (d mc ms : Nat) (argv : List Value) (σ : Sg) (post : Option Value → Sg → Prop) : Prop := MA E yX11_board cX11_board 5 (some .int) d mc ms argv σ post
abbrev MX11_call (E : VE) (d mc ms : Nat) (argv : List Value) (σ : Sg) (post : Option Value → Sg → Prop) : Prop := MA E yX11_call cX11_call 3 (some .int) d mc ms argv σ post
abbrev MX11_change (E : VE) (d mc ms : Nat) (argv : List Value) (σ : Sg) (post : Option Value → Sg → Prop) : Prop := MA E yX11_change cX11_change 5 (some .int) d mc ms argv σ post
abbrev MX11_check (E : VE) (d mc ms : Nat) (argv : List Value) (σ : Sg) (post : Option Value → Sg → Prop) : Prop := MA E yX11_check cX11_check 3 (some .int) d mc ms argv σ post
abbrev MX11_count (E : VE) (d mc ms : Nat) (argv : List Value) (σ : Sg) (post : Option Value → Sg → Prop) : Prop := MA E yX11_count cX11_count 4 (some .int) d mc ms argv σ post
abbrev MX11_counted (E : VE) (d mc ms : Nat) (argv : List Value) (σ : Sg) (post : Option Value → Sg → Prop) : Prop := MA E yX11_counted cX11_counted 8 (some .int) d mc ms argv σ post
abbrev MX11_darkOf (E : VE) (d mc ms : Nat) (argv : List Value) (σ : Sg) (post : Option Value → Sg → Prop) : Prop := MA E yX11_darkOf cX11_darkOf 13 (some .int) d mc ms argv σ post
abbrev MX11_day (E : VE) (d mc ms : Nat) (argv : List Value) (σ : Sg) (post : Option Value → Sg → Prop) : Prop := MA E yX11_day cX11_day 3 (some .int) d mc ms argv σ post
abbrev MX11_draw (E : VE) (d mc ms : Nat) (argv : List Value) (σ : Sg) (post : Option Value → Sg → Prop) : Prop := MA E yX11_draw cX11_draw 3 (some .int) d mc ms argv σ post
abbrev MX11_feed (E : VE) (d mc ms : Nat) (argv : List Value) (σ : Sg) (post : Option Value → Sg → Prop) : Prop := MA E yX11_feed cX11_feed 2 (some .int) d mc ms argv σ post
abbrev MX11_finding (E : VE) (d mc ms : Nat) (argv : List Value) (σ : Sg) (post : Option Value → Sg → Prop) : Prop := MA E yX11_finding cX11_finding 2 (some .int) d mc ms argv σ post
abbrev MX11_fleet (E : VE) (d mc ms : Nat) (argv : List Value) (σ : Sg) (post : Option Value → Sg → Prop) : Prop := MA E yX11_fleet cX11_fleet 3 (some .int) d mc ms argv σ post
abbrev MX11_fleetOf (E : VE) (d mc ms : Nat) (argv : List Value) (σ : Sg) (post : Option Value → Sg → Prop) : Prop := MA E yX11_fleetOf cX11_fleetOf 6 (some .int) d mc ms argv σ post
abbrev MX11_forceOn (E : VE) (d mc ms : Nat) (argv : List Value) (σ : Sg) (post : Option Value → Sg → Prop) : Prop := MA E yX11_forceOn cX11_forceOn 3 (some .int) d mc ms argv σ post
abbrev MX11_found (E : VE) (d mc ms : Nat) (argv : List Value) (σ : Sg) (post : Option Value → Sg → Prop) : Prop := MA E yX11_found cX11_found 2 (some .int) d mc ms argv σ post
abbrev MX11_gather (E : VE) (d mc ms : Nat) (argv : List Value) (σ : Sg) (post : Option Value → Sg → Prop) : Prop := MA E yX11_gather cX11_gather 4 none d mc ms argv σ post
abbrev MX11_habit (E : VE) (d mc ms : Nat) (argv : List Value) (σ : Sg) (post : Option Value → Sg → Prop) : Prop := MA E yX11_habit cX11_habit 6 (some .int) d mc ms argv σ post
abbrev MX11_hadOn (E : VE) (d mc ms : Nat) (argv : List Value) (σ : Sg) (post : Option Value → Sg → Prop) : Prop := MA E yX11_hadOn cX11_hadOn 6 (some .int) d mc ms argv σ post
abbrev MX11_has (E : VE) (d mc ms : Nat) (argv : List Value) (σ : Sg) (post : Option Value → Sg → Prop) : Prop := MA E yX11_has cX11_has 4 (some .int) d mc ms argv σ post
abbrev MX11_hoursOf (E : VE) (d mc ms : Nat) (argv : List Value) (σ : Sg) (post : Option Value → Sg → Prop) : Prop := MA E yX11_hoursOf cX11_hoursOf 2 (some .int) d mc ms argv σ post
abbrev MX11_init (E : VE) (d mc ms : Nat) (argv : List Value) (σ : Sg) (post : Option Value → Sg → Prop) : Prop := MA E yX11_init cX11_init 1 none d mc ms argv σ post
abbrev MX11_isByte (E : VE) (d mc ms : Nat) (argv : List Value) (σ : Sg) (post : Option Value → Sg → Prop) : Prop := MA E yX11_isByte cX11_isByte 3 (some .boolean) d mc ms argv σ post
abbrev MX11_isCall (E : VE) (d mc ms : Nat) (argv : List Value) (σ : Sg) (post : Option Value → Sg → Prop) : Prop := MA E yX11_isCall cX11_isCall 2 (some .boolean) d mc ms argv σ post
abbrev MX11_isDay (E : VE) (d mc ms : Nat) (argv : List Value) (σ : Sg) (post : Option Value → Sg → Prop) : Prop := MA E yX11_isDay cX11_isDay 1 (some .boolean) d mc ms argv σ post
abbrev MX11_isDigit (E : VE) (d mc ms : Nat) (argv : List Value) (σ : Sg) (post : Option Value → Sg → Prop) : Prop := MA E yX11_isDigit cX11_isDigit 2 (some .boolean) d mc ms argv σ post
abbrev MX11_isIn (E : VE) (d mc ms : Nat) (argv : List Value) (σ : Sg) (post : Option Value → Sg → Prop) : Prop := MA E yX11_isIn cX11_isIn 3 (some .boolean) d mc ms argv σ post
abbrev MX11_isLook (E : VE) (d mc ms : Nat) (argv : List Value) (σ : Sg) (post : Option Value → Sg → Prop) : Prop := MA E yX11_isLook cX11_isLook 2 (some .boolean) d mc ms argv σ post
abbrev MX11_isRest (E : VE) (d mc ms : Nat) (argv : List Value) (σ : Sg) (post : Option Value → Sg → Prop) : Prop := MA E yX11_isRest cX11_isRest 3 (some .boolean) d mc ms argv σ post
abbrev MX11_isShip (E : VE) (d mc ms : Nat) (argv : List Value) (σ : Sg) (post : Option Value → Sg → Prop) : Prop := MA E yX11_isShip cX11_isShip 2 (some .boolean) d mc ms argv σ post
abbrev MX11_isUnder (E : VE) (d mc ms : Nat) (argv : List Value) (σ : Sg) (post : Option Value → Sg → Prop) : Prop := MA E yX11_isUnder cX11_isUnder 3 (some .boolean) d mc ms argv σ post
abbrev MX11_kindAt (E : VE) (d mc ms : Nat) (argv : List Value) (σ : Sg) (post : Option Value → Sg → Prop) : Prop := MA E yX11_kindAt cX11_kindAt 2 (some .int) d mc ms argv σ post
abbrev MX11_leave (E : VE) (d mc ms : Nat) (argv : List Value) (σ : Sg) (post : Option Value → Sg → Prop) : Prop := MA E yX11_leave cX11_leave 2 (some .int) d mc ms argv σ post
abbrev MX11_lift (E : VE) (d mc ms : Nat) (argv : List Value) (σ : Sg) (post : Option Value → Sg → Prop) : Prop := MA E yX11_lift cX11_lift 2 (some .int) d mc ms argv σ post
abbrev MX11_look (E : VE) (d mc ms : Nat) (argv : List Value) (σ : Sg) (post : Option Value → Sg → Prop) : Prop := MA E yX11_look cX11_look 5 (some .int) d mc ms argv σ post
abbrev MX11_looksAt (E : VE) (d mc ms : Nat) (argv : List Value) (σ : Sg) (post : Option Value → Sg → Prop) : Prop := MA E yX11_looksAt cX11_looksAt 4 (some .int) d mc ms argv σ post
abbrev MX11_months (E : VE) (d mc ms : Nat) (argv : List Value) (σ : Sg) (post : Option Value → Sg → Prop) : Prop := MA E yX11_months cX11_months 3 (some .int) d mc ms argv σ post
abbrev MX11_named (E : VE) (d mc ms : Nat) (argv : List Value) (σ : Sg) (post : Option Value → Sg → Prop) : Prop := MA E yX11_named cX11_named 4 (some .int) d mc ms argv σ post
abbrev MX11_of (E : VE) (d mc ms : Nat) (argv : List Value) (σ : Sg) (post : Option Value → Sg → Prop) : Prop := MA E yX11_of cX11_of 3 (some .int) d mc ms argv σ post
abbrev MX11_one (E : VE) (d mc ms : Nat) (argv : List Value) (σ : Sg) (post : Option Value → Sg → Prop) : Prop := MA E yX11_one cX11_one 3 (some .int) d mc ms argv σ post
abbrev MX11_ones (E : VE) (d mc ms : Nat) (argv : List Value) (σ : Sg) (post : Option Value → Sg → Prop) : Prop := MA E yX11_ones cX11_ones 3 (some .int) d mc ms argv σ post
abbrev MX11_onesOf (E : VE) (d mc ms : Nat) (argv : List Value) (σ : Sg) (post : Option Value → Sg → Prop) : Prop := MA E yX11_onesOf cX11_onesOf 6 (some .int) d mc ms argv σ post
abbrev MX11_openCall (E : VE) (d mc ms : Nat) (argv : List Value) (σ : Sg) (post : Option Value → Sg → Prop) : Prop := MA E yX11_openCall cX11_openCall 4 (some .int) d mc ms argv σ post
abbrev MX11_rate (E : VE) (d mc ms : Nat) (argv : List Value) (σ : Sg) (post : Option Value → Sg → Prop) : Prop := MA E yX11_rate cX11_rate 5 (some .int) d mc ms argv σ post
abbrev MX11_readAll (E : VE) (d mc ms : Nat) (argv : List Value) (σ : Sg) (post : Option Value → Sg → Prop) : Prop := MA E yX11_readAll cX11_readAll 4 (some .int) d mc ms argv σ post
abbrev MX11_rest (E : VE) (d mc ms : Nat) (argv : List Value) (σ : Sg) (post : Option Value → Sg → Prop) : Prop := MA E yX11_rest cX11_rest 4 (some .int) d mc ms argv σ post
abbrev MX11_restIn (E : VE) (d mc ms : Nat) (argv : List Value) (σ : Sg) (post : Option Value → Sg → Prop) : Prop := MA E yX11_restIn cX11_restIn 6 (some .int) d mc ms argv σ post
abbrev MX11_risk (E : VE) (d mc ms : Nat) (argv : List Value) (σ : Sg) (post : Option Value → Sg → Prop) : Prop := MA E yX11_risk cX11_risk 2 (some .int) d mc ms argv σ post
abbrev MX11_riskOf (E : VE) (d mc ms : Nat) (argv : List Value) (σ : Sg) (post : Option Value → Sg → Prop) : Prop := MA E yX11_riskOf cX11_riskOf 8 (some .int) d mc ms argv σ post
abbrev MX11_rowEnd (E : VE) (d mc ms : Nat) (argv : List Value) (σ : Sg) (post : Option Value → Sg → Prop) : Prop := MA E yX11_rowEnd cX11_rowEnd 2 (some .int) d mc ms argv σ post
abbrev MX11_rowLeast (E : VE) (d mc ms : Nat) (argv : List Value) (σ : Sg) (post : Option Value → Sg → Prop) : Prop := MA E yX11_rowLeast cX11_rowLeast 2 (some .int) d mc ms argv σ post
abbrev MX11_rowTells (E : VE) (d mc ms : Nat) (argv : List Value) (σ : Sg) (post : Option Value → Sg → Prop) : Prop := MA E yX11_rowTells cX11_rowTells 8 none d mc ms argv σ post
abbrev MX11_says (E : VE) (d mc ms : Nat) (argv : List Value) (σ : Sg) (post : Option Value → Sg → Prop) : Prop := MA E yX11_says cX11_says 4 (some .int) d mc ms argv σ post
abbrev MX11_share (E : VE) (d mc ms : Nat) (argv : List Value) (σ : Sg) (post : Option Value → Sg → Prop) : Prop := MA E yX11_share cX11_share 4 (some .int) d mc ms argv σ post
abbrev MX11_ship (E : VE) (d mc ms : Nat) (argv : List Value) (σ : Sg) (post : Option Value → Sg → Prop) : Prop := MA E yX11_ship cX11_ship 4 (some .int) d mc ms argv σ post
abbrev MX11_shipOf (E : VE) (d mc ms : Nat) (argv : List Value) (σ : Sg) (post : Option Value → Sg → Prop) : Prop := MA E yX11_shipOf cX11_shipOf 2 (some .int) d mc ms argv σ post
abbrev MX11_tell (E : VE) (d mc ms : Nat) (argv : List Value) (σ : Sg) (post : Option Value → Sg → Prop) : Prop := MA E yX11_tell cX11_tell 2 (some .int) d mc ms argv σ post
abbrev MX11_tired (E : VE) (d mc ms : Nat) (argv : List Value) (σ : Sg) (post : Option Value → Sg → Prop) : Prop := MA E yX11_tired cX11_tired 4 (some .int) d mc ms argv σ post
abbrev MX11_told (E : VE) (d mc ms : Nat) (argv : List Value) (σ : Sg) (post : Option Value → Sg → Prop) : Prop := MA E yX11_told cX11_told 3 (some .int) d mc ms argv σ post
abbrev MX11_treaty (E : VE) (d mc ms : Nat) (argv : List Value) (σ : Sg) (post : Option Value → Sg → Prop) : Prop := MA E yX11_treaty cX11_treaty 3 (some .int) d mc ms argv σ post
abbrev MX11_tryFrom (E : VE) (d mc ms : Nat) (argv : List Value) (σ : Sg) (post : Option Value → Sg → Prop) : Prop := MA E yX11_tryFrom cX11_tryFrom 6 none d mc ms argv σ post
abbrev MX11_were (E : VE) (d mc ms : Nat) (argv : List Value) (σ : Sg) (post : Option Value → Sg → Prop) : Prop := MA E yX11_were cX11_were 4 (some .int) d mc ms argv σ post
abbrev MX11_wouldHold (E : VE) (d mc ms : Nat) (argv : List Value) (σ : Sg) (post : Option Value → Sg → Prop) : Prop := MA E yX11_wouldHold cX11_wouldHold 6 (some .boolean) d mc ms argv σ post
abbrev MX1_init (E : VE) (d mc ms : Nat) (argv : List Value) (σ : Sg) (post : Option Value → Sg → Prop) : Prop := MA E yX1_init cX1_init 5 none d mc ms argv σ post
abbrev MX1_isOver (E : VE) (d mc ms : Nat) (argv : List Value) (σ : Sg) (post : Option Value → Sg → Prop) : Prop := MA E yX1_isOver cX1_isOver 1 (some .boolean) d mc ms argv σ post
abbrev MX2_init (E : VE) (d mc ms : Nat) (argv : List Value) (σ : Sg) (post : Option Value → Sg → Prop) : Prop := MA E yX2_init cX2_init 6 none d mc ms argv σ post
abbrev MX2_isDoubleOf (E : VE) (d mc ms : Nat) (argv : List Value) (σ : Sg) (post : Option Value → Sg → Prop) : Prop := MA E yX2_isDoubleOf cX2_isDoubleOf 2 (some .boolean) d mc ms argv σ post
abbrev MX2_isDrawn (E : VE) (d mc ms : Nat) (argv : List Value) (σ : Sg) (post : Option Value → Sg → Prop) : Prop := MA E yX2_isDrawn cX2_isDrawn 1 (some .boolean) d mc ms argv σ post
abbrev MX3_areOne (E : VE) (d mc ms : Nat) (argv : List Value) (σ : Sg) (post : Option Value → Sg → Prop) : Prop := MA E yX3_areOne cX3_areOne 3 (some .boolean) d mc ms argv σ post
abbrev MX3_init (E : VE) (d mc ms : Nat) (argv : List Value) (σ : Sg) (post : Option Value → Sg → Prop) : Prop := MA E yX3_init cX3_init 1 none d mc ms argv σ post
abbrev MX3_join (E : VE) (d mc ms : Nat) (argv : List Value) (σ : Sg) (post : Option Value → Sg → Prop) : Prop := MA E yX3_join cX3_join 6 none d mc ms argv σ post
abbrev MX4_firstWrong (E : VE) (d mc ms : Nat) (argv : List Value) (σ : Sg) (post : Option Value → Sg → Prop) : Prop := MA E yX4_firstWrong cX4_firstWrong 3 (some .int) d mc ms argv σ post
abbrev MX4_hoursOfRest (E : VE) (d mc ms : Nat) (argv : List Value) (σ : Sg) (post : Option Value → Sg → Prop) : Prop := MA E yX4_hoursOfRest cX4_hoursOfRest 3 (some .int) d mc ms argv σ post
abbrev MX4_init (E : VE) (d mc ms : Nat) (argv : List Value) (σ : Sg) (post : Option Value → Sg → Prop) : Prop := MA E yX4_init cX4_init 1 none d mc ms argv σ post
abbrev MX4_putDay (E : VE) (d mc ms : Nat) (argv : List Value) (σ : Sg) (post : Option Value → Sg → Prop) : Prop := MA E yX4_putDay cX4_putDay 3 none d mc ms argv σ post
abbrev MX4_restIn (E : VE) (d mc ms : Nat) (argv : List Value) (σ : Sg) (post : Option Value → Sg → Prop) : Prop := MA E yX4_restIn cX4_restIn 2 (some .int) d mc ms argv σ post
abbrev MX5_init (E : VE) (d mc ms : Nat) (argv : List Value) (σ : Sg) (post : Option Value → Sg → Prop) : Prop := MA E yX5_init cX5_init 5 none d mc ms argv σ post
abbrev MX5_isBanned (E : VE) (d mc ms : Nat) (argv : List Value) (σ : Sg) (post : Option Value → Sg → Prop) : Prop := MA E yX5_isBanned cX5_isBanned 1 (some .boolean) d mc ms argv σ post
abbrev MX5_setTrait (E : VE) (d mc ms : Nat) (argv : List Value) (σ : Sg) (post : Option Value → Sg → Prop) : Prop := MA E yX5_setTrait cX5_setTrait 4 none d mc ms argv σ post
abbrev MX5_traitOn (E : VE) (d mc ms : Nat) (argv : List Value) (σ : Sg) (post : Option Value → Sg → Prop) : Prop := MA E yX5_traitOn cX5_traitOn 4 (some .int) d mc ms argv σ post
abbrev MX6_add (E : VE) (d mc ms : Nat) (argv : List Value) (σ : Sg) (post : Option Value → Sg → Prop) : Prop := MA E yX6_add cX6_add 3 none d mc ms argv σ post
abbrev MX6_clear (E : VE) (d mc ms : Nat) (argv : List Value) (σ : Sg) (post : Option Value → Sg → Prop) : Prop := MA E yX6_clear cX6_clear 1 none d mc ms argv σ post
abbrev MX6_init (E : VE) (d mc ms : Nat) (argv : List Value) (σ : Sg) (post : Option Value → Sg → Prop) : Prop := MA E yX6_init cX6_init 1 none d mc ms argv σ post
abbrev MX6_isDark (E : VE) (d mc ms : Nat) (argv : List Value) (σ : Sg) (post : Option Value → Sg → Prop) : Prop := MA E yX6_isDark cX6_isDark 2 (some .boolean) d mc ms argv σ post
abbrev MX7_init (E : VE) (d mc ms : Nat) (argv : List Value) (σ : Sg) (post : Option Value → Sg → Prop) : Prop := MA E yX7_init cX7_init 1 none d mc ms argv σ post
abbrev MX7_put (E : VE) (d mc ms : Nat) (argv : List Value) (σ : Sg) (post : Option Value → Sg → Prop) : Prop := MA E yX7_put cX7_put 2 none d mc ms argv σ post
abbrev MX7_readGrave (E : VE) (d mc ms : Nat) (argv : List Value) (σ : Sg) (post : Option Value → Sg → Prop) : Prop := MA E yX7_readGrave cX7_readGrave 4 (some .boolean) d mc ms argv σ post
abbrev MX7_readInto (E : VE) (d mc ms : Nat) (argv : List Value) (σ : Sg) (post : Option Value → Sg → Prop) : Prop := MA E yX7_readInto cX7_readInto 4 (some .boolean) d mc ms argv σ post
abbrev MX7_readLimit (E : VE) (d mc ms : Nat) (argv : List Value) (σ : Sg) (post : Option Value → Sg → Prop) : Prop := MA E yX7_readLimit cX7_readLimit 4 (some .boolean) d mc ms argv σ post
abbrev MX7_readRow (E : VE) (d mc ms : Nat) (argv : List Value) (σ : Sg) (post : Option Value → Sg → Prop) : Prop := MA E yX7_readRow cX7_readRow 2 (some .boolean) d mc ms argv σ post
abbrev MX7_readWeight (E : VE) (d mc ms : Nat) (argv : List Value) (σ : Sg) (post : Option Value → Sg → Prop) : Prop := MA E yX7_readWeight cX7_readWeight 4 (some .boolean) d mc ms argv σ post
abbrev MX7_take (E : VE) (d mc ms : Nat) (argv : List Value) (σ : Sg) (post : Option Value → Sg → Prop) : Prop := MA E yX7_take cX7_take 2 (some .boolean) d mc ms argv σ post
abbrev MX7_takeDigit (E : VE) (d mc ms : Nat) (argv : List Value) (σ : Sg) (post : Option Value → Sg → Prop) : Prop := MA E yX7_takeDigit cX7_takeDigit 1 (some .int) d mc ms argv σ post
abbrev MX7_takeKind (E : VE) (d mc ms : Nat) (argv : List Value) (σ : Sg) (post : Option Value → Sg → Prop) : Prop := MA E yX7_takeKind cX7_takeKind 1 (some .int) d mc ms argv σ post
abbrev MX8_init (E : VE) (d mc ms : Nat) (argv : List Value) (σ : Sg) (post : Option Value → Sg → Prop) : Prop := MA E yX8_init cX8_init 4 none d mc ms argv σ post
abbrev MX9_addGrave (E : VE) (d mc ms : Nat) (argv : List Value) (σ : Sg) (post : Option Value → Sg → Prop) : Prop := MA E yX9_addGrave cX9_addGrave 4 none d mc ms argv σ post
abbrev MX9_holdsFor (E : VE) (d mc ms : Nat) (argv : List Value) (σ : Sg) (post : Option Value → Sg → Prop) : Prop := MA E yX9_holdsFor cX9_holdsFor 5 (some .boolean) d mc ms argv σ post
abbrev MX9_init (E : VE) (d mc ms : Nat) (argv : List Value) (σ : Sg) (post : Option Value → Sg → Prop) : Prop := MA E yX9_init cX9_init 2 none d mc ms argv σ post
end
