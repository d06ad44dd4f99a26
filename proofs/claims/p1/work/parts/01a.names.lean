-- ===== PART A: goes FIRST, ahead of the names: the tables' words, and 'selects' of the private methods out of them =====
/-- a private method of a class that the tables say can be made, by its rows of tables_1 -/
def lw_okq (q : MethodName × Nat) : Prop := (q.1.cls ≠ "java/lang/invoke/MethodHandle" ∧ q.1.cls ≠ "java/lang/invoke/VarHandle") ∧ Cond.instantiable q.1.cls q.2 ∈ tables_1 ∧ Cond.privateMethod q.1 ∈ tables_1 ∧ Cond.instanceMethod q.1 ∈ tables_1
theorem lw_p0 : lw_okq (⟨"ClaimBus", "nameIsThere", "(II)Z"⟩, 8) := ⟨⟨by decide +kernel, by decide +kernel⟩, List.mem_of_getElem? (i := 23) (by decide +kernel), List.mem_of_getElem? (i := 127) (by decide +kernel), List.mem_of_getElem? (i := 128) (by decide +kernel)⟩
theorem lw_p1 : lw_okq (⟨"ClaimBus", "find", "(I)LClaimBus$Node;"⟩, 8) := ⟨⟨by decide +kernel, by decide +kernel⟩, List.mem_of_getElem? (i := 23) (by decide +kernel), List.mem_of_getElem? (i := 131) (by decide +kernel), List.mem_of_getElem? (i := 132) (by decide +kernel)⟩
theorem lw_p2 : lw_okq (⟨"ClaimBus$Node", "dropAll", "()V"⟩, 18) := ⟨⟨by decide +kernel, by decide +kernel⟩, List.mem_of_getElem? (i := 134) (by decide +kernel), List.mem_of_getElem? (i := 337) (by decide +kernel), List.mem_of_getElem? (i := 338) (by decide +kernel)⟩
theorem lw_p3 : lw_okq (⟨"ClaimBus$Row", "lengthen", "(LClaimBus$Chunk;)V"⟩, 12) := ⟨⟨by decide +kernel, by decide +kernel⟩, List.mem_of_getElem? (i := 206) (by decide +kernel), List.mem_of_getElem? (i := 404) (by decide +kernel), List.mem_of_getElem? (i := 405) (by decide +kernel)⟩
theorem lw_p4 : lw_okq (⟨"java/util/ArrayList", "add", "(Ljava/lang/Object;[Ljava/lang/Object;I)V"⟩, 3) := ⟨⟨by decide +kernel, by decide +kernel⟩, List.mem_of_getElem? (i := 39) (by decide +kernel), List.mem_of_getElem? (i := 463) (by decide +kernel), List.mem_of_getElem? (i := 464) (by decide +kernel)⟩
theorem lw_p5 : lw_okq (⟨"java/util/ArrayList", "grow", "()[Ljava/lang/Object;"⟩, 3) := ⟨⟨by decide +kernel, by decide +kernel⟩, List.mem_of_getElem? (i := 39) (by decide +kernel), List.mem_of_getElem? (i := 467) (by decide +kernel), List.mem_of_getElem? (i := 468) (by decide +kernel)⟩
theorem lw_p6 : lw_okq (⟨"java/util/ArrayList", "grow", "(I)[Ljava/lang/Object;"⟩, 3) := ⟨⟨by decide +kernel, by decide +kernel⟩, List.mem_of_getElem? (i := 39) (by decide +kernel), List.mem_of_getElem? (i := 471) (by decide +kernel), List.mem_of_getElem? (i := 472) (by decide +kernel)⟩
theorem lw_p7 : lw_okq (⟨"ClaimBus", "nextMoment", "(I)I"⟩, 8) := ⟨⟨by decide +kernel, by decide +kernel⟩, List.mem_of_getElem? (i := 23) (by decide +kernel), List.mem_of_getElem? (i := 558) (by decide +kernel), List.mem_of_getElem? (i := 559) (by decide +kernel)⟩
theorem lw_p8 : lw_okq (⟨"ClaimBus", "runTimers", "()V"⟩, 8) := ⟨⟨by decide +kernel, by decide +kernel⟩, List.mem_of_getElem? (i := 23) (by decide +kernel), List.mem_of_getElem? (i := 574) (by decide +kernel), List.mem_of_getElem? (i := 575) (by decide +kernel)⟩
theorem lw_p9 : lw_okq (⟨"ClaimBus$Node", "sendOn", "(I)V"⟩, 18) := ⟨⟨by decide +kernel, by decide +kernel⟩, List.mem_of_getElem? (i := 134) (by decide +kernel), List.mem_of_getElem? (i := 582) (by decide +kernel), List.mem_of_getElem? (i := 583) (by decide +kernel)⟩
theorem lw_p10 : lw_okq (⟨"ClaimBus$Node", "breakOff", "(LClaimBus$Message;II)V"⟩, 18) := ⟨⟨by decide +kernel, by decide +kernel⟩, List.mem_of_getElem? (i := 134) (by decide +kernel), List.mem_of_getElem? (i := 586) (by decide +kernel), List.mem_of_getElem? (i := 587) (by decide +kernel)⟩
theorem lw_p11 : lw_okq (⟨"ClaimBus$Node", "waitedTooLong", "(LClaimBus$Transport;I)V"⟩, 18) := ⟨⟨by decide +kernel, by decide +kernel⟩, List.mem_of_getElem? (i := 134) (by decide +kernel), List.mem_of_getElem? (i := 594) (by decide +kernel), List.mem_of_getElem? (i := 595) (by decide +kernel)⟩
theorem lw_p12 : lw_okq (⟨"ClaimBus$Node", "clearNext", "(LClaimBus$Transport;I)V"⟩, 18) := ⟨⟨by decide +kernel, by decide +kernel⟩, List.mem_of_getElem? (i := 134) (by decide +kernel), List.mem_of_getElem? (i := 598) (by decide +kernel), List.mem_of_getElem? (i := 599) (by decide +kernel)⟩
theorem lw_p13 : lw_okq (⟨"ClaimBus", "carryFrame", "()V"⟩, 8) := ⟨⟨by decide +kernel, by decide +kernel⟩, List.mem_of_getElem? (i := 23) (by decide +kernel), List.mem_of_getElem? (i := 602) (by decide +kernel), List.mem_of_getElem? (i := 603) (by decide +kernel)⟩
theorem lw_p14 : lw_okq (⟨"ClaimBus", "firstToSend", "()I"⟩, 8) := ⟨⟨by decide +kernel, by decide +kernel⟩, List.mem_of_getElem? (i := 23) (by decide +kernel), List.mem_of_getElem? (i := 606) (by decide +kernel), List.mem_of_getElem? (i := 607) (by decide +kernel)⟩
theorem lw_p15 : lw_okq (⟨"ClaimBus$Row", "writeFirst", "(I)V"⟩, 12) := ⟨⟨by decide +kernel, by decide +kernel⟩, List.mem_of_getElem? (i := 206) (by decide +kernel), List.mem_of_getElem? (i := 615) (by decide +kernel), List.mem_of_getElem? (i := 616) (by decide +kernel)⟩
def lw_privs_1 : List (MethodName × Nat) := [(⟨"ClaimBus", "nameIsThere", "(II)Z"⟩, 8), (⟨"ClaimBus", "find", "(I)LClaimBus$Node;"⟩, 8), (⟨"ClaimBus$Node", "dropAll", "()V"⟩, 18), (⟨"ClaimBus$Row", "lengthen", "(LClaimBus$Chunk;)V"⟩, 12), (⟨"java/util/ArrayList", "add", "(Ljava/lang/Object;[Ljava/lang/Object;I)V"⟩, 3), (⟨"java/util/ArrayList", "grow", "()[Ljava/lang/Object;"⟩, 3), (⟨"java/util/ArrayList", "grow", "(I)[Ljava/lang/Object;"⟩, 3), (⟨"ClaimBus", "nextMoment", "(I)I"⟩, 8), (⟨"ClaimBus", "runTimers", "()V"⟩, 8), (⟨"ClaimBus$Node", "sendOn", "(I)V"⟩, 18), (⟨"ClaimBus$Node", "breakOff", "(LClaimBus$Message;II)V"⟩, 18), (⟨"ClaimBus$Node", "waitedTooLong", "(LClaimBus$Transport;I)V"⟩, 18), (⟨"ClaimBus$Node", "clearNext", "(LClaimBus$Transport;I)V"⟩, 18), (⟨"ClaimBus", "carryFrame", "()V"⟩, 8), (⟨"ClaimBus", "firstToSend", "()I"⟩, 8), (⟨"ClaimBus$Row", "writeFirst", "(I)V"⟩, 12)]
theorem lw_r1 : ∀ q ∈ lw_privs_1, lw_okq q := List.forall_mem_cons.mpr ⟨lw_p0, List.forall_mem_cons.mpr ⟨lw_p1, List.forall_mem_cons.mpr ⟨lw_p2, List.forall_mem_cons.mpr ⟨lw_p3, List.forall_mem_cons.mpr ⟨lw_p4, List.forall_mem_cons.mpr ⟨lw_p5, List.forall_mem_cons.mpr ⟨lw_p6, List.forall_mem_cons.mpr ⟨lw_p7, List.forall_mem_cons.mpr ⟨lw_p8, List.forall_mem_cons.mpr ⟨lw_p9, List.forall_mem_cons.mpr ⟨lw_p10, List.forall_mem_cons.mpr ⟨lw_p11, List.forall_mem_cons.mpr ⟨lw_p12, List.forall_mem_cons.mpr ⟨lw_p13, List.forall_mem_cons.mpr ⟨lw_p14, List.forall_mem_cons.mpr ⟨lw_p15, fun _ h => absurd h List.not_mem_nil⟩⟩⟩⟩⟩⟩⟩⟩⟩⟩⟩⟩⟩⟩⟩⟩
theorem lw_p16 : lw_okq (⟨"ClaimBus$Row", "firstEntry", "()J"⟩, 12) := ⟨⟨by decide +kernel, by decide +kernel⟩, List.mem_of_getElem? (i := 206) (by decide +kernel), List.mem_of_getElem? (i := 624) (by decide +kernel), List.mem_of_getElem? (i := 625) (by decide +kernel)⟩
theorem lw_p17 : lw_okq (⟨"ClaimBus$Row", "removeFromFirstEntry", "()V"⟩, 12) := ⟨⟨by decide +kernel, by decide +kernel⟩, List.mem_of_getElem? (i := 206) (by decide +kernel), List.mem_of_getElem? (i := 689) (by decide +kernel), List.mem_of_getElem? (i := 690) (by decide +kernel)⟩
theorem lw_p18 : lw_okq (⟨"ClaimBus$Node", "hearClaim", "(LClaimBus$Frame;I)V"⟩, 18) := ⟨⟨by decide +kernel, by decide +kernel⟩, List.mem_of_getElem? (i := 134) (by decide +kernel), List.mem_of_getElem? (i := 698) (by decide +kernel), List.mem_of_getElem? (i := 699) (by decide +kernel)⟩
theorem lw_p19 : lw_okq (⟨"ClaimBus$Node", "goesBeforeName", "(II)Z"⟩, 18) := ⟨⟨by decide +kernel, by decide +kernel⟩, List.mem_of_getElem? (i := 134) (by decide +kernel), List.mem_of_getElem? (i := 710) (by decide +kernel), List.mem_of_getElem? (i := 711) (by decide +kernel)⟩
theorem lw_p20 : lw_okq (⟨"ClaimBus$Node", "nextFreeAddress", "()I"⟩, 18) := ⟨⟨by decide +kernel, by decide +kernel⟩, List.mem_of_getElem? (i := 134) (by decide +kernel), List.mem_of_getElem? (i := 718) (by decide +kernel), List.mem_of_getElem? (i := 719) (by decide +kernel)⟩
theorem lw_p21 : lw_okq (⟨"ClaimBus$Node", "hearControl", "(LClaimBus$Frame;I)V"⟩, 18) := ⟨⟨by decide +kernel, by decide +kernel⟩, List.mem_of_getElem? (i := 134) (by decide +kernel), List.mem_of_getElem? (i := 731) (by decide +kernel), List.mem_of_getElem? (i := 732) (by decide +kernel)⟩
theorem lw_p22 : lw_okq (⟨"ClaimBus$Node", "placeFor", "(I)LClaimBus$Transport;"⟩, 18) := ⟨⟨by decide +kernel, by decide +kernel⟩, List.mem_of_getElem? (i := 134) (by decide +kernel), List.mem_of_getElem? (i := 744) (by decide +kernel), List.mem_of_getElem? (i := 745) (by decide +kernel)⟩
theorem lw_p23 : lw_okq (⟨"ClaimBus$Node", "gotFrom", "(I)LClaimBus$Transport;"⟩, 18) := ⟨⟨by decide +kernel, by decide +kernel⟩, List.mem_of_getElem? (i := 134) (by decide +kernel), List.mem_of_getElem? (i := 748) (by decide +kernel), List.mem_of_getElem? (i := 749) (by decide +kernel)⟩
theorem lw_p24 : lw_okq (⟨"ClaimBus$Node", "beginCollecting", "(LClaimBus$Frame;I)V"⟩, 18) := ⟨⟨by decide +kernel, by decide +kernel⟩, List.mem_of_getElem? (i := 134) (by decide +kernel), List.mem_of_getElem? (i := 822) (by decide +kernel), List.mem_of_getElem? (i := 823) (by decide +kernel)⟩
theorem lw_p25 : lw_okq (⟨"ClaimBus$Node", "collectedFrom", "(I)LClaimBus$Transport;"⟩, 18) := ⟨⟨by decide +kernel, by decide +kernel⟩, List.mem_of_getElem? (i := 134) (by decide +kernel), List.mem_of_getElem? (i := 826) (by decide +kernel), List.mem_of_getElem? (i := 827) (by decide +kernel)⟩
theorem lw_p26 : lw_okq (⟨"ClaimBus$Node", "sendCleared", "(III)V"⟩, 18) := ⟨⟨by decide +kernel, by decide +kernel⟩, List.mem_of_getElem? (i := 134) (by decide +kernel), List.mem_of_getElem? (i := 831) (by decide +kernel), List.mem_of_getElem? (i := 832) (by decide +kernel)⟩
theorem lw_p27 : lw_okq (⟨"ClaimBus$Node", "dropGot", "(II)V"⟩, 18) := ⟨⟨by decide +kernel, by decide +kernel⟩, List.mem_of_getElem? (i := 134) (by decide +kernel), List.mem_of_getElem? (i := 835) (by decide +kernel), List.mem_of_getElem? (i := 836) (by decide +kernel)⟩
theorem lw_p28 : lw_okq (⟨"ClaimBus$Inbox", "enter", "(IIII)V"⟩, 4) := ⟨⟨by decide +kernel, by decide +kernel⟩, List.mem_of_getElem? (i := 179) (by decide +kernel), List.mem_of_getElem? (i := 850) (by decide +kernel), List.mem_of_getElem? (i := 851) (by decide +kernel)⟩
theorem lw_p29 : lw_okq (⟨"ClaimBus$Inbox", "listOf", "(I)[I"⟩, 4) := ⟨⟨by decide +kernel, by decide +kernel⟩, List.mem_of_getElem? (i := 179) (by decide +kernel), List.mem_of_getElem? (i := 855) (by decide +kernel), List.mem_of_getElem? (i := 856) (by decide +kernel)⟩
theorem lw_p30 : lw_okq (⟨"ClaimBus$Node", "collectPacket", "(LClaimBus$Frame;I)V"⟩, 18) := ⟨⟨by decide +kernel, by decide +kernel⟩, List.mem_of_getElem? (i := 134) (by decide +kernel), List.mem_of_getElem? (i := 864) (by decide +kernel), List.mem_of_getElem? (i := 865) (by decide +kernel)⟩
theorem lw_p31 : lw_okq (⟨"ClaimBus$Transport", "takeByte", "(II)V"⟩, 14) := ⟨⟨by decide +kernel, by decide +kernel⟩, List.mem_of_getElem? (i := 751) (by decide +kernel), List.mem_of_getElem? (i := 872) (by decide +kernel), List.mem_of_getElem? (i := 873) (by decide +kernel)⟩
def lw_privs_2 : List (MethodName × Nat) := [(⟨"ClaimBus$Row", "firstEntry", "()J"⟩, 12), (⟨"ClaimBus$Row", "removeFromFirstEntry", "()V"⟩, 12), (⟨"ClaimBus$Node", "hearClaim", "(LClaimBus$Frame;I)V"⟩, 18), (⟨"ClaimBus$Node", "goesBeforeName", "(II)Z"⟩, 18), (⟨"ClaimBus$Node", "nextFreeAddress", "()I"⟩, 18), (⟨"ClaimBus$Node", "hearControl", "(LClaimBus$Frame;I)V"⟩, 18), (⟨"ClaimBus$Node", "placeFor", "(I)LClaimBus$Transport;"⟩, 18), (⟨"ClaimBus$Node", "gotFrom", "(I)LClaimBus$Transport;"⟩, 18), (⟨"ClaimBus$Node", "beginCollecting", "(LClaimBus$Frame;I)V"⟩, 18), (⟨"ClaimBus$Node", "collectedFrom", "(I)LClaimBus$Transport;"⟩, 18), (⟨"ClaimBus$Node", "sendCleared", "(III)V"⟩, 18), (⟨"ClaimBus$Node", "dropGot", "(II)V"⟩, 18), (⟨"ClaimBus$Inbox", "enter", "(IIII)V"⟩, 4), (⟨"ClaimBus$Inbox", "listOf", "(I)[I"⟩, 4), (⟨"ClaimBus$Node", "collectPacket", "(LClaimBus$Frame;I)V"⟩, 18), (⟨"ClaimBus$Transport", "takeByte", "(II)V"⟩, 14)]
theorem lw_r2 : ∀ q ∈ lw_privs_2, lw_okq q := List.forall_mem_cons.mpr ⟨lw_p16, List.forall_mem_cons.mpr ⟨lw_p17, List.forall_mem_cons.mpr ⟨lw_p18, List.forall_mem_cons.mpr ⟨lw_p19, List.forall_mem_cons.mpr ⟨lw_p20, List.forall_mem_cons.mpr ⟨lw_p21, List.forall_mem_cons.mpr ⟨lw_p22, List.forall_mem_cons.mpr ⟨lw_p23, List.forall_mem_cons.mpr ⟨lw_p24, List.forall_mem_cons.mpr ⟨lw_p25, List.forall_mem_cons.mpr ⟨lw_p26, List.forall_mem_cons.mpr ⟨lw_p27, List.forall_mem_cons.mpr ⟨lw_p28, List.forall_mem_cons.mpr ⟨lw_p29, List.forall_mem_cons.mpr ⟨lw_p30, List.forall_mem_cons.mpr ⟨lw_p31, fun _ h => absurd h List.not_mem_nil⟩⟩⟩⟩⟩⟩⟩⟩⟩⟩⟩⟩⟩⟩⟩⟩
theorem lw_p32 : lw_okq (⟨"ClaimBus$Inbox", "keepTroubles", "([ILClaimBus$Transport;)V"⟩, 4) := ⟨⟨by decide +kernel, by decide +kernel⟩, List.mem_of_getElem? (i := 179) (by decide +kernel), List.mem_of_getElem? (i := 885) (by decide +kernel), List.mem_of_getElem? (i := 886) (by decide +kernel)⟩
theorem lw_p33 : lw_okq (⟨"ClaimBus$Node", "getPacket", "(LClaimBus$Frame;I)V"⟩, 18) := ⟨⟨by decide +kernel, by decide +kernel⟩, List.mem_of_getElem? (i := 134) (by decide +kernel), List.mem_of_getElem? (i := 895) (by decide +kernel), List.mem_of_getElem? (i := 896) (by decide +kernel)⟩
theorem lw_p34 : lw_okq (⟨"ClaimBus", "isDisturbed", "()Z"⟩, 8) := ⟨⟨by decide +kernel, by decide +kernel⟩, List.mem_of_getElem? (i := 23) (by decide +kernel), List.mem_of_getElem? (i := 937) (by decide +kernel), List.mem_of_getElem? (i := 938) (by decide +kernel)⟩
theorem lw_p35 : lw_okq (⟨"ClaimBus", "addressesAreApart", "()Z"⟩, 8) := ⟨⟨by decide +kernel, by decide +kernel⟩, List.mem_of_getElem? (i := 23) (by decide +kernel), List.mem_of_getElem? (i := 941) (by decide +kernel), List.mem_of_getElem? (i := 942) (by decide +kernel)⟩
theorem lw_p36 : lw_okq (⟨"ClaimBus", "messagesAreTrue", "()Z"⟩, 8) := ⟨⟨by decide +kernel, by decide +kernel⟩, List.mem_of_getElem? (i := 23) (by decide +kernel), List.mem_of_getElem? (i := 949) (by decide +kernel), List.mem_of_getElem? (i := 950) (by decide +kernel)⟩
theorem lw_p37 : lw_okq (⟨"ClaimBus", "nodesWithAddress", "()I"⟩, 8) := ⟨⟨by decide +kernel, by decide +kernel⟩, List.mem_of_getElem? (i := 23) (by decide +kernel), List.mem_of_getElem? (i := 957) (by decide +kernel), List.mem_of_getElem? (i := 958) (by decide +kernel)⟩
theorem lw_p38 : lw_okq (⟨"ClaimBusModel", "isNode", "(I)Z"⟩, 63) := ⟨⟨by decide +kernel, by decide +kernel⟩, List.mem_of_getElem? (i := 961) (by decide +kernel), List.mem_of_getElem? (i := 1173) (by decide +kernel), List.mem_of_getElem? (i := 1174) (by decide +kernel)⟩
theorem lw_p39 : lw_okq (⟨"ClaimBusModel", "putClaim", "(I)V"⟩, 63) := ⟨⟨by decide +kernel, by decide +kernel⟩, List.mem_of_getElem? (i := 961) (by decide +kernel), List.mem_of_getElem? (i := 1177) (by decide +kernel), List.mem_of_getElem? (i := 1178) (by decide +kernel)⟩
theorem lw_p40 : lw_okq (⟨"ClaimBusModel", "lay", "(IIII)I"⟩, 63) := ⟨⟨by decide +kernel, by decide +kernel⟩, List.mem_of_getElem? (i := 961) (by decide +kernel), List.mem_of_getElem? (i := 1184) (by decide +kernel), List.mem_of_getElem? (i := 1185) (by decide +kernel)⟩
theorem lw_p41 : lw_okq (⟨"ClaimBusModel", "dropAll", "(I)V"⟩, 63) := ⟨⟨by decide +kernel, by decide +kernel⟩, List.mem_of_getElem? (i := 961) (by decide +kernel), List.mem_of_getElem? (i := 1192) (by decide +kernel), List.mem_of_getElem? (i := 1193) (by decide +kernel)⟩
theorem lw_p42 : lw_okq (⟨"ClaimBusModel", "release", "(I)V"⟩, 63) := ⟨⟨by decide +kernel, by decide +kernel⟩, List.mem_of_getElem? (i := 961) (by decide +kernel), List.mem_of_getElem? (i := 1196) (by decide +kernel), List.mem_of_getElem? (i := 1197) (by decide +kernel)⟩
theorem lw_p43 : lw_okq (⟨"ClaimBusModel", "put", "(IIII)V"⟩, 63) := ⟨⟨by decide +kernel, by decide +kernel⟩, List.mem_of_getElem? (i := 961) (by decide +kernel), List.mem_of_getElem? (i := 1207) (by decide +kernel), List.mem_of_getElem? (i := 1208) (by decide +kernel)⟩
theorem lw_p44 : lw_okq (⟨"ClaimBusModel", "canSend", "(I)Z"⟩, 63) := ⟨⟨by decide +kernel, by decide +kernel⟩, List.mem_of_getElem? (i := 961) (by decide +kernel), List.mem_of_getElem? (i := 1215) (by decide +kernel), List.mem_of_getElem? (i := 1216) (by decide +kernel)⟩
theorem lw_p45 : lw_okq (⟨"ClaimBusModel", "sendRow", "(IIIIII)V"⟩, 63) := ⟨⟨by decide +kernel, by decide +kernel⟩, List.mem_of_getElem? (i := 961) (by decide +kernel), List.mem_of_getElem? (i := 1220) (by decide +kernel), List.mem_of_getElem? (i := 1221) (by decide +kernel)⟩
theorem lw_p46 : lw_okq (⟨"ClaimBusModel", "packetsOf", "(I)I"⟩, 63) := ⟨⟨by decide +kernel, by decide +kernel⟩, List.mem_of_getElem? (i := 961) (by decide +kernel), List.mem_of_getElem? (i := 1224) (by decide +kernel), List.mem_of_getElem? (i := 1225) (by decide +kernel)⟩
theorem lw_p47 : lw_okq (⟨"ClaimBusModel", "control", "(IIIIIIII)V"⟩, 63) := ⟨⟨by decide +kernel, by decide +kernel⟩, List.mem_of_getElem? (i := 961) (by decide +kernel), List.mem_of_getElem? (i := 1228) (by decide +kernel), List.mem_of_getElem? (i := 1229) (by decide +kernel)⟩
def lw_privs_3 : List (MethodName × Nat) := [(⟨"ClaimBus$Inbox", "keepTroubles", "([ILClaimBus$Transport;)V"⟩, 4), (⟨"ClaimBus$Node", "getPacket", "(LClaimBus$Frame;I)V"⟩, 18), (⟨"ClaimBus", "isDisturbed", "()Z"⟩, 8), (⟨"ClaimBus", "addressesAreApart", "()Z"⟩, 8), (⟨"ClaimBus", "messagesAreTrue", "()Z"⟩, 8), (⟨"ClaimBus", "nodesWithAddress", "()I"⟩, 8), (⟨"ClaimBusModel", "isNode", "(I)Z"⟩, 63), (⟨"ClaimBusModel", "putClaim", "(I)V"⟩, 63), (⟨"ClaimBusModel", "lay", "(IIII)I"⟩, 63), (⟨"ClaimBusModel", "dropAll", "(I)V"⟩, 63), (⟨"ClaimBusModel", "release", "(I)V"⟩, 63), (⟨"ClaimBusModel", "put", "(IIII)V"⟩, 63), (⟨"ClaimBusModel", "canSend", "(I)Z"⟩, 63), (⟨"ClaimBusModel", "sendRow", "(IIIIII)V"⟩, 63), (⟨"ClaimBusModel", "packetsOf", "(I)I"⟩, 63), (⟨"ClaimBusModel", "control", "(IIIIIIII)V"⟩, 63)]
theorem lw_r3 : ∀ q ∈ lw_privs_3, lw_okq q := List.forall_mem_cons.mpr ⟨lw_p32, List.forall_mem_cons.mpr ⟨lw_p33, List.forall_mem_cons.mpr ⟨lw_p34, List.forall_mem_cons.mpr ⟨lw_p35, List.forall_mem_cons.mpr ⟨lw_p36, List.forall_mem_cons.mpr ⟨lw_p37, List.forall_mem_cons.mpr ⟨lw_p38, List.forall_mem_cons.mpr ⟨lw_p39, List.forall_mem_cons.mpr ⟨lw_p40, List.forall_mem_cons.mpr ⟨lw_p41, List.forall_mem_cons.mpr ⟨lw_p42, List.forall_mem_cons.mpr ⟨lw_p43, List.forall_mem_cons.mpr ⟨lw_p44, List.forall_mem_cons.mpr ⟨lw_p45, List.forall_mem_cons.mpr ⟨lw_p46, List.forall_mem_cons.mpr ⟨lw_p47, fun _ h => absurd h List.not_mem_nil⟩⟩⟩⟩⟩⟩⟩⟩⟩⟩⟩⟩⟩⟩⟩⟩
theorem lw_p48 : lw_okq (⟨"ClaimBusModel", "timers", "(I)V"⟩, 63) := ⟨⟨by decide +kernel, by decide +kernel⟩, List.mem_of_getElem? (i := 961) (by decide +kernel), List.mem_of_getElem? (i := 1250) (by decide +kernel), List.mem_of_getElem? (i := 1251) (by decide +kernel)⟩
theorem lw_p49 : lw_okq (⟨"ClaimBusModel", "putPacket", "(II)V"⟩, 63) := ⟨⟨by decide +kernel, by decide +kernel⟩, List.mem_of_getElem? (i := 961) (by decide +kernel), List.mem_of_getElem? (i := 1254) (by decide +kernel), List.mem_of_getElem? (i := 1255) (by decide +kernel)⟩
theorem lw_p50 : lw_okq (⟨"ClaimBusModel", "nextGot", "(II)I"⟩, 63) := ⟨⟨by decide +kernel, by decide +kernel⟩, List.mem_of_getElem? (i := 961) (by decide +kernel), List.mem_of_getElem? (i := 1258) (by decide +kernel), List.mem_of_getElem? (i := 1259) (by decide +kernel)⟩
theorem lw_p51 : lw_okq (⟨"ClaimBusModel", "late", "(II)V"⟩, 63) := ⟨⟨by decide +kernel, by decide +kernel⟩, List.mem_of_getElem? (i := 961) (by decide +kernel), List.mem_of_getElem? (i := 1262) (by decide +kernel), List.mem_of_getElem? (i := 1263) (by decide +kernel)⟩
theorem lw_p52 : lw_okq (⟨"ClaimBusModel", "clear", "(II)V"⟩, 63) := ⟨⟨by decide +kernel, by decide +kernel⟩, List.mem_of_getElem? (i := 961) (by decide +kernel), List.mem_of_getElem? (i := 1266) (by decide +kernel), List.mem_of_getElem? (i := 1267) (by decide +kernel)⟩
theorem lw_p53 : lw_okq (⟨"ClaimBusModel", "carry", "()V"⟩, 63) := ⟨⟨by decide +kernel, by decide +kernel⟩, List.mem_of_getElem? (i := 961) (by decide +kernel), List.mem_of_getElem? (i := 1270) (by decide +kernel), List.mem_of_getElem? (i := 1271) (by decide +kernel)⟩
theorem lw_p54 : lw_okq (⟨"ClaimBusModel", "goesBefore", "(II)Z"⟩, 63) := ⟨⟨by decide +kernel, by decide +kernel⟩, List.mem_of_getElem? (i := 961) (by decide +kernel), List.mem_of_getElem? (i := 1274) (by decide +kernel), List.mem_of_getElem? (i := 1275) (by decide +kernel)⟩
theorem lw_p55 : lw_okq (⟨"ClaimBusModel", "byteOf", "(III)I"⟩, 63) := ⟨⟨by decide +kernel, by decide +kernel⟩, List.mem_of_getElem? (i := 961) (by decide +kernel), List.mem_of_getElem? (i := 1278) (by decide +kernel), List.mem_of_getElem? (i := 1279) (by decide +kernel)⟩
theorem lw_p56 : lw_okq (⟨"ClaimBusModel", "comes", "(IIIII)V"⟩, 63) := ⟨⟨by decide +kernel, by decide +kernel⟩, List.mem_of_getElem? (i := 961) (by decide +kernel), List.mem_of_getElem? (i := 1282) (by decide +kernel), List.mem_of_getElem? (i := 1283) (by decide +kernel)⟩
theorem lw_p57 : lw_okq (⟨"ClaimBusModel", "claimCame", "(III)V"⟩, 63) := ⟨⟨by decide +kernel, by decide +kernel⟩, List.mem_of_getElem? (i := 961) (by decide +kernel), List.mem_of_getElem? (i := 1286) (by decide +kernel), List.mem_of_getElem? (i := 1287) (by decide +kernel)⟩
theorem lw_p58 : lw_okq (⟨"ClaimBusModel", "isLess", "(JJ)Z"⟩, 63) := ⟨⟨by decide +kernel, by decide +kernel⟩, List.mem_of_getElem? (i := 961) (by decide +kernel), List.mem_of_getElem? (i := 1290) (by decide +kernel), List.mem_of_getElem? (i := 1291) (by decide +kernel)⟩
theorem lw_p59 : lw_okq (⟨"ClaimBusModel", "nextAddress", "(I)I"⟩, 63) := ⟨⟨by decide +kernel, by decide +kernel⟩, List.mem_of_getElem? (i := 961) (by decide +kernel), List.mem_of_getElem? (i := 1294) (by decide +kernel), List.mem_of_getElem? (i := 1295) (by decide +kernel)⟩
theorem lw_p60 : lw_okq (⟨"ClaimBusModel", "packetCame", "(IIIZII)V"⟩, 63) := ⟨⟨by decide +kernel, by decide +kernel⟩, List.mem_of_getElem? (i := 961) (by decide +kernel), List.mem_of_getElem? (i := 1298) (by decide +kernel), List.mem_of_getElem? (i := 1299) (by decide +kernel)⟩
theorem lw_p61 : lw_okq (⟨"ClaimBusModel", "getting", "(IIZ)I"⟩, 63) := ⟨⟨by decide +kernel, by decide +kernel⟩, List.mem_of_getElem? (i := 961) (by decide +kernel), List.mem_of_getElem? (i := 1302) (by decide +kernel), List.mem_of_getElem? (i := 1303) (by decide +kernel)⟩
theorem lw_p62 : lw_okq (⟨"ClaimBusModel", "check", "(II)V"⟩, 63) := ⟨⟨by decide +kernel, by decide +kernel⟩, List.mem_of_getElem? (i := 961) (by decide +kernel), List.mem_of_getElem? (i := 1306) (by decide +kernel), List.mem_of_getElem? (i := 1307) (by decide +kernel)⟩
theorem lw_p63 : lw_okq (⟨"ClaimBusModel", "saidByte", "(III)I"⟩, 63) := ⟨⟨by decide +kernel, by decide +kernel⟩, List.mem_of_getElem? (i := 961) (by decide +kernel), List.mem_of_getElem? (i := 1310) (by decide +kernel), List.mem_of_getElem? (i := 1311) (by decide +kernel)⟩
def lw_privs_4 : List (MethodName × Nat) := [(⟨"ClaimBusModel", "timers", "(I)V"⟩, 63), (⟨"ClaimBusModel", "putPacket", "(II)V"⟩, 63), (⟨"ClaimBusModel", "nextGot", "(II)I"⟩, 63), (⟨"ClaimBusModel", "late", "(II)V"⟩, 63), (⟨"ClaimBusModel", "clear", "(II)V"⟩, 63), (⟨"ClaimBusModel", "carry", "()V"⟩, 63), (⟨"ClaimBusModel", "goesBefore", "(II)Z"⟩, 63), (⟨"ClaimBusModel", "byteOf", "(III)I"⟩, 63), (⟨"ClaimBusModel", "comes", "(IIIII)V"⟩, 63), (⟨"ClaimBusModel", "claimCame", "(III)V"⟩, 63), (⟨"ClaimBusModel", "isLess", "(JJ)Z"⟩, 63), (⟨"ClaimBusModel", "nextAddress", "(I)I"⟩, 63), (⟨"ClaimBusModel", "packetCame", "(IIIZII)V"⟩, 63), (⟨"ClaimBusModel", "getting", "(IIZ)I"⟩, 63), (⟨"ClaimBusModel", "check", "(II)V"⟩, 63), (⟨"ClaimBusModel", "saidByte", "(III)I"⟩, 63)]
theorem lw_r4 : ∀ q ∈ lw_privs_4, lw_okq q := List.forall_mem_cons.mpr ⟨lw_p48, List.forall_mem_cons.mpr ⟨lw_p49, List.forall_mem_cons.mpr ⟨lw_p50, List.forall_mem_cons.mpr ⟨lw_p51, List.forall_mem_cons.mpr ⟨lw_p52, List.forall_mem_cons.mpr ⟨lw_p53, List.forall_mem_cons.mpr ⟨lw_p54, List.forall_mem_cons.mpr ⟨lw_p55, List.forall_mem_cons.mpr ⟨lw_p56, List.forall_mem_cons.mpr ⟨lw_p57, List.forall_mem_cons.mpr ⟨lw_p58, List.forall_mem_cons.mpr ⟨lw_p59, List.forall_mem_cons.mpr ⟨lw_p60, List.forall_mem_cons.mpr ⟨lw_p61, List.forall_mem_cons.mpr ⟨lw_p62, List.forall_mem_cons.mpr ⟨lw_p63, fun _ h => absurd h List.not_mem_nil⟩⟩⟩⟩⟩⟩⟩⟩⟩⟩⟩⟩⟩⟩⟩⟩
theorem lw_p64 : lw_okq (⟨"ClaimBusModel", "messageCame", "(IIIII)V"⟩, 63) := ⟨⟨by decide +kernel, by decide +kernel⟩, List.mem_of_getElem? (i := 961) (by decide +kernel), List.mem_of_getElem? (i := 1314) (by decide +kernel), List.mem_of_getElem? (i := 1315) (by decide +kernel)⟩
theorem lw_p65 : lw_okq (⟨"ClaimBusModel", "keepTroubles", "(IIII)V"⟩, 63) := ⟨⟨by decide +kernel, by decide +kernel⟩, List.mem_of_getElem? (i := 961) (by decide +kernel), List.mem_of_getElem? (i := 1318) (by decide +kernel), List.mem_of_getElem? (i := 1319) (by decide +kernel)⟩
theorem lw_p66 : lw_okq (⟨"ClaimBusModel", "controlCame", "(IIZII)V"⟩, 63) := ⟨⟨by decide +kernel, by decide +kernel⟩, List.mem_of_getElem? (i := 961) (by decide +kernel), List.mem_of_getElem? (i := 1322) (by decide +kernel), List.mem_of_getElem? (i := 1323) (by decide +kernel)⟩
theorem lw_p67 : lw_okq (⟨"ClaimBusModel", "begin", "(IIZIII)I"⟩, 63) := ⟨⟨by decide +kernel, by decide +kernel⟩, List.mem_of_getElem? (i := 961) (by decide +kernel), List.mem_of_getElem? (i := 1326) (by decide +kernel), List.mem_of_getElem? (i := 1327) (by decide +kernel)⟩
theorem lw_p68 : lw_okq (⟨"ClaimBusModel", "freePlace", "(I)I"⟩, 63) := ⟨⟨by decide +kernel, by decide +kernel⟩, List.mem_of_getElem? (i := 961) (by decide +kernel), List.mem_of_getElem? (i := 1330) (by decide +kernel), List.mem_of_getElem? (i := 1331) (by decide +kernel)⟩
theorem lw_p69 : lw_okq (⟨"ClaimBusModel", "ones", "(I)I"⟩, 63) := ⟨⟨by decide +kernel, by decide +kernel⟩, List.mem_of_getElem? (i := 961) (by decide +kernel), List.mem_of_getElem? (i := 1334) (by decide +kernel), List.mem_of_getElem? (i := 1335) (by decide +kernel)⟩
theorem lw_p70 : lw_okq (⟨"ClaimBusModel", "putPackets", "(III)V"⟩, 63) := ⟨⟨by decide +kernel, by decide +kernel⟩, List.mem_of_getElem? (i := 961) (by decide +kernel), List.mem_of_getElem? (i := 1338) (by decide +kernel), List.mem_of_getElem? (i := 1339) (by decide +kernel)⟩
def lw_privs_5 : List (MethodName × Nat) := [(⟨"ClaimBusModel", "messageCame", "(IIIII)V"⟩, 63), (⟨"ClaimBusModel", "keepTroubles", "(IIII)V"⟩, 63), (⟨"ClaimBusModel", "controlCame", "(IIZII)V"⟩, 63), (⟨"ClaimBusModel", "begin", "(IIZIII)I"⟩, 63), (⟨"ClaimBusModel", "freePlace", "(I)I"⟩, 63), (⟨"ClaimBusModel", "ones", "(I)I"⟩, 63), (⟨"ClaimBusModel", "putPackets", "(III)V"⟩, 63)]
theorem lw_r5 : ∀ q ∈ lw_privs_5, lw_okq q := List.forall_mem_cons.mpr ⟨lw_p64, List.forall_mem_cons.mpr ⟨lw_p65, List.forall_mem_cons.mpr ⟨lw_p66, List.forall_mem_cons.mpr ⟨lw_p67, List.forall_mem_cons.mpr ⟨lw_p68, List.forall_mem_cons.mpr ⟨lw_p69, List.forall_mem_cons.mpr ⟨lw_p70, fun _ h => absurd h List.not_mem_nil⟩⟩⟩⟩⟩⟩⟩
def lw_privs : List (MethodName × Nat) := lw_privs_1 ++ (lw_privs_2 ++ (lw_privs_3 ++ (lw_privs_4 ++ (lw_privs_5))))
def lw_tbl : List Cond := k2_sels lw_privs ++ tables_1
theorem lw_privs_ok : ∀ q ∈ lw_privs, lw_okq q := by
  show ∀ q ∈ lw_privs_1 ++ (lw_privs_2 ++ (lw_privs_3 ++ (lw_privs_4 ++ (lw_privs_5)))), lw_okq q
  exact List.forall_mem_append.mpr ⟨lw_r1, List.forall_mem_append.mpr ⟨lw_r2, List.forall_mem_append.mpr ⟨lw_r3, List.forall_mem_append.mpr ⟨lw_r4, lw_r5⟩⟩⟩⟩

/-! ===== BEGIN words of one list among another's, by their places ===== -/
theorem goodIn_r {big : List Cond} (ws : List Cond) (ps : List Nat) (hp : ws = ps.filterMap (fun i => big[i]?)) (h : ws.all goodWord = true) : GoodIn big ws := by
  intro w hw
  have h1 := List.all_eq_true.mp h w hw
  rw [hp] at hw
  obtain ⟨i, -, hi⟩ := List.mem_filterMap.mp hw
  have hm : w ∈ big := by first | exact List.mem_of_getElem? hi | exact List.getElem?_mem hi
  exact ⟨hm, good_of_word h1⟩
theorem goodIn_app {big a b : List Cond} (ha : GoodIn big a) (hb : GoodIn big b) : GoodIn big (a ++ b) := fun w h => (List.mem_append.mp h).elim (ha w) (hb w)
theorem goodIn_ca {big a b : List Cond} {c : Cond} (ha : GoodIn big (c :: a)) (hb : GoodIn big b) : GoodIn big (c :: (a ++ b)) := fun w h => (List.mem_cons.mp h).elim (fun e => ha w (List.mem_cons.mpr (Or.inl e))) (fun h => (List.mem_append.mp h).elim (fun h => ha w (List.mem_cons.mpr (Or.inr h))) (hb w))
theorem goodIn_sub {big ws : List Cond} (hm : ∀ w ∈ ws, w ∈ big) (h : ws.all goodWord = true) : GoodIn big ws := fun w hw => ⟨hm w hw, good_of_word (List.all_eq_true.mp h w hw)⟩
/-! ===== END ===== -/

/-! ===== BEGIN printed: names, fields, word lists, decode rows ===== -/
def RX0 : String := "ClaimBus$Chunk"
def TX0 : u_T := fun k => match k with
  | 0 => ("ClaimBus$Chunk", "entries", "[J", true)
  | _ => ("ClaimBus$Chunk", "next", "LClaimBus$Chunk;", false)
def tyX0 : Nat → FieldType := fun k => match k with
  | 0 => .array .long
  | _ => .object "ClaimBus$Chunk"
abbrev wsX00 : List Cond := u_ws RX0 TX0 2
theorem nmX0 : ∀ a, a < 2 → ∀ b, b < 2 → a ≠ b → (TX0 a).2.1 ≠ (TX0 b).2.1 := by decide +kernel
theorem tyX0_ok : ∀ k, k < 2 → parseFieldDescriptor (TX0 k).2.2.1 = some (tyX0 k) := by decide +kernel
abbrev cX0_init : ByteArray := prog_2_method_1_code
def yX0_init : MethodName := ⟨RX0, "<init>", "()V"⟩
def RX1 : String := "ClaimBus$Frame"
def TX1 : u_T := fun k => match k with
  | 0 => ("ClaimBus$Frame", "identifier", "I", false)
  | 1 => ("ClaimBus$Frame", "first", "I", false)
  | 2 => ("ClaimBus$Frame", "others", "I", false)
  | _ => ("ClaimBus$Frame", "whole", "LClaimBus$Message;", false)
def tyX1 : Nat → FieldType := fun k => match k with
  | 0 => .int
  | 1 => .int
  | 2 => .int
  | _ => .object "ClaimBus$Message"
abbrev wsX10 : List Cond := u_ws RX1 TX1 4
theorem nmX1 : ∀ a, a < 4 → ∀ b, b < 4 → a ≠ b → (TX1 a).2.1 ≠ (TX1 b).2.1 := by decide +kernel
theorem tyX1_ok : ∀ k, k < 4 → parseFieldDescriptor (TX1 k).2.2.1 = some (tyX1 k) := by decide +kernel
abbrev cX1_init : ByteArray := prog_3_method_1_code
def yX1_init : MethodName := ⟨RX1, "<init>", "()V"⟩
abbrev cX1_write : ByteArray := prog_3_method_2_code
def yX1_write : MethodName := ⟨RX1, "write", "(IIILClaimBus$Message;)V"⟩
abbrev cX1_takeOver : ByteArray := prog_3_method_3_code
def yX1_takeOver : MethodName := ⟨RX1, "takeOver", "(LClaimBus$Frame;)V"⟩
abbrev cX1_isOf : ByteArray := prog_3_method_4_code
def yX1_isOf : MethodName := ⟨RX1, "isOf", "(I)Z"⟩
abbrev cX1_isFor : ByteArray := prog_3_method_5_code
def yX1_isFor : MethodName := ⟨RX1, "isFor", "(I)Z"⟩
abbrev cX1_isForAll : ByteArray := prog_3_method_6_code
def yX1_isForAll : MethodName := ⟨RX1, "isForAll", "()Z"⟩
abbrev cX1_source : ByteArray := prog_3_method_7_code
def yX1_source : MethodName := ⟨RX1, "source", "()I"⟩
abbrev cX1_group : ByteArray := prog_3_method_8_code
def yX1_group : MethodName := ⟨RX1, "group", "()I"⟩
abbrev cX1_controlGroup : ByteArray := prog_3_method_9_code
def yX1_controlGroup : MethodName := ⟨RX1, "controlGroup", "()I"⟩
abbrev cX1_byteAt : ByteArray := prog_3_method_10_code
def yX1_byteAt : MethodName := ⟨RX1, "byteAt", "(I)I"⟩
abbrev cX1_goesBefore : ByteArray := prog_3_method_11_code
def yX1_goesBefore : MethodName := ⟨RX1, "goesBefore", "(LClaimBus$Frame;)Z"⟩
def RX2 : String := "ClaimBus$Inbox"
def TX2 : u_T := fun k => match k with
  | 0 => ("ClaimBus$Inbox", "came", "I", false)
  | 1 => ("ClaimBus$Inbox", "gotAnotherThanSent", "Z", false)
  | 2 => ("ClaimBus$Inbox", "log", "[I", true)
  | _ => ("ClaimBus$Inbox", "troubles", "[[I", true)
def tyX2 : Nat → FieldType := fun k => match k with
  | 0 => .int
  | 1 => .boolean
  | 2 => .array .int
  | _ => .array (.array .int)
abbrev wsX20 : List Cond := u_ws RX2 TX2 4
theorem nmX2 : ∀ a, a < 4 → ∀ b, b < 4 → a ≠ b → (TX2 a).2.1 ≠ (TX2 b).2.1 := by decide +kernel
theorem tyX2_ok : ∀ k, k < 4 → parseFieldDescriptor (TX2 k).2.2.1 = some (tyX2 k) := by decide +kernel
abbrev cX2_init : ByteArray := prog_4_method_1_code
def yX2_init : MethodName := ⟨RX2, "<init>", "()V"⟩
abbrev cX2_takeFrame : ByteArray := prog_4_method_2_code
def yX2_takeFrame : MethodName := ⟨RX2, "takeFrame", "(LClaimBus$Frame;)V"⟩
abbrev cX2_takeMessage : ByteArray := prog_4_method_3_code
def yX2_takeMessage : MethodName := ⟨RX2, "takeMessage", "(LClaimBus$Transport;)V"⟩
abbrev cX2_keepTroubles : ByteArray := prog_4_method_4_code
def yX2_keepTroubles : MethodName := ⟨RX2, "keepTroubles", "([ILClaimBus$Transport;)V"⟩
abbrev cX2_enter : ByteArray := prog_4_method_5_code
def yX2_enter : MethodName := ⟨RX2, "enter", "(IIII)V"⟩
abbrev cX2_listOf : ByteArray := prog_4_method_6_code
def yX2_listOf : MethodName := ⟨RX2, "listOf", "(I)[I"⟩
abbrev cX2_forgetTroubles : ByteArray := prog_4_method_7_code
def yX2_forgetTroubles : MethodName := ⟨RX2, "forgetTroubles", "()V"⟩
abbrev cX2_logged : ByteArray := prog_4_method_8_code
def yX2_logged : MethodName := ⟨RX2, "logged", "(II)I"⟩
abbrev cX2_keptTrouble : ByteArray := prog_4_method_9_code
def yX2_keptTrouble : MethodName := ⟨RX2, "keptTrouble", "(III)I"⟩
def RX3 : String := "ClaimBus$Message"
def TX3 : u_T := fun k => match k with
  | 0 => ("ClaimBus$Message", "index", "I", true)
  | 1 => ("ClaimBus$Message", "to", "I", true)
  | 2 => ("ClaimBus$Message", "group", "I", true)
  | 3 => ("ClaimBus$Message", "size", "I", true)
  | 4 => ("ClaimBus$Message", "seed", "I", true)
  | _ => ("ClaimBus$Message", "troubles", "[I", false)
def tyX3 : Nat → FieldType := fun k => match k with
  | 0 => .int
  | 1 => .int
  | 2 => .int
  | 3 => .int
  | 4 => .int
  | _ => .array .int
abbrev wsX30 : List Cond := u_ws RX3 TX3 6
theorem nmX3 : ∀ a, a < 6 → ∀ b, b < 6 → a ≠ b → (TX3 a).2.1 ≠ (TX3 b).2.1 := by decide +kernel
theorem tyX3_ok : ∀ k, k < 6 → parseFieldDescriptor (TX3 k).2.2.1 = some (tyX3 k) := by decide +kernel
abbrev cX3_init : ByteArray := prog_5_method_1_code
def yX3_init : MethodName := ⟨RX3, "<init>", "(IIIII)V"⟩
abbrev cX3_writeShort : ByteArray := prog_5_method_2_code
def yX3_writeShort : MethodName := ⟨RX3, "writeShort", "(LClaimBus$Frame;I)V"⟩
abbrev cX3_writePacket : ByteArray := prog_5_method_3_code
def yX3_writePacket : MethodName := ⟨RX3, "writePacket", "(LClaimBus$Frame;II)V"⟩
abbrev cX3_writeControl : ByteArray := prog_5_method_4_code
def yX3_writeControl : MethodName := ⟨RX3, "writeControl", "(LClaimBus$Frame;IIII)V"⟩
abbrev cX3_packets : ByteArray := prog_5_method_5_code
def yX3_packets : MethodName := ⟨RX3, "packets", "()I"⟩
abbrev cX3_fourFrom : ByteArray := prog_5_method_6_code
def yX3_fourFrom : MethodName := ⟨RX3, "fourFrom", "(I)I"⟩
abbrev cX3_byteAt : ByteArray := prog_5_method_7_code
def yX3_byteAt : MethodName := ⟨RX3, "byteAt", "(I)I"⟩
def RX4 : String := "ClaimBus$Node"
def TX4 : u_T := fun k => match k with
  | 0 => ("ClaimBus$Node", "high", "I", true)
  | 1 => ("ClaimBus$Node", "low", "I", true)
  | 2 => ("ClaimBus$Node", "wanted", "I", true)
  | 3 => ("ClaimBus$Node", "free", "Z", true)
  | 4 => ("ClaimBus$Node", "window", "I", true)
  | 5 => ("ClaimBus$Node", "row", "LClaimBus$Row;", true)
  | 6 => ("ClaimBus$Node", "table", "LClaimBus$Table;", true)
  | 7 => ("ClaimBus$Node", "sending", "LClaimBus$Sending;", true)
  | 8 => ("ClaimBus$Node", "inbox", "LClaimBus$Inbox;", true)
  | 9 => ("ClaimBus$Node", "gets", "[LClaimBus$Transport;", true)
  | 10 => ("ClaimBus$Node", "collects", "Ljava/util/ArrayList;", true)
  | 11 => ("ClaimBus$Node", "troubles", "[I", true)
  | 12 => ("ClaimBus$Node", "troubleCount", "I", false)
  | 13 => ("ClaimBus$Node", "state", "I", false)
  | 14 => ("ClaimBus$Node", "address", "I", false)
  | 15 => ("ClaimBus$Node", "claimCarriedAt", "I", false)
  | 16 => ("ClaimBus$Node", "toLose", "I", false)
  | _ => ("ClaimBus$Node", "lost", "I", false)
def tyX4 : Nat → FieldType := fun k => match k with
  | 0 => .int
  | 1 => .int
  | 2 => .int
  | 3 => .boolean
  | 4 => .int
  | 5 => .object "ClaimBus$Row"
  | 6 => .object "ClaimBus$Table"
  | 7 => .object "ClaimBus$Sending"
  | 8 => .object "ClaimBus$Inbox"
  | 9 => .array (.object "ClaimBus$Transport")
  | 10 => .object "java/util/ArrayList"
  | 11 => .array .int
  | 12 => .int
  | 13 => .int
  | 14 => .int
  | 15 => .int
  | 16 => .int
  | _ => .int
abbrev wsX40 : List Cond := u_ws RX4 TX4 18
theorem nmX4 : ∀ a, a < 18 → ∀ b, b < 18 → a ≠ b → (TX4 a).2.1 ≠ (TX4 b).2.1 := by decide +kernel
theorem tyX4_ok : ∀ k, k < 18 → parseFieldDescriptor (TX4 k).2.2.1 = some (tyX4 k) := by decide +kernel
abbrev cX4_init : ByteArray := prog_6_method_1_code
def yX4_init : MethodName := ⟨RX4, "<init>", "(IIIZILClaimBus$Store;)V"⟩
abbrev cX4_sharesAddressWith : ByteArray := prog_6_method_2_code
def yX4_sharesAddressWith : MethodName := ⟨RX4, "sharesAddressWith", "(LClaimBus$Node;)Z"⟩
abbrev cX4_openTransports : ByteArray := prog_6_method_3_code
def yX4_openTransports : MethodName := ⟨RX4, "openTransports", "()I"⟩
abbrev cX4_addTrouble : ByteArray := prog_6_method_4_code
def yX4_addTrouble : MethodName := ⟨RX4, "addTrouble", "(III)I"⟩
abbrev cX4_copyOfTroubles : ByteArray := prog_6_method_5_code
def yX4_copyOfTroubles : MethodName := ⟨RX4, "copyOfTroubles", "()[I"⟩
abbrev cX4_claimAddress : ByteArray := prog_6_method_6_code
def yX4_claimAddress : MethodName := ⟨RX4, "claimAddress", "(I)V"⟩
abbrev cX4_turnOff : ByteArray := prog_6_method_7_code
def yX4_turnOff : MethodName := ⟨RX4, "turnOff", "()V"⟩
abbrev cX4_dropAll : ByteArray := prog_6_method_8_code
def yX4_dropAll : MethodName := ⟨RX4, "dropAll", "()V"⟩
abbrev cX4_maySend : ByteArray := prog_6_method_9_code
def yX4_maySend : MethodName := ⟨RX4, "maySend", "()Z"⟩
abbrev cX4_beginSending : ByteArray := prog_6_method_10_code
def yX4_beginSending : MethodName := ⟨RX4, "beginSending", "(LClaimBus$Message;I)V"⟩
abbrev cX4_frameWasCarried : ByteArray := prog_6_method_11_code
def yX4_frameWasCarried : MethodName := ⟨RX4, "frameWasCarried", "(ZI)V"⟩
abbrev cX4_nextTimer : ByteArray := prog_6_method_12_code
def yX4_nextTimer : MethodName := ⟨RX4, "nextTimer", "()I"⟩
abbrev cX4_runTimers : ByteArray := prog_6_method_13_code
def yX4_runTimers : MethodName := ⟨RX4, "runTimers", "(I)V"⟩
abbrev cX4_sendOn : ByteArray := prog_6_method_14_code
def yX4_sendOn : MethodName := ⟨RX4, "sendOn", "(I)V"⟩
abbrev cX4_waitedTooLong : ByteArray := prog_6_method_15_code
def yX4_waitedTooLong : MethodName := ⟨RX4, "waitedTooLong", "(LClaimBus$Transport;I)V"⟩
abbrev cX4_breakOff : ByteArray := prog_6_method_16_code
def yX4_breakOff : MethodName := ⟨RX4, "breakOff", "(LClaimBus$Message;II)V"⟩
abbrev cX4_clearNext : ByteArray := prog_6_method_17_code
def yX4_clearNext : MethodName := ⟨RX4, "clearNext", "(LClaimBus$Transport;I)V"⟩
abbrev cX4_hear : ByteArray := prog_6_method_18_code
def yX4_hear : MethodName := ⟨RX4, "hear", "(LClaimBus$Frame;II)V"⟩
abbrev cX4_hearClaim : ByteArray := prog_6_method_19_code
def yX4_hearClaim : MethodName := ⟨RX4, "hearClaim", "(LClaimBus$Frame;I)V"⟩
abbrev cX4_goesBeforeName : ByteArray := prog_6_method_20_code
def yX4_goesBeforeName : MethodName := ⟨RX4, "goesBeforeName", "(II)Z"⟩
abbrev cX4_nextFreeAddress : ByteArray := prog_6_method_21_code
def yX4_nextFreeAddress : MethodName := ⟨RX4, "nextFreeAddress", "()I"⟩
abbrev cX4_hearControl : ByteArray := prog_6_method_22_code
def yX4_hearControl : MethodName := ⟨RX4, "hearControl", "(LClaimBus$Frame;I)V"⟩
abbrev cX4_sendCleared : ByteArray := prog_6_method_23_code
def yX4_sendCleared : MethodName := ⟨RX4, "sendCleared", "(III)V"⟩
abbrev cX4_dropGot : ByteArray := prog_6_method_24_code
def yX4_dropGot : MethodName := ⟨RX4, "dropGot", "(II)V"⟩
abbrev cX4_gotFrom : ByteArray := prog_6_method_25_code
def yX4_gotFrom : MethodName := ⟨RX4, "gotFrom", "(I)LClaimBus$Transport;"⟩
abbrev cX4_placeFor : ByteArray := prog_6_method_26_code
def yX4_placeFor : MethodName := ⟨RX4, "placeFor", "(I)LClaimBus$Transport;"⟩
abbrev cX4_getPacket : ByteArray := prog_6_method_27_code
def yX4_getPacket : MethodName := ⟨RX4, "getPacket", "(LClaimBus$Frame;I)V"⟩
abbrev cX4_collectedFrom : ByteArray := prog_6_method_28_code
def yX4_collectedFrom : MethodName := ⟨RX4, "collectedFrom", "(I)LClaimBus$Transport;"⟩
abbrev cX4_beginCollecting : ByteArray := prog_6_method_29_code
def yX4_beginCollecting : MethodName := ⟨RX4, "beginCollecting", "(LClaimBus$Frame;I)V"⟩
abbrev cX4_collectPacket : ByteArray := prog_6_method_30_code
def yX4_collectPacket : MethodName := ⟨RX4, "collectPacket", "(LClaimBus$Frame;I)V"⟩
def RX5 : String := "ClaimBus$Row"
def TX5 : u_T := fun k => match k with
  | 0 => ("ClaimBus$Row", "high", "I", true)
  | 1 => ("ClaimBus$Row", "low", "I", true)
  | 2 => ("ClaimBus$Row", "store", "LClaimBus$Store;", true)
  | 3 => ("ClaimBus$Row", "head", "LClaimBus$Chunk;", false)
  | 4 => ("ClaimBus$Row", "tail", "LClaimBus$Chunk;", false)
  | 5 => ("ClaimBus$Row", "headPlace", "I", false)
  | 6 => ("ClaimBus$Row", "tailPlace", "I", false)
  | 7 => ("ClaimBus$Row", "frames", "I", false)
  | 8 => ("ClaimBus$Row", "gone", "I", false)
  | 9 => ("ClaimBus$Row", "claimWaits", "Z", false)
  | 10 => ("ClaimBus$Row", "first", "LClaimBus$Frame;", true)
  | _ => ("ClaimBus$Row", "firstIsWritten", "Z", false)
def tyX5 : Nat → FieldType := fun k => match k with
  | 0 => .int
  | 1 => .int
  | 2 => .object "ClaimBus$Store"
  | 3 => .object "ClaimBus$Chunk"
  | 4 => .object "ClaimBus$Chunk"
  | 5 => .int
  | 6 => .int
  | 7 => .int
  | 8 => .int
  | 9 => .boolean
  | 10 => .object "ClaimBus$Frame"
  | _ => .boolean
abbrev wsX50 : List Cond := u_ws RX5 TX5 12
theorem nmX5 : ∀ a, a < 12 → ∀ b, b < 12 → a ≠ b → (TX5 a).2.1 ≠ (TX5 b).2.1 := by decide +kernel
theorem tyX5_ok : ∀ k, k < 12 → parseFieldDescriptor (TX5 k).2.2.1 = some (tyX5 k) := by decide +kernel
abbrev cX5_init : ByteArray := prog_7_method_1_code
def yX5_init : MethodName := ⟨RX5, "<init>", "(IILClaimBus$Store;)V"⟩
abbrev cX5_length : ByteArray := prog_7_method_2_code
def yX5_length : MethodName := ⟨RX5, "length", "()I"⟩
abbrev cX5_putClaim : ByteArray := prog_7_method_3_code
def yX5_putClaim : MethodName := ⟨RX5, "putClaim", "()V"⟩
abbrev cX5_put : ByteArray := prog_7_method_4_code
def yX5_put : MethodName := ⟨RX5, "put", "(LClaimBus$Message;IIII)V"⟩
abbrev cX5_lengthen : ByteArray := prog_7_method_5_code
def yX5_lengthen : MethodName := ⟨RX5, "lengthen", "(LClaimBus$Chunk;)V"⟩
abbrev cX5_firstEntry : ByteArray := prog_7_method_6_code
def yX5_firstEntry : MethodName := ⟨RX5, "firstEntry", "()J"⟩
abbrev cX5_first : ByteArray := prog_7_method_7_code
def yX5_first : MethodName := ⟨RX5, "first", "(I)LClaimBus$Frame;"⟩
abbrev cX5_writeFirst : ByteArray := prog_7_method_8_code
def yX5_writeFirst : MethodName := ⟨RX5, "writeFirst", "(I)V"⟩
abbrev cX5_removeFirst : ByteArray := prog_7_method_9_code
def yX5_removeFirst : MethodName := ⟨RX5, "removeFirst", "()V"⟩
abbrev cX5_removeFromFirstEntry : ByteArray := prog_7_method_10_code
def yX5_removeFromFirstEntry : MethodName := ⟨RX5, "removeFromFirstEntry", "()V"⟩
abbrev cX5_clear : ByteArray := prog_7_method_11_code
def yX5_clear : MethodName := ⟨RX5, "clear", "()V"⟩
def RX6 : String := "ClaimBus$Sending"
def TX6 : u_T := fun k => match k with
  | 0 => ("ClaimBus$Sending", "state", "I", false)
  | 1 => ("ClaimBus$Sending", "nextPacket", "I", false)
  | 2 => ("ClaimBus$Sending", "due", "I", false)
  | _ => ("ClaimBus$Sending", "whole", "LClaimBus$Message;", false)
def tyX6 : Nat → FieldType := fun k => match k with
  | 0 => .int
  | 1 => .int
  | 2 => .int
  | _ => .object "ClaimBus$Message"
abbrev wsX60 : List Cond := u_ws RX6 TX6 4
theorem nmX6 : ∀ a, a < 4 → ∀ b, b < 4 → a ≠ b → (TX6 a).2.1 ≠ (TX6 b).2.1 := by decide +kernel
theorem tyX6_ok : ∀ k, k < 4 → parseFieldDescriptor (TX6 k).2.2.1 = some (tyX6 k) := by decide +kernel
abbrev cX6_init : ByteArray := prog_8_method_1_code
def yX6_init : MethodName := ⟨RX6, "<init>", "()V"⟩
abbrev cX6_goesTo : ByteArray := prog_8_method_2_code
def yX6_goesTo : MethodName := ⟨RX6, "goesTo", "(II)Z"⟩
def RX7 : String := "ClaimBus$Store"
def TX7 : u_T := fun k => match k with
  | 0 => ("ClaimBus$Store", "messages", "Ljava/util/ArrayList;", true)
  | _ => ("ClaimBus$Store", "unused", "LClaimBus$Chunk;", false)
def tyX7 : Nat → FieldType := fun k => match k with
  | 0 => .object "java/util/ArrayList"
  | _ => .object "ClaimBus$Chunk"
abbrev wsX70 : List Cond := u_ws RX7 TX7 2
theorem nmX7 : ∀ a, a < 2 → ∀ b, b < 2 → a ≠ b → (TX7 a).2.1 ≠ (TX7 b).2.1 := by decide +kernel
theorem tyX7_ok : ∀ k, k < 2 → parseFieldDescriptor (TX7 k).2.2.1 = some (tyX7 k) := by decide +kernel
abbrev cX7_init : ByteArray := prog_9_method_1_code
def yX7_init : MethodName := ⟨RX7, "<init>", "()V"⟩
abbrev cX7_newMessage : ByteArray := prog_9_method_2_code
def yX7_newMessage : MethodName := ⟨RX7, "newMessage", "(IIII)LClaimBus$Message;"⟩
abbrev cX7_newTelling : ByteArray := prog_9_method_3_code
def yX7_newTelling : MethodName := ⟨RX7, "newTelling", "([I)LClaimBus$Message;"⟩
abbrev cX7_messageAt : ByteArray := prog_9_method_4_code
def yX7_messageAt : MethodName := ⟨RX7, "messageAt", "(I)LClaimBus$Message;"⟩
abbrev cX7_lend : ByteArray := prog_9_method_5_code
def yX7_lend : MethodName := ⟨RX7, "lend", "()LClaimBus$Chunk;"⟩
abbrev cX7_takeBack : ByteArray := prog_9_method_6_code
def yX7_takeBack : MethodName := ⟨RX7, "takeBack", "(LClaimBus$Chunk;LClaimBus$Chunk;)V"⟩
def RX8 : String := "ClaimBus$Table"
def TX8 : u_T := fun k => match k with
  | _ => ("ClaimBus$Table", "addresses", "[I", true)
def tyX8 : Nat → FieldType := fun k => match k with
  | _ => .array .int
abbrev wsX80 : List Cond := u_ws RX8 TX8 1
theorem nmX8 : ∀ a, a < 1 → ∀ b, b < 1 → a ≠ b → (TX8 a).2.1 ≠ (TX8 b).2.1 := by decide +kernel
theorem tyX8_ok : ∀ k, k < 1 → parseFieldDescriptor (TX8 k).2.2.1 = some (tyX8 k) := by decide +kernel
abbrev cX8_init : ByteArray := prog_10_method_1_code
def yX8_init : MethodName := ⟨RX8, "<init>", "()V"⟩
abbrev cX8_clear : ByteArray := prog_10_method_2_code
def yX8_clear : MethodName := ⟨RX8, "clear", "()V"⟩
abbrev cX8_learn : ByteArray := prog_10_method_3_code
def yX8_learn : MethodName := ⟨RX8, "learn", "(II)V"⟩
abbrev cX8_nameAt : ByteArray := prog_10_method_4_code
def yX8_nameAt : MethodName := ⟨RX8, "nameAt", "(I)I"⟩
def RX9 : String := "ClaimBus$Transport"
def TX9 : u_T := fun k => match k with
  | 0 => ("ClaimBus$Transport", "open", "Z", false)
  | 1 => ("ClaimBus$Transport", "source", "I", false)
  | 2 => ("ClaimBus$Transport", "group", "I", false)
  | 3 => ("ClaimBus$Transport", "size", "I", false)
  | 4 => ("ClaimBus$Transport", "packets", "I", false)
  | 5 => ("ClaimBus$Transport", "window", "I", false)
  | 6 => ("ClaimBus$Transport", "expected", "I", false)
  | 7 => ("ClaimBus$Transport", "clearedTo", "I", false)
  | 8 => ("ClaimBus$Transport", "lastHeard", "I", false)
  | 9 => ("ClaimBus$Transport", "waits", "I", false)
  | 10 => ("ClaimBus$Transport", "sum", "I", false)
  | 11 => ("ClaimBus$Transport", "isAsSent", "Z", false)
  | 12 => ("ClaimBus$Transport", "whole", "LClaimBus$Message;", false)
  | _ => ("ClaimBus$Transport", "beginning", "[I", true)
def tyX9 : Nat → FieldType := fun k => match k with
  | 0 => .boolean
  | 1 => .int
  | 2 => .int
  | 3 => .int
  | 4 => .int
  | 5 => .int
  | 6 => .int
  | 7 => .int
  | 8 => .int
  | 9 => .int
  | 10 => .int
  | 11 => .boolean
  | 12 => .object "ClaimBus$Message"
  | _ => .array .int
abbrev wsX90 : List Cond := u_ws RX9 TX9 14
theorem nmX9 : ∀ a, a < 14 → ∀ b, b < 14 → a ≠ b → (TX9 a).2.1 ≠ (TX9 b).2.1 := by decide +kernel
theorem tyX9_ok : ∀ k, k < 14 → parseFieldDescriptor (TX9 k).2.2.1 = some (tyX9 k) := by decide +kernel
abbrev cX9_init : ByteArray := prog_11_method_1_code
def yX9_init : MethodName := ⟨RX9, "<init>", "()V"⟩
abbrev cX9_begin : ByteArray := prog_11_method_2_code
def yX9_begin : MethodName := ⟨RX9, "begin", "(LClaimBus$Frame;I)V"⟩
abbrev cX9_takePacket : ByteArray := prog_11_method_3_code
def yX9_takePacket : MethodName := ⟨RX9, "takePacket", "(LClaimBus$Frame;I)V"⟩
abbrev cX9_takeByte : ByteArray := prog_11_method_4_code
def yX9_takeByte : MethodName := ⟨RX9, "takeByte", "(II)V"⟩
abbrev cX9_isWhole : ByteArray := prog_11_method_5_code
def yX9_isWhole : MethodName := ⟨RX9, "isWhole", "()Z"⟩
abbrev cX9_byteAt : ByteArray := prog_11_method_6_code
def yX9_byteAt : MethodName := ⟨RX9, "byteAt", "(I)I"⟩
def RX10 : String := "ClaimBus"
def TX10 : u_T := fun k => match k with
  | 0 => ("ClaimBus", "nodes", "[LClaimBus$Node;", true)
  | 1 => ("ClaimBus", "store", "LClaimBus$Store;", true)
  | 2 => ("ClaimBus", "last", "LClaimBus$Frame;", true)
  | 3 => ("ClaimBus", "nodeCount", "I", false)
  | 4 => ("ClaimBus", "time", "I", false)
  | 5 => ("ClaimBus", "framesCarried", "I", false)
  | 6 => ("ClaimBus", "lastSender", "I", false)
  | _ => ("ClaimBus", "stopped", "Z", false)
def tyX10 : Nat → FieldType := fun k => match k with
  | 0 => .array (.object "ClaimBus$Node")
  | 1 => .object "ClaimBus$Store"
  | 2 => .object "ClaimBus$Frame"
  | 3 => .int
  | 4 => .int
  | 5 => .int
  | 6 => .int
  | _ => .boolean
abbrev wsX100 : List Cond := u_ws RX10 TX10 8
theorem nmX10 : ∀ a, a < 8 → ∀ b, b < 8 → a ≠ b → (TX10 a).2.1 ≠ (TX10 b).2.1 := by decide +kernel
theorem tyX10_ok : ∀ k, k < 8 → parseFieldDescriptor (TX10 k).2.2.1 = some (tyX10 k) := by decide +kernel
abbrev cX10_init : ByteArray := prog_1_method_1_code
def yX10_init : MethodName := ⟨RX10, "<init>", "()V"⟩
abbrev cX10_node : ByteArray := prog_1_method_2_code
def yX10_node : MethodName := ⟨RX10, "node", "(IIIZI)I"⟩
abbrev cX10_start : ByteArray := prog_1_method_3_code
def yX10_start : MethodName := ⟨RX10, "start", "(I)Z"⟩
abbrev cX10_stop : ByteArray := prog_1_method_4_code
def yX10_stop : MethodName := ⟨RX10, "stop", "(I)Z"⟩
abbrev cX10_request : ByteArray := prog_1_method_5_code
def yX10_request : MethodName := ⟨RX10, "request", "(II)Z"⟩
abbrev cX10_send : ByteArray := prog_1_method_6_code
def yX10_send : MethodName := ⟨RX10, "send", "(IIIII)Z"⟩
abbrev cX10_trouble : ByteArray := prog_1_method_7_code
def yX10_trouble : MethodName := ⟨RX10, "trouble", "(IIII)I"⟩
abbrev cX10_tell : ByteArray := prog_1_method_8_code
def yX10_tell : MethodName := ⟨RX10, "tell", "(I)Z"⟩
abbrev cX10_lose : ByteArray := prog_1_method_9_code
def yX10_lose : MethodName := ⟨RX10, "lose", "(II)Z"⟩
abbrev cX10_pass : ByteArray := prog_1_method_10_code
def yX10_pass : MethodName := ⟨RX10, "pass", "(I)I"⟩
abbrev cX10_told : ByteArray := prog_1_method_11_code
def yX10_told : MethodName := ⟨RX10, "told", "(II)I"⟩
abbrev cX10_table : ByteArray := prog_1_method_12_code
def yX10_table : MethodName := ⟨RX10, "table", "(II)I"⟩
abbrev cX10_message : ByteArray := prog_1_method_13_code
def yX10_message : MethodName := ⟨RX10, "message", "(III)I"⟩
abbrev cX10_kept : ByteArray := prog_1_method_14_code
def yX10_kept : MethodName := ⟨RX10, "kept", "(IIII)I"⟩
abbrev cX10_carried : ByteArray := prog_1_method_15_code
def yX10_carried : MethodName := ⟨RX10, "carried", "(I)I"⟩
abbrev cX10_sound : ByteArray := prog_1_method_16_code
def yX10_sound : MethodName := ⟨RX10, "sound", "()Z"⟩
abbrev cX10_count : ByteArray := prog_1_method_17_code
def yX10_count : MethodName := ⟨RX10, "count", "(I)I"⟩
abbrev cX10_find : ByteArray := prog_1_method_18_code
def yX10_find : MethodName := ⟨RX10, "find", "(I)LClaimBus$Node;"⟩
abbrev cX10_nameIsThere : ByteArray := prog_1_method_19_code
def yX10_nameIsThere : MethodName := ⟨RX10, "nameIsThere", "(II)Z"⟩
abbrev cX10_isReceiver : ByteArray := prog_1_method_20_code
def yX10_isReceiver : MethodName := ⟨RX10, "isReceiver", "(I)Z"⟩
abbrev cX10_isSendable : ByteArray := prog_1_method_21_code
def yX10_isSendable : MethodName := ⟨RX10, "isSendable", "(III)Z"⟩
abbrev cX10_nextMoment : ByteArray := prog_1_method_22_code
def yX10_nextMoment : MethodName := ⟨RX10, "nextMoment", "(I)I"⟩
abbrev cX10_runTimers : ByteArray := prog_1_method_23_code
def yX10_runTimers : MethodName := ⟨RX10, "runTimers", "()V"⟩
abbrev cX10_carryFrame : ByteArray := prog_1_method_24_code
def yX10_carryFrame : MethodName := ⟨RX10, "carryFrame", "()V"⟩
abbrev cX10_firstToSend : ByteArray := prog_1_method_25_code
def yX10_firstToSend : MethodName := ⟨RX10, "firstToSend", "()I"⟩
abbrev cX10_isDisturbed : ByteArray := prog_1_method_26_code
def yX10_isDisturbed : MethodName := ⟨RX10, "isDisturbed", "()Z"⟩
abbrev cX10_addressesAreApart : ByteArray := prog_1_method_27_code
def yX10_addressesAreApart : MethodName := ⟨RX10, "addressesAreApart", "()Z"⟩
abbrev cX10_messagesAreTrue : ByteArray := prog_1_method_28_code
def yX10_messagesAreTrue : MethodName := ⟨RX10, "messagesAreTrue", "()Z"⟩
abbrev cX10_nodesWithAddress : ByteArray := prog_1_method_29_code
def yX10_nodesWithAddress : MethodName := ⟨RX10, "nodesWithAddress", "()I"⟩
abbrev cX10_pack : ByteArray := prog_1_method_30_code
def yX10_pack : MethodName := ⟨RX10, "pack", "(IIII)I"⟩
abbrev cX10_isLess : ByteArray := prog_1_method_31_code
def yX10_isLess : MethodName := ⟨RX10, "isLess", "(II)Z"⟩
abbrev cX10_identifier : ByteArray := prog_1_method_32_code
def yX10_identifier : MethodName := ⟨RX10, "identifier", "(III)I"⟩
def RX11 : String := "ClaimBusModel"
def TX11 : u_T := fun k => match k with
  | 0 => ("ClaimBusModel", "nodes", "I", false)
  | 1 => ("ClaimBusModel", "time", "I", false)
  | 2 => ("ClaimBusModel", "names", "[J", true)
  | 3 => ("ClaimBusModel", "wanted", "[I", true)
  | 4 => ("ClaimBusModel", "address", "[I", true)
  | 5 => ("ClaimBusModel", "free", "[Z", true)
  | 6 => ("ClaimBusModel", "window", "[I", true)
  | 7 => ("ClaimBusModel", "state", "[I", true)
  | 8 => ("ClaimBusModel", "claimed", "[I", true)
  | 9 => ("ClaimBusModel", "tables", "[I", true)
  | 10 => ("ClaimBusModel", "first", "[I", true)
  | 11 => ("ClaimBusModel", "last", "[I", true)
  | 12 => ("ClaimBusModel", "waits", "[I", true)
  | 13 => ("ClaimBusModel", "ids", "[I", true)
  | 14 => ("ClaimBusModel", "lows", "[I", true)
  | 15 => ("ClaimBusModel", "highs", "[I", true)
  | 16 => ("ClaimBusModel", "behind", "[I", true)
  | 17 => ("ClaimBusModel", "back", "I", false)
  | 18 => ("ClaimBusModel", "unused", "I", false)
  | 19 => ("ClaimBusModel", "claimWaits", "[Z", true)
  | 20 => ("ClaimBusModel", "sending", "[I", true)
  | 21 => ("ClaimBusModel", "sendTo", "[I", true)
  | 22 => ("ClaimBusModel", "sendGroup", "[I", true)
  | 23 => ("ClaimBusModel", "sendSize", "[I", true)
  | 24 => ("ClaimBusModel", "sendNext", "[I", true)
  | 25 => ("ClaimBusModel", "sendSince", "[I", true)
  | 26 => ("ClaimBusModel", "sendBytes", "[I", true)
  | 27 => ("ClaimBusModel", "getSource", "[I", true)
  | 28 => ("ClaimBusModel", "getOne", "[Z", true)
  | 29 => ("ClaimBusModel", "getGroup", "[I", true)
  | 30 => ("ClaimBusModel", "getSize", "[I", true)
  | 31 => ("ClaimBusModel", "getWindow", "[I", true)
  | 32 => ("ClaimBusModel", "getNext", "[I", true)
  | 33 => ("ClaimBusModel", "getCleared", "[I", true)
  | 34 => ("ClaimBusModel", "getSince", "[I", true)
  | 35 => ("ClaimBusModel", "getTries", "[I", true)
  | 36 => ("ClaimBusModel", "getOrder", "[I", true)
  | 37 => ("ClaimBusModel", "getBytes", "[I", true)
  | 38 => ("ClaimBusModel", "came", "[I", true)
  | 39 => ("ClaimBusModel", "messages", "[I", true)
  | 40 => ("ClaimBusModel", "lose", "[I", true)
  | 41 => ("ClaimBusModel", "lost", "[I", true)
  | 42 => ("ClaimBusModel", "troubles", "[I", true)
  | 43 => ("ClaimBusModel", "trouble", "[I", true)
  | 44 => ("ClaimBusModel", "keptMany", "[I", true)
  | 45 => ("ClaimBusModel", "kept", "[I", true)
  | 46 => ("ClaimBusModel", "carriedId", "I", false)
  | 47 => ("ClaimBusModel", "carriedLow", "I", false)
  | 48 => ("ClaimBusModel", "carriedHigh", "I", false)
  | 49 => ("ClaimBusModel", "carriedNode", "I", false)
  | 50 => ("ClaimBusModel", "carriedMany", "I", false)
  | 51 => ("ClaimBusModel", "disturbed", "Z", false)
  | 52 => ("ClaimBusModel", "wrong", "Z", false)
  | 53 => ("ClaimBusModel", "said", "I", false)
  | 54 => ("ClaimBusModel", "saidGroup", "[I", true)
  | 55 => ("ClaimBusModel", "saidSize", "[I", true)
  | 56 => ("ClaimBusModel", "saidSeed", "[I", true)
  | 57 => ("ClaimBusModel", "saidTroubles", "[I", true)
  | 58 => ("ClaimBusModel", "latest", "[I", true)
  | 59 => ("ClaimBusModel", "frameOf", "[I", true)
  | 60 => ("ClaimBusModel", "carriedOf", "I", false)
  | 61 => ("ClaimBusModel", "getOf", "[I", true)
  | _ => ("ClaimBusModel", "eight", "[I", true)
def tyX11 : Nat → FieldType := fun k => match k with
  | 0 => .int
  | 1 => .int
  | 2 => .array .long
  | 3 => .array .int
  | 4 => .array .int
  | 5 => .array .boolean
  | 6 => .array .int
  | 7 => .array .int
  | 8 => .array .int
  | 9 => .array .int
  | 10 => .array .int
  | 11 => .array .int
  | 12 => .array .int
  | 13 => .array .int
  | 14 => .array .int
  | 15 => .array .int
  | 16 => .array .int
  | 17 => .int
  | 18 => .int
  | 19 => .array .boolean
  | 20 => .array .int
  | 21 => .array .int
  | 22 => .array .int
  | 23 => .array .int
  | 24 => .array .int
  | 25 => .array .int
  | 26 => .array .int
  | 27 => .array .int
  | 28 => .array .boolean
  | 29 => .array .int
  | 30 => .array .int
  | 31 => .array .int
  | 32 => .array .int
  | 33 => .array .int
  | 34 => .array .int
  | 35 => .array .int
  | 36 => .array .int
  | 37 => .array .int
  | 38 => .array .int
  | 39 => .array .int
  | 40 => .array .int
  | 41 => .array .int
  | 42 => .array .int
  | 43 => .array .int
  | 44 => .array .int
  | 45 => .array .int
  | 46 => .int
  | 47 => .int
  | 48 => .int
  | 49 => .int
  | 50 => .int
  | 51 => .boolean
  | 52 => .boolean
  | 53 => .int
  | 54 => .array .int
  | 55 => .array .int
  | 56 => .array .int
  | 57 => .array .int
  | 58 => .array .int
  | 59 => .array .int
  | 60 => .int
  | 61 => .array .int
  | _ => .array .int
abbrev wsX110 : List Cond := u_ws RX11 TX11 63
theorem nmX11 : ∀ a, a < 63 → ∀ b, b < 63 → a ≠ b → (TX11 a).2.1 ≠ (TX11 b).2.1 := by decide +kernel
theorem tyX11_ok : ∀ k, k < 63 → parseFieldDescriptor (TX11 k).2.2.1 = some (tyX11 k) := by decide +kernel
abbrev cX11_init : ByteArray := prog_13_method_1_code
def yX11_init : MethodName := ⟨RX11, "<init>", "()V"⟩
abbrev cX11_in : ByteArray := prog_13_method_3_code
def yX11_in : MethodName := ⟨RX11, "in", "(III)Z"⟩
abbrev cX11_isNode : ByteArray := prog_13_method_4_code
def yX11_isNode : MethodName := ⟨RX11, "isNode", "(I)Z"⟩
abbrev cX11_identifier : ByteArray := prog_13_method_5_code
def yX11_identifier : MethodName := ⟨RX11, "identifier", "(IIIII)I"⟩
abbrev cX11_lay : ByteArray := prog_13_method_6_code
def yX11_lay : MethodName := ⟨RX11, "lay", "(IIII)I"⟩
abbrev cX11_put : ByteArray := prog_13_method_7_code
def yX11_put : MethodName := ⟨RX11, "put", "(IIII)V"⟩
abbrev cX11_release : ByteArray := prog_13_method_8_code
def yX11_release : MethodName := ⟨RX11, "release", "(I)V"⟩
abbrev cX11_word : ByteArray := prog_13_method_9_code
def yX11_word : MethodName := ⟨RX11, "word", "(IIII)I"⟩
abbrev cX11_control : ByteArray := prog_13_method_10_code
def yX11_control : MethodName := ⟨RX11, "control", "(IIIIIIII)V"⟩
abbrev cX11_putClaim : ByteArray := prog_13_method_11_code
def yX11_putClaim : MethodName := ⟨RX11, "putClaim", "(I)V"⟩
abbrev cX11_dropAll : ByteArray := prog_13_method_12_code
def yX11_dropAll : MethodName := ⟨RX11, "dropAll", "(I)V"⟩
abbrev cX11_node : ByteArray := prog_13_method_13_code
def yX11_node : MethodName := ⟨RX11, "node", "(IIIZI)I"⟩
abbrev cX11_start : ByteArray := prog_13_method_14_code
def yX11_start : MethodName := ⟨RX11, "start", "(I)Z"⟩
abbrev cX11_stop : ByteArray := prog_13_method_15_code
def yX11_stop : MethodName := ⟨RX11, "stop", "(I)Z"⟩
abbrev cX11_request : ByteArray := prog_13_method_16_code
def yX11_request : MethodName := ⟨RX11, "request", "(II)Z"⟩
abbrev cX11_canSend : ByteArray := prog_13_method_17_code
def yX11_canSend : MethodName := ⟨RX11, "canSend", "(I)Z"⟩
abbrev cX11_packetsOf : ByteArray := prog_13_method_18_code
def yX11_packetsOf : MethodName := ⟨RX11, "packetsOf", "(I)I"⟩
abbrev cX11_sendRow : ByteArray := prog_13_method_19_code
def yX11_sendRow : MethodName := ⟨RX11, "sendRow", "(IIIIII)V"⟩
abbrev cX11_send : ByteArray := prog_13_method_20_code
def yX11_send : MethodName := ⟨RX11, "send", "(IIIII)Z"⟩
abbrev cX11_trouble : ByteArray := prog_13_method_21_code
def yX11_trouble : MethodName := ⟨RX11, "trouble", "(IIII)I"⟩
abbrev cX11_tell : ByteArray := prog_13_method_22_code
def yX11_tell : MethodName := ⟨RX11, "tell", "(I)Z"⟩
abbrev cX11_lose : ByteArray := prog_13_method_23_code
def yX11_lose : MethodName := ⟨RX11, "lose", "(II)Z"⟩
abbrev cX11_byteOf : ByteArray := prog_13_method_24_code
def yX11_byteOf : MethodName := ⟨RX11, "byteOf", "(III)I"⟩
abbrev cX11_isLess : ByteArray := prog_13_method_25_code
def yX11_isLess : MethodName := ⟨RX11, "isLess", "(JJ)Z"⟩
abbrev cX11_claimCame : ByteArray := prog_13_method_26_code
def yX11_claimCame : MethodName := ⟨RX11, "claimCame", "(III)V"⟩
abbrev cX11_nextAddress : ByteArray := prog_13_method_27_code
def yX11_nextAddress : MethodName := ⟨RX11, "nextAddress", "(I)I"⟩
abbrev cX11_keepTroubles : ByteArray := prog_13_method_28_code
def yX11_keepTroubles : MethodName := ⟨RX11, "keepTroubles", "(IIII)V"⟩
abbrev cX11_messageCame : ByteArray := prog_13_method_29_code
def yX11_messageCame : MethodName := ⟨RX11, "messageCame", "(IIIII)V"⟩
abbrev cX11_getting : ByteArray := prog_13_method_30_code
def yX11_getting : MethodName := ⟨RX11, "getting", "(IIZ)I"⟩
abbrev cX11_freePlace : ByteArray := prog_13_method_31_code
def yX11_freePlace : MethodName := ⟨RX11, "freePlace", "(I)I"⟩
abbrev cX11_begin : ByteArray := prog_13_method_32_code
def yX11_begin : MethodName := ⟨RX11, "begin", "(IIZIII)I"⟩
abbrev cX11_clear : ByteArray := prog_13_method_33_code
def yX11_clear : MethodName := ⟨RX11, "clear", "(II)V"⟩
abbrev cX11_ones : ByteArray := prog_13_method_34_code
def yX11_ones : MethodName := ⟨RX11, "ones", "(I)I"⟩
abbrev cX11_packetCame : ByteArray := prog_13_method_35_code
def yX11_packetCame : MethodName := ⟨RX11, "packetCame", "(IIIZII)V"⟩
abbrev cX11_saidByte : ByteArray := prog_13_method_36_code
def yX11_saidByte : MethodName := ⟨RX11, "saidByte", "(III)I"⟩
abbrev cX11_check : ByteArray := prog_13_method_37_code
def yX11_check : MethodName := ⟨RX11, "check", "(II)V"⟩
abbrev cX11_controlCame : ByteArray := prog_13_method_38_code
def yX11_controlCame : MethodName := ⟨RX11, "controlCame", "(IIZII)V"⟩
abbrev cX11_putPacket : ByteArray := prog_13_method_39_code
def yX11_putPacket : MethodName := ⟨RX11, "putPacket", "(II)V"⟩
abbrev cX11_putPackets : ByteArray := prog_13_method_40_code
def yX11_putPackets : MethodName := ⟨RX11, "putPackets", "(III)V"⟩
abbrev cX11_comes : ByteArray := prog_13_method_41_code
def yX11_comes : MethodName := ⟨RX11, "comes", "(IIIII)V"⟩
abbrev cX11_timers : ByteArray := prog_13_method_42_code
def yX11_timers : MethodName := ⟨RX11, "timers", "(I)V"⟩
abbrev cX11_nextGot : ByteArray := prog_13_method_43_code
def yX11_nextGot : MethodName := ⟨RX11, "nextGot", "(II)I"⟩
abbrev cX11_late : ByteArray := prog_13_method_44_code
def yX11_late : MethodName := ⟨RX11, "late", "(II)V"⟩
abbrev cX11_goesBefore : ByteArray := prog_13_method_45_code
def yX11_goesBefore : MethodName := ⟨RX11, "goesBefore", "(II)Z"⟩
abbrev cX11_carry : ByteArray := prog_13_method_46_code
def yX11_carry : MethodName := ⟨RX11, "carry", "()V"⟩
abbrev cX11_pass : ByteArray := prog_13_method_47_code
def yX11_pass : MethodName := ⟨RX11, "pass", "(I)I"⟩
abbrev cX11_told : ByteArray := prog_13_method_48_code
def yX11_told : MethodName := ⟨RX11, "told", "(II)I"⟩
abbrev cX11_table : ByteArray := prog_13_method_49_code
def yX11_table : MethodName := ⟨RX11, "table", "(II)I"⟩
abbrev cX11_message : ByteArray := prog_13_method_50_code
def yX11_message : MethodName := ⟨RX11, "message", "(III)I"⟩
abbrev cX11_kept : ByteArray := prog_13_method_51_code
def yX11_kept : MethodName := ⟨RX11, "kept", "(IIII)I"⟩
abbrev cX11_carried : ByteArray := prog_13_method_52_code
def yX11_carried : MethodName := ⟨RX11, "carried", "(I)I"⟩
abbrev cX11_sound : ByteArray := prog_13_method_53_code
def yX11_sound : MethodName := ⟨RX11, "sound", "()Z"⟩
abbrev cX11_count : ByteArray := prog_13_method_54_code
def yX11_count : MethodName := ⟨RX11, "count", "(I)I"⟩
def RJx145de : String := "java/io/Serializable"
def TJx145de : u_T := fun k => match k with
  | _ => ("", "", "", false)
def tyJx145de : Nat → FieldType := fun k => match k with
  | _ => .int
abbrev wsJx145de0 : List Cond := u_ws RJx145de TJx145de 0
theorem nmJx145de : ∀ a, a < 0 → ∀ b, b < 0 → a ≠ b → (TJx145de a).2.1 ≠ (TJx145de b).2.1 := by decide +kernel
theorem tyJx145de_ok : ∀ k, k < 0 → parseFieldDescriptor (TJx145de k).2.2.1 = some (tyJx145de k) := by decide +kernel
def RJx8e188 : String := "java/lang/Cloneable"
def TJx8e188 : u_T := fun k => match k with
  | _ => ("", "", "", false)
def tyJx8e188 : Nat → FieldType := fun k => match k with
  | _ => .int
abbrev wsJx8e1880 : List Cond := u_ws RJx8e188 TJx8e188 0
theorem nmJx8e188 : ∀ a, a < 0 → ∀ b, b < 0 → a ≠ b → (TJx8e188 a).2.1 ≠ (TJx8e188 b).2.1 := by decide +kernel
theorem tyJx8e188_ok : ∀ k, k < 0 → parseFieldDescriptor (TJx8e188 k).2.2.1 = some (tyJx8e188 k) := by decide +kernel
def RJxab1ab : String := "java/lang/Iterable"
def TJxab1ab : u_T := fun k => match k with
  | _ => ("", "", "", false)
def tyJxab1ab : Nat → FieldType := fun k => match k with
  | _ => .int
abbrev wsJxab1ab0 : List Cond := u_ws RJxab1ab TJxab1ab 0
theorem nmJxab1ab : ∀ a, a < 0 → ∀ b, b < 0 → a ≠ b → (TJxab1ab a).2.1 ≠ (TJxab1ab b).2.1 := by decide +kernel
theorem tyJxab1ab_ok : ∀ k, k < 0 → parseFieldDescriptor (TJxab1ab k).2.2.1 = some (tyJxab1ab k) := by decide +kernel
def RJ9 : String := "java/lang/Math"
def TJ9 : u_T := fun k => match k with
  | _ => ("", "", "", false)
def tyJ9 : Nat → FieldType := fun k => match k with
  | _ => .int
abbrev wsJ90 : List Cond := u_ws RJ9 TJ9 0
theorem nmJ9 : ∀ a, a < 0 → ∀ b, b < 0 → a ≠ b → (TJ9 a).2.1 ≠ (TJ9 b).2.1 := by decide +kernel
theorem tyJ9_ok : ∀ k, k < 0 → parseFieldDescriptor (TJ9 k).2.2.1 = some (tyJ9 k) := by decide +kernel
abbrev cJ9_max_7cf53 : ByteArray := prog_17_method_65_code
def yJ9_max_7cf53 : MethodName := ⟨RJ9, "max", "(II)I"⟩
abbrev cJ9_min_7cf53 : ByteArray := prog_17_method_69_code
def yJ9_min_7cf53 : MethodName := ⟨RJ9, "min", "(II)I"⟩
def RJ10 : String := "java/lang/System"
def TJ10 : u_T := fun k => match k with
  | _ => ("", "", "", false)
def tyJ10 : Nat → FieldType := fun k => match k with
  | _ => .int
abbrev wsJ100 : List Cond := u_ws RJ10 TJ10 0
theorem nmJ10 : ∀ a, a < 0 → ∀ b, b < 0 → a ≠ b → (TJ10 a).2.1 ≠ (TJ10 b).2.1 := by decide +kernel
theorem tyJ10_ok : ∀ k, k < 0 → parseFieldDescriptor (TJ10 k).2.2.1 = some (tyJ10 k) := by decide +kernel
def RJxa1e45 : String := "java/util/AbstractCollection"
def TJxa1e45 : u_T := fun k => match k with
  | _ => ("", "", "", false)
def tyJxa1e45 : Nat → FieldType := fun k => match k with
  | _ => .int
abbrev wsJxa1e450 : List Cond := u_ws RJxa1e45 TJxa1e45 0
theorem nmJxa1e45 : ∀ a, a < 0 → ∀ b, b < 0 → a ≠ b → (TJxa1e45 a).2.1 ≠ (TJxa1e45 b).2.1 := by decide +kernel
theorem tyJxa1e45_ok : ∀ k, k < 0 → parseFieldDescriptor (TJxa1e45 k).2.2.1 = some (tyJxa1e45 k) := by decide +kernel
abbrev cJxa1e45_init_da8c8 : ByteArray := prog_19_method_1_code
def yJxa1e45_init_da8c8 : MethodName := ⟨RJxa1e45, "<init>", "()V"⟩
def RJxc12de : String := "java/util/AbstractList"
def TJxc12de : u_T := fun k => match k with
  | _ => ("", "", "", false)
def tyJxc12de : Nat → FieldType := fun k => match k with
  | _ => .int
abbrev wsJxc12de0 : List Cond := u_ws RJxc12de TJxc12de 0
theorem nmJxc12de : ∀ a, a < 0 → ∀ b, b < 0 → a ≠ b → (TJxc12de a).2.1 ≠ (TJxc12de b).2.1 := by decide +kernel
theorem tyJxc12de_ok : ∀ k, k < 0 → parseFieldDescriptor (TJxc12de k).2.2.1 = some (tyJxc12de k) := by decide +kernel
abbrev cJxc12de_init_da8c8 : ByteArray := prog_20_method_1_code
def yJxc12de_init_da8c8 : MethodName := ⟨RJxc12de, "<init>", "()V"⟩
def RJx4a65c : String := "java/util/ArrayList"
def TJx4a65c : u_T := fun k => match k with
  | 0 => ("java/util/AbstractList", "modCount", "I", false)
  | 1 => ("java/util/ArrayList", "elementData", "[Ljava/lang/Object;", false)
  | _ => ("java/util/ArrayList", "size", "I", false)
def tyJx4a65c : Nat → FieldType := fun k => match k with
  | 0 => .int
  | 1 => .array (.object "java/lang/Object")
  | _ => .int
abbrev wsJx4a65c0 : List Cond := u_ws RJx4a65c TJx4a65c 3
theorem nmJx4a65c : ∀ a, a < 3 → ∀ b, b < 3 → a ≠ b → (TJx4a65c a).2.1 ≠ (TJx4a65c b).2.1 := by decide +kernel
theorem tyJx4a65c_ok : ∀ k, k < 3 → parseFieldDescriptor (TJx4a65c k).2.2.1 = some (tyJx4a65c k) := by decide +kernel
abbrev cJx4a65c_init_da8c8 : ByteArray := prog_21_method_2_code
def yJx4a65c_init_da8c8 : MethodName := ⟨RJx4a65c, "<init>", "()V"⟩
abbrev cJx4a65c_grow_92f84 : ByteArray := prog_21_method_6_code
def yJx4a65c_grow_92f84 : MethodName := ⟨RJx4a65c, "grow", "(I)[Ljava/lang/Object;"⟩
abbrev cJx4a65c_grow_d5877 : ByteArray := prog_21_method_7_code
def yJx4a65c_grow_d5877 : MethodName := ⟨RJx4a65c, "grow", "()[Ljava/lang/Object;"⟩
abbrev cJx4a65c_size_8abf5 : ByteArray := prog_21_method_8_code
def yJx4a65c_size_8abf5 : MethodName := ⟨RJx4a65c, "size", "()I"⟩
abbrev cJx4a65c_elementData_915e3 : ByteArray := prog_21_method_18_code
def yJx4a65c_elementData_915e3 : MethodName := ⟨RJx4a65c, "elementData", "(I)Ljava/lang/Object;"⟩
abbrev cJx4a65c_get_915e3 : ByteArray := prog_21_method_20_code
def yJx4a65c_get_915e3 : MethodName := ⟨RJx4a65c, "get", "(I)Ljava/lang/Object;"⟩
abbrev cJx4a65c_add_72be8 : ByteArray := prog_21_method_24_code
def yJx4a65c_add_72be8 : MethodName := ⟨RJx4a65c, "add", "(Ljava/lang/Object;[Ljava/lang/Object;I)V"⟩
abbrev cJx4a65c_add_9ea2d : ByteArray := prog_21_method_25_code
def yJx4a65c_add_9ea2d : MethodName := ⟨RJx4a65c, "add", "(Ljava/lang/Object;)Z"⟩
def RJ7 : String := "java/util/Arrays"
def TJ7 : u_T := fun k => match k with
  | _ => ("", "", "", false)
def tyJ7 : Nat → FieldType := fun k => match k with
  | _ => .int
abbrev wsJ70 : List Cond := u_ws RJ7 TJ7 0
theorem nmJ7 : ∀ a, a < 0 → ∀ b, b < 0 → a ≠ b → (TJ7 a).2.1 ≠ (TJ7 b).2.1 := by decide +kernel
theorem tyJ7_ok : ∀ k, k < 0 → parseFieldDescriptor (TJ7 k).2.2.1 = some (tyJ7 k) := by decide +kernel
abbrev cJ7_copyOf_1904c : ByteArray := prog_22_method_119_code
def yJ7_copyOf_1904c : MethodName := ⟨RJ7, "copyOf", "([Ljava/lang/Object;I)[Ljava/lang/Object;"⟩
abbrev cJ7_copyOf_6403c : ByteArray := prog_22_method_120_code
def yJ7_copyOf_6403c : MethodName := ⟨RJ7, "copyOf", "([Ljava/lang/Object;ILjava/lang/Class;)[Ljava/lang/Object;"⟩
def RJx5ef63 : String := "java/util/Collection"
def TJx5ef63 : u_T := fun k => match k with
  | _ => ("", "", "", false)
def tyJx5ef63 : Nat → FieldType := fun k => match k with
  | _ => .int
abbrev wsJx5ef630 : List Cond := u_ws RJx5ef63 TJx5ef63 0
theorem nmJx5ef63 : ∀ a, a < 0 → ∀ b, b < 0 → a ≠ b → (TJx5ef63 a).2.1 ≠ (TJx5ef63 b).2.1 := by decide +kernel
theorem tyJx5ef63_ok : ∀ k, k < 0 → parseFieldDescriptor (TJx5ef63 k).2.2.1 = some (tyJx5ef63 k) := by decide +kernel
def RJxbd725 : String := "java/util/List"
def TJxbd725 : u_T := fun k => match k with
  | _ => ("", "", "", false)
def tyJxbd725 : Nat → FieldType := fun k => match k with
  | _ => .int
abbrev wsJxbd7250 : List Cond := u_ws RJxbd725 TJxbd725 0
theorem nmJxbd725 : ∀ a, a < 0 → ∀ b, b < 0 → a ≠ b → (TJxbd725 a).2.1 ≠ (TJxbd725 b).2.1 := by decide +kernel
theorem tyJxbd725_ok : ∀ k, k < 0 → parseFieldDescriptor (TJxbd725 k).2.2.1 = some (tyJxbd725 k) := by decide +kernel
def RJ15 : String := "java/util/Objects"
def TJ15 : u_T := fun k => match k with
  | _ => ("", "", "", false)
def tyJ15 : Nat → FieldType := fun k => match k with
  | _ => .int
abbrev wsJ150 : List Cond := u_ws RJ15 TJ15 0
theorem nmJ15 : ∀ a, a < 0 → ∀ b, b < 0 → a ≠ b → (TJ15 a).2.1 ≠ (TJ15 b).2.1 := by decide +kernel
theorem tyJ15_ok : ∀ k, k < 0 → parseFieldDescriptor (TJ15 k).2.2.1 = some (tyJ15 k) := by decide +kernel
abbrev cJ15_checkIndex_7cf53 : ByteArray := prog_25_method_17_code
def yJ15_checkIndex_7cf53 : MethodName := ⟨RJ15, "checkIndex", "(II)I"⟩
def RJxf0a74 : String := "java/util/RandomAccess"
def TJxf0a74 : u_T := fun k => match k with
  | _ => ("", "", "", false)
def tyJxf0a74 : Nat → FieldType := fun k => match k with
  | _ => .int
abbrev wsJxf0a740 : List Cond := u_ws RJxf0a74 TJxf0a74 0
theorem nmJxf0a74 : ∀ a, a < 0 → ∀ b, b < 0 → a ≠ b → (TJxf0a74 a).2.1 ≠ (TJxf0a74 b).2.1 := by decide +kernel
theorem tyJxf0a74_ok : ∀ k, k < 0 → parseFieldDescriptor (TJxf0a74 k).2.2.1 = some (tyJxf0a74 k) := by decide +kernel
def RJxa66e6 : String := "java/util/SequencedCollection"
def TJxa66e6 : u_T := fun k => match k with
  | _ => ("", "", "", false)
def tyJxa66e6 : Nat → FieldType := fun k => match k with
  | _ => .int
abbrev wsJxa66e60 : List Cond := u_ws RJxa66e6 TJxa66e6 0
theorem nmJxa66e6 : ∀ a, a < 0 → ∀ b, b < 0 → a ≠ b → (TJxa66e6 a).2.1 ≠ (TJxa66e6 b).2.1 := by decide +kernel
theorem tyJxa66e6_ok : ∀ k, k < 0 → parseFieldDescriptor (TJxa66e6 k).2.2.1 = some (tyJxa66e6 k) := by decide +kernel
def RJ8 : String := "jdk/internal/util/ArraysSupport"
def TJ8 : u_T := fun k => match k with
  | _ => ("", "", "", false)
def tyJ8 : Nat → FieldType := fun k => match k with
  | _ => .int
abbrev wsJ80 : List Cond := u_ws RJ8 TJ8 0
theorem nmJ8 : ∀ a, a < 0 → ∀ b, b < 0 → a ≠ b → (TJ8 a).2.1 ≠ (TJ8 b).2.1 := by decide +kernel
theorem tyJ8_ok : ∀ k, k < 0 → parseFieldDescriptor (TJ8 k).2.2.1 = some (tyJ8 k) := by decide +kernel
abbrev cJ8_newLength_cabcc : ByteArray := prog_28_method_27_code
def yJ8_newLength_cabcc : MethodName := ⟨RJ8, "newLength", "(III)I"⟩
abbrev cJ8_hugeLength_7cf53 : ByteArray := prog_28_method_28_code
def yJ8_hugeLength_7cf53 : MethodName := ⟨RJ8, "hugeLength", "(II)I"⟩
def RJ3 : String := "jdk/internal/util/Preconditions"
def TJ3 : u_T := fun k => match k with
  | _ => ("", "", "", false)
def tyJ3 : Nat → FieldType := fun k => match k with
  | _ => .int
abbrev wsJ30 : List Cond := u_ws RJ3 TJ3 0
theorem nmJ3 : ∀ a, a < 0 → ∀ b, b < 0 → a ≠ b → (TJ3 a).2.1 ≠ (TJ3 b).2.1 := by decide +kernel
theorem tyJ3_ok : ∀ k, k < 0 → parseFieldDescriptor (TJ3 k).2.2.1 = some (tyJ3 k) := by decide +kernel
abbrev cJ3_checkIndex_8e157 : ByteArray := prog_29_method_11_code
def yJ3_checkIndex_8e157 : MethodName := ⟨RJ3, "checkIndex", "(IILjava/util/function/BiFunction;)I"⟩
def RL : String := "ClaimBusLaw"
abbrev cL_law : ByteArray := code
def yL_law : MethodName := ⟨RL, "law", "([I)Z"⟩
abbrev vwCl : List vw_C := [(RJx4a65c, TJx4a65c, 3), (RX0, TX0, 2), (RX1, TX1, 4), (RX2, TX2, 4), (RX3, TX3, 6), (RX4, TX4, 18), (RX5, TX5, 12), (RX6, TX6, 4), (RX7, TX7, 2), (RX8, TX8, 1), (RX9, TX9, 14), (RX10, TX10, 8), (RX11, TX11, 63)]
