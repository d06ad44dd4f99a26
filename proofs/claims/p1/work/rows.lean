section
-- ===== PART A: goes FIRST, ahead of the names: the tables' words, and 'selects' of the private methods out of them =====
/-- a private method of a class that the tables say can be made, by its rows of tables_1 -/
def lw_okq (q : MethodName × Nat) : Prop := (q.1.cls ≠ "java/lang/invoke/MethodHandle" ∧ q.1.cls ≠ "java/lang/invoke/VarHandle") ∧ Cond.instantiable q.1.cls q.2 ∈ tables_1 ∧ Cond.privateMethod q.1 ∈ tables_1 ∧ Cond.instanceMethod q.1 ∈ tables_1
theorem lw_p0 : lw_okq (⟨"ClaimBus", "nameIsThere", "(II)Z"⟩, 8) := ⟨⟨by decide +kernel, by decide +kernel⟩, List.mem_of_getElem? (i := 23) (by decide +kernel), List.mem_of_getElem? (i := 127) (by decide +kernel), List.mem_of_getElem? (i := 128) (by decide +kernel)⟩
theorem lw_p1 : lw_okq (⟨"ClaimBus", "find", "(I)LClaimBus$Node;"⟩, 8) := ⟨⟨by decide +kernel, by decide +kernel⟩, List.mem_of_getElem? (i := 23) (by decide +kernel), List.mem_of_getElem? (i := 131) (by decide +kernel), List.mem_of_getElem? (i := 132) (by decide +kernel)⟩
theorem lw_p2 : lw_okq (⟨"ClaimBus$Node", "dropAll", "()V"⟩, 18) := ⟨⟨by decide +kernel, by decide +kernel⟩, List.mem_of_getElem? (i := 134) (by decide +kernel), List.mem_of_getElem? (i := 337) (by decide +kernel), List.mem_of_getElem? (i := 338) (by decide +kernel)⟩
theorem lw_p3 : lw_okq (⟨"ClaimBus$Row", "lengthen", "(LClaimBus$Chunk;)V"⟩, 12) := ⟨⟨by decide +kernel, by decide +kernel⟩, List.mem_of_getElem? (i := 206) (by decide +kernel), List.mem_of_getElem? (i := 404) (by decide +kernel), List.mem_of_getElem? (i := 405) (by decide +kernel)⟩
theorem lw_p4 : lw_okq (⟨"java/util/ArrayList", "add", "(Ljava/lang/Object;[Ljava/lang/Object;I)V"⟩, 3) := ⟨⟨by decide +kernel, by decide +kernel⟩, List.mem_of_getElem? (i := 39) (by decide +kernel), List.mem_of_getElem? (i := 463) (by decide +kernel), List.mem_of_getElem? (i := 464) (by decide +kernel)⟩
theorem lw_p5 : lw_okq (⟨"java/util/ArrayList", "grow", "()[Ljava/lang/Object;"⟩, 3) := ⟨⟨by decide +kernel, by decide +kernel⟩, List.mem_of_getElem? (i := 39) (by decide +kernel), List.mem_of_getElem? (i := 467) (by decide +kernel), List.mem_of_getElem? (i := 468) (by decide +kernel)⟩
theorem lw_p6 : lw_okq (⟨"java/util/ArrayList", "grow", "(I)[Ljava/lang/Object;"⟩, 3) := ⟨⟨by decide +kernel, by decide +kernel⟩, List.mem_of_getElem? (i := 39) (by decide +kernel), List.mem_of_getElem? (i := 471) (by decide +kernel), List.mem_of_getElem? (i := 472) (by decide +kernel)⟩
theorem lw_p7 : lw_okq (⟨"ClaimBus", "nextMoment", "(I)I"⟩, 8) := ⟨⟨by decide +kernel, by decide +kernel⟩, List.mem_of_getElem? (i := 23) (by decide +kernel), List.mem_of_getElem? (i := 558) (by decide +kernel), List.mem_of_getElem? (i := 559) (by decide +kernel)⟩
theorem lw_p8 : lw_okq (⟨"ClaimBus", "runTimers", "()V"⟩, 8) := ⟨⟨by decide +kernel, by decide +kernel⟩, List.mem_of_getElem? (i := 23) (by decide +kernel), List.mem_of_getElem? (i := 574) (by decide +kernel), List.mem_of_getElem? (i := 575) (by decide +kernel)⟩
theorem lw_p9 : lw_okq (⟨"ClaimBus$Node", "sendOn", "(I)V"⟩, 18) := ⟨⟨by decide +kernel, by decide +kernel⟩, List.mem_of_getElem? (i := 134) (by decide +kernel), List.mem_of_getElem? (i := 582) (by decide +kernel), List.mem_of_getElem? (i := 583) (by decide +kernel)⟩
theorem lw_p10 : lw_okq (⟨"ClaimBus$Node", "breakOff", "(LClaimBus$Message;II)V"⟩, 18) := ⟨⟨by decide +kernel, by decide +kernel⟩, List.mem_of_getElem? (i := 134) (by decide +kernel), List.mem_of_getElem? (i := 586) (by decide +kernel), List.mem_of_getElem? (i := 587) (by decide +kernel)⟩
theorem lw_p11 : lw_okq (⟨"ClaimBus$Node", "waitedTooLong", "(LClaimBus$Transport;I)V"⟩, 18) := ⟨⟨by decide +kernel, by decide +kernel⟩, List.mem_of_getElem? (i := 134) (by decide +kernel), List.mem_of_getElem? (i := 594) (by decide +kernel), List.mem_of_getElem? (i := 595) (by decide +kernel)⟩
theorem lw_p12 : lw_okq (⟨"ClaimBus$Node", "clearNext", "(LClaimBus$Transport;I)V"⟩, 18) := ⟨⟨by decide +kernel, by decide +kernel⟩, List.mem_of_getElem? (i := 134) (by decide +kernel), List.mem_of_getElem? (i := 598) (by decide +kernel), List.mem_of_getElem? (i := 599) (by decide +kernel)⟩
theorem lw_p13 : lw_okq (⟨"ClaimBus", "carryFrame", "()V"⟩, 8) := ⟨⟨by decide +kernel, by decide +kernel⟩, List.mem_of_getElem? (i := 23) (by decide +kernel), List.mem_of_getElem? (i := 602) (by decide +kernel), List.mem_of_getElem? (i := 603) (by decide +kernel)⟩
theorem lw_p14 : lw_okq (⟨"ClaimBus", "firstToSend", "()I"⟩, 8) := ⟨⟨by decide +kernel, by decide +kernel⟩, List.mem_of_getElem? (i := 23) (by decide +kernel), List.mem_of_getElem? (i := 606) (by decide +kernel), List.mem_of_getElem? (i := 607) (by decide +kernel)⟩
theorem lw_p15 : lw_okq (⟨"ClaimBus$Row", "writeFirst", "(I)V"⟩, 12) := ⟨⟨by decide +kernel, by decide +kernel⟩, List.mem_of_getElem? (i := 206) (by decide +kernel), List.mem_of_getElem? (i := 615) (by decide +kernel), List.mem_of_getElem? (i := 616) (by decide +kernel)⟩
def lw_privs_1 : List (MethodName × Nat) := [(⟨"ClaimBus", "nameIsThere", "(II)Z"⟩, 8), (⟨"ClaimBus", "find", "(I)LClaimBus$Node;"⟩, 8), (⟨"ClaimBus$Node", "dropAll", "()V"⟩, 18), (⟨"ClaimBus$Row", "lengthen", "(LClaimBus$Chunk;)V"⟩, 12), (⟨"java/util/ArrayList", "add", "(Ljava/lang/Object;[Ljava/lang/Object;I)V"⟩, 3), (⟨"java/util/ArrayList", "grow", "()[Ljava/lang/Object;"⟩, 3), (⟨"java/util/ArrayList", "grow", "(I)[Ljava/lang/Object;"⟩, 3), (⟨"ClaimBus", "nextMoment", "(I)I"⟩, 8), (⟨"ClaimBus", "runTimers", "()V"⟩, 8), (⟨"ClaimBus$Node", "sendOn", "(I)V"⟩, 18), (⟨"ClaimBus$Node", "breakOff", "(LClaimBus$Message;II)V"⟩, 18), (⟨"ClaimBus$Node", "waitedTooLong", "(LClaimBus$Transport;I)V"⟩, 18), (⟨"ClaimBus$Node", "clearNext", "(LClaimBus$Transport;I)V"⟩, 18), (⟨"ClaimBus", "carryFrame", "()V"⟩, 8), (⟨"ClaimBus", "firstToSend", "()I"⟩, 8), (⟨"ClaimBus$Row", "writeFirst", "(I)V"⟩, 12)]
theorem lw_r1 : ∀ q ∈ lw_privs_1, lw_okq q := List.forall_mem_cons.mpr ⟨lw_p0, List.forall_mem_cons.mpr ⟨lw_p1, List.forall_mem_cons.mpr ⟨lw_p2, List.forall_mem_cons.mpr ⟨lw_p3, List.forall_mem_cons.mpr ⟨lw_p4, List.forall_mem_cons.mpr ⟨lw_p5, List.forall_mem_cons.mpr ⟨lw_p6, List.forall_mem_cons.mpr ⟨lw_p7, List.forall_mem_cons.mpr ⟨lw_p8, List.forall_mem_cons.mpr ⟨lw_p9, List.forall_mem_cons.mpr ⟨lw_p10, List.forall_mem_cons.mpr ⟨lw_p11, List.forall_mem_cons.mpr ⟨lw_p12, List.forall_mem_cons.mpr ⟨lw_p13, List.forall_mem_cons.mpr ⟨lw_p14, List.forall_mem_cons.mpr ⟨lw_p15, fun _ h => absurd h List.not_mem_nil⟩⟩⟩⟩⟩⟩⟩⟩⟩⟩⟩⟩⟩⟩⟩⟩
theorem lw_p16 : lw_okq (⟨"ClaimBus$Row", "firstEntry", "()J"⟩, 12) := ⟨⟨by decide +kernel, by decide +kernel⟩, List.mem_of_getElem? (i := 206) (by decide +kernel), List.mem_of_getElem? (i := 624) (by decide +kernel), List.mem_of_getElem? (i := 625) (by decide +kernel)⟩
theorem lw_p17 : lw_okq (⟨"ClaimBus$Row", "removeFromFirstEntry", "()V"⟩, 12) := ⟨⟨by decide +kernel, by decide +kernel⟩, List.mem_of_getElem? (i := 206) (by decide +kernel), List.mem_of_getElem? (i := 689) (by decide +kernel), List.mem_of_getElem? (i := 690) (by decide +kernel)⟩
theorem lw_p18 : lw_okq (⟨"ClaimBus$Node", "hearClaim", "(LClaimBus$Frame;I)V"⟩, 18) := ⟨⟨by decide +kernel, by decide +kernel⟩, List.mem_of_getElem? (i := 134) (by decide +kernel), List.mem_of_getElem? (i := 698) (by decide +kernel), List.mem_of_getElem? (i := 699) (by decide +kernel)⟩
theorem lw_p19 : lw_okq (⟨"ClaimBus$Node", "goesBeforeName", "(II)Z"⟩, 18) := ⟨⟨by decide +kernel, by decide +kernel⟩, List.mem_of_getElem? (i := 134) (by decide +kernel), List.mem_of_getElem? (i := 710) (by decide +kernel), List.mem_of_getElem? (i := 711) (by decide +kernel)⟩
theorem lw_p20 : lw_okq (⟨"ClaimBus$Node", "nextFreeAddress", "()I"⟩, 18) := ⟨⟨by decide +kernel, by decide +kernel⟩, List.mem_of_getElem? (i := 134) (by decide +kernel), List.mem_of_getElem? (i := 718) (by decide +kernel), List.mem_of_getElem? (i := 719) (by decide +kernel)⟩
theorem lw_p21 : lw_okq (⟨"ClaimBus$Node", "hearControl", "(LClaimBus$Frame;I)V"⟩, 18) := ⟨⟨by decide +kernel, by decide +kernel⟩, List.mem_of_getElem? (i := 134) (by decide +kernel), List.mem_of_getElem? (i := 731) (by decide +kernel), List.mem_of_getElem? (i := 732) (by decide +kernel)⟩
theorem lw_p22 : lw_okq (⟨"ClaimBus$Node", "placeFor", "(I)LClaimBus$Transport;"⟩, 18) := ⟨⟨by decide +kernel, by decide +kernel⟩, List.mem_of_getElem? (i := 134) (by decide +kernel), List.mem_of_getElem? (i := 744) (by decide +kernel), List.mem_of_getElem? (i := 745) (by decide +kernel)⟩
theorem lw_p23 : lw_okq (⟨"ClaimBus$Node", "gotFrom", "(I)LClaimBus$Transport;"⟩, 18) := ⟨⟨by decide +kernel, by decide +kernel⟩, List.mem_of_getElem? (i := 134) (by decide +kernel), List.mem_of_getElem? (i := 748) (by decide +kernel), List.mem_of_getElem? (i := 749) (by decide +kernel)⟩
theorem lw_p24 : lw_okq (⟨"ClaimBus$Node", "beginCollecting", "(LClaimBus$Frame;I)V"⟩, 18) := ⟨⟨by decide +kernel, by decide +kernel⟩, List.mem_of_getElem? (i := 134) (by decide +kernel), List.mem_of_getElem? (i := 822) (by decide +kernel), List.mem_of_getElem? (i := 823) (by decide +kernel)⟩
theorem lw_p25 : lw_okq (⟨"ClaimBus$Node", "collectedFrom", "(I)LClaimBus$Transport;"⟩, 18) := ⟨⟨by decide +kernel, by decide +kernel⟩, List.mem_of_getElem? (i := 134) (by decide +kernel), List.mem_of_getElem? (i := 826) (by decide +kernel), List.mem_of_getElem? (i := 827) (by decide +kernel)⟩
theorem lw_p26 : lw_okq (⟨"ClaimBus$Node", "sendCleared", "(III)V"⟩, 18) := ⟨⟨by decide +kernel, by decide +kernel⟩, List.mem_of_getElem? (i := 134) (by decide +kernel), List.mem_of_getElem? (i := 831) (by decide +kernel), List.mem_of_getElem? (i := 832) (by decide +kernel)⟩
theorem lw_p27 : lw_okq (⟨"ClaimBus$Node", "dropGot", "(II)V"⟩, 18) := ⟨⟨by decide +kernel, by decide +kernel⟩, List.mem_of_getElem? (i := 134) (by decide +kernel), List.mem_of_getElem? (i := 835) (by decide +kernel), List.mem_of_getElem? (i := 836) (by decide +kernel)⟩
theorem lw_p28 : lw_okq (⟨"ClaimBus$Inbox", "enter", "(IIII)V"⟩, 4) := ⟨⟨by decide +kernel, by decide +kernel⟩, List.mem_of_getElem? (i := 179) (by decide +kernel), List.mem_of_getElem? (i := 850) (by decide +kernel), List.mem_of_getElem? (i := 851) (by decide +kernel)⟩
theorem lw_p29 : lw_okq (⟨"ClaimBus$Inbox", "listOf", "(I)[I"⟩, 4) := ⟨⟨by decide +kernel, by decide +kernel⟩, List.mem_of_getElem? (i := 179) (by decide +kernel), List.mem_of_getElem? (i := 855) (by decide +kernel), List.mem_of_getElem? (i := 856) (by decide +kernel)⟩
theorem lw_p30 : lw_okq (⟨"ClaimBus$Node", "collectPacket", "(LClaimBus$Frame;I)V"⟩, 18) := ⟨⟨by decide +kernel, by decide +kernel⟩, List.mem_of_getElem? (i := 134) (by decide +kernel), List.mem_of_getElem? (i := 864) (by decide +kernel), List.mem_of_getElem? (i := 865) (by decide +kernel)⟩
theorem lw_p31 : lw_okq (⟨"ClaimBus$Transport", "takeByte", "(II)V"⟩, 14) := ⟨⟨by decide +kernel, by decide +kernel⟩, List.mem_of_getElem? (i := 751) (by decide +kernel), List.mem_of_getElem? (i := 872) (by decide +kernel), List.mem_of_getElem? (i := 873) (by decide +kernel)⟩
def lw_privs_2 : List (MethodName × Nat) := [(⟨"ClaimBus$Row", "firstEntry", "()J"⟩, 12), (⟨"ClaimBus$Row", "removeFromFirstEntry", "()V"⟩, 12), (⟨"ClaimBus$Node", "hearClaim", "(LClaimBus$Frame;I)V"⟩, 18), (⟨"ClaimBus$Node", "goesBeforeName", "(II)Z"⟩, 18), (⟨"ClaimBus$Node", "nextFreeAddress", "()I"⟩, 18), (⟨"ClaimBus$Node", "hearControl", "(LClaimBus$Frame;I)V"⟩, 18), (⟨"ClaimBus$Node", "placeFor", "(I)LClaimBus$Transport;"⟩, 18), (⟨"ClaimBus$Node", "gotFrom", "(I)LClaimBus$Transport;"⟩, 18), (⟨"ClaimBus$Node", "beginCollecting", "(LClaimBus$Frame;I)V"⟩, 18), (⟨"ClaimBus$Node", "collectedFrom", "(I)LClaimBus$Transport;"⟩, 18), (⟨"ClaimBus$Node", "sendCleared", "(III)V"⟩, 18), (⟨"ClaimBus$Node", "dropGot", "(II)V"⟩, 18), (⟨"ClaimBus$Inbox", "enter", "(IIII)V"⟩, 4), (⟨"ClaimBus$Inbox", "listOf", "(I)[I"⟩, 4), (⟨"ClaimBus$Node", "collectPacket", "(LClaimBus$Frame;I)V"⟩, 18), (⟨"ClaimBus$Transport", "takeByte", "(II)V"⟩, 14)]
theorem lw_r2 : ∀ q ∈ lw_privs_2, lw_okq q := List.forall_mem_cons.mpr ⟨lw_p16, List.forall_mem_cons.mpr ⟨lw_p17, List.forall_mem_cons.mpr ⟨lw_p18, List.forall_mem_cons.mpr ⟨lw_p19, List.forall_mem_cons.mpr ⟨lw_p20, List.forall_mem_cons.mpr ⟨lw_p21, List.forall_mem_cons.mpr ⟨lw_p22, List.forall_mem_cons.mpr ⟨lw_p23, List.forall_mem_cons.mpr ⟨lw_p24, List.forall_mem_cons.mpr ⟨lw_p25, List.forall_mem_cons.mpr ⟨lw_p26, List.forall_mem_cons.mpr ⟨lw_p27, List.forall_mem_cons.mpr ⟨lw_p28, List.forall_mem_cons.mpr ⟨lw_p29, List.forall_mem_cons.mpr ⟨lw_p30, List.forall_mem_cons.mpr ⟨lw_p31, fun _ h => absurd h List.not_mem_nil⟩⟩⟩⟩⟩⟩⟩⟩⟩⟩⟩⟩⟩⟩⟩⟩
theorem lw_p32 : lw_okq (⟨"ClaimBus$Inbox", "keepTroubles", "([ILClaimBus$Transport;)V"⟩, 4) := ⟨⟨by decide +kernel, by decide +kernel⟩, List.mem_of_getElem? (i := 179) (by decide +kernel), List.mem_of_getElem? (i := 885) (by decide +kernel), List.mem_of_getElem? (i := 886) (by decide +kernel)⟩
theorem lw_p33 : lw_okq (⟨"ClaimBus$Node", "getPacket", "(LClaimBus$Frame;I)V"⟩, 18) := ⟨⟨by decide +kernel, by decide +kernel⟩, List.mem_of_getElem? (i := 134) (by decide +kernel), List.mem_of_getElem? (i := 895) (by decide +kernel), List.mem_of_getElem? (i := 896) (by decide +kernel)⟩
theorem lw_p34 : lw_okq (⟨"ClaimBus", "isDisturbed", "()Z"⟩, 8) := ⟨⟨by decide +kernel, by decide +kernel⟩, List.mem_of_getElem? (i := 23) (by decide +kernel), List.mem_of_getElem? (i := 937) (by decide +kernel), List.mem_of_getElem? (i := 938) (by decide +kernel)⟩
theorem lw_p35 : lw_okq (⟨"ClaimBus", "addressesAreApart", "()Z"⟩, 8) := ⟨⟨by decide +kernel, by decide +kernel⟩, List.mem_of_getElem? (i := 23) (by decide +kernel), List.mem_of_getElem? (i := 941) (by decide +kernel), List.mem_of_getElem? (i := 942) (by decide +kernel)⟩
theorem lw_p36 : lw_okq (⟨"ClaimBus", "messagesAreTrue", "()Z"⟩, 8) := ⟨⟨by decide +kernel, by decide +kernel⟩, List.mem_of_getElem? (i := 23) (by decide +kernel), List.mem_of_getElem? (i := 949) (by decide +kernel), List.mem_of_getElem? (i := 950) (by decide +kernel)⟩
theorem lw_p37 : lw_okq (⟨"ClaimBus", "nodesWithAddress", "()I"⟩, 8) := ⟨⟨by decide +kernel, by decide +kernel⟩, List.mem_of_getElem? (i := 23) (by decide +kernel), List.mem_of_getElem? (i := 957) (by decide +kernel), List.mem_of_getElem? (i := 958) (by decide +kernel)⟩
theorem lw_p38 : lw_okq (⟨"ClaimBusModel", "isNode", "(I)Z"⟩, 63) := ⟨⟨by decide +kernel, by decide +kernel⟩, List.mem_of_getElem? (i := 961) (by decide +kernel), List.mem_of_getElem? (i := 1173) (by decide +kernel), List.mem_of_getElem? (i := 1174) (by decide +kernel)⟩
theorem lw_p39 : lw_okq (⟨"ClaimBusModel", "putClaim", "(I)V"⟩, 63) := ⟨⟨by decide +kernel, by decide +kernel⟩, List.mem_of_getElem? (i := 961) (by decide +kernel), List.mem_of_getElem? (i := 1177) (by decide +kernel), List.mem_of_getElem? (i := 1178) (by decide +kernel)⟩
theorem lw_p40 : lw_okq (⟨"ClaimBusModel", "lay", "(IIII)I"⟩, 63) := ⟨⟨by decide +kernel, by decide +kernel⟩, List.mem_of_getElem? (i := 961) (by decide +kernel), List.mem_of_getElem? (i := 1184) (by decide +kernel), List.mem_of_getElem? (i := 1185) (by decide +kernel)⟩
theorem lw_p41 : lw_okq (⟨"ClaimBusModel", "dropAll", "(I)V"⟩, 63) := ⟨⟨by decide +kernel, by decide +kernel⟩, List.mem_of_getElem? (i := 961) (by decide +kernel), List.mem_of_getElem? (i := 1192) (by decide +kernel), List.mem_of_getElem? (i := 1193) (by decide +kernel)⟩
theorem lw_p42 : lw_okq (⟨"ClaimBusModel", "release", "(I)V"⟩, 63) := ⟨⟨by decide +kernel, by decide +kernel⟩, List.mem_of_getElem? (i := 961) (by decide +kernel), List.mem_of_getElem? (i := 1196) (by decide +kernel), List.mem_of_getElem? (i := 1197) (by decide +kernel)⟩
theorem lw_p43 : lw_okq (⟨"ClaimBusModel", "put", "(IIII)V"⟩, 63) := ⟨⟨by decide +kernel, by decide +kernel⟩, List.mem_of_getElem? (i := 961) (by decide +kernel), List.mem_of_getElem? (i := 1207) (by decide +kernel), List.mem_of_getElem? (i := 1208) (by decide +kernel)⟩
theorem lw_p44 : lw_okq (⟨"ClaimBusModel", "canSend", "(I)Z"⟩, 63) := ⟨⟨by decide +kernel, by decide +kernel⟩, List.mem_of_getElem? (i := 961) (by decide +kernel), List.mem_of_getElem? (i := 1215) (by decide +kernel), List.mem_of_getElem? (i := 1216) (by decide +kernel)⟩
theorem lw_p45 : lw_okq (⟨"ClaimBusModel", "sendRow", "(IIIIII)V"⟩, 63) := ⟨⟨by decide +kernel, by decide +kernel⟩, List.mem_of_getElem? (i := 961) (by decide +kernel), List.mem_of_getElem? (i := 1220) (by decide +kernel), List.mem_of_getElem? (i := 1221) (by decide +kernel)⟩
theorem lw_p46 : lw_okq (⟨"ClaimBusModel", "packetsOf", "(I)I"⟩, 63) := ⟨⟨by decide +kernel, by decide +kernel⟩, List.mem_of_getElem? (i := 961) (by decide +kernel), List.mem_of_getElem? (i := 1224) (by decide +kernel), List.mem_of_getElem? (i := 1225) (by decide +kernel)⟩
theorem lw_p47 : lw_okq (⟨"ClaimBusModel", "control", "(IIIIIIII)V"⟩, 63) := ⟨⟨by decide +kernel, by decide +kernel⟩, List.mem_of_getElem? (i := 961) (by decide +kernel), List.mem_of_getElem? (i := 1228) (by decide +kernel), List.mem_of_getElem? (i := 1229) (by decide +kernel)⟩
def lw_privs_3 : List (MethodName × Nat) := [(⟨"ClaimBus$Inbox", "keepTroubles", "([ILClaimBus$Transport;)V"⟩, 4), (⟨"ClaimBus$Node", "getPacket", "(LClaimBus$Frame;I)V"⟩, 18), (⟨"ClaimBus", "isDisturbed", "()Z"⟩, 8), (⟨"ClaimBus", "addressesAreApart", "()Z"⟩, 8), (⟨"ClaimBus", "messagesAreTrue", "()Z"⟩, 8), (⟨"ClaimBus", "nodesWithAddress", "()I"⟩, 8), (⟨"ClaimBusModel", "isNode", "(I)Z"⟩, 63), (⟨"ClaimBusModel", "putClaim", "(I)V"⟩, 63), (⟨"ClaimBusModel", "lay", "(IIII)I"⟩, 63), (⟨"ClaimBusModel", "dropAll", "(I)V"⟩, 63), (⟨"ClaimBusModel", "release", "(I)V"⟩, 63), (⟨"ClaimBusModel", "put", "(IIII)V"⟩, 63), (⟨"ClaimBusModel", "canSend", "(I)Z"⟩, 63), (⟨"ClaimBusModel", "sendRow", "(IIIIII)V"⟩, 63), (⟨"ClaimBusModel", "packetsOf", "(I)I"⟩, 63), (⟨"ClaimBusModel", "control", "(IIIIIIII)V"⟩, 63)]
theorem lw_r3 : ∀ q ∈ lw_privs_3, lw_okq q := List.forall_mem_cons.mpr ⟨lw_p32, List.forall_mem_cons.mpr ⟨lw_p33, List.forall_mem_cons.mpr ⟨lw_p34, List.forall_mem_cons.mpr ⟨lw_p35, List.forall_mem_cons.mpr ⟨lw_p36, List.forall_mem_cons.mpr ⟨lw_p37, List.forall_mem_cons.mpr ⟨lw_p38, List.forall_mem_cons.mpr ⟨lw_p39, List.forall_mem_cons.mpr ⟨lw_p40, List.forall_mem_cons.mpr ⟨lw_p41, List.forall_mem_cons.mpr ⟨lw_p42, List.forall_mem_cons.mpr ⟨lw_p43, List.forall_mem_cons.mpr ⟨lw_p44, List.forall_mem_cons.mpr ⟨lw_p45, List.forall_mem_cons.mpr ⟨lw_p46, List.forall_mem_cons.mpr ⟨lw_p47, fun _ h => absurd h List.not_mem_nil⟩⟩⟩⟩⟩⟩⟩⟩⟩⟩⟩⟩⟩⟩⟩⟩
theorem lw_p48 : lw_okq (⟨"ClaimBusModel", "timers", "(I)V"⟩, 63) := ⟨⟨by decide +kernel, by decide +kernel⟩, List.mem_of_getElem? (i := 961) (by decide +kernel), List.mem_of_getElem? (i := 1250) (by decide +kernel), List.mem_of_getElem? (i := 1251) (by decide +kernel)⟩
theorem lw_p49 : lw_okq (⟨"ClaimBusModel", "putPacket", "(II)V"⟩, 63) := ⟨⟨by decide +kernel, by decide +kernel⟩, List.mem_of_getElem? (i := 961) (by decide +kernel), List.mem_of_getElem? (i := 1254) (by decide +kernel), List.mem_of_getElem? (i := 1255) (by decide +kernel)⟩
theorem lw_p50 : lw_okq (⟨"ClaimBusModel", "nextGot", "(II)I"⟩, 63) := ⟨⟨by decide +kernel, by decide +kernel⟩, List.mem_of_getElem? (i := 961) (by decide +kernel), List.mem_of_getElem? (i := 1258) (by decide +kernel), List.mem_of_getElem? (i := 1259) (by decide +kernel)⟩
theorem lw_p51 : lw_okq (⟨"ClaimBusModel", "late", "(II)V"⟩, 63) := ⟨⟨by decide +kernel, by decide +kernel⟩, List.mem_of_getElem? (i := 961) (by decide +kernel), List.mem_of_getElem? (i := 1262) (by decide +kernel), List.mem_of_getElem? (i := 1263) (by decide +kernel)⟩
theorem lw_p52 : lw_okq (⟨"ClaimBusModel", "clear", "(II)V"⟩, 63) := ⟨⟨by decide +kernel, by decide +kernel⟩, List.mem_of_getElem? (i := 961) (by decide +kernel), List.mem_of_getElem? (i := 1266) (by decide +kernel), List.mem_of_getElem? (i := 1267) (by decide +kernel)⟩
theorem lw_p53 : lw_okq (⟨"ClaimBusModel", "carry", "()V"⟩, 63) := ⟨⟨by decide +kernel, by decide +kernel⟩, List.mem_of_getElem? (i := 961) (by decide +kernel), List.mem_of_getElem? (i := 1270) (by decide +kernel), List.mem_of_getElem? (i := 1271) (by decide +kernel)⟩
theorem lw_p54 : lw_okq (⟨"ClaimBusModel", "goesBefore", "(II)Z"⟩, 63) := ⟨⟨by decide +kernel, by decide +kernel⟩, List.mem_of_getElem? (i := 961) (by decide +kernel), List.mem_of_getElem? (i := 1274) (by decide +kernel), List.mem_of_getElem? (i := 1275) (by decide +kernel)⟩
theorem lw_p55 : lw_okq (⟨"ClaimBusModel", "byteOf", "(III)I"⟩, 63) := ⟨⟨by decide +kernel, by decide +kernel⟩, List.mem_of_getElem? (i := 961) (by decide +kernel), List.mem_of_getElem? (i := 1278) (by decide +kernel), List.mem_of_getElem? (i := 1279) (by decide +kernel)⟩
theorem lw_p56 : lw_okq (⟨"ClaimBusModel", "comes", "(IIIII)V"⟩, 63) := ⟨⟨by decide +kernel, by decide +kernel⟩, List.mem_of_getElem? (i := 961) (by decide +kernel), List.mem_of_getElem? (i := 1282) (by decide +kernel), List.mem_of_getElem? (i := 1283) (by decide +kernel)⟩
theorem lw_p57 : lw_okq (⟨"ClaimBusModel", "claimCame", "(III)V"⟩, 63) := ⟨⟨by decide +kernel, by decide +kernel⟩, List.mem_of_getElem? (i := 961) (by decide +kernel), List.mem_of_getElem? (i := 1286) (by decide +kernel), List.mem_of_getElem? (i := 1287) (by decide +kernel)⟩
theorem lw_p58 : lw_okq (⟨"ClaimBusModel", "isLess", "(JJ)Z"⟩, 63) := ⟨⟨by decide +kernel, by decide +kernel⟩, List.mem_of_getElem? (i := 961) (by decide +kernel), List.mem_of_getElem? (i := 1290) (by decide +kernel), List.mem_of_getElem? (i := 1291) (by decide +kernel)⟩
theorem lw_p59 : lw_okq (⟨"ClaimBusModel", "nextAddress", "(I)I"⟩, 63) := ⟨⟨by decide +kernel, by decide +kernel⟩, List.mem_of_getElem? (i := 961) (by decide +kernel), List.mem_of_getElem? (i := 1294) (by decide +kernel), List.mem_of_getElem? (i := 1295) (by decide +kernel)⟩
theorem lw_p60 : lw_okq (⟨"ClaimBusModel", "packetCame", "(IIIZII)V"⟩, 63) := ⟨⟨by decide +kernel, by decide +kernel⟩, List.mem_of_getElem? (i := 961) (by decide +kernel), List.mem_of_getElem? (i := 1298) (by decide +kernel), List.mem_of_getElem? (i := 1299) (by decide +kernel)⟩
theorem lw_p61 : lw_okq (⟨"ClaimBusModel", "getting", "(IIZ)I"⟩, 63) := ⟨⟨by decide +kernel, by decide +kernel⟩, List.mem_of_getElem? (i := 961) (by decide +kernel), List.mem_of_getElem? (i := 1302) (by decide +kernel), List.mem_of_getElem? (i := 1303) (by decide +kernel)⟩
theorem lw_p62 : lw_okq (⟨"ClaimBusModel", "check", "(II)V"⟩, 63) := ⟨⟨by decide +kernel, by decide +kernel⟩, List.mem_of_getElem? (i := 961) (by decide +kernel), List.mem_of_getElem? (i := 1306) (by decide +kernel), List.mem_of_getElem? (i := 1307) (by decide +kernel)⟩
theorem lw_p63 : lw_okq (⟨"ClaimBusModel", "saidByte", "(III)I"⟩, 63) := ⟨⟨by decide +kernel, by decide +kernel⟩, List.mem_of_getElem? (i := 961) (by decide +kernel), List.mem_of_getElem? (i := 1310) (by decide +kernel), List.mem_of_getElem? (i := 1311) (by decide +kernel)⟩
def lw_privs_4 : List (MethodName × Nat) := [(⟨"ClaimBusModel", "timers", "(I)V"⟩, 63), (⟨"ClaimBusModel", "putPacket", "(II)V"⟩, 63), (⟨"ClaimBusModel", "nextGot", "(II)I"⟩, 63), (⟨"ClaimBusModel", "late", "(II)V"⟩, 63), (⟨"ClaimBusModel", "clear", "(II)V"⟩, 63), (⟨"ClaimBusModel", "carry", "()V"⟩, 63), (⟨"ClaimBusModel", "goesBefore", "(II)Z"⟩, 63), (⟨"ClaimBusModel", "byteOf", "(III)I"⟩, 63), (⟨"ClaimBusModel", "comes", "(IIIII)V"⟩, 63), (⟨"ClaimBusModel", "claimCame", "(III)V"⟩, 63), (⟨"ClaimBusModel", "isLess", "(JJ)Z"⟩, 63), (⟨"ClaimBusModel", "nextAddress", "(I)I"⟩, 63), (⟨"ClaimBusModel", "packetCame", "(IIIZII)V"⟩, 63), (⟨"ClaimBusModel", "getting", "(IIZ)I"⟩, 63), (⟨"ClaimBusModel", "check", "(II)V"⟩, 63), (⟨"ClaimBusModel", "saidByte", "(III)I"⟩, 63)]
theorem lw_r4 : ∀ q ∈ lw_privs_4, lw_okq q := List.forall_mem_cons.mpr ⟨lw_p48, List.forall_mem_cons.mpr ⟨lw_p49, List.forall_mem_cons.mpr ⟨lw_p50, List.forall_mem_cons.mpr ⟨lw_p51, List.forall_mem_cons.mpr ⟨lw_p52, List.forall_mem_cons.mpr ⟨lw_p53, List.forall_mem_cons.mpr ⟨lw_p54, List.forall_mem_cons.mpr ⟨lw_p55, List.forall_mem_cons.mpr ⟨lw_p56, List.forall_mem_cons.mpr ⟨lw_p57, List.forall_mem_cons.mpr ⟨lw_p58, List.forall_mem_cons.mpr ⟨lw_p59, List.forall_mem_cons.mpr ⟨lw_p60, List.forall_mem_cons.mpr ⟨lw_p61, List.forall_mem_cons.mpr ⟨lw_p62, List.forall_mem_cons.mpr ⟨lw_p63, fun _ h => absurd h List.not_mem_nil⟩⟩⟩⟩⟩⟩⟩⟩⟩⟩⟩⟩⟩⟩⟩⟩
theorem lw_p64 : lw_okq (⟨"ClaimBusModel", "messageCame", "(IIIII)V"⟩, 63) := ⟨⟨by decide +kernel, by decide +kernel⟩, List.mem_of_getElem? (i := 961) (by decide +kernel), List.mem_of_getElem? (i := 1314) (by decide +kernel), List.mem_of_getElem? (i := 1315) (by decide +kernel)⟩
theorem lw_p65 : lw_okq (⟨"ClaimBusModel", "keepTroubles", "(IIII)V"⟩, 63) := ⟨⟨by decide +kernel, by decide +kernel⟩, List.mem_of_getElem? (i := 961) (by decide +kernel), List.mem_of_getElem? (i := 1318) (by decide +kernel), List.mem_of_getElem? (i := 1319) (by decide +kernel)⟩
theorem lw_p66 : lw_okq (⟨"ClaimBusModel", "controlCame", "(IIZII)V"⟩, 63) := ⟨⟨by decide +kernel, by decide +kernel⟩, List.mem_of_getElem? (i := 961) (by decide +kernel), List.mem_of_getElem? (i := 1322) (by decide +kernel), List.mem_of_getElem? (i := 1323) (by decide +kernel)⟩
theorem lw_p67 : lw_okq (⟨"ClaimBusModel", "begin", "(IIZIII)I"⟩, 63) := ⟨⟨by decide +kernel, by decide +kernel⟩, List.mem_of_getElem? (i := 961) (by decide +kernel), List.mem_of_getElem? (i := 1326) (by decide +kernel), List.mem_of_getElem? (i := 1327) (by decide +kernel)⟩
theorem lw_p68 : lw_okq (⟨"ClaimBusModel", "freePlace", "(I)I"⟩, 63) := ⟨⟨by decide +kernel, by decide +kernel⟩, List.mem_of_getElem? (i := 961) (by decide +kernel), List.mem_of_getElem? (i := 1330) (by decide +kernel), List.mem_of_getElem? (i := 1331) (by decide +kernel)⟩
theorem lw_p69 : lw_okq (⟨"ClaimBusModel", "ones", "(I)I"⟩, 63) := ⟨⟨by decide +kernel, by decide +kernel⟩, List.mem_of_getElem? (i := 961) (by decide +kernel), List.mem_of_getElem? (i := 1334) (by decide +kernel), List.mem_of_getElem? (i := 1335) (by decide +kernel)⟩
theorem lw_p70 : lw_okq (⟨"ClaimBusModel", "putPackets", "(III)V"⟩, 63) := ⟨⟨by decide +kernel, by decide +kernel⟩, List.mem_of_getElem? (i := 961) (by decide +kernel), List.mem_of_getElem? (i := 1338) (by decide +kernel), List.mem_of_getElem? (i := 1339) (by decide +kernel)⟩
def lw_privs_5 : List (MethodName × Nat) := [(⟨"ClaimBusModel", "messageCame", "(IIIII)V"⟩, 63), (⟨"ClaimBusModel", "keepTroubles", "(IIII)V"⟩, 63), (⟨"ClaimBusModel", "controlCame", "(IIZII)V"⟩, 63), (⟨"ClaimBusModel", "begin", "(IIZIII)I"⟩, 63), (⟨"ClaimBusModel", "freePlace", "(I)I"⟩, 63), (⟨"ClaimBusModel", "ones", "(I)I"⟩, 63), (⟨"ClaimBusModel", "putPackets", "(III)V"⟩, 63)]
theorem lw_r5 : ∀ q ∈ lw_privs_5, lw_okq q := List.forall_mem_cons.mpr ⟨lw_p64, List.forall_mem_cons.mpr ⟨lw_p65, List.forall_mem_cons.mpr ⟨lw_p66, List.forall_mem_cons.mpr ⟨lw_p67, List.forall_mem_cons.mpr ⟨lw_p68, List.forall_mem_cons.mpr ⟨lw_p69, List.forall_mem_cons.mpr ⟨lw_p70, fun _ h => absurd h List.not_mem_nil⟩⟩⟩⟩⟩⟩⟩
def lw_privs : List (MethodName × Nat) := lw_privs_1 ++ (lw_privs_2 ++ (lw_privs_3 ++ (lw_privs_4 ++ (lw_privs_5))))
def lw_tbl : List Cond := k2_sels lw_privs ++ tables_1
theorem lw_privs_ok : ∀ q ∈ lw_privs, lw_okq q := by
  show ∀ q ∈ lw_privs_1 ++ (lw_privs_2 ++ (lw_privs_3 ++ (lw_privs_4 ++ (lw_privs_5)))), lw_okq q
  exact List.forall_mem_append.mpr ⟨lw_r1, List.forall_mem_append.mpr ⟨lw_r2, List.forall_mem_append.mpr ⟨lw_r3, List.forall_mem_append.mpr ⟨lw_r4, lw_r5⟩⟩⟩⟩

/-! ===== BEGIN words of one list among another's, by their places ===== -/
theorem goodIn_r {big : List Cond} (ws : List Cond) (ps : List Nat) (hp : ws = ps.filterMap (fun i => big[i]?)) (h : ws.all goodWord = true) : GoodIn big ws := by
  intro w hw
  have h1 := List.all_eq_true.mp h w hw
  rw [hp] at hw
  obtain ⟨i, -, hi⟩ := List.mem_filterMap.mp hw
  have hm : w ∈ big := by first | exact List.mem_of_getElem? hi | exact List.getElem?_mem hi
  exact ⟨hm, good_of_word h1⟩
theorem goodIn_app {big a b : List Cond} (ha : GoodIn big a) (hb : GoodIn big b) : GoodIn big (a ++ b) := fun w h => (List.mem_append.mp h).elim (ha w) (hb w)
theorem goodIn_ca {big a b : List Cond} {c : Cond} (ha : GoodIn big (c :: a)) (hb : GoodIn big b) : GoodIn big (c :: (a ++ b)) := fun w h => (List.mem_cons.mp h).elim (fun e => ha w (List.mem_cons.mpr (Or.inl e))) (fun h => (List.mem_append.mp h).elim (fun h => ha w (List.mem_cons.mpr (Or.inr h))) (hb w))
theorem goodIn_sub {big ws : List Cond} (hm : ∀ w ∈ ws, w ∈ big) (h : ws.all goodWord = true) : GoodIn big ws := fun w hw => ⟨hm w hw, good_of_word (List.all_eq_true.mp h w hw)⟩
/-! ===== END ===== -/

/-! ===== BEGIN printed: names, fields, word lists, decode rows ===== -/
def RX0 : String := "ClaimBus$Chunk"
def TX0 : u_T := fun k => match k with
  | 0 => ("ClaimBus$Chunk", "entries", "[J", true)
  | _ => ("ClaimBus$Chunk", "next", "LClaimBus$Chunk;", false)
def tyX0 : Nat → FieldType := fun k => match k with
  | 0 => .array .long
  | _ => .object "ClaimBus$Chunk"
abbrev wsX00 : List Cond := u_ws RX0 TX0 2
theorem nmX0 : ∀ a, a < 2 → ∀ b, b < 2 → a ≠ b → (TX0 a).2.1 ≠ (TX0 b).2.1 := by decide +kernel
theorem tyX0_ok : ∀ k, k < 2 → parseFieldDescriptor (TX0 k).2.2.1 = some (tyX0 k) := by decide +kernel
abbrev cX0_init : ByteArray := prog_2_method_1_code
def yX0_init : MethodName := ⟨RX0, "<init>", "()V"⟩
def RX1 : String := "ClaimBus$Frame"
def TX1 : u_T := fun k => match k with
  | 0 => ("ClaimBus$Frame", "identifier", "I", false)
  | 1 => ("ClaimBus$Frame", "first", "I", false)
  | 2 => ("ClaimBus$Frame", "others", "I", false)
  | _ => ("ClaimBus$Frame", "whole", "LClaimBus$Message;", false)
def tyX1 : Nat → FieldType := fun k => match k with
  | 0 => .int
  | 1 => .int
  | 2 => .int
  | _ => .object "ClaimBus$Message"
abbrev wsX10 : List Cond := u_ws RX1 TX1 4
theorem nmX1 : ∀ a, a < 4 → ∀ b, b < 4 → a ≠ b → (TX1 a).2.1 ≠ (TX1 b).2.1 := by decide +kernel
theorem tyX1_ok : ∀ k, k < 4 → parseFieldDescriptor (TX1 k).2.2.1 = some (tyX1 k) := by decide +kernel
abbrev cX1_init : ByteArray := prog_3_method_1_code
def yX1_init : MethodName := ⟨RX1, "<init>", "()V"⟩
abbrev cX1_write : ByteArray := prog_3_method_2_code
def yX1_write : MethodName := ⟨RX1, "write", "(IIILClaimBus$Message;)V"⟩
abbrev cX1_takeOver : ByteArray := prog_3_method_3_code
def yX1_takeOver : MethodName := ⟨RX1, "takeOver", "(LClaimBus$Frame;)V"⟩
abbrev cX1_isOf : ByteArray := prog_3_method_4_code
def yX1_isOf : MethodName := ⟨RX1, "isOf", "(I)Z"⟩
abbrev cX1_isFor : ByteArray := prog_3_method_5_code
def yX1_isFor : MethodName := ⟨RX1, "isFor", "(I)Z"⟩
abbrev cX1_isForAll : ByteArray := prog_3_method_6_code
def yX1_isForAll : MethodName := ⟨RX1, "isForAll", "()Z"⟩
abbrev cX1_source : ByteArray := prog_3_method_7_code
def yX1_source : MethodName := ⟨RX1, "source", "()I"⟩
abbrev cX1_group : ByteArray := prog_3_method_8_code
def yX1_group : MethodName := ⟨RX1, "group", "()I"⟩
abbrev cX1_controlGroup : ByteArray := prog_3_method_9_code
def yX1_controlGroup : MethodName := ⟨RX1, "controlGroup", "()I"⟩
abbrev cX1_byteAt : ByteArray := prog_3_method_10_code
def yX1_byteAt : MethodName := ⟨RX1, "byteAt", "(I)I"⟩
abbrev cX1_goesBefore : ByteArray := prog_3_method_11_code
def yX1_goesBefore : MethodName := ⟨RX1, "goesBefore", "(LClaimBus$Frame;)Z"⟩
def RX2 : String := "ClaimBus$Inbox"
def TX2 : u_T := fun k => match k with
  | 0 => ("ClaimBus$Inbox", "came", "I", false)
  | 1 => ("ClaimBus$Inbox", "gotAnotherThanSent", "Z", false)
  | 2 => ("ClaimBus$Inbox", "log", "[I", true)
  | _ => ("ClaimBus$Inbox", "troubles", "[[I", true)
def tyX2 : Nat → FieldType := fun k => match k with
  | 0 => .int
  | 1 => .boolean
  | 2 => .array .int
  | _ => .array (.array .int)
abbrev wsX20 : List Cond := u_ws RX2 TX2 4
theorem nmX2 : ∀ a, a < 4 → ∀ b, b < 4 → a ≠ b → (TX2 a).2.1 ≠ (TX2 b).2.1 := by decide +kernel
theorem tyX2_ok : ∀ k, k < 4 → parseFieldDescriptor (TX2 k).2.2.1 = some (tyX2 k) := by decide +kernel
abbrev cX2_init : ByteArray := prog_4_method_1_code
def yX2_init : MethodName := ⟨RX2, "<init>", "()V"⟩
abbrev cX2_takeFrame : ByteArray := prog_4_method_2_code
def yX2_takeFrame : MethodName := ⟨RX2, "takeFrame", "(LClaimBus$Frame;)V"⟩
abbrev cX2_takeMessage : ByteArray := prog_4_method_3_code
def yX2_takeMessage : MethodName := ⟨RX2, "takeMessage", "(LClaimBus$Transport;)V"⟩
abbrev cX2_keepTroubles : ByteArray := prog_4_method_4_code
def yX2_keepTroubles : MethodName := ⟨RX2, "keepTroubles", "([ILClaimBus$Transport;)V"⟩
abbrev cX2_enter : ByteArray := prog_4_method_5_code
def yX2_enter : MethodName := ⟨RX2, "enter", "(IIII)V"⟩
abbrev cX2_listOf : ByteArray := prog_4_method_6_code
def yX2_listOf : MethodName := ⟨RX2, "listOf", "(I)[I"⟩
abbrev cX2_forgetTroubles : ByteArray := prog_4_method_7_code
def yX2_forgetTroubles : MethodName := ⟨RX2, "forgetTroubles", "()V"⟩
abbrev cX2_logged : ByteArray := prog_4_method_8_code
def yX2_logged : MethodName := ⟨RX2, "logged", "(II)I"⟩
abbrev cX2_keptTrouble : ByteArray := prog_4_method_9_code
def yX2_keptTrouble : MethodName := ⟨RX2, "keptTrouble", "(III)I"⟩
def RX3 : String := "ClaimBus$Message"
def TX3 : u_T := fun k => match k with
  | 0 => ("ClaimBus$Message", "index", "I", true)
  | 1 => ("ClaimBus$Message", "to", "I", true)
  | 2 => ("ClaimBus$Message", "group", "I", true)
  | 3 => ("ClaimBus$Message", "size", "I", true)
  | 4 => ("ClaimBus$Message", "seed", "I", true)
  | _ => ("ClaimBus$Message", "troubles", "[I", false)
def tyX3 : Nat → FieldType := fun k => match k with
  | 0 => .int
  | 1 => .int
  | 2 => .int
  | 3 => .int
  | 4 => .int
  | _ => .array .int
abbrev wsX30 : List Cond := u_ws RX3 TX3 6
theorem nmX3 : ∀ a, a < 6 → ∀ b, b < 6 → a ≠ b → (TX3 a).2.1 ≠ (TX3 b).2.1 := by decide +kernel
theorem tyX3_ok : ∀ k, k < 6 → parseFieldDescriptor (TX3 k).2.2.1 = some (tyX3 k) := by decide +kernel
abbrev cX3_init : ByteArray := prog_5_method_1_code
def yX3_init : MethodName := ⟨RX3, "<init>", "(IIIII)V"⟩
abbrev cX3_writeShort : ByteArray := prog_5_method_2_code
def yX3_writeShort : MethodName := ⟨RX3, "writeShort", "(LClaimBus$Frame;I)V"⟩
abbrev cX3_writePacket : ByteArray := prog_5_method_3_code
def yX3_writePacket : MethodName := ⟨RX3, "writePacket", "(LClaimBus$Frame;II)V"⟩
abbrev cX3_writeControl : ByteArray := prog_5_method_4_code
def yX3_writeControl : MethodName := ⟨RX3, "writeControl", "(LClaimBus$Frame;IIII)V"⟩
abbrev cX3_packets : ByteArray := prog_5_method_5_code
def yX3_packets : MethodName := ⟨RX3, "packets", "()I"⟩
abbrev cX3_fourFrom : ByteArray := prog_5_method_6_code
def yX3_fourFrom : MethodName := ⟨RX3, "fourFrom", "(I)I"⟩
abbrev cX3_byteAt : ByteArray := prog_5_method_7_code
def yX3_byteAt : MethodName := ⟨RX3, "byteAt", "(I)I"⟩
def RX4 : String := "ClaimBus$Node"
def TX4 : u_T := fun k => match k with
  | 0 => ("ClaimBus$Node", "high", "I", true)
  | 1 => ("ClaimBus$Node", "low", "I", true)
  | 2 => ("ClaimBus$Node", "wanted", "I", true)
  | 3 => ("ClaimBus$Node", "free", "Z", true)
  | 4 => ("ClaimBus$Node", "window", "I", true)
  | 5 => ("ClaimBus$Node", "row", "LClaimBus$Row;", true)
  | 6 => ("ClaimBus$Node", "table", "LClaimBus$Table;", true)
  | 7 => ("ClaimBus$Node", "sending", "LClaimBus$Sending;", true)
  | 8 => ("ClaimBus$Node", "inbox", "LClaimBus$Inbox;", true)
  | 9 => ("ClaimBus$Node", "gets", "[LClaimBus$Transport;", true)
  | 10 => ("ClaimBus$Node", "collects", "Ljava/util/ArrayList;", true)
  | 11 => ("ClaimBus$Node", "troubles", "[I", true)
  | 12 => ("ClaimBus$Node", "troubleCount", "I", false)
  | 13 => ("ClaimBus$Node", "state", "I", false)
  | 14 => ("ClaimBus$Node", "address", "I", false)
  | 15 => ("ClaimBus$Node", "claimCarriedAt", "I", false)
  | 16 => ("ClaimBus$Node", "toLose", "I", false)
  | _ => ("ClaimBus$Node", "lost", "I", false)
def tyX4 : Nat → FieldType := fun k => match k with
  | 0 => .int
  | 1 => .int
  | 2 => .int
  | 3 => .boolean
  | 4 => .int
  | 5 => .object "ClaimBus$Row"
  | 6 => .object "ClaimBus$Table"
  | 7 => .object "ClaimBus$Sending"
  | 8 => .object "ClaimBus$Inbox"
  | 9 => .array (.object "ClaimBus$Transport")
  | 10 => .object "java/util/ArrayList"
  | 11 => .array .int
  | 12 => .int
  | 13 => .int
  | 14 => .int
  | 15 => .int
  | 16 => .int
  | _ => .int
abbrev wsX40 : List Cond := u_ws RX4 TX4 18
theorem nmX4 : ∀ a, a < 18 → ∀ b, b < 18 → a ≠ b → (TX4 a).2.1 ≠ (TX4 b).2.1 := by decide +kernel
theorem tyX4_ok : ∀ k, k < 18 → parseFieldDescriptor (TX4 k).2.2.1 = some (tyX4 k) := by decide +kernel
abbrev cX4_init : ByteArray := prog_6_method_1_code
def yX4_init : MethodName := ⟨RX4, "<init>", "(IIIZILClaimBus$Store;)V"⟩
abbrev cX4_sharesAddressWith : ByteArray := prog_6_method_2_code
def yX4_sharesAddressWith : MethodName := ⟨RX4, "sharesAddressWith", "(LClaimBus$Node;)Z"⟩
abbrev cX4_openTransports : ByteArray := prog_6_method_3_code
def yX4_openTransports : MethodName := ⟨RX4, "openTransports", "()I"⟩
abbrev cX4_addTrouble : ByteArray := prog_6_method_4_code
def yX4_addTrouble : MethodName := ⟨RX4, "addTrouble", "(III)I"⟩
abbrev cX4_copyOfTroubles : ByteArray := prog_6_method_5_code
def yX4_copyOfTroubles : MethodName := ⟨RX4, "copyOfTroubles", "()[I"⟩
abbrev cX4_claimAddress : ByteArray := prog_6_method_6_code
def yX4_claimAddress : MethodName := ⟨RX4, "claimAddress", "(I)V"⟩
abbrev cX4_turnOff : ByteArray := prog_6_method_7_code
def yX4_turnOff : MethodName := ⟨RX4, "turnOff", "()V"⟩
abbrev cX4_dropAll : ByteArray := prog_6_method_8_code
def yX4_dropAll : MethodName := ⟨RX4, "dropAll", "()V"⟩
abbrev cX4_maySend : ByteArray := prog_6_method_9_code
def yX4_maySend : MethodName := ⟨RX4, "maySend", "()Z"⟩
abbrev cX4_beginSending : ByteArray := prog_6_method_10_code
def yX4_beginSending : MethodName := ⟨RX4, "beginSending", "(LClaimBus$Message;I)V"⟩
abbrev cX4_frameWasCarried : ByteArray := prog_6_method_11_code
def yX4_frameWasCarried : MethodName := ⟨RX4, "frameWasCarried", "(ZI)V"⟩
abbrev cX4_nextTimer : ByteArray := prog_6_method_12_code
def yX4_nextTimer : MethodName := ⟨RX4, "nextTimer", "()I"⟩
abbrev cX4_runTimers : ByteArray := prog_6_method_13_code
def yX4_runTimers : MethodName := ⟨RX4, "runTimers", "(I)V"⟩
abbrev cX4_sendOn : ByteArray := prog_6_method_14_code
def yX4_sendOn : MethodName := ⟨RX4, "sendOn", "(I)V"⟩
abbrev cX4_waitedTooLong : ByteArray := prog_6_method_15_code
def yX4_waitedTooLong : MethodName := ⟨RX4, "waitedTooLong", "(LClaimBus$Transport;I)V"⟩
abbrev cX4_breakOff : ByteArray := prog_6_method_16_code
def yX4_breakOff : MethodName := ⟨RX4, "breakOff", "(LClaimBus$Message;II)V"⟩
abbrev cX4_clearNext : ByteArray := prog_6_method_17_code
def yX4_clearNext : MethodName := ⟨RX4, "clearNext", "(LClaimBus$Transport;I)V"⟩
abbrev cX4_hear : ByteArray := prog_6_method_18_code
def yX4_hear : MethodName := ⟨RX4, "hear", "(LClaimBus$Frame;II)V"⟩
abbrev cX4_hearClaim : ByteArray := prog_6_method_19_code
def yX4_hearClaim : MethodName := ⟨RX4, "hearClaim", "(LClaimBus$Frame;I)V"⟩
abbrev cX4_goesBeforeName : ByteArray := prog_6_method_20_code
def yX4_goesBeforeName : MethodName := ⟨RX4, "goesBeforeName", "(II)Z"⟩
abbrev cX4_nextFreeAddress : ByteArray := prog_6_method_21_code
def yX4_nextFreeAddress : MethodName := ⟨RX4, "nextFreeAddress", "()I"⟩
abbrev cX4_hearControl : ByteArray := prog_6_method_22_code
def yX4_hearControl : MethodName := ⟨RX4, "hearControl", "(LClaimBus$Frame;I)V"⟩
abbrev cX4_sendCleared : ByteArray := prog_6_method_23_code
def yX4_sendCleared : MethodName := ⟨RX4, "sendCleared", "(III)V"⟩
abbrev cX4_dropGot : ByteArray := prog_6_method_24_code
def yX4_dropGot : MethodName := ⟨RX4, "dropGot", "(II)V"⟩
abbrev cX4_gotFrom : ByteArray := prog_6_method_25_code
def yX4_gotFrom : MethodName := ⟨RX4, "gotFrom", "(I)LClaimBus$Transport;"⟩
abbrev cX4_placeFor : ByteArray := prog_6_method_26_code
def yX4_placeFor : MethodName := ⟨RX4, "placeFor", "(I)LClaimBus$Transport;"⟩
abbrev cX4_getPacket : ByteArray := prog_6_method_27_code
def yX4_getPacket : MethodName := ⟨RX4, "getPacket", "(LClaimBus$Frame;I)V"⟩
abbrev cX4_collectedFrom : ByteArray := prog_6_method_28_code
def yX4_collectedFrom : MethodName := ⟨RX4, "collectedFrom", "(I)LClaimBus$Transport;"⟩
abbrev cX4_beginCollecting : ByteArray := prog_6_method_29_code
def yX4_beginCollecting : MethodName := ⟨RX4, "beginCollecting", "(LClaimBus$Frame;I)V"⟩
abbrev cX4_collectPacket : ByteArray := prog_6_method_30_code
def yX4_collectPacket : MethodName := ⟨RX4, "collectPacket", "(LClaimBus$Frame;I)V"⟩
def RX5 : String := "ClaimBus$Row"
def TX5 : u_T := fun k => match k with
  | 0 => ("ClaimBus$Row", "high", "I", true)
  | 1 => ("ClaimBus$Row", "low", "I", true)
  | 2 => ("ClaimBus$Row", "store", "LClaimBus$Store;", true)
  | 3 => ("ClaimBus$Row", "head", "LClaimBus$Chunk;", false)
  | 4 => ("ClaimBus$Row", "tail", "LClaimBus$Chunk;", false)
  | 5 => ("ClaimBus$Row", "headPlace", "I", false)
  | 6 => ("ClaimBus$Row", "tailPlace", "I", false)
  | 7 => ("ClaimBus$Row", "frames", "I", false)
  | 8 => ("ClaimBus$Row", "gone", "I", false)
  | 9 => ("ClaimBus$Row", "claimWaits", "Z", false)
  | 10 => ("ClaimBus$Row", "first", "LClaimBus$Frame;", true)
  | _ => ("ClaimBus$Row", "firstIsWritten", "Z", false)
def tyX5 : Nat → FieldType := fun k => match k with
  | 0 => .int
  | 1 => .int
  | 2 => .object "ClaimBus$Store"
  | 3 => .object "ClaimBus$Chunk"
  | 4 => .object "ClaimBus$Chunk"
  | 5 => .int
  | 6 => .int
  | 7 => .int
  | 8 => .int
  | 9 => .boolean
  | 10 => .object "ClaimBus$Frame"
  | _ => .boolean
abbrev wsX50 : List Cond := u_ws RX5 TX5 12
theorem nmX5 : ∀ a, a < 12 → ∀ b, b < 12 → a ≠ b → (TX5 a).2.1 ≠ (TX5 b).2.1 := by decide +kernel
theorem tyX5_ok : ∀ k, k < 12 → parseFieldDescriptor (TX5 k).2.2.1 = some (tyX5 k) := by decide +kernel
abbrev cX5_init : ByteArray := prog_7_method_1_code
def yX5_init : MethodName := ⟨RX5, "<init>", "(IILClaimBus$Store;)V"⟩
abbrev cX5_length : ByteArray := prog_7_method_2_code
def yX5_length : MethodName := ⟨RX5, "length", "()I"⟩
abbrev cX5_putClaim : ByteArray := prog_7_method_3_code
def yX5_putClaim : MethodName := ⟨RX5, "putClaim", "()V"⟩
abbrev cX5_put : ByteArray := prog_7_method_4_code
def yX5_put : MethodName := ⟨RX5, "put", "(LClaimBus$Message;IIII)V"⟩
abbrev cX5_lengthen : ByteArray := prog_7_method_5_code
def yX5_lengthen : MethodName := ⟨RX5, "lengthen", "(LClaimBus$Chunk;)V"⟩
abbrev cX5_firstEntry : ByteArray := prog_7_method_6_code
def yX5_firstEntry : MethodName := ⟨RX5, "firstEntry", "()J"⟩
abbrev cX5_first : ByteArray := prog_7_method_7_code
def yX5_first : MethodName := ⟨RX5, "first", "(I)LClaimBus$Frame;"⟩
abbrev cX5_writeFirst : ByteArray := prog_7_method_8_code
def yX5_writeFirst : MethodName := ⟨RX5, "writeFirst", "(I)V"⟩
abbrev cX5_removeFirst : ByteArray := prog_7_method_9_code
def yX5_removeFirst : MethodName := ⟨RX5, "removeFirst", "()V"⟩
abbrev cX5_removeFromFirstEntry : ByteArray := prog_7_method_10_code
def yX5_removeFromFirstEntry : MethodName := ⟨RX5, "removeFromFirstEntry", "()V"⟩
abbrev cX5_clear : ByteArray := prog_7_method_11_code
def yX5_clear : MethodName := ⟨RX5, "clear", "()V"⟩
def RX6 : String := "ClaimBus$Sending"
def TX6 : u_T := fun k => match k with
  | 0 => ("ClaimBus$Sending", "state", "I", false)
  | 1 => ("ClaimBus$Sending", "nextPacket", "I", false)
  | 2 => ("ClaimBus$Sending", "due", "I", false)
  | _ => ("ClaimBus$Sending", "whole", "LClaimBus$Message;", false)
def tyX6 : Nat → FieldType := fun k => match k with
  | 0 => .int
  | 1 => .int
  | 2 => .int
  | _ => .object "ClaimBus$Message"
abbrev wsX60 : List Cond := u_ws RX6 TX6 4
theorem nmX6 : ∀ a, a < 4 → ∀ b, b < 4 → a ≠ b → (TX6 a).2.1 ≠ (TX6 b).2.1 := by decide +kernel
theorem tyX6_ok : ∀ k, k < 4 → parseFieldDescriptor (TX6 k).2.2.1 = some (tyX6 k) := by decide +kernel
abbrev cX6_init : ByteArray := prog_8_method_1_code
def yX6_init : MethodName := ⟨RX6, "<init>", "()V"⟩
abbrev cX6_goesTo : ByteArray := prog_8_method_2_code
def yX6_goesTo : MethodName := ⟨RX6, "goesTo", "(II)Z"⟩
def RX7 : String := "ClaimBus$Store"
def TX7 : u_T := fun k => match k with
  | 0 => ("ClaimBus$Store", "messages", "Ljava/util/ArrayList;", true)
  | _ => ("ClaimBus$Store", "unused", "LClaimBus$Chunk;", false)
def tyX7 : Nat → FieldType := fun k => match k with
  | 0 => .object "java/util/ArrayList"
  | _ => .object "ClaimBus$Chunk"
abbrev wsX70 : List Cond := u_ws RX7 TX7 2
theorem nmX7 : ∀ a, a < 2 → ∀ b, b < 2 → a ≠ b → (TX7 a).2.1 ≠ (TX7 b).2.1 := by decide +kernel
theorem tyX7_ok : ∀ k, k < 2 → parseFieldDescriptor (TX7 k).2.2.1 = some (tyX7 k) := by decide +kernel
abbrev cX7_init : ByteArray := prog_9_method_1_code
def yX7_init : MethodName := ⟨RX7, "<init>", "()V"⟩
abbrev cX7_newMessage : ByteArray := prog_9_method_2_code
def yX7_newMessage : MethodName := ⟨RX7, "newMessage", "(IIII)LClaimBus$Message;"⟩
abbrev cX7_newTelling : ByteArray := prog_9_method_3_code
def yX7_newTelling : MethodName := ⟨RX7, "newTelling", "([I)LClaimBus$Message;"⟩
abbrev cX7_messageAt : ByteArray := prog_9_method_4_code
def yX7_messageAt : MethodName := ⟨RX7, "messageAt", "(I)LClaimBus$Message;"⟩
abbrev cX7_lend : ByteArray := prog_9_method_5_code
def yX7_lend : MethodName := ⟨RX7, "lend", "()LClaimBus$Chunk;"⟩
abbrev cX7_takeBack : ByteArray := prog_9_method_6_code
def yX7_takeBack : MethodName := ⟨RX7, "takeBack", "(LClaimBus$Chunk;LClaimBus$Chunk;)V"⟩
def RX8 : String := "ClaimBus$Table"
def TX8 : u_T := fun k => match k with
  | _ => ("ClaimBus$Table", "addresses", "[I", true)
def tyX8 : Nat → FieldType := fun k => match k with
  | _ => .array .int
abbrev wsX80 : List Cond := u_ws RX8 TX8 1
theorem nmX8 : ∀ a, a < 1 → ∀ b, b < 1 → a ≠ b → (TX8 a).2.1 ≠ (TX8 b).2.1 := by decide +kernel
theorem tyX8_ok : ∀ k, k < 1 → parseFieldDescriptor (TX8 k).2.2.1 = some (tyX8 k) := by decide +kernel
abbrev cX8_init : ByteArray := prog_10_method_1_code
def yX8_init : MethodName := ⟨RX8, "<init>", "()V"⟩
abbrev cX8_clear : ByteArray := prog_10_method_2_code
def yX8_clear : MethodName := ⟨RX8, "clear", "()V"⟩
abbrev cX8_learn : ByteArray := prog_10_method_3_code
def yX8_learn : MethodName := ⟨RX8, "learn", "(II)V"⟩
abbrev cX8_nameAt : ByteArray := prog_10_method_4_code
def yX8_nameAt : MethodName := ⟨RX8, "nameAt", "(I)I"⟩
def RX9 : String := "ClaimBus$Transport"
def TX9 : u_T := fun k => match k with
  | 0 => ("ClaimBus$Transport", "open", "Z", false)
  | 1 => ("ClaimBus$Transport", "source", "I", false)
  | 2 => ("ClaimBus$Transport", "group", "I", false)
  | 3 => ("ClaimBus$Transport", "size", "I", false)
  | 4 => ("ClaimBus$Transport", "packets", "I", false)
  | 5 => ("ClaimBus$Transport", "window", "I", false)
  | 6 => ("ClaimBus$Transport", "expected", "I", false)
  | 7 => ("ClaimBus$Transport", "clearedTo", "I", false)
  | 8 => ("ClaimBus$Transport", "lastHeard", "I", false)
  | 9 => ("ClaimBus$Transport", "waits", "I", false)
  | 10 => ("ClaimBus$Transport", "sum", "I", false)
  | 11 => ("ClaimBus$Transport", "isAsSent", "Z", false)
  | 12 => ("ClaimBus$Transport", "whole", "LClaimBus$Message;", false)
  | _ => ("ClaimBus$Transport", "beginning", "[I", true)
def tyX9 : Nat → FieldType := fun k => match k with
  | 0 => .boolean
  | 1 => .int
  | 2 => .int
  | 3 => .int
  | 4 => .int
  | 5 => .int
  | 6 => .int
  | 7 => .int
  | 8 => .int
  | 9 => .int
  | 10 => .int
  | 11 => .boolean
  | 12 => .object "ClaimBus$Message"
  | _ => .array .int
abbrev wsX90 : List Cond := u_ws RX9 TX9 14
theorem nmX9 : ∀ a, a < 14 → ∀ b, b < 14 → a ≠ b → (TX9 a).2.1 ≠ (TX9 b).2.1 := by decide +kernel
theorem tyX9_ok : ∀ k, k < 14 → parseFieldDescriptor (TX9 k).2.2.1 = some (tyX9 k) := by decide +kernel
abbrev cX9_init : ByteArray := prog_11_method_1_code
def yX9_init : MethodName := ⟨RX9, "<init>", "()V"⟩
abbrev cX9_begin : ByteArray := prog_11_method_2_code
def yX9_begin : MethodName := ⟨RX9, "begin", "(LClaimBus$Frame;I)V"⟩
abbrev cX9_takePacket : ByteArray := prog_11_method_3_code
def yX9_takePacket : MethodName := ⟨RX9, "takePacket", "(LClaimBus$Frame;I)V"⟩
abbrev cX9_takeByte : ByteArray := prog_11_method_4_code
def yX9_takeByte : MethodName := ⟨RX9, "takeByte", "(II)V"⟩
abbrev cX9_isWhole : ByteArray := prog_11_method_5_code
def yX9_isWhole : MethodName := ⟨RX9, "isWhole", "()Z"⟩
abbrev cX9_byteAt : ByteArray := prog_11_method_6_code
def yX9_byteAt : MethodName := ⟨RX9, "byteAt", "(I)I"⟩
def RX10 : String := "ClaimBus"
def TX10 : u_T := fun k => match k with
  | 0 => ("ClaimBus", "nodes", "[LClaimBus$Node;", true)
  | 1 => ("ClaimBus", "store", "LClaimBus$Store;", true)
  | 2 => ("ClaimBus", "last", "LClaimBus$Frame;", true)
  | 3 => ("ClaimBus", "nodeCount", "I", false)
  | 4 => ("ClaimBus", "time", "I", false)
  | 5 => ("ClaimBus", "framesCarried", "I", false)
  | 6 => ("ClaimBus", "lastSender", "I", false)
  | _ => ("ClaimBus", "stopped", "Z", false)
def tyX10 : Nat → FieldType := fun k => match k with
  | 0 => .array (.object "ClaimBus$Node")
  | 1 => .object "ClaimBus$Store"
  | 2 => .object "ClaimBus$Frame"
  | 3 => .int
  | 4 => .int
  | 5 => .int
  | 6 => .int
  | _ => .boolean
abbrev wsX100 : List Cond := u_ws RX10 TX10 8
theorem nmX10 : ∀ a, a < 8 → ∀ b, b < 8 → a ≠ b → (TX10 a).2.1 ≠ (TX10 b).2.1 := by decide +kernel
theorem tyX10_ok : ∀ k, k < 8 → parseFieldDescriptor (TX10 k).2.2.1 = some (tyX10 k) := by decide +kernel
abbrev cX10_init : ByteArray := prog_1_method_1_code
def yX10_init : MethodName := ⟨RX10, "<init>", "()V"⟩
abbrev cX10_node : ByteArray := prog_1_method_2_code
def yX10_node : MethodName := ⟨RX10, "node", "(IIIZI)I"⟩
abbrev cX10_start : ByteArray := prog_1_method_3_code
def yX10_start : MethodName := ⟨RX10, "start", "(I)Z"⟩
abbrev cX10_stop : ByteArray := prog_1_method_4_code
def yX10_stop : MethodName := ⟨RX10, "stop", "(I)Z"⟩
abbrev cX10_request : ByteArray := prog_1_method_5_code
def yX10_request : MethodName := ⟨RX10, "request", "(II)Z"⟩
abbrev cX10_send : ByteArray := prog_1_method_6_code
def yX10_send : MethodName := ⟨RX10, "send", "(IIIII)Z"⟩
abbrev cX10_trouble : ByteArray := prog_1_method_7_code
def yX10_trouble : MethodName := ⟨RX10, "trouble", "(IIII)I"⟩
abbrev cX10_tell : ByteArray := prog_1_method_8_code
def yX10_tell : MethodName := ⟨RX10, "tell", "(I)Z"⟩
abbrev cX10_lose : ByteArray := prog_1_method_9_code
def yX10_lose : MethodName := ⟨RX10, "lose", "(II)Z"⟩
abbrev cX10_pass : ByteArray := prog_1_method_10_code
def yX10_pass : MethodName := ⟨RX10, "pass", "(I)I"⟩
abbrev cX10_told : ByteArray := prog_1_method_11_code
def yX10_told : MethodName := ⟨RX10, "told", "(II)I"⟩
abbrev cX10_table : ByteArray := prog_1_method_12_code
def yX10_table : MethodName := ⟨RX10, "table", "(II)I"⟩
abbrev cX10_message : ByteArray := prog_1_method_13_code
def yX10_message : MethodName := ⟨RX10, "message", "(III)I"⟩
abbrev cX10_kept : ByteArray := prog_1_method_14_code
def yX10_kept : MethodName := ⟨RX10, "kept", "(IIII)I"⟩
abbrev cX10_carried : ByteArray := prog_1_method_15_code
def yX10_carried : MethodName := ⟨RX10, "carried", "(I)I"⟩
abbrev cX10_sound : ByteArray := prog_1_method_16_code
def yX10_sound : MethodName := ⟨RX10, "sound", "()Z"⟩
abbrev cX10_count : ByteArray := prog_1_method_17_code
def yX10_count : MethodName := ⟨RX10, "count", "(I)I"⟩
abbrev cX10_find : ByteArray := prog_1_method_18_code
def yX10_find : MethodName := ⟨RX10, "find", "(I)LClaimBus$Node;"⟩
abbrev cX10_nameIsThere : ByteArray := prog_1_method_19_code
def yX10_nameIsThere : MethodName := ⟨RX10, "nameIsThere", "(II)Z"⟩
abbrev cX10_isReceiver : ByteArray := prog_1_method_20_code
def yX10_isReceiver : MethodName := ⟨RX10, "isReceiver", "(I)Z"⟩
abbrev cX10_isSendable : ByteArray := prog_1_method_21_code
def yX10_isSendable : MethodName := ⟨RX10, "isSendable", "(III)Z"⟩
abbrev cX10_nextMoment : ByteArray := prog_1_method_22_code
def yX10_nextMoment : MethodName := ⟨RX10, "nextMoment", "(I)I"⟩
abbrev cX10_runTimers : ByteArray := prog_1_method_23_code
def yX10_runTimers : MethodName := ⟨RX10, "runTimers", "()V"⟩
abbrev cX10_carryFrame : ByteArray := prog_1_method_24_code
def yX10_carryFrame : MethodName := ⟨RX10, "carryFrame", "()V"⟩
abbrev cX10_firstToSend : ByteArray := prog_1_method_25_code
def yX10_firstToSend : MethodName := ⟨RX10, "firstToSend", "()I"⟩
abbrev cX10_isDisturbed : ByteArray := prog_1_method_26_code
def yX10_isDisturbed : MethodName := ⟨RX10, "isDisturbed", "()Z"⟩
abbrev cX10_addressesAreApart : ByteArray := prog_1_method_27_code
def yX10_addressesAreApart : MethodName := ⟨RX10, "addressesAreApart", "()Z"⟩
abbrev cX10_messagesAreTrue : ByteArray := prog_1_method_28_code
def yX10_messagesAreTrue : MethodName := ⟨RX10, "messagesAreTrue", "()Z"⟩
abbrev cX10_nodesWithAddress : ByteArray := prog_1_method_29_code
def yX10_nodesWithAddress : MethodName := ⟨RX10, "nodesWithAddress", "()I"⟩
abbrev cX10_pack : ByteArray := prog_1_method_30_code
def yX10_pack : MethodName := ⟨RX10, "pack", "(IIII)I"⟩
abbrev cX10_isLess : ByteArray := prog_1_method_31_code
def yX10_isLess : MethodName := ⟨RX10, "isLess", "(II)Z"⟩
abbrev cX10_identifier : ByteArray := prog_1_method_32_code
def yX10_identifier : MethodName := ⟨RX10, "identifier", "(III)I"⟩
def RX11 : String := "ClaimBusModel"
def TX11 : u_T := fun k => match k with
  | 0 => ("ClaimBusModel", "nodes", "I", false)
  | 1 => ("ClaimBusModel", "time", "I", false)
  | 2 => ("ClaimBusModel", "names", "[J", true)
  | 3 => ("ClaimBusModel", "wanted", "[I", true)
  | 4 => ("ClaimBusModel", "address", "[I", true)
  | 5 => ("ClaimBusModel", "free", "[Z", true)
  | 6 => ("ClaimBusModel", "window", "[I", true)
  | 7 => ("ClaimBusModel", "state", "[I", true)
  | 8 => ("ClaimBusModel", "claimed", "[I", true)
  | 9 => ("ClaimBusModel", "tables", "[I", true)
  | 10 => ("ClaimBusModel", "first", "[I", true)
  | 11 => ("ClaimBusModel", "last", "[I", true)
  | 12 => ("ClaimBusModel", "waits", "[I", true)
  | 13 => ("ClaimBusModel", "ids", "[I", true)
  | 14 => ("ClaimBusModel", "lows", "[I", true)
  | 15 => ("ClaimBusModel", "highs", "[I", true)
  | 16 => ("ClaimBusModel", "behind", "[I", true)
  | 17 => ("ClaimBusModel", "back", "I", false)
  | 18 => ("ClaimBusModel", "unused", "I", false)
  | 19 => ("ClaimBusModel", "claimWaits", "[Z", true)
  | 20 => ("ClaimBusModel", "sending", "[I", true)
  | 21 => ("ClaimBusModel", "sendTo", "[I", true)
  | 22 => ("ClaimBusModel", "sendGroup", "[I", true)
  | 23 => ("ClaimBusModel", "sendSize", "[I", true)
  | 24 => ("ClaimBusModel", "sendNext", "[I", true)
  | 25 => ("ClaimBusModel", "sendSince", "[I", true)
  | 26 => ("ClaimBusModel", "sendBytes", "[I", true)
  | 27 => ("ClaimBusModel", "getSource", "[I", true)
  | 28 => ("ClaimBusModel", "getOne", "[Z", true)
  | 29 => ("ClaimBusModel", "getGroup", "[I", true)
  | 30 => ("ClaimBusModel", "getSize", "[I", true)
  | 31 => ("ClaimBusModel", "getWindow", "[I", true)
  | 32 => ("ClaimBusModel", "getNext", "[I", true)
  | 33 => ("ClaimBusModel", "getCleared", "[I", true)
  | 34 => ("ClaimBusModel", "getSince", "[I", true)
  | 35 => ("ClaimBusModel", "getTries", "[I", true)
  | 36 => ("ClaimBusModel", "getOrder", "[I", true)
  | 37 => ("ClaimBusModel", "getBytes", "[I", true)
  | 38 => ("ClaimBusModel", "came", "[I", true)
  | 39 => ("ClaimBusModel", "messages", "[I", true)
  | 40 => ("ClaimBusModel", "lose", "[I", true)
  | 41 => ("ClaimBusModel", "lost", "[I", true)
  | 42 => ("ClaimBusModel", "troubles", "[I", true)
  | 43 => ("ClaimBusModel", "trouble", "[I", true)
  | 44 => ("ClaimBusModel", "keptMany", "[I", true)
  | 45 => ("ClaimBusModel", "kept", "[I", true)
  | 46 => ("ClaimBusModel", "carriedId", "I", false)
  | 47 => ("ClaimBusModel", "carriedLow", "I", false)
  | 48 => ("ClaimBusModel", "carriedHigh", "I", false)
  | 49 => ("ClaimBusModel", "carriedNode", "I", false)
  | 50 => ("ClaimBusModel", "carriedMany", "I", false)
  | 51 => ("ClaimBusModel", "disturbed", "Z", false)
  | 52 => ("ClaimBusModel", "wrong", "Z", false)
  | 53 => ("ClaimBusModel", "said", "I", false)
  | 54 => ("ClaimBusModel", "saidGroup", "[I", true)
  | 55 => ("ClaimBusModel", "saidSize", "[I", true)
  | 56 => ("ClaimBusModel", "saidSeed", "[I", true)
  | 57 => ("ClaimBusModel", "saidTroubles", "[I", true)
  | 58 => ("ClaimBusModel", "latest", "[I", true)
  | 59 => ("ClaimBusModel", "frameOf", "[I", true)
  | 60 => ("ClaimBusModel", "carriedOf", "I", false)
  | 61 => ("ClaimBusModel", "getOf", "[I", true)
  | _ => ("ClaimBusModel", "eight", "[I", true)
def tyX11 : Nat → FieldType := fun k => match k with
  | 0 => .int
  | 1 => .int
  | 2 => .array .long
  | 3 => .array .int
  | 4 => .array .int
  | 5 => .array .boolean
  | 6 => .array .int
  | 7 => .array .int
  | 8 => .array .int
  | 9 => .array .int
  | 10 => .array .int
  | 11 => .array .int
  | 12 => .array .int
  | 13 => .array .int
  | 14 => .array .int
  | 15 => .array .int
  | 16 => .array .int
  | 17 => .int
  | 18 => .int
  | 19 => .array .boolean
  | 20 => .array .int
  | 21 => .array .int
  | 22 => .array .int
  | 23 => .array .int
  | 24 => .array .int
  | 25 => .array .int
  | 26 => .array .int
  | 27 => .array .int
  | 28 => .array .boolean
  | 29 => .array .int
  | 30 => .array .int
  | 31 => .array .int
  | 32 => .array .int
  | 33 => .array .int
  | 34 => .array .int
  | 35 => .array .int
  | 36 => .array .int
  | 37 => .array .int
  | 38 => .array .int
  | 39 => .array .int
  | 40 => .array .int
  | 41 => .array .int
  | 42 => .array .int
  | 43 => .array .int
  | 44 => .array .int
  | 45 => .array .int
  | 46 => .int
  | 47 => .int
  | 48 => .int
  | 49 => .int
  | 50 => .int
  | 51 => .boolean
  | 52 => .boolean
  | 53 => .int
  | 54 => .array .int
  | 55 => .array .int
  | 56 => .array .int
  | 57 => .array .int
  | 58 => .array .int
  | 59 => .array .int
  | 60 => .int
  | 61 => .array .int
  | _ => .array .int
abbrev wsX110 : List Cond := u_ws RX11 TX11 63
theorem nmX11 : ∀ a, a < 63 → ∀ b, b < 63 → a ≠ b → (TX11 a).2.1 ≠ (TX11 b).2.1 := by decide +kernel
theorem tyX11_ok : ∀ k, k < 63 → parseFieldDescriptor (TX11 k).2.2.1 = some (tyX11 k) := by decide +kernel
abbrev cX11_init : ByteArray := prog_13_method_1_code
def yX11_init : MethodName := ⟨RX11, "<init>", "()V"⟩
abbrev cX11_in : ByteArray := prog_13_method_3_code
def yX11_in : MethodName := ⟨RX11, "in", "(III)Z"⟩
abbrev cX11_isNode : ByteArray := prog_13_method_4_code
def yX11_isNode : MethodName := ⟨RX11, "isNode", "(I)Z"⟩
abbrev cX11_identifier : ByteArray := prog_13_method_5_code
def yX11_identifier : MethodName := ⟨RX11, "identifier", "(IIIII)I"⟩
abbrev cX11_lay : ByteArray := prog_13_method_6_code
def yX11_lay : MethodName := ⟨RX11, "lay", "(IIII)I"⟩
abbrev cX11_put : ByteArray := prog_13_method_7_code
def yX11_put : MethodName := ⟨RX11, "put", "(IIII)V"⟩
abbrev cX11_release : ByteArray := prog_13_method_8_code
def yX11_release : MethodName := ⟨RX11, "release", "(I)V"⟩
abbrev cX11_word : ByteArray := prog_13_method_9_code
def yX11_word : MethodName := ⟨RX11, "word", "(IIII)I"⟩
abbrev cX11_control : ByteArray := prog_13_method_10_code
def yX11_control : MethodName := ⟨RX11, "control", "(IIIIIIII)V"⟩
abbrev cX11_putClaim : ByteArray := prog_13_method_11_code
def yX11_putClaim : MethodName := ⟨RX11, "putClaim", "(I)V"⟩
abbrev cX11_dropAll : ByteArray := prog_13_method_12_code
def yX11_dropAll : MethodName := ⟨RX11, "dropAll", "(I)V"⟩
abbrev cX11_node : ByteArray := prog_13_method_13_code
def yX11_node : MethodName := ⟨RX11, "node", "(IIIZI)I"⟩
abbrev cX11_start : ByteArray := prog_13_method_14_code
def yX11_start : MethodName := ⟨RX11, "start", "(I)Z"⟩
abbrev cX11_stop : ByteArray := prog_13_method_15_code
def yX11_stop : MethodName := ⟨RX11, "stop", "(I)Z"⟩
abbrev cX11_request : ByteArray := prog_13_method_16_code
def yX11_request : MethodName := ⟨RX11, "request", "(II)Z"⟩
abbrev cX11_canSend : ByteArray := prog_13_method_17_code
def yX11_canSend : MethodName := ⟨RX11, "canSend", "(I)Z"⟩
abbrev cX11_packetsOf : ByteArray := prog_13_method_18_code
def yX11_packetsOf : MethodName := ⟨RX11, "packetsOf", "(I)I"⟩
abbrev cX11_sendRow : ByteArray := prog_13_method_19_code
def yX11_sendRow : MethodName := ⟨RX11, "sendRow", "(IIIIII)V"⟩
abbrev cX11_send : ByteArray := prog_13_method_20_code
def yX11_send : MethodName := ⟨RX11, "send", "(IIIII)Z"⟩
abbrev cX11_trouble : ByteArray := prog_13_method_21_code
def yX11_trouble : MethodName := ⟨RX11, "trouble", "(IIII)I"⟩
abbrev cX11_tell : ByteArray := prog_13_method_22_code
def yX11_tell : MethodName := ⟨RX11, "tell", "(I)Z"⟩
abbrev cX11_lose : ByteArray := prog_13_method_23_code
def yX11_lose : MethodName := ⟨RX11, "lose", "(II)Z"⟩
abbrev cX11_byteOf : ByteArray := prog_13_method_24_code
def yX11_byteOf : MethodName := ⟨RX11, "byteOf", "(III)I"⟩
abbrev cX11_isLess : ByteArray := prog_13_method_25_code
def yX11_isLess : MethodName := ⟨RX11, "isLess", "(JJ)Z"⟩
abbrev cX11_claimCame : ByteArray := prog_13_method_26_code
def yX11_claimCame : MethodName := ⟨RX11, "claimCame", "(III)V"⟩
abbrev cX11_nextAddress : ByteArray := prog_13_method_27_code
def yX11_nextAddress : MethodName := ⟨RX11, "nextAddress", "(I)I"⟩
abbrev cX11_keepTroubles : ByteArray := prog_13_method_28_code
def yX11_keepTroubles : MethodName := ⟨RX11, "keepTroubles", "(IIII)V"⟩
abbrev cX11_messageCame : ByteArray := prog_13_method_29_code
def yX11_messageCame : MethodName := ⟨RX11, "messageCame", "(IIIII)V"⟩
abbrev cX11_getting : ByteArray := prog_13_method_30_code
def yX11_getting : MethodName := ⟨RX11, "getting", "(IIZ)I"⟩
abbrev cX11_freePlace : ByteArray := prog_13_method_31_code
def yX11_freePlace : MethodName := ⟨RX11, "freePlace", "(I)I"⟩
abbrev cX11_begin : ByteArray := prog_13_method_32_code
def yX11_begin : MethodName := ⟨RX11, "begin", "(IIZIII)I"⟩
abbrev cX11_clear : ByteArray := prog_13_method_33_code
def yX11_clear : MethodName := ⟨RX11, "clear", "(II)V"⟩
abbrev cX11_ones : ByteArray := prog_13_method_34_code
def yX11_ones : MethodName := ⟨RX11, "ones", "(I)I"⟩
abbrev cX11_packetCame : ByteArray := prog_13_method_35_code
def yX11_packetCame : MethodName := ⟨RX11, "packetCame", "(IIIZII)V"⟩
abbrev cX11_saidByte : ByteArray := prog_13_method_36_code
def yX11_saidByte : MethodName := ⟨RX11, "saidByte", "(III)I"⟩
abbrev cX11_check : ByteArray := prog_13_method_37_code
def yX11_check : MethodName := ⟨RX11, "check", "(II)V"⟩
abbrev cX11_controlCame : ByteArray := prog_13_method_38_code
def yX11_controlCame : MethodName := ⟨RX11, "controlCame", "(IIZII)V"⟩
abbrev cX11_putPacket : ByteArray := prog_13_method_39_code
def yX11_putPacket : MethodName := ⟨RX11, "putPacket", "(II)V"⟩
abbrev cX11_putPackets : ByteArray := prog_13_method_40_code
def yX11_putPackets : MethodName := ⟨RX11, "putPackets", "(III)V"⟩
abbrev cX11_comes : ByteArray := prog_13_method_41_code
def yX11_comes : MethodName := ⟨RX11, "comes", "(IIIII)V"⟩
abbrev cX11_timers : ByteArray := prog_13_method_42_code
def yX11_timers : MethodName := ⟨RX11, "timers", "(I)V"⟩
abbrev cX11_nextGot : ByteArray := prog_13_method_43_code
def yX11_nextGot : MethodName := ⟨RX11, "nextGot", "(II)I"⟩
abbrev cX11_late : ByteArray := prog_13_method_44_code
def yX11_late : MethodName := ⟨RX11, "late", "(II)V"⟩
abbrev cX11_goesBefore : ByteArray := prog_13_method_45_code
def yX11_goesBefore : MethodName := ⟨RX11, "goesBefore", "(II)Z"⟩
abbrev cX11_carry : ByteArray := prog_13_method_46_code
def yX11_carry : MethodName := ⟨RX11, "carry", "()V"⟩
abbrev cX11_pass : ByteArray := prog_13_method_47_code
def yX11_pass : MethodName := ⟨RX11, "pass", "(I)I"⟩
abbrev cX11_told : ByteArray := prog_13_method_48_code
def yX11_told : MethodName := ⟨RX11, "told", "(II)I"⟩
abbrev cX11_table : ByteArray := prog_13_method_49_code
def yX11_table : MethodName := ⟨RX11, "table", "(II)I"⟩
abbrev cX11_message : ByteArray := prog_13_method_50_code
def yX11_message : MethodName := ⟨RX11, "message", "(III)I"⟩
abbrev cX11_kept : ByteArray := prog_13_method_51_code
def yX11_kept : MethodName := ⟨RX11, "kept", "(IIII)I"⟩
abbrev cX11_carried : ByteArray := prog_13_method_52_code
def yX11_carried : MethodName := ⟨RX11, "carried", "(I)I"⟩
abbrev cX11_sound : ByteArray := prog_13_method_53_code
def yX11_sound : MethodName := ⟨RX11, "sound", "()Z"⟩
abbrev cX11_count : ByteArray := prog_13_method_54_code
def yX11_count : MethodName := ⟨RX11, "count", "(I)I"⟩
def RJx145de : String := "java/io/Serializable"
def TJx145de : u_T := fun k => match k with
  | _ => ("", "", "", false)
def tyJx145de : Nat → FieldType := fun k => match k with
  | _ => .int
abbrev wsJx145de0 : List Cond := u_ws RJx145de TJx145de 0
theorem nmJx145de : ∀ a, a < 0 → ∀ b, b < 0 → a ≠ b → (TJx145de a).2.1 ≠ (TJx145de b).2.1 := by decide +kernel
theorem tyJx145de_ok : ∀ k, k < 0 → parseFieldDescriptor (TJx145de k).2.2.1 = some (tyJx145de k) := by decide +kernel
def RJx8e188 : String := "java/lang/Cloneable"
def TJx8e188 : u_T := fun k => match k with
  | _ => ("", "", "", false)
def tyJx8e188 : Nat → FieldType := fun k => match k with
  | _ => .int
abbrev wsJx8e1880 : List Cond := u_ws RJx8e188 TJx8e188 0
theorem nmJx8e188 : ∀ a, a < 0 → ∀ b, b < 0 → a ≠ b → (TJx8e188 a).2.1 ≠ (TJx8e188 b).2.1 := by decide +kernel
theorem tyJx8e188_ok : ∀ k, k < 0 → parseFieldDescriptor (TJx8e188 k).2.2.1 = some (tyJx8e188 k) := by decide +kernel
def RJxab1ab : String := "java/lang/Iterable"
def TJxab1ab : u_T := fun k => match k with
  | _ => ("", "", "", false)
def tyJxab1ab : Nat → FieldType := fun k => match k with
  | _ => .int
abbrev wsJxab1ab0 : List Cond := u_ws RJxab1ab TJxab1ab 0
theorem nmJxab1ab : ∀ a, a < 0 → ∀ b, b < 0 → a ≠ b → (TJxab1ab a).2.1 ≠ (TJxab1ab b).2.1 := by decide +kernel
theorem tyJxab1ab_ok : ∀ k, k < 0 → parseFieldDescriptor (TJxab1ab k).2.2.1 = some (tyJxab1ab k) := by decide +kernel
def RJ9 : String := "java/lang/Math"
def TJ9 : u_T := fun k => match k with
  | _ => ("", "", "", false)
def tyJ9 : Nat → FieldType := fun k => match k with
  | _ => .int
abbrev wsJ90 : List Cond := u_ws RJ9 TJ9 0
theorem nmJ9 : ∀ a, a < 0 → ∀ b, b < 0 → a ≠ b → (TJ9 a).2.1 ≠ (TJ9 b).2.1 := by decide +kernel
theorem tyJ9_ok : ∀ k, k < 0 → parseFieldDescriptor (TJ9 k).2.2.1 = some (tyJ9 k) := by decide +kernel
abbrev cJ9_max_7cf53 : ByteArray := prog_17_method_65_code
def yJ9_max_7cf53 : MethodName := ⟨RJ9, "max", "(II)I"⟩
abbrev cJ9_min_7cf53 : ByteArray := prog_17_method_69_code
def yJ9_min_7cf53 : MethodName := ⟨RJ9, "min", "(II)I"⟩
def RJ10 : String := "java/lang/System"
def TJ10 : u_T := fun k => match k with
  | _ => ("", "", "", false)
def tyJ10 : Nat → FieldType := fun k => match k with
  | _ => .int
abbrev wsJ100 : List Cond := u_ws RJ10 TJ10 0
theorem nmJ10 : ∀ a, a < 0 → ∀ b, b < 0 → a ≠ b → (TJ10 a).2.1 ≠ (TJ10 b).2.1 := by decide +kernel
theorem tyJ10_ok : ∀ k, k < 0 → parseFieldDescriptor (TJ10 k).2.2.1 = some (tyJ10 k) := by decide +kernel
def RJxa1e45 : String := "java/util/AbstractCollection"
def TJxa1e45 : u_T := fun k => match k with
  | _ => ("", "", "", false)
def tyJxa1e45 : Nat → FieldType := fun k => match k with
  | _ => .int
abbrev wsJxa1e450 : List Cond := u_ws RJxa1e45 TJxa1e45 0
theorem nmJxa1e45 : ∀ a, a < 0 → ∀ b, b < 0 → a ≠ b → (TJxa1e45 a).2.1 ≠ (TJxa1e45 b).2.1 := by decide +kernel
theorem tyJxa1e45_ok : ∀ k, k < 0 → parseFieldDescriptor (TJxa1e45 k).2.2.1 = some (tyJxa1e45 k) := by decide +kernel
abbrev cJxa1e45_init_da8c8 : ByteArray := prog_19_method_1_code
def yJxa1e45_init_da8c8 : MethodName := ⟨RJxa1e45, "<init>", "()V"⟩
def RJxc12de : String := "java/util/AbstractList"
def TJxc12de : u_T := fun k => match k with
  | _ => ("", "", "", false)
def tyJxc12de : Nat → FieldType := fun k => match k with
  | _ => .int
abbrev wsJxc12de0 : List Cond := u_ws RJxc12de TJxc12de 0
theorem nmJxc12de : ∀ a, a < 0 → ∀ b, b < 0 → a ≠ b → (TJxc12de a).2.1 ≠ (TJxc12de b).2.1 := by decide +kernel
theorem tyJxc12de_ok : ∀ k, k < 0 → parseFieldDescriptor (TJxc12de k).2.2.1 = some (tyJxc12de k) := by decide +kernel
abbrev cJxc12de_init_da8c8 : ByteArray := prog_20_method_1_code
def yJxc12de_init_da8c8 : MethodName := ⟨RJxc12de, "<init>", "()V"⟩
def RJx4a65c : String := "java/util/ArrayList"
def TJx4a65c : u_T := fun k => match k with
  | 0 => ("java/util/AbstractList", "modCount", "I", false)
  | 1 => ("java/util/ArrayList", "elementData", "[Ljava/lang/Object;", false)
  | _ => ("java/util/ArrayList", "size", "I", false)
def tyJx4a65c : Nat → FieldType := fun k => match k with
  | 0 => .int
  | 1 => .array (.object "java/lang/Object")
  | _ => .int
abbrev wsJx4a65c0 : List Cond := u_ws RJx4a65c TJx4a65c 3
theorem nmJx4a65c : ∀ a, a < 3 → ∀ b, b < 3 → a ≠ b → (TJx4a65c a).2.1 ≠ (TJx4a65c b).2.1 := by decide +kernel
theorem tyJx4a65c_ok : ∀ k, k < 3 → parseFieldDescriptor (TJx4a65c k).2.2.1 = some (tyJx4a65c k) := by decide +kernel
abbrev cJx4a65c_init_da8c8 : ByteArray := prog_21_method_2_code
def yJx4a65c_init_da8c8 : MethodName := ⟨RJx4a65c, "<init>", "()V"⟩
abbrev cJx4a65c_grow_92f84 : ByteArray := prog_21_method_6_code
def yJx4a65c_grow_92f84 : MethodName := ⟨RJx4a65c, "grow", "(I)[Ljava/lang/Object;"⟩
abbrev cJx4a65c_grow_d5877 : ByteArray := prog_21_method_7_code
def yJx4a65c_grow_d5877 : MethodName := ⟨RJx4a65c, "grow", "()[Ljava/lang/Object;"⟩
abbrev cJx4a65c_size_8abf5 : ByteArray := prog_21_method_8_code
def yJx4a65c_size_8abf5 : MethodName := ⟨RJx4a65c, "size", "()I"⟩
abbrev cJx4a65c_elementData_915e3 : ByteArray := prog_21_method_18_code
def yJx4a65c_elementData_915e3 : MethodName := ⟨RJx4a65c, "elementData", "(I)Ljava/lang/Object;"⟩
abbrev cJx4a65c_get_915e3 : ByteArray := prog_21_method_20_code
def yJx4a65c_get_915e3 : MethodName := ⟨RJx4a65c, "get", "(I)Ljava/lang/Object;"⟩
abbrev cJx4a65c_add_72be8 : ByteArray := prog_21_method_24_code
def yJx4a65c_add_72be8 : MethodName := ⟨RJx4a65c, "add", "(Ljava/lang/Object;[Ljava/lang/Object;I)V"⟩
abbrev cJx4a65c_add_9ea2d : ByteArray := prog_21_method_25_code
def yJx4a65c_add_9ea2d : MethodName := ⟨RJx4a65c, "add", "(Ljava/lang/Object;)Z"⟩
def RJ7 : String := "java/util/Arrays"
def TJ7 : u_T := fun k => match k with
  | _ => ("", "", "", false)
def tyJ7 : Nat → FieldType := fun k => match k with
  | _ => .int
abbrev wsJ70 : List Cond := u_ws RJ7 TJ7 0
theorem nmJ7 : ∀ a, a < 0 → ∀ b, b < 0 → a ≠ b → (TJ7 a).2.1 ≠ (TJ7 b).2.1 := by decide +kernel
theorem tyJ7_ok : ∀ k, k < 0 → parseFieldDescriptor (TJ7 k).2.2.1 = some (tyJ7 k) := by decide +kernel
abbrev cJ7_copyOf_1904c : ByteArray := prog_22_method_119_code
def yJ7_copyOf_1904c : MethodName := ⟨RJ7, "copyOf", "([Ljava/lang/Object;I)[Ljava/lang/Object;"⟩
abbrev cJ7_copyOf_6403c : ByteArray := prog_22_method_120_code
def yJ7_copyOf_6403c : MethodName := ⟨RJ7, "copyOf", "([Ljava/lang/Object;ILjava/lang/Class;)[Ljava/lang/Object;"⟩
def RJx5ef63 : String := "java/util/Collection"
def TJx5ef63 : u_T := fun k => match k with
  | _ => ("", "", "", false)
def tyJx5ef63 : Nat → FieldType := fun k => match k with
  | _ => .int
abbrev wsJx5ef630 : List Cond := u_ws RJx5ef63 TJx5ef63 0
theorem nmJx5ef63 : ∀ a, a < 0 → ∀ b, b < 0 → a ≠ b → (TJx5ef63 a).2.1 ≠ (TJx5ef63 b).2.1 := by decide +kernel
theorem tyJx5ef63_ok : ∀ k, k < 0 → parseFieldDescriptor (TJx5ef63 k).2.2.1 = some (tyJx5ef63 k) := by decide +kernel
def RJxbd725 : String := "java/util/List"
def TJxbd725 : u_T := fun k => match k with
  | _ => ("", "", "", false)
def tyJxbd725 : Nat → FieldType := fun k => match k with
  | _ => .int
abbrev wsJxbd7250 : List Cond := u_ws RJxbd725 TJxbd725 0
theorem nmJxbd725 : ∀ a, a < 0 → ∀ b, b < 0 → a ≠ b → (TJxbd725 a).2.1 ≠ (TJxbd725 b).2.1 := by decide +kernel
theorem tyJxbd725_ok : ∀ k, k < 0 → parseFieldDescriptor (TJxbd725 k).2.2.1 = some (tyJxbd725 k) := by decide +kernel
def RJ15 : String := "java/util/Objects"
def TJ15 : u_T := fun k => match k with
  | _ => ("", "", "", false)
def tyJ15 : Nat → FieldType := fun k => match k with
  | _ => .int
abbrev wsJ150 : List Cond := u_ws RJ15 TJ15 0
theorem nmJ15 : ∀ a, a < 0 → ∀ b, b < 0 → a ≠ b → (TJ15 a).2.1 ≠ (TJ15 b).2.1 := by decide +kernel
theorem tyJ15_ok : ∀ k, k < 0 → parseFieldDescriptor (TJ15 k).2.2.1 = some (tyJ15 k) := by decide +kernel
abbrev cJ15_checkIndex_7cf53 : ByteArray := prog_25_method_17_code
def yJ15_checkIndex_7cf53 : MethodName := ⟨RJ15, "checkIndex", "(II)I"⟩
def RJxf0a74 : String := "java/util/RandomAccess"
def TJxf0a74 : u_T := fun k => match k with
  | _ => ("", "", "", false)
def tyJxf0a74 : Nat → FieldType := fun k => match k with
  | _ => .int
abbrev wsJxf0a740 : List Cond := u_ws RJxf0a74 TJxf0a74 0
theorem nmJxf0a74 : ∀ a, a < 0 → ∀ b, b < 0 → a ≠ b → (TJxf0a74 a).2.1 ≠ (TJxf0a74 b).2.1 := by decide +kernel
theorem tyJxf0a74_ok : ∀ k, k < 0 → parseFieldDescriptor (TJxf0a74 k).2.2.1 = some (tyJxf0a74 k) := by decide +kernel
def RJxa66e6 : String := "java/util/SequencedCollection"
def TJxa66e6 : u_T := fun k => match k with
  | _ => ("", "", "", false)
def tyJxa66e6 : Nat → FieldType := fun k => match k with
  | _ => .int
abbrev wsJxa66e60 : List Cond := u_ws RJxa66e6 TJxa66e6 0
theorem nmJxa66e6 : ∀ a, a < 0 → ∀ b, b < 0 → a ≠ b → (TJxa66e6 a).2.1 ≠ (TJxa66e6 b).2.1 := by decide +kernel
theorem tyJxa66e6_ok : ∀ k, k < 0 → parseFieldDescriptor (TJxa66e6 k).2.2.1 = some (tyJxa66e6 k) := by decide +kernel
def RJ8 : String := "jdk/internal/util/ArraysSupport"
def TJ8 : u_T := fun k => match k with
  | _ => ("", "", "", false)
def tyJ8 : Nat → FieldType := fun k => match k with
  | _ => .int
abbrev wsJ80 : List Cond := u_ws RJ8 TJ8 0
theorem nmJ8 : ∀ a, a < 0 → ∀ b, b < 0 → a ≠ b → (TJ8 a).2.1 ≠ (TJ8 b).2.1 := by decide +kernel
theorem tyJ8_ok : ∀ k, k < 0 → parseFieldDescriptor (TJ8 k).2.2.1 = some (tyJ8 k) := by decide +kernel
abbrev cJ8_newLength_cabcc : ByteArray := prog_28_method_27_code
def yJ8_newLength_cabcc : MethodName := ⟨RJ8, "newLength", "(III)I"⟩
abbrev cJ8_hugeLength_7cf53 : ByteArray := prog_28_method_28_code
def yJ8_hugeLength_7cf53 : MethodName := ⟨RJ8, "hugeLength", "(II)I"⟩
def RJ3 : String := "jdk/internal/util/Preconditions"
def TJ3 : u_T := fun k => match k with
  | _ => ("", "", "", false)
def tyJ3 : Nat → FieldType := fun k => match k with
  | _ => .int
abbrev wsJ30 : List Cond := u_ws RJ3 TJ3 0
theorem nmJ3 : ∀ a, a < 0 → ∀ b, b < 0 → a ≠ b → (TJ3 a).2.1 ≠ (TJ3 b).2.1 := by decide +kernel
theorem tyJ3_ok : ∀ k, k < 0 → parseFieldDescriptor (TJ3 k).2.2.1 = some (tyJ3 k) := by decide +kernel
abbrev cJ3_checkIndex_8e157 : ByteArray := prog_29_method_11_code
def yJ3_checkIndex_8e157 : MethodName := ⟨RJ3, "checkIndex", "(IILjava/util/function/BiFunction;)I"⟩
def RL : String := "ClaimBusLaw"
abbrev cL_law : ByteArray := code
def yL_law : MethodName := ⟨RL, "law", "([I)Z"⟩
abbrev vwCl : List vw_C := [(RJx4a65c, TJx4a65c, 3), (RX0, TX0, 2), (RX1, TX1, 4), (RX2, TX2, 4), (RX3, TX3, 6), (RX4, TX4, 18), (RX5, TX5, 12), (RX6, TX6, 4), (RX7, TX7, 2), (RX8, TX8, 1), (RX9, TX9, 14), (RX10, TX10, 8), (RX11, TX11, 63)]
end
section
theorem dX1_init_0 : decode cX1_init 0 = .ok (.aload_n 0, 1) := by decide +kernel
theorem dX1_init_1 : decode cX1_init 1 = .ok (.invokespecial 3, 3) := by decide +kernel
theorem dX1_init_4 : decode cX1_init 4 = .ok (.aload_n 0, 1) := by decide +kernel
theorem dX1_init_5 : decode cX1_init 5 = .ok (.iconst 0, 1) := by decide +kernel
theorem dX1_init_6 : decode cX1_init 6 = .ok (.putfield 9, 3) := by decide +kernel
theorem dX1_init_9 : decode cX1_init 9 = .ok (.aload_n 0, 1) := by decide +kernel
theorem dX1_init_10 : decode cX1_init 10 = .ok (.iconst 0, 1) := by decide +kernel
theorem dX1_init_11 : decode cX1_init 11 = .ok (.putfield 15, 3) := by decide +kernel
theorem dX1_init_14 : decode cX1_init 14 = .ok (.aload_n 0, 1) := by decide +kernel
theorem dX1_init_15 : decode cX1_init 15 = .ok (.iconst 0, 1) := by decide +kernel
theorem dX1_init_16 : decode cX1_init 16 = .ok (.putfield 18, 3) := by decide +kernel
theorem dX1_init_19 : decode cX1_init 19 = .ok (.aload_n 0, 1) := by decide +kernel
theorem dX1_init_20 : decode cX1_init 20 = .ok (.aconst_null, 1) := by decide +kernel
theorem dX1_init_21 : decode cX1_init 21 = .ok (.putfield 21, 3) := by decide +kernel
theorem dX1_init_24 : decode cX1_init 24 = .ok (.return_, 1) := by decide +kernel
theorem dX2_init_0 : decode cX2_init 0 = .ok (.aload_n 0, 1) := by decide +kernel
theorem dX2_init_1 : decode cX2_init 1 = .ok (.invokespecial 3, 3) := by decide +kernel
theorem dX2_init_4 : decode cX2_init 4 = .ok (.aload_n 0, 1) := by decide +kernel
theorem dX2_init_5 : decode cX2_init 5 = .ok (.iconst 0, 1) := by decide +kernel
theorem dX2_init_6 : decode cX2_init 6 = .ok (.putfield 9, 3) := by decide +kernel
theorem dX2_init_9 : decode cX2_init 9 = .ok (.aload_n 0, 1) := by decide +kernel
theorem dX2_init_10 : decode cX2_init 10 = .ok (.iconst 0, 1) := by decide +kernel
theorem dX2_init_11 : decode cX2_init 11 = .ok (.putfield 15, 3) := by decide +kernel
theorem dX2_init_14 : decode cX2_init 14 = .ok (.aload_n 0, 1) := by decide +kernel
theorem dX2_init_15 : decode cX2_init 15 = .ok (.bipush 80, 2) := by decide +kernel
theorem dX2_init_17 : decode cX2_init 17 = .ok (.newarray .int, 2) := by decide +kernel
theorem dX2_init_19 : decode cX2_init 19 = .ok (.putfield 19, 3) := by decide +kernel
theorem dX2_init_22 : decode cX2_init 22 = .ok (.aload_n 0, 1) := by decide +kernel
theorem dX2_init_23 : decode cX2_init 23 = .ok (.sipush 254, 3) := by decide +kernel
theorem dX2_init_26 : decode cX2_init 26 = .ok (.anewarray 23, 3) := by decide +kernel
theorem dX2_init_29 : decode cX2_init 29 = .ok (.putfield 24, 3) := by decide +kernel
theorem dX2_init_32 : decode cX2_init 32 = .ok (.return_, 1) := by decide +kernel
theorem dX4_init_0 : decode cX4_init 0 = .ok (.aload_n 0, 1) := by decide +kernel
theorem dX4_init_1 : decode cX4_init 1 = .ok (.invokespecial 3, 3) := by decide +kernel
theorem dX4_init_4 : decode cX4_init 4 = .ok (.aload_n 0, 1) := by decide +kernel
theorem dX4_init_5 : decode cX4_init 5 = .ok (.new 9, 3) := by decide +kernel
theorem dX4_init_8 : decode cX4_init 8 = .ok (.dup, 1) := by decide +kernel
theorem dX4_init_9 : decode cX4_init 9 = .ok (.invokespecial 11, 3) := by decide +kernel
theorem dX4_init_12 : decode cX4_init 12 = .ok (.putfield 12, 3) := by decide +kernel
theorem dX4_init_15 : decode cX4_init 15 = .ok (.aload_n 0, 1) := by decide +kernel
theorem dX4_init_16 : decode cX4_init 16 = .ok (.new 18, 3) := by decide +kernel
theorem dX4_init_19 : decode cX4_init 19 = .ok (.dup, 1) := by decide +kernel
theorem dX4_init_20 : decode cX4_init 20 = .ok (.invokespecial 20, 3) := by decide +kernel
theorem dX4_init_23 : decode cX4_init 23 = .ok (.putfield 21, 3) := by decide +kernel
theorem dX4_init_26 : decode cX4_init 26 = .ok (.aload_n 0, 1) := by decide +kernel
theorem dX4_init_27 : decode cX4_init 27 = .ok (.new 25, 3) := by decide +kernel
theorem dX4_init_30 : decode cX4_init 30 = .ok (.dup, 1) := by decide +kernel
theorem dX4_init_31 : decode cX4_init 31 = .ok (.invokespecial 27, 3) := by decide +kernel
theorem dX4_init_34 : decode cX4_init 34 = .ok (.putfield 28, 3) := by decide +kernel
theorem dX4_init_37 : decode cX4_init 37 = .ok (.aload_n 0, 1) := by decide +kernel
theorem dX4_init_38 : decode cX4_init 38 = .ok (.iconst 3, 1) := by decide +kernel
theorem dX4_init_39 : decode cX4_init 39 = .ok (.anewarray 32, 3) := by decide +kernel
theorem dX4_init_42 : decode cX4_init 42 = .ok (.putfield 34, 3) := by decide +kernel
theorem dX4_init_45 : decode cX4_init 45 = .ok (.aload_n 0, 1) := by decide +kernel
theorem dX4_init_46 : decode cX4_init 46 = .ok (.new 38, 3) := by decide +kernel
theorem dX4_init_49 : decode cX4_init 49 = .ok (.dup, 1) := by decide +kernel
theorem dX4_init_50 : decode cX4_init 50 = .ok (.invokespecial 40, 3) := by decide +kernel
theorem dX4_init_53 : decode cX4_init 53 = .ok (.putfield 41, 3) := by decide +kernel
theorem dX4_init_56 : decode cX4_init 56 = .ok (.aload_n 0, 1) := by decide +kernel
theorem dX4_init_57 : decode cX4_init 57 = .ok (.bipush 10, 2) := by decide +kernel
theorem dX4_init_59 : decode cX4_init 59 = .ok (.newarray .int, 2) := by decide +kernel
theorem dX4_init_61 : decode cX4_init 61 = .ok (.putfield 45, 3) := by decide +kernel
theorem dX4_init_64 : decode cX4_init 64 = .ok (.aload_n 0, 1) := by decide +kernel
theorem dX4_init_65 : decode cX4_init 65 = .ok (.iconst 0, 1) := by decide +kernel
theorem dX4_init_66 : decode cX4_init 66 = .ok (.putfield 49, 3) := by decide +kernel
theorem dX4_init_69 : decode cX4_init 69 = .ok (.aload_n 0, 1) := by decide +kernel
theorem dX4_init_70 : decode cX4_init 70 = .ok (.iconst 0, 1) := by decide +kernel
theorem dX4_init_71 : decode cX4_init 71 = .ok (.putfield 53, 3) := by decide +kernel
theorem dX4_init_74 : decode cX4_init 74 = .ok (.aload_n 0, 1) := by decide +kernel
theorem dX4_init_75 : decode cX4_init 75 = .ok (.iconst (-1), 1) := by decide +kernel
theorem dX4_init_76 : decode cX4_init 76 = .ok (.putfield 56, 3) := by decide +kernel
theorem dX4_init_79 : decode cX4_init 79 = .ok (.aload_n 0, 1) := by decide +kernel
theorem dX4_init_80 : decode cX4_init 80 = .ok (.iconst 0, 1) := by decide +kernel
theorem dX4_init_81 : decode cX4_init 81 = .ok (.putfield 59, 3) := by decide +kernel
theorem dX4_init_84 : decode cX4_init 84 = .ok (.aload_n 0, 1) := by decide +kernel
theorem dX4_init_85 : decode cX4_init 85 = .ok (.iconst 0, 1) := by decide +kernel
theorem dX4_init_86 : decode cX4_init 86 = .ok (.putfield 62, 3) := by decide +kernel
theorem dX4_init_89 : decode cX4_init 89 = .ok (.aload_n 0, 1) := by decide +kernel
theorem dX4_init_90 : decode cX4_init 90 = .ok (.iload_n 1, 1) := by decide +kernel
theorem dX4_init_91 : decode cX4_init 91 = .ok (.putfield 65, 3) := by decide +kernel
theorem dX4_init_94 : decode cX4_init 94 = .ok (.aload_n 0, 1) := by decide +kernel
theorem dX4_init_95 : decode cX4_init 95 = .ok (.iload_n 2, 1) := by decide +kernel
theorem dX4_init_96 : decode cX4_init 96 = .ok (.putfield 68, 3) := by decide +kernel
theorem dX4_init_99 : decode cX4_init 99 = .ok (.aload_n 0, 1) := by decide +kernel
theorem dX4_init_100 : decode cX4_init 100 = .ok (.iload_n 3, 1) := by decide +kernel
theorem dX4_init_101 : decode cX4_init 101 = .ok (.putfield 71, 3) := by decide +kernel
theorem dX4_init_104 : decode cX4_init 104 = .ok (.aload_n 0, 1) := by decide +kernel
theorem dX4_init_105 : decode cX4_init 105 = .ok (.iload 4, 2) := by decide +kernel
theorem dX4_init_107 : decode cX4_init 107 = .ok (.putfield 74, 3) := by decide +kernel
theorem dX4_init_110 : decode cX4_init 110 = .ok (.aload_n 0, 1) := by decide +kernel
theorem dX4_init_111 : decode cX4_init 111 = .ok (.iload 5, 2) := by decide +kernel
theorem dX4_init_113 : decode cX4_init 113 = .ok (.putfield 78, 3) := by decide +kernel
theorem dX4_init_116 : decode cX4_init 116 = .ok (.aload_n 0, 1) := by decide +kernel
theorem dX4_init_117 : decode cX4_init 117 = .ok (.iload_n 3, 1) := by decide +kernel
theorem dX4_init_118 : decode cX4_init 118 = .ok (.putfield 81, 3) := by decide +kernel
theorem dX4_init_121 : decode cX4_init 121 = .ok (.aload_n 0, 1) := by decide +kernel
theorem dX4_init_122 : decode cX4_init 122 = .ok (.new 84, 3) := by decide +kernel
theorem dX4_init_125 : decode cX4_init 125 = .ok (.dup, 1) := by decide +kernel
theorem dX4_init_126 : decode cX4_init 126 = .ok (.iload_n 1, 1) := by decide +kernel
theorem dX4_init_127 : decode cX4_init 127 = .ok (.iload_n 2, 1) := by decide +kernel
theorem dX4_init_128 : decode cX4_init 128 = .ok (.aload 6, 2) := by decide +kernel
theorem dX4_init_130 : decode cX4_init 130 = .ok (.invokespecial 86, 3) := by decide +kernel
theorem dX4_init_133 : decode cX4_init 133 = .ok (.putfield 89, 3) := by decide +kernel
theorem dX4_init_136 : decode cX4_init 136 = .ok (.return_, 1) := by decide +kernel
theorem dX5_init_0 : decode cX5_init 0 = .ok (.aload_n 0, 1) := by decide +kernel
theorem dX5_init_1 : decode cX5_init 1 = .ok (.invokespecial 3, 3) := by decide +kernel
theorem dX5_init_4 : decode cX5_init 4 = .ok (.aload_n 0, 1) := by decide +kernel
theorem dX5_init_5 : decode cX5_init 5 = .ok (.aconst_null, 1) := by decide +kernel
theorem dX5_init_6 : decode cX5_init 6 = .ok (.putfield 9, 3) := by decide +kernel
theorem dX5_init_9 : decode cX5_init 9 = .ok (.aload_n 0, 1) := by decide +kernel
theorem dX5_init_10 : decode cX5_init 10 = .ok (.aconst_null, 1) := by decide +kernel
theorem dX5_init_11 : decode cX5_init 11 = .ok (.putfield 15, 3) := by decide +kernel
theorem dX5_init_14 : decode cX5_init 14 = .ok (.aload_n 0, 1) := by decide +kernel
theorem dX5_init_15 : decode cX5_init 15 = .ok (.iconst 0, 1) := by decide +kernel
theorem dX5_init_16 : decode cX5_init 16 = .ok (.putfield 18, 3) := by decide +kernel
theorem dX5_init_19 : decode cX5_init 19 = .ok (.aload_n 0, 1) := by decide +kernel
theorem dX5_init_20 : decode cX5_init 20 = .ok (.iconst 0, 1) := by decide +kernel
theorem dX5_init_21 : decode cX5_init 21 = .ok (.putfield 22, 3) := by decide +kernel
theorem dX5_init_24 : decode cX5_init 24 = .ok (.aload_n 0, 1) := by decide +kernel
theorem dX5_init_25 : decode cX5_init 25 = .ok (.iconst 0, 1) := by decide +kernel
theorem dX5_init_26 : decode cX5_init 26 = .ok (.putfield 25, 3) := by decide +kernel
theorem dX5_init_29 : decode cX5_init 29 = .ok (.aload_n 0, 1) := by decide +kernel
theorem dX5_init_30 : decode cX5_init 30 = .ok (.iconst 0, 1) := by decide +kernel
theorem dX5_init_31 : decode cX5_init 31 = .ok (.putfield 28, 3) := by decide +kernel
theorem dX5_init_34 : decode cX5_init 34 = .ok (.aload_n 0, 1) := by decide +kernel
theorem dX5_init_35 : decode cX5_init 35 = .ok (.iconst 0, 1) := by decide +kernel
theorem dX5_init_36 : decode cX5_init 36 = .ok (.putfield 31, 3) := by decide +kernel
theorem dX5_init_39 : decode cX5_init 39 = .ok (.aload_n 0, 1) := by decide +kernel
theorem dX5_init_40 : decode cX5_init 40 = .ok (.new 35, 3) := by decide +kernel
theorem dX5_init_43 : decode cX5_init 43 = .ok (.dup, 1) := by decide +kernel
theorem dX5_init_44 : decode cX5_init 44 = .ok (.invokespecial 37, 3) := by decide +kernel
theorem dX5_init_47 : decode cX5_init 47 = .ok (.putfield 38, 3) := by decide +kernel
theorem dX5_init_50 : decode cX5_init 50 = .ok (.aload_n 0, 1) := by decide +kernel
theorem dX5_init_51 : decode cX5_init 51 = .ok (.iconst 0, 1) := by decide +kernel
theorem dX5_init_52 : decode cX5_init 52 = .ok (.putfield 42, 3) := by decide +kernel
theorem dX5_init_55 : decode cX5_init 55 = .ok (.aload_n 0, 1) := by decide +kernel
theorem dX5_init_56 : decode cX5_init 56 = .ok (.iload_n 1, 1) := by decide +kernel
theorem dX5_init_57 : decode cX5_init 57 = .ok (.putfield 45, 3) := by decide +kernel
theorem dX5_init_60 : decode cX5_init 60 = .ok (.aload_n 0, 1) := by decide +kernel
theorem dX5_init_61 : decode cX5_init 61 = .ok (.iload_n 2, 1) := by decide +kernel
theorem dX5_init_62 : decode cX5_init 62 = .ok (.putfield 48, 3) := by decide +kernel
theorem dX5_init_65 : decode cX5_init 65 = .ok (.aload_n 0, 1) := by decide +kernel
theorem dX5_init_66 : decode cX5_init 66 = .ok (.aload_n 3, 1) := by decide +kernel
theorem dX5_init_67 : decode cX5_init 67 = .ok (.putfield 51, 3) := by decide +kernel
theorem dX5_init_70 : decode cX5_init 70 = .ok (.return_, 1) := by decide +kernel
theorem dX6_init_0 : decode cX6_init 0 = .ok (.aload_n 0, 1) := by decide +kernel
theorem dX6_init_1 : decode cX6_init 1 = .ok (.invokespecial 3, 3) := by decide +kernel
theorem dX6_init_4 : decode cX6_init 4 = .ok (.aload_n 0, 1) := by decide +kernel
theorem dX6_init_5 : decode cX6_init 5 = .ok (.iconst 0, 1) := by decide +kernel
theorem dX6_init_6 : decode cX6_init 6 = .ok (.putfield 9, 3) := by decide +kernel
theorem dX6_init_9 : decode cX6_init 9 = .ok (.aload_n 0, 1) := by decide +kernel
theorem dX6_init_10 : decode cX6_init 10 = .ok (.iconst 1, 1) := by decide +kernel
theorem dX6_init_11 : decode cX6_init 11 = .ok (.putfield 15, 3) := by decide +kernel
theorem dX6_init_14 : decode cX6_init 14 = .ok (.aload_n 0, 1) := by decide +kernel
theorem dX6_init_15 : decode cX6_init 15 = .ok (.iconst 0, 1) := by decide +kernel
theorem dX6_init_16 : decode cX6_init 16 = .ok (.putfield 18, 3) := by decide +kernel
theorem dX6_init_19 : decode cX6_init 19 = .ok (.aload_n 0, 1) := by decide +kernel
theorem dX6_init_20 : decode cX6_init 20 = .ok (.aconst_null, 1) := by decide +kernel
theorem dX6_init_21 : decode cX6_init 21 = .ok (.putfield 21, 3) := by decide +kernel
theorem dX6_init_24 : decode cX6_init 24 = .ok (.return_, 1) := by decide +kernel
theorem dX7_init_0 : decode cX7_init 0 = .ok (.aload_n 0, 1) := by decide +kernel
theorem dX7_init_1 : decode cX7_init 1 = .ok (.invokespecial 3, 3) := by decide +kernel
theorem dX7_init_4 : decode cX7_init 4 = .ok (.aload_n 0, 1) := by decide +kernel
theorem dX7_init_5 : decode cX7_init 5 = .ok (.new 9, 3) := by decide +kernel
theorem dX7_init_8 : decode cX7_init 8 = .ok (.dup, 1) := by decide +kernel
theorem dX7_init_9 : decode cX7_init 9 = .ok (.invokespecial 11, 3) := by decide +kernel
theorem dX7_init_12 : decode cX7_init 12 = .ok (.putfield 12, 3) := by decide +kernel
theorem dX7_init_15 : decode cX7_init 15 = .ok (.aload_n 0, 1) := by decide +kernel
theorem dX7_init_16 : decode cX7_init 16 = .ok (.aconst_null, 1) := by decide +kernel
theorem dX7_init_17 : decode cX7_init 17 = .ok (.putfield 18, 3) := by decide +kernel
theorem dX7_init_20 : decode cX7_init 20 = .ok (.return_, 1) := by decide +kernel
theorem dX8_init_0 : decode cX8_init 0 = .ok (.aload_n 0, 1) := by decide +kernel
theorem dX8_init_1 : decode cX8_init 1 = .ok (.invokespecial 3, 3) := by decide +kernel
theorem dX8_init_4 : decode cX8_init 4 = .ok (.aload_n 0, 1) := by decide +kernel
theorem dX8_init_5 : decode cX8_init 5 = .ok (.bipush 8, 2) := by decide +kernel
theorem dX8_init_7 : decode cX8_init 7 = .ok (.newarray .int, 2) := by decide +kernel
theorem dX8_init_9 : decode cX8_init 9 = .ok (.putfield 9, 3) := by decide +kernel
theorem dX8_init_12 : decode cX8_init 12 = .ok (.aload_n 0, 1) := by decide +kernel
theorem dX8_init_13 : decode cX8_init 13 = .ok (.invokevirtual 15, 3) := by decide +kernel
theorem dX8_init_16 : decode cX8_init 16 = .ok (.return_, 1) := by decide +kernel
theorem dX8_clear_0 : decode cX8_clear 0 = .ok (.iconst 0, 1) := by decide +kernel
theorem dX8_clear_1 : decode cX8_clear 1 = .ok (.istore_n 1, 1) := by decide +kernel
theorem dX8_clear_2 : decode cX8_clear 2 = .ok (.iload_n 1, 1) := by decide +kernel
theorem dX8_clear_3 : decode cX8_clear 3 = .ok (.bipush 8, 2) := by decide +kernel
theorem dX8_clear_5 : decode cX8_clear 5 = .ok (.if_icmp .ge 16, 3) := by decide +kernel
theorem dX8_clear_8 : decode cX8_clear 8 = .ok (.aload_n 0, 1) := by decide +kernel
theorem dX8_clear_9 : decode cX8_clear 9 = .ok (.getfield 9, 3) := by decide +kernel
theorem dX8_clear_12 : decode cX8_clear 12 = .ok (.iload_n 1, 1) := by decide +kernel
theorem dX8_clear_13 : decode cX8_clear 13 = .ok (.iconst (-1), 1) := by decide +kernel
theorem dX8_clear_14 : decode cX8_clear 14 = .ok (.iastore, 1) := by decide +kernel
theorem dX8_clear_15 : decode cX8_clear 15 = .ok (.iinc 1 1, 3) := by decide +kernel
theorem dX8_clear_18 : decode cX8_clear 18 = .ok (.goto (-16), 3) := by decide +kernel
theorem dX8_clear_21 : decode cX8_clear 21 = .ok (.return_, 1) := by decide +kernel
theorem dX10_init_0 : decode cX10_init 0 = .ok (.aload_n 0, 1) := by decide +kernel
theorem dX10_init_1 : decode cX10_init 1 = .ok (.invokespecial 1, 3) := by decide +kernel
theorem dX10_init_4 : decode cX10_init 4 = .ok (.aload_n 0, 1) := by decide +kernel
theorem dX10_init_5 : decode cX10_init 5 = .ok (.bipush 8, 2) := by decide +kernel
theorem dX10_init_7 : decode cX10_init 7 = .ok (.anewarray 9, 3) := by decide +kernel
theorem dX10_init_10 : decode cX10_init 10 = .ok (.putfield 11, 3) := by decide +kernel
theorem dX10_init_13 : decode cX10_init 13 = .ok (.aload_n 0, 1) := by decide +kernel
theorem dX10_init_14 : decode cX10_init 14 = .ok (.new 15, 3) := by decide +kernel
theorem dX10_init_17 : decode cX10_init 17 = .ok (.dup, 1) := by decide +kernel
theorem dX10_init_18 : decode cX10_init 18 = .ok (.invokespecial 17, 3) := by decide +kernel
theorem dX10_init_21 : decode cX10_init 21 = .ok (.putfield 18, 3) := by decide +kernel
theorem dX10_init_24 : decode cX10_init 24 = .ok (.aload_n 0, 1) := by decide +kernel
theorem dX10_init_25 : decode cX10_init 25 = .ok (.new 22, 3) := by decide +kernel
theorem dX10_init_28 : decode cX10_init 28 = .ok (.dup, 1) := by decide +kernel
theorem dX10_init_29 : decode cX10_init 29 = .ok (.invokespecial 24, 3) := by decide +kernel
theorem dX10_init_32 : decode cX10_init 32 = .ok (.putfield 25, 3) := by decide +kernel
theorem dX10_init_35 : decode cX10_init 35 = .ok (.aload_n 0, 1) := by decide +kernel
theorem dX10_init_36 : decode cX10_init 36 = .ok (.iconst 0, 1) := by decide +kernel
theorem dX10_init_37 : decode cX10_init 37 = .ok (.putfield 29, 3) := by decide +kernel
theorem dX10_init_40 : decode cX10_init 40 = .ok (.aload_n 0, 1) := by decide +kernel
theorem dX10_init_41 : decode cX10_init 41 = .ok (.iconst 0, 1) := by decide +kernel
theorem dX10_init_42 : decode cX10_init 42 = .ok (.putfield 33, 3) := by decide +kernel
theorem dX10_init_45 : decode cX10_init 45 = .ok (.aload_n 0, 1) := by decide +kernel
theorem dX10_init_46 : decode cX10_init 46 = .ok (.iconst 0, 1) := by decide +kernel
theorem dX10_init_47 : decode cX10_init 47 = .ok (.putfield 36, 3) := by decide +kernel
theorem dX10_init_50 : decode cX10_init 50 = .ok (.aload_n 0, 1) := by decide +kernel
theorem dX10_init_51 : decode cX10_init 51 = .ok (.iconst (-1), 1) := by decide +kernel
theorem dX10_init_52 : decode cX10_init 52 = .ok (.putfield 39, 3) := by decide +kernel
theorem dX10_init_55 : decode cX10_init 55 = .ok (.aload_n 0, 1) := by decide +kernel
theorem dX10_init_56 : decode cX10_init 56 = .ok (.iconst 0, 1) := by decide +kernel
theorem dX10_init_57 : decode cX10_init 57 = .ok (.putfield 42, 3) := by decide +kernel
theorem dX10_init_60 : decode cX10_init 60 = .ok (.return_, 1) := by decide +kernel
theorem dX10_node_0 : decode cX10_node 0 = .ok (.iload_n 3, 1) := by decide +kernel
theorem dX10_node_1 : decode cX10_node 1 = .ok (.ifCond .lt 23, 3) := by decide +kernel
theorem dX10_node_4 : decode cX10_node 4 = .ok (.iload_n 3, 1) := by decide +kernel
theorem dX10_node_5 : decode cX10_node 5 = .ok (.sipush 247, 3) := by decide +kernel
theorem dX10_node_8 : decode cX10_node 8 = .ok (.if_icmp .gt 16, 3) := by decide +kernel
theorem dX10_node_11 : decode cX10_node 11 = .ok (.iload 5, 2) := by decide +kernel
theorem dX10_node_13 : decode cX10_node 13 = .ok (.iconst 1, 1) := by decide +kernel
theorem dX10_node_14 : decode cX10_node 14 = .ok (.if_icmp .lt 10, 3) := by decide +kernel
theorem dX10_node_17 : decode cX10_node 17 = .ok (.iload 5, 2) := by decide +kernel
theorem dX10_node_19 : decode cX10_node 19 = .ok (.bipush 16, 2) := by decide +kernel
theorem dX10_node_21 : decode cX10_node 21 = .ok (.if_icmp .le 5, 3) := by decide +kernel
theorem dX10_node_24 : decode cX10_node 24 = .ok (.iconst (-1), 1) := by decide +kernel
theorem dX10_node_25 : decode cX10_node 25 = .ok (.ireturn, 1) := by decide +kernel
theorem dX10_node_26 : decode cX10_node 26 = .ok (.aload_n 0, 1) := by decide +kernel
theorem dX10_node_27 : decode cX10_node 27 = .ok (.getfield 29, 3) := by decide +kernel
theorem dX10_node_30 : decode cX10_node 30 = .ok (.bipush 8, 2) := by decide +kernel
theorem dX10_node_32 : decode cX10_node 32 = .ok (.if_icmp .ge 12, 3) := by decide +kernel
theorem dX10_node_35 : decode cX10_node 35 = .ok (.aload_n 0, 1) := by decide +kernel
theorem dX10_node_36 : decode cX10_node 36 = .ok (.iload_n 1, 1) := by decide +kernel
theorem dX10_node_37 : decode cX10_node 37 = .ok (.iload_n 2, 1) := by decide +kernel
theorem dX10_node_38 : decode cX10_node 38 = .ok (.invokevirtual 46, 3) := by decide +kernel
theorem dX10_node_41 : decode cX10_node 41 = .ok (.ifCond .eq 5, 3) := by decide +kernel
theorem dX10_node_44 : decode cX10_node 44 = .ok (.iconst (-1), 1) := by decide +kernel
theorem dX10_node_45 : decode cX10_node 45 = .ok (.ireturn, 1) := by decide +kernel
theorem dX10_node_46 : decode cX10_node 46 = .ok (.aload_n 0, 1) := by decide +kernel
theorem dX10_node_47 : decode cX10_node 47 = .ok (.getfield 11, 3) := by decide +kernel
theorem dX10_node_50 : decode cX10_node 50 = .ok (.aload_n 0, 1) := by decide +kernel
theorem dX10_node_51 : decode cX10_node 51 = .ok (.getfield 29, 3) := by decide +kernel
theorem dX10_node_54 : decode cX10_node 54 = .ok (.new 9, 3) := by decide +kernel
theorem dX10_node_57 : decode cX10_node 57 = .ok (.dup, 1) := by decide +kernel
theorem dX10_node_58 : decode cX10_node 58 = .ok (.iload_n 1, 1) := by decide +kernel
theorem dX10_node_59 : decode cX10_node 59 = .ok (.iload_n 2, 1) := by decide +kernel
theorem dX10_node_60 : decode cX10_node 60 = .ok (.iload_n 3, 1) := by decide +kernel
theorem dX10_node_61 : decode cX10_node 61 = .ok (.iload 4, 2) := by decide +kernel
theorem dX10_node_63 : decode cX10_node 63 = .ok (.iload 5, 2) := by decide +kernel
theorem dX10_node_65 : decode cX10_node 65 = .ok (.aload_n 0, 1) := by decide +kernel
theorem dX10_node_66 : decode cX10_node 66 = .ok (.getfield 18, 3) := by decide +kernel
theorem dX10_node_69 : decode cX10_node 69 = .ok (.invokespecial 50, 3) := by decide +kernel
theorem dX10_node_72 : decode cX10_node 72 = .ok (.aastore, 1) := by decide +kernel
theorem dX10_node_73 : decode cX10_node 73 = .ok (.aload_n 0, 1) := by decide +kernel
theorem dX10_node_74 : decode cX10_node 74 = .ok (.dup, 1) := by decide +kernel
theorem dX10_node_75 : decode cX10_node 75 = .ok (.getfield 29, 3) := by decide +kernel
theorem dX10_node_78 : decode cX10_node 78 = .ok (.iconst 1, 1) := by decide +kernel
theorem dX10_node_79 : decode cX10_node 79 = .ok (.iadd, 1) := by decide +kernel
theorem dX10_node_80 : decode cX10_node 80 = .ok (.putfield 29, 3) := by decide +kernel
theorem dX10_node_83 : decode cX10_node 83 = .ok (.aload_n 0, 1) := by decide +kernel
theorem dX10_node_84 : decode cX10_node 84 = .ok (.getfield 29, 3) := by decide +kernel
theorem dX10_node_87 : decode cX10_node 87 = .ok (.iconst 1, 1) := by decide +kernel
theorem dX10_node_88 : decode cX10_node 88 = .ok (.isub, 1) := by decide +kernel
theorem dX10_node_89 : decode cX10_node 89 = .ok (.ireturn, 1) := by decide +kernel
theorem dX10_start_0 : decode cX10_start 0 = .ok (.aload_n 0, 1) := by decide +kernel
theorem dX10_start_1 : decode cX10_start 1 = .ok (.iload_n 1, 1) := by decide +kernel
theorem dX10_start_2 : decode cX10_start 2 = .ok (.invokevirtual 53, 3) := by decide +kernel
theorem dX10_start_5 : decode cX10_start 5 = .ok (.astore_n 2, 1) := by decide +kernel
theorem dX10_start_6 : decode cX10_start 6 = .ok (.aload_n 2, 1) := by decide +kernel
theorem dX10_start_7 : decode cX10_start 7 = .ok (.ifnull 10, 3) := by decide +kernel
theorem dX10_start_10 : decode cX10_start 10 = .ok (.aload_n 2, 1) := by decide +kernel
theorem dX10_start_11 : decode cX10_start 11 = .ok (.getfield 57, 3) := by decide +kernel
theorem dX10_start_14 : decode cX10_start 14 = .ok (.ifCond .eq 5, 3) := by decide +kernel
theorem dX10_start_17 : decode cX10_start 17 = .ok (.iconst 0, 1) := by decide +kernel
theorem dX10_start_18 : decode cX10_start 18 = .ok (.ireturn, 1) := by decide +kernel
theorem dX10_start_19 : decode cX10_start 19 = .ok (.aload_n 2, 1) := by decide +kernel
theorem dX10_start_20 : decode cX10_start 20 = .ok (.aload_n 2, 1) := by decide +kernel
theorem dX10_start_21 : decode cX10_start 21 = .ok (.getfield 60, 3) := by decide +kernel
theorem dX10_start_24 : decode cX10_start 24 = .ok (.invokevirtual 63, 3) := by decide +kernel
theorem dX10_start_27 : decode cX10_start 27 = .ok (.iconst 1, 1) := by decide +kernel
theorem dX10_start_28 : decode cX10_start 28 = .ok (.ireturn, 1) := by decide +kernel
theorem dX10_stop_0 : decode cX10_stop 0 = .ok (.aload_n 0, 1) := by decide +kernel
theorem dX10_stop_1 : decode cX10_stop 1 = .ok (.iload_n 1, 1) := by decide +kernel
theorem dX10_stop_2 : decode cX10_stop 2 = .ok (.invokevirtual 53, 3) := by decide +kernel
theorem dX10_stop_5 : decode cX10_stop 5 = .ok (.astore_n 2, 1) := by decide +kernel
theorem dX10_stop_6 : decode cX10_stop 6 = .ok (.aload_n 2, 1) := by decide +kernel
theorem dX10_stop_7 : decode cX10_stop 7 = .ok (.ifnull 10, 3) := by decide +kernel
theorem dX10_stop_10 : decode cX10_stop 10 = .ok (.aload_n 2, 1) := by decide +kernel
theorem dX10_stop_11 : decode cX10_stop 11 = .ok (.getfield 57, 3) := by decide +kernel
theorem dX10_stop_14 : decode cX10_stop 14 = .ok (.ifCond .ne 5, 3) := by decide +kernel
theorem dX10_stop_17 : decode cX10_stop 17 = .ok (.iconst 0, 1) := by decide +kernel
theorem dX10_stop_18 : decode cX10_stop 18 = .ok (.ireturn, 1) := by decide +kernel
theorem dX10_stop_19 : decode cX10_stop 19 = .ok (.aload_n 2, 1) := by decide +kernel
theorem dX10_stop_20 : decode cX10_stop 20 = .ok (.invokevirtual 67, 3) := by decide +kernel
theorem dX10_stop_23 : decode cX10_stop 23 = .ok (.aload_n 0, 1) := by decide +kernel
theorem dX10_stop_24 : decode cX10_stop 24 = .ok (.iconst 1, 1) := by decide +kernel
theorem dX10_stop_25 : decode cX10_stop 25 = .ok (.putfield 42, 3) := by decide +kernel
theorem dX10_stop_28 : decode cX10_stop 28 = .ok (.iconst 1, 1) := by decide +kernel
theorem dX10_stop_29 : decode cX10_stop 29 = .ok (.ireturn, 1) := by decide +kernel
theorem dX10_request_0 : decode cX10_request 0 = .ok (.aload_n 0, 1) := by decide +kernel
theorem dX10_request_1 : decode cX10_request 1 = .ok (.iload_n 1, 1) := by decide +kernel
theorem dX10_request_2 : decode cX10_request 2 = .ok (.invokevirtual 53, 3) := by decide +kernel
theorem dX10_request_5 : decode cX10_request 5 = .ok (.astore_n 3, 1) := by decide +kernel
theorem dX10_request_6 : decode cX10_request 6 = .ok (.aload_n 3, 1) := by decide +kernel
theorem dX10_request_7 : decode cX10_request 7 = .ok (.ifnull 18, 3) := by decide +kernel
theorem dX10_request_10 : decode cX10_request 10 = .ok (.aload_n 3, 1) := by decide +kernel
theorem dX10_request_11 : decode cX10_request 11 = .ok (.getfield 57, 3) := by decide +kernel
theorem dX10_request_14 : decode cX10_request 14 = .ok (.iconst 2, 1) := by decide +kernel
theorem dX10_request_15 : decode cX10_request 15 = .ok (.if_icmp .ne 10, 3) := by decide +kernel
theorem dX10_request_18 : decode cX10_request 18 = .ok (.iload_n 2, 1) := by decide +kernel
theorem dX10_request_19 : decode cX10_request 19 = .ok (.invokestatic 70, 3) := by decide +kernel
theorem dX10_request_22 : decode cX10_request 22 = .ok (.ifCond .ne 5, 3) := by decide +kernel
theorem dX10_request_25 : decode cX10_request 25 = .ok (.iconst 0, 1) := by decide +kernel
theorem dX10_request_26 : decode cX10_request 26 = .ok (.ireturn, 1) := by decide +kernel
theorem dX10_request_27 : decode cX10_request 27 = .ok (.aload_n 3, 1) := by decide +kernel
theorem dX10_request_28 : decode cX10_request 28 = .ok (.getfield 74, 3) := by decide +kernel
theorem dX10_request_31 : decode cX10_request 31 = .ok (.aconst_null, 1) := by decide +kernel
theorem dX10_request_32 : decode cX10_request 32 = .ok (.iload_n 2, 1) := by decide +kernel
theorem dX10_request_33 : decode cX10_request 33 = .ok (.sipush 234, 3) := by decide +kernel
theorem dX10_request_36 : decode cX10_request 36 = .ok (.iconst 0, 1) := by decide +kernel
theorem dX10_request_37 : decode cX10_request 37 = .ok (.iconst 0, 1) := by decide +kernel
theorem dX10_request_38 : decode cX10_request 38 = .ok (.invokevirtual 78, 3) := by decide +kernel
theorem dX10_request_41 : decode cX10_request 41 = .ok (.iconst 1, 1) := by decide +kernel
theorem dX10_request_42 : decode cX10_request 42 = .ok (.ireturn, 1) := by decide +kernel
theorem dX10_send_0 : decode cX10_send 0 = .ok (.aload_n 0, 1) := by decide +kernel
theorem dX10_send_1 : decode cX10_send 1 = .ok (.iload_n 1, 1) := by decide +kernel
theorem dX10_send_2 : decode cX10_send 2 = .ok (.invokevirtual 53, 3) := by decide +kernel
theorem dX10_send_5 : decode cX10_send 5 = .ok (.astore 6, 2) := by decide +kernel
theorem dX10_send_7 : decode cX10_send 7 = .ok (.aload 6, 2) := by decide +kernel
theorem dX10_send_9 : decode cX10_send 9 = .ok (.ifnull 21, 3) := by decide +kernel
theorem dX10_send_12 : decode cX10_send 12 = .ok (.aload 6, 2) := by decide +kernel
theorem dX10_send_14 : decode cX10_send 14 = .ok (.invokevirtual 84, 3) := by decide +kernel
theorem dX10_send_17 : decode cX10_send 17 = .ok (.ifCond .eq 13, 3) := by decide +kernel
theorem dX10_send_20 : decode cX10_send 20 = .ok (.iload_n 2, 1) := by decide +kernel
theorem dX10_send_21 : decode cX10_send 21 = .ok (.iload_n 3, 1) := by decide +kernel
theorem dX10_send_22 : decode cX10_send 22 = .ok (.iload 4, 2) := by decide +kernel
theorem dX10_send_24 : decode cX10_send 24 = .ok (.invokestatic 88, 3) := by decide +kernel
theorem dX10_send_27 : decode cX10_send 27 = .ok (.ifCond .ne 5, 3) := by decide +kernel
theorem dX10_send_30 : decode cX10_send 30 = .ok (.iconst 0, 1) := by decide +kernel
theorem dX10_send_31 : decode cX10_send 31 = .ok (.ireturn, 1) := by decide +kernel
theorem dX10_send_32 : decode cX10_send 32 = .ok (.aload 6, 2) := by decide +kernel
theorem dX10_send_34 : decode cX10_send 34 = .ok (.aload_n 0, 1) := by decide +kernel
theorem dX10_send_35 : decode cX10_send 35 = .ok (.getfield 18, 3) := by decide +kernel
theorem dX10_send_38 : decode cX10_send 38 = .ok (.iload_n 2, 1) := by decide +kernel
theorem dX10_send_39 : decode cX10_send 39 = .ok (.iload_n 3, 1) := by decide +kernel
theorem dX10_send_40 : decode cX10_send 40 = .ok (.iload 4, 2) := by decide +kernel
theorem dX10_send_42 : decode cX10_send 42 = .ok (.iload 5, 2) := by decide +kernel
theorem dX10_send_44 : decode cX10_send 44 = .ok (.invokevirtual 92, 3) := by decide +kernel
theorem dX10_send_47 : decode cX10_send 47 = .ok (.aload_n 0, 1) := by decide +kernel
theorem dX10_send_48 : decode cX10_send 48 = .ok (.getfield 33, 3) := by decide +kernel
theorem dX10_send_51 : decode cX10_send 51 = .ok (.invokevirtual 96, 3) := by decide +kernel
theorem dX10_send_54 : decode cX10_send 54 = .ok (.iconst 1, 1) := by decide +kernel
theorem dX10_send_55 : decode cX10_send 55 = .ok (.ireturn, 1) := by decide +kernel
theorem dX10_trouble_0 : decode cX10_trouble 0 = .ok (.aload_n 0, 1) := by decide +kernel
theorem dX10_trouble_1 : decode cX10_trouble 1 = .ok (.iload_n 1, 1) := by decide +kernel
theorem dX10_trouble_2 : decode cX10_trouble 2 = .ok (.invokevirtual 53, 3) := by decide +kernel
theorem dX10_trouble_5 : decode cX10_trouble 5 = .ok (.astore 5, 2) := by decide +kernel
theorem dX10_trouble_7 : decode cX10_trouble 7 = .ok (.aload 5, 2) := by decide +kernel
theorem dX10_trouble_9 : decode cX10_trouble 9 = .ok (.ifnull 13, 3) := by decide +kernel
theorem dX10_trouble_12 : decode cX10_trouble 12 = .ok (.iload_n 2, 1) := by decide +kernel
theorem dX10_trouble_13 : decode cX10_trouble 13 = .ok (.ifCond .lt 9, 3) := by decide +kernel
theorem dX10_trouble_16 : decode cX10_trouble 16 = .ok (.iload_n 2, 1) := by decide +kernel
theorem dX10_trouble_17 : decode cX10_trouble 17 = .ok (.ldc 100, 2) := by decide +kernel
theorem dX10_trouble_19 : decode cX10_trouble 19 = .ok (.if_icmp .le 5, 3) := by decide +kernel
theorem dX10_trouble_22 : decode cX10_trouble 22 = .ok (.iconst (-1), 1) := by decide +kernel
theorem dX10_trouble_23 : decode cX10_trouble 23 = .ok (.ireturn, 1) := by decide +kernel
theorem dX10_trouble_24 : decode cX10_trouble 24 = .ok (.iload_n 3, 1) := by decide +kernel
theorem dX10_trouble_25 : decode cX10_trouble 25 = .ok (.ifCond .lt 21, 3) := by decide +kernel
theorem dX10_trouble_28 : decode cX10_trouble 28 = .ok (.iload_n 3, 1) := by decide +kernel
theorem dX10_trouble_29 : decode cX10_trouble 29 = .ok (.bipush 31, 2) := by decide +kernel
theorem dX10_trouble_31 : decode cX10_trouble 31 = .ok (.if_icmp .gt 15, 3) := by decide +kernel
theorem dX10_trouble_34 : decode cX10_trouble 34 = .ok (.iload 4, 2) := by decide +kernel
theorem dX10_trouble_36 : decode cX10_trouble 36 = .ok (.ifCond .lt 10, 3) := by decide +kernel
theorem dX10_trouble_39 : decode cX10_trouble 39 = .ok (.iload 4, 2) := by decide +kernel
theorem dX10_trouble_41 : decode cX10_trouble 41 = .ok (.bipush 127, 2) := by decide +kernel
theorem dX10_trouble_43 : decode cX10_trouble 43 = .ok (.if_icmp .le 5, 3) := by decide +kernel
theorem dX10_trouble_46 : decode cX10_trouble 46 = .ok (.iconst (-1), 1) := by decide +kernel
theorem dX10_trouble_47 : decode cX10_trouble 47 = .ok (.ireturn, 1) := by decide +kernel
theorem dX10_trouble_48 : decode cX10_trouble 48 = .ok (.aload 5, 2) := by decide +kernel
theorem dX10_trouble_50 : decode cX10_trouble 50 = .ok (.iload_n 2, 1) := by decide +kernel
theorem dX10_trouble_51 : decode cX10_trouble 51 = .ok (.iload_n 3, 1) := by decide +kernel
theorem dX10_trouble_52 : decode cX10_trouble 52 = .ok (.iload 4, 2) := by decide +kernel
theorem dX10_trouble_54 : decode cX10_trouble 54 = .ok (.invokevirtual 101, 3) := by decide +kernel
theorem dX10_trouble_57 : decode cX10_trouble 57 = .ok (.ireturn, 1) := by decide +kernel
theorem dX10_tell_0 : decode cX10_tell 0 = .ok (.aload_n 0, 1) := by decide +kernel
theorem dX10_tell_1 : decode cX10_tell 1 = .ok (.iload_n 1, 1) := by decide +kernel
theorem dX10_tell_2 : decode cX10_tell 2 = .ok (.invokevirtual 53, 3) := by decide +kernel
theorem dX10_tell_5 : decode cX10_tell 5 = .ok (.astore_n 2, 1) := by decide +kernel
theorem dX10_tell_6 : decode cX10_tell 6 = .ok (.aload_n 2, 1) := by decide +kernel
theorem dX10_tell_7 : decode cX10_tell 7 = .ok (.ifnull 10, 3) := by decide +kernel
theorem dX10_tell_10 : decode cX10_tell 10 = .ok (.aload_n 2, 1) := by decide +kernel
theorem dX10_tell_11 : decode cX10_tell 11 = .ok (.invokevirtual 84, 3) := by decide +kernel
theorem dX10_tell_14 : decode cX10_tell 14 = .ok (.ifCond .ne 5, 3) := by decide +kernel
theorem dX10_tell_17 : decode cX10_tell 17 = .ok (.iconst 0, 1) := by decide +kernel
theorem dX10_tell_18 : decode cX10_tell 18 = .ok (.ireturn, 1) := by decide +kernel
theorem dX10_tell_19 : decode cX10_tell 19 = .ok (.aload_n 2, 1) := by decide +kernel
theorem dX10_tell_20 : decode cX10_tell 20 = .ok (.aload_n 0, 1) := by decide +kernel
theorem dX10_tell_21 : decode cX10_tell 21 = .ok (.getfield 18, 3) := by decide +kernel
theorem dX10_tell_24 : decode cX10_tell 24 = .ok (.aload_n 2, 1) := by decide +kernel
theorem dX10_tell_25 : decode cX10_tell 25 = .ok (.invokevirtual 105, 3) := by decide +kernel
theorem dX10_tell_28 : decode cX10_tell 28 = .ok (.invokevirtual 109, 3) := by decide +kernel
theorem dX10_tell_31 : decode cX10_tell 31 = .ok (.aload_n 0, 1) := by decide +kernel
theorem dX10_tell_32 : decode cX10_tell 32 = .ok (.getfield 33, 3) := by decide +kernel
theorem dX10_tell_35 : decode cX10_tell 35 = .ok (.invokevirtual 96, 3) := by decide +kernel
theorem dX10_tell_38 : decode cX10_tell 38 = .ok (.iconst 1, 1) := by decide +kernel
theorem dX10_tell_39 : decode cX10_tell 39 = .ok (.ireturn, 1) := by decide +kernel
theorem dX10_lose_0 : decode cX10_lose 0 = .ok (.aload_n 0, 1) := by decide +kernel
theorem dX10_lose_1 : decode cX10_lose 1 = .ok (.iload_n 1, 1) := by decide +kernel
theorem dX10_lose_2 : decode cX10_lose 2 = .ok (.invokevirtual 53, 3) := by decide +kernel
theorem dX10_lose_5 : decode cX10_lose 5 = .ok (.astore_n 3, 1) := by decide +kernel
theorem dX10_lose_6 : decode cX10_lose 6 = .ok (.aload_n 3, 1) := by decide +kernel
theorem dX10_lose_7 : decode cX10_lose 7 = .ok (.ifnull 13, 3) := by decide +kernel
theorem dX10_lose_10 : decode cX10_lose 10 = .ok (.iload_n 2, 1) := by decide +kernel
theorem dX10_lose_11 : decode cX10_lose 11 = .ok (.ifCond .lt 9, 3) := by decide +kernel
theorem dX10_lose_14 : decode cX10_lose 14 = .ok (.iload_n 2, 1) := by decide +kernel
theorem dX10_lose_15 : decode cX10_lose 15 = .ok (.bipush 50, 2) := by decide +kernel
theorem dX10_lose_17 : decode cX10_lose 17 = .ok (.if_icmp .le 5, 3) := by decide +kernel
theorem dX10_lose_20 : decode cX10_lose 20 = .ok (.iconst 0, 1) := by decide +kernel
theorem dX10_lose_21 : decode cX10_lose 21 = .ok (.ireturn, 1) := by decide +kernel
theorem dX10_lose_22 : decode cX10_lose 22 = .ok (.aload_n 3, 1) := by decide +kernel
theorem dX10_lose_23 : decode cX10_lose 23 = .ok (.iload_n 2, 1) := by decide +kernel
theorem dX10_lose_24 : decode cX10_lose 24 = .ok (.putfield 113, 3) := by decide +kernel
theorem dX10_lose_27 : decode cX10_lose 27 = .ok (.iconst 1, 1) := by decide +kernel
theorem dX10_lose_28 : decode cX10_lose 28 = .ok (.ireturn, 1) := by decide +kernel
theorem dX10_pass_0 : decode cX10_pass 0 = .ok (.iload_n 1, 1) := by decide +kernel
theorem dX10_pass_1 : decode cX10_pass 1 = .ok (.iconst 1, 1) := by decide +kernel
theorem dX10_pass_2 : decode cX10_pass 2 = .ok (.if_icmp .lt 10, 3) := by decide +kernel
theorem dX10_pass_5 : decode cX10_pass 5 = .ok (.iload_n 1, 1) := by decide +kernel
theorem dX10_pass_6 : decode cX10_pass 6 = .ok (.sipush 5000, 3) := by decide +kernel
theorem dX10_pass_9 : decode cX10_pass 9 = .ok (.if_icmp .le 5, 3) := by decide +kernel
theorem dX10_pass_12 : decode cX10_pass 12 = .ok (.iconst (-1), 1) := by decide +kernel
theorem dX10_pass_13 : decode cX10_pass 13 = .ok (.ireturn, 1) := by decide +kernel
theorem dX10_pass_14 : decode cX10_pass 14 = .ok (.aload_n 0, 1) := by decide +kernel
theorem dX10_pass_15 : decode cX10_pass 15 = .ok (.getfield 33, 3) := by decide +kernel
theorem dX10_pass_18 : decode cX10_pass 18 = .ok (.iload_n 1, 1) := by decide +kernel
theorem dX10_pass_19 : decode cX10_pass 19 = .ok (.iadd, 1) := by decide +kernel
theorem dX10_pass_20 : decode cX10_pass 20 = .ok (.istore_n 2, 1) := by decide +kernel
theorem dX10_pass_21 : decode cX10_pass 21 = .ok (.iconst 0, 1) := by decide +kernel
theorem dX10_pass_22 : decode cX10_pass 22 = .ok (.istore_n 3, 1) := by decide +kernel
theorem dX10_pass_23 : decode cX10_pass 23 = .ok (.iload_n 3, 1) := by decide +kernel
theorem dX10_pass_24 : decode cX10_pass 24 = .ok (.iload_n 1, 1) := by decide +kernel
theorem dX10_pass_25 : decode cX10_pass 25 = .ok (.if_icmp .ge 34, 3) := by decide +kernel
theorem dX10_pass_28 : decode cX10_pass 28 = .ok (.aload_n 0, 1) := by decide +kernel
theorem dX10_pass_29 : decode cX10_pass 29 = .ok (.getfield 33, 3) := by decide +kernel
theorem dX10_pass_32 : decode cX10_pass 32 = .ok (.iload_n 2, 1) := by decide +kernel
theorem dX10_pass_33 : decode cX10_pass 33 = .ok (.if_icmp .ge 26, 3) := by decide +kernel
theorem dX10_pass_36 : decode cX10_pass 36 = .ok (.aload_n 0, 1) := by decide +kernel
theorem dX10_pass_37 : decode cX10_pass 37 = .ok (.aload_n 0, 1) := by decide +kernel
theorem dX10_pass_38 : decode cX10_pass 38 = .ok (.iload_n 2, 1) := by decide +kernel
theorem dX10_pass_39 : decode cX10_pass 39 = .ok (.invokevirtual 116, 3) := by decide +kernel
theorem dX10_pass_42 : decode cX10_pass 42 = .ok (.putfield 33, 3) := by decide +kernel
theorem dX10_pass_45 : decode cX10_pass 45 = .ok (.aload_n 0, 1) := by decide +kernel
theorem dX10_pass_46 : decode cX10_pass 46 = .ok (.invokevirtual 120, 3) := by decide +kernel
theorem dX10_pass_49 : decode cX10_pass 49 = .ok (.aload_n 0, 1) := by decide +kernel
theorem dX10_pass_50 : decode cX10_pass 50 = .ok (.invokevirtual 123, 3) := by decide +kernel
theorem dX10_pass_53 : decode cX10_pass 53 = .ok (.iinc 3 1, 3) := by decide +kernel
theorem dX10_pass_56 : decode cX10_pass 56 = .ok (.goto (-33), 3) := by decide +kernel
theorem dX10_pass_59 : decode cX10_pass 59 = .ok (.aload_n 0, 1) := by decide +kernel
theorem dX10_pass_60 : decode cX10_pass 60 = .ok (.getfield 33, 3) := by decide +kernel
theorem dX10_pass_63 : decode cX10_pass 63 = .ok (.ireturn, 1) := by decide +kernel
theorem dX10_told_0 : decode cX10_told 0 = .ok (.aload_n 0, 1) := by decide +kernel
theorem dX10_told_1 : decode cX10_told 1 = .ok (.iload_n 1, 1) := by decide +kernel
theorem dX10_told_2 : decode cX10_told 2 = .ok (.invokevirtual 53, 3) := by decide +kernel
theorem dX10_told_5 : decode cX10_told 5 = .ok (.astore_n 3, 1) := by decide +kernel
theorem dX10_told_6 : decode cX10_told 6 = .ok (.aload_n 3, 1) := by decide +kernel
theorem dX10_told_7 : decode cX10_told 7 = .ok (.ifnonnull 5, 3) := by decide +kernel
theorem dX10_told_10 : decode cX10_told 10 = .ok (.iconst (-1), 1) := by decide +kernel
theorem dX10_told_11 : decode cX10_told 11 = .ok (.ireturn, 1) := by decide +kernel
theorem dX10_told_12 : decode cX10_told 12 = .ok (.iload_n 2, 1) := by decide +kernel
theorem dX10_told_13 : decode cX10_told 13 = .ok (.tableswitch 87 0 6 #[43, 48, 53, 61, 69, 77, 82], 43) := by decide +kernel
theorem dX10_told_56 : decode cX10_told 56 = .ok (.aload_n 3, 1) := by decide +kernel
theorem dX10_told_57 : decode cX10_told 57 = .ok (.getfield 57, 3) := by decide +kernel
theorem dX10_told_60 : decode cX10_told 60 = .ok (.ireturn, 1) := by decide +kernel
theorem dX10_told_61 : decode cX10_told 61 = .ok (.aload_n 3, 1) := by decide +kernel
theorem dX10_told_62 : decode cX10_told 62 = .ok (.getfield 126, 3) := by decide +kernel
theorem dX10_told_65 : decode cX10_told 65 = .ok (.ireturn, 1) := by decide +kernel
theorem dX10_told_66 : decode cX10_told 66 = .ok (.aload_n 3, 1) := by decide +kernel
theorem dX10_told_67 : decode cX10_told 67 = .ok (.getfield 74, 3) := by decide +kernel
theorem dX10_told_70 : decode cX10_told 70 = .ok (.invokevirtual 129, 3) := by decide +kernel
theorem dX10_told_73 : decode cX10_told 73 = .ok (.ireturn, 1) := by decide +kernel
theorem dX10_told_74 : decode cX10_told 74 = .ok (.aload_n 3, 1) := by decide +kernel
theorem dX10_told_75 : decode cX10_told 75 = .ok (.getfield 133, 3) := by decide +kernel
theorem dX10_told_78 : decode cX10_told 78 = .ok (.getfield 137, 3) := by decide +kernel
theorem dX10_told_81 : decode cX10_told 81 = .ok (.ireturn, 1) := by decide +kernel
theorem dX10_told_82 : decode cX10_told 82 = .ok (.aload_n 3, 1) := by decide +kernel
theorem dX10_told_83 : decode cX10_told 83 = .ok (.getfield 140, 3) := by decide +kernel
theorem dX10_told_86 : decode cX10_told 86 = .ok (.getfield 144, 3) := by decide +kernel
theorem dX10_told_89 : decode cX10_told 89 = .ok (.ireturn, 1) := by decide +kernel
theorem dX10_told_90 : decode cX10_told 90 = .ok (.aload_n 3, 1) := by decide +kernel
theorem dX10_told_91 : decode cX10_told 91 = .ok (.invokevirtual 149, 3) := by decide +kernel
theorem dX10_told_94 : decode cX10_told 94 = .ok (.ireturn, 1) := by decide +kernel
theorem dX10_told_95 : decode cX10_told 95 = .ok (.aload_n 3, 1) := by decide +kernel
theorem dX10_told_96 : decode cX10_told 96 = .ok (.getfield 152, 3) := by decide +kernel
theorem dX10_told_99 : decode cX10_told 99 = .ok (.ireturn, 1) := by decide +kernel
theorem dX10_told_100 : decode cX10_told 100 = .ok (.iconst (-1), 1) := by decide +kernel
theorem dX10_told_101 : decode cX10_told 101 = .ok (.ireturn, 1) := by decide +kernel
theorem dX10_table_0 : decode cX10_table 0 = .ok (.aload_n 0, 1) := by decide +kernel
theorem dX10_table_1 : decode cX10_table 1 = .ok (.iload_n 1, 1) := by decide +kernel
theorem dX10_table_2 : decode cX10_table 2 = .ok (.invokevirtual 53, 3) := by decide +kernel
theorem dX10_table_5 : decode cX10_table 5 = .ok (.astore_n 3, 1) := by decide +kernel
theorem dX10_table_6 : decode cX10_table 6 = .ok (.aload_n 3, 1) := by decide +kernel
theorem dX10_table_7 : decode cX10_table 7 = .ok (.ifnull 14, 3) := by decide +kernel
theorem dX10_table_10 : decode cX10_table 10 = .ok (.iload_n 2, 1) := by decide +kernel
theorem dX10_table_11 : decode cX10_table 11 = .ok (.ifCond .lt 10, 3) := by decide +kernel
theorem dX10_table_14 : decode cX10_table 14 = .ok (.iload_n 2, 1) := by decide +kernel
theorem dX10_table_15 : decode cX10_table 15 = .ok (.sipush 254, 3) := by decide +kernel
theorem dX10_table_18 : decode cX10_table 18 = .ok (.if_icmp .lt 5, 3) := by decide +kernel
theorem dX10_table_21 : decode cX10_table 21 = .ok (.iconst (-1), 1) := by decide +kernel
theorem dX10_table_22 : decode cX10_table 22 = .ok (.ireturn, 1) := by decide +kernel
theorem dX10_table_23 : decode cX10_table 23 = .ok (.aload_n 3, 1) := by decide +kernel
theorem dX10_table_24 : decode cX10_table 24 = .ok (.getfield 155, 3) := by decide +kernel
theorem dX10_table_27 : decode cX10_table 27 = .ok (.iload_n 2, 1) := by decide +kernel
theorem dX10_table_28 : decode cX10_table 28 = .ok (.invokevirtual 159, 3) := by decide +kernel
theorem dX10_table_31 : decode cX10_table 31 = .ok (.ireturn, 1) := by decide +kernel
theorem dX10_message_0 : decode cX10_message 0 = .ok (.aload_n 0, 1) := by decide +kernel
theorem dX10_message_1 : decode cX10_message 1 = .ok (.iload_n 1, 1) := by decide +kernel
theorem dX10_message_2 : decode cX10_message 2 = .ok (.invokevirtual 53, 3) := by decide +kernel
theorem dX10_message_5 : decode cX10_message 5 = .ok (.astore 4, 2) := by decide +kernel
theorem dX10_message_7 : decode cX10_message 7 = .ok (.aload 4, 2) := by decide +kernel
theorem dX10_message_9 : decode cX10_message 9 = .ok (.ifnonnull 7, 3) := by decide +kernel
theorem dX10_message_12 : decode cX10_message 12 = .ok (.iconst (-1), 1) := by decide +kernel
theorem dX10_message_13 : decode cX10_message 13 = .ok (.goto 13, 3) := by decide +kernel
theorem dX10_message_16 : decode cX10_message 16 = .ok (.aload 4, 2) := by decide +kernel
theorem dX10_message_18 : decode cX10_message 18 = .ok (.getfield 140, 3) := by decide +kernel
theorem dX10_message_21 : decode cX10_message 21 = .ok (.iload_n 2, 1) := by decide +kernel
theorem dX10_message_22 : decode cX10_message 22 = .ok (.iload_n 3, 1) := by decide +kernel
theorem dX10_message_23 : decode cX10_message 23 = .ok (.invokevirtual 164, 3) := by decide +kernel
theorem dX10_message_26 : decode cX10_message 26 = .ok (.ireturn, 1) := by decide +kernel
theorem dX10_kept_0 : decode cX10_kept 0 = .ok (.aload_n 0, 1) := by decide +kernel
theorem dX10_kept_1 : decode cX10_kept 1 = .ok (.iload_n 1, 1) := by decide +kernel
theorem dX10_kept_2 : decode cX10_kept 2 = .ok (.invokevirtual 53, 3) := by decide +kernel
theorem dX10_kept_5 : decode cX10_kept 5 = .ok (.astore 5, 2) := by decide +kernel
theorem dX10_kept_7 : decode cX10_kept 7 = .ok (.aload 5, 2) := by decide +kernel
theorem dX10_kept_9 : decode cX10_kept 9 = .ok (.ifnonnull 7, 3) := by decide +kernel
theorem dX10_kept_12 : decode cX10_kept 12 = .ok (.iconst (-1), 1) := by decide +kernel
theorem dX10_kept_13 : decode cX10_kept 13 = .ok (.goto 15, 3) := by decide +kernel
theorem dX10_kept_16 : decode cX10_kept 16 = .ok (.aload 5, 2) := by decide +kernel
theorem dX10_kept_18 : decode cX10_kept 18 = .ok (.getfield 140, 3) := by decide +kernel
theorem dX10_kept_21 : decode cX10_kept 21 = .ok (.iload_n 2, 1) := by decide +kernel
theorem dX10_kept_22 : decode cX10_kept 22 = .ok (.iload_n 3, 1) := by decide +kernel
theorem dX10_kept_23 : decode cX10_kept 23 = .ok (.iload 4, 2) := by decide +kernel
theorem dX10_kept_25 : decode cX10_kept 25 = .ok (.invokevirtual 168, 3) := by decide +kernel
theorem dX10_kept_28 : decode cX10_kept 28 = .ok (.ireturn, 1) := by decide +kernel
theorem dX10_carried_0 : decode cX10_carried 0 = .ok (.aload_n 0, 1) := by decide +kernel
theorem dX10_carried_1 : decode cX10_carried 1 = .ok (.getfield 39, 3) := by decide +kernel
theorem dX10_carried_4 : decode cX10_carried 4 = .ok (.iconst (-1), 1) := by decide +kernel
theorem dX10_carried_5 : decode cX10_carried 5 = .ok (.if_icmp .ne 14, 3) := by decide +kernel
theorem dX10_carried_8 : decode cX10_carried 8 = .ok (.iload_n 1, 1) := by decide +kernel
theorem dX10_carried_9 : decode cX10_carried 9 = .ok (.iconst 3, 1) := by decide +kernel
theorem dX10_carried_10 : decode cX10_carried 10 = .ok (.if_icmp .ne 7, 3) := by decide +kernel
theorem dX10_carried_13 : decode cX10_carried 13 = .ok (.iconst (-1), 1) := by decide +kernel
theorem dX10_carried_14 : decode cX10_carried 14 = .ok (.goto 4, 3) := by decide +kernel
theorem dX10_carried_17 : decode cX10_carried 17 = .ok (.iconst 0, 1) := by decide +kernel
theorem dX10_carried_18 : decode cX10_carried 18 = .ok (.ireturn, 1) := by decide +kernel
theorem dX10_carried_19 : decode cX10_carried 19 = .ok (.iload_n 1, 1) := by decide +kernel
theorem dX10_carried_20 : decode cX10_carried 20 = .ok (.tableswitch 61 0 3 #[32, 40, 48, 56], 32) := by decide +kernel
theorem dX10_carried_52 : decode cX10_carried 52 = .ok (.aload_n 0, 1) := by decide +kernel
theorem dX10_carried_53 : decode cX10_carried 53 = .ok (.getfield 25, 3) := by decide +kernel
theorem dX10_carried_56 : decode cX10_carried 56 = .ok (.getfield 171, 3) := by decide +kernel
theorem dX10_carried_59 : decode cX10_carried 59 = .ok (.ireturn, 1) := by decide +kernel
theorem dX10_carried_60 : decode cX10_carried 60 = .ok (.aload_n 0, 1) := by decide +kernel
theorem dX10_carried_61 : decode cX10_carried 61 = .ok (.getfield 25, 3) := by decide +kernel
theorem dX10_carried_64 : decode cX10_carried 64 = .ok (.getfield 174, 3) := by decide +kernel
theorem dX10_carried_67 : decode cX10_carried 67 = .ok (.ireturn, 1) := by decide +kernel
theorem dX10_carried_68 : decode cX10_carried 68 = .ok (.aload_n 0, 1) := by decide +kernel
theorem dX10_carried_69 : decode cX10_carried 69 = .ok (.getfield 25, 3) := by decide +kernel
theorem dX10_carried_72 : decode cX10_carried 72 = .ok (.getfield 177, 3) := by decide +kernel
theorem dX10_carried_75 : decode cX10_carried 75 = .ok (.ireturn, 1) := by decide +kernel
theorem dX10_carried_76 : decode cX10_carried 76 = .ok (.aload_n 0, 1) := by decide +kernel
theorem dX10_carried_77 : decode cX10_carried 77 = .ok (.getfield 39, 3) := by decide +kernel
theorem dX10_carried_80 : decode cX10_carried 80 = .ok (.ireturn, 1) := by decide +kernel
theorem dX10_carried_81 : decode cX10_carried 81 = .ok (.iconst 0, 1) := by decide +kernel
theorem dX10_carried_82 : decode cX10_carried 82 = .ok (.ireturn, 1) := by decide +kernel
theorem dX10_sound_0 : decode cX10_sound 0 = .ok (.aload_n 0, 1) := by decide +kernel
theorem dX10_sound_1 : decode cX10_sound 1 = .ok (.invokevirtual 180, 3) := by decide +kernel
theorem dX10_sound_4 : decode cX10_sound 4 = .ok (.ifCond .ne 17, 3) := by decide +kernel
theorem dX10_sound_7 : decode cX10_sound 7 = .ok (.aload_n 0, 1) := by decide +kernel
theorem dX10_sound_8 : decode cX10_sound 8 = .ok (.invokevirtual 183, 3) := by decide +kernel
theorem dX10_sound_11 : decode cX10_sound 11 = .ok (.ifCond .eq 14, 3) := by decide +kernel
theorem dX10_sound_14 : decode cX10_sound 14 = .ok (.aload_n 0, 1) := by decide +kernel
theorem dX10_sound_15 : decode cX10_sound 15 = .ok (.invokevirtual 186, 3) := by decide +kernel
theorem dX10_sound_18 : decode cX10_sound 18 = .ok (.ifCond .eq 7, 3) := by decide +kernel
theorem dX10_sound_21 : decode cX10_sound 21 = .ok (.iconst 1, 1) := by decide +kernel
theorem dX10_sound_22 : decode cX10_sound 22 = .ok (.goto 4, 3) := by decide +kernel
theorem dX10_sound_25 : decode cX10_sound 25 = .ok (.iconst 0, 1) := by decide +kernel
theorem dX10_sound_26 : decode cX10_sound 26 = .ok (.ireturn, 1) := by decide +kernel
theorem dX10_count_0 : decode cX10_count 0 = .ok (.iload_n 1, 1) := by decide +kernel
theorem dX10_count_1 : decode cX10_count 1 = .ok (.tableswitch 51 0 3 #[31, 36, 41, 46], 31) := by decide +kernel
theorem dX10_count_32 : decode cX10_count 32 = .ok (.aload_n 0, 1) := by decide +kernel
theorem dX10_count_33 : decode cX10_count 33 = .ok (.getfield 29, 3) := by decide +kernel
theorem dX10_count_36 : decode cX10_count 36 = .ok (.ireturn, 1) := by decide +kernel
theorem dX10_count_37 : decode cX10_count 37 = .ok (.aload_n 0, 1) := by decide +kernel
theorem dX10_count_38 : decode cX10_count 38 = .ok (.getfield 33, 3) := by decide +kernel
theorem dX10_count_41 : decode cX10_count 41 = .ok (.ireturn, 1) := by decide +kernel
theorem dX10_count_42 : decode cX10_count 42 = .ok (.aload_n 0, 1) := by decide +kernel
theorem dX10_count_43 : decode cX10_count 43 = .ok (.getfield 36, 3) := by decide +kernel
theorem dX10_count_46 : decode cX10_count 46 = .ok (.ireturn, 1) := by decide +kernel
theorem dX10_count_47 : decode cX10_count 47 = .ok (.aload_n 0, 1) := by decide +kernel
theorem dX10_count_48 : decode cX10_count 48 = .ok (.invokevirtual 189, 3) := by decide +kernel
theorem dX10_count_51 : decode cX10_count 51 = .ok (.ireturn, 1) := by decide +kernel
theorem dX10_count_52 : decode cX10_count 52 = .ok (.iconst (-1), 1) := by decide +kernel
theorem dX10_count_53 : decode cX10_count 53 = .ok (.ireturn, 1) := by decide +kernel
theorem dX10_find_0 : decode cX10_find 0 = .ok (.iload_n 1, 1) := by decide +kernel
theorem dX10_find_1 : decode cX10_find 1 = .ok (.ifCond .lt 26, 3) := by decide +kernel
theorem dX10_find_4 : decode cX10_find 4 = .ok (.iload_n 1, 1) := by decide +kernel
theorem dX10_find_5 : decode cX10_find 5 = .ok (.aload_n 0, 1) := by decide +kernel
theorem dX10_find_6 : decode cX10_find 6 = .ok (.getfield 29, 3) := by decide +kernel
theorem dX10_find_9 : decode cX10_find 9 = .ok (.if_icmp .ge 18, 3) := by decide +kernel
theorem dX10_find_12 : decode cX10_find 12 = .ok (.iload_n 1, 1) := by decide +kernel
theorem dX10_find_13 : decode cX10_find 13 = .ok (.bipush 8, 2) := by decide +kernel
theorem dX10_find_15 : decode cX10_find 15 = .ok (.if_icmp .ge 12, 3) := by decide +kernel
theorem dX10_find_18 : decode cX10_find 18 = .ok (.aload_n 0, 1) := by decide +kernel
theorem dX10_find_19 : decode cX10_find 19 = .ok (.getfield 11, 3) := by decide +kernel
theorem dX10_find_22 : decode cX10_find 22 = .ok (.iload_n 1, 1) := by decide +kernel
theorem dX10_find_23 : decode cX10_find 23 = .ok (.aaload, 1) := by decide +kernel
theorem dX10_find_24 : decode cX10_find 24 = .ok (.goto 4, 3) := by decide +kernel
theorem dX10_find_27 : decode cX10_find 27 = .ok (.aconst_null, 1) := by decide +kernel
theorem dX10_find_28 : decode cX10_find 28 = .ok (.areturn, 1) := by decide +kernel
theorem dX10_nameIsThere_0 : decode cX10_nameIsThere 0 = .ok (.iconst 0, 1) := by decide +kernel
theorem dX10_nameIsThere_1 : decode cX10_nameIsThere 1 = .ok (.istore_n 3, 1) := by decide +kernel
theorem dX10_nameIsThere_2 : decode cX10_nameIsThere 2 = .ok (.iload_n 3, 1) := by decide +kernel
theorem dX10_nameIsThere_3 : decode cX10_nameIsThere 3 = .ok (.aload_n 0, 1) := by decide +kernel
theorem dX10_nameIsThere_4 : decode cX10_nameIsThere 4 = .ok (.getfield 29, 3) := by decide +kernel
theorem dX10_nameIsThere_7 : decode cX10_nameIsThere 7 = .ok (.if_icmp .ge 41, 3) := by decide +kernel
theorem dX10_nameIsThere_10 : decode cX10_nameIsThere 10 = .ok (.aload_n 0, 1) := by decide +kernel
theorem dX10_nameIsThere_11 : decode cX10_nameIsThere 11 = .ok (.iload_n 3, 1) := by decide +kernel
theorem dX10_nameIsThere_12 : decode cX10_nameIsThere 12 = .ok (.invokevirtual 53, 3) := by decide +kernel
theorem dX10_nameIsThere_15 : decode cX10_nameIsThere 15 = .ok (.astore 4, 2) := by decide +kernel
theorem dX10_nameIsThere_17 : decode cX10_nameIsThere 17 = .ok (.aload 4, 2) := by decide +kernel
theorem dX10_nameIsThere_19 : decode cX10_nameIsThere 19 = .ok (.ifnull 23, 3) := by decide +kernel
theorem dX10_nameIsThere_22 : decode cX10_nameIsThere 22 = .ok (.aload 4, 2) := by decide +kernel
theorem dX10_nameIsThere_24 : decode cX10_nameIsThere 24 = .ok (.getfield 192, 3) := by decide +kernel
theorem dX10_nameIsThere_27 : decode cX10_nameIsThere 27 = .ok (.iload_n 1, 1) := by decide +kernel
theorem dX10_nameIsThere_28 : decode cX10_nameIsThere 28 = .ok (.if_icmp .ne 14, 3) := by decide +kernel
theorem dX10_nameIsThere_31 : decode cX10_nameIsThere 31 = .ok (.aload 4, 2) := by decide +kernel
theorem dX10_nameIsThere_33 : decode cX10_nameIsThere 33 = .ok (.getfield 195, 3) := by decide +kernel
theorem dX10_nameIsThere_36 : decode cX10_nameIsThere 36 = .ok (.iload_n 2, 1) := by decide +kernel
theorem dX10_nameIsThere_37 : decode cX10_nameIsThere 37 = .ok (.if_icmp .ne 5, 3) := by decide +kernel
theorem dX10_nameIsThere_40 : decode cX10_nameIsThere 40 = .ok (.iconst 1, 1) := by decide +kernel
theorem dX10_nameIsThere_41 : decode cX10_nameIsThere 41 = .ok (.ireturn, 1) := by decide +kernel
theorem dX10_nameIsThere_42 : decode cX10_nameIsThere 42 = .ok (.iinc 3 1, 3) := by decide +kernel
theorem dX10_nameIsThere_45 : decode cX10_nameIsThere 45 = .ok (.goto (-43), 3) := by decide +kernel
theorem dX10_nameIsThere_48 : decode cX10_nameIsThere 48 = .ok (.iconst 0, 1) := by decide +kernel
theorem dX10_nameIsThere_49 : decode cX10_nameIsThere 49 = .ok (.ireturn, 1) := by decide +kernel
theorem dX10_nextMoment_0 : decode cX10_nextMoment 0 = .ok (.iload_n 1, 1) := by decide +kernel
theorem dX10_nextMoment_1 : decode cX10_nextMoment 1 = .ok (.istore_n 2, 1) := by decide +kernel
theorem dX10_nextMoment_2 : decode cX10_nextMoment 2 = .ok (.iconst 0, 1) := by decide +kernel
theorem dX10_nextMoment_3 : decode cX10_nextMoment 3 = .ok (.istore_n 3, 1) := by decide +kernel
theorem dX10_nextMoment_4 : decode cX10_nextMoment 4 = .ok (.iload_n 3, 1) := by decide +kernel
theorem dX10_nextMoment_5 : decode cX10_nextMoment 5 = .ok (.aload_n 0, 1) := by decide +kernel
theorem dX10_nextMoment_6 : decode cX10_nextMoment 6 = .ok (.getfield 29, 3) := by decide +kernel
theorem dX10_nextMoment_9 : decode cX10_nextMoment 9 = .ok (.if_icmp .ge 54, 3) := by decide +kernel
theorem dX10_nextMoment_12 : decode cX10_nextMoment 12 = .ok (.aload_n 0, 1) := by decide +kernel
theorem dX10_nextMoment_13 : decode cX10_nextMoment 13 = .ok (.iload_n 3, 1) := by decide +kernel
theorem dX10_nextMoment_14 : decode cX10_nextMoment 14 = .ok (.invokevirtual 53, 3) := by decide +kernel
theorem dX10_nextMoment_17 : decode cX10_nextMoment 17 = .ok (.astore 4, 2) := by decide +kernel
theorem dX10_nextMoment_19 : decode cX10_nextMoment 19 = .ok (.aload 4, 2) := by decide +kernel
theorem dX10_nextMoment_21 : decode cX10_nextMoment 21 = .ok (.ifnull 21, 3) := by decide +kernel
theorem dX10_nextMoment_24 : decode cX10_nextMoment 24 = .ok (.aload 4, 2) := by decide +kernel
theorem dX10_nextMoment_26 : decode cX10_nextMoment 26 = .ok (.getfield 74, 3) := by decide +kernel
theorem dX10_nextMoment_29 : decode cX10_nextMoment 29 = .ok (.invokevirtual 129, 3) := by decide +kernel
theorem dX10_nextMoment_32 : decode cX10_nextMoment 32 = .ok (.ifCond .le 10, 3) := by decide +kernel
theorem dX10_nextMoment_35 : decode cX10_nextMoment 35 = .ok (.aload_n 0, 1) := by decide +kernel
theorem dX10_nextMoment_36 : decode cX10_nextMoment 36 = .ok (.getfield 33, 3) := by decide +kernel
theorem dX10_nextMoment_39 : decode cX10_nextMoment 39 = .ok (.iconst 1, 1) := by decide +kernel
theorem dX10_nextMoment_40 : decode cX10_nextMoment 40 = .ok (.iadd, 1) := by decide +kernel
theorem dX10_nextMoment_41 : decode cX10_nextMoment 41 = .ok (.ireturn, 1) := by decide +kernel
theorem dX10_nextMoment_42 : decode cX10_nextMoment 42 = .ok (.aload 4, 2) := by decide +kernel
theorem dX10_nextMoment_44 : decode cX10_nextMoment 44 = .ok (.ifnull 13, 3) := by decide +kernel
theorem dX10_nextMoment_47 : decode cX10_nextMoment 47 = .ok (.iload_n 2, 1) := by decide +kernel
theorem dX10_nextMoment_48 : decode cX10_nextMoment 48 = .ok (.aload 4, 2) := by decide +kernel
theorem dX10_nextMoment_50 : decode cX10_nextMoment 50 = .ok (.invokevirtual 199, 3) := by decide +kernel
theorem dX10_nextMoment_53 : decode cX10_nextMoment 53 = .ok (.invokestatic 202, 3) := by decide +kernel
theorem dX10_nextMoment_56 : decode cX10_nextMoment 56 = .ok (.istore_n 2, 1) := by decide +kernel
theorem dX10_nextMoment_57 : decode cX10_nextMoment 57 = .ok (.iinc 3 1, 3) := by decide +kernel
theorem dX10_nextMoment_60 : decode cX10_nextMoment 60 = .ok (.goto (-56), 3) := by decide +kernel
theorem dX10_nextMoment_63 : decode cX10_nextMoment 63 = .ok (.aload_n 0, 1) := by decide +kernel
theorem dX10_nextMoment_64 : decode cX10_nextMoment 64 = .ok (.getfield 33, 3) := by decide +kernel
theorem dX10_nextMoment_67 : decode cX10_nextMoment 67 = .ok (.iconst 1, 1) := by decide +kernel
theorem dX10_nextMoment_68 : decode cX10_nextMoment 68 = .ok (.iadd, 1) := by decide +kernel
theorem dX10_nextMoment_69 : decode cX10_nextMoment 69 = .ok (.iload_n 2, 1) := by decide +kernel
theorem dX10_nextMoment_70 : decode cX10_nextMoment 70 = .ok (.invokestatic 207, 3) := by decide +kernel
theorem dX10_nextMoment_73 : decode cX10_nextMoment 73 = .ok (.ireturn, 1) := by decide +kernel
theorem dX10_runTimers_0 : decode cX10_runTimers 0 = .ok (.iconst 0, 1) := by decide +kernel
theorem dX10_runTimers_1 : decode cX10_runTimers 1 = .ok (.istore_n 1, 1) := by decide +kernel
theorem dX10_runTimers_2 : decode cX10_runTimers 2 = .ok (.iload_n 1, 1) := by decide +kernel
theorem dX10_runTimers_3 : decode cX10_runTimers 3 = .ok (.aload_n 0, 1) := by decide +kernel
theorem dX10_runTimers_4 : decode cX10_runTimers 4 = .ok (.getfield 29, 3) := by decide +kernel
theorem dX10_runTimers_7 : decode cX10_runTimers 7 = .ok (.if_icmp .ge 27, 3) := by decide +kernel
theorem dX10_runTimers_10 : decode cX10_runTimers 10 = .ok (.aload_n 0, 1) := by decide +kernel
theorem dX10_runTimers_11 : decode cX10_runTimers 11 = .ok (.iload_n 1, 1) := by decide +kernel
theorem dX10_runTimers_12 : decode cX10_runTimers 12 = .ok (.invokevirtual 53, 3) := by decide +kernel
theorem dX10_runTimers_15 : decode cX10_runTimers 15 = .ok (.astore_n 2, 1) := by decide +kernel
theorem dX10_runTimers_16 : decode cX10_runTimers 16 = .ok (.aload_n 2, 1) := by decide +kernel
theorem dX10_runTimers_17 : decode cX10_runTimers 17 = .ok (.ifnull 11, 3) := by decide +kernel
theorem dX10_runTimers_20 : decode cX10_runTimers 20 = .ok (.aload_n 2, 1) := by decide +kernel
theorem dX10_runTimers_21 : decode cX10_runTimers 21 = .ok (.aload_n 0, 1) := by decide +kernel
theorem dX10_runTimers_22 : decode cX10_runTimers 22 = .ok (.getfield 33, 3) := by decide +kernel
theorem dX10_runTimers_25 : decode cX10_runTimers 25 = .ok (.invokevirtual 210, 3) := by decide +kernel
theorem dX10_runTimers_28 : decode cX10_runTimers 28 = .ok (.iinc 1 1, 3) := by decide +kernel
theorem dX10_runTimers_31 : decode cX10_runTimers 31 = .ok (.goto (-29), 3) := by decide +kernel
theorem dX10_runTimers_34 : decode cX10_runTimers 34 = .ok (.return_, 1) := by decide +kernel
theorem dX10_carryFrame_0 : decode cX10_carryFrame 0 = .ok (.aload_n 0, 1) := by decide +kernel
theorem dX10_carryFrame_1 : decode cX10_carryFrame 1 = .ok (.invokevirtual 212, 3) := by decide +kernel
theorem dX10_carryFrame_4 : decode cX10_carryFrame 4 = .ok (.istore_n 1, 1) := by decide +kernel
theorem dX10_carryFrame_5 : decode cX10_carryFrame 5 = .ok (.aload_n 0, 1) := by decide +kernel
theorem dX10_carryFrame_6 : decode cX10_carryFrame 6 = .ok (.iload_n 1, 1) := by decide +kernel
theorem dX10_carryFrame_7 : decode cX10_carryFrame 7 = .ok (.invokevirtual 53, 3) := by decide +kernel
theorem dX10_carryFrame_10 : decode cX10_carryFrame 10 = .ok (.astore_n 2, 1) := by decide +kernel
theorem dX10_carryFrame_11 : decode cX10_carryFrame 11 = .ok (.aload_n 2, 1) := by decide +kernel
theorem dX10_carryFrame_12 : decode cX10_carryFrame 12 = .ok (.ifnonnull 4, 3) := by decide +kernel
theorem dX10_carryFrame_15 : decode cX10_carryFrame 15 = .ok (.return_, 1) := by decide +kernel
theorem dX10_carryFrame_16 : decode cX10_carryFrame 16 = .ok (.aload_n 2, 1) := by decide +kernel
theorem dX10_carryFrame_17 : decode cX10_carryFrame 17 = .ok (.aload_n 0, 1) := by decide +kernel
theorem dX10_carryFrame_18 : decode cX10_carryFrame 18 = .ok (.getfield 25, 3) := by decide +kernel
theorem dX10_carryFrame_21 : decode cX10_carryFrame 21 = .ok (.sipush 238, 3) := by decide +kernel
theorem dX10_carryFrame_24 : decode cX10_carryFrame 24 = .ok (.invokevirtual 215, 3) := by decide +kernel
theorem dX10_carryFrame_27 : decode cX10_carryFrame 27 = .ok (.aload_n 0, 1) := by decide +kernel
theorem dX10_carryFrame_28 : decode cX10_carryFrame 28 = .ok (.getfield 33, 3) := by decide +kernel
theorem dX10_carryFrame_31 : decode cX10_carryFrame 31 = .ok (.invokevirtual 218, 3) := by decide +kernel
theorem dX10_carryFrame_34 : decode cX10_carryFrame 34 = .ok (.aload_n 0, 1) := by decide +kernel
theorem dX10_carryFrame_35 : decode cX10_carryFrame 35 = .ok (.iload_n 1, 1) := by decide +kernel
theorem dX10_carryFrame_36 : decode cX10_carryFrame 36 = .ok (.putfield 39, 3) := by decide +kernel
theorem dX10_carryFrame_39 : decode cX10_carryFrame 39 = .ok (.aload_n 0, 1) := by decide +kernel
theorem dX10_carryFrame_40 : decode cX10_carryFrame 40 = .ok (.dup, 1) := by decide +kernel
theorem dX10_carryFrame_41 : decode cX10_carryFrame 41 = .ok (.getfield 36, 3) := by decide +kernel
theorem dX10_carryFrame_44 : decode cX10_carryFrame 44 = .ok (.iconst 1, 1) := by decide +kernel
theorem dX10_carryFrame_45 : decode cX10_carryFrame 45 = .ok (.iadd, 1) := by decide +kernel
theorem dX10_carryFrame_46 : decode cX10_carryFrame 46 = .ok (.putfield 36, 3) := by decide +kernel
theorem dX10_carryFrame_49 : decode cX10_carryFrame 49 = .ok (.iconst 0, 1) := by decide +kernel
theorem dX10_carryFrame_50 : decode cX10_carryFrame 50 = .ok (.istore_n 3, 1) := by decide +kernel
theorem dX10_carryFrame_51 : decode cX10_carryFrame 51 = .ok (.iload_n 3, 1) := by decide +kernel
theorem dX10_carryFrame_52 : decode cX10_carryFrame 52 = .ok (.aload_n 0, 1) := by decide +kernel
theorem dX10_carryFrame_53 : decode cX10_carryFrame 53 = .ok (.getfield 29, 3) := by decide +kernel
theorem dX10_carryFrame_56 : decode cX10_carryFrame 56 = .ok (.if_icmp .ge 48, 3) := by decide +kernel
theorem dX10_carryFrame_59 : decode cX10_carryFrame 59 = .ok (.aload_n 0, 1) := by decide +kernel
theorem dX10_carryFrame_60 : decode cX10_carryFrame 60 = .ok (.iload_n 3, 1) := by decide +kernel
theorem dX10_carryFrame_61 : decode cX10_carryFrame 61 = .ok (.invokevirtual 53, 3) := by decide +kernel
theorem dX10_carryFrame_64 : decode cX10_carryFrame 64 = .ok (.astore 4, 2) := by decide +kernel
theorem dX10_carryFrame_66 : decode cX10_carryFrame 66 = .ok (.aload 4, 2) := by decide +kernel
theorem dX10_carryFrame_68 : decode cX10_carryFrame 68 = .ok (.ifnull 30, 3) := by decide +kernel
theorem dX10_carryFrame_71 : decode cX10_carryFrame 71 = .ok (.iload_n 3, 1) := by decide +kernel
theorem dX10_carryFrame_72 : decode cX10_carryFrame 72 = .ok (.iload_n 1, 1) := by decide +kernel
theorem dX10_carryFrame_73 : decode cX10_carryFrame 73 = .ok (.if_icmp .eq 25, 3) := by decide +kernel
theorem dX10_carryFrame_76 : decode cX10_carryFrame 76 = .ok (.aload 4, 2) := by decide +kernel
theorem dX10_carryFrame_78 : decode cX10_carryFrame 78 = .ok (.getfield 57, 3) := by decide +kernel
theorem dX10_carryFrame_81 : decode cX10_carryFrame 81 = .ok (.ifCond .eq 17, 3) := by decide +kernel
theorem dX10_carryFrame_84 : decode cX10_carryFrame 84 = .ok (.aload 4, 2) := by decide +kernel
theorem dX10_carryFrame_86 : decode cX10_carryFrame 86 = .ok (.aload_n 0, 1) := by decide +kernel
theorem dX10_carryFrame_87 : decode cX10_carryFrame 87 = .ok (.getfield 25, 3) := by decide +kernel
theorem dX10_carryFrame_90 : decode cX10_carryFrame 90 = .ok (.iload_n 1, 1) := by decide +kernel
theorem dX10_carryFrame_91 : decode cX10_carryFrame 91 = .ok (.aload_n 0, 1) := by decide +kernel
theorem dX10_carryFrame_92 : decode cX10_carryFrame 92 = .ok (.getfield 33, 3) := by decide +kernel
theorem dX10_carryFrame_95 : decode cX10_carryFrame 95 = .ok (.invokevirtual 222, 3) := by decide +kernel
theorem dX10_carryFrame_98 : decode cX10_carryFrame 98 = .ok (.iinc 3 1, 3) := by decide +kernel
theorem dX10_carryFrame_101 : decode cX10_carryFrame 101 = .ok (.goto (-50), 3) := by decide +kernel
theorem dX10_carryFrame_104 : decode cX10_carryFrame 104 = .ok (.return_, 1) := by decide +kernel
theorem dX10_firstToSend_0 : decode cX10_firstToSend 0 = .ok (.iconst (-1), 1) := by decide +kernel
theorem dX10_firstToSend_1 : decode cX10_firstToSend 1 = .ok (.istore_n 1, 1) := by decide +kernel
theorem dX10_firstToSend_2 : decode cX10_firstToSend 2 = .ok (.aconst_null, 1) := by decide +kernel
theorem dX10_firstToSend_3 : decode cX10_firstToSend 3 = .ok (.astore_n 2, 1) := by decide +kernel
theorem dX10_firstToSend_4 : decode cX10_firstToSend 4 = .ok (.iconst 0, 1) := by decide +kernel
theorem dX10_firstToSend_5 : decode cX10_firstToSend 5 = .ok (.istore_n 3, 1) := by decide +kernel
theorem dX10_firstToSend_6 : decode cX10_firstToSend 6 = .ok (.iload_n 3, 1) := by decide +kernel
theorem dX10_firstToSend_7 : decode cX10_firstToSend 7 = .ok (.aload_n 0, 1) := by decide +kernel
theorem dX10_firstToSend_8 : decode cX10_firstToSend 8 = .ok (.getfield 29, 3) := by decide +kernel
theorem dX10_firstToSend_11 : decode cX10_firstToSend 11 = .ok (.if_icmp .ge 63, 3) := by decide +kernel
theorem dX10_firstToSend_14 : decode cX10_firstToSend 14 = .ok (.aload_n 0, 1) := by decide +kernel
theorem dX10_firstToSend_15 : decode cX10_firstToSend 15 = .ok (.iload_n 3, 1) := by decide +kernel
theorem dX10_firstToSend_16 : decode cX10_firstToSend 16 = .ok (.invokevirtual 53, 3) := by decide +kernel
theorem dX10_firstToSend_19 : decode cX10_firstToSend 19 = .ok (.astore 4, 2) := by decide +kernel
theorem dX10_firstToSend_21 : decode cX10_firstToSend 21 = .ok (.aload 4, 2) := by decide +kernel
theorem dX10_firstToSend_23 : decode cX10_firstToSend 23 = .ok (.ifnonnull 7, 3) := by decide +kernel
theorem dX10_firstToSend_26 : decode cX10_firstToSend 26 = .ok (.aconst_null, 1) := by decide +kernel
theorem dX10_firstToSend_27 : decode cX10_firstToSend 27 = .ok (.goto 16, 3) := by decide +kernel
theorem dX10_firstToSend_30 : decode cX10_firstToSend 30 = .ok (.aload 4, 2) := by decide +kernel
theorem dX10_firstToSend_32 : decode cX10_firstToSend 32 = .ok (.getfield 74, 3) := by decide +kernel
theorem dX10_firstToSend_35 : decode cX10_firstToSend 35 = .ok (.aload 4, 2) := by decide +kernel
theorem dX10_firstToSend_37 : decode cX10_firstToSend 37 = .ok (.getfield 126, 3) := by decide +kernel
theorem dX10_firstToSend_40 : decode cX10_firstToSend 40 = .ok (.invokevirtual 226, 3) := by decide +kernel
theorem dX10_firstToSend_43 : decode cX10_firstToSend 43 = .ok (.astore 5, 2) := by decide +kernel
theorem dX10_firstToSend_45 : decode cX10_firstToSend 45 = .ok (.aload 5, 2) := by decide +kernel
theorem dX10_firstToSend_47 : decode cX10_firstToSend 47 = .ok (.ifnull 21, 3) := by decide +kernel
theorem dX10_firstToSend_50 : decode cX10_firstToSend 50 = .ok (.aload_n 2, 1) := by decide +kernel
theorem dX10_firstToSend_51 : decode cX10_firstToSend 51 = .ok (.ifnull 12, 3) := by decide +kernel
theorem dX10_firstToSend_54 : decode cX10_firstToSend 54 = .ok (.aload 5, 2) := by decide +kernel
theorem dX10_firstToSend_56 : decode cX10_firstToSend 56 = .ok (.aload_n 2, 1) := by decide +kernel
theorem dX10_firstToSend_57 : decode cX10_firstToSend 57 = .ok (.invokevirtual 229, 3) := by decide +kernel
theorem dX10_firstToSend_60 : decode cX10_firstToSend 60 = .ok (.ifCond .eq 8, 3) := by decide +kernel
theorem dX10_firstToSend_63 : decode cX10_firstToSend 63 = .ok (.aload 5, 2) := by decide +kernel
theorem dX10_firstToSend_65 : decode cX10_firstToSend 65 = .ok (.astore_n 2, 1) := by decide +kernel
theorem dX10_firstToSend_66 : decode cX10_firstToSend 66 = .ok (.iload_n 3, 1) := by decide +kernel
theorem dX10_firstToSend_67 : decode cX10_firstToSend 67 = .ok (.istore_n 1, 1) := by decide +kernel
theorem dX10_firstToSend_68 : decode cX10_firstToSend 68 = .ok (.iinc 3 1, 3) := by decide +kernel
theorem dX10_firstToSend_71 : decode cX10_firstToSend 71 = .ok (.goto (-65), 3) := by decide +kernel
theorem dX10_firstToSend_74 : decode cX10_firstToSend 74 = .ok (.aload_n 2, 1) := by decide +kernel
theorem dX10_firstToSend_75 : decode cX10_firstToSend 75 = .ok (.ifnull 11, 3) := by decide +kernel
theorem dX10_firstToSend_78 : decode cX10_firstToSend 78 = .ok (.aload_n 0, 1) := by decide +kernel
theorem dX10_firstToSend_79 : decode cX10_firstToSend 79 = .ok (.getfield 25, 3) := by decide +kernel
theorem dX10_firstToSend_82 : decode cX10_firstToSend 82 = .ok (.aload_n 2, 1) := by decide +kernel
theorem dX10_firstToSend_83 : decode cX10_firstToSend 83 = .ok (.invokevirtual 233, 3) := by decide +kernel
theorem dX10_firstToSend_86 : decode cX10_firstToSend 86 = .ok (.iload_n 1, 1) := by decide +kernel
theorem dX10_firstToSend_87 : decode cX10_firstToSend 87 = .ok (.ireturn, 1) := by decide +kernel
theorem dX10_isDisturbed_0 : decode cX10_isDisturbed 0 = .ok (.iconst 0, 1) := by decide +kernel
theorem dX10_isDisturbed_1 : decode cX10_isDisturbed 1 = .ok (.istore_n 1, 1) := by decide +kernel
theorem dX10_isDisturbed_2 : decode cX10_isDisturbed 2 = .ok (.iload_n 1, 1) := by decide +kernel
theorem dX10_isDisturbed_3 : decode cX10_isDisturbed 3 = .ok (.aload_n 0, 1) := by decide +kernel
theorem dX10_isDisturbed_4 : decode cX10_isDisturbed 4 = .ok (.getfield 29, 3) := by decide +kernel
theorem dX10_isDisturbed_7 : decode cX10_isDisturbed 7 = .ok (.if_icmp .ge 28, 3) := by decide +kernel
theorem dX10_isDisturbed_10 : decode cX10_isDisturbed 10 = .ok (.aload_n 0, 1) := by decide +kernel
theorem dX10_isDisturbed_11 : decode cX10_isDisturbed 11 = .ok (.iload_n 1, 1) := by decide +kernel
theorem dX10_isDisturbed_12 : decode cX10_isDisturbed 12 = .ok (.invokevirtual 53, 3) := by decide +kernel
theorem dX10_isDisturbed_15 : decode cX10_isDisturbed 15 = .ok (.astore_n 2, 1) := by decide +kernel
theorem dX10_isDisturbed_16 : decode cX10_isDisturbed 16 = .ok (.aload_n 2, 1) := by decide +kernel
theorem dX10_isDisturbed_17 : decode cX10_isDisturbed 17 = .ok (.ifnull 12, 3) := by decide +kernel
theorem dX10_isDisturbed_20 : decode cX10_isDisturbed 20 = .ok (.aload_n 2, 1) := by decide +kernel
theorem dX10_isDisturbed_21 : decode cX10_isDisturbed 21 = .ok (.getfield 152, 3) := by decide +kernel
theorem dX10_isDisturbed_24 : decode cX10_isDisturbed 24 = .ok (.ifCond .le 5, 3) := by decide +kernel
theorem dX10_isDisturbed_27 : decode cX10_isDisturbed 27 = .ok (.iconst 1, 1) := by decide +kernel
theorem dX10_isDisturbed_28 : decode cX10_isDisturbed 28 = .ok (.ireturn, 1) := by decide +kernel
theorem dX10_isDisturbed_29 : decode cX10_isDisturbed 29 = .ok (.iinc 1 1, 3) := by decide +kernel
theorem dX10_isDisturbed_32 : decode cX10_isDisturbed 32 = .ok (.goto (-30), 3) := by decide +kernel
theorem dX10_isDisturbed_35 : decode cX10_isDisturbed 35 = .ok (.aload_n 0, 1) := by decide +kernel
theorem dX10_isDisturbed_36 : decode cX10_isDisturbed 36 = .ok (.getfield 42, 3) := by decide +kernel
theorem dX10_isDisturbed_39 : decode cX10_isDisturbed 39 = .ok (.ireturn, 1) := by decide +kernel
theorem dX10_addressesAreApart_0 : decode cX10_addressesAreApart 0 = .ok (.iconst 0, 1) := by decide +kernel
theorem dX10_addressesAreApart_1 : decode cX10_addressesAreApart 1 = .ok (.istore_n 1, 1) := by decide +kernel
theorem dX10_addressesAreApart_2 : decode cX10_addressesAreApart 2 = .ok (.iload_n 1, 1) := by decide +kernel
theorem dX10_addressesAreApart_3 : decode cX10_addressesAreApart 3 = .ok (.aload_n 0, 1) := by decide +kernel
theorem dX10_addressesAreApart_4 : decode cX10_addressesAreApart 4 = .ok (.getfield 29, 3) := by decide +kernel
theorem dX10_addressesAreApart_7 : decode cX10_addressesAreApart 7 = .ok (.if_icmp .ge 55, 3) := by decide +kernel
theorem dX10_addressesAreApart_10 : decode cX10_addressesAreApart 10 = .ok (.iconst 0, 1) := by decide +kernel
theorem dX10_addressesAreApart_11 : decode cX10_addressesAreApart 11 = .ok (.istore_n 2, 1) := by decide +kernel
theorem dX10_addressesAreApart_12 : decode cX10_addressesAreApart 12 = .ok (.iload_n 2, 1) := by decide +kernel
theorem dX10_addressesAreApart_13 : decode cX10_addressesAreApart 13 = .ok (.iload_n 1, 1) := by decide +kernel
theorem dX10_addressesAreApart_14 : decode cX10_addressesAreApart 14 = .ok (.if_icmp .ge 42, 3) := by decide +kernel
theorem dX10_addressesAreApart_17 : decode cX10_addressesAreApart 17 = .ok (.aload_n 0, 1) := by decide +kernel
theorem dX10_addressesAreApart_18 : decode cX10_addressesAreApart 18 = .ok (.iload_n 1, 1) := by decide +kernel
theorem dX10_addressesAreApart_19 : decode cX10_addressesAreApart 19 = .ok (.invokevirtual 53, 3) := by decide +kernel
theorem dX10_addressesAreApart_22 : decode cX10_addressesAreApart 22 = .ok (.astore_n 3, 1) := by decide +kernel
theorem dX10_addressesAreApart_23 : decode cX10_addressesAreApart 23 = .ok (.aload_n 0, 1) := by decide +kernel
theorem dX10_addressesAreApart_24 : decode cX10_addressesAreApart 24 = .ok (.iload_n 2, 1) := by decide +kernel
theorem dX10_addressesAreApart_25 : decode cX10_addressesAreApart 25 = .ok (.invokevirtual 53, 3) := by decide +kernel
theorem dX10_addressesAreApart_28 : decode cX10_addressesAreApart 28 = .ok (.astore 4, 2) := by decide +kernel
theorem dX10_addressesAreApart_30 : decode cX10_addressesAreApart 30 = .ok (.aload_n 3, 1) := by decide +kernel
theorem dX10_addressesAreApart_31 : decode cX10_addressesAreApart 31 = .ok (.ifnull 19, 3) := by decide +kernel
theorem dX10_addressesAreApart_34 : decode cX10_addressesAreApart 34 = .ok (.aload 4, 2) := by decide +kernel
theorem dX10_addressesAreApart_36 : decode cX10_addressesAreApart 36 = .ok (.ifnull 14, 3) := by decide +kernel
theorem dX10_addressesAreApart_39 : decode cX10_addressesAreApart 39 = .ok (.aload_n 3, 1) := by decide +kernel
theorem dX10_addressesAreApart_40 : decode cX10_addressesAreApart 40 = .ok (.aload 4, 2) := by decide +kernel
theorem dX10_addressesAreApart_42 : decode cX10_addressesAreApart 42 = .ok (.invokevirtual 237, 3) := by decide +kernel
theorem dX10_addressesAreApart_45 : decode cX10_addressesAreApart 45 = .ok (.ifCond .eq 5, 3) := by decide +kernel
theorem dX10_addressesAreApart_48 : decode cX10_addressesAreApart 48 = .ok (.iconst 0, 1) := by decide +kernel
theorem dX10_addressesAreApart_49 : decode cX10_addressesAreApart 49 = .ok (.ireturn, 1) := by decide +kernel
theorem dX10_addressesAreApart_50 : decode cX10_addressesAreApart 50 = .ok (.iinc 2 1, 3) := by decide +kernel
theorem dX10_addressesAreApart_53 : decode cX10_addressesAreApart 53 = .ok (.goto (-41), 3) := by decide +kernel
theorem dX10_addressesAreApart_56 : decode cX10_addressesAreApart 56 = .ok (.iinc 1 1, 3) := by decide +kernel
theorem dX10_addressesAreApart_59 : decode cX10_addressesAreApart 59 = .ok (.goto (-57), 3) := by decide +kernel
theorem dX10_addressesAreApart_62 : decode cX10_addressesAreApart 62 = .ok (.iconst 1, 1) := by decide +kernel
theorem dX10_addressesAreApart_63 : decode cX10_addressesAreApart 63 = .ok (.ireturn, 1) := by decide +kernel
theorem dX10_messagesAreTrue_0 : decode cX10_messagesAreTrue 0 = .ok (.iconst 0, 1) := by decide +kernel
theorem dX10_messagesAreTrue_1 : decode cX10_messagesAreTrue 1 = .ok (.istore_n 1, 1) := by decide +kernel
theorem dX10_messagesAreTrue_2 : decode cX10_messagesAreTrue 2 = .ok (.iload_n 1, 1) := by decide +kernel
theorem dX10_messagesAreTrue_3 : decode cX10_messagesAreTrue 3 = .ok (.aload_n 0, 1) := by decide +kernel
theorem dX10_messagesAreTrue_4 : decode cX10_messagesAreTrue 4 = .ok (.getfield 29, 3) := by decide +kernel
theorem dX10_messagesAreTrue_7 : decode cX10_messagesAreTrue 7 = .ok (.if_icmp .ge 31, 3) := by decide +kernel
theorem dX10_messagesAreTrue_10 : decode cX10_messagesAreTrue 10 = .ok (.aload_n 0, 1) := by decide +kernel
theorem dX10_messagesAreTrue_11 : decode cX10_messagesAreTrue 11 = .ok (.iload_n 1, 1) := by decide +kernel
theorem dX10_messagesAreTrue_12 : decode cX10_messagesAreTrue 12 = .ok (.invokevirtual 53, 3) := by decide +kernel
theorem dX10_messagesAreTrue_15 : decode cX10_messagesAreTrue 15 = .ok (.astore_n 2, 1) := by decide +kernel
theorem dX10_messagesAreTrue_16 : decode cX10_messagesAreTrue 16 = .ok (.aload_n 2, 1) := by decide +kernel
theorem dX10_messagesAreTrue_17 : decode cX10_messagesAreTrue 17 = .ok (.ifnull 15, 3) := by decide +kernel
theorem dX10_messagesAreTrue_20 : decode cX10_messagesAreTrue 20 = .ok (.aload_n 2, 1) := by decide +kernel
theorem dX10_messagesAreTrue_21 : decode cX10_messagesAreTrue 21 = .ok (.getfield 140, 3) := by decide +kernel
theorem dX10_messagesAreTrue_24 : decode cX10_messagesAreTrue 24 = .ok (.getfield 241, 3) := by decide +kernel
theorem dX10_messagesAreTrue_27 : decode cX10_messagesAreTrue 27 = .ok (.ifCond .eq 5, 3) := by decide +kernel
theorem dX10_messagesAreTrue_30 : decode cX10_messagesAreTrue 30 = .ok (.iconst 0, 1) := by decide +kernel
theorem dX10_messagesAreTrue_31 : decode cX10_messagesAreTrue 31 = .ok (.ireturn, 1) := by decide +kernel
theorem dX10_messagesAreTrue_32 : decode cX10_messagesAreTrue 32 = .ok (.iinc 1 1, 3) := by decide +kernel
theorem dX10_messagesAreTrue_35 : decode cX10_messagesAreTrue 35 = .ok (.goto (-33), 3) := by decide +kernel
theorem dX10_messagesAreTrue_38 : decode cX10_messagesAreTrue 38 = .ok (.iconst 1, 1) := by decide +kernel
theorem dX10_messagesAreTrue_39 : decode cX10_messagesAreTrue 39 = .ok (.ireturn, 1) := by decide +kernel
theorem dX10_nodesWithAddress_0 : decode cX10_nodesWithAddress 0 = .ok (.iconst 0, 1) := by decide +kernel
theorem dX10_nodesWithAddress_1 : decode cX10_nodesWithAddress 1 = .ok (.istore_n 1, 1) := by decide +kernel
theorem dX10_nodesWithAddress_2 : decode cX10_nodesWithAddress 2 = .ok (.iconst 0, 1) := by decide +kernel
theorem dX10_nodesWithAddress_3 : decode cX10_nodesWithAddress 3 = .ok (.istore_n 2, 1) := by decide +kernel
theorem dX10_nodesWithAddress_4 : decode cX10_nodesWithAddress 4 = .ok (.iload_n 2, 1) := by decide +kernel
theorem dX10_nodesWithAddress_5 : decode cX10_nodesWithAddress 5 = .ok (.aload_n 0, 1) := by decide +kernel
theorem dX10_nodesWithAddress_6 : decode cX10_nodesWithAddress 6 = .ok (.getfield 29, 3) := by decide +kernel
theorem dX10_nodesWithAddress_9 : decode cX10_nodesWithAddress 9 = .ok (.if_icmp .ge 30, 3) := by decide +kernel
theorem dX10_nodesWithAddress_12 : decode cX10_nodesWithAddress 12 = .ok (.aload_n 0, 1) := by decide +kernel
theorem dX10_nodesWithAddress_13 : decode cX10_nodesWithAddress 13 = .ok (.iload_n 2, 1) := by decide +kernel
theorem dX10_nodesWithAddress_14 : decode cX10_nodesWithAddress 14 = .ok (.invokevirtual 53, 3) := by decide +kernel
theorem dX10_nodesWithAddress_17 : decode cX10_nodesWithAddress 17 = .ok (.astore_n 3, 1) := by decide +kernel
theorem dX10_nodesWithAddress_18 : decode cX10_nodesWithAddress 18 = .ok (.aload_n 3, 1) := by decide +kernel
theorem dX10_nodesWithAddress_19 : decode cX10_nodesWithAddress 19 = .ok (.ifnull 14, 3) := by decide +kernel
theorem dX10_nodesWithAddress_22 : decode cX10_nodesWithAddress 22 = .ok (.aload_n 3, 1) := by decide +kernel
theorem dX10_nodesWithAddress_23 : decode cX10_nodesWithAddress 23 = .ok (.getfield 57, 3) := by decide +kernel
theorem dX10_nodesWithAddress_26 : decode cX10_nodesWithAddress 26 = .ok (.iconst 2, 1) := by decide +kernel
theorem dX10_nodesWithAddress_27 : decode cX10_nodesWithAddress 27 = .ok (.if_icmp .ne 6, 3) := by decide +kernel
theorem dX10_nodesWithAddress_30 : decode cX10_nodesWithAddress 30 = .ok (.iinc 1 1, 3) := by decide +kernel
theorem dX10_nodesWithAddress_33 : decode cX10_nodesWithAddress 33 = .ok (.iinc 2 1, 3) := by decide +kernel
theorem dX10_nodesWithAddress_36 : decode cX10_nodesWithAddress 36 = .ok (.goto (-32), 3) := by decide +kernel
theorem dX10_nodesWithAddress_39 : decode cX10_nodesWithAddress 39 = .ok (.iload_n 1, 1) := by decide +kernel
theorem dX10_nodesWithAddress_40 : decode cX10_nodesWithAddress 40 = .ok (.ireturn, 1) := by decide +kernel
theorem dX11_init_0 : decode cX11_init 0 = .ok (.aload_n 0, 1) := by decide +kernel
theorem dX11_init_1 : decode cX11_init 1 = .ok (.invokespecial 1, 3) := by decide +kernel
theorem dX11_init_4 : decode cX11_init 4 = .ok (.aload_n 0, 1) := by decide +kernel
theorem dX11_init_5 : decode cX11_init 5 = .ok (.bipush 8, 2) := by decide +kernel
theorem dX11_init_7 : decode cX11_init 7 = .ok (.newarray .long, 2) := by decide +kernel
theorem dX11_init_9 : decode cX11_init 9 = .ok (.putfield 7, 3) := by decide +kernel
theorem dX11_init_12 : decode cX11_init 12 = .ok (.aload_n 0, 1) := by decide +kernel
theorem dX11_init_13 : decode cX11_init 13 = .ok (.bipush 8, 2) := by decide +kernel
theorem dX11_init_15 : decode cX11_init 15 = .ok (.newarray .int, 2) := by decide +kernel
theorem dX11_init_17 : decode cX11_init 17 = .ok (.putfield 13, 3) := by decide +kernel
theorem dX11_init_20 : decode cX11_init 20 = .ok (.aload_n 0, 1) := by decide +kernel
theorem dX11_init_21 : decode cX11_init 21 = .ok (.bipush 8, 2) := by decide +kernel
theorem dX11_init_23 : decode cX11_init 23 = .ok (.newarray .int, 2) := by decide +kernel
theorem dX11_init_25 : decode cX11_init 25 = .ok (.putfield 17, 3) := by decide +kernel
theorem dX11_init_28 : decode cX11_init 28 = .ok (.aload_n 0, 1) := by decide +kernel
theorem dX11_init_29 : decode cX11_init 29 = .ok (.bipush 8, 2) := by decide +kernel
theorem dX11_init_31 : decode cX11_init 31 = .ok (.newarray .boolean, 2) := by decide +kernel
theorem dX11_init_33 : decode cX11_init 33 = .ok (.putfield 20, 3) := by decide +kernel
theorem dX11_init_36 : decode cX11_init 36 = .ok (.aload_n 0, 1) := by decide +kernel
theorem dX11_init_37 : decode cX11_init 37 = .ok (.bipush 8, 2) := by decide +kernel
theorem dX11_init_39 : decode cX11_init 39 = .ok (.newarray .int, 2) := by decide +kernel
theorem dX11_init_41 : decode cX11_init 41 = .ok (.putfield 24, 3) := by decide +kernel
theorem dX11_init_44 : decode cX11_init 44 = .ok (.aload_n 0, 1) := by decide +kernel
theorem dX11_init_45 : decode cX11_init 45 = .ok (.bipush 8, 2) := by decide +kernel
theorem dX11_init_47 : decode cX11_init 47 = .ok (.newarray .int, 2) := by decide +kernel
theorem dX11_init_49 : decode cX11_init 49 = .ok (.putfield 27, 3) := by decide +kernel
theorem dX11_init_52 : decode cX11_init 52 = .ok (.aload_n 0, 1) := by decide +kernel
theorem dX11_init_53 : decode cX11_init 53 = .ok (.bipush 8, 2) := by decide +kernel
theorem dX11_init_55 : decode cX11_init 55 = .ok (.newarray .int, 2) := by decide +kernel
theorem dX11_init_57 : decode cX11_init 57 = .ok (.putfield 30, 3) := by decide +kernel
theorem dX11_init_60 : decode cX11_init 60 = .ok (.aload_n 0, 1) := by decide +kernel
theorem dX11_init_61 : decode cX11_init 61 = .ok (.sipush 2048, 3) := by decide +kernel
theorem dX11_init_64 : decode cX11_init 64 = .ok (.newarray .int, 2) := by decide +kernel
theorem dX11_init_66 : decode cX11_init 66 = .ok (.putfield 33, 3) := by decide +kernel
theorem dX11_init_69 : decode cX11_init 69 = .ok (.aload_n 0, 1) := by decide +kernel
theorem dX11_init_70 : decode cX11_init 70 = .ok (.bipush 8, 2) := by decide +kernel
theorem dX11_init_72 : decode cX11_init 72 = .ok (.newarray .int, 2) := by decide +kernel
theorem dX11_init_74 : decode cX11_init 74 = .ok (.putfield 36, 3) := by decide +kernel
theorem dX11_init_77 : decode cX11_init 77 = .ok (.aload_n 0, 1) := by decide +kernel
theorem dX11_init_78 : decode cX11_init 78 = .ok (.bipush 8, 2) := by decide +kernel
theorem dX11_init_80 : decode cX11_init 80 = .ok (.newarray .int, 2) := by decide +kernel
theorem dX11_init_82 : decode cX11_init 82 = .ok (.putfield 39, 3) := by decide +kernel
theorem dX11_init_85 : decode cX11_init 85 = .ok (.aload_n 0, 1) := by decide +kernel
theorem dX11_init_86 : decode cX11_init 86 = .ok (.bipush 8, 2) := by decide +kernel
theorem dX11_init_88 : decode cX11_init 88 = .ok (.newarray .int, 2) := by decide +kernel
theorem dX11_init_90 : decode cX11_init 90 = .ok (.putfield 42, 3) := by decide +kernel
theorem dX11_init_93 : decode cX11_init 93 = .ok (.aload_n 0, 1) := by decide +kernel
theorem dX11_init_94 : decode cX11_init 94 = .ok (.ldc 45, 2) := by decide +kernel
theorem dX11_init_96 : decode cX11_init 96 = .ok (.newarray .int, 2) := by decide +kernel
theorem dX11_init_98 : decode cX11_init 98 = .ok (.putfield 46, 3) := by decide +kernel
theorem dX11_init_101 : decode cX11_init 101 = .ok (.aload_n 0, 1) := by decide +kernel
theorem dX11_init_102 : decode cX11_init 102 = .ok (.ldc 45, 2) := by decide +kernel
theorem dX11_init_104 : decode cX11_init 104 = .ok (.newarray .int, 2) := by decide +kernel
theorem dX11_init_106 : decode cX11_init 106 = .ok (.putfield 49, 3) := by decide +kernel
theorem dX11_init_109 : decode cX11_init 109 = .ok (.aload_n 0, 1) := by decide +kernel
theorem dX11_init_110 : decode cX11_init 110 = .ok (.ldc 45, 2) := by decide +kernel
theorem dX11_init_112 : decode cX11_init 112 = .ok (.newarray .int, 2) := by decide +kernel
theorem dX11_init_114 : decode cX11_init 114 = .ok (.putfield 52, 3) := by decide +kernel
theorem dX11_init_117 : decode cX11_init 117 = .ok (.aload_n 0, 1) := by decide +kernel
theorem dX11_init_118 : decode cX11_init 118 = .ok (.ldc 45, 2) := by decide +kernel
theorem dX11_init_120 : decode cX11_init 120 = .ok (.newarray .int, 2) := by decide +kernel
theorem dX11_init_122 : decode cX11_init 122 = .ok (.putfield 55, 3) := by decide +kernel
theorem dX11_init_125 : decode cX11_init 125 = .ok (.aload_n 0, 1) := by decide +kernel
theorem dX11_init_126 : decode cX11_init 126 = .ok (.iconst (-1), 1) := by decide +kernel
theorem dX11_init_127 : decode cX11_init 127 = .ok (.putfield 58, 3) := by decide +kernel
theorem dX11_init_130 : decode cX11_init 130 = .ok (.aload_n 0, 1) := by decide +kernel
theorem dX11_init_131 : decode cX11_init 131 = .ok (.bipush 8, 2) := by decide +kernel
theorem dX11_init_133 : decode cX11_init 133 = .ok (.newarray .boolean, 2) := by decide +kernel
theorem dX11_init_135 : decode cX11_init 135 = .ok (.putfield 62, 3) := by decide +kernel
theorem dX11_init_138 : decode cX11_init 138 = .ok (.aload_n 0, 1) := by decide +kernel
theorem dX11_init_139 : decode cX11_init 139 = .ok (.bipush 8, 2) := by decide +kernel
theorem dX11_init_141 : decode cX11_init 141 = .ok (.newarray .int, 2) := by decide +kernel
theorem dX11_init_143 : decode cX11_init 143 = .ok (.putfield 65, 3) := by decide +kernel
theorem dX11_init_146 : decode cX11_init 146 = .ok (.aload_n 0, 1) := by decide +kernel
theorem dX11_init_147 : decode cX11_init 147 = .ok (.bipush 8, 2) := by decide +kernel
theorem dX11_init_149 : decode cX11_init 149 = .ok (.newarray .int, 2) := by decide +kernel
theorem dX11_init_151 : decode cX11_init 151 = .ok (.putfield 68, 3) := by decide +kernel
theorem dX11_init_154 : decode cX11_init 154 = .ok (.aload_n 0, 1) := by decide +kernel
theorem dX11_init_155 : decode cX11_init 155 = .ok (.bipush 8, 2) := by decide +kernel
theorem dX11_init_157 : decode cX11_init 157 = .ok (.newarray .int, 2) := by decide +kernel
theorem dX11_init_159 : decode cX11_init 159 = .ok (.putfield 71, 3) := by decide +kernel
theorem dX11_init_162 : decode cX11_init 162 = .ok (.aload_n 0, 1) := by decide +kernel
theorem dX11_init_163 : decode cX11_init 163 = .ok (.bipush 8, 2) := by decide +kernel
theorem dX11_init_165 : decode cX11_init 165 = .ok (.newarray .int, 2) := by decide +kernel
theorem dX11_init_167 : decode cX11_init 167 = .ok (.putfield 74, 3) := by decide +kernel
theorem dX11_init_170 : decode cX11_init 170 = .ok (.aload_n 0, 1) := by decide +kernel
theorem dX11_init_171 : decode cX11_init 171 = .ok (.bipush 8, 2) := by decide +kernel
theorem dX11_init_173 : decode cX11_init 173 = .ok (.newarray .int, 2) := by decide +kernel
theorem dX11_init_175 : decode cX11_init 175 = .ok (.putfield 77, 3) := by decide +kernel
theorem dX11_init_178 : decode cX11_init 178 = .ok (.aload_n 0, 1) := by decide +kernel
theorem dX11_init_179 : decode cX11_init 179 = .ok (.bipush 8, 2) := by decide +kernel
theorem dX11_init_181 : decode cX11_init 181 = .ok (.newarray .int, 2) := by decide +kernel
theorem dX11_init_183 : decode cX11_init 183 = .ok (.putfield 80, 3) := by decide +kernel
theorem dX11_init_186 : decode cX11_init 186 = .ok (.aload_n 0, 1) := by decide +kernel
theorem dX11_init_187 : decode cX11_init 187 = .ok (.sipush 14280, 3) := by decide +kernel
theorem dX11_init_190 : decode cX11_init 190 = .ok (.newarray .int, 2) := by decide +kernel
theorem dX11_init_192 : decode cX11_init 192 = .ok (.putfield 83, 3) := by decide +kernel
theorem dX11_init_195 : decode cX11_init 195 = .ok (.aload_n 0, 1) := by decide +kernel
theorem dX11_init_196 : decode cX11_init 196 = .ok (.sipush 320, 3) := by decide +kernel
theorem dX11_init_199 : decode cX11_init 199 = .ok (.newarray .int, 2) := by decide +kernel
theorem dX11_init_201 : decode cX11_init 201 = .ok (.putfield 86, 3) := by decide +kernel
theorem dX11_init_204 : decode cX11_init 204 = .ok (.aload_n 0, 1) := by decide +kernel
theorem dX11_init_205 : decode cX11_init 205 = .ok (.sipush 320, 3) := by decide +kernel
theorem dX11_init_208 : decode cX11_init 208 = .ok (.newarray .boolean, 2) := by decide +kernel
theorem dX11_init_210 : decode cX11_init 210 = .ok (.putfield 89, 3) := by decide +kernel
theorem dX11_init_213 : decode cX11_init 213 = .ok (.aload_n 0, 1) := by decide +kernel
theorem dX11_init_214 : decode cX11_init 214 = .ok (.sipush 320, 3) := by decide +kernel
theorem dX11_init_217 : decode cX11_init 217 = .ok (.newarray .int, 2) := by decide +kernel
theorem dX11_init_219 : decode cX11_init 219 = .ok (.putfield 92, 3) := by decide +kernel
theorem dX11_init_222 : decode cX11_init 222 = .ok (.aload_n 0, 1) := by decide +kernel
theorem dX11_init_223 : decode cX11_init 223 = .ok (.sipush 320, 3) := by decide +kernel
theorem dX11_init_226 : decode cX11_init 226 = .ok (.newarray .int, 2) := by decide +kernel
theorem dX11_init_228 : decode cX11_init 228 = .ok (.putfield 95, 3) := by decide +kernel
theorem dX11_init_231 : decode cX11_init 231 = .ok (.aload_n 0, 1) := by decide +kernel
theorem dX11_init_232 : decode cX11_init 232 = .ok (.sipush 320, 3) := by decide +kernel
theorem dX11_init_235 : decode cX11_init 235 = .ok (.newarray .int, 2) := by decide +kernel
theorem dX11_init_237 : decode cX11_init 237 = .ok (.putfield 98, 3) := by decide +kernel
theorem dX11_init_240 : decode cX11_init 240 = .ok (.aload_n 0, 1) := by decide +kernel
theorem dX11_init_241 : decode cX11_init 241 = .ok (.sipush 320, 3) := by decide +kernel
theorem dX11_init_244 : decode cX11_init 244 = .ok (.newarray .int, 2) := by decide +kernel
theorem dX11_init_246 : decode cX11_init 246 = .ok (.putfield 101, 3) := by decide +kernel
theorem dX11_init_249 : decode cX11_init 249 = .ok (.aload_n 0, 1) := by decide +kernel
theorem dX11_init_250 : decode cX11_init 250 = .ok (.sipush 320, 3) := by decide +kernel
theorem dX11_init_253 : decode cX11_init 253 = .ok (.newarray .int, 2) := by decide +kernel
theorem dX11_init_255 : decode cX11_init 255 = .ok (.putfield 104, 3) := by decide +kernel
theorem dX11_init_258 : decode cX11_init 258 = .ok (.aload_n 0, 1) := by decide +kernel
theorem dX11_init_259 : decode cX11_init 259 = .ok (.sipush 320, 3) := by decide +kernel
theorem dX11_init_262 : decode cX11_init 262 = .ok (.newarray .int, 2) := by decide +kernel
theorem dX11_init_264 : decode cX11_init 264 = .ok (.putfield 107, 3) := by decide +kernel
theorem dX11_init_267 : decode cX11_init 267 = .ok (.aload_n 0, 1) := by decide +kernel
theorem dX11_init_268 : decode cX11_init 268 = .ok (.sipush 320, 3) := by decide +kernel
theorem dX11_init_271 : decode cX11_init 271 = .ok (.newarray .int, 2) := by decide +kernel
theorem dX11_init_273 : decode cX11_init 273 = .ok (.putfield 110, 3) := by decide +kernel
theorem dX11_init_276 : decode cX11_init 276 = .ok (.aload_n 0, 1) := by decide +kernel
theorem dX11_init_277 : decode cX11_init 277 = .ok (.sipush 320, 3) := by decide +kernel
theorem dX11_init_280 : decode cX11_init 280 = .ok (.newarray .int, 2) := by decide +kernel
theorem dX11_init_282 : decode cX11_init 282 = .ok (.putfield 113, 3) := by decide +kernel
theorem dX11_init_285 : decode cX11_init 285 = .ok (.aload_n 0, 1) := by decide +kernel
theorem dX11_init_286 : decode cX11_init 286 = .ok (.ldc 116, 2) := by decide +kernel
theorem dX11_init_288 : decode cX11_init 288 = .ok (.newarray .int, 2) := by decide +kernel
theorem dX11_init_290 : decode cX11_init 290 = .ok (.putfield 117, 3) := by decide +kernel
theorem dX11_init_293 : decode cX11_init 293 = .ok (.aload_n 0, 1) := by decide +kernel
theorem dX11_init_294 : decode cX11_init 294 = .ok (.bipush 8, 2) := by decide +kernel
theorem dX11_init_296 : decode cX11_init 296 = .ok (.newarray .int, 2) := by decide +kernel
theorem dX11_init_298 : decode cX11_init 298 = .ok (.putfield 120, 3) := by decide +kernel
theorem dX11_init_301 : decode cX11_init 301 = .ok (.aload_n 0, 1) := by decide +kernel
theorem dX11_init_302 : decode cX11_init 302 = .ok (.sipush 640, 3) := by decide +kernel
theorem dX11_init_305 : decode cX11_init 305 = .ok (.newarray .int, 2) := by decide +kernel
theorem dX11_init_307 : decode cX11_init 307 = .ok (.putfield 123, 3) := by decide +kernel
theorem dX11_init_310 : decode cX11_init 310 = .ok (.aload_n 0, 1) := by decide +kernel
theorem dX11_init_311 : decode cX11_init 311 = .ok (.bipush 8, 2) := by decide +kernel
theorem dX11_init_313 : decode cX11_init 313 = .ok (.newarray .int, 2) := by decide +kernel
theorem dX11_init_315 : decode cX11_init 315 = .ok (.putfield 126, 3) := by decide +kernel
theorem dX11_init_318 : decode cX11_init 318 = .ok (.aload_n 0, 1) := by decide +kernel
theorem dX11_init_319 : decode cX11_init 319 = .ok (.bipush 8, 2) := by decide +kernel
theorem dX11_init_321 : decode cX11_init 321 = .ok (.newarray .int, 2) := by decide +kernel
theorem dX11_init_323 : decode cX11_init 323 = .ok (.putfield 129, 3) := by decide +kernel
theorem dX11_init_326 : decode cX11_init 326 = .ok (.aload_n 0, 1) := by decide +kernel
theorem dX11_init_327 : decode cX11_init 327 = .ok (.bipush 8, 2) := by decide +kernel
theorem dX11_init_329 : decode cX11_init 329 = .ok (.newarray .int, 2) := by decide +kernel
theorem dX11_init_331 : decode cX11_init 331 = .ok (.putfield 132, 3) := by decide +kernel
theorem dX11_init_334 : decode cX11_init 334 = .ok (.aload_n 0, 1) := by decide +kernel
theorem dX11_init_335 : decode cX11_init 335 = .ok (.sipush 240, 3) := by decide +kernel
theorem dX11_init_338 : decode cX11_init 338 = .ok (.newarray .int, 2) := by decide +kernel
theorem dX11_init_340 : decode cX11_init 340 = .ok (.putfield 135, 3) := by decide +kernel
theorem dX11_init_343 : decode cX11_init 343 = .ok (.aload_n 0, 1) := by decide +kernel
theorem dX11_init_344 : decode cX11_init 344 = .ok (.sipush 2048, 3) := by decide +kernel
theorem dX11_init_347 : decode cX11_init 347 = .ok (.newarray .int, 2) := by decide +kernel
theorem dX11_init_349 : decode cX11_init 349 = .ok (.putfield 138, 3) := by decide +kernel
theorem dX11_init_352 : decode cX11_init 352 = .ok (.aload_n 0, 1) := by decide +kernel
theorem dX11_init_353 : decode cX11_init 353 = .ok (.ldc 141, 2) := by decide +kernel
theorem dX11_init_355 : decode cX11_init 355 = .ok (.newarray .int, 2) := by decide +kernel
theorem dX11_init_357 : decode cX11_init 357 = .ok (.putfield 142, 3) := by decide +kernel
theorem dX11_init_360 : decode cX11_init 360 = .ok (.aload_n 0, 1) := by decide +kernel
theorem dX11_init_361 : decode cX11_init 361 = .ok (.iconst (-1), 1) := by decide +kernel
theorem dX11_init_362 : decode cX11_init 362 = .ok (.putfield 145, 3) := by decide +kernel
theorem dX11_init_365 : decode cX11_init 365 = .ok (.aload_n 0, 1) := by decide +kernel
theorem dX11_init_366 : decode cX11_init 366 = .ok (.sipush 4200, 3) := by decide +kernel
theorem dX11_init_369 : decode cX11_init 369 = .ok (.newarray .int, 2) := by decide +kernel
theorem dX11_init_371 : decode cX11_init 371 = .ok (.putfield 148, 3) := by decide +kernel
theorem dX11_init_374 : decode cX11_init 374 = .ok (.aload_n 0, 1) := by decide +kernel
theorem dX11_init_375 : decode cX11_init 375 = .ok (.sipush 4200, 3) := by decide +kernel
theorem dX11_init_378 : decode cX11_init 378 = .ok (.newarray .int, 2) := by decide +kernel
theorem dX11_init_380 : decode cX11_init 380 = .ok (.putfield 151, 3) := by decide +kernel
theorem dX11_init_383 : decode cX11_init 383 = .ok (.aload_n 0, 1) := by decide +kernel
theorem dX11_init_384 : decode cX11_init 384 = .ok (.sipush 4200, 3) := by decide +kernel
theorem dX11_init_387 : decode cX11_init 387 = .ok (.newarray .int, 2) := by decide +kernel
theorem dX11_init_389 : decode cX11_init 389 = .ok (.putfield 154, 3) := by decide +kernel
theorem dX11_init_392 : decode cX11_init 392 = .ok (.aload_n 0, 1) := by decide +kernel
theorem dX11_init_393 : decode cX11_init 393 = .ok (.sipush 4200, 3) := by decide +kernel
theorem dX11_init_396 : decode cX11_init 396 = .ok (.newarray .int, 2) := by decide +kernel
theorem dX11_init_398 : decode cX11_init 398 = .ok (.putfield 157, 3) := by decide +kernel
theorem dX11_init_401 : decode cX11_init 401 = .ok (.aload_n 0, 1) := by decide +kernel
theorem dX11_init_402 : decode cX11_init 402 = .ok (.bipush 8, 2) := by decide +kernel
theorem dX11_init_404 : decode cX11_init 404 = .ok (.newarray .int, 2) := by decide +kernel
theorem dX11_init_406 : decode cX11_init 406 = .ok (.putfield 160, 3) := by decide +kernel
theorem dX11_init_409 : decode cX11_init 409 = .ok (.aload_n 0, 1) := by decide +kernel
theorem dX11_init_410 : decode cX11_init 410 = .ok (.ldc 45, 2) := by decide +kernel
theorem dX11_init_412 : decode cX11_init 412 = .ok (.newarray .int, 2) := by decide +kernel
theorem dX11_init_414 : decode cX11_init 414 = .ok (.putfield 163, 3) := by decide +kernel
theorem dX11_init_417 : decode cX11_init 417 = .ok (.aload_n 0, 1) := by decide +kernel
theorem dX11_init_418 : decode cX11_init 418 = .ok (.sipush 320, 3) := by decide +kernel
theorem dX11_init_421 : decode cX11_init 421 = .ok (.newarray .int, 2) := by decide +kernel
theorem dX11_init_423 : decode cX11_init 423 = .ok (.putfield 166, 3) := by decide +kernel
theorem dX11_init_426 : decode cX11_init 426 = .ok (.aload_n 0, 1) := by decide +kernel
theorem dX11_init_427 : decode cX11_init 427 = .ok (.bipush 8, 2) := by decide +kernel
theorem dX11_init_429 : decode cX11_init 429 = .ok (.newarray .int, 2) := by decide +kernel
theorem dX11_init_431 : decode cX11_init 431 = .ok (.putfield 169, 3) := by decide +kernel
theorem dX11_init_434 : decode cX11_init 434 = .ok (.iconst 0, 1) := by decide +kernel
theorem dX11_init_435 : decode cX11_init 435 = .ok (.istore_n 1, 1) := by decide +kernel
theorem dX11_init_436 : decode cX11_init 436 = .ok (.iload_n 1, 1) := by decide +kernel
theorem dX11_init_437 : decode cX11_init 437 = .ok (.sipush 2048, 3) := by decide +kernel
theorem dX11_init_440 : decode cX11_init 440 = .ok (.if_icmp .ge 23, 3) := by decide +kernel
theorem dX11_init_443 : decode cX11_init 443 = .ok (.aload_n 0, 1) := by decide +kernel
theorem dX11_init_444 : decode cX11_init 444 = .ok (.getfield 33, 3) := by decide +kernel
theorem dX11_init_447 : decode cX11_init 447 = .ok (.iload_n 1, 1) := by decide +kernel
theorem dX11_init_448 : decode cX11_init 448 = .ok (.iconst (-1), 1) := by decide +kernel
theorem dX11_init_449 : decode cX11_init 449 = .ok (.iastore, 1) := by decide +kernel
theorem dX11_init_450 : decode cX11_init 450 = .ok (.aload_n 0, 1) := by decide +kernel
theorem dX11_init_451 : decode cX11_init 451 = .ok (.getfield 138, 3) := by decide +kernel
theorem dX11_init_454 : decode cX11_init 454 = .ok (.iload_n 1, 1) := by decide +kernel
theorem dX11_init_455 : decode cX11_init 455 = .ok (.iconst (-1), 1) := by decide +kernel
theorem dX11_init_456 : decode cX11_init 456 = .ok (.iastore, 1) := by decide +kernel
theorem dX11_init_457 : decode cX11_init 457 = .ok (.iinc 1 1, 3) := by decide +kernel
theorem dX11_init_460 : decode cX11_init 460 = .ok (.goto (-24), 3) := by decide +kernel
theorem dX11_init_463 : decode cX11_init 463 = .ok (.iconst 0, 1) := by decide +kernel
theorem dX11_init_464 : decode cX11_init 464 = .ok (.istore_n 1, 1) := by decide +kernel
theorem dX11_init_465 : decode cX11_init 465 = .ok (.iload_n 1, 1) := by decide +kernel
theorem dX11_init_466 : decode cX11_init 466 = .ok (.sipush 320, 3) := by decide +kernel
theorem dX11_init_469 : decode cX11_init 469 = .ok (.if_icmp .ge 16, 3) := by decide +kernel
theorem dX11_init_472 : decode cX11_init 472 = .ok (.aload_n 0, 1) := by decide +kernel
theorem dX11_init_473 : decode cX11_init 473 = .ok (.getfield 86, 3) := by decide +kernel
theorem dX11_init_476 : decode cX11_init 476 = .ok (.iload_n 1, 1) := by decide +kernel
theorem dX11_init_477 : decode cX11_init 477 = .ok (.iconst (-1), 1) := by decide +kernel
theorem dX11_init_478 : decode cX11_init 478 = .ok (.iastore, 1) := by decide +kernel
theorem dX11_init_479 : decode cX11_init 479 = .ok (.iinc 1 1, 3) := by decide +kernel
theorem dX11_init_482 : decode cX11_init 482 = .ok (.goto (-17), 3) := by decide +kernel
theorem dX11_init_485 : decode cX11_init 485 = .ok (.return_, 1) := by decide +kernel
theorem dX11_in_0 : decode cX11_in 0 = .ok (.iload_n 0, 1) := by decide +kernel
theorem dX11_in_1 : decode cX11_in 1 = .ok (.iload_n 1, 1) := by decide +kernel
theorem dX11_in_2 : decode cX11_in 2 = .ok (.if_icmp .lt 12, 3) := by decide +kernel
theorem dX11_in_5 : decode cX11_in 5 = .ok (.iload_n 0, 1) := by decide +kernel
theorem dX11_in_6 : decode cX11_in 6 = .ok (.iload_n 2, 1) := by decide +kernel
theorem dX11_in_7 : decode cX11_in 7 = .ok (.if_icmp .gt 7, 3) := by decide +kernel
theorem dX11_in_10 : decode cX11_in 10 = .ok (.iconst 1, 1) := by decide +kernel
theorem dX11_in_11 : decode cX11_in 11 = .ok (.goto 4, 3) := by decide +kernel
theorem dX11_in_14 : decode cX11_in 14 = .ok (.iconst 0, 1) := by decide +kernel
theorem dX11_in_15 : decode cX11_in 15 = .ok (.ireturn, 1) := by decide +kernel
theorem dX11_isNode_0 : decode cX11_isNode 0 = .ok (.iload_n 1, 1) := by decide +kernel
theorem dX11_isNode_1 : decode cX11_isNode 1 = .ok (.iconst 0, 1) := by decide +kernel
theorem dX11_isNode_2 : decode cX11_isNode 2 = .ok (.aload_n 0, 1) := by decide +kernel
theorem dX11_isNode_3 : decode cX11_isNode 3 = .ok (.getfield 172, 3) := by decide +kernel
theorem dX11_isNode_6 : decode cX11_isNode 6 = .ok (.iconst 1, 1) := by decide +kernel
theorem dX11_isNode_7 : decode cX11_isNode 7 = .ok (.isub, 1) := by decide +kernel
theorem dX11_isNode_8 : decode cX11_isNode 8 = .ok (.invokestatic 175, 3) := by decide +kernel
theorem dX11_isNode_11 : decode cX11_isNode 11 = .ok (.ireturn, 1) := by decide +kernel
theorem dX11_node_0 : decode cX11_node 0 = .ok (.iload_n 1, 1) := by decide +kernel
theorem dX11_node_1 : decode cX11_node 1 = .ok (.i2l, 1) := by decide +kernel
theorem dX11_node_2 : decode cX11_node 2 = .ok (.bipush 32, 2) := by decide +kernel
theorem dX11_node_4 : decode cX11_node 4 = .ok (.lshl, 1) := by decide +kernel
theorem dX11_node_5 : decode cX11_node 5 = .ok (.iload_n 2, 1) := by decide +kernel
theorem dX11_node_6 : decode cX11_node 6 = .ok (.i2l, 1) := by decide +kernel
theorem dX11_node_7 : decode cX11_node 7 = .ok (.ldc2_w 201, 3) := by decide +kernel
theorem dX11_node_10 : decode cX11_node 10 = .ok (.land, 1) := by decide +kernel
theorem dX11_node_11 : decode cX11_node 11 = .ok (.lor, 1) := by decide +kernel
theorem dX11_node_12 : decode cX11_node 12 = .ok (.lstore 6, 2) := by decide +kernel
theorem dX11_node_14 : decode cX11_node 14 = .ok (.iconst 0, 1) := by decide +kernel
theorem dX11_node_15 : decode cX11_node 15 = .ok (.istore 8, 2) := by decide +kernel
theorem dX11_node_17 : decode cX11_node 17 = .ok (.iconst 0, 1) := by decide +kernel
theorem dX11_node_18 : decode cX11_node 18 = .ok (.istore 9, 2) := by decide +kernel
theorem dX11_node_20 : decode cX11_node 20 = .ok (.iload 9, 2) := by decide +kernel
theorem dX11_node_22 : decode cX11_node 22 = .ok (.aload_n 0, 1) := by decide +kernel
theorem dX11_node_23 : decode cX11_node 23 = .ok (.getfield 172, 3) := by decide +kernel
theorem dX11_node_26 : decode cX11_node 26 = .ok (.if_icmp .ge 34, 3) := by decide +kernel
theorem dX11_node_29 : decode cX11_node 29 = .ok (.iload 8, 2) := by decide +kernel
theorem dX11_node_31 : decode cX11_node 31 = .ok (.ifCond .ne 16, 3) := by decide +kernel
theorem dX11_node_34 : decode cX11_node 34 = .ok (.aload_n 0, 1) := by decide +kernel
theorem dX11_node_35 : decode cX11_node 35 = .ok (.getfield 7, 3) := by decide +kernel
theorem dX11_node_38 : decode cX11_node 38 = .ok (.iload 9, 2) := by decide +kernel
theorem dX11_node_40 : decode cX11_node 40 = .ok (.laload, 1) := by decide +kernel
theorem dX11_node_41 : decode cX11_node 41 = .ok (.lload 6, 2) := by decide +kernel
theorem dX11_node_43 : decode cX11_node 43 = .ok (.lcmp, 1) := by decide +kernel
theorem dX11_node_44 : decode cX11_node 44 = .ok (.ifCond .ne 7, 3) := by decide +kernel
theorem dX11_node_47 : decode cX11_node 47 = .ok (.iconst 1, 1) := by decide +kernel
end
section
theorem dX11_node_48 : decode cX11_node 48 = .ok (.goto 4, 3) := by decide +kernel
theorem dX11_node_51 : decode cX11_node 51 = .ok (.iconst 0, 1) := by decide +kernel
theorem dX11_node_52 : decode cX11_node 52 = .ok (.istore 8, 2) := by decide +kernel
theorem dX11_node_54 : decode cX11_node 54 = .ok (.iinc 9 1, 3) := by decide +kernel
theorem dX11_node_57 : decode cX11_node 57 = .ok (.goto (-37), 3) := by decide +kernel
theorem dX11_node_60 : decode cX11_node 60 = .ok (.iload_n 3, 1) := by decide +kernel
theorem dX11_node_61 : decode cX11_node 61 = .ok (.iconst 0, 1) := by decide +kernel
theorem dX11_node_62 : decode cX11_node 62 = .ok (.sipush 247, 3) := by decide +kernel
theorem dX11_node_65 : decode cX11_node 65 = .ok (.invokestatic 175, 3) := by decide +kernel
theorem dX11_node_68 : decode cX11_node 68 = .ok (.ifCond .eq 28, 3) := by decide +kernel
theorem dX11_node_71 : decode cX11_node 71 = .ok (.iload 5, 2) := by decide +kernel
theorem dX11_node_73 : decode cX11_node 73 = .ok (.iconst 1, 1) := by decide +kernel
theorem dX11_node_74 : decode cX11_node 74 = .ok (.bipush 16, 2) := by decide +kernel
theorem dX11_node_76 : decode cX11_node 76 = .ok (.invokestatic 175, 3) := by decide +kernel
theorem dX11_node_79 : decode cX11_node 79 = .ok (.ifCond .eq 17, 3) := by decide +kernel
theorem dX11_node_82 : decode cX11_node 82 = .ok (.iload 8, 2) := by decide +kernel
theorem dX11_node_84 : decode cX11_node 84 = .ok (.ifCond .ne 12, 3) := by decide +kernel
theorem dX11_node_87 : decode cX11_node 87 = .ok (.aload_n 0, 1) := by decide +kernel
theorem dX11_node_88 : decode cX11_node 88 = .ok (.getfield 172, 3) := by decide +kernel
theorem dX11_node_91 : decode cX11_node 91 = .ok (.bipush 8, 2) := by decide +kernel
theorem dX11_node_93 : decode cX11_node 93 = .ok (.if_icmp .ne 5, 3) := by decide +kernel
theorem dX11_node_96 : decode cX11_node 96 = .ok (.iconst (-1), 1) := by decide +kernel
theorem dX11_node_97 : decode cX11_node 97 = .ok (.ireturn, 1) := by decide +kernel
theorem dX11_node_98 : decode cX11_node 98 = .ok (.aload_n 0, 1) := by decide +kernel
theorem dX11_node_99 : decode cX11_node 99 = .ok (.getfield 7, 3) := by decide +kernel
theorem dX11_node_102 : decode cX11_node 102 = .ok (.aload_n 0, 1) := by decide +kernel
theorem dX11_node_103 : decode cX11_node 103 = .ok (.getfield 172, 3) := by decide +kernel
theorem dX11_node_106 : decode cX11_node 106 = .ok (.lload 6, 2) := by decide +kernel
theorem dX11_node_108 : decode cX11_node 108 = .ok (.lastore, 1) := by decide +kernel
theorem dX11_node_109 : decode cX11_node 109 = .ok (.aload_n 0, 1) := by decide +kernel
theorem dX11_node_110 : decode cX11_node 110 = .ok (.getfield 13, 3) := by decide +kernel
theorem dX11_node_113 : decode cX11_node 113 = .ok (.aload_n 0, 1) := by decide +kernel
theorem dX11_node_114 : decode cX11_node 114 = .ok (.getfield 172, 3) := by decide +kernel
theorem dX11_node_117 : decode cX11_node 117 = .ok (.iload_n 3, 1) := by decide +kernel
theorem dX11_node_118 : decode cX11_node 118 = .ok (.iastore, 1) := by decide +kernel
theorem dX11_node_119 : decode cX11_node 119 = .ok (.aload_n 0, 1) := by decide +kernel
theorem dX11_node_120 : decode cX11_node 120 = .ok (.getfield 17, 3) := by decide +kernel
theorem dX11_node_123 : decode cX11_node 123 = .ok (.aload_n 0, 1) := by decide +kernel
theorem dX11_node_124 : decode cX11_node 124 = .ok (.getfield 172, 3) := by decide +kernel
theorem dX11_node_127 : decode cX11_node 127 = .ok (.iload_n 3, 1) := by decide +kernel
theorem dX11_node_128 : decode cX11_node 128 = .ok (.iastore, 1) := by decide +kernel
theorem dX11_node_129 : decode cX11_node 129 = .ok (.aload_n 0, 1) := by decide +kernel
theorem dX11_node_130 : decode cX11_node 130 = .ok (.getfield 20, 3) := by decide +kernel
theorem dX11_node_133 : decode cX11_node 133 = .ok (.aload_n 0, 1) := by decide +kernel
theorem dX11_node_134 : decode cX11_node 134 = .ok (.getfield 172, 3) := by decide +kernel
theorem dX11_node_137 : decode cX11_node 137 = .ok (.iload 4, 2) := by decide +kernel
theorem dX11_node_139 : decode cX11_node 139 = .ok (.bastore, 1) := by decide +kernel
theorem dX11_node_140 : decode cX11_node 140 = .ok (.aload_n 0, 1) := by decide +kernel
theorem dX11_node_141 : decode cX11_node 141 = .ok (.getfield 24, 3) := by decide +kernel
theorem dX11_node_144 : decode cX11_node 144 = .ok (.aload_n 0, 1) := by decide +kernel
theorem dX11_node_145 : decode cX11_node 145 = .ok (.getfield 172, 3) := by decide +kernel
theorem dX11_node_148 : decode cX11_node 148 = .ok (.iload 5, 2) := by decide +kernel
theorem dX11_node_150 : decode cX11_node 150 = .ok (.iastore, 1) := by decide +kernel
theorem dX11_node_151 : decode cX11_node 151 = .ok (.aload_n 0, 1) := by decide +kernel
theorem dX11_node_152 : decode cX11_node 152 = .ok (.dup, 1) := by decide +kernel
theorem dX11_node_153 : decode cX11_node 153 = .ok (.getfield 172, 3) := by decide +kernel
theorem dX11_node_156 : decode cX11_node 156 = .ok (.iconst 1, 1) := by decide +kernel
theorem dX11_node_157 : decode cX11_node 157 = .ok (.iadd, 1) := by decide +kernel
theorem dX11_node_158 : decode cX11_node 158 = .ok (.putfield 172, 3) := by decide +kernel
theorem dX11_node_161 : decode cX11_node 161 = .ok (.aload_n 0, 1) := by decide +kernel
theorem dX11_node_162 : decode cX11_node 162 = .ok (.getfield 172, 3) := by decide +kernel
theorem dX11_node_165 : decode cX11_node 165 = .ok (.iconst 1, 1) := by decide +kernel
theorem dX11_node_166 : decode cX11_node 166 = .ok (.isub, 1) := by decide +kernel
theorem dX11_node_167 : decode cX11_node 167 = .ok (.ireturn, 1) := by decide +kernel
theorem dX11_start_0 : decode cX11_start 0 = .ok (.aload_n 0, 1) := by decide +kernel
theorem dX11_start_1 : decode cX11_start 1 = .ok (.iload_n 1, 1) := by decide +kernel
theorem dX11_start_2 : decode cX11_start 2 = .ok (.invokevirtual 203, 3) := by decide +kernel
theorem dX11_start_5 : decode cX11_start 5 = .ok (.ifCond .eq 12, 3) := by decide +kernel
theorem dX11_start_8 : decode cX11_start 8 = .ok (.aload_n 0, 1) := by decide +kernel
theorem dX11_start_9 : decode cX11_start 9 = .ok (.getfield 27, 3) := by decide +kernel
theorem dX11_start_12 : decode cX11_start 12 = .ok (.iload_n 1, 1) := by decide +kernel
theorem dX11_start_13 : decode cX11_start 13 = .ok (.iaload, 1) := by decide +kernel
theorem dX11_start_14 : decode cX11_start 14 = .ok (.ifCond .eq 5, 3) := by decide +kernel
theorem dX11_start_17 : decode cX11_start 17 = .ok (.iconst 0, 1) := by decide +kernel
theorem dX11_start_18 : decode cX11_start 18 = .ok (.ireturn, 1) := by decide +kernel
theorem dX11_start_19 : decode cX11_start 19 = .ok (.aload_n 0, 1) := by decide +kernel
theorem dX11_start_20 : decode cX11_start 20 = .ok (.getfield 27, 3) := by decide +kernel
theorem dX11_start_23 : decode cX11_start 23 = .ok (.iload_n 1, 1) := by decide +kernel
theorem dX11_start_24 : decode cX11_start 24 = .ok (.iconst 1, 1) := by decide +kernel
theorem dX11_start_25 : decode cX11_start 25 = .ok (.iastore, 1) := by decide +kernel
theorem dX11_start_26 : decode cX11_start 26 = .ok (.aload_n 0, 1) := by decide +kernel
theorem dX11_start_27 : decode cX11_start 27 = .ok (.getfield 17, 3) := by decide +kernel
theorem dX11_start_30 : decode cX11_start 30 = .ok (.iload_n 1, 1) := by decide +kernel
theorem dX11_start_31 : decode cX11_start 31 = .ok (.aload_n 0, 1) := by decide +kernel
theorem dX11_start_32 : decode cX11_start 32 = .ok (.getfield 13, 3) := by decide +kernel
theorem dX11_start_35 : decode cX11_start 35 = .ok (.iload_n 1, 1) := by decide +kernel
theorem dX11_start_36 : decode cX11_start 36 = .ok (.iaload, 1) := by decide +kernel
theorem dX11_start_37 : decode cX11_start 37 = .ok (.iastore, 1) := by decide +kernel
theorem dX11_start_38 : decode cX11_start 38 = .ok (.aload_n 0, 1) := by decide +kernel
theorem dX11_start_39 : decode cX11_start 39 = .ok (.getfield 30, 3) := by decide +kernel
theorem dX11_start_42 : decode cX11_start 42 = .ok (.iload_n 1, 1) := by decide +kernel
theorem dX11_start_43 : decode cX11_start 43 = .ok (.iconst (-1), 1) := by decide +kernel
theorem dX11_start_44 : decode cX11_start 44 = .ok (.iastore, 1) := by decide +kernel
theorem dX11_start_45 : decode cX11_start 45 = .ok (.aload_n 0, 1) := by decide +kernel
theorem dX11_start_46 : decode cX11_start 46 = .ok (.iload_n 1, 1) := by decide +kernel
theorem dX11_start_47 : decode cX11_start 47 = .ok (.invokevirtual 207, 3) := by decide +kernel
theorem dX11_start_50 : decode cX11_start 50 = .ok (.iconst 1, 1) := by decide +kernel
theorem dX11_start_51 : decode cX11_start 51 = .ok (.ireturn, 1) := by decide +kernel
theorem dX11_stop_0 : decode cX11_stop 0 = .ok (.aload_n 0, 1) := by decide +kernel
theorem dX11_stop_1 : decode cX11_stop 1 = .ok (.iload_n 1, 1) := by decide +kernel
theorem dX11_stop_2 : decode cX11_stop 2 = .ok (.invokevirtual 203, 3) := by decide +kernel
theorem dX11_stop_5 : decode cX11_stop 5 = .ok (.ifCond .eq 12, 3) := by decide +kernel
theorem dX11_stop_8 : decode cX11_stop 8 = .ok (.aload_n 0, 1) := by decide +kernel
theorem dX11_stop_9 : decode cX11_stop 9 = .ok (.getfield 27, 3) := by decide +kernel
theorem dX11_stop_12 : decode cX11_stop 12 = .ok (.iload_n 1, 1) := by decide +kernel
theorem dX11_stop_13 : decode cX11_stop 13 = .ok (.iaload, 1) := by decide +kernel
theorem dX11_stop_14 : decode cX11_stop 14 = .ok (.ifCond .ne 5, 3) := by decide +kernel
theorem dX11_stop_17 : decode cX11_stop 17 = .ok (.iconst 0, 1) := by decide +kernel
theorem dX11_stop_18 : decode cX11_stop 18 = .ok (.ireturn, 1) := by decide +kernel
theorem dX11_stop_19 : decode cX11_stop 19 = .ok (.aload_n 0, 1) := by decide +kernel
theorem dX11_stop_20 : decode cX11_stop 20 = .ok (.iload_n 1, 1) := by decide +kernel
theorem dX11_stop_21 : decode cX11_stop 21 = .ok (.invokevirtual 210, 3) := by decide +kernel
theorem dX11_stop_24 : decode cX11_stop 24 = .ok (.aload_n 0, 1) := by decide +kernel
theorem dX11_stop_25 : decode cX11_stop 25 = .ok (.getfield 27, 3) := by decide +kernel
theorem dX11_stop_28 : decode cX11_stop 28 = .ok (.iload_n 1, 1) := by decide +kernel
theorem dX11_stop_29 : decode cX11_stop 29 = .ok (.iconst 0, 1) := by decide +kernel
theorem dX11_stop_30 : decode cX11_stop 30 = .ok (.iastore, 1) := by decide +kernel
theorem dX11_stop_31 : decode cX11_stop 31 = .ok (.aload_n 0, 1) := by decide +kernel
theorem dX11_stop_32 : decode cX11_stop 32 = .ok (.getfield 17, 3) := by decide +kernel
theorem dX11_stop_35 : decode cX11_stop 35 = .ok (.iload_n 1, 1) := by decide +kernel
theorem dX11_stop_36 : decode cX11_stop 36 = .ok (.aload_n 0, 1) := by decide +kernel
theorem dX11_stop_37 : decode cX11_stop 37 = .ok (.getfield 13, 3) := by decide +kernel
theorem dX11_stop_40 : decode cX11_stop 40 = .ok (.iload_n 1, 1) := by decide +kernel
theorem dX11_stop_41 : decode cX11_stop 41 = .ok (.iaload, 1) := by decide +kernel
theorem dX11_stop_42 : decode cX11_stop 42 = .ok (.iastore, 1) := by decide +kernel
theorem dX11_stop_43 : decode cX11_stop 43 = .ok (.iconst 0, 1) := by decide +kernel
theorem dX11_stop_44 : decode cX11_stop 44 = .ok (.istore_n 2, 1) := by decide +kernel
theorem dX11_stop_45 : decode cX11_stop 45 = .ok (.iload_n 2, 1) := by decide +kernel
theorem dX11_stop_46 : decode cX11_stop 46 = .ok (.sipush 256, 3) := by decide +kernel
theorem dX11_stop_49 : decode cX11_stop 49 = .ok (.if_icmp .ge 35, 3) := by decide +kernel
theorem dX11_stop_52 : decode cX11_stop 52 = .ok (.aload_n 0, 1) := by decide +kernel
theorem dX11_stop_53 : decode cX11_stop 53 = .ok (.getfield 33, 3) := by decide +kernel
theorem dX11_stop_56 : decode cX11_stop 56 = .ok (.sipush 256, 3) := by decide +kernel
theorem dX11_stop_59 : decode cX11_stop 59 = .ok (.iload_n 1, 1) := by decide +kernel
theorem dX11_stop_60 : decode cX11_stop 60 = .ok (.imul, 1) := by decide +kernel
theorem dX11_stop_61 : decode cX11_stop 61 = .ok (.iload_n 2, 1) := by decide +kernel
theorem dX11_stop_62 : decode cX11_stop 62 = .ok (.iadd, 1) := by decide +kernel
theorem dX11_stop_63 : decode cX11_stop 63 = .ok (.iconst (-1), 1) := by decide +kernel
theorem dX11_stop_64 : decode cX11_stop 64 = .ok (.iastore, 1) := by decide +kernel
theorem dX11_stop_65 : decode cX11_stop 65 = .ok (.aload_n 0, 1) := by decide +kernel
theorem dX11_stop_66 : decode cX11_stop 66 = .ok (.getfield 138, 3) := by decide +kernel
theorem dX11_stop_69 : decode cX11_stop 69 = .ok (.sipush 256, 3) := by decide +kernel
theorem dX11_stop_72 : decode cX11_stop 72 = .ok (.iload_n 1, 1) := by decide +kernel
theorem dX11_stop_73 : decode cX11_stop 73 = .ok (.imul, 1) := by decide +kernel
theorem dX11_stop_74 : decode cX11_stop 74 = .ok (.iload_n 2, 1) := by decide +kernel
theorem dX11_stop_75 : decode cX11_stop 75 = .ok (.iadd, 1) := by decide +kernel
theorem dX11_stop_76 : decode cX11_stop 76 = .ok (.iconst (-1), 1) := by decide +kernel
theorem dX11_stop_77 : decode cX11_stop 77 = .ok (.iastore, 1) := by decide +kernel
theorem dX11_stop_78 : decode cX11_stop 78 = .ok (.iinc 2 1, 3) := by decide +kernel
theorem dX11_stop_81 : decode cX11_stop 81 = .ok (.goto (-36), 3) := by decide +kernel
theorem dX11_stop_84 : decode cX11_stop 84 = .ok (.aload_n 0, 1) := by decide +kernel
theorem dX11_stop_85 : decode cX11_stop 85 = .ok (.iconst 1, 1) := by decide +kernel
theorem dX11_stop_86 : decode cX11_stop 86 = .ok (.putfield 213, 3) := by decide +kernel
theorem dX11_stop_89 : decode cX11_stop 89 = .ok (.iconst 1, 1) := by decide +kernel
theorem dX11_stop_90 : decode cX11_stop 90 = .ok (.ireturn, 1) := by decide +kernel
theorem dX11_request_0 : decode cX11_request 0 = .ok (.aload_n 0, 1) := by decide +kernel
theorem dX11_request_1 : decode cX11_request 1 = .ok (.iload_n 1, 1) := by decide +kernel
theorem dX11_request_2 : decode cX11_request 2 = .ok (.invokevirtual 203, 3) := by decide +kernel
theorem dX11_request_5 : decode cX11_request 5 = .ok (.ifCond .eq 31, 3) := by decide +kernel
theorem dX11_request_8 : decode cX11_request 8 = .ok (.aload_n 0, 1) := by decide +kernel
theorem dX11_request_9 : decode cX11_request 9 = .ok (.getfield 27, 3) := by decide +kernel
theorem dX11_request_12 : decode cX11_request 12 = .ok (.iload_n 1, 1) := by decide +kernel
theorem dX11_request_13 : decode cX11_request 13 = .ok (.iaload, 1) := by decide +kernel
theorem dX11_request_14 : decode cX11_request 14 = .ok (.iconst 2, 1) := by decide +kernel
theorem dX11_request_15 : decode cX11_request 15 = .ok (.if_icmp .ne 21, 3) := by decide +kernel
theorem dX11_request_18 : decode cX11_request 18 = .ok (.iload_n 2, 1) := by decide +kernel
theorem dX11_request_19 : decode cX11_request 19 = .ok (.iconst 0, 1) := by decide +kernel
theorem dX11_request_20 : decode cX11_request 20 = .ok (.sipush 253, 3) := by decide +kernel
theorem dX11_request_23 : decode cX11_request 23 = .ok (.invokestatic 175, 3) := by decide +kernel
theorem dX11_request_26 : decode cX11_request 26 = .ok (.ifCond .ne 12, 3) := by decide +kernel
theorem dX11_request_29 : decode cX11_request 29 = .ok (.iload_n 2, 1) := by decide +kernel
theorem dX11_request_30 : decode cX11_request 30 = .ok (.sipush 255, 3) := by decide +kernel
theorem dX11_request_33 : decode cX11_request 33 = .ok (.if_icmp .eq 5, 3) := by decide +kernel
theorem dX11_request_36 : decode cX11_request 36 = .ok (.iconst 0, 1) := by decide +kernel
theorem dX11_request_37 : decode cX11_request 37 = .ok (.ireturn, 1) := by decide +kernel
theorem dX11_request_38 : decode cX11_request 38 = .ok (.aload_n 0, 1) := by decide +kernel
theorem dX11_request_39 : decode cX11_request 39 = .ok (.iload_n 1, 1) := by decide +kernel
theorem dX11_request_40 : decode cX11_request 40 = .ok (.bipush 7, 2) := by decide +kernel
theorem dX11_request_42 : decode cX11_request 42 = .ok (.iconst 0, 1) := by decide +kernel
theorem dX11_request_43 : decode cX11_request 43 = .ok (.sipush 234, 3) := by decide +kernel
theorem dX11_request_46 : decode cX11_request 46 = .ok (.iload_n 2, 1) := by decide +kernel
theorem dX11_request_47 : decode cX11_request 47 = .ok (.aload_n 0, 1) := by decide +kernel
theorem dX11_request_48 : decode cX11_request 48 = .ok (.getfield 17, 3) := by decide +kernel
theorem dX11_request_51 : decode cX11_request 51 = .ok (.iload_n 1, 1) := by decide +kernel
theorem dX11_request_52 : decode cX11_request 52 = .ok (.iaload, 1) := by decide +kernel
theorem dX11_request_53 : decode cX11_request 53 = .ok (.invokestatic 186, 3) := by decide +kernel
theorem dX11_request_56 : decode cX11_request 56 = .ok (.iconst 0, 1) := by decide +kernel
theorem dX11_request_57 : decode cX11_request 57 = .ok (.sipush 238, 3) := by decide +kernel
theorem dX11_request_60 : decode cX11_request 60 = .ok (.iconst 0, 1) := by decide +kernel
theorem dX11_request_61 : decode cX11_request 61 = .ok (.sipush 255, 3) := by decide +kernel
theorem dX11_request_64 : decode cX11_request 64 = .ok (.invokestatic 190, 3) := by decide +kernel
theorem dX11_request_67 : decode cX11_request 67 = .ok (.iconst (-1), 1) := by decide +kernel
theorem dX11_request_68 : decode cX11_request 68 = .ok (.invokevirtual 193, 3) := by decide +kernel
theorem dX11_request_71 : decode cX11_request 71 = .ok (.iconst 1, 1) := by decide +kernel
theorem dX11_request_72 : decode cX11_request 72 = .ok (.ireturn, 1) := by decide +kernel
theorem dX11_canSend_0 : decode cX11_canSend 0 = .ok (.aload_n 0, 1) := by decide +kernel
theorem dX11_canSend_1 : decode cX11_canSend 1 = .ok (.iload_n 1, 1) := by decide +kernel
theorem dX11_canSend_2 : decode cX11_canSend 2 = .ok (.invokevirtual 203, 3) := by decide +kernel
theorem dX11_canSend_5 : decode cX11_canSend 5 = .ok (.ifCond .eq 27, 3) := by decide +kernel
theorem dX11_canSend_8 : decode cX11_canSend 8 = .ok (.aload_n 0, 1) := by decide +kernel
theorem dX11_canSend_9 : decode cX11_canSend 9 = .ok (.getfield 27, 3) := by decide +kernel
theorem dX11_canSend_12 : decode cX11_canSend 12 = .ok (.iload_n 1, 1) := by decide +kernel
theorem dX11_canSend_13 : decode cX11_canSend 13 = .ok (.iaload, 1) := by decide +kernel
theorem dX11_canSend_14 : decode cX11_canSend 14 = .ok (.iconst 2, 1) := by decide +kernel
theorem dX11_canSend_15 : decode cX11_canSend 15 = .ok (.if_icmp .ne 17, 3) := by decide +kernel
theorem dX11_canSend_18 : decode cX11_canSend 18 = .ok (.aload_n 0, 1) := by decide +kernel
theorem dX11_canSend_19 : decode cX11_canSend 19 = .ok (.getfield 65, 3) := by decide +kernel
theorem dX11_canSend_22 : decode cX11_canSend 22 = .ok (.iload_n 1, 1) := by decide +kernel
theorem dX11_canSend_23 : decode cX11_canSend 23 = .ok (.iaload, 1) := by decide +kernel
theorem dX11_canSend_24 : decode cX11_canSend 24 = .ok (.iconst 1, 1) := by decide +kernel
theorem dX11_canSend_25 : decode cX11_canSend 25 = .ok (.if_icmp .eq 7, 3) := by decide +kernel
theorem dX11_canSend_28 : decode cX11_canSend 28 = .ok (.iconst 1, 1) := by decide +kernel
theorem dX11_canSend_29 : decode cX11_canSend 29 = .ok (.goto 4, 3) := by decide +kernel
theorem dX11_canSend_32 : decode cX11_canSend 32 = .ok (.iconst 0, 1) := by decide +kernel
theorem dX11_canSend_33 : decode cX11_canSend 33 = .ok (.ireturn, 1) := by decide +kernel
theorem dX11_send_0 : decode cX11_send 0 = .ok (.aload_n 0, 1) := by decide +kernel
theorem dX11_send_1 : decode cX11_send 1 = .ok (.iload_n 1, 1) := by decide +kernel
theorem dX11_send_2 : decode cX11_send 2 = .ok (.invokevirtual 231, 3) := by decide +kernel
theorem dX11_send_5 : decode cX11_send 5 = .ok (.ifCond .eq 43, 3) := by decide +kernel
theorem dX11_send_8 : decode cX11_send 8 = .ok (.iload 4, 2) := by decide +kernel
theorem dX11_send_10 : decode cX11_send 10 = .ok (.iconst 1, 1) := by decide +kernel
theorem dX11_send_11 : decode cX11_send 11 = .ok (.sipush 1785, 3) := by decide +kernel
theorem dX11_send_14 : decode cX11_send 14 = .ok (.invokestatic 175, 3) := by decide +kernel
theorem dX11_send_17 : decode cX11_send 17 = .ok (.ifCond .eq 31, 3) := by decide +kernel
theorem dX11_send_20 : decode cX11_send 20 = .ok (.iload_n 3, 1) := by decide +kernel
theorem dX11_send_21 : decode cX11_send 21 = .ok (.iconst 0, 1) := by decide +kernel
theorem dX11_send_22 : decode cX11_send 22 = .ok (.ldc 234, 2) := by decide +kernel
theorem dX11_send_24 : decode cX11_send 24 = .ok (.invokestatic 175, 3) := by decide +kernel
theorem dX11_send_27 : decode cX11_send 27 = .ok (.ifCond .eq 21, 3) := by decide +kernel
theorem dX11_send_30 : decode cX11_send 30 = .ok (.iload_n 2, 1) := by decide +kernel
theorem dX11_send_31 : decode cX11_send 31 = .ok (.iconst 0, 1) := by decide +kernel
theorem dX11_send_32 : decode cX11_send 32 = .ok (.sipush 253, 3) := by decide +kernel
theorem dX11_send_35 : decode cX11_send 35 = .ok (.invokestatic 175, 3) := by decide +kernel
theorem dX11_send_38 : decode cX11_send 38 = .ok (.ifCond .ne 12, 3) := by decide +kernel
theorem dX11_send_41 : decode cX11_send 41 = .ok (.iload_n 2, 1) := by decide +kernel
theorem dX11_send_42 : decode cX11_send 42 = .ok (.sipush 255, 3) := by decide +kernel
theorem dX11_send_45 : decode cX11_send 45 = .ok (.if_icmp .eq 5, 3) := by decide +kernel
theorem dX11_send_48 : decode cX11_send 48 = .ok (.iconst 0, 1) := by decide +kernel
theorem dX11_send_49 : decode cX11_send 49 = .ok (.ireturn, 1) := by decide +kernel
theorem dX11_send_50 : decode cX11_send 50 = .ok (.iload_n 3, 1) := by decide +kernel
theorem dX11_send_51 : decode cX11_send 51 = .ok (.bipush 8, 2) := by decide +kernel
theorem dX11_send_53 : decode cX11_send 53 = .ok (.ishr, 1) := by decide +kernel
theorem dX11_send_54 : decode cX11_send 54 = .ok (.sipush 255, 3) := by decide +kernel
theorem dX11_send_57 : decode cX11_send 57 = .ok (.iand, 1) := by decide +kernel
theorem dX11_send_58 : decode cX11_send 58 = .ok (.istore 6, 2) := by decide +kernel
theorem dX11_send_60 : decode cX11_send 60 = .ok (.iload_n 3, 1) := by decide +kernel
theorem dX11_send_61 : decode cX11_send 61 = .ok (.bipush 16, 2) := by decide +kernel
theorem dX11_send_63 : decode cX11_send 63 = .ok (.ishr, 1) := by decide +kernel
theorem dX11_send_64 : decode cX11_send 64 = .ok (.ifCond .ne 29, 3) := by decide +kernel
theorem dX11_send_67 : decode cX11_send 67 = .ok (.iload 6, 2) := by decide +kernel
theorem dX11_send_69 : decode cX11_send 69 = .ok (.sipush 234, 3) := by decide +kernel
theorem dX11_send_72 : decode cX11_send 72 = .ok (.sipush 236, 3) := by decide +kernel
theorem dX11_send_75 : decode cX11_send 75 = .ok (.invokestatic 175, 3) := by decide +kernel
theorem dX11_send_78 : decode cX11_send 78 = .ok (.ifCond .ne 11, 3) := by decide +kernel
theorem dX11_send_81 : decode cX11_send 81 = .ok (.iload 6, 2) := by decide +kernel
theorem dX11_send_83 : decode cX11_send 83 = .ok (.sipush 238, 3) := by decide +kernel
theorem dX11_send_86 : decode cX11_send 86 = .ok (.if_icmp .ne 7, 3) := by decide +kernel
theorem dX11_send_89 : decode cX11_send 89 = .ok (.iconst 1, 1) := by decide +kernel
theorem dX11_send_90 : decode cX11_send 90 = .ok (.goto 4, 3) := by decide +kernel
theorem dX11_send_93 : decode cX11_send 93 = .ok (.iconst 0, 1) := by decide +kernel
theorem dX11_send_94 : decode cX11_send 94 = .ok (.istore 7, 2) := by decide +kernel
theorem dX11_send_96 : decode cX11_send 96 = .ok (.iload 6, 2) := by decide +kernel
theorem dX11_send_98 : decode cX11_send 98 = .ok (.sipush 240, 3) := by decide +kernel
theorem dX11_send_101 : decode cX11_send 101 = .ok (.if_icmp .ge 11, 3) := by decide +kernel
theorem dX11_send_104 : decode cX11_send 104 = .ok (.iload_n 3, 1) := by decide +kernel
theorem dX11_send_105 : decode cX11_send 105 = .ok (.sipush 255, 3) := by decide +kernel
theorem dX11_send_108 : decode cX11_send 108 = .ok (.iand, 1) := by decide +kernel
theorem dX11_send_109 : decode cX11_send 109 = .ok (.ifCond .ne 23, 3) := by decide +kernel
theorem dX11_send_112 : decode cX11_send 112 = .ok (.iload 7, 2) := by decide +kernel
theorem dX11_send_114 : decode cX11_send 114 = .ok (.ifCond .ne 18, 3) := by decide +kernel
theorem dX11_send_117 : decode cX11_send 117 = .ok (.iload 6, 2) := by decide +kernel
theorem dX11_send_119 : decode cX11_send 119 = .ok (.sipush 240, 3) := by decide +kernel
theorem dX11_send_122 : decode cX11_send 122 = .ok (.if_icmp .lt 12, 3) := by decide +kernel
theorem dX11_send_125 : decode cX11_send 125 = .ok (.iload_n 2, 1) := by decide +kernel
theorem dX11_send_126 : decode cX11_send 126 = .ok (.sipush 255, 3) := by decide +kernel
theorem dX11_send_129 : decode cX11_send 129 = .ok (.if_icmp .eq 5, 3) := by decide +kernel
theorem dX11_send_132 : decode cX11_send 132 = .ok (.iconst 0, 1) := by decide +kernel
theorem dX11_send_133 : decode cX11_send 133 = .ok (.ireturn, 1) := by decide +kernel
theorem dX11_send_134 : decode cX11_send 134 = .ok (.iconst 0, 1) := by decide +kernel
theorem dX11_send_135 : decode cX11_send 135 = .ok (.istore 8, 2) := by decide +kernel
theorem dX11_send_137 : decode cX11_send 137 = .ok (.iload 8, 2) := by decide +kernel
theorem dX11_send_139 : decode cX11_send 139 = .ok (.iload 4, 2) := by decide +kernel
theorem dX11_send_141 : decode cX11_send 141 = .ok (.if_icmp .ge 41, 3) := by decide +kernel
theorem dX11_send_144 : decode cX11_send 144 = .ok (.aload_n 0, 1) := by decide +kernel
theorem dX11_send_145 : decode cX11_send 145 = .ok (.getfield 83, 3) := by decide +kernel
theorem dX11_send_148 : decode cX11_send 148 = .ok (.sipush 1785, 3) := by decide +kernel
theorem dX11_send_151 : decode cX11_send 151 = .ok (.iload_n 1, 1) := by decide +kernel
theorem dX11_send_152 : decode cX11_send 152 = .ok (.imul, 1) := by decide +kernel
theorem dX11_send_153 : decode cX11_send 153 = .ok (.iload 8, 2) := by decide +kernel
theorem dX11_send_155 : decode cX11_send 155 = .ok (.iadd, 1) := by decide +kernel
theorem dX11_send_156 : decode cX11_send 156 = .ok (.iload 5, 2) := by decide +kernel
theorem dX11_send_158 : decode cX11_send 158 = .ok (.iload 8, 2) := by decide +kernel
theorem dX11_send_160 : decode cX11_send 160 = .ok (.iload 8, 2) := by decide +kernel
theorem dX11_send_162 : decode cX11_send 162 = .ok (.imul, 1) := by decide +kernel
theorem dX11_send_163 : decode cX11_send 163 = .ok (.iadd, 1) := by decide +kernel
theorem dX11_send_164 : decode cX11_send 164 = .ok (.iload 8, 2) := by decide +kernel
theorem dX11_send_166 : decode cX11_send 166 = .ok (.sipush 256, 3) := by decide +kernel
theorem dX11_send_169 : decode cX11_send 169 = .ok (.idiv, 1) := by decide +kernel
theorem dX11_send_170 : decode cX11_send 170 = .ok (.iadd, 1) := by decide +kernel
theorem dX11_send_171 : decode cX11_send 171 = .ok (.sipush 255, 3) := by decide +kernel
theorem dX11_send_174 : decode cX11_send 174 = .ok (.iand, 1) := by decide +kernel
theorem dX11_send_175 : decode cX11_send 175 = .ok (.iastore, 1) := by decide +kernel
theorem dX11_send_176 : decode cX11_send 176 = .ok (.iinc 8 1, 3) := by decide +kernel
theorem dX11_send_179 : decode cX11_send 179 = .ok (.goto (-42), 3) := by decide +kernel
theorem dX11_send_182 : decode cX11_send 182 = .ok (.aload_n 0, 1) := by decide +kernel
theorem dX11_send_183 : decode cX11_send 183 = .ok (.iload_n 1, 1) := by decide +kernel
theorem dX11_send_184 : decode cX11_send 184 = .ok (.iload_n 2, 1) := by decide +kernel
theorem dX11_send_185 : decode cX11_send 185 = .ok (.iload_n 3, 1) := by decide +kernel
theorem dX11_send_186 : decode cX11_send 186 = .ok (.iload 4, 2) := by decide +kernel
theorem dX11_send_188 : decode cX11_send 188 = .ok (.iload 5, 2) := by decide +kernel
theorem dX11_send_190 : decode cX11_send 190 = .ok (.iconst (-1), 1) := by decide +kernel
theorem dX11_send_191 : decode cX11_send 191 = .ok (.invokevirtual 235, 3) := by decide +kernel
theorem dX11_send_194 : decode cX11_send 194 = .ok (.iconst 1, 1) := by decide +kernel
theorem dX11_send_195 : decode cX11_send 195 = .ok (.ireturn, 1) := by decide +kernel
theorem dX11_trouble_0 : decode cX11_trouble 0 = .ok (.aload_n 0, 1) := by decide +kernel
theorem dX11_trouble_1 : decode cX11_trouble 1 = .ok (.iload_n 1, 1) := by decide +kernel
theorem dX11_trouble_2 : decode cX11_trouble 2 = .ok (.invokevirtual 203, 3) := by decide +kernel
theorem dX11_trouble_5 : decode cX11_trouble 5 = .ok (.ifCond .eq 45, 3) := by decide +kernel
theorem dX11_trouble_8 : decode cX11_trouble 8 = .ok (.iload_n 2, 1) := by decide +kernel
theorem dX11_trouble_9 : decode cX11_trouble 9 = .ok (.iconst 0, 1) := by decide +kernel
theorem dX11_trouble_10 : decode cX11_trouble 10 = .ok (.ldc 239, 2) := by decide +kernel
theorem dX11_trouble_12 : decode cX11_trouble 12 = .ok (.invokestatic 175, 3) := by decide +kernel
theorem dX11_trouble_15 : decode cX11_trouble 15 = .ok (.ifCond .eq 35, 3) := by decide +kernel
theorem dX11_trouble_18 : decode cX11_trouble 18 = .ok (.iload_n 3, 1) := by decide +kernel
theorem dX11_trouble_19 : decode cX11_trouble 19 = .ok (.iconst 0, 1) := by decide +kernel
theorem dX11_trouble_20 : decode cX11_trouble 20 = .ok (.bipush 31, 2) := by decide +kernel
theorem dX11_trouble_22 : decode cX11_trouble 22 = .ok (.invokestatic 175, 3) := by decide +kernel
theorem dX11_trouble_25 : decode cX11_trouble 25 = .ok (.ifCond .eq 25, 3) := by decide +kernel
theorem dX11_trouble_28 : decode cX11_trouble 28 = .ok (.iload 4, 2) := by decide +kernel
theorem dX11_trouble_30 : decode cX11_trouble 30 = .ok (.iconst 0, 1) := by decide +kernel
theorem dX11_trouble_31 : decode cX11_trouble 31 = .ok (.bipush 127, 2) := by decide +kernel
theorem dX11_trouble_33 : decode cX11_trouble 33 = .ok (.invokestatic 175, 3) := by decide +kernel
theorem dX11_trouble_36 : decode cX11_trouble 36 = .ok (.ifCond .eq 14, 3) := by decide +kernel
theorem dX11_trouble_39 : decode cX11_trouble 39 = .ok (.aload_n 0, 1) := by decide +kernel
theorem dX11_trouble_40 : decode cX11_trouble 40 = .ok (.getfield 132, 3) := by decide +kernel
theorem dX11_trouble_43 : decode cX11_trouble 43 = .ok (.iload_n 1, 1) := by decide +kernel
theorem dX11_trouble_44 : decode cX11_trouble 44 = .ok (.iaload, 1) := by decide +kernel
theorem dX11_trouble_45 : decode cX11_trouble 45 = .ok (.bipush 10, 2) := by decide +kernel
theorem dX11_trouble_47 : decode cX11_trouble 47 = .ok (.if_icmp .ne 5, 3) := by decide +kernel
theorem dX11_trouble_50 : decode cX11_trouble 50 = .ok (.iconst (-1), 1) := by decide +kernel
theorem dX11_trouble_51 : decode cX11_trouble 51 = .ok (.ireturn, 1) := by decide +kernel
theorem dX11_trouble_52 : decode cX11_trouble 52 = .ok (.iconst 3, 1) := by decide +kernel
theorem dX11_trouble_53 : decode cX11_trouble 53 = .ok (.bipush 10, 2) := by decide +kernel
theorem dX11_trouble_55 : decode cX11_trouble 55 = .ok (.iload_n 1, 1) := by decide +kernel
theorem dX11_trouble_56 : decode cX11_trouble 56 = .ok (.imul, 1) := by decide +kernel
theorem dX11_trouble_57 : decode cX11_trouble 57 = .ok (.aload_n 0, 1) := by decide +kernel
theorem dX11_trouble_58 : decode cX11_trouble 58 = .ok (.getfield 132, 3) := by decide +kernel
theorem dX11_trouble_61 : decode cX11_trouble 61 = .ok (.iload_n 1, 1) := by decide +kernel
theorem dX11_trouble_62 : decode cX11_trouble 62 = .ok (.iaload, 1) := by decide +kernel
theorem dX11_trouble_63 : decode cX11_trouble 63 = .ok (.iadd, 1) := by decide +kernel
theorem dX11_trouble_64 : decode cX11_trouble 64 = .ok (.imul, 1) := by decide +kernel
theorem dX11_trouble_65 : decode cX11_trouble 65 = .ok (.istore 5, 2) := by decide +kernel
theorem dX11_trouble_67 : decode cX11_trouble 67 = .ok (.aload_n 0, 1) := by decide +kernel
theorem dX11_trouble_68 : decode cX11_trouble 68 = .ok (.getfield 135, 3) := by decide +kernel
theorem dX11_trouble_71 : decode cX11_trouble 71 = .ok (.iload 5, 2) := by decide +kernel
theorem dX11_trouble_73 : decode cX11_trouble 73 = .ok (.iload_n 2, 1) := by decide +kernel
theorem dX11_trouble_74 : decode cX11_trouble 74 = .ok (.iastore, 1) := by decide +kernel
theorem dX11_trouble_75 : decode cX11_trouble 75 = .ok (.aload_n 0, 1) := by decide +kernel
theorem dX11_trouble_76 : decode cX11_trouble 76 = .ok (.getfield 135, 3) := by decide +kernel
theorem dX11_trouble_79 : decode cX11_trouble 79 = .ok (.iload 5, 2) := by decide +kernel
theorem dX11_trouble_81 : decode cX11_trouble 81 = .ok (.iconst 1, 1) := by decide +kernel
theorem dX11_trouble_82 : decode cX11_trouble 82 = .ok (.iadd, 1) := by decide +kernel
theorem dX11_trouble_83 : decode cX11_trouble 83 = .ok (.iload_n 3, 1) := by decide +kernel
theorem dX11_trouble_84 : decode cX11_trouble 84 = .ok (.iastore, 1) := by decide +kernel
theorem dX11_trouble_85 : decode cX11_trouble 85 = .ok (.aload_n 0, 1) := by decide +kernel
theorem dX11_trouble_86 : decode cX11_trouble 86 = .ok (.getfield 135, 3) := by decide +kernel
theorem dX11_trouble_89 : decode cX11_trouble 89 = .ok (.iload 5, 2) := by decide +kernel
theorem dX11_trouble_91 : decode cX11_trouble 91 = .ok (.iconst 2, 1) := by decide +kernel
theorem dX11_trouble_92 : decode cX11_trouble 92 = .ok (.iadd, 1) := by decide +kernel
theorem dX11_trouble_93 : decode cX11_trouble 93 = .ok (.iload 4, 2) := by decide +kernel
theorem dX11_trouble_95 : decode cX11_trouble 95 = .ok (.iastore, 1) := by decide +kernel
theorem dX11_trouble_96 : decode cX11_trouble 96 = .ok (.aload_n 0, 1) := by decide +kernel
theorem dX11_trouble_97 : decode cX11_trouble 97 = .ok (.getfield 132, 3) := by decide +kernel
theorem dX11_trouble_100 : decode cX11_trouble 100 = .ok (.iload_n 1, 1) := by decide +kernel
theorem dX11_trouble_101 : decode cX11_trouble 101 = .ok (.dup2, 1) := by decide +kernel
theorem dX11_trouble_102 : decode cX11_trouble 102 = .ok (.iaload, 1) := by decide +kernel
theorem dX11_trouble_103 : decode cX11_trouble 103 = .ok (.iconst 1, 1) := by decide +kernel
theorem dX11_trouble_104 : decode cX11_trouble 104 = .ok (.iadd, 1) := by decide +kernel
theorem dX11_trouble_105 : decode cX11_trouble 105 = .ok (.iastore, 1) := by decide +kernel
theorem dX11_trouble_106 : decode cX11_trouble 106 = .ok (.aload_n 0, 1) := by decide +kernel
theorem dX11_trouble_107 : decode cX11_trouble 107 = .ok (.getfield 132, 3) := by decide +kernel
theorem dX11_trouble_110 : decode cX11_trouble 110 = .ok (.iload_n 1, 1) := by decide +kernel
theorem dX11_trouble_111 : decode cX11_trouble 111 = .ok (.iaload, 1) := by decide +kernel
theorem dX11_trouble_112 : decode cX11_trouble 112 = .ok (.ireturn, 1) := by decide +kernel
theorem dX11_tell_0 : decode cX11_tell 0 = .ok (.aload_n 0, 1) := by decide +kernel
theorem dX11_tell_1 : decode cX11_tell 1 = .ok (.iload_n 1, 1) := by decide +kernel
theorem dX11_tell_2 : decode cX11_tell 2 = .ok (.invokevirtual 231, 3) := by decide +kernel
theorem dX11_tell_5 : decode cX11_tell 5 = .ok (.ifCond .ne 5, 3) := by decide +kernel
theorem dX11_tell_8 : decode cX11_tell 8 = .ok (.iconst 0, 1) := by decide +kernel
theorem dX11_tell_9 : decode cX11_tell 9 = .ok (.ireturn, 1) := by decide +kernel
theorem dX11_tell_10 : decode cX11_tell 10 = .ok (.sipush 1785, 3) := by decide +kernel
theorem dX11_tell_13 : decode cX11_tell 13 = .ok (.iload_n 1, 1) := by decide +kernel
theorem dX11_tell_14 : decode cX11_tell 14 = .ok (.imul, 1) := by decide +kernel
theorem dX11_tell_15 : decode cX11_tell 15 = .ok (.istore_n 2, 1) := by decide +kernel
theorem dX11_tell_16 : decode cX11_tell 16 = .ok (.aload_n 0, 1) := by decide +kernel
theorem dX11_tell_17 : decode cX11_tell 17 = .ok (.getfield 83, 3) := by decide +kernel
theorem dX11_tell_20 : decode cX11_tell 20 = .ok (.iload_n 2, 1) := by decide +kernel
theorem dX11_tell_21 : decode cX11_tell 21 = .ok (.aload_n 0, 1) := by decide +kernel
theorem dX11_tell_22 : decode cX11_tell 22 = .ok (.getfield 132, 3) := by decide +kernel
theorem dX11_tell_25 : decode cX11_tell 25 = .ok (.iload_n 1, 1) := by decide +kernel
theorem dX11_tell_26 : decode cX11_tell 26 = .ok (.iaload, 1) := by decide +kernel
theorem dX11_tell_27 : decode cX11_tell 27 = .ok (.ifCond .le 8, 3) := by decide +kernel
theorem dX11_tell_30 : decode cX11_tell 30 = .ok (.bipush 64, 2) := by decide +kernel
theorem dX11_tell_32 : decode cX11_tell 32 = .ok (.goto 4, 3) := by decide +kernel
theorem dX11_tell_35 : decode cX11_tell 35 = .ok (.iconst 0, 1) := by decide +kernel
theorem dX11_tell_36 : decode cX11_tell 36 = .ok (.iastore, 1) := by decide +kernel
theorem dX11_tell_37 : decode cX11_tell 37 = .ok (.aload_n 0, 1) := by decide +kernel
theorem dX11_tell_38 : decode cX11_tell 38 = .ok (.getfield 83, 3) := by decide +kernel
theorem dX11_tell_41 : decode cX11_tell 41 = .ok (.iload_n 2, 1) := by decide +kernel
theorem dX11_tell_42 : decode cX11_tell 42 = .ok (.iconst 1, 1) := by decide +kernel
theorem dX11_tell_43 : decode cX11_tell 43 = .ok (.iadd, 1) := by decide +kernel
theorem dX11_tell_44 : decode cX11_tell 44 = .ok (.sipush 255, 3) := by decide +kernel
theorem dX11_tell_47 : decode cX11_tell 47 = .ok (.iastore, 1) := by decide +kernel
theorem dX11_tell_48 : decode cX11_tell 48 = .ok (.iconst 0, 1) := by decide +kernel
theorem dX11_tell_49 : decode cX11_tell 49 = .ok (.istore_n 3, 1) := by decide +kernel
theorem dX11_tell_50 : decode cX11_tell 50 = .ok (.iload_n 3, 1) := by decide +kernel
theorem dX11_tell_51 : decode cX11_tell 51 = .ok (.aload_n 0, 1) := by decide +kernel
theorem dX11_tell_52 : decode cX11_tell 52 = .ok (.getfield 132, 3) := by decide +kernel
theorem dX11_tell_55 : decode cX11_tell 55 = .ok (.iload_n 1, 1) := by decide +kernel
theorem dX11_tell_56 : decode cX11_tell 56 = .ok (.iaload, 1) := by decide +kernel
theorem dX11_tell_57 : decode cX11_tell 57 = .ok (.if_icmp .ge 123, 3) := by decide +kernel
theorem dX11_tell_60 : decode cX11_tell 60 = .ok (.iconst 3, 1) := by decide +kernel
theorem dX11_tell_61 : decode cX11_tell 61 = .ok (.bipush 10, 2) := by decide +kernel
theorem dX11_tell_63 : decode cX11_tell 63 = .ok (.iload_n 1, 1) := by decide +kernel
theorem dX11_tell_64 : decode cX11_tell 64 = .ok (.imul, 1) := by decide +kernel
theorem dX11_tell_65 : decode cX11_tell 65 = .ok (.iload_n 3, 1) := by decide +kernel
theorem dX11_tell_66 : decode cX11_tell 66 = .ok (.iadd, 1) := by decide +kernel
theorem dX11_tell_67 : decode cX11_tell 67 = .ok (.imul, 1) := by decide +kernel
theorem dX11_tell_68 : decode cX11_tell 68 = .ok (.istore 4, 2) := by decide +kernel
theorem dX11_tell_70 : decode cX11_tell 70 = .ok (.aload_n 0, 1) := by decide +kernel
theorem dX11_tell_71 : decode cX11_tell 71 = .ok (.getfield 83, 3) := by decide +kernel
theorem dX11_tell_74 : decode cX11_tell 74 = .ok (.iload_n 2, 1) := by decide +kernel
theorem dX11_tell_75 : decode cX11_tell 75 = .ok (.iconst 2, 1) := by decide +kernel
theorem dX11_tell_76 : decode cX11_tell 76 = .ok (.iadd, 1) := by decide +kernel
theorem dX11_tell_77 : decode cX11_tell 77 = .ok (.iconst 4, 1) := by decide +kernel
theorem dX11_tell_78 : decode cX11_tell 78 = .ok (.iload_n 3, 1) := by decide +kernel
theorem dX11_tell_79 : decode cX11_tell 79 = .ok (.imul, 1) := by decide +kernel
theorem dX11_tell_80 : decode cX11_tell 80 = .ok (.iadd, 1) := by decide +kernel
theorem dX11_tell_81 : decode cX11_tell 81 = .ok (.aload_n 0, 1) := by decide +kernel
theorem dX11_tell_82 : decode cX11_tell 82 = .ok (.getfield 135, 3) := by decide +kernel
theorem dX11_tell_85 : decode cX11_tell 85 = .ok (.iload 4, 2) := by decide +kernel
theorem dX11_tell_87 : decode cX11_tell 87 = .ok (.iaload, 1) := by decide +kernel
theorem dX11_tell_88 : decode cX11_tell 88 = .ok (.sipush 255, 3) := by decide +kernel
theorem dX11_tell_91 : decode cX11_tell 91 = .ok (.iand, 1) := by decide +kernel
theorem dX11_tell_92 : decode cX11_tell 92 = .ok (.iastore, 1) := by decide +kernel
theorem dX11_tell_93 : decode cX11_tell 93 = .ok (.aload_n 0, 1) := by decide +kernel
theorem dX11_tell_94 : decode cX11_tell 94 = .ok (.getfield 83, 3) := by decide +kernel
theorem dX11_tell_97 : decode cX11_tell 97 = .ok (.iload_n 2, 1) := by decide +kernel
theorem dX11_tell_98 : decode cX11_tell 98 = .ok (.iconst 3, 1) := by decide +kernel
theorem dX11_tell_99 : decode cX11_tell 99 = .ok (.iadd, 1) := by decide +kernel
theorem dX11_tell_100 : decode cX11_tell 100 = .ok (.iconst 4, 1) := by decide +kernel
theorem dX11_tell_101 : decode cX11_tell 101 = .ok (.iload_n 3, 1) := by decide +kernel
theorem dX11_tell_102 : decode cX11_tell 102 = .ok (.imul, 1) := by decide +kernel
theorem dX11_tell_103 : decode cX11_tell 103 = .ok (.iadd, 1) := by decide +kernel
theorem dX11_tell_104 : decode cX11_tell 104 = .ok (.aload_n 0, 1) := by decide +kernel
theorem dX11_tell_105 : decode cX11_tell 105 = .ok (.getfield 135, 3) := by decide +kernel
theorem dX11_tell_108 : decode cX11_tell 108 = .ok (.iload 4, 2) := by decide +kernel
theorem dX11_tell_110 : decode cX11_tell 110 = .ok (.iaload, 1) := by decide +kernel
theorem dX11_tell_111 : decode cX11_tell 111 = .ok (.bipush 8, 2) := by decide +kernel
theorem dX11_tell_113 : decode cX11_tell 113 = .ok (.ishr, 1) := by decide +kernel
theorem dX11_tell_114 : decode cX11_tell 114 = .ok (.sipush 255, 3) := by decide +kernel
theorem dX11_tell_117 : decode cX11_tell 117 = .ok (.iand, 1) := by decide +kernel
theorem dX11_tell_118 : decode cX11_tell 118 = .ok (.iastore, 1) := by decide +kernel
theorem dX11_tell_119 : decode cX11_tell 119 = .ok (.aload_n 0, 1) := by decide +kernel
theorem dX11_tell_120 : decode cX11_tell 120 = .ok (.getfield 83, 3) := by decide +kernel
theorem dX11_tell_123 : decode cX11_tell 123 = .ok (.iload_n 2, 1) := by decide +kernel
theorem dX11_tell_124 : decode cX11_tell 124 = .ok (.iconst 4, 1) := by decide +kernel
theorem dX11_tell_125 : decode cX11_tell 125 = .ok (.iadd, 1) := by decide +kernel
theorem dX11_tell_126 : decode cX11_tell 126 = .ok (.iconst 4, 1) := by decide +kernel
theorem dX11_tell_127 : decode cX11_tell 127 = .ok (.iload_n 3, 1) := by decide +kernel
theorem dX11_tell_128 : decode cX11_tell 128 = .ok (.imul, 1) := by decide +kernel
theorem dX11_tell_129 : decode cX11_tell 129 = .ok (.iadd, 1) := by decide +kernel
theorem dX11_tell_130 : decode cX11_tell 130 = .ok (.aload_n 0, 1) := by decide +kernel
theorem dX11_tell_131 : decode cX11_tell 131 = .ok (.getfield 135, 3) := by decide +kernel
theorem dX11_tell_134 : decode cX11_tell 134 = .ok (.iload 4, 2) := by decide +kernel
theorem dX11_tell_136 : decode cX11_tell 136 = .ok (.iaload, 1) := by decide +kernel
theorem dX11_tell_137 : decode cX11_tell 137 = .ok (.bipush 16, 2) := by decide +kernel
theorem dX11_tell_139 : decode cX11_tell 139 = .ok (.ishr, 1) := by decide +kernel
theorem dX11_tell_140 : decode cX11_tell 140 = .ok (.iconst 5, 1) := by decide +kernel
theorem dX11_tell_141 : decode cX11_tell 141 = .ok (.ishl, 1) := by decide +kernel
theorem dX11_tell_142 : decode cX11_tell 142 = .ok (.aload_n 0, 1) := by decide +kernel
theorem dX11_tell_143 : decode cX11_tell 143 = .ok (.getfield 135, 3) := by decide +kernel
theorem dX11_tell_146 : decode cX11_tell 146 = .ok (.iload 4, 2) := by decide +kernel
theorem dX11_tell_148 : decode cX11_tell 148 = .ok (.iconst 1, 1) := by decide +kernel
theorem dX11_tell_149 : decode cX11_tell 149 = .ok (.iadd, 1) := by decide +kernel
theorem dX11_tell_150 : decode cX11_tell 150 = .ok (.iaload, 1) := by decide +kernel
theorem dX11_tell_151 : decode cX11_tell 151 = .ok (.ior, 1) := by decide +kernel
theorem dX11_tell_152 : decode cX11_tell 152 = .ok (.iastore, 1) := by decide +kernel
theorem dX11_tell_153 : decode cX11_tell 153 = .ok (.aload_n 0, 1) := by decide +kernel
theorem dX11_tell_154 : decode cX11_tell 154 = .ok (.getfield 83, 3) := by decide +kernel
theorem dX11_tell_157 : decode cX11_tell 157 = .ok (.iload_n 2, 1) := by decide +kernel
theorem dX11_tell_158 : decode cX11_tell 158 = .ok (.iconst 5, 1) := by decide +kernel
theorem dX11_tell_159 : decode cX11_tell 159 = .ok (.iadd, 1) := by decide +kernel
theorem dX11_tell_160 : decode cX11_tell 160 = .ok (.iconst 4, 1) := by decide +kernel
theorem dX11_tell_161 : decode cX11_tell 161 = .ok (.iload_n 3, 1) := by decide +kernel
theorem dX11_tell_162 : decode cX11_tell 162 = .ok (.imul, 1) := by decide +kernel
theorem dX11_tell_163 : decode cX11_tell 163 = .ok (.iadd, 1) := by decide +kernel
theorem dX11_tell_164 : decode cX11_tell 164 = .ok (.aload_n 0, 1) := by decide +kernel
theorem dX11_tell_165 : decode cX11_tell 165 = .ok (.getfield 135, 3) := by decide +kernel
theorem dX11_tell_168 : decode cX11_tell 168 = .ok (.iload 4, 2) := by decide +kernel
theorem dX11_tell_170 : decode cX11_tell 170 = .ok (.iconst 2, 1) := by decide +kernel
theorem dX11_tell_171 : decode cX11_tell 171 = .ok (.iadd, 1) := by decide +kernel
theorem dX11_tell_172 : decode cX11_tell 172 = .ok (.iaload, 1) := by decide +kernel
theorem dX11_tell_173 : decode cX11_tell 173 = .ok (.iastore, 1) := by decide +kernel
theorem dX11_tell_174 : decode cX11_tell 174 = .ok (.iinc 3 1, 3) := by decide +kernel
theorem dX11_tell_177 : decode cX11_tell 177 = .ok (.goto (-127), 3) := by decide +kernel
theorem dX11_tell_180 : decode cX11_tell 180 = .ok (.aload_n 0, 1) := by decide +kernel
theorem dX11_tell_181 : decode cX11_tell 181 = .ok (.iload_n 1, 1) := by decide +kernel
theorem dX11_tell_182 : decode cX11_tell 182 = .ok (.sipush 255, 3) := by decide +kernel
theorem dX11_tell_185 : decode cX11_tell 185 = .ok (.ldc 240, 2) := by decide +kernel
theorem dX11_tell_187 : decode cX11_tell 187 = .ok (.iconst 2, 1) := by decide +kernel
theorem dX11_tell_188 : decode cX11_tell 188 = .ok (.iconst 4, 1) := by decide +kernel
theorem dX11_tell_189 : decode cX11_tell 189 = .ok (.aload_n 0, 1) := by decide +kernel
theorem dX11_tell_190 : decode cX11_tell 190 = .ok (.getfield 132, 3) := by decide +kernel
theorem dX11_tell_193 : decode cX11_tell 193 = .ok (.iload_n 1, 1) := by decide +kernel
theorem dX11_tell_194 : decode cX11_tell 194 = .ok (.iaload, 1) := by decide +kernel
theorem dX11_tell_195 : decode cX11_tell 195 = .ok (.imul, 1) := by decide +kernel
theorem dX11_tell_196 : decode cX11_tell 196 = .ok (.iadd, 1) := by decide +kernel
theorem dX11_tell_197 : decode cX11_tell 197 = .ok (.iconst 0, 1) := by decide +kernel
theorem dX11_tell_198 : decode cX11_tell 198 = .ok (.aload_n 0, 1) := by decide +kernel
theorem dX11_tell_199 : decode cX11_tell 199 = .ok (.getfield 132, 3) := by decide +kernel
theorem dX11_tell_202 : decode cX11_tell 202 = .ok (.iload_n 1, 1) := by decide +kernel
theorem dX11_tell_203 : decode cX11_tell 203 = .ok (.iaload, 1) := by decide +kernel
theorem dX11_tell_204 : decode cX11_tell 204 = .ok (.invokevirtual 235, 3) := by decide +kernel
theorem dX11_tell_207 : decode cX11_tell 207 = .ok (.iconst 1, 1) := by decide +kernel
theorem dX11_tell_208 : decode cX11_tell 208 = .ok (.ireturn, 1) := by decide +kernel
theorem dX11_lose_0 : decode cX11_lose 0 = .ok (.aload_n 0, 1) := by decide +kernel
theorem dX11_lose_1 : decode cX11_lose 1 = .ok (.iload_n 1, 1) := by decide +kernel
theorem dX11_lose_2 : decode cX11_lose 2 = .ok (.invokevirtual 203, 3) := by decide +kernel
theorem dX11_lose_5 : decode cX11_lose 5 = .ok (.ifCond .eq 13, 3) := by decide +kernel
theorem dX11_lose_8 : decode cX11_lose 8 = .ok (.iload_n 2, 1) := by decide +kernel
theorem dX11_lose_9 : decode cX11_lose 9 = .ok (.iconst 0, 1) := by decide +kernel
theorem dX11_lose_10 : decode cX11_lose 10 = .ok (.bipush 50, 2) := by decide +kernel
theorem dX11_lose_12 : decode cX11_lose 12 = .ok (.invokestatic 175, 3) := by decide +kernel
theorem dX11_lose_15 : decode cX11_lose 15 = .ok (.ifCond .ne 5, 3) := by decide +kernel
theorem dX11_lose_18 : decode cX11_lose 18 = .ok (.iconst 0, 1) := by decide +kernel
theorem dX11_lose_19 : decode cX11_lose 19 = .ok (.ireturn, 1) := by decide +kernel
theorem dX11_lose_20 : decode cX11_lose 20 = .ok (.aload_n 0, 1) := by decide +kernel
theorem dX11_lose_21 : decode cX11_lose 21 = .ok (.getfield 126, 3) := by decide +kernel
theorem dX11_lose_24 : decode cX11_lose 24 = .ok (.iload_n 1, 1) := by decide +kernel
theorem dX11_lose_25 : decode cX11_lose 25 = .ok (.iload_n 2, 1) := by decide +kernel
theorem dX11_lose_26 : decode cX11_lose 26 = .ok (.iastore, 1) := by decide +kernel
theorem dX11_lose_27 : decode cX11_lose 27 = .ok (.iconst 1, 1) := by decide +kernel
theorem dX11_lose_28 : decode cX11_lose 28 = .ok (.ireturn, 1) := by decide +kernel
theorem dX11_carry_0 : decode cX11_carry 0 = .ok (.iconst (-1), 1) := by decide +kernel
theorem dX11_carry_1 : decode cX11_carry 1 = .ok (.istore_n 1, 1) := by decide +kernel
theorem dX11_carry_2 : decode cX11_carry 2 = .ok (.iconst 0, 1) := by decide +kernel
theorem dX11_carry_3 : decode cX11_carry 3 = .ok (.istore_n 2, 1) := by decide +kernel
theorem dX11_carry_4 : decode cX11_carry 4 = .ok (.iload_n 2, 1) := by decide +kernel
theorem dX11_carry_5 : decode cX11_carry 5 = .ok (.aload_n 0, 1) := by decide +kernel
theorem dX11_carry_6 : decode cX11_carry 6 = .ok (.getfield 172, 3) := by decide +kernel
theorem dX11_carry_9 : decode cX11_carry 9 = .ok (.if_icmp .ge 34, 3) := by decide +kernel
theorem dX11_carry_12 : decode cX11_carry 12 = .ok (.aload_n 0, 1) := by decide +kernel
theorem dX11_carry_13 : decode cX11_carry 13 = .ok (.getfield 42, 3) := by decide +kernel
theorem dX11_carry_16 : decode cX11_carry 16 = .ok (.iload_n 2, 1) := by decide +kernel
theorem dX11_carry_17 : decode cX11_carry 17 = .ok (.iaload, 1) := by decide +kernel
theorem dX11_carry_18 : decode cX11_carry 18 = .ok (.ifCond .le 19, 3) := by decide +kernel
theorem dX11_carry_21 : decode cX11_carry 21 = .ok (.iload_n 1, 1) := by decide +kernel
theorem dX11_carry_22 : decode cX11_carry 22 = .ok (.iconst (-1), 1) := by decide +kernel
theorem dX11_carry_23 : decode cX11_carry 23 = .ok (.if_icmp .eq 12, 3) := by decide +kernel
theorem dX11_carry_26 : decode cX11_carry 26 = .ok (.aload_n 0, 1) := by decide +kernel
theorem dX11_carry_27 : decode cX11_carry 27 = .ok (.iload_n 2, 1) := by decide +kernel
theorem dX11_carry_28 : decode cX11_carry 28 = .ok (.iload_n 1, 1) := by decide +kernel
theorem dX11_carry_29 : decode cX11_carry 29 = .ok (.invokevirtual 314, 3) := by decide +kernel
theorem dX11_carry_32 : decode cX11_carry 32 = .ok (.ifCond .eq 5, 3) := by decide +kernel
theorem dX11_carry_35 : decode cX11_carry 35 = .ok (.iload_n 2, 1) := by decide +kernel
theorem dX11_carry_36 : decode cX11_carry 36 = .ok (.istore_n 1, 1) := by decide +kernel
theorem dX11_carry_37 : decode cX11_carry 37 = .ok (.iinc 2 1, 3) := by decide +kernel
theorem dX11_carry_40 : decode cX11_carry 40 = .ok (.goto (-36), 3) := by decide +kernel
theorem dX11_carry_43 : decode cX11_carry 43 = .ok (.iload_n 1, 1) := by decide +kernel
theorem dX11_carry_44 : decode cX11_carry 44 = .ok (.iconst (-1), 1) := by decide +kernel
theorem dX11_carry_45 : decode cX11_carry 45 = .ok (.if_icmp .ne 4, 3) := by decide +kernel
theorem dX11_carry_48 : decode cX11_carry 48 = .ok (.return_, 1) := by decide +kernel
theorem dX11_carry_49 : decode cX11_carry 49 = .ok (.aload_n 0, 1) := by decide +kernel
theorem dX11_carry_50 : decode cX11_carry 50 = .ok (.getfield 36, 3) := by decide +kernel
theorem dX11_carry_53 : decode cX11_carry 53 = .ok (.iload_n 1, 1) := by decide +kernel
theorem dX11_carry_54 : decode cX11_carry 54 = .ok (.iaload, 1) := by decide +kernel
theorem dX11_carry_55 : decode cX11_carry 55 = .ok (.istore_n 2, 1) := by decide +kernel
theorem dX11_carry_56 : decode cX11_carry 56 = .ok (.aload_n 0, 1) := by decide +kernel
theorem dX11_carry_57 : decode cX11_carry 57 = .ok (.aload_n 0, 1) := by decide +kernel
theorem dX11_carry_58 : decode cX11_carry 58 = .ok (.getfield 46, 3) := by decide +kernel
theorem dX11_carry_61 : decode cX11_carry 61 = .ok (.iload_n 2, 1) := by decide +kernel
theorem dX11_carry_62 : decode cX11_carry 62 = .ok (.iaload, 1) := by decide +kernel
theorem dX11_carry_63 : decode cX11_carry 63 = .ok (.putfield 318, 3) := by decide +kernel
theorem dX11_carry_66 : decode cX11_carry 66 = .ok (.aload_n 0, 1) := by decide +kernel
theorem dX11_carry_67 : decode cX11_carry 67 = .ok (.aload_n 0, 1) := by decide +kernel
theorem dX11_carry_68 : decode cX11_carry 68 = .ok (.getfield 163, 3) := by decide +kernel
theorem dX11_carry_71 : decode cX11_carry 71 = .ok (.iload_n 2, 1) := by decide +kernel
theorem dX11_carry_72 : decode cX11_carry 72 = .ok (.iaload, 1) := by decide +kernel
theorem dX11_carry_73 : decode cX11_carry 73 = .ok (.putfield 258, 3) := by decide +kernel
theorem dX11_carry_76 : decode cX11_carry 76 = .ok (.aload_n 0, 1) := by decide +kernel
theorem dX11_carry_77 : decode cX11_carry 77 = .ok (.aload_n 0, 1) := by decide +kernel
theorem dX11_carry_78 : decode cX11_carry 78 = .ok (.getfield 49, 3) := by decide +kernel
theorem dX11_carry_81 : decode cX11_carry 81 = .ok (.iload_n 2, 1) := by decide +kernel
theorem dX11_carry_82 : decode cX11_carry 82 = .ok (.iaload, 1) := by decide +kernel
theorem dX11_carry_83 : decode cX11_carry 83 = .ok (.putfield 321, 3) := by decide +kernel
theorem dX11_carry_86 : decode cX11_carry 86 = .ok (.aload_n 0, 1) := by decide +kernel
theorem dX11_carry_87 : decode cX11_carry 87 = .ok (.aload_n 0, 1) := by decide +kernel
theorem dX11_carry_88 : decode cX11_carry 88 = .ok (.getfield 52, 3) := by decide +kernel
theorem dX11_carry_91 : decode cX11_carry 91 = .ok (.iload_n 2, 1) := by decide +kernel
theorem dX11_carry_92 : decode cX11_carry 92 = .ok (.iaload, 1) := by decide +kernel
theorem dX11_carry_93 : decode cX11_carry 93 = .ok (.putfield 324, 3) := by decide +kernel
theorem dX11_carry_96 : decode cX11_carry 96 = .ok (.aload_n 0, 1) := by decide +kernel
theorem dX11_carry_97 : decode cX11_carry 97 = .ok (.iload_n 1, 1) := by decide +kernel
theorem dX11_carry_98 : decode cX11_carry 98 = .ok (.putfield 145, 3) := by decide +kernel
theorem dX11_carry_101 : decode cX11_carry 101 = .ok (.aload_n 0, 1) := by decide +kernel
theorem dX11_carry_102 : decode cX11_carry 102 = .ok (.dup, 1) := by decide +kernel
theorem dX11_carry_103 : decode cX11_carry 103 = .ok (.getfield 327, 3) := by decide +kernel
theorem dX11_carry_106 : decode cX11_carry 106 = .ok (.iconst 1, 1) := by decide +kernel
theorem dX11_carry_107 : decode cX11_carry 107 = .ok (.iadd, 1) := by decide +kernel
theorem dX11_carry_108 : decode cX11_carry 108 = .ok (.putfield 327, 3) := by decide +kernel
theorem dX11_carry_111 : decode cX11_carry 111 = .ok (.aload_n 0, 1) := by decide +kernel
theorem dX11_carry_112 : decode cX11_carry 112 = .ok (.iload_n 1, 1) := by decide +kernel
theorem dX11_carry_113 : decode cX11_carry 113 = .ok (.invokevirtual 197, 3) := by decide +kernel
theorem dX11_carry_116 : decode cX11_carry 116 = .ok (.aload_n 0, 1) := by decide +kernel
theorem dX11_carry_117 : decode cX11_carry 117 = .ok (.getfield 318, 3) := by decide +kernel
theorem dX11_carry_120 : decode cX11_carry 120 = .ok (.bipush 16, 2) := by decide +kernel
theorem dX11_carry_122 : decode cX11_carry 122 = .ok (.ishr, 1) := by decide +kernel
theorem dX11_carry_123 : decode cX11_carry 123 = .ok (.sipush 1023, 3) := by decide +kernel
theorem dX11_carry_126 : decode cX11_carry 126 = .ok (.iand, 1) := by decide +kernel
theorem dX11_carry_127 : decode cX11_carry 127 = .ok (.sipush 238, 3) := by decide +kernel
theorem dX11_carry_130 : decode cX11_carry 130 = .ok (.if_icmp .ne 20, 3) := by decide +kernel
theorem dX11_carry_133 : decode cX11_carry 133 = .ok (.aload_n 0, 1) := by decide +kernel
theorem dX11_carry_134 : decode cX11_carry 134 = .ok (.getfield 30, 3) := by decide +kernel
theorem dX11_carry_137 : decode cX11_carry 137 = .ok (.iload_n 1, 1) := by decide +kernel
theorem dX11_carry_138 : decode cX11_carry 138 = .ok (.aload_n 0, 1) := by decide +kernel
theorem dX11_carry_139 : decode cX11_carry 139 = .ok (.getfield 220, 3) := by decide +kernel
theorem dX11_carry_142 : decode cX11_carry 142 = .ok (.iastore, 1) := by decide +kernel
theorem dX11_carry_143 : decode cX11_carry 143 = .ok (.aload_n 0, 1) := by decide +kernel
theorem dX11_carry_144 : decode cX11_carry 144 = .ok (.getfield 62, 3) := by decide +kernel
theorem dX11_carry_147 : decode cX11_carry 147 = .ok (.iload_n 1, 1) := by decide +kernel
theorem dX11_carry_148 : decode cX11_carry 148 = .ok (.iconst 0, 1) := by decide +kernel
theorem dX11_carry_149 : decode cX11_carry 149 = .ok (.bastore, 1) := by decide +kernel
theorem dX11_carry_150 : decode cX11_carry 150 = .ok (.aload_n 0, 1) := by decide +kernel
theorem dX11_carry_151 : decode cX11_carry 151 = .ok (.getfield 318, 3) := by decide +kernel
theorem dX11_carry_154 : decode cX11_carry 154 = .ok (.istore_n 3, 1) := by decide +kernel
theorem dX11_carry_155 : decode cX11_carry 155 = .ok (.iconst 0, 1) := by decide +kernel
theorem dX11_carry_156 : decode cX11_carry 156 = .ok (.istore 4, 2) := by decide +kernel
theorem dX11_carry_158 : decode cX11_carry 158 = .ok (.iload 4, 2) := by decide +kernel
theorem dX11_carry_160 : decode cX11_carry 160 = .ok (.aload_n 0, 1) := by decide +kernel
theorem dX11_carry_161 : decode cX11_carry 161 = .ok (.getfield 172, 3) := by decide +kernel
theorem dX11_carry_164 : decode cX11_carry 164 = .ok (.if_icmp .ge 81, 3) := by decide +kernel
theorem dX11_carry_167 : decode cX11_carry 167 = .ok (.iload 4, 2) := by decide +kernel
theorem dX11_carry_169 : decode cX11_carry 169 = .ok (.iload_n 1, 1) := by decide +kernel
theorem dX11_carry_170 : decode cX11_carry 170 = .ok (.if_icmp .eq 69, 3) := by decide +kernel
theorem dX11_carry_173 : decode cX11_carry 173 = .ok (.aload_n 0, 1) := by decide +kernel
theorem dX11_carry_174 : decode cX11_carry 174 = .ok (.getfield 27, 3) := by decide +kernel
theorem dX11_carry_177 : decode cX11_carry 177 = .ok (.iload 4, 2) := by decide +kernel
theorem dX11_carry_179 : decode cX11_carry 179 = .ok (.iaload, 1) := by decide +kernel
theorem dX11_carry_180 : decode cX11_carry 180 = .ok (.ifCond .eq 59, 3) := by decide +kernel
theorem dX11_carry_183 : decode cX11_carry 183 = .ok (.aload_n 0, 1) := by decide +kernel
theorem dX11_carry_184 : decode cX11_carry 184 = .ok (.getfield 126, 3) := by decide +kernel
theorem dX11_carry_187 : decode cX11_carry 187 = .ok (.iload 4, 2) := by decide +kernel
theorem dX11_carry_189 : decode cX11_carry 189 = .ok (.iaload, 1) := by decide +kernel
theorem dX11_carry_190 : decode cX11_carry 190 = .ok (.ifCond .le 33, 3) := by decide +kernel
theorem dX11_carry_193 : decode cX11_carry 193 = .ok (.aload_n 0, 1) := by decide +kernel
theorem dX11_carry_194 : decode cX11_carry 194 = .ok (.getfield 126, 3) := by decide +kernel
theorem dX11_carry_197 : decode cX11_carry 197 = .ok (.iload 4, 2) := by decide +kernel
theorem dX11_carry_199 : decode cX11_carry 199 = .ok (.dup2, 1) := by decide +kernel
theorem dX11_carry_200 : decode cX11_carry 200 = .ok (.iaload, 1) := by decide +kernel
theorem dX11_carry_201 : decode cX11_carry 201 = .ok (.iconst 1, 1) := by decide +kernel
theorem dX11_carry_202 : decode cX11_carry 202 = .ok (.isub, 1) := by decide +kernel
theorem dX11_carry_203 : decode cX11_carry 203 = .ok (.iastore, 1) := by decide +kernel
theorem dX11_carry_204 : decode cX11_carry 204 = .ok (.aload_n 0, 1) := by decide +kernel
theorem dX11_carry_205 : decode cX11_carry 205 = .ok (.getfield 129, 3) := by decide +kernel
theorem dX11_carry_208 : decode cX11_carry 208 = .ok (.iload 4, 2) := by decide +kernel
theorem dX11_carry_210 : decode cX11_carry 210 = .ok (.dup2, 1) := by decide +kernel
theorem dX11_carry_211 : decode cX11_carry 211 = .ok (.iaload, 1) := by decide +kernel
theorem dX11_carry_212 : decode cX11_carry 212 = .ok (.iconst 1, 1) := by decide +kernel
theorem dX11_carry_213 : decode cX11_carry 213 = .ok (.iadd, 1) := by decide +kernel
theorem dX11_carry_214 : decode cX11_carry 214 = .ok (.iastore, 1) := by decide +kernel
theorem dX11_carry_215 : decode cX11_carry 215 = .ok (.aload_n 0, 1) := by decide +kernel
theorem dX11_carry_216 : decode cX11_carry 216 = .ok (.iconst 1, 1) := by decide +kernel
theorem dX11_carry_217 : decode cX11_carry 217 = .ok (.putfield 213, 3) := by decide +kernel
theorem dX11_carry_220 : decode cX11_carry 220 = .ok (.goto 19, 3) := by decide +kernel
theorem dX11_carry_223 : decode cX11_carry 223 = .ok (.aload_n 0, 1) := by decide +kernel
theorem dX11_carry_224 : decode cX11_carry 224 = .ok (.iload 4, 2) := by decide +kernel
theorem dX11_carry_226 : decode cX11_carry 226 = .ok (.iload_n 1, 1) := by decide +kernel
theorem dX11_carry_227 : decode cX11_carry 227 = .ok (.iload_n 3, 1) := by decide +kernel
theorem dX11_carry_228 : decode cX11_carry 228 = .ok (.aload_n 0, 1) := by decide +kernel
theorem dX11_carry_229 : decode cX11_carry 229 = .ok (.getfield 321, 3) := by decide +kernel
theorem dX11_carry_232 : decode cX11_carry 232 = .ok (.aload_n 0, 1) := by decide +kernel
theorem dX11_carry_233 : decode cX11_carry 233 = .ok (.getfield 324, 3) := by decide +kernel
theorem dX11_carry_236 : decode cX11_carry 236 = .ok (.invokevirtual 330, 3) := by decide +kernel
theorem dX11_carry_239 : decode cX11_carry 239 = .ok (.iinc 4 1, 3) := by decide +kernel
theorem dX11_carry_242 : decode cX11_carry 242 = .ok (.goto (-84), 3) := by decide +kernel
theorem dX11_carry_245 : decode cX11_carry 245 = .ok (.return_, 1) := by decide +kernel
theorem dX11_pass_0 : decode cX11_pass 0 = .ok (.iload_n 1, 1) := by decide +kernel
theorem dX11_pass_1 : decode cX11_pass 1 = .ok (.iconst 1, 1) := by decide +kernel
theorem dX11_pass_2 : decode cX11_pass 2 = .ok (.sipush 5000, 3) := by decide +kernel
theorem dX11_pass_5 : decode cX11_pass 5 = .ok (.invokestatic 175, 3) := by decide +kernel
theorem dX11_pass_8 : decode cX11_pass 8 = .ok (.ifCond .ne 5, 3) := by decide +kernel
theorem dX11_pass_11 : decode cX11_pass 11 = .ok (.iconst (-1), 1) := by decide +kernel
theorem dX11_pass_12 : decode cX11_pass 12 = .ok (.ireturn, 1) := by decide +kernel
theorem dX11_pass_13 : decode cX11_pass 13 = .ok (.iconst 0, 1) := by decide +kernel
theorem dX11_pass_14 : decode cX11_pass 14 = .ok (.istore_n 2, 1) := by decide +kernel
theorem dX11_pass_15 : decode cX11_pass 15 = .ok (.iload_n 2, 1) := by decide +kernel
theorem dX11_pass_16 : decode cX11_pass 16 = .ok (.iload_n 1, 1) := by decide +kernel
theorem dX11_pass_17 : decode cX11_pass 17 = .ok (.if_icmp .ge 44, 3) := by decide +kernel
theorem dX11_pass_20 : decode cX11_pass 20 = .ok (.aload_n 0, 1) := by decide +kernel
theorem dX11_pass_21 : decode cX11_pass 21 = .ok (.dup, 1) := by decide +kernel
theorem dX11_pass_22 : decode cX11_pass 22 = .ok (.getfield 220, 3) := by decide +kernel
theorem dX11_pass_25 : decode cX11_pass 25 = .ok (.iconst 1, 1) := by decide +kernel
theorem dX11_pass_26 : decode cX11_pass 26 = .ok (.iadd, 1) := by decide +kernel
theorem dX11_pass_27 : decode cX11_pass 27 = .ok (.putfield 220, 3) := by decide +kernel
theorem dX11_pass_30 : decode cX11_pass 30 = .ok (.iconst 0, 1) := by decide +kernel
theorem dX11_pass_31 : decode cX11_pass 31 = .ok (.istore_n 3, 1) := by decide +kernel
theorem dX11_pass_32 : decode cX11_pass 32 = .ok (.iload_n 3, 1) := by decide +kernel
theorem dX11_pass_33 : decode cX11_pass 33 = .ok (.aload_n 0, 1) := by decide +kernel
theorem dX11_pass_34 : decode cX11_pass 34 = .ok (.getfield 172, 3) := by decide +kernel
theorem dX11_pass_37 : decode cX11_pass 37 = .ok (.if_icmp .ge 14, 3) := by decide +kernel
theorem dX11_pass_40 : decode cX11_pass 40 = .ok (.aload_n 0, 1) := by decide +kernel
theorem dX11_pass_41 : decode cX11_pass 41 = .ok (.iload_n 3, 1) := by decide +kernel
theorem dX11_pass_42 : decode cX11_pass 42 = .ok (.invokevirtual 333, 3) := by decide +kernel
theorem dX11_pass_45 : decode cX11_pass 45 = .ok (.iinc 3 1, 3) := by decide +kernel
theorem dX11_pass_48 : decode cX11_pass 48 = .ok (.goto (-16), 3) := by decide +kernel
theorem dX11_pass_51 : decode cX11_pass 51 = .ok (.aload_n 0, 1) := by decide +kernel
theorem dX11_pass_52 : decode cX11_pass 52 = .ok (.invokevirtual 336, 3) := by decide +kernel
theorem dX11_pass_55 : decode cX11_pass 55 = .ok (.iinc 2 1, 3) := by decide +kernel
theorem dX11_pass_58 : decode cX11_pass 58 = .ok (.goto (-43), 3) := by decide +kernel
theorem dX11_pass_61 : decode cX11_pass 61 = .ok (.aload_n 0, 1) := by decide +kernel
theorem dX11_pass_62 : decode cX11_pass 62 = .ok (.getfield 220, 3) := by decide +kernel
theorem dX11_pass_65 : decode cX11_pass 65 = .ok (.ireturn, 1) := by decide +kernel
theorem dX11_told_0 : decode cX11_told 0 = .ok (.aload_n 0, 1) := by decide +kernel
theorem dX11_told_1 : decode cX11_told 1 = .ok (.iload_n 1, 1) := by decide +kernel
theorem dX11_told_2 : decode cX11_told 2 = .ok (.invokevirtual 203, 3) := by decide +kernel
theorem dX11_told_5 : decode cX11_told 5 = .ok (.ifCond .ne 5, 3) := by decide +kernel
theorem dX11_told_8 : decode cX11_told 8 = .ok (.iconst (-1), 1) := by decide +kernel
theorem dX11_told_9 : decode cX11_told 9 = .ok (.ireturn, 1) := by decide +kernel
theorem dX11_told_10 : decode cX11_told 10 = .ok (.iconst 0, 1) := by decide +kernel
theorem dX11_told_11 : decode cX11_told 11 = .ok (.istore_n 3, 1) := by decide +kernel
theorem dX11_told_12 : decode cX11_told 12 = .ok (.bipush 40, 2) := by decide +kernel
theorem dX11_told_14 : decode cX11_told 14 = .ok (.iload_n 1, 1) := by decide +kernel
theorem dX11_told_15 : decode cX11_told 15 = .ok (.imul, 1) := by decide +kernel
theorem dX11_told_16 : decode cX11_told 16 = .ok (.istore 4, 2) := by decide +kernel
theorem dX11_told_18 : decode cX11_told 18 = .ok (.iload 4, 2) := by decide +kernel
theorem dX11_told_20 : decode cX11_told 20 = .ok (.bipush 40, 2) := by decide +kernel
theorem dX11_told_22 : decode cX11_told 22 = .ok (.iload_n 1, 1) := by decide +kernel
theorem dX11_told_23 : decode cX11_told 23 = .ok (.imul, 1) := by decide +kernel
theorem dX11_told_24 : decode cX11_told 24 = .ok (.bipush 40, 2) := by decide +kernel
theorem dX11_told_26 : decode cX11_told 26 = .ok (.iadd, 1) := by decide +kernel
theorem dX11_told_27 : decode cX11_told 27 = .ok (.if_icmp .ge 28, 3) := by decide +kernel
theorem dX11_told_30 : decode cX11_told 30 = .ok (.iload_n 3, 1) := by decide +kernel
theorem dX11_told_31 : decode cX11_told 31 = .ok (.aload_n 0, 1) := by decide +kernel
theorem dX11_told_32 : decode cX11_told 32 = .ok (.getfield 86, 3) := by decide +kernel
theorem dX11_told_35 : decode cX11_told 35 = .ok (.iload 4, 2) := by decide +kernel
theorem dX11_told_37 : decode cX11_told 37 = .ok (.iaload, 1) := by decide +kernel
theorem dX11_told_38 : decode cX11_told 38 = .ok (.iconst (-1), 1) := by decide +kernel
theorem dX11_told_39 : decode cX11_told 39 = .ok (.if_icmp .eq 7, 3) := by decide +kernel
theorem dX11_told_42 : decode cX11_told 42 = .ok (.iconst 1, 1) := by decide +kernel
theorem dX11_told_43 : decode cX11_told 43 = .ok (.goto 4, 3) := by decide +kernel
theorem dX11_told_46 : decode cX11_told 46 = .ok (.iconst 0, 1) := by decide +kernel
theorem dX11_told_47 : decode cX11_told 47 = .ok (.iadd, 1) := by decide +kernel
theorem dX11_told_48 : decode cX11_told 48 = .ok (.istore_n 3, 1) := by decide +kernel
theorem dX11_told_49 : decode cX11_told 49 = .ok (.iinc 4 1, 3) := by decide +kernel
theorem dX11_told_52 : decode cX11_told 52 = .ok (.goto (-34), 3) := by decide +kernel
theorem dX11_told_55 : decode cX11_told 55 = .ok (.iload_n 2, 1) := by decide +kernel
theorem dX11_told_56 : decode cX11_told 56 = .ok (.tableswitch 104 0 6 #[44, 51, 74, 81, 88, 95, 97], 44) := by decide +kernel
theorem dX11_told_100 : decode cX11_told 100 = .ok (.aload_n 0, 1) := by decide +kernel
theorem dX11_told_101 : decode cX11_told 101 = .ok (.getfield 27, 3) := by decide +kernel
theorem dX11_told_104 : decode cX11_told 104 = .ok (.iload_n 1, 1) := by decide +kernel
theorem dX11_told_105 : decode cX11_told 105 = .ok (.iaload, 1) := by decide +kernel
theorem dX11_told_106 : decode cX11_told 106 = .ok (.ireturn, 1) := by decide +kernel
theorem dX11_told_107 : decode cX11_told 107 = .ok (.aload_n 0, 1) := by decide +kernel
theorem dX11_told_108 : decode cX11_told 108 = .ok (.getfield 27, 3) := by decide +kernel
theorem dX11_told_111 : decode cX11_told 111 = .ok (.iload_n 1, 1) := by decide +kernel
theorem dX11_told_112 : decode cX11_told 112 = .ok (.iaload, 1) := by decide +kernel
theorem dX11_told_113 : decode cX11_told 113 = .ok (.iconst 3, 1) := by decide +kernel
theorem dX11_told_114 : decode cX11_told 114 = .ok (.if_icmp .ne 9, 3) := by decide +kernel
theorem dX11_told_117 : decode cX11_told 117 = .ok (.sipush 254, 3) := by decide +kernel
theorem dX11_told_120 : decode cX11_told 120 = .ok (.goto 9, 3) := by decide +kernel
theorem dX11_told_123 : decode cX11_told 123 = .ok (.aload_n 0, 1) := by decide +kernel
theorem dX11_told_124 : decode cX11_told 124 = .ok (.getfield 17, 3) := by decide +kernel
theorem dX11_told_127 : decode cX11_told 127 = .ok (.iload_n 1, 1) := by decide +kernel
theorem dX11_told_128 : decode cX11_told 128 = .ok (.iaload, 1) := by decide +kernel
theorem dX11_told_129 : decode cX11_told 129 = .ok (.ireturn, 1) := by decide +kernel
theorem dX11_told_130 : decode cX11_told 130 = .ok (.aload_n 0, 1) := by decide +kernel
theorem dX11_told_131 : decode cX11_told 131 = .ok (.getfield 42, 3) := by decide +kernel
theorem dX11_told_134 : decode cX11_told 134 = .ok (.iload_n 1, 1) := by decide +kernel
theorem dX11_told_135 : decode cX11_told 135 = .ok (.iaload, 1) := by decide +kernel
theorem dX11_told_136 : decode cX11_told 136 = .ok (.ireturn, 1) := by decide +kernel
theorem dX11_told_137 : decode cX11_told 137 = .ok (.aload_n 0, 1) := by decide +kernel
theorem dX11_told_138 : decode cX11_told 138 = .ok (.getfield 65, 3) := by decide +kernel
theorem dX11_told_141 : decode cX11_told 141 = .ok (.iload_n 1, 1) := by decide +kernel
theorem dX11_told_142 : decode cX11_told 142 = .ok (.iaload, 1) := by decide +kernel
theorem dX11_told_143 : decode cX11_told 143 = .ok (.ireturn, 1) := by decide +kernel
theorem dX11_told_144 : decode cX11_told 144 = .ok (.aload_n 0, 1) := by decide +kernel
theorem dX11_told_145 : decode cX11_told 145 = .ok (.getfield 120, 3) := by decide +kernel
theorem dX11_told_148 : decode cX11_told 148 = .ok (.iload_n 1, 1) := by decide +kernel
theorem dX11_told_149 : decode cX11_told 149 = .ok (.iaload, 1) := by decide +kernel
theorem dX11_told_150 : decode cX11_told 150 = .ok (.ireturn, 1) := by decide +kernel
theorem dX11_told_151 : decode cX11_told 151 = .ok (.iload_n 3, 1) := by decide +kernel
theorem dX11_told_152 : decode cX11_told 152 = .ok (.ireturn, 1) := by decide +kernel
theorem dX11_told_153 : decode cX11_told 153 = .ok (.aload_n 0, 1) := by decide +kernel
theorem dX11_told_154 : decode cX11_told 154 = .ok (.getfield 129, 3) := by decide +kernel
theorem dX11_told_157 : decode cX11_told 157 = .ok (.iload_n 1, 1) := by decide +kernel
theorem dX11_told_158 : decode cX11_told 158 = .ok (.iaload, 1) := by decide +kernel
theorem dX11_told_159 : decode cX11_told 159 = .ok (.ireturn, 1) := by decide +kernel
theorem dX11_told_160 : decode cX11_told 160 = .ok (.iconst (-1), 1) := by decide +kernel
theorem dX11_told_161 : decode cX11_told 161 = .ok (.ireturn, 1) := by decide +kernel
theorem dX11_table_0 : decode cX11_table 0 = .ok (.aload_n 0, 1) := by decide +kernel
theorem dX11_table_1 : decode cX11_table 1 = .ok (.iload_n 1, 1) := by decide +kernel
theorem dX11_table_2 : decode cX11_table 2 = .ok (.invokevirtual 203, 3) := by decide +kernel
theorem dX11_table_5 : decode cX11_table 5 = .ok (.ifCond .eq 29, 3) := by decide +kernel
theorem dX11_table_8 : decode cX11_table 8 = .ok (.iload_n 2, 1) := by decide +kernel
theorem dX11_table_9 : decode cX11_table 9 = .ok (.iconst 0, 1) := by decide +kernel
theorem dX11_table_10 : decode cX11_table 10 = .ok (.sipush 255, 3) := by decide +kernel
theorem dX11_table_13 : decode cX11_table 13 = .ok (.invokestatic 175, 3) := by decide +kernel
theorem dX11_table_16 : decode cX11_table 16 = .ok (.ifCond .eq 18, 3) := by decide +kernel
theorem dX11_table_19 : decode cX11_table 19 = .ok (.aload_n 0, 1) := by decide +kernel
theorem dX11_table_20 : decode cX11_table 20 = .ok (.getfield 33, 3) := by decide +kernel
theorem dX11_table_23 : decode cX11_table 23 = .ok (.sipush 256, 3) := by decide +kernel
theorem dX11_table_26 : decode cX11_table 26 = .ok (.iload_n 1, 1) := by decide +kernel
theorem dX11_table_27 : decode cX11_table 27 = .ok (.imul, 1) := by decide +kernel
theorem dX11_table_28 : decode cX11_table 28 = .ok (.iload_n 2, 1) := by decide +kernel
theorem dX11_table_29 : decode cX11_table 29 = .ok (.iadd, 1) := by decide +kernel
theorem dX11_table_30 : decode cX11_table 30 = .ok (.iaload, 1) := by decide +kernel
theorem dX11_table_31 : decode cX11_table 31 = .ok (.goto 4, 3) := by decide +kernel
theorem dX11_table_34 : decode cX11_table 34 = .ok (.iconst (-1), 1) := by decide +kernel
theorem dX11_table_35 : decode cX11_table 35 = .ok (.ireturn, 1) := by decide +kernel
theorem dX11_message_0 : decode cX11_message 0 = .ok (.aload_n 0, 1) := by decide +kernel
theorem dX11_message_1 : decode cX11_message 1 = .ok (.iload_n 1, 1) := by decide +kernel
theorem dX11_message_2 : decode cX11_message 2 = .ok (.invokevirtual 203, 3) := by decide +kernel
theorem dX11_message_5 : decode cX11_message 5 = .ok (.ifCond .eq 32, 3) := by decide +kernel
theorem dX11_message_8 : decode cX11_message 8 = .ok (.iload_n 2, 1) := by decide +kernel
theorem dX11_message_9 : decode cX11_message 9 = .ok (.iconst 0, 1) := by decide +kernel
theorem dX11_message_10 : decode cX11_message 10 = .ok (.bipush 19, 2) := by decide +kernel
theorem dX11_message_12 : decode cX11_message 12 = .ok (.invokestatic 175, 3) := by decide +kernel
theorem dX11_message_15 : decode cX11_message 15 = .ok (.ifCond .eq 22, 3) := by decide +kernel
theorem dX11_message_18 : decode cX11_message 18 = .ok (.iload_n 2, 1) := by decide +kernel
theorem dX11_message_19 : decode cX11_message 19 = .ok (.aload_n 0, 1) := by decide +kernel
theorem dX11_message_20 : decode cX11_message 20 = .ok (.getfield 120, 3) := by decide +kernel
theorem dX11_message_23 : decode cX11_message 23 = .ok (.iload_n 1, 1) := by decide +kernel
theorem dX11_message_24 : decode cX11_message 24 = .ok (.iaload, 1) := by decide +kernel
theorem dX11_message_25 : decode cX11_message 25 = .ok (.if_icmp .ge 12, 3) := by decide +kernel
theorem dX11_message_28 : decode cX11_message 28 = .ok (.iload_n 3, 1) := by decide +kernel
theorem dX11_message_29 : decode cX11_message 29 = .ok (.iconst 0, 1) := by decide +kernel
theorem dX11_message_30 : decode cX11_message 30 = .ok (.iconst 3, 1) := by decide +kernel
theorem dX11_message_31 : decode cX11_message 31 = .ok (.invokestatic 175, 3) := by decide +kernel
theorem dX11_message_34 : decode cX11_message 34 = .ok (.ifCond .ne 5, 3) := by decide +kernel
theorem dX11_message_37 : decode cX11_message 37 = .ok (.iconst (-1), 1) := by decide +kernel
theorem dX11_message_38 : decode cX11_message 38 = .ok (.ireturn, 1) := by decide +kernel
theorem dX11_message_39 : decode cX11_message 39 = .ok (.aload_n 0, 1) := by decide +kernel
theorem dX11_message_40 : decode cX11_message 40 = .ok (.getfield 123, 3) := by decide +kernel
theorem dX11_message_43 : decode cX11_message 43 = .ok (.iconst 4, 1) := by decide +kernel
theorem dX11_message_44 : decode cX11_message 44 = .ok (.bipush 20, 2) := by decide +kernel
theorem dX11_message_46 : decode cX11_message 46 = .ok (.iload_n 1, 1) := by decide +kernel
theorem dX11_message_47 : decode cX11_message 47 = .ok (.imul, 1) := by decide +kernel
theorem dX11_message_48 : decode cX11_message 48 = .ok (.iload_n 2, 1) := by decide +kernel
theorem dX11_message_49 : decode cX11_message 49 = .ok (.iadd, 1) := by decide +kernel
theorem dX11_message_50 : decode cX11_message 50 = .ok (.imul, 1) := by decide +kernel
theorem dX11_message_51 : decode cX11_message 51 = .ok (.iload_n 3, 1) := by decide +kernel
theorem dX11_message_52 : decode cX11_message 52 = .ok (.iadd, 1) := by decide +kernel
theorem dX11_message_53 : decode cX11_message 53 = .ok (.iaload, 1) := by decide +kernel
theorem dX11_message_54 : decode cX11_message 54 = .ok (.ireturn, 1) := by decide +kernel
theorem dX11_kept_0 : decode cX11_kept 0 = .ok (.aload_n 0, 1) := by decide +kernel
theorem dX11_kept_1 : decode cX11_kept 1 = .ok (.iload_n 1, 1) := by decide +kernel
theorem dX11_kept_2 : decode cX11_kept 2 = .ok (.invokevirtual 203, 3) := by decide +kernel
theorem dX11_kept_5 : decode cX11_kept 5 = .ok (.ifCond .eq 30, 3) := by decide +kernel
theorem dX11_kept_8 : decode cX11_kept 8 = .ok (.iload_n 2, 1) := by decide +kernel
theorem dX11_kept_9 : decode cX11_kept 9 = .ok (.iconst 0, 1) := by decide +kernel
theorem dX11_kept_10 : decode cX11_kept 10 = .ok (.sipush 255, 3) := by decide +kernel
theorem dX11_kept_13 : decode cX11_kept 13 = .ok (.invokestatic 175, 3) := by decide +kernel
theorem dX11_kept_16 : decode cX11_kept 16 = .ok (.ifCond .eq 19, 3) := by decide +kernel
theorem dX11_kept_19 : decode cX11_kept 19 = .ok (.aload_n 0, 1) := by decide +kernel
theorem dX11_kept_20 : decode cX11_kept 20 = .ok (.getfield 138, 3) := by decide +kernel
theorem dX11_kept_23 : decode cX11_kept 23 = .ok (.sipush 256, 3) := by decide +kernel
theorem dX11_kept_26 : decode cX11_kept 26 = .ok (.iload_n 1, 1) := by decide +kernel
theorem dX11_kept_27 : decode cX11_kept 27 = .ok (.imul, 1) := by decide +kernel
theorem dX11_kept_28 : decode cX11_kept 28 = .ok (.iload_n 2, 1) := by decide +kernel
theorem dX11_kept_29 : decode cX11_kept 29 = .ok (.iadd, 1) := by decide +kernel
theorem dX11_kept_30 : decode cX11_kept 30 = .ok (.iaload, 1) := by decide +kernel
theorem dX11_kept_31 : decode cX11_kept 31 = .ok (.iconst (-1), 1) := by decide +kernel
theorem dX11_kept_32 : decode cX11_kept 32 = .ok (.if_icmp .ne 5, 3) := by decide +kernel
theorem dX11_kept_35 : decode cX11_kept 35 = .ok (.iconst (-1), 1) := by decide +kernel
theorem dX11_kept_36 : decode cX11_kept 36 = .ok (.ireturn, 1) := by decide +kernel
theorem dX11_kept_37 : decode cX11_kept 37 = .ok (.aload_n 0, 1) := by decide +kernel
theorem dX11_kept_38 : decode cX11_kept 38 = .ok (.getfield 138, 3) := by decide +kernel
theorem dX11_kept_41 : decode cX11_kept 41 = .ok (.sipush 256, 3) := by decide +kernel
theorem dX11_kept_44 : decode cX11_kept 44 = .ok (.iload_n 1, 1) := by decide +kernel
theorem dX11_kept_45 : decode cX11_kept 45 = .ok (.imul, 1) := by decide +kernel
theorem dX11_kept_46 : decode cX11_kept 46 = .ok (.iload_n 2, 1) := by decide +kernel
theorem dX11_kept_47 : decode cX11_kept 47 = .ok (.iadd, 1) := by decide +kernel
theorem dX11_kept_48 : decode cX11_kept 48 = .ok (.iaload, 1) := by decide +kernel
theorem dX11_kept_49 : decode cX11_kept 49 = .ok (.istore 5, 2) := by decide +kernel
theorem dX11_kept_51 : decode cX11_kept 51 = .ok (.iload_n 3, 1) := by decide +kernel
theorem dX11_kept_52 : decode cX11_kept 52 = .ok (.iconst (-1), 1) := by decide +kernel
theorem dX11_kept_53 : decode cX11_kept 53 = .ok (.if_icmp .ne 6, 3) := by decide +kernel
theorem dX11_kept_56 : decode cX11_kept 56 = .ok (.iload 5, 2) := by decide +kernel
theorem dX11_kept_58 : decode cX11_kept 58 = .ok (.ireturn, 1) := by decide +kernel
theorem dX11_kept_59 : decode cX11_kept 59 = .ok (.iload_n 3, 1) := by decide +kernel
theorem dX11_kept_60 : decode cX11_kept 60 = .ok (.iconst 0, 1) := by decide +kernel
theorem dX11_kept_61 : decode cX11_kept 61 = .ok (.iload 5, 2) := by decide +kernel
theorem dX11_kept_63 : decode cX11_kept 63 = .ok (.iconst 1, 1) := by decide +kernel
theorem dX11_kept_64 : decode cX11_kept 64 = .ok (.isub, 1) := by decide +kernel
theorem dX11_kept_65 : decode cX11_kept 65 = .ok (.invokestatic 175, 3) := by decide +kernel
theorem dX11_kept_68 : decode cX11_kept 68 = .ok (.ifCond .eq 38, 3) := by decide +kernel
theorem dX11_kept_71 : decode cX11_kept 71 = .ok (.iload 4, 2) := by decide +kernel
theorem dX11_kept_73 : decode cX11_kept 73 = .ok (.iconst 0, 1) := by decide +kernel
theorem dX11_kept_74 : decode cX11_kept 74 = .ok (.iconst 2, 1) := by decide +kernel
theorem dX11_kept_75 : decode cX11_kept 75 = .ok (.invokestatic 175, 3) := by decide +kernel
theorem dX11_kept_78 : decode cX11_kept 78 = .ok (.ifCond .eq 28, 3) := by decide +kernel
theorem dX11_kept_81 : decode cX11_kept 81 = .ok (.aload_n 0, 1) := by decide +kernel
theorem dX11_kept_82 : decode cX11_kept 82 = .ok (.getfield 142, 3) := by decide +kernel
theorem dX11_kept_85 : decode cX11_kept 85 = .ok (.iconst 3, 1) := by decide +kernel
theorem dX11_kept_86 : decode cX11_kept 86 = .ok (.bipush 10, 2) := by decide +kernel
theorem dX11_kept_88 : decode cX11_kept 88 = .ok (.sipush 256, 3) := by decide +kernel
theorem dX11_kept_91 : decode cX11_kept 91 = .ok (.iload_n 1, 1) := by decide +kernel
theorem dX11_kept_92 : decode cX11_kept 92 = .ok (.imul, 1) := by decide +kernel
theorem dX11_kept_93 : decode cX11_kept 93 = .ok (.iload_n 2, 1) := by decide +kernel
theorem dX11_kept_94 : decode cX11_kept 94 = .ok (.iadd, 1) := by decide +kernel
theorem dX11_kept_95 : decode cX11_kept 95 = .ok (.imul, 1) := by decide +kernel
theorem dX11_kept_96 : decode cX11_kept 96 = .ok (.iload_n 3, 1) := by decide +kernel
theorem dX11_kept_97 : decode cX11_kept 97 = .ok (.iadd, 1) := by decide +kernel
theorem dX11_kept_98 : decode cX11_kept 98 = .ok (.imul, 1) := by decide +kernel
theorem dX11_kept_99 : decode cX11_kept 99 = .ok (.iload 4, 2) := by decide +kernel
theorem dX11_kept_101 : decode cX11_kept 101 = .ok (.iadd, 1) := by decide +kernel
theorem dX11_kept_102 : decode cX11_kept 102 = .ok (.iaload, 1) := by decide +kernel
theorem dX11_kept_103 : decode cX11_kept 103 = .ok (.goto 4, 3) := by decide +kernel
theorem dX11_kept_106 : decode cX11_kept 106 = .ok (.iconst (-1), 1) := by decide +kernel
theorem dX11_kept_107 : decode cX11_kept 107 = .ok (.ireturn, 1) := by decide +kernel
theorem dX11_carried_0 : decode cX11_carried 0 = .ok (.iload_n 1, 1) := by decide +kernel
theorem dX11_carried_1 : decode cX11_carried 1 = .ok (.ifCond .ne 10, 3) := by decide +kernel
theorem dX11_carried_4 : decode cX11_carried 4 = .ok (.aload_n 0, 1) := by decide +kernel
theorem dX11_carried_5 : decode cX11_carried 5 = .ok (.getfield 318, 3) := by decide +kernel
theorem dX11_carried_8 : decode cX11_carried 8 = .ok (.goto 40, 3) := by decide +kernel
theorem dX11_carried_11 : decode cX11_carried 11 = .ok (.iload_n 1, 1) := by decide +kernel
theorem dX11_carried_12 : decode cX11_carried 12 = .ok (.iconst 1, 1) := by decide +kernel
theorem dX11_carried_13 : decode cX11_carried 13 = .ok (.if_icmp .ne 10, 3) := by decide +kernel
theorem dX11_carried_16 : decode cX11_carried 16 = .ok (.aload_n 0, 1) := by decide +kernel
theorem dX11_carried_17 : decode cX11_carried 17 = .ok (.getfield 321, 3) := by decide +kernel
theorem dX11_carried_20 : decode cX11_carried 20 = .ok (.goto 28, 3) := by decide +kernel
theorem dX11_carried_23 : decode cX11_carried 23 = .ok (.iload_n 1, 1) := by decide +kernel
theorem dX11_carried_24 : decode cX11_carried 24 = .ok (.iconst 2, 1) := by decide +kernel
theorem dX11_carried_25 : decode cX11_carried 25 = .ok (.if_icmp .ne 10, 3) := by decide +kernel
theorem dX11_carried_28 : decode cX11_carried 28 = .ok (.aload_n 0, 1) := by decide +kernel
theorem dX11_carried_29 : decode cX11_carried 29 = .ok (.getfield 324, 3) := by decide +kernel
theorem dX11_carried_32 : decode cX11_carried 32 = .ok (.goto 16, 3) := by decide +kernel
theorem dX11_carried_35 : decode cX11_carried 35 = .ok (.iload_n 1, 1) := by decide +kernel
theorem dX11_carried_36 : decode cX11_carried 36 = .ok (.iconst 3, 1) := by decide +kernel
theorem dX11_carried_37 : decode cX11_carried 37 = .ok (.if_icmp .ne 10, 3) := by decide +kernel
theorem dX11_carried_40 : decode cX11_carried 40 = .ok (.aload_n 0, 1) := by decide +kernel
theorem dX11_carried_41 : decode cX11_carried 41 = .ok (.getfield 145, 3) := by decide +kernel
theorem dX11_carried_44 : decode cX11_carried 44 = .ok (.goto 4, 3) := by decide +kernel
theorem dX11_carried_47 : decode cX11_carried 47 = .ok (.iconst 0, 1) := by decide +kernel
theorem dX11_carried_48 : decode cX11_carried 48 = .ok (.ireturn, 1) := by decide +kernel
theorem dX11_sound_0 : decode cX11_sound 0 = .ok (.aload_n 0, 1) := by decide +kernel
theorem dX11_sound_1 : decode cX11_sound 1 = .ok (.getfield 213, 3) := by decide +kernel
theorem dX11_sound_4 : decode cX11_sound 4 = .ok (.ifCond .eq 5, 3) := by decide +kernel
theorem dX11_sound_7 : decode cX11_sound 7 = .ok (.iconst 1, 1) := by decide +kernel
theorem dX11_sound_8 : decode cX11_sound 8 = .ok (.ireturn, 1) := by decide +kernel
theorem dX11_sound_9 : decode cX11_sound 9 = .ok (.aload_n 0, 1) := by decide +kernel
theorem dX11_sound_10 : decode cX11_sound 10 = .ok (.getfield 279, 3) := by decide +kernel
theorem dX11_sound_13 : decode cX11_sound 13 = .ok (.ifCond .ne 7, 3) := by decide +kernel
theorem dX11_sound_16 : decode cX11_sound 16 = .ok (.iconst 1, 1) := by decide +kernel
theorem dX11_sound_17 : decode cX11_sound 17 = .ok (.goto 4, 3) := by decide +kernel
theorem dX11_sound_20 : decode cX11_sound 20 = .ok (.iconst 0, 1) := by decide +kernel
theorem dX11_sound_21 : decode cX11_sound 21 = .ok (.istore_n 1, 1) := by decide +kernel
theorem dX11_sound_22 : decode cX11_sound 22 = .ok (.iconst 0, 1) := by decide +kernel
theorem dX11_sound_23 : decode cX11_sound 23 = .ok (.istore_n 2, 1) := by decide +kernel
theorem dX11_sound_24 : decode cX11_sound 24 = .ok (.iload_n 2, 1) := by decide +kernel
theorem dX11_sound_25 : decode cX11_sound 25 = .ok (.aload_n 0, 1) := by decide +kernel
theorem dX11_sound_26 : decode cX11_sound 26 = .ok (.getfield 172, 3) := by decide +kernel
theorem dX11_sound_29 : decode cX11_sound 29 = .ok (.if_icmp .ge 67, 3) := by decide +kernel
theorem dX11_sound_32 : decode cX11_sound 32 = .ok (.iconst 0, 1) := by decide +kernel
theorem dX11_sound_33 : decode cX11_sound 33 = .ok (.istore_n 3, 1) := by decide +kernel
theorem dX11_sound_34 : decode cX11_sound 34 = .ok (.iload_n 3, 1) := by decide +kernel
theorem dX11_sound_35 : decode cX11_sound 35 = .ok (.iload_n 2, 1) := by decide +kernel
theorem dX11_sound_36 : decode cX11_sound 36 = .ok (.if_icmp .ge 54, 3) := by decide +kernel
theorem dX11_sound_39 : decode cX11_sound 39 = .ok (.iload_n 1, 1) := by decide +kernel
theorem dX11_sound_40 : decode cX11_sound 40 = .ok (.ifCond .eq 42, 3) := by decide +kernel
theorem dX11_sound_43 : decode cX11_sound 43 = .ok (.aload_n 0, 1) := by decide +kernel
theorem dX11_sound_44 : decode cX11_sound 44 = .ok (.getfield 27, 3) := by decide +kernel
theorem dX11_sound_47 : decode cX11_sound 47 = .ok (.iload_n 2, 1) := by decide +kernel
theorem dX11_sound_48 : decode cX11_sound 48 = .ok (.iaload, 1) := by decide +kernel
theorem dX11_sound_49 : decode cX11_sound 49 = .ok (.iconst 2, 1) := by decide +kernel
theorem dX11_sound_50 : decode cX11_sound 50 = .ok (.if_icmp .ne 28, 3) := by decide +kernel
theorem dX11_sound_53 : decode cX11_sound 53 = .ok (.aload_n 0, 1) := by decide +kernel
theorem dX11_sound_54 : decode cX11_sound 54 = .ok (.getfield 27, 3) := by decide +kernel
theorem dX11_sound_57 : decode cX11_sound 57 = .ok (.iload_n 3, 1) := by decide +kernel
theorem dX11_sound_58 : decode cX11_sound 58 = .ok (.iaload, 1) := by decide +kernel
theorem dX11_sound_59 : decode cX11_sound 59 = .ok (.iconst 2, 1) := by decide +kernel
theorem dX11_sound_60 : decode cX11_sound 60 = .ok (.if_icmp .ne 18, 3) := by decide +kernel
theorem dX11_sound_63 : decode cX11_sound 63 = .ok (.aload_n 0, 1) := by decide +kernel
theorem dX11_sound_64 : decode cX11_sound 64 = .ok (.getfield 17, 3) := by decide +kernel
theorem dX11_sound_67 : decode cX11_sound 67 = .ok (.iload_n 2, 1) := by decide +kernel
theorem dX11_sound_68 : decode cX11_sound 68 = .ok (.iaload, 1) := by decide +kernel
theorem dX11_sound_69 : decode cX11_sound 69 = .ok (.aload_n 0, 1) := by decide +kernel
theorem dX11_sound_70 : decode cX11_sound 70 = .ok (.getfield 17, 3) := by decide +kernel
theorem dX11_sound_73 : decode cX11_sound 73 = .ok (.iload_n 3, 1) := by decide +kernel
theorem dX11_sound_74 : decode cX11_sound 74 = .ok (.iaload, 1) := by decide +kernel
theorem dX11_sound_75 : decode cX11_sound 75 = .ok (.if_icmp .eq 7, 3) := by decide +kernel
theorem dX11_sound_78 : decode cX11_sound 78 = .ok (.iconst 1, 1) := by decide +kernel
theorem dX11_sound_79 : decode cX11_sound 79 = .ok (.goto 4, 3) := by decide +kernel
theorem dX11_sound_82 : decode cX11_sound 82 = .ok (.iconst 0, 1) := by decide +kernel
theorem dX11_sound_83 : decode cX11_sound 83 = .ok (.istore_n 1, 1) := by decide +kernel
theorem dX11_sound_84 : decode cX11_sound 84 = .ok (.iinc 3 1, 3) := by decide +kernel
theorem dX11_sound_87 : decode cX11_sound 87 = .ok (.goto (-53), 3) := by decide +kernel
theorem dX11_sound_90 : decode cX11_sound 90 = .ok (.iinc 2 1, 3) := by decide +kernel
theorem dX11_sound_93 : decode cX11_sound 93 = .ok (.goto (-69), 3) := by decide +kernel
theorem dX11_sound_96 : decode cX11_sound 96 = .ok (.iload_n 1, 1) := by decide +kernel
theorem dX11_sound_97 : decode cX11_sound 97 = .ok (.ireturn, 1) := by decide +kernel
theorem dX11_count_0 : decode cX11_count 0 = .ok (.iconst 0, 1) := by decide +kernel
theorem dX11_count_1 : decode cX11_count 1 = .ok (.istore_n 2, 1) := by decide +kernel
theorem dX11_count_2 : decode cX11_count 2 = .ok (.iconst 0, 1) := by decide +kernel
theorem dX11_count_3 : decode cX11_count 3 = .ok (.istore_n 3, 1) := by decide +kernel
theorem dX11_count_4 : decode cX11_count 4 = .ok (.iload_n 3, 1) := by decide +kernel
theorem dX11_count_5 : decode cX11_count 5 = .ok (.aload_n 0, 1) := by decide +kernel
theorem dX11_count_6 : decode cX11_count 6 = .ok (.getfield 172, 3) := by decide +kernel
theorem dX11_count_9 : decode cX11_count 9 = .ok (.if_icmp .ge 27, 3) := by decide +kernel
theorem dX11_count_12 : decode cX11_count 12 = .ok (.iload_n 2, 1) := by decide +kernel
theorem dX11_count_13 : decode cX11_count 13 = .ok (.aload_n 0, 1) := by decide +kernel
theorem dX11_count_14 : decode cX11_count 14 = .ok (.getfield 27, 3) := by decide +kernel
theorem dX11_count_17 : decode cX11_count 17 = .ok (.iload_n 3, 1) := by decide +kernel
theorem dX11_count_18 : decode cX11_count 18 = .ok (.iaload, 1) := by decide +kernel
theorem dX11_count_19 : decode cX11_count 19 = .ok (.iconst 2, 1) := by decide +kernel
theorem dX11_count_20 : decode cX11_count 20 = .ok (.if_icmp .ne 7, 3) := by decide +kernel
theorem dX11_count_23 : decode cX11_count 23 = .ok (.iconst 1, 1) := by decide +kernel
theorem dX11_count_24 : decode cX11_count 24 = .ok (.goto 4, 3) := by decide +kernel
theorem dX11_count_27 : decode cX11_count 27 = .ok (.iconst 0, 1) := by decide +kernel
theorem dX11_count_28 : decode cX11_count 28 = .ok (.iadd, 1) := by decide +kernel
theorem dX11_count_29 : decode cX11_count 29 = .ok (.istore_n 2, 1) := by decide +kernel
theorem dX11_count_30 : decode cX11_count 30 = .ok (.iinc 3 1, 3) := by decide +kernel
theorem dX11_count_33 : decode cX11_count 33 = .ok (.goto (-29), 3) := by decide +kernel
theorem dX11_count_36 : decode cX11_count 36 = .ok (.iload_n 1, 1) := by decide +kernel
theorem dX11_count_37 : decode cX11_count 37 = .ok (.ifCond .ne 10, 3) := by decide +kernel
theorem dX11_count_40 : decode cX11_count 40 = .ok (.aload_n 0, 1) := by decide +kernel
theorem dX11_count_41 : decode cX11_count 41 = .ok (.getfield 172, 3) := by decide +kernel
theorem dX11_count_44 : decode cX11_count 44 = .ok (.goto 37, 3) := by decide +kernel
theorem dX11_count_47 : decode cX11_count 47 = .ok (.iload_n 1, 1) := by decide +kernel
theorem dX11_count_48 : decode cX11_count 48 = .ok (.iconst 1, 1) := by decide +kernel
theorem dX11_count_49 : decode cX11_count 49 = .ok (.if_icmp .ne 10, 3) := by decide +kernel
theorem dX11_count_52 : decode cX11_count 52 = .ok (.aload_n 0, 1) := by decide +kernel
theorem dX11_count_53 : decode cX11_count 53 = .ok (.getfield 220, 3) := by decide +kernel
theorem dX11_count_56 : decode cX11_count 56 = .ok (.goto 25, 3) := by decide +kernel
theorem dX11_count_59 : decode cX11_count 59 = .ok (.iload_n 1, 1) := by decide +kernel
theorem dX11_count_60 : decode cX11_count 60 = .ok (.iconst 2, 1) := by decide +kernel
theorem dX11_count_61 : decode cX11_count 61 = .ok (.if_icmp .ne 10, 3) := by decide +kernel
theorem dX11_count_64 : decode cX11_count 64 = .ok (.aload_n 0, 1) := by decide +kernel
theorem dX11_count_65 : decode cX11_count 65 = .ok (.getfield 327, 3) := by decide +kernel
theorem dX11_count_68 : decode cX11_count 68 = .ok (.goto 13, 3) := by decide +kernel
theorem dX11_count_71 : decode cX11_count 71 = .ok (.iload_n 1, 1) := by decide +kernel
theorem dX11_count_72 : decode cX11_count 72 = .ok (.iconst 3, 1) := by decide +kernel
theorem dX11_count_73 : decode cX11_count 73 = .ok (.if_icmp .ne 7, 3) := by decide +kernel
theorem dX11_count_76 : decode cX11_count 76 = .ok (.iload_n 2, 1) := by decide +kernel
theorem dX11_count_77 : decode cX11_count 77 = .ok (.goto 4, 3) := by decide +kernel
theorem dX11_count_80 : decode cX11_count 80 = .ok (.iconst (-1), 1) := by decide +kernel
theorem dX11_count_81 : decode cX11_count 81 = .ok (.ireturn, 1) := by decide +kernel
theorem dJxa1e45_init_da8c8_0 : decode cJxa1e45_init_da8c8 0 = .ok (.aload_n 0, 1) := by decide +kernel
theorem dJxa1e45_init_da8c8_1 : decode cJxa1e45_init_da8c8 1 = .ok (.invokespecial 1, 3) := by decide +kernel
theorem dJxa1e45_init_da8c8_4 : decode cJxa1e45_init_da8c8 4 = .ok (.return_, 1) := by decide +kernel
theorem dJxc12de_init_da8c8_0 : decode cJxc12de_init_da8c8 0 = .ok (.aload_n 0, 1) := by decide +kernel
theorem dJxc12de_init_da8c8_1 : decode cJxc12de_init_da8c8 1 = .ok (.invokespecial 1, 3) := by decide +kernel
theorem dJxc12de_init_da8c8_4 : decode cJxc12de_init_da8c8 4 = .ok (.aload_n 0, 1) := by decide +kernel
theorem dJxc12de_init_da8c8_5 : decode cJxc12de_init_da8c8 5 = .ok (.iconst 0, 1) := by decide +kernel
theorem dJxc12de_init_da8c8_6 : decode cJxc12de_init_da8c8 6 = .ok (.putfield 7, 3) := by decide +kernel
theorem dJxc12de_init_da8c8_9 : decode cJxc12de_init_da8c8 9 = .ok (.return_, 1) := by decide +kernel
theorem dJx4a65c_init_da8c8_0 : decode cJx4a65c_init_da8c8 0 = .ok (.aload_n 0, 1) := by decide +kernel
theorem dJx4a65c_init_da8c8_1 : decode cJx4a65c_init_da8c8 1 = .ok (.invokespecial 1, 3) := by decide +kernel
theorem dJx4a65c_init_da8c8_4 : decode cJx4a65c_init_da8c8 4 = .ok (.aload_n 0, 1) := by decide +kernel
theorem dJx4a65c_init_da8c8_5 : decode cJx4a65c_init_da8c8 5 = .ok (.getstatic 39, 3) := by decide +kernel
theorem dJx4a65c_init_da8c8_8 : decode cJx4a65c_init_da8c8 8 = .ok (.putfield 9, 3) := by decide +kernel
theorem dJx4a65c_init_da8c8_11 : decode cJx4a65c_init_da8c8 11 = .ok (.return_, 1) := by decide +kernel
theorem dL_law_0 : decode cL_law 0 = .ok (.new 7, 3) := by decide +kernel
theorem dL_law_3 : decode cL_law 3 = .ok (.dup, 1) := by decide +kernel
theorem dL_law_4 : decode cL_law 4 = .ok (.invokespecial 9, 3) := by decide +kernel
theorem dL_law_7 : decode cL_law 7 = .ok (.astore_n 1, 1) := by decide +kernel
theorem dL_law_8 : decode cL_law 8 = .ok (.new 10, 3) := by decide +kernel
theorem dL_law_11 : decode cL_law 11 = .ok (.dup, 1) := by decide +kernel
theorem dL_law_12 : decode cL_law 12 = .ok (.invokespecial 12, 3) := by decide +kernel
theorem dL_law_15 : decode cL_law 15 = .ok (.astore_n 2, 1) := by decide +kernel
theorem dL_law_16 : decode cL_law 16 = .ok (.iconst 0, 1) := by decide +kernel
theorem dL_law_17 : decode cL_law 17 = .ok (.istore_n 3, 1) := by decide +kernel
theorem dL_law_18 : decode cL_law 18 = .ok (.iload_n 3, 1) := by decide +kernel
theorem dL_law_19 : decode cL_law 19 = .ok (.aload_n 0, 1) := by decide +kernel
theorem dL_law_20 : decode cL_law 20 = .ok (.arraylength, 1) := by decide +kernel
theorem dL_law_21 : decode cL_law 21 = .ok (.bipush 6, 2) := by decide +kernel
theorem dL_law_23 : decode cL_law 23 = .ok (.isub, 1) := by decide +kernel
theorem dL_law_24 : decode cL_law 24 = .ok (.if_icmp .gt 668, 3) := by decide +kernel
theorem dL_law_27 : decode cL_law 27 = .ok (.aload_n 0, 1) := by decide +kernel
theorem dL_law_28 : decode cL_law 28 = .ok (.iload_n 3, 1) := by decide +kernel
theorem dL_law_29 : decode cL_law 29 = .ok (.iaload, 1) := by decide +kernel
theorem dL_law_30 : decode cL_law 30 = .ok (.bipush 15, 2) := by decide +kernel
theorem dL_law_32 : decode cL_law 32 = .ok (.iand, 1) := by decide +kernel
theorem dL_law_33 : decode cL_law 33 = .ok (.tableswitch 653 0 15 #[79, 158, 181, 204, 237, 300, 353, 376, 409, 432, 465, 498, 541, 594, 617, 630], 79) := by decide +kernel
theorem dL_law_112 : decode cL_law 112 = .ok (.aload_n 1, 1) := by decide +kernel
theorem dL_law_113 : decode cL_law 113 = .ok (.aload_n 0, 1) := by decide +kernel
theorem dL_law_114 : decode cL_law 114 = .ok (.iload_n 3, 1) := by decide +kernel
theorem dL_law_115 : decode cL_law 115 = .ok (.iconst 1, 1) := by decide +kernel
theorem dL_law_116 : decode cL_law 116 = .ok (.iadd, 1) := by decide +kernel
theorem dL_law_117 : decode cL_law 117 = .ok (.iaload, 1) := by decide +kernel
theorem dL_law_118 : decode cL_law 118 = .ok (.aload_n 0, 1) := by decide +kernel
theorem dL_law_119 : decode cL_law 119 = .ok (.iload_n 3, 1) := by decide +kernel
theorem dL_law_120 : decode cL_law 120 = .ok (.iconst 2, 1) := by decide +kernel
theorem dL_law_121 : decode cL_law 121 = .ok (.iadd, 1) := by decide +kernel
theorem dL_law_122 : decode cL_law 122 = .ok (.iaload, 1) := by decide +kernel
theorem dL_law_123 : decode cL_law 123 = .ok (.aload_n 0, 1) := by decide +kernel
theorem dL_law_124 : decode cL_law 124 = .ok (.iload_n 3, 1) := by decide +kernel
theorem dL_law_125 : decode cL_law 125 = .ok (.iconst 3, 1) := by decide +kernel
theorem dL_law_126 : decode cL_law 126 = .ok (.iadd, 1) := by decide +kernel
theorem dL_law_127 : decode cL_law 127 = .ok (.iaload, 1) := by decide +kernel
theorem dL_law_128 : decode cL_law 128 = .ok (.aload_n 0, 1) := by decide +kernel
theorem dL_law_129 : decode cL_law 129 = .ok (.iload_n 3, 1) := by decide +kernel
theorem dL_law_130 : decode cL_law 130 = .ok (.iconst 4, 1) := by decide +kernel
theorem dL_law_131 : decode cL_law 131 = .ok (.iadd, 1) := by decide +kernel
theorem dL_law_132 : decode cL_law 132 = .ok (.iaload, 1) := by decide +kernel
theorem dL_law_133 : decode cL_law 133 = .ok (.ifCond .eq 7, 3) := by decide +kernel
theorem dL_law_136 : decode cL_law 136 = .ok (.iconst 1, 1) := by decide +kernel
theorem dL_law_137 : decode cL_law 137 = .ok (.goto 4, 3) := by decide +kernel
theorem dL_law_140 : decode cL_law 140 = .ok (.iconst 0, 1) := by decide +kernel
theorem dL_law_141 : decode cL_law 141 = .ok (.aload_n 0, 1) := by decide +kernel
theorem dL_law_142 : decode cL_law 142 = .ok (.iload_n 3, 1) := by decide +kernel
theorem dL_law_143 : decode cL_law 143 = .ok (.iconst 5, 1) := by decide +kernel
theorem dL_law_144 : decode cL_law 144 = .ok (.iadd, 1) := by decide +kernel
theorem dL_law_145 : decode cL_law 145 = .ok (.iaload, 1) := by decide +kernel
theorem dL_law_146 : decode cL_law 146 = .ok (.invokevirtual 13, 3) := by decide +kernel
theorem dL_law_149 : decode cL_law 149 = .ok (.aload_n 2, 1) := by decide +kernel
theorem dL_law_150 : decode cL_law 150 = .ok (.aload_n 0, 1) := by decide +kernel
theorem dL_law_151 : decode cL_law 151 = .ok (.iload_n 3, 1) := by decide +kernel
theorem dL_law_152 : decode cL_law 152 = .ok (.iconst 1, 1) := by decide +kernel
theorem dL_law_153 : decode cL_law 153 = .ok (.iadd, 1) := by decide +kernel
theorem dL_law_154 : decode cL_law 154 = .ok (.iaload, 1) := by decide +kernel
theorem dL_law_155 : decode cL_law 155 = .ok (.aload_n 0, 1) := by decide +kernel
theorem dL_law_156 : decode cL_law 156 = .ok (.iload_n 3, 1) := by decide +kernel
theorem dL_law_157 : decode cL_law 157 = .ok (.iconst 2, 1) := by decide +kernel
theorem dL_law_158 : decode cL_law 158 = .ok (.iadd, 1) := by decide +kernel
theorem dL_law_159 : decode cL_law 159 = .ok (.iaload, 1) := by decide +kernel
theorem dL_law_160 : decode cL_law 160 = .ok (.aload_n 0, 1) := by decide +kernel
theorem dL_law_161 : decode cL_law 161 = .ok (.iload_n 3, 1) := by decide +kernel
theorem dL_law_162 : decode cL_law 162 = .ok (.iconst 3, 1) := by decide +kernel
theorem dL_law_163 : decode cL_law 163 = .ok (.iadd, 1) := by decide +kernel
theorem dL_law_164 : decode cL_law 164 = .ok (.iaload, 1) := by decide +kernel
theorem dL_law_165 : decode cL_law 165 = .ok (.aload_n 0, 1) := by decide +kernel
theorem dL_law_166 : decode cL_law 166 = .ok (.iload_n 3, 1) := by decide +kernel
theorem dL_law_167 : decode cL_law 167 = .ok (.iconst 4, 1) := by decide +kernel
theorem dL_law_168 : decode cL_law 168 = .ok (.iadd, 1) := by decide +kernel
theorem dL_law_169 : decode cL_law 169 = .ok (.iaload, 1) := by decide +kernel
theorem dL_law_170 : decode cL_law 170 = .ok (.ifCond .eq 7, 3) := by decide +kernel
theorem dL_law_173 : decode cL_law 173 = .ok (.iconst 1, 1) := by decide +kernel
theorem dL_law_174 : decode cL_law 174 = .ok (.goto 4, 3) := by decide +kernel
theorem dL_law_177 : decode cL_law 177 = .ok (.iconst 0, 1) := by decide +kernel
theorem dL_law_178 : decode cL_law 178 = .ok (.aload_n 0, 1) := by decide +kernel
theorem dL_law_179 : decode cL_law 179 = .ok (.iload_n 3, 1) := by decide +kernel
theorem dL_law_180 : decode cL_law 180 = .ok (.iconst 5, 1) := by decide +kernel
theorem dL_law_181 : decode cL_law 181 = .ok (.iadd, 1) := by decide +kernel
theorem dL_law_182 : decode cL_law 182 = .ok (.iaload, 1) := by decide +kernel
theorem dL_law_183 : decode cL_law 183 = .ok (.invokevirtual 17, 3) := by decide +kernel
theorem dL_law_186 : decode cL_law 186 = .ok (.if_icmp .eq 500, 3) := by decide +kernel
theorem dL_law_189 : decode cL_law 189 = .ok (.iconst 0, 1) := by decide +kernel
theorem dL_law_190 : decode cL_law 190 = .ok (.ireturn, 1) := by decide +kernel
theorem dL_law_191 : decode cL_law 191 = .ok (.aload_n 1, 1) := by decide +kernel
theorem dL_law_192 : decode cL_law 192 = .ok (.aload_n 0, 1) := by decide +kernel
theorem dL_law_193 : decode cL_law 193 = .ok (.iload_n 3, 1) := by decide +kernel
theorem dL_law_194 : decode cL_law 194 = .ok (.iconst 1, 1) := by decide +kernel
theorem dL_law_195 : decode cL_law 195 = .ok (.iadd, 1) := by decide +kernel
theorem dL_law_196 : decode cL_law 196 = .ok (.iaload, 1) := by decide +kernel
theorem dL_law_197 : decode cL_law 197 = .ok (.invokevirtual 18, 3) := by decide +kernel
theorem dL_law_200 : decode cL_law 200 = .ok (.aload_n 2, 1) := by decide +kernel
theorem dL_law_201 : decode cL_law 201 = .ok (.aload_n 0, 1) := by decide +kernel
theorem dL_law_202 : decode cL_law 202 = .ok (.iload_n 3, 1) := by decide +kernel
theorem dL_law_203 : decode cL_law 203 = .ok (.iconst 1, 1) := by decide +kernel
theorem dL_law_204 : decode cL_law 204 = .ok (.iadd, 1) := by decide +kernel
theorem dL_law_205 : decode cL_law 205 = .ok (.iaload, 1) := by decide +kernel
theorem dL_law_206 : decode cL_law 206 = .ok (.invokevirtual 22, 3) := by decide +kernel
theorem dL_law_209 : decode cL_law 209 = .ok (.if_icmp .eq 477, 3) := by decide +kernel
theorem dL_law_212 : decode cL_law 212 = .ok (.iconst 0, 1) := by decide +kernel
theorem dL_law_213 : decode cL_law 213 = .ok (.ireturn, 1) := by decide +kernel
theorem dL_law_214 : decode cL_law 214 = .ok (.aload_n 1, 1) := by decide +kernel
theorem dL_law_215 : decode cL_law 215 = .ok (.aload_n 0, 1) := by decide +kernel
theorem dL_law_216 : decode cL_law 216 = .ok (.iload_n 3, 1) := by decide +kernel
theorem dL_law_217 : decode cL_law 217 = .ok (.iconst 1, 1) := by decide +kernel
theorem dL_law_218 : decode cL_law 218 = .ok (.iadd, 1) := by decide +kernel
theorem dL_law_219 : decode cL_law 219 = .ok (.iaload, 1) := by decide +kernel
theorem dL_law_220 : decode cL_law 220 = .ok (.invokevirtual 23, 3) := by decide +kernel
theorem dL_law_223 : decode cL_law 223 = .ok (.aload_n 2, 1) := by decide +kernel
theorem dL_law_224 : decode cL_law 224 = .ok (.aload_n 0, 1) := by decide +kernel
theorem dL_law_225 : decode cL_law 225 = .ok (.iload_n 3, 1) := by decide +kernel
theorem dL_law_226 : decode cL_law 226 = .ok (.iconst 1, 1) := by decide +kernel
theorem dL_law_227 : decode cL_law 227 = .ok (.iadd, 1) := by decide +kernel
theorem dL_law_228 : decode cL_law 228 = .ok (.iaload, 1) := by decide +kernel
theorem dL_law_229 : decode cL_law 229 = .ok (.invokevirtual 26, 3) := by decide +kernel
theorem dL_law_232 : decode cL_law 232 = .ok (.if_icmp .eq 454, 3) := by decide +kernel
theorem dL_law_235 : decode cL_law 235 = .ok (.iconst 0, 1) := by decide +kernel
theorem dL_law_236 : decode cL_law 236 = .ok (.ireturn, 1) := by decide +kernel
theorem dL_law_237 : decode cL_law 237 = .ok (.aload_n 1, 1) := by decide +kernel
theorem dL_law_238 : decode cL_law 238 = .ok (.aload_n 0, 1) := by decide +kernel
theorem dL_law_239 : decode cL_law 239 = .ok (.iload_n 3, 1) := by decide +kernel
theorem dL_law_240 : decode cL_law 240 = .ok (.iconst 1, 1) := by decide +kernel
theorem dL_law_241 : decode cL_law 241 = .ok (.iadd, 1) := by decide +kernel
theorem dL_law_242 : decode cL_law 242 = .ok (.iaload, 1) := by decide +kernel
theorem dL_law_243 : decode cL_law 243 = .ok (.aload_n 0, 1) := by decide +kernel
theorem dL_law_244 : decode cL_law 244 = .ok (.iload_n 3, 1) := by decide +kernel
theorem dL_law_245 : decode cL_law 245 = .ok (.iconst 2, 1) := by decide +kernel
theorem dL_law_246 : decode cL_law 246 = .ok (.iadd, 1) := by decide +kernel
theorem dL_law_247 : decode cL_law 247 = .ok (.iaload, 1) := by decide +kernel
theorem dL_law_248 : decode cL_law 248 = .ok (.invokevirtual 27, 3) := by decide +kernel
theorem dL_law_251 : decode cL_law 251 = .ok (.aload_n 2, 1) := by decide +kernel
theorem dL_law_252 : decode cL_law 252 = .ok (.aload_n 0, 1) := by decide +kernel
theorem dL_law_253 : decode cL_law 253 = .ok (.iload_n 3, 1) := by decide +kernel
theorem dL_law_254 : decode cL_law 254 = .ok (.iconst 1, 1) := by decide +kernel
end
section
theorem dL_law_255 : decode cL_law 255 = .ok (.iadd, 1) := by decide +kernel
theorem dL_law_256 : decode cL_law 256 = .ok (.iaload, 1) := by decide +kernel
theorem dL_law_257 : decode cL_law 257 = .ok (.aload_n 0, 1) := by decide +kernel
theorem dL_law_258 : decode cL_law 258 = .ok (.iload_n 3, 1) := by decide +kernel
theorem dL_law_259 : decode cL_law 259 = .ok (.iconst 2, 1) := by decide +kernel
theorem dL_law_260 : decode cL_law 260 = .ok (.iadd, 1) := by decide +kernel
theorem dL_law_261 : decode cL_law 261 = .ok (.iaload, 1) := by decide +kernel
theorem dL_law_262 : decode cL_law 262 = .ok (.invokevirtual 31, 3) := by decide +kernel
theorem dL_law_265 : decode cL_law 265 = .ok (.if_icmp .eq 421, 3) := by decide +kernel
theorem dL_law_268 : decode cL_law 268 = .ok (.iconst 0, 1) := by decide +kernel
theorem dL_law_269 : decode cL_law 269 = .ok (.ireturn, 1) := by decide +kernel
theorem dL_law_270 : decode cL_law 270 = .ok (.aload_n 1, 1) := by decide +kernel
theorem dL_law_271 : decode cL_law 271 = .ok (.aload_n 0, 1) := by decide +kernel
theorem dL_law_272 : decode cL_law 272 = .ok (.iload_n 3, 1) := by decide +kernel
theorem dL_law_273 : decode cL_law 273 = .ok (.iconst 1, 1) := by decide +kernel
theorem dL_law_274 : decode cL_law 274 = .ok (.iadd, 1) := by decide +kernel
theorem dL_law_275 : decode cL_law 275 = .ok (.iaload, 1) := by decide +kernel
theorem dL_law_276 : decode cL_law 276 = .ok (.aload_n 0, 1) := by decide +kernel
theorem dL_law_277 : decode cL_law 277 = .ok (.iload_n 3, 1) := by decide +kernel
theorem dL_law_278 : decode cL_law 278 = .ok (.iconst 2, 1) := by decide +kernel
theorem dL_law_279 : decode cL_law 279 = .ok (.iadd, 1) := by decide +kernel
theorem dL_law_280 : decode cL_law 280 = .ok (.iaload, 1) := by decide +kernel
theorem dL_law_281 : decode cL_law 281 = .ok (.aload_n 0, 1) := by decide +kernel
theorem dL_law_282 : decode cL_law 282 = .ok (.iload_n 3, 1) := by decide +kernel
theorem dL_law_283 : decode cL_law 283 = .ok (.iconst 3, 1) := by decide +kernel
theorem dL_law_284 : decode cL_law 284 = .ok (.iadd, 1) := by decide +kernel
theorem dL_law_285 : decode cL_law 285 = .ok (.iaload, 1) := by decide +kernel
theorem dL_law_286 : decode cL_law 286 = .ok (.aload_n 0, 1) := by decide +kernel
theorem dL_law_287 : decode cL_law 287 = .ok (.iload_n 3, 1) := by decide +kernel
theorem dL_law_288 : decode cL_law 288 = .ok (.iconst 4, 1) := by decide +kernel
theorem dL_law_289 : decode cL_law 289 = .ok (.iadd, 1) := by decide +kernel
theorem dL_law_290 : decode cL_law 290 = .ok (.iaload, 1) := by decide +kernel
theorem dL_law_291 : decode cL_law 291 = .ok (.aload_n 0, 1) := by decide +kernel
theorem dL_law_292 : decode cL_law 292 = .ok (.iload_n 3, 1) := by decide +kernel
theorem dL_law_293 : decode cL_law 293 = .ok (.iconst 5, 1) := by decide +kernel
theorem dL_law_294 : decode cL_law 294 = .ok (.iadd, 1) := by decide +kernel
theorem dL_law_295 : decode cL_law 295 = .ok (.iaload, 1) := by decide +kernel
theorem dL_law_296 : decode cL_law 296 = .ok (.invokevirtual 32, 3) := by decide +kernel
theorem dL_law_299 : decode cL_law 299 = .ok (.aload_n 2, 1) := by decide +kernel
theorem dL_law_300 : decode cL_law 300 = .ok (.aload_n 0, 1) := by decide +kernel
theorem dL_law_301 : decode cL_law 301 = .ok (.iload_n 3, 1) := by decide +kernel
theorem dL_law_302 : decode cL_law 302 = .ok (.iconst 1, 1) := by decide +kernel
theorem dL_law_303 : decode cL_law 303 = .ok (.iadd, 1) := by decide +kernel
theorem dL_law_304 : decode cL_law 304 = .ok (.iaload, 1) := by decide +kernel
theorem dL_law_305 : decode cL_law 305 = .ok (.aload_n 0, 1) := by decide +kernel
theorem dL_law_306 : decode cL_law 306 = .ok (.iload_n 3, 1) := by decide +kernel
theorem dL_law_307 : decode cL_law 307 = .ok (.iconst 2, 1) := by decide +kernel
theorem dL_law_308 : decode cL_law 308 = .ok (.iadd, 1) := by decide +kernel
theorem dL_law_309 : decode cL_law 309 = .ok (.iaload, 1) := by decide +kernel
theorem dL_law_310 : decode cL_law 310 = .ok (.aload_n 0, 1) := by decide +kernel
theorem dL_law_311 : decode cL_law 311 = .ok (.iload_n 3, 1) := by decide +kernel
theorem dL_law_312 : decode cL_law 312 = .ok (.iconst 3, 1) := by decide +kernel
theorem dL_law_313 : decode cL_law 313 = .ok (.iadd, 1) := by decide +kernel
theorem dL_law_314 : decode cL_law 314 = .ok (.iaload, 1) := by decide +kernel
theorem dL_law_315 : decode cL_law 315 = .ok (.aload_n 0, 1) := by decide +kernel
theorem dL_law_316 : decode cL_law 316 = .ok (.iload_n 3, 1) := by decide +kernel
theorem dL_law_317 : decode cL_law 317 = .ok (.iconst 4, 1) := by decide +kernel
theorem dL_law_318 : decode cL_law 318 = .ok (.iadd, 1) := by decide +kernel
theorem dL_law_319 : decode cL_law 319 = .ok (.iaload, 1) := by decide +kernel
theorem dL_law_320 : decode cL_law 320 = .ok (.aload_n 0, 1) := by decide +kernel
theorem dL_law_321 : decode cL_law 321 = .ok (.iload_n 3, 1) := by decide +kernel
theorem dL_law_322 : decode cL_law 322 = .ok (.iconst 5, 1) := by decide +kernel
theorem dL_law_323 : decode cL_law 323 = .ok (.iadd, 1) := by decide +kernel
theorem dL_law_324 : decode cL_law 324 = .ok (.iaload, 1) := by decide +kernel
theorem dL_law_325 : decode cL_law 325 = .ok (.invokevirtual 36, 3) := by decide +kernel
theorem dL_law_328 : decode cL_law 328 = .ok (.if_icmp .eq 358, 3) := by decide +kernel
theorem dL_law_331 : decode cL_law 331 = .ok (.iconst 0, 1) := by decide +kernel
theorem dL_law_332 : decode cL_law 332 = .ok (.ireturn, 1) := by decide +kernel
theorem dL_law_333 : decode cL_law 333 = .ok (.aload_n 1, 1) := by decide +kernel
theorem dL_law_334 : decode cL_law 334 = .ok (.aload_n 0, 1) := by decide +kernel
theorem dL_law_335 : decode cL_law 335 = .ok (.iload_n 3, 1) := by decide +kernel
theorem dL_law_336 : decode cL_law 336 = .ok (.iconst 1, 1) := by decide +kernel
theorem dL_law_337 : decode cL_law 337 = .ok (.iadd, 1) := by decide +kernel
theorem dL_law_338 : decode cL_law 338 = .ok (.iaload, 1) := by decide +kernel
theorem dL_law_339 : decode cL_law 339 = .ok (.aload_n 0, 1) := by decide +kernel
theorem dL_law_340 : decode cL_law 340 = .ok (.iload_n 3, 1) := by decide +kernel
theorem dL_law_341 : decode cL_law 341 = .ok (.iconst 2, 1) := by decide +kernel
theorem dL_law_342 : decode cL_law 342 = .ok (.iadd, 1) := by decide +kernel
theorem dL_law_343 : decode cL_law 343 = .ok (.iaload, 1) := by decide +kernel
theorem dL_law_344 : decode cL_law 344 = .ok (.aload_n 0, 1) := by decide +kernel
theorem dL_law_345 : decode cL_law 345 = .ok (.iload_n 3, 1) := by decide +kernel
theorem dL_law_346 : decode cL_law 346 = .ok (.iconst 3, 1) := by decide +kernel
theorem dL_law_347 : decode cL_law 347 = .ok (.iadd, 1) := by decide +kernel
theorem dL_law_348 : decode cL_law 348 = .ok (.iaload, 1) := by decide +kernel
theorem dL_law_349 : decode cL_law 349 = .ok (.aload_n 0, 1) := by decide +kernel
theorem dL_law_350 : decode cL_law 350 = .ok (.iload_n 3, 1) := by decide +kernel
theorem dL_law_351 : decode cL_law 351 = .ok (.iconst 4, 1) := by decide +kernel
theorem dL_law_352 : decode cL_law 352 = .ok (.iadd, 1) := by decide +kernel
theorem dL_law_353 : decode cL_law 353 = .ok (.iaload, 1) := by decide +kernel
theorem dL_law_354 : decode cL_law 354 = .ok (.invokevirtual 37, 3) := by decide +kernel
theorem dL_law_357 : decode cL_law 357 = .ok (.aload_n 2, 1) := by decide +kernel
theorem dL_law_358 : decode cL_law 358 = .ok (.aload_n 0, 1) := by decide +kernel
theorem dL_law_359 : decode cL_law 359 = .ok (.iload_n 3, 1) := by decide +kernel
theorem dL_law_360 : decode cL_law 360 = .ok (.iconst 1, 1) := by decide +kernel
theorem dL_law_361 : decode cL_law 361 = .ok (.iadd, 1) := by decide +kernel
theorem dL_law_362 : decode cL_law 362 = .ok (.iaload, 1) := by decide +kernel
theorem dL_law_363 : decode cL_law 363 = .ok (.aload_n 0, 1) := by decide +kernel
theorem dL_law_364 : decode cL_law 364 = .ok (.iload_n 3, 1) := by decide +kernel
theorem dL_law_365 : decode cL_law 365 = .ok (.iconst 2, 1) := by decide +kernel
theorem dL_law_366 : decode cL_law 366 = .ok (.iadd, 1) := by decide +kernel
theorem dL_law_367 : decode cL_law 367 = .ok (.iaload, 1) := by decide +kernel
theorem dL_law_368 : decode cL_law 368 = .ok (.aload_n 0, 1) := by decide +kernel
theorem dL_law_369 : decode cL_law 369 = .ok (.iload_n 3, 1) := by decide +kernel
theorem dL_law_370 : decode cL_law 370 = .ok (.iconst 3, 1) := by decide +kernel
theorem dL_law_371 : decode cL_law 371 = .ok (.iadd, 1) := by decide +kernel
theorem dL_law_372 : decode cL_law 372 = .ok (.iaload, 1) := by decide +kernel
theorem dL_law_373 : decode cL_law 373 = .ok (.aload_n 0, 1) := by decide +kernel
theorem dL_law_374 : decode cL_law 374 = .ok (.iload_n 3, 1) := by decide +kernel
theorem dL_law_375 : decode cL_law 375 = .ok (.iconst 4, 1) := by decide +kernel
theorem dL_law_376 : decode cL_law 376 = .ok (.iadd, 1) := by decide +kernel
theorem dL_law_377 : decode cL_law 377 = .ok (.iaload, 1) := by decide +kernel
theorem dL_law_378 : decode cL_law 378 = .ok (.invokevirtual 41, 3) := by decide +kernel
theorem dL_law_381 : decode cL_law 381 = .ok (.if_icmp .eq 305, 3) := by decide +kernel
theorem dL_law_384 : decode cL_law 384 = .ok (.iconst 0, 1) := by decide +kernel
theorem dL_law_385 : decode cL_law 385 = .ok (.ireturn, 1) := by decide +kernel
theorem dL_law_386 : decode cL_law 386 = .ok (.aload_n 1, 1) := by decide +kernel
theorem dL_law_387 : decode cL_law 387 = .ok (.aload_n 0, 1) := by decide +kernel
theorem dL_law_388 : decode cL_law 388 = .ok (.iload_n 3, 1) := by decide +kernel
theorem dL_law_389 : decode cL_law 389 = .ok (.iconst 1, 1) := by decide +kernel
theorem dL_law_390 : decode cL_law 390 = .ok (.iadd, 1) := by decide +kernel
theorem dL_law_391 : decode cL_law 391 = .ok (.iaload, 1) := by decide +kernel
theorem dL_law_392 : decode cL_law 392 = .ok (.invokevirtual 42, 3) := by decide +kernel
theorem dL_law_395 : decode cL_law 395 = .ok (.aload_n 2, 1) := by decide +kernel
theorem dL_law_396 : decode cL_law 396 = .ok (.aload_n 0, 1) := by decide +kernel
theorem dL_law_397 : decode cL_law 397 = .ok (.iload_n 3, 1) := by decide +kernel
theorem dL_law_398 : decode cL_law 398 = .ok (.iconst 1, 1) := by decide +kernel
theorem dL_law_399 : decode cL_law 399 = .ok (.iadd, 1) := by decide +kernel
theorem dL_law_400 : decode cL_law 400 = .ok (.iaload, 1) := by decide +kernel
theorem dL_law_401 : decode cL_law 401 = .ok (.invokevirtual 45, 3) := by decide +kernel
theorem dL_law_404 : decode cL_law 404 = .ok (.if_icmp .eq 282, 3) := by decide +kernel
theorem dL_law_407 : decode cL_law 407 = .ok (.iconst 0, 1) := by decide +kernel
theorem dL_law_408 : decode cL_law 408 = .ok (.ireturn, 1) := by decide +kernel
theorem dL_law_409 : decode cL_law 409 = .ok (.aload_n 1, 1) := by decide +kernel
theorem dL_law_410 : decode cL_law 410 = .ok (.aload_n 0, 1) := by decide +kernel
theorem dL_law_411 : decode cL_law 411 = .ok (.iload_n 3, 1) := by decide +kernel
theorem dL_law_412 : decode cL_law 412 = .ok (.iconst 1, 1) := by decide +kernel
theorem dL_law_413 : decode cL_law 413 = .ok (.iadd, 1) := by decide +kernel
theorem dL_law_414 : decode cL_law 414 = .ok (.iaload, 1) := by decide +kernel
theorem dL_law_415 : decode cL_law 415 = .ok (.aload_n 0, 1) := by decide +kernel
theorem dL_law_416 : decode cL_law 416 = .ok (.iload_n 3, 1) := by decide +kernel
theorem dL_law_417 : decode cL_law 417 = .ok (.iconst 2, 1) := by decide +kernel
theorem dL_law_418 : decode cL_law 418 = .ok (.iadd, 1) := by decide +kernel
theorem dL_law_419 : decode cL_law 419 = .ok (.iaload, 1) := by decide +kernel
theorem dL_law_420 : decode cL_law 420 = .ok (.invokevirtual 46, 3) := by decide +kernel
theorem dL_law_423 : decode cL_law 423 = .ok (.aload_n 2, 1) := by decide +kernel
theorem dL_law_424 : decode cL_law 424 = .ok (.aload_n 0, 1) := by decide +kernel
theorem dL_law_425 : decode cL_law 425 = .ok (.iload_n 3, 1) := by decide +kernel
theorem dL_law_426 : decode cL_law 426 = .ok (.iconst 1, 1) := by decide +kernel
theorem dL_law_427 : decode cL_law 427 = .ok (.iadd, 1) := by decide +kernel
theorem dL_law_428 : decode cL_law 428 = .ok (.iaload, 1) := by decide +kernel
theorem dL_law_429 : decode cL_law 429 = .ok (.aload_n 0, 1) := by decide +kernel
theorem dL_law_430 : decode cL_law 430 = .ok (.iload_n 3, 1) := by decide +kernel
theorem dL_law_431 : decode cL_law 431 = .ok (.iconst 2, 1) := by decide +kernel
theorem dL_law_432 : decode cL_law 432 = .ok (.iadd, 1) := by decide +kernel
theorem dL_law_433 : decode cL_law 433 = .ok (.iaload, 1) := by decide +kernel
theorem dL_law_434 : decode cL_law 434 = .ok (.invokevirtual 49, 3) := by decide +kernel
theorem dL_law_437 : decode cL_law 437 = .ok (.if_icmp .eq 249, 3) := by decide +kernel
theorem dL_law_440 : decode cL_law 440 = .ok (.iconst 0, 1) := by decide +kernel
theorem dL_law_441 : decode cL_law 441 = .ok (.ireturn, 1) := by decide +kernel
theorem dL_law_442 : decode cL_law 442 = .ok (.aload_n 1, 1) := by decide +kernel
theorem dL_law_443 : decode cL_law 443 = .ok (.aload_n 0, 1) := by decide +kernel
theorem dL_law_444 : decode cL_law 444 = .ok (.iload_n 3, 1) := by decide +kernel
theorem dL_law_445 : decode cL_law 445 = .ok (.iconst 1, 1) := by decide +kernel
theorem dL_law_446 : decode cL_law 446 = .ok (.iadd, 1) := by decide +kernel
theorem dL_law_447 : decode cL_law 447 = .ok (.iaload, 1) := by decide +kernel
theorem dL_law_448 : decode cL_law 448 = .ok (.invokevirtual 50, 3) := by decide +kernel
theorem dL_law_451 : decode cL_law 451 = .ok (.aload_n 2, 1) := by decide +kernel
theorem dL_law_452 : decode cL_law 452 = .ok (.aload_n 0, 1) := by decide +kernel
theorem dL_law_453 : decode cL_law 453 = .ok (.iload_n 3, 1) := by decide +kernel
theorem dL_law_454 : decode cL_law 454 = .ok (.iconst 1, 1) := by decide +kernel
theorem dL_law_455 : decode cL_law 455 = .ok (.iadd, 1) := by decide +kernel
theorem dL_law_456 : decode cL_law 456 = .ok (.iaload, 1) := by decide +kernel
theorem dL_law_457 : decode cL_law 457 = .ok (.invokevirtual 54, 3) := by decide +kernel
theorem dL_law_460 : decode cL_law 460 = .ok (.if_icmp .eq 226, 3) := by decide +kernel
theorem dL_law_463 : decode cL_law 463 = .ok (.iconst 0, 1) := by decide +kernel
theorem dL_law_464 : decode cL_law 464 = .ok (.ireturn, 1) := by decide +kernel
theorem dL_law_465 : decode cL_law 465 = .ok (.aload_n 1, 1) := by decide +kernel
theorem dL_law_466 : decode cL_law 466 = .ok (.aload_n 0, 1) := by decide +kernel
theorem dL_law_467 : decode cL_law 467 = .ok (.iload_n 3, 1) := by decide +kernel
theorem dL_law_468 : decode cL_law 468 = .ok (.iconst 1, 1) := by decide +kernel
theorem dL_law_469 : decode cL_law 469 = .ok (.iadd, 1) := by decide +kernel
theorem dL_law_470 : decode cL_law 470 = .ok (.iaload, 1) := by decide +kernel
theorem dL_law_471 : decode cL_law 471 = .ok (.aload_n 0, 1) := by decide +kernel
theorem dL_law_472 : decode cL_law 472 = .ok (.iload_n 3, 1) := by decide +kernel
theorem dL_law_473 : decode cL_law 473 = .ok (.iconst 2, 1) := by decide +kernel
theorem dL_law_474 : decode cL_law 474 = .ok (.iadd, 1) := by decide +kernel
theorem dL_law_475 : decode cL_law 475 = .ok (.iaload, 1) := by decide +kernel
theorem dL_law_476 : decode cL_law 476 = .ok (.invokevirtual 55, 3) := by decide +kernel
theorem dL_law_479 : decode cL_law 479 = .ok (.aload_n 2, 1) := by decide +kernel
theorem dL_law_480 : decode cL_law 480 = .ok (.aload_n 0, 1) := by decide +kernel
theorem dL_law_481 : decode cL_law 481 = .ok (.iload_n 3, 1) := by decide +kernel
theorem dL_law_482 : decode cL_law 482 = .ok (.iconst 1, 1) := by decide +kernel
theorem dL_law_483 : decode cL_law 483 = .ok (.iadd, 1) := by decide +kernel
theorem dL_law_484 : decode cL_law 484 = .ok (.iaload, 1) := by decide +kernel
theorem dL_law_485 : decode cL_law 485 = .ok (.aload_n 0, 1) := by decide +kernel
theorem dL_law_486 : decode cL_law 486 = .ok (.iload_n 3, 1) := by decide +kernel
theorem dL_law_487 : decode cL_law 487 = .ok (.iconst 2, 1) := by decide +kernel
theorem dL_law_488 : decode cL_law 488 = .ok (.iadd, 1) := by decide +kernel
theorem dL_law_489 : decode cL_law 489 = .ok (.iaload, 1) := by decide +kernel
theorem dL_law_490 : decode cL_law 490 = .ok (.invokevirtual 59, 3) := by decide +kernel
theorem dL_law_493 : decode cL_law 493 = .ok (.if_icmp .eq 193, 3) := by decide +kernel
theorem dL_law_496 : decode cL_law 496 = .ok (.iconst 0, 1) := by decide +kernel
theorem dL_law_497 : decode cL_law 497 = .ok (.ireturn, 1) := by decide +kernel
theorem dL_law_498 : decode cL_law 498 = .ok (.aload_n 1, 1) := by decide +kernel
theorem dL_law_499 : decode cL_law 499 = .ok (.aload_n 0, 1) := by decide +kernel
theorem dL_law_500 : decode cL_law 500 = .ok (.iload_n 3, 1) := by decide +kernel
theorem dL_law_501 : decode cL_law 501 = .ok (.iconst 1, 1) := by decide +kernel
theorem dL_law_502 : decode cL_law 502 = .ok (.iadd, 1) := by decide +kernel
theorem dL_law_503 : decode cL_law 503 = .ok (.iaload, 1) := by decide +kernel
theorem dL_law_504 : decode cL_law 504 = .ok (.aload_n 0, 1) := by decide +kernel
theorem dL_law_505 : decode cL_law 505 = .ok (.iload_n 3, 1) := by decide +kernel
theorem dL_law_506 : decode cL_law 506 = .ok (.iconst 2, 1) := by decide +kernel
theorem dL_law_507 : decode cL_law 507 = .ok (.iadd, 1) := by decide +kernel
theorem dL_law_508 : decode cL_law 508 = .ok (.iaload, 1) := by decide +kernel
theorem dL_law_509 : decode cL_law 509 = .ok (.invokevirtual 60, 3) := by decide +kernel
theorem dL_law_512 : decode cL_law 512 = .ok (.aload_n 2, 1) := by decide +kernel
theorem dL_law_513 : decode cL_law 513 = .ok (.aload_n 0, 1) := by decide +kernel
theorem dL_law_514 : decode cL_law 514 = .ok (.iload_n 3, 1) := by decide +kernel
theorem dL_law_515 : decode cL_law 515 = .ok (.iconst 1, 1) := by decide +kernel
theorem dL_law_516 : decode cL_law 516 = .ok (.iadd, 1) := by decide +kernel
theorem dL_law_517 : decode cL_law 517 = .ok (.iaload, 1) := by decide +kernel
theorem dL_law_518 : decode cL_law 518 = .ok (.aload_n 0, 1) := by decide +kernel
theorem dL_law_519 : decode cL_law 519 = .ok (.iload_n 3, 1) := by decide +kernel
theorem dL_law_520 : decode cL_law 520 = .ok (.iconst 2, 1) := by decide +kernel
theorem dL_law_521 : decode cL_law 521 = .ok (.iadd, 1) := by decide +kernel
theorem dL_law_522 : decode cL_law 522 = .ok (.iaload, 1) := by decide +kernel
theorem dL_law_523 : decode cL_law 523 = .ok (.invokevirtual 63, 3) := by decide +kernel
theorem dL_law_526 : decode cL_law 526 = .ok (.if_icmp .eq 160, 3) := by decide +kernel
theorem dL_law_529 : decode cL_law 529 = .ok (.iconst 0, 1) := by decide +kernel
theorem dL_law_530 : decode cL_law 530 = .ok (.ireturn, 1) := by decide +kernel
theorem dL_law_531 : decode cL_law 531 = .ok (.aload_n 1, 1) := by decide +kernel
theorem dL_law_532 : decode cL_law 532 = .ok (.aload_n 0, 1) := by decide +kernel
theorem dL_law_533 : decode cL_law 533 = .ok (.iload_n 3, 1) := by decide +kernel
theorem dL_law_534 : decode cL_law 534 = .ok (.iconst 1, 1) := by decide +kernel
theorem dL_law_535 : decode cL_law 535 = .ok (.iadd, 1) := by decide +kernel
theorem dL_law_536 : decode cL_law 536 = .ok (.iaload, 1) := by decide +kernel
theorem dL_law_537 : decode cL_law 537 = .ok (.aload_n 0, 1) := by decide +kernel
theorem dL_law_538 : decode cL_law 538 = .ok (.iload_n 3, 1) := by decide +kernel
theorem dL_law_539 : decode cL_law 539 = .ok (.iconst 2, 1) := by decide +kernel
theorem dL_law_540 : decode cL_law 540 = .ok (.iadd, 1) := by decide +kernel
theorem dL_law_541 : decode cL_law 541 = .ok (.iaload, 1) := by decide +kernel
theorem dL_law_542 : decode cL_law 542 = .ok (.aload_n 0, 1) := by decide +kernel
theorem dL_law_543 : decode cL_law 543 = .ok (.iload_n 3, 1) := by decide +kernel
theorem dL_law_544 : decode cL_law 544 = .ok (.iconst 3, 1) := by decide +kernel
theorem dL_law_545 : decode cL_law 545 = .ok (.iadd, 1) := by decide +kernel
theorem dL_law_546 : decode cL_law 546 = .ok (.iaload, 1) := by decide +kernel
theorem dL_law_547 : decode cL_law 547 = .ok (.invokevirtual 64, 3) := by decide +kernel
theorem dL_law_550 : decode cL_law 550 = .ok (.aload_n 2, 1) := by decide +kernel
theorem dL_law_551 : decode cL_law 551 = .ok (.aload_n 0, 1) := by decide +kernel
theorem dL_law_552 : decode cL_law 552 = .ok (.iload_n 3, 1) := by decide +kernel
theorem dL_law_553 : decode cL_law 553 = .ok (.iconst 1, 1) := by decide +kernel
theorem dL_law_554 : decode cL_law 554 = .ok (.iadd, 1) := by decide +kernel
theorem dL_law_555 : decode cL_law 555 = .ok (.iaload, 1) := by decide +kernel
theorem dL_law_556 : decode cL_law 556 = .ok (.aload_n 0, 1) := by decide +kernel
theorem dL_law_557 : decode cL_law 557 = .ok (.iload_n 3, 1) := by decide +kernel
theorem dL_law_558 : decode cL_law 558 = .ok (.iconst 2, 1) := by decide +kernel
theorem dL_law_559 : decode cL_law 559 = .ok (.iadd, 1) := by decide +kernel
theorem dL_law_560 : decode cL_law 560 = .ok (.iaload, 1) := by decide +kernel
theorem dL_law_561 : decode cL_law 561 = .ok (.aload_n 0, 1) := by decide +kernel
theorem dL_law_562 : decode cL_law 562 = .ok (.iload_n 3, 1) := by decide +kernel
theorem dL_law_563 : decode cL_law 563 = .ok (.iconst 3, 1) := by decide +kernel
theorem dL_law_564 : decode cL_law 564 = .ok (.iadd, 1) := by decide +kernel
theorem dL_law_565 : decode cL_law 565 = .ok (.iaload, 1) := by decide +kernel
theorem dL_law_566 : decode cL_law 566 = .ok (.invokevirtual 68, 3) := by decide +kernel
theorem dL_law_569 : decode cL_law 569 = .ok (.if_icmp .eq 117, 3) := by decide +kernel
theorem dL_law_572 : decode cL_law 572 = .ok (.iconst 0, 1) := by decide +kernel
theorem dL_law_573 : decode cL_law 573 = .ok (.ireturn, 1) := by decide +kernel
theorem dL_law_574 : decode cL_law 574 = .ok (.aload_n 1, 1) := by decide +kernel
theorem dL_law_575 : decode cL_law 575 = .ok (.aload_n 0, 1) := by decide +kernel
theorem dL_law_576 : decode cL_law 576 = .ok (.iload_n 3, 1) := by decide +kernel
theorem dL_law_577 : decode cL_law 577 = .ok (.iconst 1, 1) := by decide +kernel
theorem dL_law_578 : decode cL_law 578 = .ok (.iadd, 1) := by decide +kernel
theorem dL_law_579 : decode cL_law 579 = .ok (.iaload, 1) := by decide +kernel
theorem dL_law_580 : decode cL_law 580 = .ok (.aload_n 0, 1) := by decide +kernel
theorem dL_law_581 : decode cL_law 581 = .ok (.iload_n 3, 1) := by decide +kernel
theorem dL_law_582 : decode cL_law 582 = .ok (.iconst 2, 1) := by decide +kernel
theorem dL_law_583 : decode cL_law 583 = .ok (.iadd, 1) := by decide +kernel
theorem dL_law_584 : decode cL_law 584 = .ok (.iaload, 1) := by decide +kernel
theorem dL_law_585 : decode cL_law 585 = .ok (.aload_n 0, 1) := by decide +kernel
theorem dL_law_586 : decode cL_law 586 = .ok (.iload_n 3, 1) := by decide +kernel
theorem dL_law_587 : decode cL_law 587 = .ok (.iconst 3, 1) := by decide +kernel
theorem dL_law_588 : decode cL_law 588 = .ok (.iadd, 1) := by decide +kernel
theorem dL_law_589 : decode cL_law 589 = .ok (.iaload, 1) := by decide +kernel
theorem dL_law_590 : decode cL_law 590 = .ok (.aload_n 0, 1) := by decide +kernel
theorem dL_law_591 : decode cL_law 591 = .ok (.iload_n 3, 1) := by decide +kernel
theorem dL_law_592 : decode cL_law 592 = .ok (.iconst 4, 1) := by decide +kernel
theorem dL_law_593 : decode cL_law 593 = .ok (.iadd, 1) := by decide +kernel
theorem dL_law_594 : decode cL_law 594 = .ok (.iaload, 1) := by decide +kernel
theorem dL_law_595 : decode cL_law 595 = .ok (.invokevirtual 69, 3) := by decide +kernel
theorem dL_law_598 : decode cL_law 598 = .ok (.aload_n 2, 1) := by decide +kernel
theorem dL_law_599 : decode cL_law 599 = .ok (.aload_n 0, 1) := by decide +kernel
theorem dL_law_600 : decode cL_law 600 = .ok (.iload_n 3, 1) := by decide +kernel
theorem dL_law_601 : decode cL_law 601 = .ok (.iconst 1, 1) := by decide +kernel
theorem dL_law_602 : decode cL_law 602 = .ok (.iadd, 1) := by decide +kernel
theorem dL_law_603 : decode cL_law 603 = .ok (.iaload, 1) := by decide +kernel
theorem dL_law_604 : decode cL_law 604 = .ok (.aload_n 0, 1) := by decide +kernel
theorem dL_law_605 : decode cL_law 605 = .ok (.iload_n 3, 1) := by decide +kernel
theorem dL_law_606 : decode cL_law 606 = .ok (.iconst 2, 1) := by decide +kernel
theorem dL_law_607 : decode cL_law 607 = .ok (.iadd, 1) := by decide +kernel
theorem dL_law_608 : decode cL_law 608 = .ok (.iaload, 1) := by decide +kernel
theorem dL_law_609 : decode cL_law 609 = .ok (.aload_n 0, 1) := by decide +kernel
theorem dL_law_610 : decode cL_law 610 = .ok (.iload_n 3, 1) := by decide +kernel
theorem dL_law_611 : decode cL_law 611 = .ok (.iconst 3, 1) := by decide +kernel
theorem dL_law_612 : decode cL_law 612 = .ok (.iadd, 1) := by decide +kernel
theorem dL_law_613 : decode cL_law 613 = .ok (.iaload, 1) := by decide +kernel
theorem dL_law_614 : decode cL_law 614 = .ok (.aload_n 0, 1) := by decide +kernel
theorem dL_law_615 : decode cL_law 615 = .ok (.iload_n 3, 1) := by decide +kernel
theorem dL_law_616 : decode cL_law 616 = .ok (.iconst 4, 1) := by decide +kernel
theorem dL_law_617 : decode cL_law 617 = .ok (.iadd, 1) := by decide +kernel
theorem dL_law_618 : decode cL_law 618 = .ok (.iaload, 1) := by decide +kernel
theorem dL_law_619 : decode cL_law 619 = .ok (.invokevirtual 72, 3) := by decide +kernel
theorem dL_law_622 : decode cL_law 622 = .ok (.if_icmp .eq 64, 3) := by decide +kernel
theorem dL_law_625 : decode cL_law 625 = .ok (.iconst 0, 1) := by decide +kernel
theorem dL_law_626 : decode cL_law 626 = .ok (.ireturn, 1) := by decide +kernel
theorem dL_law_627 : decode cL_law 627 = .ok (.aload_n 1, 1) := by decide +kernel
theorem dL_law_628 : decode cL_law 628 = .ok (.aload_n 0, 1) := by decide +kernel
theorem dL_law_629 : decode cL_law 629 = .ok (.iload_n 3, 1) := by decide +kernel
theorem dL_law_630 : decode cL_law 630 = .ok (.iconst 1, 1) := by decide +kernel
theorem dL_law_631 : decode cL_law 631 = .ok (.iadd, 1) := by decide +kernel
theorem dL_law_632 : decode cL_law 632 = .ok (.iaload, 1) := by decide +kernel
theorem dL_law_633 : decode cL_law 633 = .ok (.invokevirtual 73, 3) := by decide +kernel
theorem dL_law_636 : decode cL_law 636 = .ok (.aload_n 2, 1) := by decide +kernel
theorem dL_law_637 : decode cL_law 637 = .ok (.aload_n 0, 1) := by decide +kernel
theorem dL_law_638 : decode cL_law 638 = .ok (.iload_n 3, 1) := by decide +kernel
theorem dL_law_639 : decode cL_law 639 = .ok (.iconst 1, 1) := by decide +kernel
theorem dL_law_640 : decode cL_law 640 = .ok (.iadd, 1) := by decide +kernel
theorem dL_law_641 : decode cL_law 641 = .ok (.iaload, 1) := by decide +kernel
theorem dL_law_642 : decode cL_law 642 = .ok (.invokevirtual 76, 3) := by decide +kernel
theorem dL_law_645 : decode cL_law 645 = .ok (.if_icmp .eq 41, 3) := by decide +kernel
theorem dL_law_648 : decode cL_law 648 = .ok (.iconst 0, 1) := by decide +kernel
theorem dL_law_649 : decode cL_law 649 = .ok (.ireturn, 1) := by decide +kernel
theorem dL_law_650 : decode cL_law 650 = .ok (.aload_n 1, 1) := by decide +kernel
theorem dL_law_651 : decode cL_law 651 = .ok (.invokevirtual 77, 3) := by decide +kernel
theorem dL_law_654 : decode cL_law 654 = .ok (.aload_n 2, 1) := by decide +kernel
theorem dL_law_655 : decode cL_law 655 = .ok (.invokevirtual 81, 3) := by decide +kernel
theorem dL_law_658 : decode cL_law 658 = .ok (.if_icmp .eq 28, 3) := by decide +kernel
theorem dL_law_661 : decode cL_law 661 = .ok (.iconst 0, 1) := by decide +kernel
theorem dL_law_662 : decode cL_law 662 = .ok (.ireturn, 1) := by decide +kernel
theorem dL_law_663 : decode cL_law 663 = .ok (.aload_n 1, 1) := by decide +kernel
theorem dL_law_664 : decode cL_law 664 = .ok (.aload_n 0, 1) := by decide +kernel
theorem dL_law_665 : decode cL_law 665 = .ok (.iload_n 3, 1) := by decide +kernel
theorem dL_law_666 : decode cL_law 666 = .ok (.iconst 1, 1) := by decide +kernel
theorem dL_law_667 : decode cL_law 667 = .ok (.iadd, 1) := by decide +kernel
theorem dL_law_668 : decode cL_law 668 = .ok (.iaload, 1) := by decide +kernel
theorem dL_law_669 : decode cL_law 669 = .ok (.invokevirtual 82, 3) := by decide +kernel
theorem dL_law_672 : decode cL_law 672 = .ok (.aload_n 2, 1) := by decide +kernel
theorem dL_law_673 : decode cL_law 673 = .ok (.aload_n 0, 1) := by decide +kernel
theorem dL_law_674 : decode cL_law 674 = .ok (.iload_n 3, 1) := by decide +kernel
theorem dL_law_675 : decode cL_law 675 = .ok (.iconst 1, 1) := by decide +kernel
theorem dL_law_676 : decode cL_law 676 = .ok (.iadd, 1) := by decide +kernel
theorem dL_law_677 : decode cL_law 677 = .ok (.iaload, 1) := by decide +kernel
theorem dL_law_678 : decode cL_law 678 = .ok (.invokevirtual 85, 3) := by decide +kernel
theorem dL_law_681 : decode cL_law 681 = .ok (.if_icmp .eq 5, 3) := by decide +kernel
theorem dL_law_684 : decode cL_law 684 = .ok (.iconst 0, 1) := by decide +kernel
theorem dL_law_685 : decode cL_law 685 = .ok (.ireturn, 1) := by decide +kernel
theorem dL_law_686 : decode cL_law 686 = .ok (.iinc 3 6, 3) := by decide +kernel
theorem dL_law_689 : decode cL_law 689 = .ok (.goto (-671), 3) := by decide +kernel
theorem dL_law_692 : decode cL_law 692 = .ok (.iconst 1, 1) := by decide +kernel
theorem dL_law_693 : decode cL_law 693 = .ok (.ireturn, 1) := by decide +kernel
end
section
/-! Small rows about worlds; what the tables say beside the words (nest mates' links, classes of rows of references) -/
theorem p_nil {D : va_G} {cl : List vw_C} {H : Heap} : va_P D cl [] H := fun k q h => by simp at h
theorem d_nil {A : Nat → Prop} : va_D A [] := ⟨fun i j p q h => by simp at h, fun k q h => by simp at h⟩
theorem ro_free {A0 : Nat → Prop} {H0 H : Heap} {locs : List Loc} (hS : va_S A0 H0 H locs) (hA : ∀ q : Nat, H0.size ≤ q → A0 q) : ∀ q : Nat, va_A [] H.size q → A0 q := fun q h => by
  rcases h with ⟨k, e, h⟩ | h
  · simp at h
  · exact hA q (Nat.le_trans hS.1 h)
theorem ro_keep {D : va_G} {cl : List vw_C} {ws : va_W} {H H1 : Heap} (hP : va_P D cl ws H) (hk : ∀ q : Nat, q < H.size → ¬ va_A [] H.size q → H1[q]? = H[q]?) : va_P D cl ws H1 := hP.kept fun k q hq => hk q.1 (hP k q hq).lt fun h => by
  rcases h with ⟨k, e, h⟩ | h
  · simp at h
  · exact absurd (hP _ q hq).lt (Nat.not_lt.mpr h)
theorem w_zq {C n d : String} {A : Nat → Prop} {s : State} {H : Heap} {locs : List Loc} (hZ : va_Zq C n d A s s.heap) (hS : va_S A s.heap H locs) : va_Zq C n d A s H := hZ.kept hS.2.1
def aoA (U : State) : Prop := (Cond.arrayOver (.array .int)).before #[] U = true
theorem aoA.moved {u U : State} (hvm : u.vm.Alike U.vm) (h : aoA u) : aoA U := by
  obtain ⟨comp, c, k, h1, h2, h3, h4, h5⟩ := arrayOverA_spec h
  obtain ⟨k', hk', he⟩ := hvm.2.2 _ _ h3
  have hi : (U.vm.classes.findIdx? fun (x : Class) => match x.kind with | .array component _ => component == comp | _ => false) = some c := (hvm.findIdx?_eq _ (fun _ => rfl)).trans h2
  have hkind : k'.kind = .array comp (.array .int) := by rw [he]; exact h4
  have f1 : U.vm.findClass (FieldType.array .int).toString = some comp := by rw [hvm.findClass]; exact h1
  have f2 : U.vm.findClass ("[" ++ (FieldType.array .int).toString) = some c := by rw [hvm.findClass]; exact h5
  unfold aoA Cond.before Cond.holds
  simp only [Cond.value]
  rw [f1, Option.bind_some]
  refine (congrArg (fun o : Option Nat => (o.bind (fun c => (U.vm.classes[c]?).map fun (k : Class) => match k.kind with | .array _ ty => decide (ty = FieldType.array .int) && decide (U.vm.findClass ("[" ++ (FieldType.array .int).toString) = some c) | _ => false) == some true)) hi).trans ?_
  simp [hk', hkind, f2]
theorem aoA.use {A : Array Value} {U : State} (h : aoA U) : (Cond.arrayOver (.array .int)).before A U = true := h
theorem s_rowI : (FieldType.array FieldType.int).toString = "[I" := by decide +kernel
/-- what holds of the tables in every state of the launch -/
def ev (U : State) : Prop := va_Nw (.methodLinkNest RX10 17 yX7_init "ClaimBus") U ∧ va_Nw (.methodLinkNest RX10 24 yX1_init "ClaimBus") U ∧ va_Nw (.methodLinkNest RX4 20 yX6_init "ClaimBus") U ∧ va_Nw (.methodLinkNest RX4 27 yX2_init "ClaimBus") U ∧ va_Nw (.methodLinkNest RX5 37 yX1_init "ClaimBus") U ∧ va_AO "ClaimBus$Node" U ∧ va_AO "ClaimBus$Transport" U ∧ aoA U
theorem ev.n1 {U : State} (h : ev U) : va_Nw (.methodLinkNest RX10 17 yX7_init "ClaimBus") U := h.1
theorem ev.n2 {U : State} (h : ev U) : va_Nw (.methodLinkNest RX10 24 yX1_init "ClaimBus") U := h.2.1
theorem ev.n3 {U : State} (h : ev U) : va_Nw (.methodLinkNest RX4 20 yX6_init "ClaimBus") U := h.2.2.1
theorem ev.n4 {U : State} (h : ev U) : va_Nw (.methodLinkNest RX4 27 yX2_init "ClaimBus") U := h.2.2.2.1
theorem ev.n5 {U : State} (h : ev U) : va_Nw (.methodLinkNest RX5 37 yX1_init "ClaimBus") U := h.2.2.2.2.1
theorem ev.AON {U : State} (h : ev U) : va_AO RX4 U := h.2.2.2.2.2.1
theorem ev.AOT {U : State} (h : ev U) : va_AO RX9 U := h.2.2.2.2.2.2.1
theorem ev.AOA {U : State} (h : ev U) : aoA U := h.2.2.2.2.2.2.2
theorem ev.warm {s U : State} (h : ev s) (hW : s.WarmedH U.vm) : ev U := ⟨va_Nw.warmM hW h.1, va_Nw.warmM hW h.2.1, va_Nw.warmM hW h.2.2.1, va_Nw.warmM hW h.2.2.2.1, va_Nw.warmM hW h.2.2.2.2.1, va_AO.moved hW.alike h.2.2.2.2.2.1, va_AO.moved hW.alike h.2.2.2.2.2.2.1, aoA.moved hW.alike h.2.2.2.2.2.2.2⟩
theorem ev.same {u U : State} (e : u.vm = U.vm) (h : ev u) : ev U := by
  have hv : u.vm.Alike U.vm := by rw [e]; exact Vm.Alike.refl U.vm
  exact ⟨va_Nw.same rfl e h.1, va_Nw.same rfl e h.2.1, va_Nw.same rfl e h.2.2.1, va_Nw.same rfl e h.2.2.2.1, va_Nw.same rfl e h.2.2.2.2.1, va_AO.moved hv h.2.2.2.2.2.1, va_AO.moved hv h.2.2.2.2.2.2.1, aoA.moved hv h.2.2.2.2.2.2.2⟩
section MYA
variable {p : Program} {l : Launch} {e : Env} {R : Room} {s : State} {m : MethodId} {args : Array Value} {below : List Frame} {meth : Method} {c : Code} {H : Heap} {locs : List Loc} {cells slots : Nat} {Q : State → Prop}
variable {cc : ByteArray} {pc : Nat} {ls : Array Slot} {rest : List Value} {D : va_G} {cl : List vw_C} {A : Nat → Prop} {ws : va_W} {H0 : Heap}
set_option maxHeartbeats 4000000 in
/-- a new row of int rows -/
theorem my_newA (hexec : p.tables.exec = Jvm.exec) (hb : c.code = cc) {own : String} {index : Nat} (hown : s.vm.findClass own = some m.cls) (hclink : (Cond.classLink own index "[I").before args s = true) (hover : aoA s) (hP : va_P D cl ws H) (hD : va_D A ws) (hS : va_S A H0 H locs) (hA : ∀ q : Nat, H0.size ≤ q → A q)
    {n : Int32} {N' : Nat} (hn : ¬ n < 0) (hN : n.toNatClampNeg = N') (hbytes : N' * 4 ≤ 536870912) (hcells : cells + 1 ≤ R.cells) (hslots : slots + N' ≤ R.slots) (hdg : decode cc pc = .ok (.anewarray index, 3))
    (kk : ∀ (q : Nat) (cA : ClassId) (H1 : Heap), va_P D cl (ws ++ [(q, .inl (cA, N', .inr (.inr (.inr (.inr (fun _ => none))))))]) H1 → va_D A (ws ++ [(q, .inl (cA, N', .inr (.inr (.inr (.inr (fun _ => none))))))]) → va_S A H0 H1 locs →
      W p l e R s m args below meth c H1 locs (cells + 1) (slots + N') Q (F0 m (pc + 3) ls (.ref q :: rest))) : W p l e R s m args below meth c H locs cells slots Q (F0 m pc ls (.int n :: rest)) := by
  subst hN
  have hc2 : (Cond.classLink own index (FieldType.array FieldType.int).toString).before args s = true := by rw [s_rowI]; exact hclink
  refine W.anewA (t := .int) hexec hb hown hc2 (aoA.use hover) rfl hdg rfl hn hbytes hcells hslots fun cA kA comp f1 f2 f3 f4 => ?_
  generalize hH1 : H.push ({ cls := cA, slots := Array.replicate n.toNatClampNeg .null, vm := .none } : Cell) = H1
  have z1 : H1.size = H.size + 1 := by rw [← hH1, Array.size_push]
  have e1 : H1[H.size]? = some (arrV cA n.toNatClampNeg (fun _ => .null)) := by rw [← hH1, Array.getElem?_push_size, ← arrV_new]
  have o1 : ∀ q : Nat, q < H.size → H1[q]? = H[q]? := fun q hq => by rw [← hH1, Array.getElem?_push, if_neg (Nat.ne_of_lt hq)]
  have hk : ∀ (k : Nat) (x : Nat × va_E), ws[k]? = some x → H1[x.1]? = H[x.1]? := fun k x hx => o1 x.1 ((hP k x hx).lt)
  refine kk H.size cA H1 ((hP.kept hk).app (fun k x hx => ?_)) (hD.push hP rfl (hA _ hS.1)) ⟨Nat.le_trans hS.1 (by omega), fun x h1 h2 => (o1 x (Nat.lt_of_lt_of_le h1 hS.1)).trans (hS.2.1 x h1 h2), hS.2.2⟩
  have hz : k < 1 := (List.getElem?_eq_some_iff.mp hx).1
  rw [show k = 0 by omega] at hx
  cases hx
  show H1[H.size]? = some (vp_cell _ _)
  rw [vp_cell_q]
  exact e1
end MYA
end
section
theorem df_Jx4a65c : ∀ j, j < 3 → defaultValue (tyJx4a65c j) = vp_V [.int 0, .null, .int 0] j := fun j hj => by
  match j, hj with
  | 0, _ => rfl
  | 1, _ => rfl
  | 2, _ => rfl
  | n + 3, h => exact absurd h (by omega)

theorem df_X1 : ∀ j, j < 4 → defaultValue (tyX1 j) = vp_V [.int 0, .int 0, .int 0, .null] j := fun j hj => by
  match j, hj with
  | 0, _ => rfl
  | 1, _ => rfl
  | 2, _ => rfl
  | 3, _ => rfl
  | n + 4, h => exact absurd h (by omega)

theorem df_X2 : ∀ j, j < 4 → defaultValue (tyX2 j) = vp_V [.int 0, .int 0, .null, .null] j := fun j hj => by
  match j, hj with
  | 0, _ => rfl
  | 1, _ => rfl
  | 2, _ => rfl
  | 3, _ => rfl
  | n + 4, h => exact absurd h (by omega)

theorem df_X4 : ∀ j, j < 18 → defaultValue (tyX4 j) = vp_V [.int 0, .int 0, .int 0, .int 0, .int 0, .null, .null, .null, .null, .null, .null, .null, .int 0, .int 0, .int 0, .int 0, .int 0, .int 0] j := fun j hj => by
  match j, hj with
  | 0, _ => rfl
  | 1, _ => rfl
  | 2, _ => rfl
  | 3, _ => rfl
  | 4, _ => rfl
  | 5, _ => rfl
  | 6, _ => rfl
  | 7, _ => rfl
  | 8, _ => rfl
  | 9, _ => rfl
  | 10, _ => rfl
  | 11, _ => rfl
  | 12, _ => rfl
  | 13, _ => rfl
  | 14, _ => rfl
  | 15, _ => rfl
  | 16, _ => rfl
  | 17, _ => rfl
  | n + 18, h => exact absurd h (by omega)

theorem df_X5 : ∀ j, j < 12 → defaultValue (tyX5 j) = vp_V [.int 0, .int 0, .null, .null, .null, .int 0, .int 0, .int 0, .int 0, .int 0, .null, .int 0] j := fun j hj => by
  match j, hj with
  | 0, _ => rfl
  | 1, _ => rfl
  | 2, _ => rfl
  | 3, _ => rfl
  | 4, _ => rfl
  | 5, _ => rfl
  | 6, _ => rfl
  | 7, _ => rfl
  | 8, _ => rfl
  | 9, _ => rfl
  | 10, _ => rfl
  | 11, _ => rfl
  | n + 12, h => exact absurd h (by omega)

theorem df_X6 : ∀ j, j < 4 → defaultValue (tyX6 j) = vp_V [.int 0, .int 0, .int 0, .null] j := fun j hj => by
  match j, hj with
  | 0, _ => rfl
  | 1, _ => rfl
  | 2, _ => rfl
  | 3, _ => rfl
  | n + 4, h => exact absurd h (by omega)

theorem df_X7 : ∀ j, j < 2 → defaultValue (tyX7 j) = vp_V [.null, .null] j := fun j hj => by
  match j, hj with
  | 0, _ => rfl
  | 1, _ => rfl
  | n + 2, h => exact absurd h (by omega)

theorem df_X8 : ∀ j, j < 1 → defaultValue (tyX8 j) = vp_V [.null] j := fun j hj => by
  match j, hj with
  | 0, _ => rfl
  | n + 1, h => exact absurd h (by omega)

theorem df_X10 : ∀ j, j < 8 → defaultValue (tyX10 j) = vp_V [.null, .null, .null, .int 0, .int 0, .int 0, .int 0, .int 0] j := fun j hj => by
  match j, hj with
  | 0, _ => rfl
  | 1, _ => rfl
  | 2, _ => rfl
  | 3, _ => rfl
  | 4, _ => rfl
  | 5, _ => rfl
  | 6, _ => rfl
  | 7, _ => rfl
  | n + 8, h => exact absurd h (by omega)

theorem df_X11 : ∀ j, j < 63 → defaultValue (tyX11 j) = vp_V [.int 0, .int 0, .null, .null, .null, .null, .null, .null, .null, .null, .null, .null, .null, .null, .null, .null, .null, .int 0, .int 0, .null, .null, .null, .null, .null, .null, .null, .null, .null, .null, .null, .null, .null, .null, .null, .null, .null, .null, .null, .null, .null, .null, .null, .null, .null, .null, .null, .int 0, .int 0, .int 0, .int 0, .int 0, .int 0, .int 0, .int 0, .null, .null, .null, .null, .null, .null, .int 0, .null, .null] j := fun j hj => by
  match j, hj with
  | 0, _ => rfl
  | 1, _ => rfl
  | 2, _ => rfl
  | 3, _ => rfl
  | 4, _ => rfl
  | 5, _ => rfl
  | 6, _ => rfl
  | 7, _ => rfl
  | 8, _ => rfl
  | 9, _ => rfl
  | 10, _ => rfl
  | 11, _ => rfl
  | 12, _ => rfl
  | 13, _ => rfl
  | 14, _ => rfl
  | 15, _ => rfl
  | 16, _ => rfl
  | 17, _ => rfl
  | 18, _ => rfl
  | 19, _ => rfl
  | 20, _ => rfl
  | 21, _ => rfl
  | 22, _ => rfl
  | 23, _ => rfl
  | 24, _ => rfl
  | 25, _ => rfl
  | 26, _ => rfl
  | 27, _ => rfl
  | 28, _ => rfl
  | 29, _ => rfl
  | 30, _ => rfl
  | 31, _ => rfl
  | 32, _ => rfl
  | 33, _ => rfl
  | 34, _ => rfl
  | 35, _ => rfl
  | 36, _ => rfl
  | 37, _ => rfl
  | 38, _ => rfl
  | 39, _ => rfl
  | 40, _ => rfl
  | 41, _ => rfl
  | 42, _ => rfl
  | 43, _ => rfl
  | 44, _ => rfl
  | 45, _ => rfl
  | 46, _ => rfl
  | 47, _ => rfl
  | 48, _ => rfl
  | 49, _ => rfl
  | 50, _ => rfl
  | 51, _ => rfl
  | 52, _ => rfl
  | 53, _ => rfl
  | 54, _ => rfl
  | 55, _ => rfl
  | 56, _ => rfl
  | 57, _ => rfl
  | 58, _ => rfl
  | 59, _ => rfl
  | 60, _ => rfl
  | 61, _ => rfl
  | 62, _ => rfl
  | n + 63, h => exact absurd h (by omega)

def v_c_X1_init : List Cond := .code yX1_init cX1_init 1 none :: ([.methodLink RX1 3 objectInit, .instanceMethod objectInit, .code objectInit ⟨#[0xb1]⟩ 1 none, .fieldLink RX1 9 "ClaimBus$Frame" "identifier" "I", .fieldLink RX1 15 "ClaimBus$Frame" "first" "I", .fieldLink RX1 18 "ClaimBus$Frame" "others" "I", .fieldLink RX1 21 "ClaimBus$Frame" "whole" "LClaimBus$Message;"] ++ wsX10)
theorem in_c_X1_init_X1 : ∀ w ∈ wsX10, w ∈ v_c_X1_init := fun w h => List.mem_cons_of_mem _ (List.mem_append_right _ h)
set_option maxHeartbeats 4000000 in
set_option maxRecDepth 100000 in
/-- Frame() -/
theorem c_X1_init (l : Launch) (dC : Nat → ClassId) (dI : Nat → Nat → Nat) (h0 : Nat) (sz : Nat)  : Met l yX1_init v_c_X1_init ({ frames := 1, cells := 0, slots := 0, locals := 12 }) (va_Pc [.ref h0] (fun U => U.heap.size = sz ∧ va_P (dC, dI) vwCl [(h0, .inr (2, [.int 0, .int 0, .int 0, .null]))] U.heap ∧ va_K (dC, dI) vwCl [] U ∧ va_D (fun _ => True) [(h0, .inr (2, [.int 0, .int 0, .int 0, .null]))] ∧ ev U)) (va_Qv (fun _ : Unit => True) (fun (_ : Unit) (_ : State) => True) (va_A [(h0, .inr (2, [.int 0, .int 0, .int 0, .null]))] sz)) 0 0 (va_A [(h0, .inr (2, [.int 0, .int 0, .int 0, .null]))] sz) := by
  refine Met.ofW (cc := cX1_init) (maxL := 1) (ret := none) (by decide) rfl ?_
  intro p e s m args below meth c s₁ B hml hv
  obtain ⟨rfl, hsz, hP, hK, hD0, hE⟩ := hv
  have hx := B.exec
  have hb := B.bytes
  have hr := B.returns
  have hts := atoms_spec (ws := v_c_X1_init) B.pre
  have hown : s.vm.findClass RX1 = some m.cls := findClass_of_methodNamed B.named
  have hlocks := B.notSynchronized
  have hin : meth.name = "<init>" := (name_of_methodNamed B.named B.method).1
  subst hsz
  have hD := hD0.self (sz := s.heap.size)
  generalize hAe : va_A [(h0, .inr (2, [.int 0, .int 0, .int 0, .null]))] s.heap.size = A at hD ⊢
  have hA : ∀ q : Nat, s.heap.size ≤ q → A q := fun q h => by rw [← hAe]; exact Or.inr h
  have hS : va_S A s.heap s.heap [] := va_S.rf
  have hP : va_P (dC, dI) vwCl [(h0, .inr (2, [.int 0, .int 0, .int 0, .null]))] s.heap := hP
  have hl := lv_entry ([.ref h0]) (n := 1) (Nat.le_of_ble_eq_true rfl)
  rw [lg_entry_eq]
  generalize (lg_sl ([.ref h0]) ++ List.replicate (1 - (lg_sl ([.ref h0])).length) Slot.unset).toArray = ls at hl ⊢
  have hl : lv_has ls 1 [(0, .ref h0)] := hl
  obtain ⟨H, hH⟩ : ∃ z : Heap, z = s.heap := ⟨_, rfl⟩
  rw [← hH]
  have hS : va_S A s.heap H [] := by rw [hH]; exact va_S.rf
  have hP : va_P (dC, dI) vwCl [(h0, .inr (2, [.int 0, .int 0, .int 0, .null]))] H := by rw [hH]; exact hP
  clear hH
  refine lv_aload_n hx hb dX1_init_0 rfl (lv_at hl 0 rfl) ?_
  refine W.objInit hx hb hown (hts (.methodLink RX1 3 objectInit) (List.mem_of_getElem? (i := 1) rfl)) (hts (.instanceMethod objectInit) (List.mem_of_getElem? (i := 2) rfl)) (hts (.code objectInit ⟨#[0xb1]⟩ 1 none) (List.mem_of_getElem? (i := 3) rfl)) rfl (by rw [hml]; exact hl.1) rfl dX1_init_1 (Nat.le_of_ble_eq_true rfl) (Nat.le_of_ble_eq_true rfl) ?_
  refine W.eq (g2 := F0 m 4 ls []) rfl ?_
  refine lv_aload_n hx hb dX1_init_4 rfl (lv_at hl 0 rfl) ?_
  refine lv_iconst (v := 0) hx hb dX1_init_5 (by decide) ?_
  refine va_put (D := (dC, dI)) (ci := 2) (v := .int 0) (ty := .int) (C := RX1) (T := TX1) (N := 4) hx hb hts in_c_X1_init_X1 tyX1 tyX1_ok nmX1 hown hK hP hD hS 0 rfl rfl 0 (by decide) (hts (.fieldLink RX1 9 "ClaimBus$Frame" "identifier" "I") (List.mem_of_getElem? (i := 4) rfl)) (fun _ h9 => h9) rfl (by decide +kernel) rfl rfl (Nat.le_of_ble_eq_true rfl) dX1_init_6 (fun H locs hP hD hS => ?_)
  have hP : va_P (dC, dI) vwCl [(h0, .inr (2, [.int 0, .int 0, .int 0, .null]))] H := hP
  have hD : va_D A [(h0, .inr (2, [.int 0, .int 0, .int 0, .null]))] := hD
  refine lv_aload_n hx hb dX1_init_9 rfl (lv_at hl 0 rfl) ?_
  refine lv_iconst (v := 0) hx hb dX1_init_10 (by decide) ?_
  refine va_put (D := (dC, dI)) (ci := 2) (v := .int 0) (ty := .int) (C := RX1) (T := TX1) (N := 4) hx hb hts in_c_X1_init_X1 tyX1 tyX1_ok nmX1 hown hK hP hD hS 0 rfl rfl 1 (by decide) (hts (.fieldLink RX1 15 "ClaimBus$Frame" "first" "I") (List.mem_of_getElem? (i := 5) rfl)) (fun _ h9 => h9) rfl (by decide +kernel) rfl rfl (Nat.le_of_ble_eq_true rfl) dX1_init_11 (fun H locs hP hD hS => ?_)
  have hP : va_P (dC, dI) vwCl [(h0, .inr (2, [.int 0, .int 0, .int 0, .null]))] H := hP
  have hD : va_D A [(h0, .inr (2, [.int 0, .int 0, .int 0, .null]))] := hD
  refine lv_aload_n hx hb dX1_init_14 rfl (lv_at hl 0 rfl) ?_
  refine lv_iconst (v := 0) hx hb dX1_init_15 (by decide) ?_
  refine va_put (D := (dC, dI)) (ci := 2) (v := .int 0) (ty := .int) (C := RX1) (T := TX1) (N := 4) hx hb hts in_c_X1_init_X1 tyX1 tyX1_ok nmX1 hown hK hP hD hS 0 rfl rfl 2 (by decide) (hts (.fieldLink RX1 18 "ClaimBus$Frame" "others" "I") (List.mem_of_getElem? (i := 6) rfl)) (fun _ h9 => h9) rfl (by decide +kernel) rfl rfl (Nat.le_of_ble_eq_true rfl) dX1_init_16 (fun H locs hP hD hS => ?_)
  have hP : va_P (dC, dI) vwCl [(h0, .inr (2, [.int 0, .int 0, .int 0, .null]))] H := hP
  have hD : va_D A [(h0, .inr (2, [.int 0, .int 0, .int 0, .null]))] := hD
  refine lv_aload_n hx hb dX1_init_19 rfl (lv_at hl 0 rfl) ?_
  refine lv_null hx hb dX1_init_20 ?_
  refine va_put (D := (dC, dI)) (ci := 2) (v := .null) (ty := (.object "ClaimBus$Message")) (C := RX1) (T := TX1) (N := 4) hx hb hts in_c_X1_init_X1 tyX1 tyX1_ok nmX1 hown hK hP hD hS 0 rfl rfl 3 (by decide) (hts (.fieldLink RX1 21 "ClaimBus$Frame" "whole" "LClaimBus$Message;") (List.mem_of_getElem? (i := 7) rfl)) (fun _ h9 => h9) rfl (by decide +kernel) rfl rfl (Nat.le_of_ble_eq_true rfl) dX1_init_21 (fun H locs hP hD hS => ?_)
  have hP : va_P (dC, dI) vwCl [(h0, .inr (2, [.int 0, .int 0, .int 0, .null]))] H := hP
  have hD : va_D A [(h0, .inr (2, [.int 0, .int 0, .int 0, .null]))] := hD
  exact W.vret hx hb hr (fun t ht hW => ⟨⟨(), rfl, trivial, trivial⟩, hS.F ht⟩) hS.2.2 dX1_init_24

def v_c_AC_init : List Cond := .code yJxa1e45_init_da8c8 cJxa1e45_init_da8c8 1 none :: ([.methodLink RJxa1e45 1 objectInit, .instanceMethod objectInit, .code objectInit ⟨#[0xb1]⟩ 1 none])
set_option maxHeartbeats 4000000 in
set_option maxRecDepth 100000 in
/-- AbstractCollection() -/
theorem c_AC_init (l : Launch) (dC : Nat → ClassId) (dI : Nat → Nat → Nat) (h0 : Nat) (sz : Nat)  : Met l yJxa1e45_init_da8c8 v_c_AC_init ({ frames := 1, cells := 0, slots := 0, locals := 12 }) (va_Pc [.ref h0] (fun U => U.heap.size = sz ∧ va_P (dC, dI) vwCl [] U.heap ∧ va_K (dC, dI) vwCl [] U ∧ va_D (fun _ => True) [] ∧ ev U)) (va_Qv (fun _ : Unit => True) (fun (_ : Unit) (_ : State) => True) (va_A [] sz)) 0 0 (va_A [] sz) := by
  refine va_MetF (cc := cJxa1e45_init_da8c8) (maxL := 1) (ret := none) (by decide) rfl ?_
  intro p e s m args below meth c s₁ B hml hv
  obtain ⟨rfl, hsz, hP, hK, hD0, hE⟩ := hv
  have hx := B.exec
  have hb := B.bytes
  have hr := B.returns
  have hts := atoms_spec (ws := v_c_AC_init) B.pre
  have hown : s.vm.findClass RJxa1e45 = some m.cls := findClass_of_methodNamed B.named
  have hlocks := B.notSynchronized
  have hin : meth.name = "<init>" := (name_of_methodNamed B.named B.method).1
  subst hsz
  have hD := hD0
  generalize hAe : va_A [] s.heap.size = A
  have hA : ∀ q : Nat, s.heap.size ≤ q → A q := fun q h => by rw [← hAe]; exact Or.inr h
  have hS : va_S A s.heap s.heap [] := va_S.rf
  have hP : va_P (dC, dI) vwCl [] s.heap := hP
  have hl := lv_entry ([.ref h0]) (n := 1) (Nat.le_of_ble_eq_true rfl)
  rw [lg_entry_eq]
  generalize (lg_sl ([.ref h0]) ++ List.replicate (1 - (lg_sl ([.ref h0])).length) Slot.unset).toArray = ls at hl ⊢
  have hl : lv_has ls 1 [(0, .ref h0)] := hl
  obtain ⟨H, hH⟩ : ∃ z : Heap, z = s.heap := ⟨_, rfl⟩
  rw [← hH]
  have hS : va_S A s.heap H [] := by rw [hH]; exact va_S.rf
  have hP : va_P (dC, dI) vwCl [] H := by rw [hH]; exact hP
  clear hH
  refine lv_aload_n hx hb dJxa1e45_init_da8c8_0 rfl (lv_at hl 0 rfl) ?_
  refine W.objInit hx hb hown (hts (.methodLink RJxa1e45 1 objectInit) (List.mem_of_getElem? (i := 1) rfl)) (hts (.instanceMethod objectInit) (List.mem_of_getElem? (i := 2) rfl)) (hts (.code objectInit ⟨#[0xb1]⟩ 1 none) (List.mem_of_getElem? (i := 3) rfl)) rfl (by rw [hml]; exact hl.1) rfl dJxa1e45_init_da8c8_1 (Nat.le_of_ble_eq_true rfl) (Nat.le_of_ble_eq_true rfl) ?_
  refine W.eq (g2 := F0 m 4 ls []) rfl ?_
  exact W.vret hx hb hr (fun t ht hW => ⟨⟨(), rfl, trivial, trivial⟩, hS.F ht⟩) hS.2.2 dJxa1e45_init_da8c8_4

def v_c_ALs_init : List Cond := .code yJxc12de_init_da8c8 cJxc12de_init_da8c8 1 none :: ([.code yJxa1e45_init_da8c8 cJxa1e45_init_da8c8 1 none, .methodLink RJxa1e45 1 objectInit, .instanceMethod objectInit, .code objectInit ⟨#[0xb1]⟩ 1 none, .initialized RJxa1e45, .methodLink RJxc12de 1 yJxa1e45_init_da8c8, .instanceMethod yJxa1e45_init_da8c8, .fieldLink RJxc12de 7 "java/util/AbstractList" "modCount" "I"] ++ wsJx4a65c0)
theorem in_c_ALs_init_Jx4a65c : ∀ w ∈ wsJx4a65c0, w ∈ v_c_ALs_init := fun w h => List.mem_cons_of_mem _ (List.mem_append_right _ h)
set_option maxRecDepth 20000 in
theorem g_c_ALs_init_c_AC_init_1 : GoodIn v_c_ALs_init v_c_AC_init := goodIn_r _ [1, 2, 3, 4] (by decide +kernel) (by decide +kernel)
set_option maxHeartbeats 4000000 in
set_option maxRecDepth 100000 in
/-- AbstractList() -/
theorem c_ALs_init (l : Launch) (dC : Nat → ClassId) (dI : Nat → Nat → Nat) (h0 : Nat) (sz : Nat)  : Met l yJxc12de_init_da8c8 v_c_ALs_init ({ frames := 2, cells := 0, slots := 0, locals := 32 }) (va_Pc [.ref h0] (fun U => U.heap.size = sz ∧ va_P (dC, dI) vwCl [(h0, .inr (0, [.int 0, .null, .int 0]))] U.heap ∧ va_K (dC, dI) vwCl [] U ∧ va_D (fun _ => True) [(h0, .inr (0, [.int 0, .null, .int 0]))] ∧ ev U)) (va_Qv (fun _ : Unit => True) (fun (_ : Unit) (t : State) => va_P (dC, dI) vwCl [(h0, .inr (0, [.int 0, .null, .int 0]))] t.heap ∧ va_K (dC, dI) vwCl [] t ∧ va_D (va_A [(h0, .inr (0, [.int 0, .null, .int 0]))] sz) [(h0, .inr (0, [.int 0, .null, .int 0]))]) (va_A [(h0, .inr (0, [.int 0, .null, .int 0]))] sz)) 0 0 (va_A [(h0, .inr (0, [.int 0, .null, .int 0]))] sz) := by
  refine va_MetF (cc := cJxc12de_init_da8c8) (maxL := 1) (ret := none) (by decide) rfl ?_
  intro p e s m args below meth c s₁ B hml hv
  obtain ⟨rfl, hsz, hP, hK, hD0, hE⟩ := hv
  have hx := B.exec
  have hb := B.bytes
  have hr := B.returns
  have hts := atoms_spec (ws := v_c_ALs_init) B.pre
  have hown : s.vm.findClass RJxc12de = some m.cls := findClass_of_methodNamed B.named
  have hlocks := B.notSynchronized
  have hin : meth.name = "<init>" := (name_of_methodNamed B.named B.method).1
  subst hsz
  have hD := hD0.self (sz := s.heap.size)
  generalize hAe : va_A [(h0, .inr (0, [.int 0, .null, .int 0]))] s.heap.size = A at hD ⊢
  have hA : ∀ q : Nat, s.heap.size ≤ q → A q := fun q h => by rw [← hAe]; exact Or.inr h
  have hS : va_S A s.heap s.heap [] := va_S.rf
  have hP : va_P (dC, dI) vwCl [(h0, .inr (0, [.int 0, .null, .int 0]))] s.heap := hP
  have hl := lv_entry ([.ref h0]) (n := 1) (Nat.le_of_ble_eq_true rfl)
  rw [lg_entry_eq]
  generalize (lg_sl ([.ref h0]) ++ List.replicate (1 - (lg_sl ([.ref h0])).length) Slot.unset).toArray = ls at hl ⊢
  have hl : lv_has ls 1 [(0, .ref h0)] := hl
  obtain ⟨H, hH⟩ : ∃ z : Heap, z = s.heap := ⟨_, rfl⟩
  rw [← hH]
  have hS : va_S A s.heap H [] := by rw [hH]; exact va_S.rf
  have hP : va_P (dC, dI) vwCl [(h0, .inr (0, [.int 0, .null, .int 0]))] H := by rw [hH]; exact hP
  clear hH
  refine lv_aload_n hx hb dJxc12de_init_da8c8_0 rfl (lv_at hl 0 rfl) ?_
  have hPc := hP.sub (ws' := []) [] rfl
  have hDc := hD.sub (ws' := []) [] (by decide) rfl
  have hKc := hK.sub (tys' := []) [] rfl
  have hFc := ro_free hS hA
  refine va_callv (va_runI (As := []) (rest := []) ⟨hx, hb, hml, hown, hts⟩ (c_AC_init l dC dI (h0) H.size) (cwI 0 hts g_c_ALs_init_c_AC_init_1 rfl rfl rfl (hts (.initialized RJxa1e45) (List.mem_of_getElem? (i := 5) rfl)) (hts (.methodLink RJxc12de 1 yJxa1e45_init_da8c8) (List.mem_of_getElem? (i := 6) rfl)) (hts (.instanceMethod yJxa1e45_init_da8c8) (List.mem_of_getElem? (i := 7) rfl)) rfl (by decide +kernel) ⟨Nat.le_of_ble_eq_true rfl, Nat.le_of_ble_eq_true rfl⟩) ⟨fun a U g mk q => by obtain ⟨q0, q1, qP, qK, qD, qE⟩ := q; exact ⟨q0, q1, qP, va_K.moved (u := U) (U := U.calling g mk a) (Vm.Alike.refl U.vm) qK, qD, ev.same (u := U) (U := U.calling g mk a) rfl qE⟩, fun U hU hW => ⟨rfl, by rw [hU], by rw [hU]; exact hPc, va_K.moved hW.alike hKc, hDc.weaken (fun _ _ _ _ => trivial), hE.warm hW⟩⟩ rfl rfl hl.1 rfl (lv_room (Nat.le_of_ble_eq_true rfl)) dJxc12de_init_da8c8_1 ⟨Nat.le_of_ble_eq_true rfl, Nat.le_of_ble_eq_true rfl⟩) hS (fun q _ h => hFc q h) hFc (fun u t H1 locs ht hvm hw hB hz1 hk1 hS => ?_)
  clear hPc hDc hKc
  have hP := ro_keep hP hk1
  generalize H1 = H at hP hS ⊢
  have hP : va_P (dC, dI) vwCl [(h0, .inr (0, [.int 0, .null, .int 0]))] H := hP
  refine lv_aload_n hx hb dJxc12de_init_da8c8_4 rfl (lv_at hl 0 rfl) ?_
  refine lv_iconst (v := 0) hx hb dJxc12de_init_da8c8_5 (by decide) ?_
  refine va_put (D := (dC, dI)) (ci := 0) (v := .int 0) (ty := .int) (C := RJx4a65c) (T := TJx4a65c) (N := 3) hx hb hts in_c_ALs_init_Jx4a65c tyJx4a65c tyJx4a65c_ok nmJx4a65c hown hK hP hD hS 0 rfl rfl 0 (by decide) (hts (.fieldLink RJxc12de 7 "java/util/AbstractList" "modCount" "I") (List.mem_of_getElem? (i := 8) rfl)) (fun _ h9 => h9) rfl (by decide +kernel) rfl rfl (Nat.le_of_ble_eq_true rfl) dJxc12de_init_da8c8_6 (fun H locs hP hD hS => ?_)
  have hP : va_P (dC, dI) vwCl [(h0, .inr (0, [.int 0, .null, .int 0]))] H := hP
  have hD : va_D A [(h0, .inr (0, [.int 0, .null, .int 0]))] := hD
  have hP9 := hP.sub (ws' := [(h0, .inr (0, [.int 0, .null, .int 0]))]) [0] rfl
  have hD9 := hD.sub (ws' := [(h0, .inr (0, [.int 0, .null, .int 0]))]) [0] (by decide) rfl
  have hK9 := hK.sub (tys' := []) [] rfl
  exact W.vret hx hb hr (fun t ht hW => ⟨⟨(), rfl, trivial, ⟨by rw [ht]; exact hP9, va_K.moved hW.alike hK9, hD9⟩⟩, hS.F ht⟩) hS.2.2 dJxc12de_init_da8c8_9

def v_c_AL_init : List Cond := .code yJx4a65c_init_da8c8 cJx4a65c_init_da8c8 1 none :: ([.code yJxc12de_init_da8c8 cJxc12de_init_da8c8 1 none, .code yJxa1e45_init_da8c8 cJxa1e45_init_da8c8 1 none, .methodLink RJxa1e45 1 objectInit, .instanceMethod objectInit, .code objectInit ⟨#[0xb1]⟩ 1 none, .initialized RJxa1e45, .methodLink RJxc12de 1 yJxa1e45_init_da8c8, .instanceMethod yJxa1e45_init_da8c8, .fieldLink RJxc12de 7 "java/util/AbstractList" "modCount" "I", .initialized RJxc12de, .methodLink RJx4a65c 1 yJxc12de_init_da8c8, .instanceMethod yJxc12de_init_da8c8, .fieldLink RJx4a65c 39 "java/util/ArrayList" "DEFAULTCAPACITY_EMPTY_ELEMENTDATA" "[Ljava/lang/Object;", .fieldLink RJx4a65c 9 "java/util/ArrayList" "elementData" "[Ljava/lang/Object;"] ++ wsJx4a65c0)
theorem in_c_AL_init_Jx4a65c : ∀ w ∈ wsJx4a65c0, w ∈ v_c_AL_init := fun w h => List.mem_cons_of_mem _ (List.mem_append_right _ h)
set_option maxRecDepth 20000 in
theorem g_c_AL_init_c_ALs_init_1 : GoodIn v_c_AL_init v_c_ALs_init := goodIn_r _ [1, 2, 3, 4, 5, 6, 7, 8, 9, 15, 16, 17] (by decide +kernel) (by decide +kernel)
set_option maxHeartbeats 4000000 in
set_option maxRecDepth 100000 in
/-- ArrayList() -/
theorem c_AL_init (l : Launch) (dC : Nat → ClassId) (dI : Nat → Nat → Nat) (h0 : Nat) (sz : Nat)  : Met l yJx4a65c_init_da8c8 v_c_AL_init ({ frames := 3, cells := 0, slots := 0, locals := 52 }) (va_Pc [.ref h0] (fun U => U.heap.size = sz ∧ va_P (dC, dI) vwCl [(h0, .inr (0, [.int 0, .null, .int 0]))] U.heap ∧ va_K (dC, dI) vwCl [] U ∧ va_D (fun _ => True) [(h0, .inr (0, [.int 0, .null, .int 0]))] ∧ ev U ∧ va_Zq "java/util/ArrayList" "DEFAULTCAPACITY_EMPTY_ELEMENTDATA" "[Ljava/lang/Object;" (va_A [(h0, .inr (0, [.int 0, .null, .int 0]))] sz) U U.heap)) (va_Qv (fun _ : Unit => True) (fun (_ : Unit) (_ : State) => True) (va_A [(h0, .inr (0, [.int 0, .null, .int 0]))] sz)) 0 0 (va_A [(h0, .inr (0, [.int 0, .null, .int 0]))] sz) := by
  refine va_MetF (cc := cJx4a65c_init_da8c8) (maxL := 1) (ret := none) (by decide) rfl ?_
  intro p e s m args below meth c s₁ B hml hv
  obtain ⟨rfl, hsz, hP, hK, hD0, hE, hZ⟩ := hv
  have hx := B.exec
  have hb := B.bytes
  have hr := B.returns
  have hts := atoms_spec (ws := v_c_AL_init) B.pre
  have hown : s.vm.findClass RJx4a65c = some m.cls := findClass_of_methodNamed B.named
  have hlocks := B.notSynchronized
  have hin : meth.name = "<init>" := (name_of_methodNamed B.named B.method).1
  subst hsz
  have hD := hD0.self (sz := s.heap.size)
  generalize hAe : va_A [(h0, .inr (0, [.int 0, .null, .int 0]))] s.heap.size = A at hD hZ ⊢
  have hA : ∀ q : Nat, s.heap.size ≤ q → A q := fun q h => by rw [← hAe]; exact Or.inr h
  have hS : va_S A s.heap s.heap [] := va_S.rf
  have hP : va_P (dC, dI) vwCl [(h0, .inr (0, [.int 0, .null, .int 0]))] s.heap := hP
  have hl := lv_entry ([.ref h0]) (n := 1) (Nat.le_of_ble_eq_true rfl)
  rw [lg_entry_eq]
  generalize (lg_sl ([.ref h0]) ++ List.replicate (1 - (lg_sl ([.ref h0])).length) Slot.unset).toArray = ls at hl ⊢
  have hl : lv_has ls 1 [(0, .ref h0)] := hl
  obtain ⟨H, hH⟩ : ∃ z : Heap, z = s.heap := ⟨_, rfl⟩
  rw [← hH]
  have hS : va_S A s.heap H [] := by rw [hH]; exact va_S.rf
  have hP : va_P (dC, dI) vwCl [(h0, .inr (0, [.int 0, .null, .int 0]))] H := by rw [hH]; exact hP
  clear hH
  refine lv_aload_n hx hb dJx4a65c_init_da8c8_0 rfl (lv_at hl 0 rfl) ?_
  have hPc := hP.sub (ws' := [(h0, .inr (0, [.int 0, .null, .int 0]))]) [0] rfl
  have hDc := hD.sub (ws' := [(h0, .inr (0, [.int 0, .null, .int 0]))]) [0] (by decide) rfl
  have hKc := hK.sub (tys' := []) [] rfl
  have hFc := va_free (wc := [(h0, .inr (0, [.int 0, .null, .int 0]))]) hD hS hA [0] rfl
  refine va_callv (va_runI (As := []) (rest := []) ⟨hx, hb, hml, hown, hts⟩ (c_ALs_init l dC dI (h0) H.size) (cwI 0 hts g_c_AL_init_c_ALs_init_1 rfl rfl rfl (hts (.initialized RJxc12de) (List.mem_of_getElem? (i := 10) rfl)) (hts (.methodLink RJx4a65c 1 yJxc12de_init_da8c8) (List.mem_of_getElem? (i := 11) rfl)) (hts (.instanceMethod yJxc12de_init_da8c8) (List.mem_of_getElem? (i := 12) rfl)) rfl (by decide +kernel) ⟨Nat.le_of_ble_eq_true rfl, Nat.le_of_ble_eq_true rfl⟩) ⟨fun a U g mk q => by obtain ⟨q0, q1, qP, qK, qD, qE⟩ := q; exact ⟨q0, q1, qP, va_K.moved (u := U) (U := U.calling g mk a) (Vm.Alike.refl U.vm) qK, qD, ev.same (u := U) (U := U.calling g mk a) rfl qE⟩, fun U hU hW => ⟨rfl, by rw [hU], by rw [hU]; exact hPc, va_K.moved hW.alike hKc, hDc.weaken (fun _ _ _ _ => trivial), hE.warm hW⟩⟩ rfl rfl hl.1 rfl (lv_room (Nat.le_of_ble_eq_true rfl)) dJx4a65c_init_da8c8_1 ⟨Nat.le_of_ble_eq_true rfl, Nat.le_of_ble_eq_true rfl⟩) hS (fun q _ h => hFc q h) hFc (fun u t H1 locs ht hvm hw hB hz1 hk1 hS => ?_)
  clear hPc hDc hKc
  obtain ⟨hP1, hK1, hD1⟩ := hB
  rw [ht] at hP1
  have hK1 := va_K.moved hvm.symm hK1
  obtain ⟨hP, hD⟩ := va_join (wr := []) (w1 := [(h0, .inr (0, [.int 0, .null, .int 0]))]) hP hD [0] [] rfl rfl (by decide) (by decide) hk1 hFc hP1 hD1
  generalize H1 = H at hP hS ⊢
  have hP : va_P (dC, dI) vwCl [(h0, .inr (0, [.int 0, .null, .int 0]))] H := hP
  have hD : va_D A [(h0, .inr (0, [.int 0, .null, .int 0]))] := hD
  refine lv_aload_n hx hb dJx4a65c_init_da8c8_4 rfl (lv_at hl 0 rfl) ?_
  rcases hZ with hZ | ⟨zt, hZ⟩
  · refine va_gets hx hb hZ hS hown (hts (.fieldLink RJx4a65c 39 "java/util/ArrayList" "DEFAULTCAPACITY_EMPTY_ELEMENTDATA" "[Ljava/lang/Object;") (List.mem_of_getElem? (i := 13) rfl)) (fun _ h9 => h9) dJx4a65c_init_da8c8_5 ?_
    refine va_put (D := (dC, dI)) (ci := 0) (v := .null) (ty := (.array (.object "java/lang/Object"))) (C := RJx4a65c) (T := TJx4a65c) (N := 3) hx hb hts in_c_AL_init_Jx4a65c tyJx4a65c tyJx4a65c_ok nmJx4a65c hown hK hP hD hS 0 rfl rfl 1 (by decide) (hts (.fieldLink RJx4a65c 9 "java/util/ArrayList" "elementData" "[Ljava/lang/Object;") (List.mem_of_getElem? (i := 14) rfl)) (fun _ h9 => h9) rfl (by decide +kernel) rfl rfl (Nat.le_of_ble_eq_true rfl) dJx4a65c_init_da8c8_8 (fun H locs hP hD hS => ?_)
    have hP : va_P (dC, dI) vwCl [(h0, .inr (0, [.int 0, .null, .int 0]))] H := hP
    have hD : va_D A [(h0, .inr (0, [.int 0, .null, .int 0]))] := hD
    exact W.vret hx hb hr (fun t ht hW => ⟨⟨(), rfl, trivial, trivial⟩, hS.F ht⟩) hS.2.2 dJx4a65c_init_da8c8_11
  · refine va_gets hx hb hZ hS hown (hts (.fieldLink RJx4a65c 39 "java/util/ArrayList" "DEFAULTCAPACITY_EMPTY_ELEMENTDATA" "[Ljava/lang/Object;") (List.mem_of_getElem? (i := 13) rfl)) (fun _ h9 => h9) dJx4a65c_init_da8c8_5 ?_
    refine va_put (D := (dC, dI)) (ci := 0) (v := .ref zt) (ty := (.array (.object "java/lang/Object"))) (C := RJx4a65c) (T := TJx4a65c) (N := 3) hx hb hts in_c_AL_init_Jx4a65c tyJx4a65c tyJx4a65c_ok nmJx4a65c hown hK hP hD hS 0 rfl rfl 1 (by decide) (hts (.fieldLink RJx4a65c 9 "java/util/ArrayList" "elementData" "[Ljava/lang/Object;") (List.mem_of_getElem? (i := 14) rfl)) (fun _ h9 => h9) rfl (by decide +kernel) rfl rfl (Nat.le_of_ble_eq_true rfl) dJx4a65c_init_da8c8_8 (fun H locs hP hD hS => ?_)
    have hP : va_P (dC, dI) vwCl [(h0, .inr (0, [.int 0, .ref zt, .int 0]))] H := hP
    have hD : va_D A [(h0, .inr (0, [.int 0, .ref zt, .int 0]))] := hD
    exact W.vret hx hb hr (fun t ht hW => ⟨⟨(), rfl, trivial, trivial⟩, hS.F ht⟩) hS.2.2 dJx4a65c_init_da8c8_11

def v_c_X7_init : List Cond := .code yX7_init cX7_init 1 none :: ([.methodLink RX7 3 objectInit, .instanceMethod objectInit, .code objectInit ⟨#[0xb1]⟩ 1 none, .classLink RX7 9 RJx4a65c, .instantiable RJx4a65c 3, .initialized RJx4a65c, .code yJx4a65c_init_da8c8 cJx4a65c_init_da8c8 1 none, .code yJxc12de_init_da8c8 cJxc12de_init_da8c8 1 none, .code yJxa1e45_init_da8c8 cJxa1e45_init_da8c8 1 none, .methodLink RJxa1e45 1 objectInit, .initialized RJxa1e45, .methodLink RJxc12de 1 yJxa1e45_init_da8c8, .instanceMethod yJxa1e45_init_da8c8, .fieldLink RJxc12de 7 "java/util/AbstractList" "modCount" "I", .initialized RJxc12de, .methodLink RJx4a65c 1 yJxc12de_init_da8c8, .instanceMethod yJxc12de_init_da8c8, .fieldLink RJx4a65c 39 "java/util/ArrayList" "DEFAULTCAPACITY_EMPTY_ELEMENTDATA" "[Ljava/lang/Object;", .fieldLink RJx4a65c 9 "java/util/ArrayList" "elementData" "[Ljava/lang/Object;", .methodLink RX7 11 yJx4a65c_init_da8c8, .instanceMethod yJx4a65c_init_da8c8, .fieldLink RX7 12 "ClaimBus$Store" "messages" "Ljava/util/ArrayList;", .fieldLink RX7 18 "ClaimBus$Store" "unused" "LClaimBus$Chunk;"] ++ wsJx4a65c0 ++ wsX70)
theorem in_c_X7_init_Jx4a65c : ∀ w ∈ wsJx4a65c0, w ∈ v_c_X7_init := fun w h => List.mem_cons_of_mem _ (List.mem_append_left _ (List.mem_append_right _ h))
theorem in_c_X7_init_X7 : ∀ w ∈ wsX70, w ∈ v_c_X7_init := fun w h => List.mem_cons_of_mem _ (List.mem_append_right _ h)
set_option maxRecDepth 20000 in
theorem g_c_X7_init_c_AL_init_11 : GoodIn v_c_X7_init v_c_AL_init := goodIn_r _ [7, 8, 9, 10, 2, 3, 11, 12, 13, 14, 15, 16, 17, 18, 19, 24, 25, 26] (by decide +kernel) (by decide +kernel)
set_option maxHeartbeats 4000000 in
set_option maxRecDepth 100000 in
/-- Store() -/
theorem c_X7_init (l : Launch) (dC : Nat → ClassId) (dI : Nat → Nat → Nat) (h0 : Nat) (sz : Nat)  : Met l yX7_init v_c_X7_init ({ frames := 4, cells := 1, slots := 3, locals := 72 }) (va_Pc [.ref h0] (fun U => U.heap.size = sz ∧ va_P (dC, dI) vwCl [(h0, .inr (8, [.null, .null]))] U.heap ∧ va_K (dC, dI) vwCl [] U ∧ va_D (fun _ => True) [(h0, .inr (8, [.null, .null]))] ∧ ev U ∧ va_Zq "java/util/ArrayList" "DEFAULTCAPACITY_EMPTY_ELEMENTDATA" "[Ljava/lang/Object;" (va_A [(h0, .inr (8, [.null, .null]))] sz) U U.heap)) (va_Qv (fun _ : Unit => True) (fun (_ : Unit) (_ : State) => True) (va_A [(h0, .inr (8, [.null, .null]))] sz)) 1 3 (va_A [(h0, .inr (8, [.null, .null]))] sz) := by
  refine Met.ofW (cc := cX7_init) (maxL := 1) (ret := none) (by decide) rfl ?_
  intro p e s m args below meth c s₁ B hml hv
  obtain ⟨rfl, hsz, hP, hK, hD0, hE, hZ⟩ := hv
  have hx := B.exec
  have hb := B.bytes
  have hr := B.returns
  have hts := atoms_spec (ws := v_c_X7_init) B.pre
  have hown : s.vm.findClass RX7 = some m.cls := findClass_of_methodNamed B.named
  have hlocks := B.notSynchronized
  have hin : meth.name = "<init>" := (name_of_methodNamed B.named B.method).1
  subst hsz
  have hD := hD0.self (sz := s.heap.size)
  generalize hAe : va_A [(h0, .inr (8, [.null, .null]))] s.heap.size = A at hD hZ ⊢
  have hA : ∀ q : Nat, s.heap.size ≤ q → A q := fun q h => by rw [← hAe]; exact Or.inr h
  have hS : va_S A s.heap s.heap [] := va_S.rf
  have hP : va_P (dC, dI) vwCl [(h0, .inr (8, [.null, .null]))] s.heap := hP
  have hl := lv_entry ([.ref h0]) (n := 1) (Nat.le_of_ble_eq_true rfl)
  rw [lg_entry_eq]
  generalize (lg_sl ([.ref h0]) ++ List.replicate (1 - (lg_sl ([.ref h0])).length) Slot.unset).toArray = ls at hl ⊢
  have hl : lv_has ls 1 [(0, .ref h0)] := hl
  obtain ⟨H, hH⟩ : ∃ z : Heap, z = s.heap := ⟨_, rfl⟩
  rw [← hH]
  have hS : va_S A s.heap H [] := by rw [hH]; exact va_S.rf
  have hP : va_P (dC, dI) vwCl [(h0, .inr (8, [.null, .null]))] H := by rw [hH]; exact hP
  clear hH
  refine lv_aload_n hx hb dX7_init_0 rfl (lv_at hl 0 rfl) ?_
  refine W.objInit hx hb hown (hts (.methodLink RX7 3 objectInit) (List.mem_of_getElem? (i := 1) rfl)) (hts (.instanceMethod objectInit) (List.mem_of_getElem? (i := 2) rfl)) (hts (.code objectInit ⟨#[0xb1]⟩ 1 none) (List.mem_of_getElem? (i := 3) rfl)) rfl (by rw [hml]; exact hl.1) rfl dX7_init_1 (Nat.le_of_ble_eq_true rfl) (Nat.le_of_ble_eq_true rfl) ?_
  refine W.eq (g2 := F0 m 4 ls []) rfl ?_
  refine lv_aload_n hx hb dX7_init_4 rfl (lv_at hl 0 rfl) ?_
  refine va_new (ci := 0) (fs := [.int 0, .null, .int 0]) (C := RJx4a65c) (T := TJx4a65c) (N := 3) hx hb hts in_c_X7_init_Jx4a65c tyJx4a65c tyJx4a65c_ok hown (hts (.classLink RX7 9 RJx4a65c) (List.mem_of_getElem? (i := 4) rfl)) (hts (.instantiable RJx4a65c 3) (List.mem_of_getElem? (i := 5) rfl)) (hts (.initialized RJx4a65c) (List.mem_of_getElem? (i := 6) rfl)) hK hP hD hS hA rfl df_Jx4a65c (Nat.le_of_ble_eq_true rfl) (Nat.le_of_ble_eq_true rfl) dX7_init_5 (fun q1 H hP hD hS => ?_)
  have hP : va_P (dC, dI) vwCl [(h0, .inr (8, [.null, .null])), (q1, .inr (0, [.int 0, .null, .int 0]))] H := hP
  have hD : va_D A [(h0, .inr (8, [.null, .null])), (q1, .inr (0, [.int 0, .null, .int 0]))] := hD
  refine W.widen (k := 1) (n := 3) (Nat.le_of_ble_eq_true rfl) (Nat.le_of_ble_eq_true rfl) ?_
  refine lv_dup hx hb dX7_init_8 rfl ?_
  have hPc := hP.sub (ws' := [(q1, .inr (0, [.int 0, .null, .int 0]))]) [1] rfl
  have hDc := hD.sub (ws' := [(q1, .inr (0, [.int 0, .null, .int 0]))]) [1] (by decide) rfl
  have hKc := hK.sub (tys' := []) [] rfl
  have hFc := va_free (wc := [(q1, .inr (0, [.int 0, .null, .int 0]))]) hD hS hA [1] rfl
  have hZc := (w_zq hZ hS).narrow (fun q h => hFc q h)
  refine va_callv (va_runI (As := []) (rest := [.ref q1, .ref h0]) ⟨hx, hb, hml, hown, hts⟩ (c_AL_init l dC dI (q1) H.size) (cwI 0 hts g_c_X7_init_c_AL_init_11 rfl rfl rfl (hts (.initialized RJx4a65c) (List.mem_of_getElem? (i := 6) rfl)) (hts (.methodLink RX7 11 yJx4a65c_init_da8c8) (List.mem_of_getElem? (i := 20) rfl)) (hts (.instanceMethod yJx4a65c_init_da8c8) (List.mem_of_getElem? (i := 21) rfl)) rfl (by decide +kernel) ⟨Nat.le_of_ble_eq_true rfl, Nat.le_of_ble_eq_true rfl⟩) ⟨fun a U g mk q => by obtain ⟨q0, q1, qP, qK, qD, qE, qZ⟩ := q; exact ⟨q0, q1, qP, va_K.moved (u := U) (U := U.calling g mk a) (Vm.Alike.refl U.vm) qK, qD, ev.same (u := U) (U := U.calling g mk a) rfl qE, va_Zq.moved (u := U) (U := U.calling g mk a) (Vm.Alike.refl U.vm) qZ⟩, fun U hU hW => ⟨rfl, by rw [hU], by rw [hU]; exact hPc, va_K.moved hW.alike hKc, hDc.weaken (fun _ _ _ _ => trivial), hE.warm hW, by rw [hU]; exact hZc.moved hW.alike⟩⟩ rfl rfl hl.1 rfl (lv_room (Nat.le_of_ble_eq_true rfl)) dX7_init_9 ⟨Nat.le_of_ble_eq_true rfl, Nat.le_of_ble_eq_true rfl⟩) hS (fun q _ h => hFc q h) hFc (fun u t H1 locs ht hvm hw hB hz1 hk1 hS => ?_)
  clear hPc hDc hKc
  obtain ⟨hP, hD⟩ := va_join (wr := [(h0, .inr (8, [.null, .null]))]) (w1 := []) hP hD [1] [0] rfl rfl (by decide) (by decide) hk1 hFc p_nil d_nil
  generalize H1 = H at hP hS ⊢
  have hP : va_P (dC, dI) vwCl [(h0, .inr (8, [.null, .null]))] H := hP
  have hD : va_D A [(h0, .inr (8, [.null, .null]))] := hD
  refine va_putF (D := (dC, dI)) (ci := 8) (v := .ref q1) (ty := (.object "java/util/ArrayList")) (C := RX7) (T := TX7) (N := 2) hx hb hts in_c_X7_init_X7 tyX7 tyX7_ok nmX7 hown hK hP hD hS 0 rfl rfl 0 (by decide) (hts (.fieldLink RX7 12 "ClaimBus$Store" "messages" "Ljava/util/ArrayList;") (List.mem_of_getElem? (i := 22) rfl)) (fun _ h9 => h9) rfl hin rfl (by decide +kernel) rfl rfl (Nat.le_of_ble_eq_true rfl) dX7_init_12 (fun H locs hP hD hS => ?_)
  have hP : va_P (dC, dI) vwCl [(h0, .inr (8, [.ref q1, .null]))] H := hP
  have hD : va_D A [(h0, .inr (8, [.ref q1, .null]))] := hD
  refine lv_aload_n hx hb dX7_init_15 rfl (lv_at hl 0 rfl) ?_
  refine lv_null hx hb dX7_init_16 ?_
  refine va_put (D := (dC, dI)) (ci := 8) (v := .null) (ty := (.object "ClaimBus$Chunk")) (C := RX7) (T := TX7) (N := 2) hx hb hts in_c_X7_init_X7 tyX7 tyX7_ok nmX7 hown hK hP hD hS 0 rfl rfl 1 (by decide) (hts (.fieldLink RX7 18 "ClaimBus$Store" "unused" "LClaimBus$Chunk;") (List.mem_of_getElem? (i := 23) rfl)) (fun _ h9 => h9) rfl (by decide +kernel) rfl rfl (Nat.le_of_ble_eq_true rfl) dX7_init_17 (fun H locs hP hD hS => ?_)
  have hP : va_P (dC, dI) vwCl [(h0, .inr (8, [.ref q1, .null]))] H := hP
  have hD : va_D A [(h0, .inr (8, [.ref q1, .null]))] := hD
  exact W.vret hx hb hr (fun t ht hW => ⟨⟨(), rfl, trivial, trivial⟩, hS.F ht⟩) hS.2.2 dX7_init_20

def v_c_X10_init : List Cond := .code yX10_init cX10_init 1 none :: ([.methodLink RX10 1 objectInit, .instanceMethod objectInit, .code objectInit ⟨#[0xb1]⟩ 1 none, .classLink RX10 9 RX4, .fieldLink RX10 11 "ClaimBus" "nodes" "[LClaimBus$Node;", .classLink RX10 15 RX7, .instantiable RX7 2, .initialized RX7, .code yX7_init cX7_init 1 none, .methodLink RX7 3 objectInit, .classLink RX7 9 RJx4a65c, .instantiable RJx4a65c 3, .initialized RJx4a65c, .code yJx4a65c_init_da8c8 cJx4a65c_init_da8c8 1 none, .code yJxc12de_init_da8c8 cJxc12de_init_da8c8 1 none, .code yJxa1e45_init_da8c8 cJxa1e45_init_da8c8 1 none, .methodLink RJxa1e45 1 objectInit, .initialized RJxa1e45, .methodLink RJxc12de 1 yJxa1e45_init_da8c8, .instanceMethod yJxa1e45_init_da8c8, .fieldLink RJxc12de 7 "java/util/AbstractList" "modCount" "I", .initialized RJxc12de, .methodLink RJx4a65c 1 yJxc12de_init_da8c8, .instanceMethod yJxc12de_init_da8c8, .fieldLink RJx4a65c 39 "java/util/ArrayList" "DEFAULTCAPACITY_EMPTY_ELEMENTDATA" "[Ljava/lang/Object;", .fieldLink RJx4a65c 9 "java/util/ArrayList" "elementData" "[Ljava/lang/Object;", .methodLink RX7 11 yJx4a65c_init_da8c8, .instanceMethod yJx4a65c_init_da8c8, .fieldLink RX7 12 "ClaimBus$Store" "messages" "Ljava/util/ArrayList;", .fieldLink RX7 18 "ClaimBus$Store" "unused" "LClaimBus$Chunk;", .instanceMethod yX7_init, .fieldLink RX10 18 "ClaimBus" "store" "LClaimBus$Store;", .classLink RX10 22 RX1, .instantiable RX1 4, .initialized RX1, .code yX1_init cX1_init 1 none, .methodLink RX1 3 objectInit, .fieldLink RX1 9 "ClaimBus$Frame" "identifier" "I", .fieldLink RX1 15 "ClaimBus$Frame" "first" "I", .fieldLink RX1 18 "ClaimBus$Frame" "others" "I", .fieldLink RX1 21 "ClaimBus$Frame" "whole" "LClaimBus$Message;", .instanceMethod yX1_init, .fieldLink RX10 25 "ClaimBus" "last" "LClaimBus$Frame;", .fieldLink RX10 29 "ClaimBus" "nodeCount" "I", .fieldLink RX10 33 "ClaimBus" "time" "I", .fieldLink RX10 36 "ClaimBus" "framesCarried" "I", .fieldLink RX10 39 "ClaimBus" "lastSender" "I", .fieldLink RX10 42 "ClaimBus" "stopped" "Z"] ++ wsX100 ++ wsX70 ++ wsJx4a65c0 ++ wsX10)
theorem in_c_X10_init_X10 : ∀ w ∈ wsX100, w ∈ v_c_X10_init := fun w h => List.mem_cons_of_mem _ (List.mem_append_left _ (List.mem_append_left _ (List.mem_append_left _ (List.mem_append_right _ h))))
theorem in_c_X10_init_X7 : ∀ w ∈ wsX70, w ∈ v_c_X10_init := fun w h => List.mem_cons_of_mem _ (List.mem_append_left _ (List.mem_append_left _ (List.mem_append_right _ h)))
theorem in_c_X10_init_Jx4a65c : ∀ w ∈ wsJx4a65c0, w ∈ v_c_X10_init := fun w h => List.mem_cons_of_mem _ (List.mem_append_left _ (List.mem_append_right _ h))
theorem in_c_X10_init_X1 : ∀ w ∈ wsX10, w ∈ v_c_X10_init := fun w h => List.mem_cons_of_mem _ (List.mem_append_right _ h)
set_option maxRecDepth 20000 in
theorem g_c_X10_init_c_X7_init_17 : GoodIn v_c_X10_init v_c_X7_init := goodIn_r _ [9, 10, 2, 3, 11, 12, 13, 14, 15, 16, 17, 18, 19, 20, 21, 22, 23, 24, 25, 26, 27, 28, 29, 30, 59, 60, 61, 57, 58] (by decide +kernel) (by decide +kernel)
set_option maxRecDepth 20000 in
theorem g_c_X10_init_c_X1_init_24 : GoodIn v_c_X10_init v_c_X1_init := goodIn_r _ [36, 37, 2, 3, 38, 39, 40, 41, 62, 63, 64, 65] (by decide +kernel) (by decide +kernel)
set_option maxHeartbeats 4000000 in
set_option maxRecDepth 100000 in
/-- ClaimBus() -/
theorem c_X10_init (l : Launch) (dC : Nat → ClassId) (dI : Nat → Nat → Nat) (h0 : Nat) (sz : Nat)  : Met l yX10_init v_c_X10_init ({ frames := 5, cells := 4, slots := 17, locals := 92 }) (va_Pc [.ref h0] (fun U => U.heap.size = sz ∧ va_P (dC, dI) vwCl [(h0, .inr (11, [.null, .null, .null, .int 0, .int 0, .int 0, .int 0, .int 0]))] U.heap ∧ va_K (dC, dI) vwCl [] U ∧ va_D (fun _ => True) [(h0, .inr (11, [.null, .null, .null, .int 0, .int 0, .int 0, .int 0, .int 0]))] ∧ ev U ∧ va_Zq "java/util/ArrayList" "DEFAULTCAPACITY_EMPTY_ELEMENTDATA" "[Ljava/lang/Object;" (va_A [(h0, .inr (11, [.null, .null, .null, .int 0, .int 0, .int 0, .int 0, .int 0]))] sz) U U.heap)) (va_Qv (fun _ : Unit => True) (fun (_ : Unit) (t : State) => ∃ (n0 st la : Nat) (cN : ClassId), va_P (dC, dI) vwCl [(h0, .inr (11, [.ref n0, .ref st, .ref la, .int 0, .int 0, .int 0, .int (-1), .int 0])), (n0, .inl (cN, 8, .inr (.inr (.inr (.inr (fun _ => none))))))] t.heap ∧ va_K (dC, dI) vwCl [(cN, .object RX4)] t ∧ va_D (va_A [(h0, .inr (11, [.null, .null, .null, .int 0, .int 0, .int 0, .int 0, .int 0]))] sz) [(h0, .inr (11, [.ref n0, .ref st, .ref la, .int 0, .int 0, .int 0, .int (-1), .int 0])), (n0, .inl (cN, 8, .inr (.inr (.inr (.inr (fun _ => none))))))]) (va_A [(h0, .inr (11, [.null, .null, .null, .int 0, .int 0, .int 0, .int 0, .int 0]))] sz)) 4 17 (va_A [(h0, .inr (11, [.null, .null, .null, .int 0, .int 0, .int 0, .int 0, .int 0]))] sz) := by
  refine Met.ofW (cc := cX10_init) (maxL := 1) (ret := none) (by decide) rfl ?_
  intro p e s m args below meth c s₁ B hml hv
  obtain ⟨rfl, hsz, hP, hK, hD0, hE, hZ⟩ := hv
  have hx := B.exec
  have hb := B.bytes
  have hr := B.returns
  have hts := atoms_spec (ws := v_c_X10_init) B.pre
  have hown : s.vm.findClass RX10 = some m.cls := findClass_of_methodNamed B.named
  have hlocks := B.notSynchronized
  have hin : meth.name = "<init>" := (name_of_methodNamed B.named B.method).1
  subst hsz
  have hD := hD0.self (sz := s.heap.size)
  generalize hAe : va_A [(h0, .inr (11, [.null, .null, .null, .int 0, .int 0, .int 0, .int 0, .int 0]))] s.heap.size = A at hD hZ ⊢
  have hA : ∀ q : Nat, s.heap.size ≤ q → A q := fun q h => by rw [← hAe]; exact Or.inr h
  have hS : va_S A s.heap s.heap [] := va_S.rf
  have hP : va_P (dC, dI) vwCl [(h0, .inr (11, [.null, .null, .null, .int 0, .int 0, .int 0, .int 0, .int 0]))] s.heap := hP
  have hl := lv_entry ([.ref h0]) (n := 1) (Nat.le_of_ble_eq_true rfl)
  rw [lg_entry_eq]
  generalize (lg_sl ([.ref h0]) ++ List.replicate (1 - (lg_sl ([.ref h0])).length) Slot.unset).toArray = ls at hl ⊢
  have hl : lv_has ls 1 [(0, .ref h0)] := hl
  obtain ⟨H, hH⟩ : ∃ z : Heap, z = s.heap := ⟨_, rfl⟩
  rw [← hH]
  have hS : va_S A s.heap H [] := by rw [hH]; exact va_S.rf
  have hP : va_P (dC, dI) vwCl [(h0, .inr (11, [.null, .null, .null, .int 0, .int 0, .int 0, .int 0, .int 0]))] H := by rw [hH]; exact hP
  clear hH
  refine lv_aload_n hx hb dX10_init_0 rfl (lv_at hl 0 rfl) ?_
  refine W.objInit hx hb hown (hts (.methodLink RX10 1 objectInit) (List.mem_of_getElem? (i := 1) rfl)) (hts (.instanceMethod objectInit) (List.mem_of_getElem? (i := 2) rfl)) (hts (.code objectInit ⟨#[0xb1]⟩ 1 none) (List.mem_of_getElem? (i := 3) rfl)) rfl (by rw [hml]; exact hl.1) rfl dX10_init_1 (Nat.le_of_ble_eq_true rfl) (Nat.le_of_ble_eq_true rfl) ?_
  refine W.eq (g2 := F0 m 4 ls []) rfl ?_
  refine lv_aload_n hx hb dX10_init_4 rfl (lv_at hl 0 rfl) ?_
  refine lv_bipush (v := 8) hx hb dX10_init_5 (by decide) ?_
  refine va_newq (C := RX4) (N' := 8) hx hb hown (hts (.classLink RX10 9 RX4) (List.mem_of_getElem? (i := 4) rfl)) hE.AON hK hP hD hS hA (by decide) (by decide) (Nat.le_of_ble_eq_true rfl) (Nat.le_of_ble_eq_true rfl) (Nat.le_of_ble_eq_true rfl) dX10_init_7 (fun q1 cA1 H hK hP hD hS => ?_)
  have hK : va_K (dC, dI) vwCl [(cA1, (.object RX4))] s := hK
  have hP : va_P (dC, dI) vwCl [(h0, .inr (11, [.null, .null, .null, .int 0, .int 0, .int 0, .int 0, .int 0])), (q1, .inl (cA1, 8, .inr (.inr (.inr (.inr (fun _ => none))))))] H := hP
  have hD : va_D A [(h0, .inr (11, [.null, .null, .null, .int 0, .int 0, .int 0, .int 0, .int 0])), (q1, .inl (cA1, 8, .inr (.inr (.inr (.inr (fun _ => none))))))] := hD
  refine W.widen (k := 1) (n := 8) (Nat.le_of_ble_eq_true rfl) (Nat.le_of_ble_eq_true rfl) ?_
  refine va_putF (D := (dC, dI)) (ci := 11) (v := .ref q1) (ty := (.array (.object "ClaimBus$Node"))) (C := RX10) (T := TX10) (N := 8) hx hb hts in_c_X10_init_X10 tyX10 tyX10_ok nmX10 hown hK hP hD hS 0 rfl rfl 0 (by decide) (hts (.fieldLink RX10 11 "ClaimBus" "nodes" "[LClaimBus$Node;") (List.mem_of_getElem? (i := 5) rfl)) (fun _ h9 => h9) rfl hin rfl (by decide +kernel) rfl rfl (Nat.le_of_ble_eq_true rfl) dX10_init_10 (fun H locs hP hD hS => ?_)
  have hP : va_P (dC, dI) vwCl [(h0, .inr (11, [.ref q1, .null, .null, .int 0, .int 0, .int 0, .int 0, .int 0])), (q1, .inl (cA1, 8, .inr (.inr (.inr (.inr (fun _ => none))))))] H := hP
  have hD : va_D A [(h0, .inr (11, [.ref q1, .null, .null, .int 0, .int 0, .int 0, .int 0, .int 0])), (q1, .inl (cA1, 8, .inr (.inr (.inr (.inr (fun _ => none))))))] := hD
  refine lv_aload_n hx hb dX10_init_13 rfl (lv_at hl 0 rfl) ?_
  refine va_new (ci := 8) (fs := [.null, .null]) (C := RX7) (T := TX7) (N := 2) hx hb hts in_c_X10_init_X7 tyX7 tyX7_ok hown (hts (.classLink RX10 15 RX7) (List.mem_of_getElem? (i := 6) rfl)) (hts (.instantiable RX7 2) (List.mem_of_getElem? (i := 7) rfl)) (hts (.initialized RX7) (List.mem_of_getElem? (i := 8) rfl)) hK hP hD hS hA rfl df_X7 (Nat.le_of_ble_eq_true rfl) (Nat.le_of_ble_eq_true rfl) dX10_init_14 (fun q2 H hP hD hS => ?_)
  have hP : va_P (dC, dI) vwCl [(h0, .inr (11, [.ref q1, .null, .null, .int 0, .int 0, .int 0, .int 0, .int 0])), (q1, .inl (cA1, 8, .inr (.inr (.inr (.inr (fun _ => none)))))), (q2, .inr (8, [.null, .null]))] H := hP
  have hD : va_D A [(h0, .inr (11, [.ref q1, .null, .null, .int 0, .int 0, .int 0, .int 0, .int 0])), (q1, .inl (cA1, 8, .inr (.inr (.inr (.inr (fun _ => none)))))), (q2, .inr (8, [.null, .null]))] := hD
  refine W.widen (k := 2) (n := 10) (Nat.le_of_ble_eq_true rfl) (Nat.le_of_ble_eq_true rfl) ?_
  refine lv_dup hx hb dX10_init_17 rfl ?_
  have hPc := hP.sub (ws' := [(q2, .inr (8, [.null, .null]))]) [2] rfl
  have hDc := hD.sub (ws' := [(q2, .inr (8, [.null, .null]))]) [2] (by decide) rfl
  have hKc := hK.sub (tys' := []) [] rfl
  have hFc := va_free (wc := [(q2, .inr (8, [.null, .null]))]) hD hS hA [2] rfl
  have hZc := (w_zq hZ hS).narrow (fun q h => hFc q h)
  refine va_callv (va_runIN (As := []) (rest := [.ref q2, .ref h0]) ⟨hx, hb, hml, hown, hts⟩ (c_X7_init l dC dI (q2) H.size) ⟨va_cnB 0 hts g_c_X10_init_c_X7_init_17 rfl rfl rfl hE.n1 (hts (.initialized RX7) (List.mem_of_getElem? (i := 8) rfl)) (by decide +kernel) ⟨Nat.le_of_ble_eq_true rfl, Nat.le_of_ble_eq_true rfl⟩, rfl, (hts (.instanceMethod yX7_init) (List.mem_of_getElem? (i := 31) rfl))⟩ ⟨fun a U g mk q => by obtain ⟨q0, q1, qP, qK, qD, qE, qZ⟩ := q; exact ⟨q0, q1, qP, va_K.moved (u := U) (U := U.calling g mk a) (Vm.Alike.refl U.vm) qK, qD, ev.same (u := U) (U := U.calling g mk a) rfl qE, va_Zq.moved (u := U) (U := U.calling g mk a) (Vm.Alike.refl U.vm) qZ⟩, fun U hU hW => ⟨rfl, by rw [hU], by rw [hU]; exact hPc, va_K.moved hW.alike hKc, hDc.weaken (fun _ _ _ _ => trivial), hE.warm hW, by rw [hU]; exact hZc.moved hW.alike⟩⟩ rfl rfl hl.1 rfl (lv_room (Nat.le_of_ble_eq_true rfl)) dX10_init_18 ⟨Nat.le_of_ble_eq_true rfl, Nat.le_of_ble_eq_true rfl⟩) hS (fun q _ h => hFc q h) hFc (fun u t H1 locs ht hvm hw hB hz1 hk1 hS => ?_)
  clear hPc hDc hKc
  obtain ⟨hP, hD⟩ := va_join (wr := [(h0, .inr (11, [.ref q1, .null, .null, .int 0, .int 0, .int 0, .int 0, .int 0])), (q1, .inl (cA1, 8, .inr (.inr (.inr (.inr (fun _ => none))))))]) (w1 := []) hP hD [2] [0, 1] rfl rfl (by decide) (by decide) hk1 hFc p_nil d_nil
  generalize H1 = H at hP hS ⊢
  have hP : va_P (dC, dI) vwCl [(h0, .inr (11, [.ref q1, .null, .null, .int 0, .int 0, .int 0, .int 0, .int 0])), (q1, .inl (cA1, 8, .inr (.inr (.inr (.inr (fun _ => none))))))] H := hP
  have hD : va_D A [(h0, .inr (11, [.ref q1, .null, .null, .int 0, .int 0, .int 0, .int 0, .int 0])), (q1, .inl (cA1, 8, .inr (.inr (.inr (.inr (fun _ => none))))))] := hD
  refine W.widen (k := 3) (n := 13) (Nat.le_of_ble_eq_true rfl) (Nat.le_of_ble_eq_true rfl) ?_
  refine va_putF (D := (dC, dI)) (ci := 11) (v := .ref q2) (ty := (.object "ClaimBus$Store")) (C := RX10) (T := TX10) (N := 8) hx hb hts in_c_X10_init_X10 tyX10 tyX10_ok nmX10 hown hK hP hD hS 0 rfl rfl 1 (by decide) (hts (.fieldLink RX10 18 "ClaimBus" "store" "LClaimBus$Store;") (List.mem_of_getElem? (i := 32) rfl)) (fun _ h9 => h9) rfl hin rfl (by decide +kernel) rfl rfl (Nat.le_of_ble_eq_true rfl) dX10_init_21 (fun H locs hP hD hS => ?_)
  have hP : va_P (dC, dI) vwCl [(h0, .inr (11, [.ref q1, .ref q2, .null, .int 0, .int 0, .int 0, .int 0, .int 0])), (q1, .inl (cA1, 8, .inr (.inr (.inr (.inr (fun _ => none))))))] H := hP
  have hD : va_D A [(h0, .inr (11, [.ref q1, .ref q2, .null, .int 0, .int 0, .int 0, .int 0, .int 0])), (q1, .inl (cA1, 8, .inr (.inr (.inr (.inr (fun _ => none))))))] := hD
  refine lv_aload_n hx hb dX10_init_24 rfl (lv_at hl 0 rfl) ?_
  refine va_new (ci := 2) (fs := [.int 0, .int 0, .int 0, .null]) (C := RX1) (T := TX1) (N := 4) hx hb hts in_c_X10_init_X1 tyX1 tyX1_ok hown (hts (.classLink RX10 22 RX1) (List.mem_of_getElem? (i := 33) rfl)) (hts (.instantiable RX1 4) (List.mem_of_getElem? (i := 34) rfl)) (hts (.initialized RX1) (List.mem_of_getElem? (i := 35) rfl)) hK hP hD hS hA rfl df_X1 (Nat.le_of_ble_eq_true rfl) (Nat.le_of_ble_eq_true rfl) dX10_init_25 (fun q4 H hP hD hS => ?_)
  have hP : va_P (dC, dI) vwCl [(h0, .inr (11, [.ref q1, .ref q2, .null, .int 0, .int 0, .int 0, .int 0, .int 0])), (q1, .inl (cA1, 8, .inr (.inr (.inr (.inr (fun _ => none)))))), (q4, .inr (2, [.int 0, .int 0, .int 0, .null]))] H := hP
  have hD : va_D A [(h0, .inr (11, [.ref q1, .ref q2, .null, .int 0, .int 0, .int 0, .int 0, .int 0])), (q1, .inl (cA1, 8, .inr (.inr (.inr (.inr (fun _ => none)))))), (q4, .inr (2, [.int 0, .int 0, .int 0, .null]))] := hD
  refine W.widen (k := 4) (n := 17) (Nat.le_of_ble_eq_true rfl) (Nat.le_of_ble_eq_true rfl) ?_
  refine lv_dup hx hb dX10_init_28 rfl ?_
  have hPc := hP.sub (ws' := [(q4, .inr (2, [.int 0, .int 0, .int 0, .null]))]) [2] rfl
  have hDc := hD.sub (ws' := [(q4, .inr (2, [.int 0, .int 0, .int 0, .null]))]) [2] (by decide) rfl
  have hKc := hK.sub (tys' := []) [] rfl
  have hFc := va_free (wc := [(q4, .inr (2, [.int 0, .int 0, .int 0, .null]))]) hD hS hA [2] rfl
  refine va_callv (va_runIN (As := []) (rest := [.ref q4, .ref h0]) ⟨hx, hb, hml, hown, hts⟩ (c_X1_init l dC dI (q4) H.size) ⟨va_cnB 0 hts g_c_X10_init_c_X1_init_24 rfl rfl rfl hE.n2 (hts (.initialized RX1) (List.mem_of_getElem? (i := 35) rfl)) (by decide +kernel) ⟨Nat.le_of_ble_eq_true rfl, Nat.le_of_ble_eq_true rfl⟩, rfl, (hts (.instanceMethod yX1_init) (List.mem_of_getElem? (i := 42) rfl))⟩ ⟨fun a U g mk q => by obtain ⟨q0, q1, qP, qK, qD, qE⟩ := q; exact ⟨q0, q1, qP, va_K.moved (u := U) (U := U.calling g mk a) (Vm.Alike.refl U.vm) qK, qD, ev.same (u := U) (U := U.calling g mk a) rfl qE⟩, fun U hU hW => ⟨rfl, by rw [hU], by rw [hU]; exact hPc, va_K.moved hW.alike hKc, hDc.weaken (fun _ _ _ _ => trivial), hE.warm hW⟩⟩ rfl rfl hl.1 rfl (lv_room (Nat.le_of_ble_eq_true rfl)) dX10_init_29 ⟨Nat.le_of_ble_eq_true rfl, Nat.le_of_ble_eq_true rfl⟩) hS (fun q _ h => hFc q h) hFc (fun u t H1 locs ht hvm hw hB hz1 hk1 hS => ?_)
  clear hPc hDc hKc
  obtain ⟨hP, hD⟩ := va_join (wr := [(h0, .inr (11, [.ref q1, .ref q2, .null, .int 0, .int 0, .int 0, .int 0, .int 0])), (q1, .inl (cA1, 8, .inr (.inr (.inr (.inr (fun _ => none))))))]) (w1 := []) hP hD [2] [0, 1] rfl rfl (by decide) (by decide) hk1 hFc p_nil d_nil
  generalize H1 = H at hP hS ⊢
  have hP : va_P (dC, dI) vwCl [(h0, .inr (11, [.ref q1, .ref q2, .null, .int 0, .int 0, .int 0, .int 0, .int 0])), (q1, .inl (cA1, 8, .inr (.inr (.inr (.inr (fun _ => none))))))] H := hP
  have hD : va_D A [(h0, .inr (11, [.ref q1, .ref q2, .null, .int 0, .int 0, .int 0, .int 0, .int 0])), (q1, .inl (cA1, 8, .inr (.inr (.inr (.inr (fun _ => none))))))] := hD
  refine va_putF (D := (dC, dI)) (ci := 11) (v := .ref q4) (ty := (.object "ClaimBus$Frame")) (C := RX10) (T := TX10) (N := 8) hx hb hts in_c_X10_init_X10 tyX10 tyX10_ok nmX10 hown hK hP hD hS 0 rfl rfl 2 (by decide) (hts (.fieldLink RX10 25 "ClaimBus" "last" "LClaimBus$Frame;") (List.mem_of_getElem? (i := 43) rfl)) (fun _ h9 => h9) rfl hin rfl (by decide +kernel) rfl rfl (Nat.le_of_ble_eq_true rfl) dX10_init_32 (fun H locs hP hD hS => ?_)
  have hP : va_P (dC, dI) vwCl [(h0, .inr (11, [.ref q1, .ref q2, .ref q4, .int 0, .int 0, .int 0, .int 0, .int 0])), (q1, .inl (cA1, 8, .inr (.inr (.inr (.inr (fun _ => none))))))] H := hP
  have hD : va_D A [(h0, .inr (11, [.ref q1, .ref q2, .ref q4, .int 0, .int 0, .int 0, .int 0, .int 0])), (q1, .inl (cA1, 8, .inr (.inr (.inr (.inr (fun _ => none))))))] := hD
  refine lv_aload_n hx hb dX10_init_35 rfl (lv_at hl 0 rfl) ?_
  refine lv_iconst (v := 0) hx hb dX10_init_36 (by decide) ?_
  refine va_put (D := (dC, dI)) (ci := 11) (v := .int 0) (ty := .int) (C := RX10) (T := TX10) (N := 8) hx hb hts in_c_X10_init_X10 tyX10 tyX10_ok nmX10 hown hK hP hD hS 0 rfl rfl 3 (by decide) (hts (.fieldLink RX10 29 "ClaimBus" "nodeCount" "I") (List.mem_of_getElem? (i := 44) rfl)) (fun _ h9 => h9) rfl (by decide +kernel) rfl rfl (Nat.le_of_ble_eq_true rfl) dX10_init_37 (fun H locs hP hD hS => ?_)
  have hP : va_P (dC, dI) vwCl [(h0, .inr (11, [.ref q1, .ref q2, .ref q4, .int 0, .int 0, .int 0, .int 0, .int 0])), (q1, .inl (cA1, 8, .inr (.inr (.inr (.inr (fun _ => none))))))] H := hP
  have hD : va_D A [(h0, .inr (11, [.ref q1, .ref q2, .ref q4, .int 0, .int 0, .int 0, .int 0, .int 0])), (q1, .inl (cA1, 8, .inr (.inr (.inr (.inr (fun _ => none))))))] := hD
  refine lv_aload_n hx hb dX10_init_40 rfl (lv_at hl 0 rfl) ?_
  refine lv_iconst (v := 0) hx hb dX10_init_41 (by decide) ?_
  refine va_put (D := (dC, dI)) (ci := 11) (v := .int 0) (ty := .int) (C := RX10) (T := TX10) (N := 8) hx hb hts in_c_X10_init_X10 tyX10 tyX10_ok nmX10 hown hK hP hD hS 0 rfl rfl 4 (by decide) (hts (.fieldLink RX10 33 "ClaimBus" "time" "I") (List.mem_of_getElem? (i := 45) rfl)) (fun _ h9 => h9) rfl (by decide +kernel) rfl rfl (Nat.le_of_ble_eq_true rfl) dX10_init_42 (fun H locs hP hD hS => ?_)
  have hP : va_P (dC, dI) vwCl [(h0, .inr (11, [.ref q1, .ref q2, .ref q4, .int 0, .int 0, .int 0, .int 0, .int 0])), (q1, .inl (cA1, 8, .inr (.inr (.inr (.inr (fun _ => none))))))] H := hP
  have hD : va_D A [(h0, .inr (11, [.ref q1, .ref q2, .ref q4, .int 0, .int 0, .int 0, .int 0, .int 0])), (q1, .inl (cA1, 8, .inr (.inr (.inr (.inr (fun _ => none))))))] := hD
  refine lv_aload_n hx hb dX10_init_45 rfl (lv_at hl 0 rfl) ?_
  refine lv_iconst (v := 0) hx hb dX10_init_46 (by decide) ?_
  refine va_put (D := (dC, dI)) (ci := 11) (v := .int 0) (ty := .int) (C := RX10) (T := TX10) (N := 8) hx hb hts in_c_X10_init_X10 tyX10 tyX10_ok nmX10 hown hK hP hD hS 0 rfl rfl 5 (by decide) (hts (.fieldLink RX10 36 "ClaimBus" "framesCarried" "I") (List.mem_of_getElem? (i := 46) rfl)) (fun _ h9 => h9) rfl (by decide +kernel) rfl rfl (Nat.le_of_ble_eq_true rfl) dX10_init_47 (fun H locs hP hD hS => ?_)
  have hP : va_P (dC, dI) vwCl [(h0, .inr (11, [.ref q1, .ref q2, .ref q4, .int 0, .int 0, .int 0, .int 0, .int 0])), (q1, .inl (cA1, 8, .inr (.inr (.inr (.inr (fun _ => none))))))] H := hP
  have hD : va_D A [(h0, .inr (11, [.ref q1, .ref q2, .ref q4, .int 0, .int 0, .int 0, .int 0, .int 0])), (q1, .inl (cA1, 8, .inr (.inr (.inr (.inr (fun _ => none))))))] := hD
  refine lv_aload_n hx hb dX10_init_50 rfl (lv_at hl 0 rfl) ?_
  refine lv_iconst (v := -1) hx hb dX10_init_51 (by decide) ?_
  refine va_put (D := (dC, dI)) (ci := 11) (v := .int (-1)) (ty := .int) (C := RX10) (T := TX10) (N := 8) hx hb hts in_c_X10_init_X10 tyX10 tyX10_ok nmX10 hown hK hP hD hS 0 rfl rfl 6 (by decide) (hts (.fieldLink RX10 39 "ClaimBus" "lastSender" "I") (List.mem_of_getElem? (i := 47) rfl)) (fun _ h9 => h9) rfl (by decide +kernel) rfl rfl (Nat.le_of_ble_eq_true rfl) dX10_init_52 (fun H locs hP hD hS => ?_)
  have hP : va_P (dC, dI) vwCl [(h0, .inr (11, [.ref q1, .ref q2, .ref q4, .int 0, .int 0, .int 0, .int (-1), .int 0])), (q1, .inl (cA1, 8, .inr (.inr (.inr (.inr (fun _ => none))))))] H := hP
  have hD : va_D A [(h0, .inr (11, [.ref q1, .ref q2, .ref q4, .int 0, .int 0, .int 0, .int (-1), .int 0])), (q1, .inl (cA1, 8, .inr (.inr (.inr (.inr (fun _ => none))))))] := hD
  refine lv_aload_n hx hb dX10_init_55 rfl (lv_at hl 0 rfl) ?_
  refine lv_iconst (v := 0) hx hb dX10_init_56 (by decide) ?_
  refine va_put (D := (dC, dI)) (ci := 11) (v := .int 0) (ty := .boolean) (C := RX10) (T := TX10) (N := 8) hx hb hts in_c_X10_init_X10 tyX10 tyX10_ok nmX10 hown hK hP hD hS 0 rfl rfl 7 (by decide) (hts (.fieldLink RX10 42 "ClaimBus" "stopped" "Z") (List.mem_of_getElem? (i := 48) rfl)) (fun _ h9 => h9) rfl (by decide +kernel) rfl rfl (Nat.le_of_ble_eq_true rfl) dX10_init_57 (fun H locs hP hD hS => ?_)
  have hP : va_P (dC, dI) vwCl [(h0, .inr (11, [.ref q1, .ref q2, .ref q4, .int 0, .int 0, .int 0, .int (-1), .int 0])), (q1, .inl (cA1, 8, .inr (.inr (.inr (.inr (fun _ => none))))))] H := hP
  have hD : va_D A [(h0, .inr (11, [.ref q1, .ref q2, .ref q4, .int 0, .int 0, .int 0, .int (-1), .int 0])), (q1, .inl (cA1, 8, .inr (.inr (.inr (.inr (fun _ => none))))))] := hD
  have hP9 := hP.sub (ws' := [(h0, .inr (11, [.ref q1, .ref q2, .ref q4, .int 0, .int 0, .int 0, .int (-1), .int 0])), (q1, .inl (cA1, 8, .inr (.inr (.inr (.inr (fun _ => none))))))]) [0, 1] rfl
  have hD9 := hD.sub (ws' := [(h0, .inr (11, [.ref q1, .ref q2, .ref q4, .int 0, .int 0, .int 0, .int (-1), .int 0])), (q1, .inl (cA1, 8, .inr (.inr (.inr (.inr (fun _ => none))))))]) [0, 1] (by decide) rfl
  have hK9 := hK.sub (tys' := [(cA1, (.object RX4))]) [0] rfl
  exact W.vret hx hb hr (fun t ht hW => ⟨⟨(), rfl, trivial, ⟨q1, q2, q4, cA1, by rw [ht]; exact hP9, va_K.moved hW.alike hK9, hD9⟩⟩, hS.F ht⟩) hS.2.2 dX10_init_60
end
section
def v_c_X8_clear : List Cond := .code yX8_clear cX8_clear 2 none :: ([.fieldLink RX8 9 "ClaimBus$Table" "addresses" "[I"] ++ wsX80)
theorem in_c_X8_clear_X8 : ∀ w ∈ wsX80, w ∈ v_c_X8_clear := fun w h => List.mem_cons_of_mem _ (List.mem_append_right _ h)
set_option maxHeartbeats 4000000 in
set_option maxRecDepth 100000 in
/-- Table.clear() -/
theorem c_X8_clear (l : Launch) (dC : Nat → ClassId) (dI : Nat → Nat → Nat) (h0 : Nat) (a0 : Nat) (cI : ClassId) (f0 : Nat → Int32) (sz : Nat)  : Met l yX8_clear v_c_X8_clear ({ frames := 0, cells := 0, slots := 0, locals := 0 }) (va_Pc [.ref h0] (fun U => U.heap.size = sz ∧ va_P (dC, dI) vwCl [(h0, .inr (9, [.ref a0])), (a0, .inl (cI, 8, .inl f0))] U.heap ∧ va_K (dC, dI) vwCl [(cI, .int)] U ∧ va_D (fun _ => True) [(h0, .inr (9, [.ref a0])), (a0, .inl (cI, 8, .inl f0))] ∧ ev U)) (va_Qv (fun _ : Unit => True) (fun (_ : Unit) (_ : State) => True) (va_A [(h0, .inr (9, [.ref a0])), (a0, .inl (cI, 8, .inl f0))] sz)) 0 0 (va_A [(h0, .inr (9, [.ref a0])), (a0, .inl (cI, 8, .inl f0))] sz) := by
  refine Met.ofW (cc := cX8_clear) (maxL := 2) (ret := none) (by decide) rfl ?_
  intro p e s m args below meth c s₁ B hml hv
  obtain ⟨rfl, hsz, hP, hK, hD0, hE⟩ := hv
  have hx := B.exec
  have hb := B.bytes
  have hr := B.returns
  have hts := atoms_spec (ws := v_c_X8_clear) B.pre
  have hown : s.vm.findClass RX8 = some m.cls := findClass_of_methodNamed B.named
  have hlocks := B.notSynchronized
  subst hsz
  have hD := hD0.self (sz := s.heap.size)
  generalize hAe : va_A [(h0, .inr (9, [.ref a0])), (a0, .inl (cI, 8, .inl f0))] s.heap.size = A at hD ⊢
  have hA : ∀ q : Nat, s.heap.size ≤ q → A q := fun q h => by rw [← hAe]; exact Or.inr h
  have hS : va_S A s.heap s.heap [] := va_S.rf
  have hP : va_P (dC, dI) vwCl [(h0, .inr (9, [.ref a0])), (a0, .inl (cI, 8, .inl f0))] s.heap := hP
  have hl := lv_entry ([.ref h0]) (n := 2) (Nat.le_of_ble_eq_true rfl)
  rw [lg_entry_eq]
  generalize (lg_sl ([.ref h0]) ++ List.replicate (2 - (lg_sl ([.ref h0])).length) Slot.unset).toArray = ls at hl ⊢
  have hl : lv_has ls 2 [(0, .ref h0)] := hl
  obtain ⟨H, hH⟩ : ∃ z : Heap, z = s.heap := ⟨_, rfl⟩
  rw [← hH]
  have hS : va_S A s.heap H [] := by rw [hH]; exact va_S.rf
  have hP : va_P (dC, dI) vwCl [(h0, .inr (9, [.ref a0])), (a0, .inl (cI, 8, .inl f0))] H := by rw [hH]; exact hP
  clear hH
  refine lv_iconst (v := 0) hx hb dX8_clear_0 (by decide) ?_
  refine lv_istore_n (lv' := [(1, .int 0), (0, .ref h0)]) hx hb dX8_clear_1 rfl hl (by decide) rfl (fun ls hl => ?_)
  refine lv_iload_n hx hb dX8_clear_2 rfl (lv_at hl 0 rfl) ?_
  refine lv_bipush (v := 8) hx hb dX8_clear_3 (by decide) ?_
  refine lv_icmp_ge (tgt := 21) hx hb dX8_clear_5 (by decide) (fun c_1 => ?_) (fun c_1 => ?_)
  · exact absurd c_1 (by decide)
  refine lv_aload_n hx hb dX8_clear_8 rfl (lv_at hl 1 rfl) ?_
  refine va_get (D := (dC, dI)) (ci := 9) (v := .ref a0) (C := RX8) (T := TX8) (N := 1) hx hb hts in_c_X8_clear_X8 hown hK hP 0 rfl rfl 0 (by decide) (hts (.fieldLink RX8 9 "ClaimBus$Table" "addresses" "[I") (List.mem_of_getElem? (i := 1) rfl)) (fun _ h9 => h9) rfl dX8_clear_9 ?_
  refine lv_iload_n hx hb dX8_clear_12 rfl (lv_at hl 0 rfl) ?_
  refine lv_iconst (v := -1) hx hb dX8_clear_13 (by decide) ?_
  refine va_iast hx hb hK hP hD hS 1 0 rfl rfl (show ¬ ((0 : Int32) < 0 ∨ 8 ≤ (0 : Int32).toNatClampNeg) by decide) dX8_clear_14 (fun H locs hP hD hS => ?_)
  obtain ⟨f_2, ef_2⟩ : ∃ z : Nat → Int32, z = upd f0 (Int32.toNatClampNeg (0)) ((-1)) := ⟨_, rfl⟩
  have hP : va_P (dC, dI) vwCl [(h0, .inr (9, [.ref a0])), (a0, .inl (cI, 8, .inl f_2))] H := by rw [ef_2]; exact hP
  have hD : va_D A [(h0, .inr (9, [.ref a0])), (a0, .inl (cI, 8, .inl f_2))] := by rw [ef_2]; exact hD
  refine lv_iinc (v := 1) (lv' := [(1, .int 1), (0, .ref h0)]) hx hb dX8_clear_15 hl (k := 0) rfl (by decide) (by decide) rfl (fun ls hl => ?_)
  refine lv_goto (tgt := 2) hx hb dX8_clear_18 (by decide) ?_
  refine lv_iload_n hx hb dX8_clear_2 rfl (lv_at hl 0 rfl) ?_
  refine lv_bipush (v := 8) hx hb dX8_clear_3 (by decide) ?_
  refine lv_icmp_ge (tgt := 21) hx hb dX8_clear_5 (by decide) (fun c_3 => ?_) (fun c_3 => ?_)
  · exact absurd c_3 (by decide)
  refine lv_aload_n hx hb dX8_clear_8 rfl (lv_at hl 1 rfl) ?_
  refine va_get (D := (dC, dI)) (ci := 9) (v := .ref a0) (C := RX8) (T := TX8) (N := 1) hx hb hts in_c_X8_clear_X8 hown hK hP 0 rfl rfl 0 (by decide) (hts (.fieldLink RX8 9 "ClaimBus$Table" "addresses" "[I") (List.mem_of_getElem? (i := 1) rfl)) (fun _ h9 => h9) rfl dX8_clear_9 ?_
  refine lv_iload_n hx hb dX8_clear_12 rfl (lv_at hl 0 rfl) ?_
  refine lv_iconst (v := -1) hx hb dX8_clear_13 (by decide) ?_
  refine va_iast hx hb hK hP hD hS 1 0 rfl rfl (show ¬ ((1 : Int32) < 0 ∨ 8 ≤ (1 : Int32).toNatClampNeg) by decide) dX8_clear_14 (fun H locs hP hD hS => ?_)
  obtain ⟨f_4, ef_4⟩ : ∃ z : Nat → Int32, z = upd f_2 (Int32.toNatClampNeg (1)) ((-1)) := ⟨_, rfl⟩
  have hP : va_P (dC, dI) vwCl [(h0, .inr (9, [.ref a0])), (a0, .inl (cI, 8, .inl f_4))] H := by rw [ef_4]; exact hP
  have hD : va_D A [(h0, .inr (9, [.ref a0])), (a0, .inl (cI, 8, .inl f_4))] := by rw [ef_4]; exact hD
  refine lv_iinc (v := 2) (lv' := [(1, .int 2), (0, .ref h0)]) hx hb dX8_clear_15 hl (k := 0) rfl (by decide) (by decide) rfl (fun ls hl => ?_)
  refine lv_goto (tgt := 2) hx hb dX8_clear_18 (by decide) ?_
  refine lv_iload_n hx hb dX8_clear_2 rfl (lv_at hl 0 rfl) ?_
  refine lv_bipush (v := 8) hx hb dX8_clear_3 (by decide) ?_
  refine lv_icmp_ge (tgt := 21) hx hb dX8_clear_5 (by decide) (fun c_5 => ?_) (fun c_5 => ?_)
  · exact absurd c_5 (by decide)
  refine lv_aload_n hx hb dX8_clear_8 rfl (lv_at hl 1 rfl) ?_
  refine va_get (D := (dC, dI)) (ci := 9) (v := .ref a0) (C := RX8) (T := TX8) (N := 1) hx hb hts in_c_X8_clear_X8 hown hK hP 0 rfl rfl 0 (by decide) (hts (.fieldLink RX8 9 "ClaimBus$Table" "addresses" "[I") (List.mem_of_getElem? (i := 1) rfl)) (fun _ h9 => h9) rfl dX8_clear_9 ?_
  refine lv_iload_n hx hb dX8_clear_12 rfl (lv_at hl 0 rfl) ?_
  refine lv_iconst (v := -1) hx hb dX8_clear_13 (by decide) ?_
  refine va_iast hx hb hK hP hD hS 1 0 rfl rfl (show ¬ ((2 : Int32) < 0 ∨ 8 ≤ (2 : Int32).toNatClampNeg) by decide) dX8_clear_14 (fun H locs hP hD hS => ?_)
  obtain ⟨f_6, ef_6⟩ : ∃ z : Nat → Int32, z = upd f_4 (Int32.toNatClampNeg (2)) ((-1)) := ⟨_, rfl⟩
  have hP : va_P (dC, dI) vwCl [(h0, .inr (9, [.ref a0])), (a0, .inl (cI, 8, .inl f_6))] H := by rw [ef_6]; exact hP
  have hD : va_D A [(h0, .inr (9, [.ref a0])), (a0, .inl (cI, 8, .inl f_6))] := by rw [ef_6]; exact hD
  refine lv_iinc (v := 3) (lv' := [(1, .int 3), (0, .ref h0)]) hx hb dX8_clear_15 hl (k := 0) rfl (by decide) (by decide) rfl (fun ls hl => ?_)
  refine lv_goto (tgt := 2) hx hb dX8_clear_18 (by decide) ?_
  refine lv_iload_n hx hb dX8_clear_2 rfl (lv_at hl 0 rfl) ?_
  refine lv_bipush (v := 8) hx hb dX8_clear_3 (by decide) ?_
  refine lv_icmp_ge (tgt := 21) hx hb dX8_clear_5 (by decide) (fun c_7 => ?_) (fun c_7 => ?_)
  · exact absurd c_7 (by decide)
  refine lv_aload_n hx hb dX8_clear_8 rfl (lv_at hl 1 rfl) ?_
  refine va_get (D := (dC, dI)) (ci := 9) (v := .ref a0) (C := RX8) (T := TX8) (N := 1) hx hb hts in_c_X8_clear_X8 hown hK hP 0 rfl rfl 0 (by decide) (hts (.fieldLink RX8 9 "ClaimBus$Table" "addresses" "[I") (List.mem_of_getElem? (i := 1) rfl)) (fun _ h9 => h9) rfl dX8_clear_9 ?_
  refine lv_iload_n hx hb dX8_clear_12 rfl (lv_at hl 0 rfl) ?_
  refine lv_iconst (v := -1) hx hb dX8_clear_13 (by decide) ?_
  refine va_iast hx hb hK hP hD hS 1 0 rfl rfl (show ¬ ((3 : Int32) < 0 ∨ 8 ≤ (3 : Int32).toNatClampNeg) by decide) dX8_clear_14 (fun H locs hP hD hS => ?_)
  obtain ⟨f_8, ef_8⟩ : ∃ z : Nat → Int32, z = upd f_6 (Int32.toNatClampNeg (3)) ((-1)) := ⟨_, rfl⟩
  have hP : va_P (dC, dI) vwCl [(h0, .inr (9, [.ref a0])), (a0, .inl (cI, 8, .inl f_8))] H := by rw [ef_8]; exact hP
  have hD : va_D A [(h0, .inr (9, [.ref a0])), (a0, .inl (cI, 8, .inl f_8))] := by rw [ef_8]; exact hD
  refine lv_iinc (v := 4) (lv' := [(1, .int 4), (0, .ref h0)]) hx hb dX8_clear_15 hl (k := 0) rfl (by decide) (by decide) rfl (fun ls hl => ?_)
  refine lv_goto (tgt := 2) hx hb dX8_clear_18 (by decide) ?_
  refine lv_iload_n hx hb dX8_clear_2 rfl (lv_at hl 0 rfl) ?_
  refine lv_bipush (v := 8) hx hb dX8_clear_3 (by decide) ?_
  refine lv_icmp_ge (tgt := 21) hx hb dX8_clear_5 (by decide) (fun c_9 => ?_) (fun c_9 => ?_)
  · exact absurd c_9 (by decide)
  refine lv_aload_n hx hb dX8_clear_8 rfl (lv_at hl 1 rfl) ?_
  refine va_get (D := (dC, dI)) (ci := 9) (v := .ref a0) (C := RX8) (T := TX8) (N := 1) hx hb hts in_c_X8_clear_X8 hown hK hP 0 rfl rfl 0 (by decide) (hts (.fieldLink RX8 9 "ClaimBus$Table" "addresses" "[I") (List.mem_of_getElem? (i := 1) rfl)) (fun _ h9 => h9) rfl dX8_clear_9 ?_
  refine lv_iload_n hx hb dX8_clear_12 rfl (lv_at hl 0 rfl) ?_
  refine lv_iconst (v := -1) hx hb dX8_clear_13 (by decide) ?_
  refine va_iast hx hb hK hP hD hS 1 0 rfl rfl (show ¬ ((4 : Int32) < 0 ∨ 8 ≤ (4 : Int32).toNatClampNeg) by decide) dX8_clear_14 (fun H locs hP hD hS => ?_)
  obtain ⟨f_10, ef_10⟩ : ∃ z : Nat → Int32, z = upd f_8 (Int32.toNatClampNeg (4)) ((-1)) := ⟨_, rfl⟩
  have hP : va_P (dC, dI) vwCl [(h0, .inr (9, [.ref a0])), (a0, .inl (cI, 8, .inl f_10))] H := by rw [ef_10]; exact hP
  have hD : va_D A [(h0, .inr (9, [.ref a0])), (a0, .inl (cI, 8, .inl f_10))] := by rw [ef_10]; exact hD
  refine lv_iinc (v := 5) (lv' := [(1, .int 5), (0, .ref h0)]) hx hb dX8_clear_15 hl (k := 0) rfl (by decide) (by decide) rfl (fun ls hl => ?_)
  refine lv_goto (tgt := 2) hx hb dX8_clear_18 (by decide) ?_
  refine lv_iload_n hx hb dX8_clear_2 rfl (lv_at hl 0 rfl) ?_
  refine lv_bipush (v := 8) hx hb dX8_clear_3 (by decide) ?_
  refine lv_icmp_ge (tgt := 21) hx hb dX8_clear_5 (by decide) (fun c_11 => ?_) (fun c_11 => ?_)
  · exact absurd c_11 (by decide)
  refine lv_aload_n hx hb dX8_clear_8 rfl (lv_at hl 1 rfl) ?_
  refine va_get (D := (dC, dI)) (ci := 9) (v := .ref a0) (C := RX8) (T := TX8) (N := 1) hx hb hts in_c_X8_clear_X8 hown hK hP 0 rfl rfl 0 (by decide) (hts (.fieldLink RX8 9 "ClaimBus$Table" "addresses" "[I") (List.mem_of_getElem? (i := 1) rfl)) (fun _ h9 => h9) rfl dX8_clear_9 ?_
  refine lv_iload_n hx hb dX8_clear_12 rfl (lv_at hl 0 rfl) ?_
  refine lv_iconst (v := -1) hx hb dX8_clear_13 (by decide) ?_
  refine va_iast hx hb hK hP hD hS 1 0 rfl rfl (show ¬ ((5 : Int32) < 0 ∨ 8 ≤ (5 : Int32).toNatClampNeg) by decide) dX8_clear_14 (fun H locs hP hD hS => ?_)
  obtain ⟨f_12, ef_12⟩ : ∃ z : Nat → Int32, z = upd f_10 (Int32.toNatClampNeg (5)) ((-1)) := ⟨_, rfl⟩
  have hP : va_P (dC, dI) vwCl [(h0, .inr (9, [.ref a0])), (a0, .inl (cI, 8, .inl f_12))] H := by rw [ef_12]; exact hP
  have hD : va_D A [(h0, .inr (9, [.ref a0])), (a0, .inl (cI, 8, .inl f_12))] := by rw [ef_12]; exact hD
  refine lv_iinc (v := 6) (lv' := [(1, .int 6), (0, .ref h0)]) hx hb dX8_clear_15 hl (k := 0) rfl (by decide) (by decide) rfl (fun ls hl => ?_)
  refine lv_goto (tgt := 2) hx hb dX8_clear_18 (by decide) ?_
  refine lv_iload_n hx hb dX8_clear_2 rfl (lv_at hl 0 rfl) ?_
  refine lv_bipush (v := 8) hx hb dX8_clear_3 (by decide) ?_
  refine lv_icmp_ge (tgt := 21) hx hb dX8_clear_5 (by decide) (fun c_13 => ?_) (fun c_13 => ?_)
  · exact absurd c_13 (by decide)
  refine lv_aload_n hx hb dX8_clear_8 rfl (lv_at hl 1 rfl) ?_
  refine va_get (D := (dC, dI)) (ci := 9) (v := .ref a0) (C := RX8) (T := TX8) (N := 1) hx hb hts in_c_X8_clear_X8 hown hK hP 0 rfl rfl 0 (by decide) (hts (.fieldLink RX8 9 "ClaimBus$Table" "addresses" "[I") (List.mem_of_getElem? (i := 1) rfl)) (fun _ h9 => h9) rfl dX8_clear_9 ?_
  refine lv_iload_n hx hb dX8_clear_12 rfl (lv_at hl 0 rfl) ?_
  refine lv_iconst (v := -1) hx hb dX8_clear_13 (by decide) ?_
  refine va_iast hx hb hK hP hD hS 1 0 rfl rfl (show ¬ ((6 : Int32) < 0 ∨ 8 ≤ (6 : Int32).toNatClampNeg) by decide) dX8_clear_14 (fun H locs hP hD hS => ?_)
  obtain ⟨f_14, ef_14⟩ : ∃ z : Nat → Int32, z = upd f_12 (Int32.toNatClampNeg (6)) ((-1)) := ⟨_, rfl⟩
  have hP : va_P (dC, dI) vwCl [(h0, .inr (9, [.ref a0])), (a0, .inl (cI, 8, .inl f_14))] H := by rw [ef_14]; exact hP
  have hD : va_D A [(h0, .inr (9, [.ref a0])), (a0, .inl (cI, 8, .inl f_14))] := by rw [ef_14]; exact hD
  refine lv_iinc (v := 7) (lv' := [(1, .int 7), (0, .ref h0)]) hx hb dX8_clear_15 hl (k := 0) rfl (by decide) (by decide) rfl (fun ls hl => ?_)
  refine lv_goto (tgt := 2) hx hb dX8_clear_18 (by decide) ?_
  refine lv_iload_n hx hb dX8_clear_2 rfl (lv_at hl 0 rfl) ?_
  refine lv_bipush (v := 8) hx hb dX8_clear_3 (by decide) ?_
  refine lv_icmp_ge (tgt := 21) hx hb dX8_clear_5 (by decide) (fun c_15 => ?_) (fun c_15 => ?_)
  · exact absurd c_15 (by decide)
  refine lv_aload_n hx hb dX8_clear_8 rfl (lv_at hl 1 rfl) ?_
  refine va_get (D := (dC, dI)) (ci := 9) (v := .ref a0) (C := RX8) (T := TX8) (N := 1) hx hb hts in_c_X8_clear_X8 hown hK hP 0 rfl rfl 0 (by decide) (hts (.fieldLink RX8 9 "ClaimBus$Table" "addresses" "[I") (List.mem_of_getElem? (i := 1) rfl)) (fun _ h9 => h9) rfl dX8_clear_9 ?_
  refine lv_iload_n hx hb dX8_clear_12 rfl (lv_at hl 0 rfl) ?_
  refine lv_iconst (v := -1) hx hb dX8_clear_13 (by decide) ?_
  refine va_iast hx hb hK hP hD hS 1 0 rfl rfl (show ¬ ((7 : Int32) < 0 ∨ 8 ≤ (7 : Int32).toNatClampNeg) by decide) dX8_clear_14 (fun H locs hP hD hS => ?_)
  obtain ⟨f_16, ef_16⟩ : ∃ z : Nat → Int32, z = upd f_14 (Int32.toNatClampNeg (7)) ((-1)) := ⟨_, rfl⟩
  have hP : va_P (dC, dI) vwCl [(h0, .inr (9, [.ref a0])), (a0, .inl (cI, 8, .inl f_16))] H := by rw [ef_16]; exact hP
  have hD : va_D A [(h0, .inr (9, [.ref a0])), (a0, .inl (cI, 8, .inl f_16))] := by rw [ef_16]; exact hD
  refine lv_iinc (v := 8) (lv' := [(1, .int 8), (0, .ref h0)]) hx hb dX8_clear_15 hl (k := 0) rfl (by decide) (by decide) rfl (fun ls hl => ?_)
  refine lv_goto (tgt := 2) hx hb dX8_clear_18 (by decide) ?_
  refine lv_iload_n hx hb dX8_clear_2 rfl (lv_at hl 0 rfl) ?_
  refine lv_bipush (v := 8) hx hb dX8_clear_3 (by decide) ?_
  refine lv_icmp_ge (tgt := 21) hx hb dX8_clear_5 (by decide) (fun c_17 => ?_) (fun c_17 => ?_)
  rotate_left
  · exact absurd (by decide) c_17
  exact W.vret hx hb hr (fun t ht hW => ⟨⟨(), rfl, trivial, trivial⟩, hS.F ht⟩) hS.2.2 dX8_clear_21

def v_c_X8_init : List Cond := .code yX8_init cX8_init 1 none :: ([.methodLink RX8 3 objectInit, .instanceMethod objectInit, .code objectInit ⟨#[0xb1]⟩ 1 none, .arrayClass .int, .fieldLink RX8 9 "ClaimBus$Table" "addresses" "[I", .code yX8_clear cX8_clear 2 none, .initialized RX8, .methodLink RX8 15 yX8_clear, .instanceMethod yX8_clear, .selects RX8 yX8_clear yX8_clear] ++ wsX80)
theorem in_c_X8_init_X8 : ∀ w ∈ wsX80, w ∈ v_c_X8_init := fun w h => List.mem_cons_of_mem _ (List.mem_append_right _ h)
set_option maxRecDepth 20000 in
theorem g_c_X8_init_c_X8_clear_15 : GoodIn v_c_X8_init (wsV RX8 15 RX8 yX8_clear v_c_X8_clear) := goodIn_r _ [8, 9, 10, 7, 6, 5, 11] (by decide +kernel) (by decide +kernel)
set_option maxHeartbeats 4000000 in
set_option maxRecDepth 100000 in
/-- Table() -/
theorem c_X8_init (l : Launch) (dC : Nat → ClassId) (dI : Nat → Nat → Nat) (h0 : Nat) (sz : Nat)  : Met l yX8_init v_c_X8_init ({ frames := 1, cells := 1, slots := 8, locals := 21 }) (va_Pc [.ref h0] (fun U => U.heap.size = sz ∧ va_P (dC, dI) vwCl [(h0, .inr (9, [.null]))] U.heap ∧ va_K (dC, dI) vwCl [] U ∧ va_D (fun _ => True) [(h0, .inr (9, [.null]))] ∧ ev U)) (va_Qv (fun _ : Unit => True) (fun (_ : Unit) (_ : State) => True) (va_A [(h0, .inr (9, [.null]))] sz)) 1 8 (va_A [(h0, .inr (9, [.null]))] sz) := by
  refine Met.ofW (cc := cX8_init) (maxL := 1) (ret := none) (by decide) rfl ?_
  intro p e s m args below meth c s₁ B hml hv
  obtain ⟨rfl, hsz, hP, hK, hD0, hE⟩ := hv
  have hx := B.exec
  have hb := B.bytes
  have hr := B.returns
  have hts := atoms_spec (ws := v_c_X8_init) B.pre
  have hown : s.vm.findClass RX8 = some m.cls := findClass_of_methodNamed B.named
  have hlocks := B.notSynchronized
  have hin : meth.name = "<init>" := (name_of_methodNamed B.named B.method).1
  subst hsz
  have hD := hD0.self (sz := s.heap.size)
  generalize hAe : va_A [(h0, .inr (9, [.null]))] s.heap.size = A at hD ⊢
  have hA : ∀ q : Nat, s.heap.size ≤ q → A q := fun q h => by rw [← hAe]; exact Or.inr h
  have hS : va_S A s.heap s.heap [] := va_S.rf
  have hP : va_P (dC, dI) vwCl [(h0, .inr (9, [.null]))] s.heap := hP
  have hl := lv_entry ([.ref h0]) (n := 1) (Nat.le_of_ble_eq_true rfl)
  rw [lg_entry_eq]
  generalize (lg_sl ([.ref h0]) ++ List.replicate (1 - (lg_sl ([.ref h0])).length) Slot.unset).toArray = ls at hl ⊢
  have hl : lv_has ls 1 [(0, .ref h0)] := hl
  obtain ⟨H, hH⟩ : ∃ z : Heap, z = s.heap := ⟨_, rfl⟩
  rw [← hH]
  have hS : va_S A s.heap H [] := by rw [hH]; exact va_S.rf
  have hP : va_P (dC, dI) vwCl [(h0, .inr (9, [.null]))] H := by rw [hH]; exact hP
  clear hH
  refine lv_aload_n hx hb dX8_init_0 rfl (lv_at hl 0 rfl) ?_
  refine W.objInit hx hb hown (hts (.methodLink RX8 3 objectInit) (List.mem_of_getElem? (i := 1) rfl)) (hts (.instanceMethod objectInit) (List.mem_of_getElem? (i := 2) rfl)) (hts (.code objectInit ⟨#[0xb1]⟩ 1 none) (List.mem_of_getElem? (i := 3) rfl)) rfl (by rw [hml]; exact hl.1) rfl dX8_init_1 (Nat.le_of_ble_eq_true rfl) (Nat.le_of_ble_eq_true rfl) ?_
  refine W.eq (g2 := F0 m 4 ls []) rfl ?_
  refine lv_aload_n hx hb dX8_init_4 rfl (lv_at hl 0 rfl) ?_
  refine lv_bipush (v := 8) hx hb dX8_init_5 (by decide) ?_
  refine va_newa (atype := .int) (ty := .int) (N' := 8) (a0 := (8, .inl (fun _ => 0))) hx hb (hts (.arrayClass .int) (List.mem_of_getElem? (i := 4) rfl)) rfl hK hP hD hS hA (fun _ => rfl) (by decide) (by decide) (Nat.le_of_ble_eq_true rfl) (Nat.le_of_ble_eq_true rfl) (Nat.le_of_ble_eq_true rfl) dX8_init_7 (fun q1 cA1 H hK hP hD hS => ?_)
  have hK : va_K (dC, dI) vwCl [(cA1, .int)] s := hK
  have hP : va_P (dC, dI) vwCl [(h0, .inr (9, [.null])), (q1, .inl (cA1, 8, .inl (fun _ => 0)))] H := hP
  have hD : va_D A [(h0, .inr (9, [.null])), (q1, .inl (cA1, 8, .inl (fun _ => 0)))] := hD
  refine W.widen (k := 1) (n := 8) (Nat.le_of_ble_eq_true rfl) (Nat.le_of_ble_eq_true rfl) ?_
  refine va_putF (D := (dC, dI)) (ci := 9) (v := .ref q1) (ty := (.array .int)) (C := RX8) (T := TX8) (N := 1) hx hb hts in_c_X8_init_X8 tyX8 tyX8_ok nmX8 hown hK hP hD hS 0 rfl rfl 0 (by decide) (hts (.fieldLink RX8 9 "ClaimBus$Table" "addresses" "[I") (List.mem_of_getElem? (i := 5) rfl)) (fun _ h9 => h9) rfl hin rfl (by decide +kernel) rfl rfl (Nat.le_of_ble_eq_true rfl) dX8_init_9 (fun H locs hP hD hS => ?_)
  have hP : va_P (dC, dI) vwCl [(h0, .inr (9, [.ref q1])), (q1, .inl (cA1, 8, .inl (fun _ => 0)))] H := hP
  have hD : va_D A [(h0, .inr (9, [.ref q1])), (q1, .inl (cA1, 8, .inl (fun _ => 0)))] := hD
  refine lv_aload_n hx hb dX8_init_12 rfl (lv_at hl 0 rfl) ?_
  have hPc := hP.sub (ws' := [(h0, .inr (9, [.ref q1])), (q1, .inl (cA1, 8, .inl (fun _ => 0)))]) [0, 1] rfl
  have hDc := hD.sub (ws' := [(h0, .inr (9, [.ref q1])), (q1, .inl (cA1, 8, .inl (fun _ => 0)))]) [0, 1] (by decide) rfl
  have hKc := hK.sub (tys' := [(cA1, .int)]) [0] rfl
  have hFc := va_free (wc := [(h0, .inr (9, [.ref q1])), (q1, .inl (cA1, 8, .inl (fun _ => 0)))]) hD hS hA [0, 1] rfl
  refine va_callv (va_runV (As := []) (rest := []) ⟨hx, hb, hml, hown, hts⟩ (c_X8_clear l dC dI (h0) (q1) (cA1) ((fun _ => 0)) H.size) (cwV 0 hts g_c_X8_init_c_X8_clear_15 rfl rfl rfl (by decide +kernel) ⟨Nat.le_of_ble_eq_true rfl, Nat.le_of_ble_eq_true rfl⟩) ⟨fun a U g mk q => by obtain ⟨q0, q1, qP, qK, qD, qE⟩ := q; exact ⟨q0, q1, qP, va_K.moved (u := U) (U := U.calling g mk a) (Vm.Alike.refl U.vm) qK, qD, ev.same (u := U) (U := U.calling g mk a) rfl qE⟩, va_recv hKc hPc (ci := 9) (q0 := 0) rfl rfl, fun U hU hW => ⟨rfl, by rw [hU], by rw [hU]; exact hPc, va_K.moved hW.alike hKc, hDc.weaken (fun _ _ _ _ => trivial), hE.warm hW⟩⟩ rfl rfl hl.1 rfl (lv_room (Nat.le_of_ble_eq_true rfl)) dX8_init_13 ⟨Nat.le_of_ble_eq_true rfl, Nat.le_of_ble_eq_true rfl⟩) hS (fun q _ h => hFc q h) hFc (fun u t H1 locs ht hvm hw hB hz1 hk1 hS => ?_)
  clear hPc hDc hKc
  obtain ⟨hP, hD⟩ := va_join (wr := []) (w1 := []) hP hD [0, 1] [] rfl rfl (by decide) (by decide) hk1 hFc p_nil d_nil
  generalize H1 = H at hP hS ⊢
  have hP : va_P (dC, dI) vwCl [] H := hP
  have hD : va_D A [] := hD
  exact W.vret hx hb hr (fun t ht hW => ⟨⟨(), rfl, trivial, trivial⟩, hS.F ht⟩) hS.2.2 dX8_init_16

def v_c_X6_init : List Cond := .code yX6_init cX6_init 1 none :: ([.methodLink RX6 3 objectInit, .instanceMethod objectInit, .code objectInit ⟨#[0xb1]⟩ 1 none, .fieldLink RX6 9 "ClaimBus$Sending" "state" "I", .fieldLink RX6 15 "ClaimBus$Sending" "nextPacket" "I", .fieldLink RX6 18 "ClaimBus$Sending" "due" "I", .fieldLink RX6 21 "ClaimBus$Sending" "whole" "LClaimBus$Message;"] ++ wsX60)
theorem in_c_X6_init_X6 : ∀ w ∈ wsX60, w ∈ v_c_X6_init := fun w h => List.mem_cons_of_mem _ (List.mem_append_right _ h)
set_option maxHeartbeats 4000000 in
set_option maxRecDepth 100000 in
/-- Sending() -/
theorem c_X6_init (l : Launch) (dC : Nat → ClassId) (dI : Nat → Nat → Nat) (h0 : Nat) (sz : Nat)  : Met l yX6_init v_c_X6_init ({ frames := 1, cells := 0, slots := 0, locals := 12 }) (va_Pc [.ref h0] (fun U => U.heap.size = sz ∧ va_P (dC, dI) vwCl [(h0, .inr (7, [.int 0, .int 0, .int 0, .null]))] U.heap ∧ va_K (dC, dI) vwCl [] U ∧ va_D (fun _ => True) [(h0, .inr (7, [.int 0, .int 0, .int 0, .null]))] ∧ ev U)) (va_Qv (fun _ : Unit => True) (fun (_ : Unit) (_ : State) => True) (va_A [(h0, .inr (7, [.int 0, .int 0, .int 0, .null]))] sz)) 0 0 (va_A [(h0, .inr (7, [.int 0, .int 0, .int 0, .null]))] sz) := by
  refine Met.ofW (cc := cX6_init) (maxL := 1) (ret := none) (by decide) rfl ?_
  intro p e s m args below meth c s₁ B hml hv
  obtain ⟨rfl, hsz, hP, hK, hD0, hE⟩ := hv
  have hx := B.exec
  have hb := B.bytes
  have hr := B.returns
  have hts := atoms_spec (ws := v_c_X6_init) B.pre
  have hown : s.vm.findClass RX6 = some m.cls := findClass_of_methodNamed B.named
  have hlocks := B.notSynchronized
  have hin : meth.name = "<init>" := (name_of_methodNamed B.named B.method).1
  subst hsz
  have hD := hD0.self (sz := s.heap.size)
  generalize hAe : va_A [(h0, .inr (7, [.int 0, .int 0, .int 0, .null]))] s.heap.size = A at hD ⊢
  have hA : ∀ q : Nat, s.heap.size ≤ q → A q := fun q h => by rw [← hAe]; exact Or.inr h
  have hS : va_S A s.heap s.heap [] := va_S.rf
  have hP : va_P (dC, dI) vwCl [(h0, .inr (7, [.int 0, .int 0, .int 0, .null]))] s.heap := hP
  have hl := lv_entry ([.ref h0]) (n := 1) (Nat.le_of_ble_eq_true rfl)
  rw [lg_entry_eq]
  generalize (lg_sl ([.ref h0]) ++ List.replicate (1 - (lg_sl ([.ref h0])).length) Slot.unset).toArray = ls at hl ⊢
  have hl : lv_has ls 1 [(0, .ref h0)] := hl
  obtain ⟨H, hH⟩ : ∃ z : Heap, z = s.heap := ⟨_, rfl⟩
  rw [← hH]
  have hS : va_S A s.heap H [] := by rw [hH]; exact va_S.rf
  have hP : va_P (dC, dI) vwCl [(h0, .inr (7, [.int 0, .int 0, .int 0, .null]))] H := by rw [hH]; exact hP
  clear hH
  refine lv_aload_n hx hb dX6_init_0 rfl (lv_at hl 0 rfl) ?_
  refine W.objInit hx hb hown (hts (.methodLink RX6 3 objectInit) (List.mem_of_getElem? (i := 1) rfl)) (hts (.instanceMethod objectInit) (List.mem_of_getElem? (i := 2) rfl)) (hts (.code objectInit ⟨#[0xb1]⟩ 1 none) (List.mem_of_getElem? (i := 3) rfl)) rfl (by rw [hml]; exact hl.1) rfl dX6_init_1 (Nat.le_of_ble_eq_true rfl) (Nat.le_of_ble_eq_true rfl) ?_
  refine W.eq (g2 := F0 m 4 ls []) rfl ?_
  refine lv_aload_n hx hb dX6_init_4 rfl (lv_at hl 0 rfl) ?_
  refine lv_iconst (v := 0) hx hb dX6_init_5 (by decide) ?_
  refine va_put (D := (dC, dI)) (ci := 7) (v := .int 0) (ty := .int) (C := RX6) (T := TX6) (N := 4) hx hb hts in_c_X6_init_X6 tyX6 tyX6_ok nmX6 hown hK hP hD hS 0 rfl rfl 0 (by decide) (hts (.fieldLink RX6 9 "ClaimBus$Sending" "state" "I") (List.mem_of_getElem? (i := 4) rfl)) (fun _ h9 => h9) rfl (by decide +kernel) rfl rfl (Nat.le_of_ble_eq_true rfl) dX6_init_6 (fun H locs hP hD hS => ?_)
  have hP : va_P (dC, dI) vwCl [(h0, .inr (7, [.int 0, .int 0, .int 0, .null]))] H := hP
  have hD : va_D A [(h0, .inr (7, [.int 0, .int 0, .int 0, .null]))] := hD
  refine lv_aload_n hx hb dX6_init_9 rfl (lv_at hl 0 rfl) ?_
  refine lv_iconst (v := 1) hx hb dX6_init_10 (by decide) ?_
  refine va_put (D := (dC, dI)) (ci := 7) (v := .int 1) (ty := .int) (C := RX6) (T := TX6) (N := 4) hx hb hts in_c_X6_init_X6 tyX6 tyX6_ok nmX6 hown hK hP hD hS 0 rfl rfl 1 (by decide) (hts (.fieldLink RX6 15 "ClaimBus$Sending" "nextPacket" "I") (List.mem_of_getElem? (i := 5) rfl)) (fun _ h9 => h9) rfl (by decide +kernel) rfl rfl (Nat.le_of_ble_eq_true rfl) dX6_init_11 (fun H locs hP hD hS => ?_)
  have hP : va_P (dC, dI) vwCl [(h0, .inr (7, [.int 0, .int 1, .int 0, .null]))] H := hP
  have hD : va_D A [(h0, .inr (7, [.int 0, .int 1, .int 0, .null]))] := hD
  refine lv_aload_n hx hb dX6_init_14 rfl (lv_at hl 0 rfl) ?_
  refine lv_iconst (v := 0) hx hb dX6_init_15 (by decide) ?_
  refine va_put (D := (dC, dI)) (ci := 7) (v := .int 0) (ty := .int) (C := RX6) (T := TX6) (N := 4) hx hb hts in_c_X6_init_X6 tyX6 tyX6_ok nmX6 hown hK hP hD hS 0 rfl rfl 2 (by decide) (hts (.fieldLink RX6 18 "ClaimBus$Sending" "due" "I") (List.mem_of_getElem? (i := 6) rfl)) (fun _ h9 => h9) rfl (by decide +kernel) rfl rfl (Nat.le_of_ble_eq_true rfl) dX6_init_16 (fun H locs hP hD hS => ?_)
  have hP : va_P (dC, dI) vwCl [(h0, .inr (7, [.int 0, .int 1, .int 0, .null]))] H := hP
  have hD : va_D A [(h0, .inr (7, [.int 0, .int 1, .int 0, .null]))] := hD
  refine lv_aload_n hx hb dX6_init_19 rfl (lv_at hl 0 rfl) ?_
  refine lv_null hx hb dX6_init_20 ?_
  refine va_put (D := (dC, dI)) (ci := 7) (v := .null) (ty := (.object "ClaimBus$Message")) (C := RX6) (T := TX6) (N := 4) hx hb hts in_c_X6_init_X6 tyX6 tyX6_ok nmX6 hown hK hP hD hS 0 rfl rfl 3 (by decide) (hts (.fieldLink RX6 21 "ClaimBus$Sending" "whole" "LClaimBus$Message;") (List.mem_of_getElem? (i := 7) rfl)) (fun _ h9 => h9) rfl (by decide +kernel) rfl rfl (Nat.le_of_ble_eq_true rfl) dX6_init_21 (fun H locs hP hD hS => ?_)
  have hP : va_P (dC, dI) vwCl [(h0, .inr (7, [.int 0, .int 1, .int 0, .null]))] H := hP
  have hD : va_D A [(h0, .inr (7, [.int 0, .int 1, .int 0, .null]))] := hD
  exact W.vret hx hb hr (fun t ht hW => ⟨⟨(), rfl, trivial, trivial⟩, hS.F ht⟩) hS.2.2 dX6_init_24

def v_c_X2_init : List Cond := .code yX2_init cX2_init 1 none :: ([.methodLink RX2 3 objectInit, .instanceMethod objectInit, .code objectInit ⟨#[0xb1]⟩ 1 none, .fieldLink RX2 9 "ClaimBus$Inbox" "came" "I", .fieldLink RX2 15 "ClaimBus$Inbox" "gotAnotherThanSent" "Z", .arrayClass .int, .fieldLink RX2 19 "ClaimBus$Inbox" "log" "[I", .classLink RX2 23 "[I", .fieldLink RX2 24 "ClaimBus$Inbox" "troubles" "[[I"] ++ wsX20)
theorem in_c_X2_init_X2 : ∀ w ∈ wsX20, w ∈ v_c_X2_init := fun w h => List.mem_cons_of_mem _ (List.mem_append_right _ h)
set_option maxHeartbeats 4000000 in
set_option maxRecDepth 100000 in
/-- Inbox() -/
theorem c_X2_init (l : Launch) (dC : Nat → ClassId) (dI : Nat → Nat → Nat) (h0 : Nat) (sz : Nat)  : Met l yX2_init v_c_X2_init ({ frames := 1, cells := 2, slots := 334, locals := 12 }) (va_Pc [.ref h0] (fun U => U.heap.size = sz ∧ va_P (dC, dI) vwCl [(h0, .inr (3, [.int 0, .int 0, .null, .null]))] U.heap ∧ va_K (dC, dI) vwCl [] U ∧ va_D (fun _ => True) [(h0, .inr (3, [.int 0, .int 0, .null, .null]))] ∧ ev U)) (va_Qv (fun _ : Unit => True) (fun (_ : Unit) (_ : State) => True) (va_A [(h0, .inr (3, [.int 0, .int 0, .null, .null]))] sz)) 2 334 (va_A [(h0, .inr (3, [.int 0, .int 0, .null, .null]))] sz) := by
  refine Met.ofW (cc := cX2_init) (maxL := 1) (ret := none) (by decide) rfl ?_
  intro p e s m args below meth c s₁ B hml hv
  obtain ⟨rfl, hsz, hP, hK, hD0, hE⟩ := hv
  have hx := B.exec
  have hb := B.bytes
  have hr := B.returns
  have hts := atoms_spec (ws := v_c_X2_init) B.pre
  have hown : s.vm.findClass RX2 = some m.cls := findClass_of_methodNamed B.named
  have hlocks := B.notSynchronized
  have hin : meth.name = "<init>" := (name_of_methodNamed B.named B.method).1
  subst hsz
  have hD := hD0.self (sz := s.heap.size)
  generalize hAe : va_A [(h0, .inr (3, [.int 0, .int 0, .null, .null]))] s.heap.size = A at hD ⊢
  have hA : ∀ q : Nat, s.heap.size ≤ q → A q := fun q h => by rw [← hAe]; exact Or.inr h
  have hS : va_S A s.heap s.heap [] := va_S.rf
  have hP : va_P (dC, dI) vwCl [(h0, .inr (3, [.int 0, .int 0, .null, .null]))] s.heap := hP
  have hl := lv_entry ([.ref h0]) (n := 1) (Nat.le_of_ble_eq_true rfl)
  rw [lg_entry_eq]
  generalize (lg_sl ([.ref h0]) ++ List.replicate (1 - (lg_sl ([.ref h0])).length) Slot.unset).toArray = ls at hl ⊢
  have hl : lv_has ls 1 [(0, .ref h0)] := hl
  obtain ⟨H, hH⟩ : ∃ z : Heap, z = s.heap := ⟨_, rfl⟩
  rw [← hH]
  have hS : va_S A s.heap H [] := by rw [hH]; exact va_S.rf
  have hP : va_P (dC, dI) vwCl [(h0, .inr (3, [.int 0, .int 0, .null, .null]))] H := by rw [hH]; exact hP
  clear hH
  refine lv_aload_n hx hb dX2_init_0 rfl (lv_at hl 0 rfl) ?_
  refine W.objInit hx hb hown (hts (.methodLink RX2 3 objectInit) (List.mem_of_getElem? (i := 1) rfl)) (hts (.instanceMethod objectInit) (List.mem_of_getElem? (i := 2) rfl)) (hts (.code objectInit ⟨#[0xb1]⟩ 1 none) (List.mem_of_getElem? (i := 3) rfl)) rfl (by rw [hml]; exact hl.1) rfl dX2_init_1 (Nat.le_of_ble_eq_true rfl) (Nat.le_of_ble_eq_true rfl) ?_
  refine W.eq (g2 := F0 m 4 ls []) rfl ?_
  refine lv_aload_n hx hb dX2_init_4 rfl (lv_at hl 0 rfl) ?_
  refine lv_iconst (v := 0) hx hb dX2_init_5 (by decide) ?_
  refine va_put (D := (dC, dI)) (ci := 3) (v := .int 0) (ty := .int) (C := RX2) (T := TX2) (N := 4) hx hb hts in_c_X2_init_X2 tyX2 tyX2_ok nmX2 hown hK hP hD hS 0 rfl rfl 0 (by decide) (hts (.fieldLink RX2 9 "ClaimBus$Inbox" "came" "I") (List.mem_of_getElem? (i := 4) rfl)) (fun _ h9 => h9) rfl (by decide +kernel) rfl rfl (Nat.le_of_ble_eq_true rfl) dX2_init_6 (fun H locs hP hD hS => ?_)
  have hP : va_P (dC, dI) vwCl [(h0, .inr (3, [.int 0, .int 0, .null, .null]))] H := hP
  have hD : va_D A [(h0, .inr (3, [.int 0, .int 0, .null, .null]))] := hD
  refine lv_aload_n hx hb dX2_init_9 rfl (lv_at hl 0 rfl) ?_
  refine lv_iconst (v := 0) hx hb dX2_init_10 (by decide) ?_
  refine va_put (D := (dC, dI)) (ci := 3) (v := .int 0) (ty := .boolean) (C := RX2) (T := TX2) (N := 4) hx hb hts in_c_X2_init_X2 tyX2 tyX2_ok nmX2 hown hK hP hD hS 0 rfl rfl 1 (by decide) (hts (.fieldLink RX2 15 "ClaimBus$Inbox" "gotAnotherThanSent" "Z") (List.mem_of_getElem? (i := 5) rfl)) (fun _ h9 => h9) rfl (by decide +kernel) rfl rfl (Nat.le_of_ble_eq_true rfl) dX2_init_11 (fun H locs hP hD hS => ?_)
  have hP : va_P (dC, dI) vwCl [(h0, .inr (3, [.int 0, .int 0, .null, .null]))] H := hP
  have hD : va_D A [(h0, .inr (3, [.int 0, .int 0, .null, .null]))] := hD
  refine lv_aload_n hx hb dX2_init_14 rfl (lv_at hl 0 rfl) ?_
  refine lv_bipush (v := 80) hx hb dX2_init_15 (by decide) ?_
  refine va_newa (atype := .int) (ty := .int) (N' := 80) (a0 := (80, .inl (fun _ => 0))) hx hb (hts (.arrayClass .int) (List.mem_of_getElem? (i := 6) rfl)) rfl hK hP hD hS hA (fun _ => rfl) (by decide) (by decide) (Nat.le_of_ble_eq_true rfl) (Nat.le_of_ble_eq_true rfl) (Nat.le_of_ble_eq_true rfl) dX2_init_17 (fun q1 cA1 H hK hP hD hS => ?_)
  have hK : va_K (dC, dI) vwCl [(cA1, .int)] s := hK
  have hP : va_P (dC, dI) vwCl [(h0, .inr (3, [.int 0, .int 0, .null, .null])), (q1, .inl (cA1, 80, .inl (fun _ => 0)))] H := hP
  have hD : va_D A [(h0, .inr (3, [.int 0, .int 0, .null, .null])), (q1, .inl (cA1, 80, .inl (fun _ => 0)))] := hD
  refine W.widen (k := 1) (n := 80) (Nat.le_of_ble_eq_true rfl) (Nat.le_of_ble_eq_true rfl) ?_
  refine va_putF (D := (dC, dI)) (ci := 3) (v := .ref q1) (ty := (.array .int)) (C := RX2) (T := TX2) (N := 4) hx hb hts in_c_X2_init_X2 tyX2 tyX2_ok nmX2 hown hK hP hD hS 0 rfl rfl 2 (by decide) (hts (.fieldLink RX2 19 "ClaimBus$Inbox" "log" "[I") (List.mem_of_getElem? (i := 7) rfl)) (fun _ h9 => h9) rfl hin rfl (by decide +kernel) rfl rfl (Nat.le_of_ble_eq_true rfl) dX2_init_19 (fun H locs hP hD hS => ?_)
  have hP : va_P (dC, dI) vwCl [(h0, .inr (3, [.int 0, .int 0, .ref q1, .null])), (q1, .inl (cA1, 80, .inl (fun _ => 0)))] H := hP
  have hD : va_D A [(h0, .inr (3, [.int 0, .int 0, .ref q1, .null])), (q1, .inl (cA1, 80, .inl (fun _ => 0)))] := hD
  have hP := hP.sub (ws' := [(h0, .inr (3, [.int 0, .int 0, .ref q1, .null]))]) [0] rfl
  have hD := hD.sub (ws' := [(h0, .inr (3, [.int 0, .int 0, .ref q1, .null]))]) [0] (by decide) rfl
  refine lv_aload_n hx hb dX2_init_22 rfl (lv_at hl 0 rfl) ?_
  refine lv_sipush (v := 254) hx hb dX2_init_23 (by decide) ?_
  refine my_newA (N' := 254) hx hb hown (hts (.classLink RX2 23 "[I") (List.mem_of_getElem? (i := 8) rfl)) hE.AOA hP hD hS hA (by decide) (by decide) (Nat.le_of_ble_eq_true rfl) (Nat.le_of_ble_eq_true rfl) (Nat.le_of_ble_eq_true rfl) dX2_init_26 (fun q2 cA2 H hP hD hS => ?_)
  have hP : va_P (dC, dI) vwCl [(h0, .inr (3, [.int 0, .int 0, .ref q1, .null])), (q2, .inl (cA2, 254, .inr (.inr (.inr (.inr (fun _ => none))))))] H := hP
  have hD : va_D A [(h0, .inr (3, [.int 0, .int 0, .ref q1, .null])), (q2, .inl (cA2, 254, .inr (.inr (.inr (.inr (fun _ => none))))))] := hD
  refine W.widen (k := 2) (n := 334) (Nat.le_of_ble_eq_true rfl) (Nat.le_of_ble_eq_true rfl) ?_
  refine va_putF (D := (dC, dI)) (ci := 3) (v := .ref q2) (ty := (.array (.array .int))) (C := RX2) (T := TX2) (N := 4) hx hb hts in_c_X2_init_X2 tyX2 tyX2_ok nmX2 hown hK hP hD hS 0 rfl rfl 3 (by decide) (hts (.fieldLink RX2 24 "ClaimBus$Inbox" "troubles" "[[I") (List.mem_of_getElem? (i := 9) rfl)) (fun _ h9 => h9) rfl hin rfl (by decide +kernel) rfl rfl (Nat.le_of_ble_eq_true rfl) dX2_init_29 (fun H locs hP hD hS => ?_)
  have hP : va_P (dC, dI) vwCl [(h0, .inr (3, [.int 0, .int 0, .ref q1, .ref q2])), (q2, .inl (cA2, 254, .inr (.inr (.inr (.inr (fun _ => none))))))] H := hP
  have hD : va_D A [(h0, .inr (3, [.int 0, .int 0, .ref q1, .ref q2])), (q2, .inl (cA2, 254, .inr (.inr (.inr (.inr (fun _ => none))))))] := hD
  have hP := hP.sub (ws' := [(h0, .inr (3, [.int 0, .int 0, .ref q1, .ref q2]))]) [0] rfl
  have hD := hD.sub (ws' := [(h0, .inr (3, [.int 0, .int 0, .ref q1, .ref q2]))]) [0] (by decide) rfl
  exact W.vret hx hb hr (fun t ht hW => ⟨⟨(), rfl, trivial, trivial⟩, hS.F ht⟩) hS.2.2 dX2_init_32

def v_c_X5_init : List Cond := .code yX5_init cX5_init 4 none :: ([.methodLink RX5 3 objectInit, .instanceMethod objectInit, .code objectInit ⟨#[0xb1]⟩ 1 none, .fieldLink RX5 9 "ClaimBus$Row" "head" "LClaimBus$Chunk;", .fieldLink RX5 15 "ClaimBus$Row" "tail" "LClaimBus$Chunk;", .fieldLink RX5 18 "ClaimBus$Row" "headPlace" "I", .fieldLink RX5 22 "ClaimBus$Row" "tailPlace" "I", .fieldLink RX5 25 "ClaimBus$Row" "frames" "I", .fieldLink RX5 28 "ClaimBus$Row" "gone" "I", .fieldLink RX5 31 "ClaimBus$Row" "claimWaits" "Z", .classLink RX5 35 RX1, .instantiable RX1 4, .initialized RX1, .code yX1_init cX1_init 1 none, .methodLink RX1 3 objectInit, .fieldLink RX1 9 "ClaimBus$Frame" "identifier" "I", .fieldLink RX1 15 "ClaimBus$Frame" "first" "I", .fieldLink RX1 18 "ClaimBus$Frame" "others" "I", .fieldLink RX1 21 "ClaimBus$Frame" "whole" "LClaimBus$Message;", .instanceMethod yX1_init, .fieldLink RX5 38 "ClaimBus$Row" "first" "LClaimBus$Frame;", .fieldLink RX5 42 "ClaimBus$Row" "firstIsWritten" "Z", .fieldLink RX5 45 "ClaimBus$Row" "high" "I", .fieldLink RX5 48 "ClaimBus$Row" "low" "I", .fieldLink RX5 51 "ClaimBus$Row" "store" "LClaimBus$Store;"] ++ wsX50 ++ wsX10)
theorem in_c_X5_init_X5 : ∀ w ∈ wsX50, w ∈ v_c_X5_init := fun w h => List.mem_cons_of_mem _ (List.mem_append_left _ (List.mem_append_right _ h))
theorem in_c_X5_init_X1 : ∀ w ∈ wsX10, w ∈ v_c_X5_init := fun w h => List.mem_cons_of_mem _ (List.mem_append_right _ h)
set_option maxRecDepth 20000 in
theorem g_c_X5_init_c_X1_init_37 : GoodIn v_c_X5_init v_c_X1_init := goodIn_r _ [14, 15, 2, 3, 16, 17, 18, 19, 38, 39, 40, 41] (by decide +kernel) (by decide +kernel)
set_option maxHeartbeats 4000000 in
set_option maxRecDepth 100000 in
/-- Row(..) -/
theorem c_X5_init (l : Launch) (dC : Nat → ClassId) (dI : Nat → Nat → Nat) (h0 : Nat) (p0 : Int32) (p1 : Int32) (sr : Nat) (sz : Nat)  : Met l yX5_init v_c_X5_init ({ frames := 2, cells := 1, slots := 4, locals := 32 }) (va_Pc [.ref h0, .int p0, .int p1, .ref sr] (fun U => U.heap.size = sz ∧ va_P (dC, dI) vwCl [(h0, .inr (6, [.int 0, .int 0, .null, .null, .null, .int 0, .int 0, .int 0, .int 0, .int 0, .null, .int 0]))] U.heap ∧ va_K (dC, dI) vwCl [] U ∧ va_D (fun _ => True) [(h0, .inr (6, [.int 0, .int 0, .null, .null, .null, .int 0, .int 0, .int 0, .int 0, .int 0, .null, .int 0]))] ∧ ev U)) (va_Qv (fun _ : Unit => True) (fun (_ : Unit) (_ : State) => True) (va_A [(h0, .inr (6, [.int 0, .int 0, .null, .null, .null, .int 0, .int 0, .int 0, .int 0, .int 0, .null, .int 0]))] sz)) 1 4 (va_A [(h0, .inr (6, [.int 0, .int 0, .null, .null, .null, .int 0, .int 0, .int 0, .int 0, .int 0, .null, .int 0]))] sz) := by
  refine Met.ofW (cc := cX5_init) (maxL := 4) (ret := none) (by decide) rfl ?_
  intro p e s m args below meth c s₁ B hml hv
  obtain ⟨rfl, hsz, hP, hK, hD0, hE⟩ := hv
  have hx := B.exec
  have hb := B.bytes
  have hr := B.returns
  have hts := atoms_spec (ws := v_c_X5_init) B.pre
  have hown : s.vm.findClass RX5 = some m.cls := findClass_of_methodNamed B.named
  have hlocks := B.notSynchronized
  have hin : meth.name = "<init>" := (name_of_methodNamed B.named B.method).1
  subst hsz
  have hD := hD0.self (sz := s.heap.size)
  generalize hAe : va_A [(h0, .inr (6, [.int 0, .int 0, .null, .null, .null, .int 0, .int 0, .int 0, .int 0, .int 0, .null, .int 0]))] s.heap.size = A at hD ⊢
  have hA : ∀ q : Nat, s.heap.size ≤ q → A q := fun q h => by rw [← hAe]; exact Or.inr h
  have hS : va_S A s.heap s.heap [] := va_S.rf
  have hP : va_P (dC, dI) vwCl [(h0, .inr (6, [.int 0, .int 0, .null, .null, .null, .int 0, .int 0, .int 0, .int 0, .int 0, .null, .int 0]))] s.heap := hP
  have hl := lv_entry ([.ref h0, .int p0, .int p1, .ref sr]) (n := 4) (Nat.le_of_ble_eq_true rfl)
  rw [lg_entry_eq]
  generalize (lg_sl ([.ref h0, .int p0, .int p1, .ref sr]) ++ List.replicate (4 - (lg_sl ([.ref h0, .int p0, .int p1, .ref sr])).length) Slot.unset).toArray = ls at hl ⊢
  have hl : lv_has ls 4 [(0, .ref h0), (1, .int p0), (2, .int p1), (3, .ref sr)] := hl
  obtain ⟨H, hH⟩ : ∃ z : Heap, z = s.heap := ⟨_, rfl⟩
  rw [← hH]
  have hS : va_S A s.heap H [] := by rw [hH]; exact va_S.rf
  have hP : va_P (dC, dI) vwCl [(h0, .inr (6, [.int 0, .int 0, .null, .null, .null, .int 0, .int 0, .int 0, .int 0, .int 0, .null, .int 0]))] H := by rw [hH]; exact hP
  clear hH
  refine lv_aload_n hx hb dX5_init_0 rfl (lv_at hl 0 rfl) ?_
  refine W.objInit hx hb hown (hts (.methodLink RX5 3 objectInit) (List.mem_of_getElem? (i := 1) rfl)) (hts (.instanceMethod objectInit) (List.mem_of_getElem? (i := 2) rfl)) (hts (.code objectInit ⟨#[0xb1]⟩ 1 none) (List.mem_of_getElem? (i := 3) rfl)) rfl (by rw [hml]; exact hl.1) rfl dX5_init_1 (Nat.le_of_ble_eq_true rfl) (Nat.le_of_ble_eq_true rfl) ?_
  refine W.eq (g2 := F0 m 4 ls []) rfl ?_
  refine lv_aload_n hx hb dX5_init_4 rfl (lv_at hl 0 rfl) ?_
  refine lv_null hx hb dX5_init_5 ?_
  refine va_put (D := (dC, dI)) (ci := 6) (v := .null) (ty := (.object "ClaimBus$Chunk")) (C := RX5) (T := TX5) (N := 12) hx hb hts in_c_X5_init_X5 tyX5 tyX5_ok nmX5 hown hK hP hD hS 0 rfl rfl 3 (by decide) (hts (.fieldLink RX5 9 "ClaimBus$Row" "head" "LClaimBus$Chunk;") (List.mem_of_getElem? (i := 4) rfl)) (fun _ h9 => h9) rfl (by decide +kernel) rfl rfl (Nat.le_of_ble_eq_true rfl) dX5_init_6 (fun H locs hP hD hS => ?_)
  have hP : va_P (dC, dI) vwCl [(h0, .inr (6, [.int 0, .int 0, .null, .null, .null, .int 0, .int 0, .int 0, .int 0, .int 0, .null, .int 0]))] H := hP
  have hD : va_D A [(h0, .inr (6, [.int 0, .int 0, .null, .null, .null, .int 0, .int 0, .int 0, .int 0, .int 0, .null, .int 0]))] := hD
  refine lv_aload_n hx hb dX5_init_9 rfl (lv_at hl 0 rfl) ?_
  refine lv_null hx hb dX5_init_10 ?_
  refine va_put (D := (dC, dI)) (ci := 6) (v := .null) (ty := (.object "ClaimBus$Chunk")) (C := RX5) (T := TX5) (N := 12) hx hb hts in_c_X5_init_X5 tyX5 tyX5_ok nmX5 hown hK hP hD hS 0 rfl rfl 4 (by decide) (hts (.fieldLink RX5 15 "ClaimBus$Row" "tail" "LClaimBus$Chunk;") (List.mem_of_getElem? (i := 5) rfl)) (fun _ h9 => h9) rfl (by decide +kernel) rfl rfl (Nat.le_of_ble_eq_true rfl) dX5_init_11 (fun H locs hP hD hS => ?_)
  have hP : va_P (dC, dI) vwCl [(h0, .inr (6, [.int 0, .int 0, .null, .null, .null, .int 0, .int 0, .int 0, .int 0, .int 0, .null, .int 0]))] H := hP
  have hD : va_D A [(h0, .inr (6, [.int 0, .int 0, .null, .null, .null, .int 0, .int 0, .int 0, .int 0, .int 0, .null, .int 0]))] := hD
  refine lv_aload_n hx hb dX5_init_14 rfl (lv_at hl 0 rfl) ?_
  refine lv_iconst (v := 0) hx hb dX5_init_15 (by decide) ?_
  refine va_put (D := (dC, dI)) (ci := 6) (v := .int 0) (ty := .int) (C := RX5) (T := TX5) (N := 12) hx hb hts in_c_X5_init_X5 tyX5 tyX5_ok nmX5 hown hK hP hD hS 0 rfl rfl 5 (by decide) (hts (.fieldLink RX5 18 "ClaimBus$Row" "headPlace" "I") (List.mem_of_getElem? (i := 6) rfl)) (fun _ h9 => h9) rfl (by decide +kernel) rfl rfl (Nat.le_of_ble_eq_true rfl) dX5_init_16 (fun H locs hP hD hS => ?_)
  have hP : va_P (dC, dI) vwCl [(h0, .inr (6, [.int 0, .int 0, .null, .null, .null, .int 0, .int 0, .int 0, .int 0, .int 0, .null, .int 0]))] H := hP
  have hD : va_D A [(h0, .inr (6, [.int 0, .int 0, .null, .null, .null, .int 0, .int 0, .int 0, .int 0, .int 0, .null, .int 0]))] := hD
  refine lv_aload_n hx hb dX5_init_19 rfl (lv_at hl 0 rfl) ?_
  refine lv_iconst (v := 0) hx hb dX5_init_20 (by decide) ?_
  refine va_put (D := (dC, dI)) (ci := 6) (v := .int 0) (ty := .int) (C := RX5) (T := TX5) (N := 12) hx hb hts in_c_X5_init_X5 tyX5 tyX5_ok nmX5 hown hK hP hD hS 0 rfl rfl 6 (by decide) (hts (.fieldLink RX5 22 "ClaimBus$Row" "tailPlace" "I") (List.mem_of_getElem? (i := 7) rfl)) (fun _ h9 => h9) rfl (by decide +kernel) rfl rfl (Nat.le_of_ble_eq_true rfl) dX5_init_21 (fun H locs hP hD hS => ?_)
  have hP : va_P (dC, dI) vwCl [(h0, .inr (6, [.int 0, .int 0, .null, .null, .null, .int 0, .int 0, .int 0, .int 0, .int 0, .null, .int 0]))] H := hP
  have hD : va_D A [(h0, .inr (6, [.int 0, .int 0, .null, .null, .null, .int 0, .int 0, .int 0, .int 0, .int 0, .null, .int 0]))] := hD
  refine lv_aload_n hx hb dX5_init_24 rfl (lv_at hl 0 rfl) ?_
  refine lv_iconst (v := 0) hx hb dX5_init_25 (by decide) ?_
  refine va_put (D := (dC, dI)) (ci := 6) (v := .int 0) (ty := .int) (C := RX5) (T := TX5) (N := 12) hx hb hts in_c_X5_init_X5 tyX5 tyX5_ok nmX5 hown hK hP hD hS 0 rfl rfl 7 (by decide) (hts (.fieldLink RX5 25 "ClaimBus$Row" "frames" "I") (List.mem_of_getElem? (i := 8) rfl)) (fun _ h9 => h9) rfl (by decide +kernel) rfl rfl (Nat.le_of_ble_eq_true rfl) dX5_init_26 (fun H locs hP hD hS => ?_)
  have hP : va_P (dC, dI) vwCl [(h0, .inr (6, [.int 0, .int 0, .null, .null, .null, .int 0, .int 0, .int 0, .int 0, .int 0, .null, .int 0]))] H := hP
  have hD : va_D A [(h0, .inr (6, [.int 0, .int 0, .null, .null, .null, .int 0, .int 0, .int 0, .int 0, .int 0, .null, .int 0]))] := hD
  refine lv_aload_n hx hb dX5_init_29 rfl (lv_at hl 0 rfl) ?_
  refine lv_iconst (v := 0) hx hb dX5_init_30 (by decide) ?_
  refine va_put (D := (dC, dI)) (ci := 6) (v := .int 0) (ty := .int) (C := RX5) (T := TX5) (N := 12) hx hb hts in_c_X5_init_X5 tyX5 tyX5_ok nmX5 hown hK hP hD hS 0 rfl rfl 8 (by decide) (hts (.fieldLink RX5 28 "ClaimBus$Row" "gone" "I") (List.mem_of_getElem? (i := 9) rfl)) (fun _ h9 => h9) rfl (by decide +kernel) rfl rfl (Nat.le_of_ble_eq_true rfl) dX5_init_31 (fun H locs hP hD hS => ?_)
  have hP : va_P (dC, dI) vwCl [(h0, .inr (6, [.int 0, .int 0, .null, .null, .null, .int 0, .int 0, .int 0, .int 0, .int 0, .null, .int 0]))] H := hP
  have hD : va_D A [(h0, .inr (6, [.int 0, .int 0, .null, .null, .null, .int 0, .int 0, .int 0, .int 0, .int 0, .null, .int 0]))] := hD
  refine lv_aload_n hx hb dX5_init_34 rfl (lv_at hl 0 rfl) ?_
  refine lv_iconst (v := 0) hx hb dX5_init_35 (by decide) ?_
  refine va_put (D := (dC, dI)) (ci := 6) (v := .int 0) (ty := .boolean) (C := RX5) (T := TX5) (N := 12) hx hb hts in_c_X5_init_X5 tyX5 tyX5_ok nmX5 hown hK hP hD hS 0 rfl rfl 9 (by decide) (hts (.fieldLink RX5 31 "ClaimBus$Row" "claimWaits" "Z") (List.mem_of_getElem? (i := 10) rfl)) (fun _ h9 => h9) rfl (by decide +kernel) rfl rfl (Nat.le_of_ble_eq_true rfl) dX5_init_36 (fun H locs hP hD hS => ?_)
  have hP : va_P (dC, dI) vwCl [(h0, .inr (6, [.int 0, .int 0, .null, .null, .null, .int 0, .int 0, .int 0, .int 0, .int 0, .null, .int 0]))] H := hP
  have hD : va_D A [(h0, .inr (6, [.int 0, .int 0, .null, .null, .null, .int 0, .int 0, .int 0, .int 0, .int 0, .null, .int 0]))] := hD
  refine lv_aload_n hx hb dX5_init_39 rfl (lv_at hl 0 rfl) ?_
  refine va_new (ci := 2) (fs := [.int 0, .int 0, .int 0, .null]) (C := RX1) (T := TX1) (N := 4) hx hb hts in_c_X5_init_X1 tyX1 tyX1_ok hown (hts (.classLink RX5 35 RX1) (List.mem_of_getElem? (i := 11) rfl)) (hts (.instantiable RX1 4) (List.mem_of_getElem? (i := 12) rfl)) (hts (.initialized RX1) (List.mem_of_getElem? (i := 13) rfl)) hK hP hD hS hA rfl df_X1 (Nat.le_of_ble_eq_true rfl) (Nat.le_of_ble_eq_true rfl) dX5_init_40 (fun q1 H hP hD hS => ?_)
  have hP : va_P (dC, dI) vwCl [(h0, .inr (6, [.int 0, .int 0, .null, .null, .null, .int 0, .int 0, .int 0, .int 0, .int 0, .null, .int 0])), (q1, .inr (2, [.int 0, .int 0, .int 0, .null]))] H := hP
  have hD : va_D A [(h0, .inr (6, [.int 0, .int 0, .null, .null, .null, .int 0, .int 0, .int 0, .int 0, .int 0, .null, .int 0])), (q1, .inr (2, [.int 0, .int 0, .int 0, .null]))] := hD
  refine W.widen (k := 1) (n := 4) (Nat.le_of_ble_eq_true rfl) (Nat.le_of_ble_eq_true rfl) ?_
  refine lv_dup hx hb dX5_init_43 rfl ?_
  have hPc := hP.sub (ws' := [(q1, .inr (2, [.int 0, .int 0, .int 0, .null]))]) [1] rfl
  have hDc := hD.sub (ws' := [(q1, .inr (2, [.int 0, .int 0, .int 0, .null]))]) [1] (by decide) rfl
  have hKc := hK.sub (tys' := []) [] rfl
  have hFc := va_free (wc := [(q1, .inr (2, [.int 0, .int 0, .int 0, .null]))]) hD hS hA [1] rfl
  refine va_callv (va_runIN (As := []) (rest := [.ref q1, .ref h0]) ⟨hx, hb, hml, hown, hts⟩ (c_X1_init l dC dI (q1) H.size) ⟨va_cnB 0 hts g_c_X5_init_c_X1_init_37 rfl rfl rfl hE.n5 (hts (.initialized RX1) (List.mem_of_getElem? (i := 13) rfl)) (by decide +kernel) ⟨Nat.le_of_ble_eq_true rfl, Nat.le_of_ble_eq_true rfl⟩, rfl, (hts (.instanceMethod yX1_init) (List.mem_of_getElem? (i := 20) rfl))⟩ ⟨fun a U g mk q => by obtain ⟨q0, q1, qP, qK, qD, qE⟩ := q; exact ⟨q0, q1, qP, va_K.moved (u := U) (U := U.calling g mk a) (Vm.Alike.refl U.vm) qK, qD, ev.same (u := U) (U := U.calling g mk a) rfl qE⟩, fun U hU hW => ⟨rfl, by rw [hU], by rw [hU]; exact hPc, va_K.moved hW.alike hKc, hDc.weaken (fun _ _ _ _ => trivial), hE.warm hW⟩⟩ rfl rfl hl.1 rfl (lv_room (Nat.le_of_ble_eq_true rfl)) dX5_init_44 ⟨Nat.le_of_ble_eq_true rfl, Nat.le_of_ble_eq_true rfl⟩) hS (fun q _ h => hFc q h) hFc (fun u t H1 locs ht hvm hw hB hz1 hk1 hS => ?_)
  clear hPc hDc hKc
  obtain ⟨hP, hD⟩ := va_join (wr := [(h0, .inr (6, [.int 0, .int 0, .null, .null, .null, .int 0, .int 0, .int 0, .int 0, .int 0, .null, .int 0]))]) (w1 := []) hP hD [1] [0] rfl rfl (by decide) (by decide) hk1 hFc p_nil d_nil
  generalize H1 = H at hP hS ⊢
  have hP : va_P (dC, dI) vwCl [(h0, .inr (6, [.int 0, .int 0, .null, .null, .null, .int 0, .int 0, .int 0, .int 0, .int 0, .null, .int 0]))] H := hP
  have hD : va_D A [(h0, .inr (6, [.int 0, .int 0, .null, .null, .null, .int 0, .int 0, .int 0, .int 0, .int 0, .null, .int 0]))] := hD
  refine va_putF (D := (dC, dI)) (ci := 6) (v := .ref q1) (ty := (.object "ClaimBus$Frame")) (C := RX5) (T := TX5) (N := 12) hx hb hts in_c_X5_init_X5 tyX5 tyX5_ok nmX5 hown hK hP hD hS 0 rfl rfl 10 (by decide) (hts (.fieldLink RX5 38 "ClaimBus$Row" "first" "LClaimBus$Frame;") (List.mem_of_getElem? (i := 21) rfl)) (fun _ h9 => h9) rfl hin rfl (by decide +kernel) rfl rfl (Nat.le_of_ble_eq_true rfl) dX5_init_47 (fun H locs hP hD hS => ?_)
  have hP : va_P (dC, dI) vwCl [(h0, .inr (6, [.int 0, .int 0, .null, .null, .null, .int 0, .int 0, .int 0, .int 0, .int 0, .ref q1, .int 0]))] H := hP
  have hD : va_D A [(h0, .inr (6, [.int 0, .int 0, .null, .null, .null, .int 0, .int 0, .int 0, .int 0, .int 0, .ref q1, .int 0]))] := hD
  refine lv_aload_n hx hb dX5_init_50 rfl (lv_at hl 0 rfl) ?_
  refine lv_iconst (v := 0) hx hb dX5_init_51 (by decide) ?_
  refine va_put (D := (dC, dI)) (ci := 6) (v := .int 0) (ty := .boolean) (C := RX5) (T := TX5) (N := 12) hx hb hts in_c_X5_init_X5 tyX5 tyX5_ok nmX5 hown hK hP hD hS 0 rfl rfl 11 (by decide) (hts (.fieldLink RX5 42 "ClaimBus$Row" "firstIsWritten" "Z") (List.mem_of_getElem? (i := 22) rfl)) (fun _ h9 => h9) rfl (by decide +kernel) rfl rfl (Nat.le_of_ble_eq_true rfl) dX5_init_52 (fun H locs hP hD hS => ?_)
  have hP : va_P (dC, dI) vwCl [(h0, .inr (6, [.int 0, .int 0, .null, .null, .null, .int 0, .int 0, .int 0, .int 0, .int 0, .ref q1, .int 0]))] H := hP
  have hD : va_D A [(h0, .inr (6, [.int 0, .int 0, .null, .null, .null, .int 0, .int 0, .int 0, .int 0, .int 0, .ref q1, .int 0]))] := hD
  refine lv_aload_n hx hb dX5_init_55 rfl (lv_at hl 0 rfl) ?_
  refine lv_iload_n hx hb dX5_init_56 rfl (lv_at hl 1 rfl) ?_
  refine va_putF (D := (dC, dI)) (ci := 6) (v := .int p0) (ty := .int) (C := RX5) (T := TX5) (N := 12) hx hb hts in_c_X5_init_X5 tyX5 tyX5_ok nmX5 hown hK hP hD hS 0 rfl rfl 0 (by decide) (hts (.fieldLink RX5 45 "ClaimBus$Row" "high" "I") (List.mem_of_getElem? (i := 23) rfl)) (fun _ h9 => h9) rfl hin rfl (by decide +kernel) rfl rfl (Nat.le_of_ble_eq_true rfl) dX5_init_57 (fun H locs hP hD hS => ?_)
  have hP : va_P (dC, dI) vwCl [(h0, .inr (6, [.int p0, .int 0, .null, .null, .null, .int 0, .int 0, .int 0, .int 0, .int 0, .ref q1, .int 0]))] H := hP
  have hD : va_D A [(h0, .inr (6, [.int p0, .int 0, .null, .null, .null, .int 0, .int 0, .int 0, .int 0, .int 0, .ref q1, .int 0]))] := hD
  refine lv_aload_n hx hb dX5_init_60 rfl (lv_at hl 0 rfl) ?_
  refine lv_iload_n hx hb dX5_init_61 rfl (lv_at hl 2 rfl) ?_
  refine va_putF (D := (dC, dI)) (ci := 6) (v := .int p1) (ty := .int) (C := RX5) (T := TX5) (N := 12) hx hb hts in_c_X5_init_X5 tyX5 tyX5_ok nmX5 hown hK hP hD hS 0 rfl rfl 1 (by decide) (hts (.fieldLink RX5 48 "ClaimBus$Row" "low" "I") (List.mem_of_getElem? (i := 24) rfl)) (fun _ h9 => h9) rfl hin rfl (by decide +kernel) rfl rfl (Nat.le_of_ble_eq_true rfl) dX5_init_62 (fun H locs hP hD hS => ?_)
  have hP : va_P (dC, dI) vwCl [(h0, .inr (6, [.int p0, .int p1, .null, .null, .null, .int 0, .int 0, .int 0, .int 0, .int 0, .ref q1, .int 0]))] H := hP
  have hD : va_D A [(h0, .inr (6, [.int p0, .int p1, .null, .null, .null, .int 0, .int 0, .int 0, .int 0, .int 0, .ref q1, .int 0]))] := hD
  refine lv_aload_n hx hb dX5_init_65 rfl (lv_at hl 0 rfl) ?_
  refine lv_aload_n hx hb dX5_init_66 rfl (lv_at hl 3 rfl) ?_
  refine va_putF (D := (dC, dI)) (ci := 6) (v := .ref sr) (ty := (.object "ClaimBus$Store")) (C := RX5) (T := TX5) (N := 12) hx hb hts in_c_X5_init_X5 tyX5 tyX5_ok nmX5 hown hK hP hD hS 0 rfl rfl 2 (by decide) (hts (.fieldLink RX5 51 "ClaimBus$Row" "store" "LClaimBus$Store;") (List.mem_of_getElem? (i := 25) rfl)) (fun _ h9 => h9) rfl hin rfl (by decide +kernel) rfl rfl (Nat.le_of_ble_eq_true rfl) dX5_init_67 (fun H locs hP hD hS => ?_)
  have hP : va_P (dC, dI) vwCl [(h0, .inr (6, [.int p0, .int p1, .ref sr, .null, .null, .int 0, .int 0, .int 0, .int 0, .int 0, .ref q1, .int 0]))] H := hP
  have hD : va_D A [(h0, .inr (6, [.int p0, .int p1, .ref sr, .null, .null, .int 0, .int 0, .int 0, .int 0, .int 0, .ref q1, .int 0]))] := hD
  exact W.vret hx hb hr (fun t ht hW => ⟨⟨(), rfl, trivial, trivial⟩, hS.F ht⟩) hS.2.2 dX5_init_70

def v_c_X4_init : List Cond := .code yX4_init cX4_init 7 none :: ([.methodLink RX4 3 objectInit, .instanceMethod objectInit, .code objectInit ⟨#[0xb1]⟩ 1 none, .classLink RX4 9 RX8, .instantiable RX8 1, .initialized RX8, .code yX8_init cX8_init 1 none, .methodLink RX8 3 objectInit, .arrayClass .int, .fieldLink RX8 9 "ClaimBus$Table" "addresses" "[I", .code yX8_clear cX8_clear 2 none, .methodLink RX8 15 yX8_clear, .instanceMethod yX8_clear, .selects RX8 yX8_clear yX8_clear, .methodLink RX4 11 yX8_init, .instanceMethod yX8_init, .fieldLink RX4 12 "ClaimBus$Node" "table" "LClaimBus$Table;", .classLink RX4 18 RX6, .instantiable RX6 4, .initialized RX6, .code yX6_init cX6_init 1 none, .methodLink RX6 3 objectInit, .fieldLink RX6 9 "ClaimBus$Sending" "state" "I", .fieldLink RX6 15 "ClaimBus$Sending" "nextPacket" "I", .fieldLink RX6 18 "ClaimBus$Sending" "due" "I", .fieldLink RX6 21 "ClaimBus$Sending" "whole" "LClaimBus$Message;", .instanceMethod yX6_init, .fieldLink RX4 21 "ClaimBus$Node" "sending" "LClaimBus$Sending;", .classLink RX4 25 RX2, .instantiable RX2 4, .initialized RX2, .code yX2_init cX2_init 1 none, .methodLink RX2 3 objectInit, .fieldLink RX2 9 "ClaimBus$Inbox" "came" "I", .fieldLink RX2 15 "ClaimBus$Inbox" "gotAnotherThanSent" "Z", .fieldLink RX2 19 "ClaimBus$Inbox" "log" "[I", .classLink RX2 23 "[I", .fieldLink RX2 24 "ClaimBus$Inbox" "troubles" "[[I", .instanceMethod yX2_init, .fieldLink RX4 28 "ClaimBus$Node" "inbox" "LClaimBus$Inbox;", .classLink RX4 32 RX9, .fieldLink RX4 34 "ClaimBus$Node" "gets" "[LClaimBus$Transport;", .classLink RX4 38 RJx4a65c, .instantiable RJx4a65c 3, .initialized RJx4a65c, .code yJx4a65c_init_da8c8 cJx4a65c_init_da8c8 1 none, .code yJxc12de_init_da8c8 cJxc12de_init_da8c8 1 none, .code yJxa1e45_init_da8c8 cJxa1e45_init_da8c8 1 none, .methodLink RJxa1e45 1 objectInit, .initialized RJxa1e45, .methodLink RJxc12de 1 yJxa1e45_init_da8c8, .instanceMethod yJxa1e45_init_da8c8, .fieldLink RJxc12de 7 "java/util/AbstractList" "modCount" "I", .initialized RJxc12de, .methodLink RJx4a65c 1 yJxc12de_init_da8c8, .instanceMethod yJxc12de_init_da8c8, .fieldLink RJx4a65c 39 "java/util/ArrayList" "DEFAULTCAPACITY_EMPTY_ELEMENTDATA" "[Ljava/lang/Object;", .fieldLink RJx4a65c 9 "java/util/ArrayList" "elementData" "[Ljava/lang/Object;", .methodLink RX4 40 yJx4a65c_init_da8c8, .instanceMethod yJx4a65c_init_da8c8, .fieldLink RX4 41 "ClaimBus$Node" "collects" "Ljava/util/ArrayList;", .fieldLink RX4 45 "ClaimBus$Node" "troubles" "[I", .fieldLink RX4 49 "ClaimBus$Node" "troubleCount" "I", .fieldLink RX4 53 "ClaimBus$Node" "state" "I", .fieldLink RX4 56 "ClaimBus$Node" "claimCarriedAt" "I", .fieldLink RX4 59 "ClaimBus$Node" "toLose" "I", .fieldLink RX4 62 "ClaimBus$Node" "lost" "I", .fieldLink RX4 65 "ClaimBus$Node" "high" "I", .fieldLink RX4 68 "ClaimBus$Node" "low" "I", .fieldLink RX4 71 "ClaimBus$Node" "wanted" "I", .fieldLink RX4 74 "ClaimBus$Node" "free" "Z", .fieldLink RX4 78 "ClaimBus$Node" "window" "I", .fieldLink RX4 81 "ClaimBus$Node" "address" "I", .classLink RX4 84 RX5, .instantiable RX5 12, .initialized RX5, .code yX5_init cX5_init 4 none, .methodLink RX5 3 objectInit, .fieldLink RX5 9 "ClaimBus$Row" "head" "LClaimBus$Chunk;", .fieldLink RX5 15 "ClaimBus$Row" "tail" "LClaimBus$Chunk;", .fieldLink RX5 18 "ClaimBus$Row" "headPlace" "I", .fieldLink RX5 22 "ClaimBus$Row" "tailPlace" "I", .fieldLink RX5 25 "ClaimBus$Row" "frames" "I", .fieldLink RX5 28 "ClaimBus$Row" "gone" "I", .fieldLink RX5 31 "ClaimBus$Row" "claimWaits" "Z", .classLink RX5 35 RX1, .instantiable RX1 4, .initialized RX1, .code yX1_init cX1_init 1 none, .methodLink RX1 3 objectInit, .fieldLink RX1 9 "ClaimBus$Frame" "identifier" "I", .fieldLink RX1 15 "ClaimBus$Frame" "first" "I", .fieldLink RX1 18 "ClaimBus$Frame" "others" "I", .fieldLink RX1 21 "ClaimBus$Frame" "whole" "LClaimBus$Message;", .instanceMethod yX1_init, .fieldLink RX5 38 "ClaimBus$Row" "first" "LClaimBus$Frame;", .fieldLink RX5 42 "ClaimBus$Row" "firstIsWritten" "Z", .fieldLink RX5 45 "ClaimBus$Row" "high" "I", .fieldLink RX5 48 "ClaimBus$Row" "low" "I", .fieldLink RX5 51 "ClaimBus$Row" "store" "LClaimBus$Store;", .methodLink RX4 86 yX5_init, .instanceMethod yX5_init, .fieldLink RX4 89 "ClaimBus$Node" "row" "LClaimBus$Row;"] ++ wsX80 ++ wsX40 ++ wsX60 ++ wsX20 ++ wsJx4a65c0 ++ wsX50 ++ wsX10)
theorem in_c_X4_init_X8 : ∀ w ∈ wsX80, w ∈ v_c_X4_init := fun w h => List.mem_cons_of_mem _ (List.mem_append_left _ (List.mem_append_left _ (List.mem_append_left _ (List.mem_append_left _ (List.mem_append_left _ (List.mem_append_left _ (List.mem_append_right _ h)))))))
theorem in_c_X4_init_X4 : ∀ w ∈ wsX40, w ∈ v_c_X4_init := fun w h => List.mem_cons_of_mem _ (List.mem_append_left _ (List.mem_append_left _ (List.mem_append_left _ (List.mem_append_left _ (List.mem_append_left _ (List.mem_append_right _ h))))))
theorem in_c_X4_init_X6 : ∀ w ∈ wsX60, w ∈ v_c_X4_init := fun w h => List.mem_cons_of_mem _ (List.mem_append_left _ (List.mem_append_left _ (List.mem_append_left _ (List.mem_append_left _ (List.mem_append_right _ h)))))
theorem in_c_X4_init_X2 : ∀ w ∈ wsX20, w ∈ v_c_X4_init := fun w h => List.mem_cons_of_mem _ (List.mem_append_left _ (List.mem_append_left _ (List.mem_append_left _ (List.mem_append_right _ h))))
theorem in_c_X4_init_Jx4a65c : ∀ w ∈ wsJx4a65c0, w ∈ v_c_X4_init := fun w h => List.mem_cons_of_mem _ (List.mem_append_left _ (List.mem_append_left _ (List.mem_append_right _ h)))
theorem in_c_X4_init_X5 : ∀ w ∈ wsX50, w ∈ v_c_X4_init := fun w h => List.mem_cons_of_mem _ (List.mem_append_left _ (List.mem_append_right _ h))
theorem in_c_X4_init_X1 : ∀ w ∈ wsX10, w ∈ v_c_X4_init := fun w h => List.mem_cons_of_mem _ (List.mem_append_right _ h)
set_option maxRecDepth 20000 in
theorem g_c_X4_init_c_X8_init_11 : GoodIn v_c_X4_init v_c_X8_init := goodIn_r _ [7, 8, 2, 3, 9, 10, 11, 6, 12, 13, 14, 104] (by decide +kernel) (by decide +kernel)
set_option maxRecDepth 20000 in
theorem g_c_X4_init_c_X6_init_20 : GoodIn v_c_X4_init v_c_X6_init := goodIn_r _ [21, 22, 2, 3, 23, 24, 25, 26, 123, 124, 125, 126] (by decide +kernel) (by decide +kernel)
set_option maxRecDepth 20000 in
theorem g_c_X4_init_c_X2_init_27 : GoodIn v_c_X4_init v_c_X2_init := goodIn_r _ [32, 33, 2, 3, 34, 35, 9, 36, 37, 38, 127, 128, 129, 130] (by decide +kernel) (by decide +kernel)
set_option maxRecDepth 20000 in
theorem g_c_X4_init_c_AL_init_40 : GoodIn v_c_X4_init v_c_AL_init := goodIn_r _ [46, 47, 48, 49, 2, 3, 50, 51, 52, 53, 54, 55, 56, 57, 58, 131, 132, 133] (by decide +kernel) (by decide +kernel)
set_option maxRecDepth 20000 in
theorem g_c_X4_init_c_X5_init_86 : GoodIn v_c_X4_init v_c_X5_init := goodIn_r _ [77, 78, 2, 3, 79, 80, 81, 82, 83, 84, 85, 86, 87, 88, 89, 90, 91, 92, 93, 94, 95, 96, 97, 98, 99, 100, 134, 135, 136, 137, 138, 139, 140, 141, 142, 143, 144, 145, 146, 147, 148, 149] (by decide +kernel) (by decide +kernel)
set_option maxHeartbeats 4000000 in
set_option maxRecDepth 100000 in
/-- Node(..) -/
theorem c_X4_init (l : Launch) (dC : Nat → ClassId) (dI : Nat → Nat → Nat) (h0 : Nat) (p0 : Int32) (p1 : Int32) (p2 : Int32) (fr : Int32) (p3 : Int32) (sr : Nat) (sz : Nat) (hfr : narrow .boolean (.int fr) = .int fr) (hfr2 : fits .boolean (.int fr) = true) : Met l yX4_init v_c_X4_init ({ frames := 4, cells := 11, slots := 383, locals := 72 }) (va_Pc [.ref h0, .int p0, .int p1, .int p2, .int fr, .int p3, .ref sr] (fun U => U.heap.size = sz ∧ va_P (dC, dI) vwCl [(h0, .inr (5, [.int 0, .int 0, .int 0, .int 0, .int 0, .null, .null, .null, .null, .null, .null, .null, .int 0, .int 0, .int 0, .int 0, .int 0, .int 0]))] U.heap ∧ va_K (dC, dI) vwCl [] U ∧ va_D (fun _ => True) [(h0, .inr (5, [.int 0, .int 0, .int 0, .int 0, .int 0, .null, .null, .null, .null, .null, .null, .null, .int 0, .int 0, .int 0, .int 0, .int 0, .int 0]))] ∧ ev U ∧ va_Zq "java/util/ArrayList" "DEFAULTCAPACITY_EMPTY_ELEMENTDATA" "[Ljava/lang/Object;" (va_A [(h0, .inr (5, [.int 0, .int 0, .int 0, .int 0, .int 0, .null, .null, .null, .null, .null, .null, .null, .int 0, .int 0, .int 0, .int 0, .int 0, .int 0]))] sz) U U.heap)) (va_Qv (fun _ : Unit => True) (fun (_ : Unit) (t : State) => ∃ vs : List Value, va_P (dC, dI) vwCl [(h0, .inr (5, vs))] t.heap ∧ va_K (dC, dI) vwCl [] t ∧ va_D (va_A [(h0, .inr (5, [.int 0, .int 0, .int 0, .int 0, .int 0, .null, .null, .null, .null, .null, .null, .null, .int 0, .int 0, .int 0, .int 0, .int 0, .int 0]))] sz) [(h0, .inr (5, vs))]) (va_A [(h0, .inr (5, [.int 0, .int 0, .int 0, .int 0, .int 0, .null, .null, .null, .null, .null, .null, .null, .int 0, .int 0, .int 0, .int 0, .int 0, .int 0]))] sz)) 11 383 (va_A [(h0, .inr (5, [.int 0, .int 0, .int 0, .int 0, .int 0, .null, .null, .null, .null, .null, .null, .null, .int 0, .int 0, .int 0, .int 0, .int 0, .int 0]))] sz) := by
  refine Met.ofW (cc := cX4_init) (maxL := 7) (ret := none) (by decide) rfl ?_
  intro p e s m args below meth c s₁ B hml hv
  obtain ⟨rfl, hsz, hP, hK, hD0, hE, hZ⟩ := hv
  have hx := B.exec
  have hb := B.bytes
  have hr := B.returns
  have hts := atoms_spec (ws := v_c_X4_init) B.pre
  have hown : s.vm.findClass RX4 = some m.cls := findClass_of_methodNamed B.named
  have hlocks := B.notSynchronized
  have hin : meth.name = "<init>" := (name_of_methodNamed B.named B.method).1
  subst hsz
  have hD := hD0.self (sz := s.heap.size)
  generalize hAe : va_A [(h0, .inr (5, [.int 0, .int 0, .int 0, .int 0, .int 0, .null, .null, .null, .null, .null, .null, .null, .int 0, .int 0, .int 0, .int 0, .int 0, .int 0]))] s.heap.size = A at hD hZ ⊢
  have hA : ∀ q : Nat, s.heap.size ≤ q → A q := fun q h => by rw [← hAe]; exact Or.inr h
  have hS : va_S A s.heap s.heap [] := va_S.rf
  have hP : va_P (dC, dI) vwCl [(h0, .inr (5, [.int 0, .int 0, .int 0, .int 0, .int 0, .null, .null, .null, .null, .null, .null, .null, .int 0, .int 0, .int 0, .int 0, .int 0, .int 0]))] s.heap := hP
  have hl := lv_entry ([.ref h0, .int p0, .int p1, .int p2, .int fr, .int p3, .ref sr]) (n := 7) (Nat.le_of_ble_eq_true rfl)
  rw [lg_entry_eq]
  generalize (lg_sl ([.ref h0, .int p0, .int p1, .int p2, .int fr, .int p3, .ref sr]) ++ List.replicate (7 - (lg_sl ([.ref h0, .int p0, .int p1, .int p2, .int fr, .int p3, .ref sr])).length) Slot.unset).toArray = ls at hl ⊢
  have hl : lv_has ls 7 [(0, .ref h0), (1, .int p0), (2, .int p1), (3, .int p2), (4, .int fr), (5, .int p3), (6, .ref sr)] := hl
  obtain ⟨H, hH⟩ : ∃ z : Heap, z = s.heap := ⟨_, rfl⟩
  rw [← hH]
  have hS : va_S A s.heap H [] := by rw [hH]; exact va_S.rf
  have hP : va_P (dC, dI) vwCl [(h0, .inr (5, [.int 0, .int 0, .int 0, .int 0, .int 0, .null, .null, .null, .null, .null, .null, .null, .int 0, .int 0, .int 0, .int 0, .int 0, .int 0]))] H := by rw [hH]; exact hP
  clear hH
  refine lv_aload_n hx hb dX4_init_0 rfl (lv_at hl 0 rfl) ?_
  refine W.objInit hx hb hown (hts (.methodLink RX4 3 objectInit) (List.mem_of_getElem? (i := 1) rfl)) (hts (.instanceMethod objectInit) (List.mem_of_getElem? (i := 2) rfl)) (hts (.code objectInit ⟨#[0xb1]⟩ 1 none) (List.mem_of_getElem? (i := 3) rfl)) rfl (by rw [hml]; exact hl.1) rfl dX4_init_1 (Nat.le_of_ble_eq_true rfl) (Nat.le_of_ble_eq_true rfl) ?_
  refine W.eq (g2 := F0 m 4 ls []) rfl ?_
  refine lv_aload_n hx hb dX4_init_4 rfl (lv_at hl 0 rfl) ?_
  refine va_new (ci := 9) (fs := [.null]) (C := RX8) (T := TX8) (N := 1) hx hb hts in_c_X4_init_X8 tyX8 tyX8_ok hown (hts (.classLink RX4 9 RX8) (List.mem_of_getElem? (i := 4) rfl)) (hts (.instantiable RX8 1) (List.mem_of_getElem? (i := 5) rfl)) (hts (.initialized RX8) (List.mem_of_getElem? (i := 6) rfl)) hK hP hD hS hA rfl df_X8 (Nat.le_of_ble_eq_true rfl) (Nat.le_of_ble_eq_true rfl) dX4_init_5 (fun q1 H hP hD hS => ?_)
  have hP : va_P (dC, dI) vwCl [(h0, .inr (5, [.int 0, .int 0, .int 0, .int 0, .int 0, .null, .null, .null, .null, .null, .null, .null, .int 0, .int 0, .int 0, .int 0, .int 0, .int 0])), (q1, .inr (9, [.null]))] H := hP
  have hD : va_D A [(h0, .inr (5, [.int 0, .int 0, .int 0, .int 0, .int 0, .null, .null, .null, .null, .null, .null, .null, .int 0, .int 0, .int 0, .int 0, .int 0, .int 0])), (q1, .inr (9, [.null]))] := hD
  refine W.widen (k := 1) (n := 1) (Nat.le_of_ble_eq_true rfl) (Nat.le_of_ble_eq_true rfl) ?_
  refine lv_dup hx hb dX4_init_8 rfl ?_
  have hPc := hP.sub (ws' := [(q1, .inr (9, [.null]))]) [1] rfl
  have hDc := hD.sub (ws' := [(q1, .inr (9, [.null]))]) [1] (by decide) rfl
  have hKc := hK.sub (tys' := []) [] rfl
  have hFc := va_free (wc := [(q1, .inr (9, [.null]))]) hD hS hA [1] rfl
  refine va_callv (va_runI (As := []) (rest := [.ref q1, .ref h0]) ⟨hx, hb, hml, hown, hts⟩ (c_X8_init l dC dI (q1) H.size) (cwI 0 hts g_c_X4_init_c_X8_init_11 rfl rfl rfl (hts (.initialized RX8) (List.mem_of_getElem? (i := 6) rfl)) (hts (.methodLink RX4 11 yX8_init) (List.mem_of_getElem? (i := 15) rfl)) (hts (.instanceMethod yX8_init) (List.mem_of_getElem? (i := 16) rfl)) rfl (by decide +kernel) ⟨Nat.le_of_ble_eq_true rfl, Nat.le_of_ble_eq_true rfl⟩) ⟨fun a U g mk q => by obtain ⟨q0, q1, qP, qK, qD, qE⟩ := q; exact ⟨q0, q1, qP, va_K.moved (u := U) (U := U.calling g mk a) (Vm.Alike.refl U.vm) qK, qD, ev.same (u := U) (U := U.calling g mk a) rfl qE⟩, fun U hU hW => ⟨rfl, by rw [hU], by rw [hU]; exact hPc, va_K.moved hW.alike hKc, hDc.weaken (fun _ _ _ _ => trivial), hE.warm hW⟩⟩ rfl rfl hl.1 rfl (lv_room (Nat.le_of_ble_eq_true rfl)) dX4_init_9 ⟨Nat.le_of_ble_eq_true rfl, Nat.le_of_ble_eq_true rfl⟩) hS (fun q _ h => hFc q h) hFc (fun u t H1 locs ht hvm hw hB hz1 hk1 hS => ?_)
  clear hPc hDc hKc
  obtain ⟨hP, hD⟩ := va_join (wr := [(h0, .inr (5, [.int 0, .int 0, .int 0, .int 0, .int 0, .null, .null, .null, .null, .null, .null, .null, .int 0, .int 0, .int 0, .int 0, .int 0, .int 0]))]) (w1 := []) hP hD [1] [0] rfl rfl (by decide) (by decide) hk1 hFc p_nil d_nil
  generalize H1 = H at hP hS ⊢
  have hP : va_P (dC, dI) vwCl [(h0, .inr (5, [.int 0, .int 0, .int 0, .int 0, .int 0, .null, .null, .null, .null, .null, .null, .null, .int 0, .int 0, .int 0, .int 0, .int 0, .int 0]))] H := hP
  have hD : va_D A [(h0, .inr (5, [.int 0, .int 0, .int 0, .int 0, .int 0, .null, .null, .null, .null, .null, .null, .null, .int 0, .int 0, .int 0, .int 0, .int 0, .int 0]))] := hD
  refine W.widen (k := 2) (n := 9) (Nat.le_of_ble_eq_true rfl) (Nat.le_of_ble_eq_true rfl) ?_
  refine va_putF (D := (dC, dI)) (ci := 5) (v := .ref q1) (ty := (.object "ClaimBus$Table")) (C := RX4) (T := TX4) (N := 18) hx hb hts in_c_X4_init_X4 tyX4 tyX4_ok nmX4 hown hK hP hD hS 0 rfl rfl 6 (by decide) (hts (.fieldLink RX4 12 "ClaimBus$Node" "table" "LClaimBus$Table;") (List.mem_of_getElem? (i := 17) rfl)) (fun _ h9 => h9) rfl hin rfl (by decide +kernel) rfl rfl (Nat.le_of_ble_eq_true rfl) dX4_init_12 (fun H locs hP hD hS => ?_)
  have hP : va_P (dC, dI) vwCl [(h0, .inr (5, [.int 0, .int 0, .int 0, .int 0, .int 0, .null, .ref q1, .null, .null, .null, .null, .null, .int 0, .int 0, .int 0, .int 0, .int 0, .int 0]))] H := hP
  have hD : va_D A [(h0, .inr (5, [.int 0, .int 0, .int 0, .int 0, .int 0, .null, .ref q1, .null, .null, .null, .null, .null, .int 0, .int 0, .int 0, .int 0, .int 0, .int 0]))] := hD
  refine lv_aload_n hx hb dX4_init_15 rfl (lv_at hl 0 rfl) ?_
  refine va_new (ci := 7) (fs := [.int 0, .int 0, .int 0, .null]) (C := RX6) (T := TX6) (N := 4) hx hb hts in_c_X4_init_X6 tyX6 tyX6_ok hown (hts (.classLink RX4 18 RX6) (List.mem_of_getElem? (i := 18) rfl)) (hts (.instantiable RX6 4) (List.mem_of_getElem? (i := 19) rfl)) (hts (.initialized RX6) (List.mem_of_getElem? (i := 20) rfl)) hK hP hD hS hA rfl df_X6 (Nat.le_of_ble_eq_true rfl) (Nat.le_of_ble_eq_true rfl) dX4_init_16 (fun q3 H hP hD hS => ?_)
  have hP : va_P (dC, dI) vwCl [(h0, .inr (5, [.int 0, .int 0, .int 0, .int 0, .int 0, .null, .ref q1, .null, .null, .null, .null, .null, .int 0, .int 0, .int 0, .int 0, .int 0, .int 0])), (q3, .inr (7, [.int 0, .int 0, .int 0, .null]))] H := hP
  have hD : va_D A [(h0, .inr (5, [.int 0, .int 0, .int 0, .int 0, .int 0, .null, .ref q1, .null, .null, .null, .null, .null, .int 0, .int 0, .int 0, .int 0, .int 0, .int 0])), (q3, .inr (7, [.int 0, .int 0, .int 0, .null]))] := hD
  refine W.widen (k := 3) (n := 13) (Nat.le_of_ble_eq_true rfl) (Nat.le_of_ble_eq_true rfl) ?_
  refine lv_dup hx hb dX4_init_19 rfl ?_
  have hPc := hP.sub (ws' := [(q3, .inr (7, [.int 0, .int 0, .int 0, .null]))]) [1] rfl
  have hDc := hD.sub (ws' := [(q3, .inr (7, [.int 0, .int 0, .int 0, .null]))]) [1] (by decide) rfl
  have hKc := hK.sub (tys' := []) [] rfl
  have hFc := va_free (wc := [(q3, .inr (7, [.int 0, .int 0, .int 0, .null]))]) hD hS hA [1] rfl
  refine va_callv (va_runIN (As := []) (rest := [.ref q3, .ref h0]) ⟨hx, hb, hml, hown, hts⟩ (c_X6_init l dC dI (q3) H.size) ⟨va_cnB 0 hts g_c_X4_init_c_X6_init_20 rfl rfl rfl hE.n3 (hts (.initialized RX6) (List.mem_of_getElem? (i := 20) rfl)) (by decide +kernel) ⟨Nat.le_of_ble_eq_true rfl, Nat.le_of_ble_eq_true rfl⟩, rfl, (hts (.instanceMethod yX6_init) (List.mem_of_getElem? (i := 27) rfl))⟩ ⟨fun a U g mk q => by obtain ⟨q0, q1, qP, qK, qD, qE⟩ := q; exact ⟨q0, q1, qP, va_K.moved (u := U) (U := U.calling g mk a) (Vm.Alike.refl U.vm) qK, qD, ev.same (u := U) (U := U.calling g mk a) rfl qE⟩, fun U hU hW => ⟨rfl, by rw [hU], by rw [hU]; exact hPc, va_K.moved hW.alike hKc, hDc.weaken (fun _ _ _ _ => trivial), hE.warm hW⟩⟩ rfl rfl hl.1 rfl (lv_room (Nat.le_of_ble_eq_true rfl)) dX4_init_20 ⟨Nat.le_of_ble_eq_true rfl, Nat.le_of_ble_eq_true rfl⟩) hS (fun q _ h => hFc q h) hFc (fun u t H1 locs ht hvm hw hB hz1 hk1 hS => ?_)
  clear hPc hDc hKc
  obtain ⟨hP, hD⟩ := va_join (wr := [(h0, .inr (5, [.int 0, .int 0, .int 0, .int 0, .int 0, .null, .ref q1, .null, .null, .null, .null, .null, .int 0, .int 0, .int 0, .int 0, .int 0, .int 0]))]) (w1 := []) hP hD [1] [0] rfl rfl (by decide) (by decide) hk1 hFc p_nil d_nil
  generalize H1 = H at hP hS ⊢
  have hP : va_P (dC, dI) vwCl [(h0, .inr (5, [.int 0, .int 0, .int 0, .int 0, .int 0, .null, .ref q1, .null, .null, .null, .null, .null, .int 0, .int 0, .int 0, .int 0, .int 0, .int 0]))] H := hP
  have hD : va_D A [(h0, .inr (5, [.int 0, .int 0, .int 0, .int 0, .int 0, .null, .ref q1, .null, .null, .null, .null, .null, .int 0, .int 0, .int 0, .int 0, .int 0, .int 0]))] := hD
  refine va_putF (D := (dC, dI)) (ci := 5) (v := .ref q3) (ty := (.object "ClaimBus$Sending")) (C := RX4) (T := TX4) (N := 18) hx hb hts in_c_X4_init_X4 tyX4 tyX4_ok nmX4 hown hK hP hD hS 0 rfl rfl 7 (by decide) (hts (.fieldLink RX4 21 "ClaimBus$Node" "sending" "LClaimBus$Sending;") (List.mem_of_getElem? (i := 28) rfl)) (fun _ h9 => h9) rfl hin rfl (by decide +kernel) rfl rfl (Nat.le_of_ble_eq_true rfl) dX4_init_23 (fun H locs hP hD hS => ?_)
  have hP : va_P (dC, dI) vwCl [(h0, .inr (5, [.int 0, .int 0, .int 0, .int 0, .int 0, .null, .ref q1, .ref q3, .null, .null, .null, .null, .int 0, .int 0, .int 0, .int 0, .int 0, .int 0]))] H := hP
  have hD : va_D A [(h0, .inr (5, [.int 0, .int 0, .int 0, .int 0, .int 0, .null, .ref q1, .ref q3, .null, .null, .null, .null, .int 0, .int 0, .int 0, .int 0, .int 0, .int 0]))] := hD
  refine lv_aload_n hx hb dX4_init_26 rfl (lv_at hl 0 rfl) ?_
  refine va_new (ci := 3) (fs := [.int 0, .int 0, .null, .null]) (C := RX2) (T := TX2) (N := 4) hx hb hts in_c_X4_init_X2 tyX2 tyX2_ok hown (hts (.classLink RX4 25 RX2) (List.mem_of_getElem? (i := 29) rfl)) (hts (.instantiable RX2 4) (List.mem_of_getElem? (i := 30) rfl)) (hts (.initialized RX2) (List.mem_of_getElem? (i := 31) rfl)) hK hP hD hS hA rfl df_X2 (Nat.le_of_ble_eq_true rfl) (Nat.le_of_ble_eq_true rfl) dX4_init_27 (fun q5 H hP hD hS => ?_)
  have hP : va_P (dC, dI) vwCl [(h0, .inr (5, [.int 0, .int 0, .int 0, .int 0, .int 0, .null, .ref q1, .ref q3, .null, .null, .null, .null, .int 0, .int 0, .int 0, .int 0, .int 0, .int 0])), (q5, .inr (3, [.int 0, .int 0, .null, .null]))] H := hP
  have hD : va_D A [(h0, .inr (5, [.int 0, .int 0, .int 0, .int 0, .int 0, .null, .ref q1, .ref q3, .null, .null, .null, .null, .int 0, .int 0, .int 0, .int 0, .int 0, .int 0])), (q5, .inr (3, [.int 0, .int 0, .null, .null]))] := hD
  refine W.widen (k := 4) (n := 17) (Nat.le_of_ble_eq_true rfl) (Nat.le_of_ble_eq_true rfl) ?_
  refine lv_dup hx hb dX4_init_30 rfl ?_
  have hPc := hP.sub (ws' := [(q5, .inr (3, [.int 0, .int 0, .null, .null]))]) [1] rfl
  have hDc := hD.sub (ws' := [(q5, .inr (3, [.int 0, .int 0, .null, .null]))]) [1] (by decide) rfl
  have hKc := hK.sub (tys' := []) [] rfl
  have hFc := va_free (wc := [(q5, .inr (3, [.int 0, .int 0, .null, .null]))]) hD hS hA [1] rfl
  refine va_callv (va_runIN (As := []) (rest := [.ref q5, .ref h0]) ⟨hx, hb, hml, hown, hts⟩ (c_X2_init l dC dI (q5) H.size) ⟨va_cnB 0 hts g_c_X4_init_c_X2_init_27 rfl rfl rfl hE.n4 (hts (.initialized RX2) (List.mem_of_getElem? (i := 31) rfl)) (by decide +kernel) ⟨Nat.le_of_ble_eq_true rfl, Nat.le_of_ble_eq_true rfl⟩, rfl, (hts (.instanceMethod yX2_init) (List.mem_of_getElem? (i := 39) rfl))⟩ ⟨fun a U g mk q => by obtain ⟨q0, q1, qP, qK, qD, qE⟩ := q; exact ⟨q0, q1, qP, va_K.moved (u := U) (U := U.calling g mk a) (Vm.Alike.refl U.vm) qK, qD, ev.same (u := U) (U := U.calling g mk a) rfl qE⟩, fun U hU hW => ⟨rfl, by rw [hU], by rw [hU]; exact hPc, va_K.moved hW.alike hKc, hDc.weaken (fun _ _ _ _ => trivial), hE.warm hW⟩⟩ rfl rfl hl.1 rfl (lv_room (Nat.le_of_ble_eq_true rfl)) dX4_init_31 ⟨Nat.le_of_ble_eq_true rfl, Nat.le_of_ble_eq_true rfl⟩) hS (fun q _ h => hFc q h) hFc (fun u t H1 locs ht hvm hw hB hz1 hk1 hS => ?_)
  clear hPc hDc hKc
  obtain ⟨hP, hD⟩ := va_join (wr := [(h0, .inr (5, [.int 0, .int 0, .int 0, .int 0, .int 0, .null, .ref q1, .ref q3, .null, .null, .null, .null, .int 0, .int 0, .int 0, .int 0, .int 0, .int 0]))]) (w1 := []) hP hD [1] [0] rfl rfl (by decide) (by decide) hk1 hFc p_nil d_nil
  generalize H1 = H at hP hS ⊢
  have hP : va_P (dC, dI) vwCl [(h0, .inr (5, [.int 0, .int 0, .int 0, .int 0, .int 0, .null, .ref q1, .ref q3, .null, .null, .null, .null, .int 0, .int 0, .int 0, .int 0, .int 0, .int 0]))] H := hP
  have hD : va_D A [(h0, .inr (5, [.int 0, .int 0, .int 0, .int 0, .int 0, .null, .ref q1, .ref q3, .null, .null, .null, .null, .int 0, .int 0, .int 0, .int 0, .int 0, .int 0]))] := hD
  refine W.widen (k := 6) (n := 351) (Nat.le_of_ble_eq_true rfl) (Nat.le_of_ble_eq_true rfl) ?_
  refine va_putF (D := (dC, dI)) (ci := 5) (v := .ref q5) (ty := (.object "ClaimBus$Inbox")) (C := RX4) (T := TX4) (N := 18) hx hb hts in_c_X4_init_X4 tyX4 tyX4_ok nmX4 hown hK hP hD hS 0 rfl rfl 8 (by decide) (hts (.fieldLink RX4 28 "ClaimBus$Node" "inbox" "LClaimBus$Inbox;") (List.mem_of_getElem? (i := 40) rfl)) (fun _ h9 => h9) rfl hin rfl (by decide +kernel) rfl rfl (Nat.le_of_ble_eq_true rfl) dX4_init_34 (fun H locs hP hD hS => ?_)
  have hP : va_P (dC, dI) vwCl [(h0, .inr (5, [.int 0, .int 0, .int 0, .int 0, .int 0, .null, .ref q1, .ref q3, .ref q5, .null, .null, .null, .int 0, .int 0, .int 0, .int 0, .int 0, .int 0]))] H := hP
  have hD : va_D A [(h0, .inr (5, [.int 0, .int 0, .int 0, .int 0, .int 0, .null, .ref q1, .ref q3, .ref q5, .null, .null, .null, .int 0, .int 0, .int 0, .int 0, .int 0, .int 0]))] := hD
  refine lv_aload_n hx hb dX4_init_37 rfl (lv_at hl 0 rfl) ?_
  refine lv_iconst (v := 3) hx hb dX4_init_38 (by decide) ?_
  refine va_newq (C := RX9) (N' := 3) hx hb hown (hts (.classLink RX4 32 RX9) (List.mem_of_getElem? (i := 41) rfl)) hE.AOT hK hP hD hS hA (by decide) (by decide) (Nat.le_of_ble_eq_true rfl) (Nat.le_of_ble_eq_true rfl) (Nat.le_of_ble_eq_true rfl) dX4_init_39 (fun q7 cA7 H hK hP hD hS => ?_)
  have hK : va_K (dC, dI) vwCl [(cA7, (.object RX9))] s := hK
  have hP : va_P (dC, dI) vwCl [(h0, .inr (5, [.int 0, .int 0, .int 0, .int 0, .int 0, .null, .ref q1, .ref q3, .ref q5, .null, .null, .null, .int 0, .int 0, .int 0, .int 0, .int 0, .int 0])), (q7, .inl (cA7, 3, .inr (.inr (.inr (.inr (fun _ => none))))))] H := hP
  have hD : va_D A [(h0, .inr (5, [.int 0, .int 0, .int 0, .int 0, .int 0, .null, .ref q1, .ref q3, .ref q5, .null, .null, .null, .int 0, .int 0, .int 0, .int 0, .int 0, .int 0])), (q7, .inl (cA7, 3, .inr (.inr (.inr (.inr (fun _ => none))))))] := hD
  refine W.widen (k := 7) (n := 354) (Nat.le_of_ble_eq_true rfl) (Nat.le_of_ble_eq_true rfl) ?_
  refine va_putF (D := (dC, dI)) (ci := 5) (v := .ref q7) (ty := (.array (.object "ClaimBus$Transport"))) (C := RX4) (T := TX4) (N := 18) hx hb hts in_c_X4_init_X4 tyX4 tyX4_ok nmX4 hown hK hP hD hS 0 rfl rfl 9 (by decide) (hts (.fieldLink RX4 34 "ClaimBus$Node" "gets" "[LClaimBus$Transport;") (List.mem_of_getElem? (i := 42) rfl)) (fun _ h9 => h9) rfl hin rfl (by decide +kernel) rfl rfl (Nat.le_of_ble_eq_true rfl) dX4_init_42 (fun H locs hP hD hS => ?_)
  have hP : va_P (dC, dI) vwCl [(h0, .inr (5, [.int 0, .int 0, .int 0, .int 0, .int 0, .null, .ref q1, .ref q3, .ref q5, .ref q7, .null, .null, .int 0, .int 0, .int 0, .int 0, .int 0, .int 0])), (q7, .inl (cA7, 3, .inr (.inr (.inr (.inr (fun _ => none))))))] H := hP
  have hD : va_D A [(h0, .inr (5, [.int 0, .int 0, .int 0, .int 0, .int 0, .null, .ref q1, .ref q3, .ref q5, .ref q7, .null, .null, .int 0, .int 0, .int 0, .int 0, .int 0, .int 0])), (q7, .inl (cA7, 3, .inr (.inr (.inr (.inr (fun _ => none))))))] := hD
  have hP := hP.sub (ws' := [(h0, .inr (5, [.int 0, .int 0, .int 0, .int 0, .int 0, .null, .ref q1, .ref q3, .ref q5, .ref q7, .null, .null, .int 0, .int 0, .int 0, .int 0, .int 0, .int 0]))]) [0] rfl
  have hD := hD.sub (ws' := [(h0, .inr (5, [.int 0, .int 0, .int 0, .int 0, .int 0, .null, .ref q1, .ref q3, .ref q5, .ref q7, .null, .null, .int 0, .int 0, .int 0, .int 0, .int 0, .int 0]))]) [0] (by decide) rfl
  refine lv_aload_n hx hb dX4_init_45 rfl (lv_at hl 0 rfl) ?_
  refine va_new (ci := 0) (fs := [.int 0, .null, .int 0]) (C := RJx4a65c) (T := TJx4a65c) (N := 3) hx hb hts in_c_X4_init_Jx4a65c tyJx4a65c tyJx4a65c_ok hown (hts (.classLink RX4 38 RJx4a65c) (List.mem_of_getElem? (i := 43) rfl)) (hts (.instantiable RJx4a65c 3) (List.mem_of_getElem? (i := 44) rfl)) (hts (.initialized RJx4a65c) (List.mem_of_getElem? (i := 45) rfl)) hK hP hD hS hA rfl df_Jx4a65c (Nat.le_of_ble_eq_true rfl) (Nat.le_of_ble_eq_true rfl) dX4_init_46 (fun q8 H hP hD hS => ?_)
  have hP : va_P (dC, dI) vwCl [(h0, .inr (5, [.int 0, .int 0, .int 0, .int 0, .int 0, .null, .ref q1, .ref q3, .ref q5, .ref q7, .null, .null, .int 0, .int 0, .int 0, .int 0, .int 0, .int 0])), (q8, .inr (0, [.int 0, .null, .int 0]))] H := hP
  have hD : va_D A [(h0, .inr (5, [.int 0, .int 0, .int 0, .int 0, .int 0, .null, .ref q1, .ref q3, .ref q5, .ref q7, .null, .null, .int 0, .int 0, .int 0, .int 0, .int 0, .int 0])), (q8, .inr (0, [.int 0, .null, .int 0]))] := hD
  refine W.widen (k := 8) (n := 357) (Nat.le_of_ble_eq_true rfl) (Nat.le_of_ble_eq_true rfl) ?_
  refine lv_dup hx hb dX4_init_49 rfl ?_
  have hPc := hP.sub (ws' := [(q8, .inr (0, [.int 0, .null, .int 0]))]) [1] rfl
  have hDc := hD.sub (ws' := [(q8, .inr (0, [.int 0, .null, .int 0]))]) [1] (by decide) rfl
  have hKc := hK.sub (tys' := []) [] rfl
  have hFc := va_free (wc := [(q8, .inr (0, [.int 0, .null, .int 0]))]) hD hS hA [1] rfl
  have hZc := (w_zq hZ hS).narrow (fun q h => hFc q h)
  refine va_callv (va_runI (As := []) (rest := [.ref q8, .ref h0]) ⟨hx, hb, hml, hown, hts⟩ (c_AL_init l dC dI (q8) H.size) (cwI 0 hts g_c_X4_init_c_AL_init_40 rfl rfl rfl (hts (.initialized RJx4a65c) (List.mem_of_getElem? (i := 45) rfl)) (hts (.methodLink RX4 40 yJx4a65c_init_da8c8) (List.mem_of_getElem? (i := 59) rfl)) (hts (.instanceMethod yJx4a65c_init_da8c8) (List.mem_of_getElem? (i := 60) rfl)) rfl (by decide +kernel) ⟨Nat.le_of_ble_eq_true rfl, Nat.le_of_ble_eq_true rfl⟩) ⟨fun a U g mk q => by obtain ⟨q0, q1, qP, qK, qD, qE, qZ⟩ := q; exact ⟨q0, q1, qP, va_K.moved (u := U) (U := U.calling g mk a) (Vm.Alike.refl U.vm) qK, qD, ev.same (u := U) (U := U.calling g mk a) rfl qE, va_Zq.moved (u := U) (U := U.calling g mk a) (Vm.Alike.refl U.vm) qZ⟩, fun U hU hW => ⟨rfl, by rw [hU], by rw [hU]; exact hPc, va_K.moved hW.alike hKc, hDc.weaken (fun _ _ _ _ => trivial), hE.warm hW, by rw [hU]; exact hZc.moved hW.alike⟩⟩ rfl rfl hl.1 rfl (lv_room (Nat.le_of_ble_eq_true rfl)) dX4_init_50 ⟨Nat.le_of_ble_eq_true rfl, Nat.le_of_ble_eq_true rfl⟩) hS (fun q _ h => hFc q h) hFc (fun u t H1 locs ht hvm hw hB hz1 hk1 hS => ?_)
  clear hPc hDc hKc
  obtain ⟨hP, hD⟩ := va_join (wr := [(h0, .inr (5, [.int 0, .int 0, .int 0, .int 0, .int 0, .null, .ref q1, .ref q3, .ref q5, .ref q7, .null, .null, .int 0, .int 0, .int 0, .int 0, .int 0, .int 0]))]) (w1 := []) hP hD [1] [0] rfl rfl (by decide) (by decide) hk1 hFc p_nil d_nil
  generalize H1 = H at hP hS ⊢
  have hP : va_P (dC, dI) vwCl [(h0, .inr (5, [.int 0, .int 0, .int 0, .int 0, .int 0, .null, .ref q1, .ref q3, .ref q5, .ref q7, .null, .null, .int 0, .int 0, .int 0, .int 0, .int 0, .int 0]))] H := hP
  have hD : va_D A [(h0, .inr (5, [.int 0, .int 0, .int 0, .int 0, .int 0, .null, .ref q1, .ref q3, .ref q5, .ref q7, .null, .null, .int 0, .int 0, .int 0, .int 0, .int 0, .int 0]))] := hD
  refine va_putF (D := (dC, dI)) (ci := 5) (v := .ref q8) (ty := (.object "java/util/ArrayList")) (C := RX4) (T := TX4) (N := 18) hx hb hts in_c_X4_init_X4 tyX4 tyX4_ok nmX4 hown hK hP hD hS 0 rfl rfl 10 (by decide) (hts (.fieldLink RX4 41 "ClaimBus$Node" "collects" "Ljava/util/ArrayList;") (List.mem_of_getElem? (i := 61) rfl)) (fun _ h9 => h9) rfl hin rfl (by decide +kernel) rfl rfl (Nat.le_of_ble_eq_true rfl) dX4_init_53 (fun H locs hP hD hS => ?_)
  have hP : va_P (dC, dI) vwCl [(h0, .inr (5, [.int 0, .int 0, .int 0, .int 0, .int 0, .null, .ref q1, .ref q3, .ref q5, .ref q7, .ref q8, .null, .int 0, .int 0, .int 0, .int 0, .int 0, .int 0]))] H := hP
  have hD : va_D A [(h0, .inr (5, [.int 0, .int 0, .int 0, .int 0, .int 0, .null, .ref q1, .ref q3, .ref q5, .ref q7, .ref q8, .null, .int 0, .int 0, .int 0, .int 0, .int 0, .int 0]))] := hD
  refine lv_aload_n hx hb dX4_init_56 rfl (lv_at hl 0 rfl) ?_
  refine lv_bipush (v := 10) hx hb dX4_init_57 (by decide) ?_
  refine va_newa (atype := .int) (ty := .int) (N' := 10) (a0 := (10, .inl (fun _ => 0))) hx hb (hts (.arrayClass .int) (List.mem_of_getElem? (i := 9) rfl)) rfl hK hP hD hS hA (fun _ => rfl) (by decide) (by decide) (Nat.le_of_ble_eq_true rfl) (Nat.le_of_ble_eq_true rfl) (Nat.le_of_ble_eq_true rfl) dX4_init_59 (fun q10 cA10 H hK hP hD hS => ?_)
  have hK : va_K (dC, dI) vwCl [(cA7, (.object RX9)), (cA10, .int)] s := hK
  have hP : va_P (dC, dI) vwCl [(h0, .inr (5, [.int 0, .int 0, .int 0, .int 0, .int 0, .null, .ref q1, .ref q3, .ref q5, .ref q7, .ref q8, .null, .int 0, .int 0, .int 0, .int 0, .int 0, .int 0])), (q10, .inl (cA10, 10, .inl (fun _ => 0)))] H := hP
  have hD : va_D A [(h0, .inr (5, [.int 0, .int 0, .int 0, .int 0, .int 0, .null, .ref q1, .ref q3, .ref q5, .ref q7, .ref q8, .null, .int 0, .int 0, .int 0, .int 0, .int 0, .int 0])), (q10, .inl (cA10, 10, .inl (fun _ => 0)))] := hD
  refine W.widen (k := 9) (n := 367) (Nat.le_of_ble_eq_true rfl) (Nat.le_of_ble_eq_true rfl) ?_
  refine va_putF (D := (dC, dI)) (ci := 5) (v := .ref q10) (ty := (.array .int)) (C := RX4) (T := TX4) (N := 18) hx hb hts in_c_X4_init_X4 tyX4 tyX4_ok nmX4 hown hK hP hD hS 0 rfl rfl 11 (by decide) (hts (.fieldLink RX4 45 "ClaimBus$Node" "troubles" "[I") (List.mem_of_getElem? (i := 62) rfl)) (fun _ h9 => h9) rfl hin rfl (by decide +kernel) rfl rfl (Nat.le_of_ble_eq_true rfl) dX4_init_61 (fun H locs hP hD hS => ?_)
  have hP : va_P (dC, dI) vwCl [(h0, .inr (5, [.int 0, .int 0, .int 0, .int 0, .int 0, .null, .ref q1, .ref q3, .ref q5, .ref q7, .ref q8, .ref q10, .int 0, .int 0, .int 0, .int 0, .int 0, .int 0])), (q10, .inl (cA10, 10, .inl (fun _ => 0)))] H := hP
  have hD : va_D A [(h0, .inr (5, [.int 0, .int 0, .int 0, .int 0, .int 0, .null, .ref q1, .ref q3, .ref q5, .ref q7, .ref q8, .ref q10, .int 0, .int 0, .int 0, .int 0, .int 0, .int 0])), (q10, .inl (cA10, 10, .inl (fun _ => 0)))] := hD
  have hP := hP.sub (ws' := [(h0, .inr (5, [.int 0, .int 0, .int 0, .int 0, .int 0, .null, .ref q1, .ref q3, .ref q5, .ref q7, .ref q8, .ref q10, .int 0, .int 0, .int 0, .int 0, .int 0, .int 0]))]) [0] rfl
  have hD := hD.sub (ws' := [(h0, .inr (5, [.int 0, .int 0, .int 0, .int 0, .int 0, .null, .ref q1, .ref q3, .ref q5, .ref q7, .ref q8, .ref q10, .int 0, .int 0, .int 0, .int 0, .int 0, .int 0]))]) [0] (by decide) rfl
  refine lv_aload_n hx hb dX4_init_64 rfl (lv_at hl 0 rfl) ?_
  refine lv_iconst (v := 0) hx hb dX4_init_65 (by decide) ?_
  refine va_put (D := (dC, dI)) (ci := 5) (v := .int 0) (ty := .int) (C := RX4) (T := TX4) (N := 18) hx hb hts in_c_X4_init_X4 tyX4 tyX4_ok nmX4 hown hK hP hD hS 0 rfl rfl 12 (by decide) (hts (.fieldLink RX4 49 "ClaimBus$Node" "troubleCount" "I") (List.mem_of_getElem? (i := 63) rfl)) (fun _ h9 => h9) rfl (by decide +kernel) rfl rfl (Nat.le_of_ble_eq_true rfl) dX4_init_66 (fun H locs hP hD hS => ?_)
  have hP : va_P (dC, dI) vwCl [(h0, .inr (5, [.int 0, .int 0, .int 0, .int 0, .int 0, .null, .ref q1, .ref q3, .ref q5, .ref q7, .ref q8, .ref q10, .int 0, .int 0, .int 0, .int 0, .int 0, .int 0]))] H := hP
  have hD : va_D A [(h0, .inr (5, [.int 0, .int 0, .int 0, .int 0, .int 0, .null, .ref q1, .ref q3, .ref q5, .ref q7, .ref q8, .ref q10, .int 0, .int 0, .int 0, .int 0, .int 0, .int 0]))] := hD
  refine lv_aload_n hx hb dX4_init_69 rfl (lv_at hl 0 rfl) ?_
  refine lv_iconst (v := 0) hx hb dX4_init_70 (by decide) ?_
  refine va_put (D := (dC, dI)) (ci := 5) (v := .int 0) (ty := .int) (C := RX4) (T := TX4) (N := 18) hx hb hts in_c_X4_init_X4 tyX4 tyX4_ok nmX4 hown hK hP hD hS 0 rfl rfl 13 (by decide) (hts (.fieldLink RX4 53 "ClaimBus$Node" "state" "I") (List.mem_of_getElem? (i := 64) rfl)) (fun _ h9 => h9) rfl (by decide +kernel) rfl rfl (Nat.le_of_ble_eq_true rfl) dX4_init_71 (fun H locs hP hD hS => ?_)
  have hP : va_P (dC, dI) vwCl [(h0, .inr (5, [.int 0, .int 0, .int 0, .int 0, .int 0, .null, .ref q1, .ref q3, .ref q5, .ref q7, .ref q8, .ref q10, .int 0, .int 0, .int 0, .int 0, .int 0, .int 0]))] H := hP
  have hD : va_D A [(h0, .inr (5, [.int 0, .int 0, .int 0, .int 0, .int 0, .null, .ref q1, .ref q3, .ref q5, .ref q7, .ref q8, .ref q10, .int 0, .int 0, .int 0, .int 0, .int 0, .int 0]))] := hD
  refine lv_aload_n hx hb dX4_init_74 rfl (lv_at hl 0 rfl) ?_
  refine lv_iconst (v := -1) hx hb dX4_init_75 (by decide) ?_
  refine va_put (D := (dC, dI)) (ci := 5) (v := .int (-1)) (ty := .int) (C := RX4) (T := TX4) (N := 18) hx hb hts in_c_X4_init_X4 tyX4 tyX4_ok nmX4 hown hK hP hD hS 0 rfl rfl 15 (by decide) (hts (.fieldLink RX4 56 "ClaimBus$Node" "claimCarriedAt" "I") (List.mem_of_getElem? (i := 65) rfl)) (fun _ h9 => h9) rfl (by decide +kernel) rfl rfl (Nat.le_of_ble_eq_true rfl) dX4_init_76 (fun H locs hP hD hS => ?_)
  have hP : va_P (dC, dI) vwCl [(h0, .inr (5, [.int 0, .int 0, .int 0, .int 0, .int 0, .null, .ref q1, .ref q3, .ref q5, .ref q7, .ref q8, .ref q10, .int 0, .int 0, .int 0, .int (-1), .int 0, .int 0]))] H := hP
  have hD : va_D A [(h0, .inr (5, [.int 0, .int 0, .int 0, .int 0, .int 0, .null, .ref q1, .ref q3, .ref q5, .ref q7, .ref q8, .ref q10, .int 0, .int 0, .int 0, .int (-1), .int 0, .int 0]))] := hD
  refine lv_aload_n hx hb dX4_init_79 rfl (lv_at hl 0 rfl) ?_
  refine lv_iconst (v := 0) hx hb dX4_init_80 (by decide) ?_
  refine va_put (D := (dC, dI)) (ci := 5) (v := .int 0) (ty := .int) (C := RX4) (T := TX4) (N := 18) hx hb hts in_c_X4_init_X4 tyX4 tyX4_ok nmX4 hown hK hP hD hS 0 rfl rfl 16 (by decide) (hts (.fieldLink RX4 59 "ClaimBus$Node" "toLose" "I") (List.mem_of_getElem? (i := 66) rfl)) (fun _ h9 => h9) rfl (by decide +kernel) rfl rfl (Nat.le_of_ble_eq_true rfl) dX4_init_81 (fun H locs hP hD hS => ?_)
  have hP : va_P (dC, dI) vwCl [(h0, .inr (5, [.int 0, .int 0, .int 0, .int 0, .int 0, .null, .ref q1, .ref q3, .ref q5, .ref q7, .ref q8, .ref q10, .int 0, .int 0, .int 0, .int (-1), .int 0, .int 0]))] H := hP
  have hD : va_D A [(h0, .inr (5, [.int 0, .int 0, .int 0, .int 0, .int 0, .null, .ref q1, .ref q3, .ref q5, .ref q7, .ref q8, .ref q10, .int 0, .int 0, .int 0, .int (-1), .int 0, .int 0]))] := hD
  refine lv_aload_n hx hb dX4_init_84 rfl (lv_at hl 0 rfl) ?_
  refine lv_iconst (v := 0) hx hb dX4_init_85 (by decide) ?_
  refine va_put (D := (dC, dI)) (ci := 5) (v := .int 0) (ty := .int) (C := RX4) (T := TX4) (N := 18) hx hb hts in_c_X4_init_X4 tyX4 tyX4_ok nmX4 hown hK hP hD hS 0 rfl rfl 17 (by decide) (hts (.fieldLink RX4 62 "ClaimBus$Node" "lost" "I") (List.mem_of_getElem? (i := 67) rfl)) (fun _ h9 => h9) rfl (by decide +kernel) rfl rfl (Nat.le_of_ble_eq_true rfl) dX4_init_86 (fun H locs hP hD hS => ?_)
  have hP : va_P (dC, dI) vwCl [(h0, .inr (5, [.int 0, .int 0, .int 0, .int 0, .int 0, .null, .ref q1, .ref q3, .ref q5, .ref q7, .ref q8, .ref q10, .int 0, .int 0, .int 0, .int (-1), .int 0, .int 0]))] H := hP
  have hD : va_D A [(h0, .inr (5, [.int 0, .int 0, .int 0, .int 0, .int 0, .null, .ref q1, .ref q3, .ref q5, .ref q7, .ref q8, .ref q10, .int 0, .int 0, .int 0, .int (-1), .int 0, .int 0]))] := hD
  refine lv_aload_n hx hb dX4_init_89 rfl (lv_at hl 0 rfl) ?_
  refine lv_iload_n hx hb dX4_init_90 rfl (lv_at hl 1 rfl) ?_
  refine va_putF (D := (dC, dI)) (ci := 5) (v := .int p0) (ty := .int) (C := RX4) (T := TX4) (N := 18) hx hb hts in_c_X4_init_X4 tyX4 tyX4_ok nmX4 hown hK hP hD hS 0 rfl rfl 0 (by decide) (hts (.fieldLink RX4 65 "ClaimBus$Node" "high" "I") (List.mem_of_getElem? (i := 68) rfl)) (fun _ h9 => h9) rfl hin rfl (by decide +kernel) rfl rfl (Nat.le_of_ble_eq_true rfl) dX4_init_91 (fun H locs hP hD hS => ?_)
  have hP : va_P (dC, dI) vwCl [(h0, .inr (5, [.int p0, .int 0, .int 0, .int 0, .int 0, .null, .ref q1, .ref q3, .ref q5, .ref q7, .ref q8, .ref q10, .int 0, .int 0, .int 0, .int (-1), .int 0, .int 0]))] H := hP
  have hD : va_D A [(h0, .inr (5, [.int p0, .int 0, .int 0, .int 0, .int 0, .null, .ref q1, .ref q3, .ref q5, .ref q7, .ref q8, .ref q10, .int 0, .int 0, .int 0, .int (-1), .int 0, .int 0]))] := hD
  refine lv_aload_n hx hb dX4_init_94 rfl (lv_at hl 0 rfl) ?_
  refine lv_iload_n hx hb dX4_init_95 rfl (lv_at hl 2 rfl) ?_
  refine va_putF (D := (dC, dI)) (ci := 5) (v := .int p1) (ty := .int) (C := RX4) (T := TX4) (N := 18) hx hb hts in_c_X4_init_X4 tyX4 tyX4_ok nmX4 hown hK hP hD hS 0 rfl rfl 1 (by decide) (hts (.fieldLink RX4 68 "ClaimBus$Node" "low" "I") (List.mem_of_getElem? (i := 69) rfl)) (fun _ h9 => h9) rfl hin rfl (by decide +kernel) rfl rfl (Nat.le_of_ble_eq_true rfl) dX4_init_96 (fun H locs hP hD hS => ?_)
  have hP : va_P (dC, dI) vwCl [(h0, .inr (5, [.int p0, .int p1, .int 0, .int 0, .int 0, .null, .ref q1, .ref q3, .ref q5, .ref q7, .ref q8, .ref q10, .int 0, .int 0, .int 0, .int (-1), .int 0, .int 0]))] H := hP
  have hD : va_D A [(h0, .inr (5, [.int p0, .int p1, .int 0, .int 0, .int 0, .null, .ref q1, .ref q3, .ref q5, .ref q7, .ref q8, .ref q10, .int 0, .int 0, .int 0, .int (-1), .int 0, .int 0]))] := hD
  refine lv_aload_n hx hb dX4_init_99 rfl (lv_at hl 0 rfl) ?_
  refine lv_iload_n hx hb dX4_init_100 rfl (lv_at hl 3 rfl) ?_
  refine va_putF (D := (dC, dI)) (ci := 5) (v := .int p2) (ty := .int) (C := RX4) (T := TX4) (N := 18) hx hb hts in_c_X4_init_X4 tyX4 tyX4_ok nmX4 hown hK hP hD hS 0 rfl rfl 2 (by decide) (hts (.fieldLink RX4 71 "ClaimBus$Node" "wanted" "I") (List.mem_of_getElem? (i := 70) rfl)) (fun _ h9 => h9) rfl hin rfl (by decide +kernel) rfl rfl (Nat.le_of_ble_eq_true rfl) dX4_init_101 (fun H locs hP hD hS => ?_)
  have hP : va_P (dC, dI) vwCl [(h0, .inr (5, [.int p0, .int p1, .int p2, .int 0, .int 0, .null, .ref q1, .ref q3, .ref q5, .ref q7, .ref q8, .ref q10, .int 0, .int 0, .int 0, .int (-1), .int 0, .int 0]))] H := hP
  have hD : va_D A [(h0, .inr (5, [.int p0, .int p1, .int p2, .int 0, .int 0, .null, .ref q1, .ref q3, .ref q5, .ref q7, .ref q8, .ref q10, .int 0, .int 0, .int 0, .int (-1), .int 0, .int 0]))] := hD
  refine lv_aload_n hx hb dX4_init_104 rfl (lv_at hl 0 rfl) ?_
  refine lv_iload hx hb dX4_init_105 (lv_at hl 4 rfl) ?_
  refine va_putF (D := (dC, dI)) (ci := 5) (v := .int fr) (ty := .boolean) (C := RX4) (T := TX4) (N := 18) hx hb hts in_c_X4_init_X4 tyX4 tyX4_ok nmX4 hown hK hP hD hS 0 rfl rfl 3 (by decide) (hts (.fieldLink RX4 74 "ClaimBus$Node" "free" "Z") (List.mem_of_getElem? (i := 71) rfl)) (fun _ h9 => h9) rfl hin rfl (by decide +kernel) hfr hfr2 (Nat.le_of_ble_eq_true rfl) dX4_init_107 (fun H locs hP hD hS => ?_)
  have hP : va_P (dC, dI) vwCl [(h0, .inr (5, [.int p0, .int p1, .int p2, .int fr, .int 0, .null, .ref q1, .ref q3, .ref q5, .ref q7, .ref q8, .ref q10, .int 0, .int 0, .int 0, .int (-1), .int 0, .int 0]))] H := hP
  have hD : va_D A [(h0, .inr (5, [.int p0, .int p1, .int p2, .int fr, .int 0, .null, .ref q1, .ref q3, .ref q5, .ref q7, .ref q8, .ref q10, .int 0, .int 0, .int 0, .int (-1), .int 0, .int 0]))] := hD
  refine lv_aload_n hx hb dX4_init_110 rfl (lv_at hl 0 rfl) ?_
  refine lv_iload hx hb dX4_init_111 (lv_at hl 5 rfl) ?_
  refine va_putF (D := (dC, dI)) (ci := 5) (v := .int p3) (ty := .int) (C := RX4) (T := TX4) (N := 18) hx hb hts in_c_X4_init_X4 tyX4 tyX4_ok nmX4 hown hK hP hD hS 0 rfl rfl 4 (by decide) (hts (.fieldLink RX4 78 "ClaimBus$Node" "window" "I") (List.mem_of_getElem? (i := 72) rfl)) (fun _ h9 => h9) rfl hin rfl (by decide +kernel) rfl rfl (Nat.le_of_ble_eq_true rfl) dX4_init_113 (fun H locs hP hD hS => ?_)
  have hP : va_P (dC, dI) vwCl [(h0, .inr (5, [.int p0, .int p1, .int p2, .int fr, .int p3, .null, .ref q1, .ref q3, .ref q5, .ref q7, .ref q8, .ref q10, .int 0, .int 0, .int 0, .int (-1), .int 0, .int 0]))] H := hP
  have hD : va_D A [(h0, .inr (5, [.int p0, .int p1, .int p2, .int fr, .int p3, .null, .ref q1, .ref q3, .ref q5, .ref q7, .ref q8, .ref q10, .int 0, .int 0, .int 0, .int (-1), .int 0, .int 0]))] := hD
  refine lv_aload_n hx hb dX4_init_116 rfl (lv_at hl 0 rfl) ?_
  refine lv_iload_n hx hb dX4_init_117 rfl (lv_at hl 3 rfl) ?_
  refine va_put (D := (dC, dI)) (ci := 5) (v := .int p2) (ty := .int) (C := RX4) (T := TX4) (N := 18) hx hb hts in_c_X4_init_X4 tyX4 tyX4_ok nmX4 hown hK hP hD hS 0 rfl rfl 14 (by decide) (hts (.fieldLink RX4 81 "ClaimBus$Node" "address" "I") (List.mem_of_getElem? (i := 73) rfl)) (fun _ h9 => h9) rfl (by decide +kernel) rfl rfl (Nat.le_of_ble_eq_true rfl) dX4_init_118 (fun H locs hP hD hS => ?_)
  have hP : va_P (dC, dI) vwCl [(h0, .inr (5, [.int p0, .int p1, .int p2, .int fr, .int p3, .null, .ref q1, .ref q3, .ref q5, .ref q7, .ref q8, .ref q10, .int 0, .int 0, .int p2, .int (-1), .int 0, .int 0]))] H := hP
  have hD : va_D A [(h0, .inr (5, [.int p0, .int p1, .int p2, .int fr, .int p3, .null, .ref q1, .ref q3, .ref q5, .ref q7, .ref q8, .ref q10, .int 0, .int 0, .int p2, .int (-1), .int 0, .int 0]))] := hD
  refine lv_aload_n hx hb dX4_init_121 rfl (lv_at hl 0 rfl) ?_
  refine va_new (ci := 6) (fs := [.int 0, .int 0, .null, .null, .null, .int 0, .int 0, .int 0, .int 0, .int 0, .null, .int 0]) (C := RX5) (T := TX5) (N := 12) hx hb hts in_c_X4_init_X5 tyX5 tyX5_ok hown (hts (.classLink RX4 84 RX5) (List.mem_of_getElem? (i := 74) rfl)) (hts (.instantiable RX5 12) (List.mem_of_getElem? (i := 75) rfl)) (hts (.initialized RX5) (List.mem_of_getElem? (i := 76) rfl)) hK hP hD hS hA rfl df_X5 (Nat.le_of_ble_eq_true rfl) (Nat.le_of_ble_eq_true rfl) dX4_init_122 (fun q11 H hP hD hS => ?_)
  have hP : va_P (dC, dI) vwCl [(h0, .inr (5, [.int p0, .int p1, .int p2, .int fr, .int p3, .null, .ref q1, .ref q3, .ref q5, .ref q7, .ref q8, .ref q10, .int 0, .int 0, .int p2, .int (-1), .int 0, .int 0])), (q11, .inr (6, [.int 0, .int 0, .null, .null, .null, .int 0, .int 0, .int 0, .int 0, .int 0, .null, .int 0]))] H := hP
  have hD : va_D A [(h0, .inr (5, [.int p0, .int p1, .int p2, .int fr, .int p3, .null, .ref q1, .ref q3, .ref q5, .ref q7, .ref q8, .ref q10, .int 0, .int 0, .int p2, .int (-1), .int 0, .int 0])), (q11, .inr (6, [.int 0, .int 0, .null, .null, .null, .int 0, .int 0, .int 0, .int 0, .int 0, .null, .int 0]))] := hD
  refine W.widen (k := 10) (n := 379) (Nat.le_of_ble_eq_true rfl) (Nat.le_of_ble_eq_true rfl) ?_
  refine lv_dup hx hb dX4_init_125 rfl ?_
  refine lv_iload_n hx hb dX4_init_126 rfl (lv_at hl 1 rfl) ?_
  refine lv_iload_n hx hb dX4_init_127 rfl (lv_at hl 2 rfl) ?_
  refine lv_aload hx hb dX4_init_128 (lv_at hl 6 rfl) ?_
  have hPc := hP.sub (ws' := [(q11, .inr (6, [.int 0, .int 0, .null, .null, .null, .int 0, .int 0, .int 0, .int 0, .int 0, .null, .int 0]))]) [1] rfl
  have hDc := hD.sub (ws' := [(q11, .inr (6, [.int 0, .int 0, .null, .null, .null, .int 0, .int 0, .int 0, .int 0, .int 0, .null, .int 0]))]) [1] (by decide) rfl
  have hKc := hK.sub (tys' := []) [] rfl
  have hFc := va_free (wc := [(q11, .inr (6, [.int 0, .int 0, .null, .null, .null, .int 0, .int 0, .int 0, .int 0, .int 0, .null, .int 0]))]) hD hS hA [1] rfl
  refine va_callv (va_runI (As := [.int p0, .int p1, .ref sr]) (rest := [.ref q11, .ref h0]) ⟨hx, hb, hml, hown, hts⟩ (c_X5_init l dC dI (q11) (p0) (p1) (sr) H.size) (cwI 3 hts g_c_X4_init_c_X5_init_86 rfl rfl rfl (hts (.initialized RX5) (List.mem_of_getElem? (i := 76) rfl)) (hts (.methodLink RX4 86 yX5_init) (List.mem_of_getElem? (i := 101) rfl)) (hts (.instanceMethod yX5_init) (List.mem_of_getElem? (i := 102) rfl)) rfl (by decide +kernel) ⟨Nat.le_of_ble_eq_true rfl, Nat.le_of_ble_eq_true rfl⟩) ⟨fun a U g mk q => by obtain ⟨q0, q1, qP, qK, qD, qE⟩ := q; exact ⟨q0, q1, qP, va_K.moved (u := U) (U := U.calling g mk a) (Vm.Alike.refl U.vm) qK, qD, ev.same (u := U) (U := U.calling g mk a) rfl qE⟩, fun U hU hW => ⟨rfl, by rw [hU], by rw [hU]; exact hPc, va_K.moved hW.alike hKc, hDc.weaken (fun _ _ _ _ => trivial), hE.warm hW⟩⟩ rfl rfl hl.1 rfl (lv_room (Nat.le_of_ble_eq_true rfl)) dX4_init_130 ⟨Nat.le_of_ble_eq_true rfl, Nat.le_of_ble_eq_true rfl⟩) hS (fun q _ h => hFc q h) hFc (fun u t H1 locs ht hvm hw hB hz1 hk1 hS => ?_)
  clear hPc hDc hKc
  obtain ⟨hP, hD⟩ := va_join (wr := [(h0, .inr (5, [.int p0, .int p1, .int p2, .int fr, .int p3, .null, .ref q1, .ref q3, .ref q5, .ref q7, .ref q8, .ref q10, .int 0, .int 0, .int p2, .int (-1), .int 0, .int 0]))]) (w1 := []) hP hD [1] [0] rfl rfl (by decide) (by decide) hk1 hFc p_nil d_nil
  generalize H1 = H at hP hS ⊢
  have hP : va_P (dC, dI) vwCl [(h0, .inr (5, [.int p0, .int p1, .int p2, .int fr, .int p3, .null, .ref q1, .ref q3, .ref q5, .ref q7, .ref q8, .ref q10, .int 0, .int 0, .int p2, .int (-1), .int 0, .int 0]))] H := hP
  have hD : va_D A [(h0, .inr (5, [.int p0, .int p1, .int p2, .int fr, .int p3, .null, .ref q1, .ref q3, .ref q5, .ref q7, .ref q8, .ref q10, .int 0, .int 0, .int p2, .int (-1), .int 0, .int 0]))] := hD
  refine W.widen (k := 11) (n := 383) (Nat.le_of_ble_eq_true rfl) (Nat.le_of_ble_eq_true rfl) ?_
  refine va_putF (D := (dC, dI)) (ci := 5) (v := .ref q11) (ty := (.object "ClaimBus$Row")) (C := RX4) (T := TX4) (N := 18) hx hb hts in_c_X4_init_X4 tyX4 tyX4_ok nmX4 hown hK hP hD hS 0 rfl rfl 5 (by decide) (hts (.fieldLink RX4 89 "ClaimBus$Node" "row" "LClaimBus$Row;") (List.mem_of_getElem? (i := 103) rfl)) (fun _ h9 => h9) rfl hin rfl (by decide +kernel) rfl rfl (Nat.le_of_ble_eq_true rfl) dX4_init_133 (fun H locs hP hD hS => ?_)
  have hP : va_P (dC, dI) vwCl [(h0, .inr (5, [.int p0, .int p1, .int p2, .int fr, .int p3, .ref q11, .ref q1, .ref q3, .ref q5, .ref q7, .ref q8, .ref q10, .int 0, .int 0, .int p2, .int (-1), .int 0, .int 0]))] H := hP
  have hD : va_D A [(h0, .inr (5, [.int p0, .int p1, .int p2, .int fr, .int p3, .ref q11, .ref q1, .ref q3, .ref q5, .ref q7, .ref q8, .ref q10, .int 0, .int 0, .int p2, .int (-1), .int 0, .int 0]))] := hD
  have hP9 := hP.sub (ws' := [(h0, .inr (5, [.int p0, .int p1, .int p2, .int fr, .int p3, .ref q11, .ref q1, .ref q3, .ref q5, .ref q7, .ref q8, .ref q10, .int 0, .int 0, .int p2, .int (-1), .int 0, .int 0]))]) [0] rfl
  have hD9 := hD.sub (ws' := [(h0, .inr (5, [.int p0, .int p1, .int p2, .int fr, .int p3, .ref q11, .ref q1, .ref q3, .ref q5, .ref q7, .ref q8, .ref q10, .int 0, .int 0, .int p2, .int (-1), .int 0, .int 0]))]) [0] (by decide) rfl
  have hK9 := hK.sub (tys' := []) [] rfl
  exact W.vret hx hb hr (fun t ht hW => ⟨⟨(), rfl, trivial, ⟨_, by rw [ht]; exact hP9, va_K.moved hW.alike hK9, hD9⟩⟩, hS.F ht⟩) hS.2.2 dX4_init_136
end
section
def v_c_X10_find : List Cond := .code yX10_find cX10_find 2 (some (.object "ClaimBus$Node")) :: ([.fieldLink RX10 29 "ClaimBus" "nodeCount" "I"] ++ wsX100)
theorem in_c_X10_find_X10 : ∀ w ∈ wsX100, w ∈ v_c_X10_find := fun w h => List.mem_cons_of_mem _ (List.mem_append_right _ h)
set_option maxHeartbeats 4000000 in
set_option maxRecDepth 100000 in
/-- find: no node -/
theorem c_X10_find (l : Launch) (dC : Nat → ClassId) (dI : Nat → Nat → Nat) (h0 : Nat) (n0 : Nat) (st : Nat) (la : Nat) (tm : Int32) (p0 : Int32) (sz : Nat)  : Met l yX10_find v_c_X10_find ({ frames := 0, cells := 0, slots := 0, locals := 0 }) (va_Pc [.ref h0, .int p0] (fun U => U.heap.size = sz ∧ va_P (dC, dI) vwCl [(h0, .inr (11, [.ref n0, .ref st, .ref la, .int 0, .int tm, .int 0, .int (-1), .int 0]))] U.heap ∧ va_K (dC, dI) vwCl [] U ∧ va_D (fun _ => True) [(h0, .inr (11, [.ref n0, .ref st, .ref la, .int 0, .int tm, .int 0, .int (-1), .int 0]))] ∧ ev U)) (va_Qq (fun (r : Option Nat) (_ : Unit) => r = none) (fun (_ : Unit) (_ : State) => True) (va_A [] sz)) 0 0 (va_A [] sz) := by
  refine Met.ofW (cc := cX10_find) (maxL := 2) (ret := (some (.object "ClaimBus$Node"))) (by decide) rfl ?_
  intro p e s m args below meth c s₁ B hml hv
  obtain ⟨rfl, hsz, hP, hK, hD0, hE⟩ := hv
  have hx := B.exec
  have hb := B.bytes
  have hr := B.returns
  have hts := atoms_spec (ws := v_c_X10_find) B.pre
  have hown : s.vm.findClass RX10 = some m.cls := findClass_of_methodNamed B.named
  have hlocks := B.notSynchronized
  subst hsz
  have hD := hD0
  generalize hAe : va_A [] s.heap.size = A
  have hA : ∀ q : Nat, s.heap.size ≤ q → A q := fun q h => by rw [← hAe]; exact Or.inr h
  have hS : va_S A s.heap s.heap [] := va_S.rf
  have hP : va_P (dC, dI) vwCl [(h0, .inr (11, [.ref n0, .ref st, .ref la, .int 0, .int tm, .int 0, .int (-1), .int 0]))] s.heap := hP
  have hl := lv_entry ([.ref h0, .int p0]) (n := 2) (Nat.le_of_ble_eq_true rfl)
  rw [lg_entry_eq]
  generalize (lg_sl ([.ref h0, .int p0]) ++ List.replicate (2 - (lg_sl ([.ref h0, .int p0])).length) Slot.unset).toArray = ls at hl ⊢
  have hl : lv_has ls 2 [(0, .ref h0), (1, .int p0)] := hl
  obtain ⟨H, hH⟩ : ∃ z : Heap, z = s.heap := ⟨_, rfl⟩
  rw [← hH]
  have hS : va_S A s.heap H [] := by rw [hH]; exact va_S.rf
  have hP : va_P (dC, dI) vwCl [(h0, .inr (11, [.ref n0, .ref st, .ref la, .int 0, .int tm, .int 0, .int (-1), .int 0]))] H := by rw [hH]; exact hP
  clear hH
  refine lv_iload_n hx hb dX10_find_0 rfl (lv_at hl 1 rfl) ?_
  refine lv_if_lt (tgt := 27) hx hb dX10_find_1 (by decide) (fun c_1 => ?_) (fun c_1 => ?_)
  · refine lv_null hx hb dX10_find_27 ?_
    exact W.aret (v := .null) hx hb hr (Or.inl ⟨_, rfl⟩) (Or.inl rfl) (fun t ht hW => ⟨⟨none, (), rfl, rfl, trivial⟩, hS.F ht⟩) hS.2.2 dX10_find_28
  · refine lv_iload_n hx hb dX10_find_4 rfl (lv_at hl 1 rfl) ?_
    refine lv_aload_n hx hb dX10_find_5 rfl (lv_at hl 0 rfl) ?_
    refine va_get (D := (dC, dI)) (ci := 11) (v := .int 0) (C := RX10) (T := TX10) (N := 8) hx hb hts in_c_X10_find_X10 hown hK hP 0 rfl rfl 3 (by decide) (hts (.fieldLink RX10 29 "ClaimBus" "nodeCount" "I") (List.mem_of_getElem? (i := 1) rfl)) (fun _ h9 => h9) rfl dX10_find_6 ?_
    refine lv_icmp_ge (tgt := 27) hx hb dX10_find_9 (by decide) (fun c_2 => ?_) (fun c_2 => ?_)
    rotate_left
    · exact absurd (Int32.not_lt.mp c_1) c_2
    refine lv_null hx hb dX10_find_27 ?_
    exact W.aret (v := .null) hx hb hr (Or.inl ⟨_, rfl⟩) (Or.inl rfl) (fun t ht hW => ⟨⟨none, (), rfl, rfl, trivial⟩, hS.F ht⟩) hS.2.2 dX10_find_28

def v_c_X10_nameIsThere : List Cond := .code yX10_nameIsThere cX10_nameIsThere 5 (some .boolean) :: ([.fieldLink RX10 29 "ClaimBus" "nodeCount" "I"] ++ wsX100)
theorem in_c_X10_nameIsThere_X10 : ∀ w ∈ wsX100, w ∈ v_c_X10_nameIsThere := fun w h => List.mem_cons_of_mem _ (List.mem_append_right _ h)
set_option maxHeartbeats 4000000 in
set_option maxRecDepth 100000 in
theorem c_X10_nameIsThere (l : Launch) (dC : Nat → ClassId) (dI : Nat → Nat → Nat) (h0 : Nat) (n0 : Nat) (st : Nat) (la : Nat) (tm : Int32) (p0 : Int32) (p1 : Int32) (sz : Nat)  : Met l yX10_nameIsThere v_c_X10_nameIsThere ({ frames := 0, cells := 0, slots := 0, locals := 0 }) (va_Pc [.ref h0, .int p0, .int p1] (fun U => U.heap.size = sz ∧ va_P (dC, dI) vwCl [(h0, .inr (11, [.ref n0, .ref st, .ref la, .int 0, .int tm, .int 0, .int (-1), .int 0]))] U.heap ∧ va_K (dC, dI) vwCl [] U ∧ va_D (fun _ => True) [(h0, .inr (11, [.ref n0, .ref st, .ref la, .int 0, .int tm, .int 0, .int (-1), .int 0]))] ∧ ev U)) (va_Qi (fun (r : Int32) (_ : Unit) => r = 0) (fun (_ : Unit) (_ : State) => True) (va_A [] sz)) 0 0 (va_A [] sz) := by
  refine Met.ofW (cc := cX10_nameIsThere) (maxL := 5) (ret := (some .boolean)) (by decide) rfl ?_
  intro p e s m args below meth c s₁ B hml hv
  obtain ⟨rfl, hsz, hP, hK, hD0, hE⟩ := hv
  have hx := B.exec
  have hb := B.bytes
  have hr := B.returns
  have hts := atoms_spec (ws := v_c_X10_nameIsThere) B.pre
  have hown : s.vm.findClass RX10 = some m.cls := findClass_of_methodNamed B.named
  have hlocks := B.notSynchronized
  subst hsz
  have hD := hD0
  generalize hAe : va_A [] s.heap.size = A
  have hA : ∀ q : Nat, s.heap.size ≤ q → A q := fun q h => by rw [← hAe]; exact Or.inr h
  have hS : va_S A s.heap s.heap [] := va_S.rf
  have hP : va_P (dC, dI) vwCl [(h0, .inr (11, [.ref n0, .ref st, .ref la, .int 0, .int tm, .int 0, .int (-1), .int 0]))] s.heap := hP
  have hl := lv_entry ([.ref h0, .int p0, .int p1]) (n := 5) (Nat.le_of_ble_eq_true rfl)
  rw [lg_entry_eq]
  generalize (lg_sl ([.ref h0, .int p0, .int p1]) ++ List.replicate (5 - (lg_sl ([.ref h0, .int p0, .int p1])).length) Slot.unset).toArray = ls at hl ⊢
  have hl : lv_has ls 5 [(0, .ref h0), (1, .int p0), (2, .int p1)] := hl
  obtain ⟨H, hH⟩ : ∃ z : Heap, z = s.heap := ⟨_, rfl⟩
  rw [← hH]
  have hS : va_S A s.heap H [] := by rw [hH]; exact va_S.rf
  have hP : va_P (dC, dI) vwCl [(h0, .inr (11, [.ref n0, .ref st, .ref la, .int 0, .int tm, .int 0, .int (-1), .int 0]))] H := by rw [hH]; exact hP
  clear hH
  refine lv_iconst (v := 0) hx hb dX10_nameIsThere_0 (by decide) ?_
  refine lv_istore_n (lv' := [(3, .int 0), (0, .ref h0), (1, .int p0), (2, .int p1)]) hx hb dX10_nameIsThere_1 rfl hl (by decide) rfl (fun ls hl => ?_)
  refine lv_iload_n hx hb dX10_nameIsThere_2 rfl (lv_at hl 0 rfl) ?_
  refine lv_aload_n hx hb dX10_nameIsThere_3 rfl (lv_at hl 1 rfl) ?_
  refine va_get (D := (dC, dI)) (ci := 11) (v := .int 0) (C := RX10) (T := TX10) (N := 8) hx hb hts in_c_X10_nameIsThere_X10 hown hK hP 0 rfl rfl 3 (by decide) (hts (.fieldLink RX10 29 "ClaimBus" "nodeCount" "I") (List.mem_of_getElem? (i := 1) rfl)) (fun _ h9 => h9) rfl dX10_nameIsThere_4 ?_
  refine lv_icmp_ge (tgt := 48) hx hb dX10_nameIsThere_7 (by decide) (fun c_1 => ?_) (fun c_1 => ?_)
  rotate_left
  · exact absurd (by decide) c_1
  refine lv_iconst (v := 0) hx hb dX10_nameIsThere_48 (by decide) ?_
  exact W.zret (v := 0) hx hb hr (by decide) (fun t ht hW => ⟨⟨0, (), rfl, rfl, trivial⟩, hS.F ht⟩) hS.2.2 dX10_nameIsThere_49

def v_c_X10_start : List Cond := .code yX10_start cX10_start 3 (some .boolean) :: ([.code yX10_find cX10_find 2 (some (.object "ClaimBus$Node")), .fieldLink RX10 29 "ClaimBus" "nodeCount" "I", .initialized RX10, .methodLink RX10 53 yX10_find, .instanceMethod yX10_find, .selects RX10 yX10_find yX10_find] ++ wsX100)
theorem in_c_X10_start_X10 : ∀ w ∈ wsX100, w ∈ v_c_X10_start := fun w h => List.mem_cons_of_mem _ (List.mem_append_right _ h)
set_option maxRecDepth 20000 in
theorem g_c_X10_start_c_X10_find_53 : GoodIn v_c_X10_start (wsV RX10 53 RX10 yX10_find v_c_X10_find) := goodIn_r _ [4, 5, 6, 3, 1, 2, 7, 8, 9, 10, 11, 12, 13, 14] (by decide +kernel) (by decide +kernel)
set_option maxHeartbeats 4000000 in
set_option maxRecDepth 100000 in
theorem c_X10_start (l : Launch) (dC : Nat → ClassId) (dI : Nat → Nat → Nat) (h0 : Nat) (n0 : Nat) (st : Nat) (la : Nat) (tm : Int32) (p0 : Int32) (sz : Nat)  : Met l yX10_start v_c_X10_start ({ frames := 1, cells := 0, slots := 0, locals := 21 }) (va_Pc [.ref h0, .int p0] (fun U => U.heap.size = sz ∧ va_P (dC, dI) vwCl [(h0, .inr (11, [.ref n0, .ref st, .ref la, .int 0, .int tm, .int 0, .int (-1), .int 0]))] U.heap ∧ va_K (dC, dI) vwCl [] U ∧ va_D (fun _ => True) [(h0, .inr (11, [.ref n0, .ref st, .ref la, .int 0, .int tm, .int 0, .int (-1), .int 0]))] ∧ ev U)) (va_Qi (fun (r : Int32) (_ : Unit) => r = 0) (fun (_ : Unit) (_ : State) => True) (va_A [] sz)) 0 0 (va_A [] sz) := by
  refine Met.ofW (cc := cX10_start) (maxL := 3) (ret := (some .boolean)) (by decide) rfl ?_
  intro p e s m args below meth c s₁ B hml hv
  obtain ⟨rfl, hsz, hP, hK, hD0, hE⟩ := hv
  have hx := B.exec
  have hb := B.bytes
  have hr := B.returns
  have hts := atoms_spec (ws := v_c_X10_start) B.pre
  have hown : s.vm.findClass RX10 = some m.cls := findClass_of_methodNamed B.named
  have hlocks := B.notSynchronized
  subst hsz
  have hD := hD0
  generalize hAe : va_A [] s.heap.size = A
  have hA : ∀ q : Nat, s.heap.size ≤ q → A q := fun q h => by rw [← hAe]; exact Or.inr h
  have hS : va_S A s.heap s.heap [] := va_S.rf
  have hP : va_P (dC, dI) vwCl [(h0, .inr (11, [.ref n0, .ref st, .ref la, .int 0, .int tm, .int 0, .int (-1), .int 0]))] s.heap := hP
  have hl := lv_entry ([.ref h0, .int p0]) (n := 3) (Nat.le_of_ble_eq_true rfl)
  rw [lg_entry_eq]
  generalize (lg_sl ([.ref h0, .int p0]) ++ List.replicate (3 - (lg_sl ([.ref h0, .int p0])).length) Slot.unset).toArray = ls at hl ⊢
  have hl : lv_has ls 3 [(0, .ref h0), (1, .int p0)] := hl
  obtain ⟨H, hH⟩ : ∃ z : Heap, z = s.heap := ⟨_, rfl⟩
  rw [← hH]
  have hS : va_S A s.heap H [] := by rw [hH]; exact va_S.rf
  have hP : va_P (dC, dI) vwCl [(h0, .inr (11, [.ref n0, .ref st, .ref la, .int 0, .int tm, .int 0, .int (-1), .int 0]))] H := by rw [hH]; exact hP
  clear hH
  refine lv_aload_n hx hb dX10_start_0 rfl (lv_at hl 0 rfl) ?_
  refine lv_iload_n hx hb dX10_start_1 rfl (lv_at hl 1 rfl) ?_
  have hPc := hP.sub (ws' := [(h0, .inr (11, [.ref n0, .ref st, .ref la, .int 0, .int tm, .int 0, .int (-1), .int 0]))]) [0] rfl
  have hDc := hD.sub (ws' := [(h0, .inr (11, [.ref n0, .ref st, .ref la, .int 0, .int tm, .int 0, .int (-1), .int 0]))]) [0] (by decide) rfl
  have hKc := hK.sub (tys' := []) [] rfl
  have hFc := ro_free hS hA
  refine va_callq (va_runV (As := [.int p0]) (rest := []) ⟨hx, hb, hml, hown, hts⟩ (c_X10_find l dC dI (h0) (n0) (st) (la) (tm) (p0) H.size) (cwV 1 hts g_c_X10_start_c_X10_find_53 rfl rfl rfl (by decide +kernel) ⟨Nat.le_of_ble_eq_true rfl, Nat.le_of_ble_eq_true rfl⟩) ⟨fun a U g mk q => by obtain ⟨q0, q1, qP, qK, qD, qE⟩ := q; exact ⟨q0, q1, qP, va_K.moved (u := U) (U := U.calling g mk a) (Vm.Alike.refl U.vm) qK, qD, ev.same (u := U) (U := U.calling g mk a) rfl qE⟩, va_recv hKc hPc (ci := 11) (q0 := 0) rfl rfl, fun U hU hW => ⟨rfl, by rw [hU], by rw [hU]; exact hPc, va_K.moved hW.alike hKc, hDc.weaken (fun _ _ _ _ => trivial), hE.warm hW⟩⟩ rfl rfl hl.1 rfl (lv_room (Nat.le_of_ble_eq_true rfl)) dX10_start_2 ⟨Nat.le_of_ble_eq_true rfl, Nat.le_of_ble_eq_true rfl⟩) hS (fun q _ h => hFc q h) hFc (fun r_1 u t H1 locs ht hvm hw hB hz1 hk1 hS => ?_)
  clear hPc hDc hKc
  have hP := ro_keep hP hk1
  generalize H1 = H at hP hS ⊢
  have hP : va_P (dC, dI) vwCl [(h0, .inr (11, [.ref n0, .ref st, .ref la, .int 0, .int tm, .int 0, .int (-1), .int 0]))] H := hP
  obtain rfl : r_1 = none := hw
  refine W.eq (g2 := F0 m 5 ls [.null]) rfl ?_
  refine lv_astore_nN (lv' := [(2, .null), (0, .ref h0), (1, .int p0)]) hx hb dX10_start_5 rfl hl (by decide) rfl (fun ls hl => ?_)
  refine lv_aload_nN hx hb dX10_start_6 rfl (lv_at hl 0 rfl) ?_
  refine lv_ifnullN (tgt := 17) hx hb dX10_start_7 (by decide) ?_
  refine lv_iconst (v := 0) hx hb dX10_start_17 (by decide) ?_
  exact W.zret (v := 0) hx hb hr (by decide) (fun t ht hW => ⟨⟨0, (), rfl, rfl, trivial⟩, hS.F ht⟩) hS.2.2 dX10_start_18

def v_c_X10_stop : List Cond := .code yX10_stop cX10_stop 3 (some .boolean) :: ([.code yX10_find cX10_find 2 (some (.object "ClaimBus$Node")), .fieldLink RX10 29 "ClaimBus" "nodeCount" "I", .initialized RX10, .methodLink RX10 53 yX10_find, .instanceMethod yX10_find, .selects RX10 yX10_find yX10_find] ++ wsX100)
theorem in_c_X10_stop_X10 : ∀ w ∈ wsX100, w ∈ v_c_X10_stop := fun w h => List.mem_cons_of_mem _ (List.mem_append_right _ h)
set_option maxRecDepth 20000 in
theorem g_c_X10_stop_c_X10_find_53 : GoodIn v_c_X10_stop (wsV RX10 53 RX10 yX10_find v_c_X10_find) := goodIn_r _ [4, 5, 6, 3, 1, 2, 7, 8, 9, 10, 11, 12, 13, 14] (by decide +kernel) (by decide +kernel)
set_option maxHeartbeats 4000000 in
set_option maxRecDepth 100000 in
theorem c_X10_stop (l : Launch) (dC : Nat → ClassId) (dI : Nat → Nat → Nat) (h0 : Nat) (n0 : Nat) (st : Nat) (la : Nat) (tm : Int32) (p0 : Int32) (sz : Nat)  : Met l yX10_stop v_c_X10_stop ({ frames := 1, cells := 0, slots := 0, locals := 21 }) (va_Pc [.ref h0, .int p0] (fun U => U.heap.size = sz ∧ va_P (dC, dI) vwCl [(h0, .inr (11, [.ref n0, .ref st, .ref la, .int 0, .int tm, .int 0, .int (-1), .int 0]))] U.heap ∧ va_K (dC, dI) vwCl [] U ∧ va_D (fun _ => True) [(h0, .inr (11, [.ref n0, .ref st, .ref la, .int 0, .int tm, .int 0, .int (-1), .int 0]))] ∧ ev U)) (va_Qi (fun (r : Int32) (_ : Unit) => r = 0) (fun (_ : Unit) (_ : State) => True) (va_A [] sz)) 0 0 (va_A [] sz) := by
  refine Met.ofW (cc := cX10_stop) (maxL := 3) (ret := (some .boolean)) (by decide) rfl ?_
  intro p e s m args below meth c s₁ B hml hv
  obtain ⟨rfl, hsz, hP, hK, hD0, hE⟩ := hv
  have hx := B.exec
  have hb := B.bytes
  have hr := B.returns
  have hts := atoms_spec (ws := v_c_X10_stop) B.pre
  have hown : s.vm.findClass RX10 = some m.cls := findClass_of_methodNamed B.named
  have hlocks := B.notSynchronized
  subst hsz
  have hD := hD0
  generalize hAe : va_A [] s.heap.size = A
  have hA : ∀ q : Nat, s.heap.size ≤ q → A q := fun q h => by rw [← hAe]; exact Or.inr h
  have hS : va_S A s.heap s.heap [] := va_S.rf
  have hP : va_P (dC, dI) vwCl [(h0, .inr (11, [.ref n0, .ref st, .ref la, .int 0, .int tm, .int 0, .int (-1), .int 0]))] s.heap := hP
  have hl := lv_entry ([.ref h0, .int p0]) (n := 3) (Nat.le_of_ble_eq_true rfl)
  rw [lg_entry_eq]
  generalize (lg_sl ([.ref h0, .int p0]) ++ List.replicate (3 - (lg_sl ([.ref h0, .int p0])).length) Slot.unset).toArray = ls at hl ⊢
  have hl : lv_has ls 3 [(0, .ref h0), (1, .int p0)] := hl
  obtain ⟨H, hH⟩ : ∃ z : Heap, z = s.heap := ⟨_, rfl⟩
  rw [← hH]
  have hS : va_S A s.heap H [] := by rw [hH]; exact va_S.rf
  have hP : va_P (dC, dI) vwCl [(h0, .inr (11, [.ref n0, .ref st, .ref la, .int 0, .int tm, .int 0, .int (-1), .int 0]))] H := by rw [hH]; exact hP
  clear hH
  refine lv_aload_n hx hb dX10_stop_0 rfl (lv_at hl 0 rfl) ?_
  refine lv_iload_n hx hb dX10_stop_1 rfl (lv_at hl 1 rfl) ?_
  have hPc := hP.sub (ws' := [(h0, .inr (11, [.ref n0, .ref st, .ref la, .int 0, .int tm, .int 0, .int (-1), .int 0]))]) [0] rfl
  have hDc := hD.sub (ws' := [(h0, .inr (11, [.ref n0, .ref st, .ref la, .int 0, .int tm, .int 0, .int (-1), .int 0]))]) [0] (by decide) rfl
  have hKc := hK.sub (tys' := []) [] rfl
  have hFc := ro_free hS hA
  refine va_callq (va_runV (As := [.int p0]) (rest := []) ⟨hx, hb, hml, hown, hts⟩ (c_X10_find l dC dI (h0) (n0) (st) (la) (tm) (p0) H.size) (cwV 1 hts g_c_X10_stop_c_X10_find_53 rfl rfl rfl (by decide +kernel) ⟨Nat.le_of_ble_eq_true rfl, Nat.le_of_ble_eq_true rfl⟩) ⟨fun a U g mk q => by obtain ⟨q0, q1, qP, qK, qD, qE⟩ := q; exact ⟨q0, q1, qP, va_K.moved (u := U) (U := U.calling g mk a) (Vm.Alike.refl U.vm) qK, qD, ev.same (u := U) (U := U.calling g mk a) rfl qE⟩, va_recv hKc hPc (ci := 11) (q0 := 0) rfl rfl, fun U hU hW => ⟨rfl, by rw [hU], by rw [hU]; exact hPc, va_K.moved hW.alike hKc, hDc.weaken (fun _ _ _ _ => trivial), hE.warm hW⟩⟩ rfl rfl hl.1 rfl (lv_room (Nat.le_of_ble_eq_true rfl)) dX10_stop_2 ⟨Nat.le_of_ble_eq_true rfl, Nat.le_of_ble_eq_true rfl⟩) hS (fun q _ h => hFc q h) hFc (fun r_1 u t H1 locs ht hvm hw hB hz1 hk1 hS => ?_)
  clear hPc hDc hKc
  have hP := ro_keep hP hk1
  generalize H1 = H at hP hS ⊢
  have hP : va_P (dC, dI) vwCl [(h0, .inr (11, [.ref n0, .ref st, .ref la, .int 0, .int tm, .int 0, .int (-1), .int 0]))] H := hP
  obtain rfl : r_1 = none := hw
  refine W.eq (g2 := F0 m 5 ls [.null]) rfl ?_
  refine lv_astore_nN (lv' := [(2, .null), (0, .ref h0), (1, .int p0)]) hx hb dX10_stop_5 rfl hl (by decide) rfl (fun ls hl => ?_)
  refine lv_aload_nN hx hb dX10_stop_6 rfl (lv_at hl 0 rfl) ?_
  refine lv_ifnullN (tgt := 17) hx hb dX10_stop_7 (by decide) ?_
  refine lv_iconst (v := 0) hx hb dX10_stop_17 (by decide) ?_
  exact W.zret (v := 0) hx hb hr (by decide) (fun t ht hW => ⟨⟨0, (), rfl, rfl, trivial⟩, hS.F ht⟩) hS.2.2 dX10_stop_18

def v_c_X10_request : List Cond := .code yX10_request cX10_request 4 (some .boolean) :: ([.code yX10_find cX10_find 2 (some (.object "ClaimBus$Node")), .fieldLink RX10 29 "ClaimBus" "nodeCount" "I", .initialized RX10, .methodLink RX10 53 yX10_find, .instanceMethod yX10_find, .selects RX10 yX10_find yX10_find] ++ wsX100)
theorem in_c_X10_request_X10 : ∀ w ∈ wsX100, w ∈ v_c_X10_request := fun w h => List.mem_cons_of_mem _ (List.mem_append_right _ h)
set_option maxRecDepth 20000 in
theorem g_c_X10_request_c_X10_find_53 : GoodIn v_c_X10_request (wsV RX10 53 RX10 yX10_find v_c_X10_find) := goodIn_r _ [4, 5, 6, 3, 1, 2, 7, 8, 9, 10, 11, 12, 13, 14] (by decide +kernel) (by decide +kernel)
set_option maxHeartbeats 4000000 in
set_option maxRecDepth 100000 in
theorem c_X10_request (l : Launch) (dC : Nat → ClassId) (dI : Nat → Nat → Nat) (h0 : Nat) (n0 : Nat) (st : Nat) (la : Nat) (tm : Int32) (p0 : Int32) (p1 : Int32) (sz : Nat)  : Met l yX10_request v_c_X10_request ({ frames := 1, cells := 0, slots := 0, locals := 21 }) (va_Pc [.ref h0, .int p0, .int p1] (fun U => U.heap.size = sz ∧ va_P (dC, dI) vwCl [(h0, .inr (11, [.ref n0, .ref st, .ref la, .int 0, .int tm, .int 0, .int (-1), .int 0]))] U.heap ∧ va_K (dC, dI) vwCl [] U ∧ va_D (fun _ => True) [(h0, .inr (11, [.ref n0, .ref st, .ref la, .int 0, .int tm, .int 0, .int (-1), .int 0]))] ∧ ev U)) (va_Qi (fun (r : Int32) (_ : Unit) => r = 0) (fun (_ : Unit) (_ : State) => True) (va_A [] sz)) 0 0 (va_A [] sz) := by
  refine Met.ofW (cc := cX10_request) (maxL := 4) (ret := (some .boolean)) (by decide) rfl ?_
  intro p e s m args below meth c s₁ B hml hv
  obtain ⟨rfl, hsz, hP, hK, hD0, hE⟩ := hv
  have hx := B.exec
  have hb := B.bytes
  have hr := B.returns
  have hts := atoms_spec (ws := v_c_X10_request) B.pre
  have hown : s.vm.findClass RX10 = some m.cls := findClass_of_methodNamed B.named
  have hlocks := B.notSynchronized
  subst hsz
  have hD := hD0
  generalize hAe : va_A [] s.heap.size = A
  have hA : ∀ q : Nat, s.heap.size ≤ q → A q := fun q h => by rw [← hAe]; exact Or.inr h
  have hS : va_S A s.heap s.heap [] := va_S.rf
  have hP : va_P (dC, dI) vwCl [(h0, .inr (11, [.ref n0, .ref st, .ref la, .int 0, .int tm, .int 0, .int (-1), .int 0]))] s.heap := hP
  have hl := lv_entry ([.ref h0, .int p0, .int p1]) (n := 4) (Nat.le_of_ble_eq_true rfl)
  rw [lg_entry_eq]
  generalize (lg_sl ([.ref h0, .int p0, .int p1]) ++ List.replicate (4 - (lg_sl ([.ref h0, .int p0, .int p1])).length) Slot.unset).toArray = ls at hl ⊢
  have hl : lv_has ls 4 [(0, .ref h0), (1, .int p0), (2, .int p1)] := hl
  obtain ⟨H, hH⟩ : ∃ z : Heap, z = s.heap := ⟨_, rfl⟩
  rw [← hH]
  have hS : va_S A s.heap H [] := by rw [hH]; exact va_S.rf
  have hP : va_P (dC, dI) vwCl [(h0, .inr (11, [.ref n0, .ref st, .ref la, .int 0, .int tm, .int 0, .int (-1), .int 0]))] H := by rw [hH]; exact hP
  clear hH
  refine lv_aload_n hx hb dX10_request_0 rfl (lv_at hl 0 rfl) ?_
  refine lv_iload_n hx hb dX10_request_1 rfl (lv_at hl 1 rfl) ?_
  have hPc := hP.sub (ws' := [(h0, .inr (11, [.ref n0, .ref st, .ref la, .int 0, .int tm, .int 0, .int (-1), .int 0]))]) [0] rfl
  have hDc := hD.sub (ws' := [(h0, .inr (11, [.ref n0, .ref st, .ref la, .int 0, .int tm, .int 0, .int (-1), .int 0]))]) [0] (by decide) rfl
  have hKc := hK.sub (tys' := []) [] rfl
  have hFc := ro_free hS hA
  refine va_callq (va_runV (As := [.int p0]) (rest := []) ⟨hx, hb, hml, hown, hts⟩ (c_X10_find l dC dI (h0) (n0) (st) (la) (tm) (p0) H.size) (cwV 1 hts g_c_X10_request_c_X10_find_53 rfl rfl rfl (by decide +kernel) ⟨Nat.le_of_ble_eq_true rfl, Nat.le_of_ble_eq_true rfl⟩) ⟨fun a U g mk q => by obtain ⟨q0, q1, qP, qK, qD, qE⟩ := q; exact ⟨q0, q1, qP, va_K.moved (u := U) (U := U.calling g mk a) (Vm.Alike.refl U.vm) qK, qD, ev.same (u := U) (U := U.calling g mk a) rfl qE⟩, va_recv hKc hPc (ci := 11) (q0 := 0) rfl rfl, fun U hU hW => ⟨rfl, by rw [hU], by rw [hU]; exact hPc, va_K.moved hW.alike hKc, hDc.weaken (fun _ _ _ _ => trivial), hE.warm hW⟩⟩ rfl rfl hl.1 rfl (lv_room (Nat.le_of_ble_eq_true rfl)) dX10_request_2 ⟨Nat.le_of_ble_eq_true rfl, Nat.le_of_ble_eq_true rfl⟩) hS (fun q _ h => hFc q h) hFc (fun r_1 u t H1 locs ht hvm hw hB hz1 hk1 hS => ?_)
  clear hPc hDc hKc
  have hP := ro_keep hP hk1
  generalize H1 = H at hP hS ⊢
  have hP : va_P (dC, dI) vwCl [(h0, .inr (11, [.ref n0, .ref st, .ref la, .int 0, .int tm, .int 0, .int (-1), .int 0]))] H := hP
  obtain rfl : r_1 = none := hw
  refine W.eq (g2 := F0 m 5 ls [.null]) rfl ?_
  refine lv_astore_nN (lv' := [(3, .null), (0, .ref h0), (1, .int p0), (2, .int p1)]) hx hb dX10_request_5 rfl hl (by decide) rfl (fun ls hl => ?_)
  refine lv_aload_nN hx hb dX10_request_6 rfl (lv_at hl 0 rfl) ?_
  refine lv_ifnullN (tgt := 25) hx hb dX10_request_7 (by decide) ?_
  refine lv_iconst (v := 0) hx hb dX10_request_25 (by decide) ?_
  exact W.zret (v := 0) hx hb hr (by decide) (fun t ht hW => ⟨⟨0, (), rfl, rfl, trivial⟩, hS.F ht⟩) hS.2.2 dX10_request_26

def v_c_X10_send : List Cond := .code yX10_send cX10_send 7 (some .boolean) :: ([.code yX10_find cX10_find 2 (some (.object "ClaimBus$Node")), .fieldLink RX10 29 "ClaimBus" "nodeCount" "I", .initialized RX10, .methodLink RX10 53 yX10_find, .instanceMethod yX10_find, .selects RX10 yX10_find yX10_find] ++ wsX100)
theorem in_c_X10_send_X10 : ∀ w ∈ wsX100, w ∈ v_c_X10_send := fun w h => List.mem_cons_of_mem _ (List.mem_append_right _ h)
set_option maxRecDepth 20000 in
theorem g_c_X10_send_c_X10_find_53 : GoodIn v_c_X10_send (wsV RX10 53 RX10 yX10_find v_c_X10_find) := goodIn_r _ [4, 5, 6, 3, 1, 2, 7, 8, 9, 10, 11, 12, 13, 14] (by decide +kernel) (by decide +kernel)
set_option maxHeartbeats 4000000 in
set_option maxRecDepth 100000 in
theorem c_X10_send (l : Launch) (dC : Nat → ClassId) (dI : Nat → Nat → Nat) (h0 : Nat) (n0 : Nat) (st : Nat) (la : Nat) (tm : Int32) (p0 : Int32) (p1 : Int32) (p2 : Int32) (p3 : Int32) (p4 : Int32) (sz : Nat)  : Met l yX10_send v_c_X10_send ({ frames := 1, cells := 0, slots := 0, locals := 21 }) (va_Pc [.ref h0, .int p0, .int p1, .int p2, .int p3, .int p4] (fun U => U.heap.size = sz ∧ va_P (dC, dI) vwCl [(h0, .inr (11, [.ref n0, .ref st, .ref la, .int 0, .int tm, .int 0, .int (-1), .int 0]))] U.heap ∧ va_K (dC, dI) vwCl [] U ∧ va_D (fun _ => True) [(h0, .inr (11, [.ref n0, .ref st, .ref la, .int 0, .int tm, .int 0, .int (-1), .int 0]))] ∧ ev U)) (va_Qi (fun (r : Int32) (_ : Unit) => r = 0) (fun (_ : Unit) (_ : State) => True) (va_A [] sz)) 0 0 (va_A [] sz) := by
  refine Met.ofW (cc := cX10_send) (maxL := 7) (ret := (some .boolean)) (by decide) rfl ?_
  intro p e s m args below meth c s₁ B hml hv
  obtain ⟨rfl, hsz, hP, hK, hD0, hE⟩ := hv
  have hx := B.exec
  have hb := B.bytes
  have hr := B.returns
  have hts := atoms_spec (ws := v_c_X10_send) B.pre
  have hown : s.vm.findClass RX10 = some m.cls := findClass_of_methodNamed B.named
  have hlocks := B.notSynchronized
  subst hsz
  have hD := hD0
  generalize hAe : va_A [] s.heap.size = A
  have hA : ∀ q : Nat, s.heap.size ≤ q → A q := fun q h => by rw [← hAe]; exact Or.inr h
  have hS : va_S A s.heap s.heap [] := va_S.rf
  have hP : va_P (dC, dI) vwCl [(h0, .inr (11, [.ref n0, .ref st, .ref la, .int 0, .int tm, .int 0, .int (-1), .int 0]))] s.heap := hP
  have hl := lv_entry ([.ref h0, .int p0, .int p1, .int p2, .int p3, .int p4]) (n := 7) (Nat.le_of_ble_eq_true rfl)
  rw [lg_entry_eq]
  generalize (lg_sl ([.ref h0, .int p0, .int p1, .int p2, .int p3, .int p4]) ++ List.replicate (7 - (lg_sl ([.ref h0, .int p0, .int p1, .int p2, .int p3, .int p4])).length) Slot.unset).toArray = ls at hl ⊢
  have hl : lv_has ls 7 [(0, .ref h0), (1, .int p0), (2, .int p1), (3, .int p2), (4, .int p3), (5, .int p4)] := hl
  obtain ⟨H, hH⟩ : ∃ z : Heap, z = s.heap := ⟨_, rfl⟩
  rw [← hH]
  have hS : va_S A s.heap H [] := by rw [hH]; exact va_S.rf
  have hP : va_P (dC, dI) vwCl [(h0, .inr (11, [.ref n0, .ref st, .ref la, .int 0, .int tm, .int 0, .int (-1), .int 0]))] H := by rw [hH]; exact hP
  clear hH
  refine lv_aload_n hx hb dX10_send_0 rfl (lv_at hl 0 rfl) ?_
  refine lv_iload_n hx hb dX10_send_1 rfl (lv_at hl 1 rfl) ?_
  have hPc := hP.sub (ws' := [(h0, .inr (11, [.ref n0, .ref st, .ref la, .int 0, .int tm, .int 0, .int (-1), .int 0]))]) [0] rfl
  have hDc := hD.sub (ws' := [(h0, .inr (11, [.ref n0, .ref st, .ref la, .int 0, .int tm, .int 0, .int (-1), .int 0]))]) [0] (by decide) rfl
  have hKc := hK.sub (tys' := []) [] rfl
  have hFc := ro_free hS hA
  refine va_callq (va_runV (As := [.int p0]) (rest := []) ⟨hx, hb, hml, hown, hts⟩ (c_X10_find l dC dI (h0) (n0) (st) (la) (tm) (p0) H.size) (cwV 1 hts g_c_X10_send_c_X10_find_53 rfl rfl rfl (by decide +kernel) ⟨Nat.le_of_ble_eq_true rfl, Nat.le_of_ble_eq_true rfl⟩) ⟨fun a U g mk q => by obtain ⟨q0, q1, qP, qK, qD, qE⟩ := q; exact ⟨q0, q1, qP, va_K.moved (u := U) (U := U.calling g mk a) (Vm.Alike.refl U.vm) qK, qD, ev.same (u := U) (U := U.calling g mk a) rfl qE⟩, va_recv hKc hPc (ci := 11) (q0 := 0) rfl rfl, fun U hU hW => ⟨rfl, by rw [hU], by rw [hU]; exact hPc, va_K.moved hW.alike hKc, hDc.weaken (fun _ _ _ _ => trivial), hE.warm hW⟩⟩ rfl rfl hl.1 rfl (lv_room (Nat.le_of_ble_eq_true rfl)) dX10_send_2 ⟨Nat.le_of_ble_eq_true rfl, Nat.le_of_ble_eq_true rfl⟩) hS (fun q _ h => hFc q h) hFc (fun r_1 u t H1 locs ht hvm hw hB hz1 hk1 hS => ?_)
  clear hPc hDc hKc
  have hP := ro_keep hP hk1
  generalize H1 = H at hP hS ⊢
  have hP : va_P (dC, dI) vwCl [(h0, .inr (11, [.ref n0, .ref st, .ref la, .int 0, .int tm, .int 0, .int (-1), .int 0]))] H := hP
  obtain rfl : r_1 = none := hw
  refine W.eq (g2 := F0 m 5 ls [.null]) rfl ?_
  refine lv_astoreN (lv' := [(6, .null), (0, .ref h0), (1, .int p0), (2, .int p1), (3, .int p2), (4, .int p3), (5, .int p4)]) hx hb dX10_send_5 hl (by decide) rfl (fun ls hl => ?_)
  refine lv_aloadN hx hb dX10_send_7 (lv_at hl 0 rfl) ?_
  refine lv_ifnullN (tgt := 30) hx hb dX10_send_9 (by decide) ?_
  refine lv_iconst (v := 0) hx hb dX10_send_30 (by decide) ?_
  exact W.zret (v := 0) hx hb hr (by decide) (fun t ht hW => ⟨⟨0, (), rfl, rfl, trivial⟩, hS.F ht⟩) hS.2.2 dX10_send_31

def v_c_X10_trouble : List Cond := .code yX10_trouble cX10_trouble 6 (some .int) :: ([.code yX10_find cX10_find 2 (some (.object "ClaimBus$Node")), .fieldLink RX10 29 "ClaimBus" "nodeCount" "I", .initialized RX10, .methodLink RX10 53 yX10_find, .instanceMethod yX10_find, .selects RX10 yX10_find yX10_find] ++ wsX100)
theorem in_c_X10_trouble_X10 : ∀ w ∈ wsX100, w ∈ v_c_X10_trouble := fun w h => List.mem_cons_of_mem _ (List.mem_append_right _ h)
set_option maxRecDepth 20000 in
theorem g_c_X10_trouble_c_X10_find_53 : GoodIn v_c_X10_trouble (wsV RX10 53 RX10 yX10_find v_c_X10_find) := goodIn_r _ [4, 5, 6, 3, 1, 2, 7, 8, 9, 10, 11, 12, 13, 14] (by decide +kernel) (by decide +kernel)
set_option maxHeartbeats 4000000 in
set_option maxRecDepth 100000 in
theorem c_X10_trouble (l : Launch) (dC : Nat → ClassId) (dI : Nat → Nat → Nat) (h0 : Nat) (n0 : Nat) (st : Nat) (la : Nat) (tm : Int32) (p0 : Int32) (p1 : Int32) (p2 : Int32) (p3 : Int32) (sz : Nat)  : Met l yX10_trouble v_c_X10_trouble ({ frames := 1, cells := 0, slots := 0, locals := 21 }) (va_Pc [.ref h0, .int p0, .int p1, .int p2, .int p3] (fun U => U.heap.size = sz ∧ va_P (dC, dI) vwCl [(h0, .inr (11, [.ref n0, .ref st, .ref la, .int 0, .int tm, .int 0, .int (-1), .int 0]))] U.heap ∧ va_K (dC, dI) vwCl [] U ∧ va_D (fun _ => True) [(h0, .inr (11, [.ref n0, .ref st, .ref la, .int 0, .int tm, .int 0, .int (-1), .int 0]))] ∧ ev U)) (va_Qi (fun (r : Int32) (_ : Unit) => r = (-1)) (fun (_ : Unit) (_ : State) => True) (va_A [] sz)) 0 0 (va_A [] sz) := by
  refine Met.ofW (cc := cX10_trouble) (maxL := 6) (ret := (some .int)) (by decide) rfl ?_
  intro p e s m args below meth c s₁ B hml hv
  obtain ⟨rfl, hsz, hP, hK, hD0, hE⟩ := hv
  have hx := B.exec
  have hb := B.bytes
  have hr := B.returns
  have hts := atoms_spec (ws := v_c_X10_trouble) B.pre
  have hown : s.vm.findClass RX10 = some m.cls := findClass_of_methodNamed B.named
  have hlocks := B.notSynchronized
  subst hsz
  have hD := hD0
  generalize hAe : va_A [] s.heap.size = A
  have hA : ∀ q : Nat, s.heap.size ≤ q → A q := fun q h => by rw [← hAe]; exact Or.inr h
  have hS : va_S A s.heap s.heap [] := va_S.rf
  have hP : va_P (dC, dI) vwCl [(h0, .inr (11, [.ref n0, .ref st, .ref la, .int 0, .int tm, .int 0, .int (-1), .int 0]))] s.heap := hP
  have hl := lv_entry ([.ref h0, .int p0, .int p1, .int p2, .int p3]) (n := 6) (Nat.le_of_ble_eq_true rfl)
  rw [lg_entry_eq]
  generalize (lg_sl ([.ref h0, .int p0, .int p1, .int p2, .int p3]) ++ List.replicate (6 - (lg_sl ([.ref h0, .int p0, .int p1, .int p2, .int p3])).length) Slot.unset).toArray = ls at hl ⊢
  have hl : lv_has ls 6 [(0, .ref h0), (1, .int p0), (2, .int p1), (3, .int p2), (4, .int p3)] := hl
  obtain ⟨H, hH⟩ : ∃ z : Heap, z = s.heap := ⟨_, rfl⟩
  rw [← hH]
  have hS : va_S A s.heap H [] := by rw [hH]; exact va_S.rf
  have hP : va_P (dC, dI) vwCl [(h0, .inr (11, [.ref n0, .ref st, .ref la, .int 0, .int tm, .int 0, .int (-1), .int 0]))] H := by rw [hH]; exact hP
  clear hH
  refine lv_aload_n hx hb dX10_trouble_0 rfl (lv_at hl 0 rfl) ?_
  refine lv_iload_n hx hb dX10_trouble_1 rfl (lv_at hl 1 rfl) ?_
  have hPc := hP.sub (ws' := [(h0, .inr (11, [.ref n0, .ref st, .ref la, .int 0, .int tm, .int 0, .int (-1), .int 0]))]) [0] rfl
  have hDc := hD.sub (ws' := [(h0, .inr (11, [.ref n0, .ref st, .ref la, .int 0, .int tm, .int 0, .int (-1), .int 0]))]) [0] (by decide) rfl
  have hKc := hK.sub (tys' := []) [] rfl
  have hFc := ro_free hS hA
  refine va_callq (va_runV (As := [.int p0]) (rest := []) ⟨hx, hb, hml, hown, hts⟩ (c_X10_find l dC dI (h0) (n0) (st) (la) (tm) (p0) H.size) (cwV 1 hts g_c_X10_trouble_c_X10_find_53 rfl rfl rfl (by decide +kernel) ⟨Nat.le_of_ble_eq_true rfl, Nat.le_of_ble_eq_true rfl⟩) ⟨fun a U g mk q => by obtain ⟨q0, q1, qP, qK, qD, qE⟩ := q; exact ⟨q0, q1, qP, va_K.moved (u := U) (U := U.calling g mk a) (Vm.Alike.refl U.vm) qK, qD, ev.same (u := U) (U := U.calling g mk a) rfl qE⟩, va_recv hKc hPc (ci := 11) (q0 := 0) rfl rfl, fun U hU hW => ⟨rfl, by rw [hU], by rw [hU]; exact hPc, va_K.moved hW.alike hKc, hDc.weaken (fun _ _ _ _ => trivial), hE.warm hW⟩⟩ rfl rfl hl.1 rfl (lv_room (Nat.le_of_ble_eq_true rfl)) dX10_trouble_2 ⟨Nat.le_of_ble_eq_true rfl, Nat.le_of_ble_eq_true rfl⟩) hS (fun q _ h => hFc q h) hFc (fun r_1 u t H1 locs ht hvm hw hB hz1 hk1 hS => ?_)
  clear hPc hDc hKc
  have hP := ro_keep hP hk1
  generalize H1 = H at hP hS ⊢
  have hP : va_P (dC, dI) vwCl [(h0, .inr (11, [.ref n0, .ref st, .ref la, .int 0, .int tm, .int 0, .int (-1), .int 0]))] H := hP
  obtain rfl : r_1 = none := hw
  refine W.eq (g2 := F0 m 5 ls [.null]) rfl ?_
  refine lv_astoreN (lv' := [(5, .null), (0, .ref h0), (1, .int p0), (2, .int p1), (3, .int p2), (4, .int p3)]) hx hb dX10_trouble_5 hl (by decide) rfl (fun ls hl => ?_)
  refine lv_aloadN hx hb dX10_trouble_7 (lv_at hl 0 rfl) ?_
  refine lv_ifnullN (tgt := 22) hx hb dX10_trouble_9 (by decide) ?_
  refine lv_iconst (v := -1) hx hb dX10_trouble_22 (by decide) ?_
  exact W.iret (v := (-1)) hx hb hr (fun t ht hW => ⟨⟨(-1), (), rfl, rfl, trivial⟩, hS.F ht⟩) hS.2.2 dX10_trouble_23

def v_c_X10_tell : List Cond := .code yX10_tell cX10_tell 3 (some .boolean) :: ([.code yX10_find cX10_find 2 (some (.object "ClaimBus$Node")), .fieldLink RX10 29 "ClaimBus" "nodeCount" "I", .initialized RX10, .methodLink RX10 53 yX10_find, .instanceMethod yX10_find, .selects RX10 yX10_find yX10_find] ++ wsX100)
theorem in_c_X10_tell_X10 : ∀ w ∈ wsX100, w ∈ v_c_X10_tell := fun w h => List.mem_cons_of_mem _ (List.mem_append_right _ h)
set_option maxRecDepth 20000 in
theorem g_c_X10_tell_c_X10_find_53 : GoodIn v_c_X10_tell (wsV RX10 53 RX10 yX10_find v_c_X10_find) := goodIn_r _ [4, 5, 6, 3, 1, 2, 7, 8, 9, 10, 11, 12, 13, 14] (by decide +kernel) (by decide +kernel)
set_option maxHeartbeats 4000000 in
set_option maxRecDepth 100000 in
theorem c_X10_tell (l : Launch) (dC : Nat → ClassId) (dI : Nat → Nat → Nat) (h0 : Nat) (n0 : Nat) (st : Nat) (la : Nat) (tm : Int32) (p0 : Int32) (sz : Nat)  : Met l yX10_tell v_c_X10_tell ({ frames := 1, cells := 0, slots := 0, locals := 21 }) (va_Pc [.ref h0, .int p0] (fun U => U.heap.size = sz ∧ va_P (dC, dI) vwCl [(h0, .inr (11, [.ref n0, .ref st, .ref la, .int 0, .int tm, .int 0, .int (-1), .int 0]))] U.heap ∧ va_K (dC, dI) vwCl [] U ∧ va_D (fun _ => True) [(h0, .inr (11, [.ref n0, .ref st, .ref la, .int 0, .int tm, .int 0, .int (-1), .int 0]))] ∧ ev U)) (va_Qi (fun (r : Int32) (_ : Unit) => r = 0) (fun (_ : Unit) (_ : State) => True) (va_A [] sz)) 0 0 (va_A [] sz) := by
  refine Met.ofW (cc := cX10_tell) (maxL := 3) (ret := (some .boolean)) (by decide) rfl ?_
  intro p e s m args below meth c s₁ B hml hv
  obtain ⟨rfl, hsz, hP, hK, hD0, hE⟩ := hv
  have hx := B.exec
  have hb := B.bytes
  have hr := B.returns
  have hts := atoms_spec (ws := v_c_X10_tell) B.pre
  have hown : s.vm.findClass RX10 = some m.cls := findClass_of_methodNamed B.named
  have hlocks := B.notSynchronized
  subst hsz
  have hD := hD0
  generalize hAe : va_A [] s.heap.size = A
  have hA : ∀ q : Nat, s.heap.size ≤ q → A q := fun q h => by rw [← hAe]; exact Or.inr h
  have hS : va_S A s.heap s.heap [] := va_S.rf
  have hP : va_P (dC, dI) vwCl [(h0, .inr (11, [.ref n0, .ref st, .ref la, .int 0, .int tm, .int 0, .int (-1), .int 0]))] s.heap := hP
  have hl := lv_entry ([.ref h0, .int p0]) (n := 3) (Nat.le_of_ble_eq_true rfl)
  rw [lg_entry_eq]
  generalize (lg_sl ([.ref h0, .int p0]) ++ List.replicate (3 - (lg_sl ([.ref h0, .int p0])).length) Slot.unset).toArray = ls at hl ⊢
  have hl : lv_has ls 3 [(0, .ref h0), (1, .int p0)] := hl
  obtain ⟨H, hH⟩ : ∃ z : Heap, z = s.heap := ⟨_, rfl⟩
  rw [← hH]
  have hS : va_S A s.heap H [] := by rw [hH]; exact va_S.rf
  have hP : va_P (dC, dI) vwCl [(h0, .inr (11, [.ref n0, .ref st, .ref la, .int 0, .int tm, .int 0, .int (-1), .int 0]))] H := by rw [hH]; exact hP
  clear hH
  refine lv_aload_n hx hb dX10_tell_0 rfl (lv_at hl 0 rfl) ?_
  refine lv_iload_n hx hb dX10_tell_1 rfl (lv_at hl 1 rfl) ?_
  have hPc := hP.sub (ws' := [(h0, .inr (11, [.ref n0, .ref st, .ref la, .int 0, .int tm, .int 0, .int (-1), .int 0]))]) [0] rfl
  have hDc := hD.sub (ws' := [(h0, .inr (11, [.ref n0, .ref st, .ref la, .int 0, .int tm, .int 0, .int (-1), .int 0]))]) [0] (by decide) rfl
  have hKc := hK.sub (tys' := []) [] rfl
  have hFc := ro_free hS hA
  refine va_callq (va_runV (As := [.int p0]) (rest := []) ⟨hx, hb, hml, hown, hts⟩ (c_X10_find l dC dI (h0) (n0) (st) (la) (tm) (p0) H.size) (cwV 1 hts g_c_X10_tell_c_X10_find_53 rfl rfl rfl (by decide +kernel) ⟨Nat.le_of_ble_eq_true rfl, Nat.le_of_ble_eq_true rfl⟩) ⟨fun a U g mk q => by obtain ⟨q0, q1, qP, qK, qD, qE⟩ := q; exact ⟨q0, q1, qP, va_K.moved (u := U) (U := U.calling g mk a) (Vm.Alike.refl U.vm) qK, qD, ev.same (u := U) (U := U.calling g mk a) rfl qE⟩, va_recv hKc hPc (ci := 11) (q0 := 0) rfl rfl, fun U hU hW => ⟨rfl, by rw [hU], by rw [hU]; exact hPc, va_K.moved hW.alike hKc, hDc.weaken (fun _ _ _ _ => trivial), hE.warm hW⟩⟩ rfl rfl hl.1 rfl (lv_room (Nat.le_of_ble_eq_true rfl)) dX10_tell_2 ⟨Nat.le_of_ble_eq_true rfl, Nat.le_of_ble_eq_true rfl⟩) hS (fun q _ h => hFc q h) hFc (fun r_1 u t H1 locs ht hvm hw hB hz1 hk1 hS => ?_)
  clear hPc hDc hKc
  have hP := ro_keep hP hk1
  generalize H1 = H at hP hS ⊢
  have hP : va_P (dC, dI) vwCl [(h0, .inr (11, [.ref n0, .ref st, .ref la, .int 0, .int tm, .int 0, .int (-1), .int 0]))] H := hP
  obtain rfl : r_1 = none := hw
  refine W.eq (g2 := F0 m 5 ls [.null]) rfl ?_
  refine lv_astore_nN (lv' := [(2, .null), (0, .ref h0), (1, .int p0)]) hx hb dX10_tell_5 rfl hl (by decide) rfl (fun ls hl => ?_)
  refine lv_aload_nN hx hb dX10_tell_6 rfl (lv_at hl 0 rfl) ?_
  refine lv_ifnullN (tgt := 17) hx hb dX10_tell_7 (by decide) ?_
  refine lv_iconst (v := 0) hx hb dX10_tell_17 (by decide) ?_
  exact W.zret (v := 0) hx hb hr (by decide) (fun t ht hW => ⟨⟨0, (), rfl, rfl, trivial⟩, hS.F ht⟩) hS.2.2 dX10_tell_18

def v_c_X10_lose : List Cond := .code yX10_lose cX10_lose 4 (some .boolean) :: ([.code yX10_find cX10_find 2 (some (.object "ClaimBus$Node")), .fieldLink RX10 29 "ClaimBus" "nodeCount" "I", .initialized RX10, .methodLink RX10 53 yX10_find, .instanceMethod yX10_find, .selects RX10 yX10_find yX10_find] ++ wsX100)
theorem in_c_X10_lose_X10 : ∀ w ∈ wsX100, w ∈ v_c_X10_lose := fun w h => List.mem_cons_of_mem _ (List.mem_append_right _ h)
set_option maxRecDepth 20000 in
theorem g_c_X10_lose_c_X10_find_53 : GoodIn v_c_X10_lose (wsV RX10 53 RX10 yX10_find v_c_X10_find) := goodIn_r _ [4, 5, 6, 3, 1, 2, 7, 8, 9, 10, 11, 12, 13, 14] (by decide +kernel) (by decide +kernel)
set_option maxHeartbeats 4000000 in
set_option maxRecDepth 100000 in
theorem c_X10_lose (l : Launch) (dC : Nat → ClassId) (dI : Nat → Nat → Nat) (h0 : Nat) (n0 : Nat) (st : Nat) (la : Nat) (tm : Int32) (p0 : Int32) (p1 : Int32) (sz : Nat)  : Met l yX10_lose v_c_X10_lose ({ frames := 1, cells := 0, slots := 0, locals := 21 }) (va_Pc [.ref h0, .int p0, .int p1] (fun U => U.heap.size = sz ∧ va_P (dC, dI) vwCl [(h0, .inr (11, [.ref n0, .ref st, .ref la, .int 0, .int tm, .int 0, .int (-1), .int 0]))] U.heap ∧ va_K (dC, dI) vwCl [] U ∧ va_D (fun _ => True) [(h0, .inr (11, [.ref n0, .ref st, .ref la, .int 0, .int tm, .int 0, .int (-1), .int 0]))] ∧ ev U)) (va_Qi (fun (r : Int32) (_ : Unit) => r = 0) (fun (_ : Unit) (_ : State) => True) (va_A [] sz)) 0 0 (va_A [] sz) := by
  refine Met.ofW (cc := cX10_lose) (maxL := 4) (ret := (some .boolean)) (by decide) rfl ?_
  intro p e s m args below meth c s₁ B hml hv
  obtain ⟨rfl, hsz, hP, hK, hD0, hE⟩ := hv
  have hx := B.exec
  have hb := B.bytes
  have hr := B.returns
  have hts := atoms_spec (ws := v_c_X10_lose) B.pre
  have hown : s.vm.findClass RX10 = some m.cls := findClass_of_methodNamed B.named
  have hlocks := B.notSynchronized
  subst hsz
  have hD := hD0
  generalize hAe : va_A [] s.heap.size = A
  have hA : ∀ q : Nat, s.heap.size ≤ q → A q := fun q h => by rw [← hAe]; exact Or.inr h
  have hS : va_S A s.heap s.heap [] := va_S.rf
  have hP : va_P (dC, dI) vwCl [(h0, .inr (11, [.ref n0, .ref st, .ref la, .int 0, .int tm, .int 0, .int (-1), .int 0]))] s.heap := hP
  have hl := lv_entry ([.ref h0, .int p0, .int p1]) (n := 4) (Nat.le_of_ble_eq_true rfl)
  rw [lg_entry_eq]
  generalize (lg_sl ([.ref h0, .int p0, .int p1]) ++ List.replicate (4 - (lg_sl ([.ref h0, .int p0, .int p1])).length) Slot.unset).toArray = ls at hl ⊢
  have hl : lv_has ls 4 [(0, .ref h0), (1, .int p0), (2, .int p1)] := hl
  obtain ⟨H, hH⟩ : ∃ z : Heap, z = s.heap := ⟨_, rfl⟩
  rw [← hH]
  have hS : va_S A s.heap H [] := by rw [hH]; exact va_S.rf
  have hP : va_P (dC, dI) vwCl [(h0, .inr (11, [.ref n0, .ref st, .ref la, .int 0, .int tm, .int 0, .int (-1), .int 0]))] H := by rw [hH]; exact hP
  clear hH
  refine lv_aload_n hx hb dX10_lose_0 rfl (lv_at hl 0 rfl) ?_
  refine lv_iload_n hx hb dX10_lose_1 rfl (lv_at hl 1 rfl) ?_
  have hPc := hP.sub (ws' := [(h0, .inr (11, [.ref n0, .ref st, .ref la, .int 0, .int tm, .int 0, .int (-1), .int 0]))]) [0] rfl
  have hDc := hD.sub (ws' := [(h0, .inr (11, [.ref n0, .ref st, .ref la, .int 0, .int tm, .int 0, .int (-1), .int 0]))]) [0] (by decide) rfl
  have hKc := hK.sub (tys' := []) [] rfl
  have hFc := ro_free hS hA
  refine va_callq (va_runV (As := [.int p0]) (rest := []) ⟨hx, hb, hml, hown, hts⟩ (c_X10_find l dC dI (h0) (n0) (st) (la) (tm) (p0) H.size) (cwV 1 hts g_c_X10_lose_c_X10_find_53 rfl rfl rfl (by decide +kernel) ⟨Nat.le_of_ble_eq_true rfl, Nat.le_of_ble_eq_true rfl⟩) ⟨fun a U g mk q => by obtain ⟨q0, q1, qP, qK, qD, qE⟩ := q; exact ⟨q0, q1, qP, va_K.moved (u := U) (U := U.calling g mk a) (Vm.Alike.refl U.vm) qK, qD, ev.same (u := U) (U := U.calling g mk a) rfl qE⟩, va_recv hKc hPc (ci := 11) (q0 := 0) rfl rfl, fun U hU hW => ⟨rfl, by rw [hU], by rw [hU]; exact hPc, va_K.moved hW.alike hKc, hDc.weaken (fun _ _ _ _ => trivial), hE.warm hW⟩⟩ rfl rfl hl.1 rfl (lv_room (Nat.le_of_ble_eq_true rfl)) dX10_lose_2 ⟨Nat.le_of_ble_eq_true rfl, Nat.le_of_ble_eq_true rfl⟩) hS (fun q _ h => hFc q h) hFc (fun r_1 u t H1 locs ht hvm hw hB hz1 hk1 hS => ?_)
  clear hPc hDc hKc
  have hP := ro_keep hP hk1
  generalize H1 = H at hP hS ⊢
  have hP : va_P (dC, dI) vwCl [(h0, .inr (11, [.ref n0, .ref st, .ref la, .int 0, .int tm, .int 0, .int (-1), .int 0]))] H := hP
  obtain rfl : r_1 = none := hw
  refine W.eq (g2 := F0 m 5 ls [.null]) rfl ?_
  refine lv_astore_nN (lv' := [(3, .null), (0, .ref h0), (1, .int p0), (2, .int p1)]) hx hb dX10_lose_5 rfl hl (by decide) rfl (fun ls hl => ?_)
  refine lv_aload_nN hx hb dX10_lose_6 rfl (lv_at hl 0 rfl) ?_
  refine lv_ifnullN (tgt := 20) hx hb dX10_lose_7 (by decide) ?_
  refine lv_iconst (v := 0) hx hb dX10_lose_20 (by decide) ?_
  exact W.zret (v := 0) hx hb hr (by decide) (fun t ht hW => ⟨⟨0, (), rfl, rfl, trivial⟩, hS.F ht⟩) hS.2.2 dX10_lose_21

def v_c_X10_told : List Cond := .code yX10_told cX10_told 4 (some .int) :: ([.code yX10_find cX10_find 2 (some (.object "ClaimBus$Node")), .fieldLink RX10 29 "ClaimBus" "nodeCount" "I", .initialized RX10, .methodLink RX10 53 yX10_find, .instanceMethod yX10_find, .selects RX10 yX10_find yX10_find] ++ wsX100)
theorem in_c_X10_told_X10 : ∀ w ∈ wsX100, w ∈ v_c_X10_told := fun w h => List.mem_cons_of_mem _ (List.mem_append_right _ h)
set_option maxRecDepth 20000 in
theorem g_c_X10_told_c_X10_find_53 : GoodIn v_c_X10_told (wsV RX10 53 RX10 yX10_find v_c_X10_find) := goodIn_r _ [4, 5, 6, 3, 1, 2, 7, 8, 9, 10, 11, 12, 13, 14] (by decide +kernel) (by decide +kernel)
set_option maxHeartbeats 4000000 in
set_option maxRecDepth 100000 in
theorem c_X10_told (l : Launch) (dC : Nat → ClassId) (dI : Nat → Nat → Nat) (h0 : Nat) (n0 : Nat) (st : Nat) (la : Nat) (tm : Int32) (p0 : Int32) (p1 : Int32) (sz : Nat)  : Met l yX10_told v_c_X10_told ({ frames := 1, cells := 0, slots := 0, locals := 21 }) (va_Pc [.ref h0, .int p0, .int p1] (fun U => U.heap.size = sz ∧ va_P (dC, dI) vwCl [(h0, .inr (11, [.ref n0, .ref st, .ref la, .int 0, .int tm, .int 0, .int (-1), .int 0]))] U.heap ∧ va_K (dC, dI) vwCl [] U ∧ va_D (fun _ => True) [(h0, .inr (11, [.ref n0, .ref st, .ref la, .int 0, .int tm, .int 0, .int (-1), .int 0]))] ∧ ev U)) (va_Qi (fun (r : Int32) (_ : Unit) => r = (-1)) (fun (_ : Unit) (_ : State) => True) (va_A [] sz)) 0 0 (va_A [] sz) := by
  refine Met.ofW (cc := cX10_told) (maxL := 4) (ret := (some .int)) (by decide) rfl ?_
  intro p e s m args below meth c s₁ B hml hv
  obtain ⟨rfl, hsz, hP, hK, hD0, hE⟩ := hv
  have hx := B.exec
  have hb := B.bytes
  have hr := B.returns
  have hts := atoms_spec (ws := v_c_X10_told) B.pre
  have hown : s.vm.findClass RX10 = some m.cls := findClass_of_methodNamed B.named
  have hlocks := B.notSynchronized
  subst hsz
  have hD := hD0
  generalize hAe : va_A [] s.heap.size = A
  have hA : ∀ q : Nat, s.heap.size ≤ q → A q := fun q h => by rw [← hAe]; exact Or.inr h
  have hS : va_S A s.heap s.heap [] := va_S.rf
  have hP : va_P (dC, dI) vwCl [(h0, .inr (11, [.ref n0, .ref st, .ref la, .int 0, .int tm, .int 0, .int (-1), .int 0]))] s.heap := hP
  have hl := lv_entry ([.ref h0, .int p0, .int p1]) (n := 4) (Nat.le_of_ble_eq_true rfl)
  rw [lg_entry_eq]
  generalize (lg_sl ([.ref h0, .int p0, .int p1]) ++ List.replicate (4 - (lg_sl ([.ref h0, .int p0, .int p1])).length) Slot.unset).toArray = ls at hl ⊢
  have hl : lv_has ls 4 [(0, .ref h0), (1, .int p0), (2, .int p1)] := hl
  obtain ⟨H, hH⟩ : ∃ z : Heap, z = s.heap := ⟨_, rfl⟩
  rw [← hH]
  have hS : va_S A s.heap H [] := by rw [hH]; exact va_S.rf
  have hP : va_P (dC, dI) vwCl [(h0, .inr (11, [.ref n0, .ref st, .ref la, .int 0, .int tm, .int 0, .int (-1), .int 0]))] H := by rw [hH]; exact hP
  clear hH
  refine lv_aload_n hx hb dX10_told_0 rfl (lv_at hl 0 rfl) ?_
  refine lv_iload_n hx hb dX10_told_1 rfl (lv_at hl 1 rfl) ?_
  have hPc := hP.sub (ws' := [(h0, .inr (11, [.ref n0, .ref st, .ref la, .int 0, .int tm, .int 0, .int (-1), .int 0]))]) [0] rfl
  have hDc := hD.sub (ws' := [(h0, .inr (11, [.ref n0, .ref st, .ref la, .int 0, .int tm, .int 0, .int (-1), .int 0]))]) [0] (by decide) rfl
  have hKc := hK.sub (tys' := []) [] rfl
  have hFc := ro_free hS hA
  refine va_callq (va_runV (As := [.int p0]) (rest := []) ⟨hx, hb, hml, hown, hts⟩ (c_X10_find l dC dI (h0) (n0) (st) (la) (tm) (p0) H.size) (cwV 1 hts g_c_X10_told_c_X10_find_53 rfl rfl rfl (by decide +kernel) ⟨Nat.le_of_ble_eq_true rfl, Nat.le_of_ble_eq_true rfl⟩) ⟨fun a U g mk q => by obtain ⟨q0, q1, qP, qK, qD, qE⟩ := q; exact ⟨q0, q1, qP, va_K.moved (u := U) (U := U.calling g mk a) (Vm.Alike.refl U.vm) qK, qD, ev.same (u := U) (U := U.calling g mk a) rfl qE⟩, va_recv hKc hPc (ci := 11) (q0 := 0) rfl rfl, fun U hU hW => ⟨rfl, by rw [hU], by rw [hU]; exact hPc, va_K.moved hW.alike hKc, hDc.weaken (fun _ _ _ _ => trivial), hE.warm hW⟩⟩ rfl rfl hl.1 rfl (lv_room (Nat.le_of_ble_eq_true rfl)) dX10_told_2 ⟨Nat.le_of_ble_eq_true rfl, Nat.le_of_ble_eq_true rfl⟩) hS (fun q _ h => hFc q h) hFc (fun r_1 u t H1 locs ht hvm hw hB hz1 hk1 hS => ?_)
  clear hPc hDc hKc
  have hP := ro_keep hP hk1
  generalize H1 = H at hP hS ⊢
  have hP : va_P (dC, dI) vwCl [(h0, .inr (11, [.ref n0, .ref st, .ref la, .int 0, .int tm, .int 0, .int (-1), .int 0]))] H := hP
  obtain rfl : r_1 = none := hw
  refine W.eq (g2 := F0 m 5 ls [.null]) rfl ?_
  refine lv_astore_nN (lv' := [(3, .null), (0, .ref h0), (1, .int p0), (2, .int p1)]) hx hb dX10_told_5 rfl hl (by decide) rfl (fun ls hl => ?_)
  refine lv_aload_nN hx hb dX10_told_6 rfl (lv_at hl 0 rfl) ?_
  refine lv_ifnonnullN hx hb dX10_told_7 ?_
  refine lv_iconst (v := -1) hx hb dX10_told_10 (by decide) ?_
  exact W.iret (v := (-1)) hx hb hr (fun t ht hW => ⟨⟨(-1), (), rfl, rfl, trivial⟩, hS.F ht⟩) hS.2.2 dX10_told_11

def v_c_X10_table : List Cond := .code yX10_table cX10_table 4 (some .int) :: ([.code yX10_find cX10_find 2 (some (.object "ClaimBus$Node")), .fieldLink RX10 29 "ClaimBus" "nodeCount" "I", .initialized RX10, .methodLink RX10 53 yX10_find, .instanceMethod yX10_find, .selects RX10 yX10_find yX10_find] ++ wsX100)
theorem in_c_X10_table_X10 : ∀ w ∈ wsX100, w ∈ v_c_X10_table := fun w h => List.mem_cons_of_mem _ (List.mem_append_right _ h)
set_option maxRecDepth 20000 in
theorem g_c_X10_table_c_X10_find_53 : GoodIn v_c_X10_table (wsV RX10 53 RX10 yX10_find v_c_X10_find) := goodIn_r _ [4, 5, 6, 3, 1, 2, 7, 8, 9, 10, 11, 12, 13, 14] (by decide +kernel) (by decide +kernel)
set_option maxHeartbeats 4000000 in
set_option maxRecDepth 100000 in
theorem c_X10_table (l : Launch) (dC : Nat → ClassId) (dI : Nat → Nat → Nat) (h0 : Nat) (n0 : Nat) (st : Nat) (la : Nat) (tm : Int32) (p0 : Int32) (p1 : Int32) (sz : Nat)  : Met l yX10_table v_c_X10_table ({ frames := 1, cells := 0, slots := 0, locals := 21 }) (va_Pc [.ref h0, .int p0, .int p1] (fun U => U.heap.size = sz ∧ va_P (dC, dI) vwCl [(h0, .inr (11, [.ref n0, .ref st, .ref la, .int 0, .int tm, .int 0, .int (-1), .int 0]))] U.heap ∧ va_K (dC, dI) vwCl [] U ∧ va_D (fun _ => True) [(h0, .inr (11, [.ref n0, .ref st, .ref la, .int 0, .int tm, .int 0, .int (-1), .int 0]))] ∧ ev U)) (va_Qi (fun (r : Int32) (_ : Unit) => r = (-1)) (fun (_ : Unit) (_ : State) => True) (va_A [] sz)) 0 0 (va_A [] sz) := by
  refine Met.ofW (cc := cX10_table) (maxL := 4) (ret := (some .int)) (by decide) rfl ?_
  intro p e s m args below meth c s₁ B hml hv
  obtain ⟨rfl, hsz, hP, hK, hD0, hE⟩ := hv
  have hx := B.exec
  have hb := B.bytes
  have hr := B.returns
  have hts := atoms_spec (ws := v_c_X10_table) B.pre
  have hown : s.vm.findClass RX10 = some m.cls := findClass_of_methodNamed B.named
  have hlocks := B.notSynchronized
  subst hsz
  have hD := hD0
  generalize hAe : va_A [] s.heap.size = A
  have hA : ∀ q : Nat, s.heap.size ≤ q → A q := fun q h => by rw [← hAe]; exact Or.inr h
  have hS : va_S A s.heap s.heap [] := va_S.rf
  have hP : va_P (dC, dI) vwCl [(h0, .inr (11, [.ref n0, .ref st, .ref la, .int 0, .int tm, .int 0, .int (-1), .int 0]))] s.heap := hP
  have hl := lv_entry ([.ref h0, .int p0, .int p1]) (n := 4) (Nat.le_of_ble_eq_true rfl)
  rw [lg_entry_eq]
  generalize (lg_sl ([.ref h0, .int p0, .int p1]) ++ List.replicate (4 - (lg_sl ([.ref h0, .int p0, .int p1])).length) Slot.unset).toArray = ls at hl ⊢
  have hl : lv_has ls 4 [(0, .ref h0), (1, .int p0), (2, .int p1)] := hl
  obtain ⟨H, hH⟩ : ∃ z : Heap, z = s.heap := ⟨_, rfl⟩
  rw [← hH]
  have hS : va_S A s.heap H [] := by rw [hH]; exact va_S.rf
  have hP : va_P (dC, dI) vwCl [(h0, .inr (11, [.ref n0, .ref st, .ref la, .int 0, .int tm, .int 0, .int (-1), .int 0]))] H := by rw [hH]; exact hP
  clear hH
  refine lv_aload_n hx hb dX10_table_0 rfl (lv_at hl 0 rfl) ?_
  refine lv_iload_n hx hb dX10_table_1 rfl (lv_at hl 1 rfl) ?_
  have hPc := hP.sub (ws' := [(h0, .inr (11, [.ref n0, .ref st, .ref la, .int 0, .int tm, .int 0, .int (-1), .int 0]))]) [0] rfl
  have hDc := hD.sub (ws' := [(h0, .inr (11, [.ref n0, .ref st, .ref la, .int 0, .int tm, .int 0, .int (-1), .int 0]))]) [0] (by decide) rfl
  have hKc := hK.sub (tys' := []) [] rfl
  have hFc := ro_free hS hA
  refine va_callq (va_runV (As := [.int p0]) (rest := []) ⟨hx, hb, hml, hown, hts⟩ (c_X10_find l dC dI (h0) (n0) (st) (la) (tm) (p0) H.size) (cwV 1 hts g_c_X10_table_c_X10_find_53 rfl rfl rfl (by decide +kernel) ⟨Nat.le_of_ble_eq_true rfl, Nat.le_of_ble_eq_true rfl⟩) ⟨fun a U g mk q => by obtain ⟨q0, q1, qP, qK, qD, qE⟩ := q; exact ⟨q0, q1, qP, va_K.moved (u := U) (U := U.calling g mk a) (Vm.Alike.refl U.vm) qK, qD, ev.same (u := U) (U := U.calling g mk a) rfl qE⟩, va_recv hKc hPc (ci := 11) (q0 := 0) rfl rfl, fun U hU hW => ⟨rfl, by rw [hU], by rw [hU]; exact hPc, va_K.moved hW.alike hKc, hDc.weaken (fun _ _ _ _ => trivial), hE.warm hW⟩⟩ rfl rfl hl.1 rfl (lv_room (Nat.le_of_ble_eq_true rfl)) dX10_table_2 ⟨Nat.le_of_ble_eq_true rfl, Nat.le_of_ble_eq_true rfl⟩) hS (fun q _ h => hFc q h) hFc (fun r_1 u t H1 locs ht hvm hw hB hz1 hk1 hS => ?_)
  clear hPc hDc hKc
  have hP := ro_keep hP hk1
  generalize H1 = H at hP hS ⊢
  have hP : va_P (dC, dI) vwCl [(h0, .inr (11, [.ref n0, .ref st, .ref la, .int 0, .int tm, .int 0, .int (-1), .int 0]))] H := hP
  obtain rfl : r_1 = none := hw
  refine W.eq (g2 := F0 m 5 ls [.null]) rfl ?_
  refine lv_astore_nN (lv' := [(3, .null), (0, .ref h0), (1, .int p0), (2, .int p1)]) hx hb dX10_table_5 rfl hl (by decide) rfl (fun ls hl => ?_)
  refine lv_aload_nN hx hb dX10_table_6 rfl (lv_at hl 0 rfl) ?_
  refine lv_ifnullN (tgt := 21) hx hb dX10_table_7 (by decide) ?_
  refine lv_iconst (v := -1) hx hb dX10_table_21 (by decide) ?_
  exact W.iret (v := (-1)) hx hb hr (fun t ht hW => ⟨⟨(-1), (), rfl, rfl, trivial⟩, hS.F ht⟩) hS.2.2 dX10_table_22

def v_c_X10_message : List Cond := .code yX10_message cX10_message 5 (some .int) :: ([.code yX10_find cX10_find 2 (some (.object "ClaimBus$Node")), .fieldLink RX10 29 "ClaimBus" "nodeCount" "I", .initialized RX10, .methodLink RX10 53 yX10_find, .instanceMethod yX10_find, .selects RX10 yX10_find yX10_find] ++ wsX100)
theorem in_c_X10_message_X10 : ∀ w ∈ wsX100, w ∈ v_c_X10_message := fun w h => List.mem_cons_of_mem _ (List.mem_append_right _ h)
set_option maxRecDepth 20000 in
theorem g_c_X10_message_c_X10_find_53 : GoodIn v_c_X10_message (wsV RX10 53 RX10 yX10_find v_c_X10_find) := goodIn_r _ [4, 5, 6, 3, 1, 2, 7, 8, 9, 10, 11, 12, 13, 14] (by decide +kernel) (by decide +kernel)
set_option maxHeartbeats 4000000 in
set_option maxRecDepth 100000 in
theorem c_X10_message (l : Launch) (dC : Nat → ClassId) (dI : Nat → Nat → Nat) (h0 : Nat) (n0 : Nat) (st : Nat) (la : Nat) (tm : Int32) (p0 : Int32) (p1 : Int32) (p2 : Int32) (sz : Nat)  : Met l yX10_message v_c_X10_message ({ frames := 1, cells := 0, slots := 0, locals := 21 }) (va_Pc [.ref h0, .int p0, .int p1, .int p2] (fun U => U.heap.size = sz ∧ va_P (dC, dI) vwCl [(h0, .inr (11, [.ref n0, .ref st, .ref la, .int 0, .int tm, .int 0, .int (-1), .int 0]))] U.heap ∧ va_K (dC, dI) vwCl [] U ∧ va_D (fun _ => True) [(h0, .inr (11, [.ref n0, .ref st, .ref la, .int 0, .int tm, .int 0, .int (-1), .int 0]))] ∧ ev U)) (va_Qi (fun (r : Int32) (_ : Unit) => r = (-1)) (fun (_ : Unit) (_ : State) => True) (va_A [] sz)) 0 0 (va_A [] sz) := by
  refine Met.ofW (cc := cX10_message) (maxL := 5) (ret := (some .int)) (by decide) rfl ?_
  intro p e s m args below meth c s₁ B hml hv
  obtain ⟨rfl, hsz, hP, hK, hD0, hE⟩ := hv
  have hx := B.exec
  have hb := B.bytes
  have hr := B.returns
  have hts := atoms_spec (ws := v_c_X10_message) B.pre
  have hown : s.vm.findClass RX10 = some m.cls := findClass_of_methodNamed B.named
  have hlocks := B.notSynchronized
  subst hsz
  have hD := hD0
  generalize hAe : va_A [] s.heap.size = A
  have hA : ∀ q : Nat, s.heap.size ≤ q → A q := fun q h => by rw [← hAe]; exact Or.inr h
  have hS : va_S A s.heap s.heap [] := va_S.rf
  have hP : va_P (dC, dI) vwCl [(h0, .inr (11, [.ref n0, .ref st, .ref la, .int 0, .int tm, .int 0, .int (-1), .int 0]))] s.heap := hP
  have hl := lv_entry ([.ref h0, .int p0, .int p1, .int p2]) (n := 5) (Nat.le_of_ble_eq_true rfl)
  rw [lg_entry_eq]
  generalize (lg_sl ([.ref h0, .int p0, .int p1, .int p2]) ++ List.replicate (5 - (lg_sl ([.ref h0, .int p0, .int p1, .int p2])).length) Slot.unset).toArray = ls at hl ⊢
  have hl : lv_has ls 5 [(0, .ref h0), (1, .int p0), (2, .int p1), (3, .int p2)] := hl
  obtain ⟨H, hH⟩ : ∃ z : Heap, z = s.heap := ⟨_, rfl⟩
  rw [← hH]
  have hS : va_S A s.heap H [] := by rw [hH]; exact va_S.rf
  have hP : va_P (dC, dI) vwCl [(h0, .inr (11, [.ref n0, .ref st, .ref la, .int 0, .int tm, .int 0, .int (-1), .int 0]))] H := by rw [hH]; exact hP
  clear hH
  refine lv_aload_n hx hb dX10_message_0 rfl (lv_at hl 0 rfl) ?_
  refine lv_iload_n hx hb dX10_message_1 rfl (lv_at hl 1 rfl) ?_
  have hPc := hP.sub (ws' := [(h0, .inr (11, [.ref n0, .ref st, .ref la, .int 0, .int tm, .int 0, .int (-1), .int 0]))]) [0] rfl
  have hDc := hD.sub (ws' := [(h0, .inr (11, [.ref n0, .ref st, .ref la, .int 0, .int tm, .int 0, .int (-1), .int 0]))]) [0] (by decide) rfl
  have hKc := hK.sub (tys' := []) [] rfl
  have hFc := ro_free hS hA
  refine va_callq (va_runV (As := [.int p0]) (rest := []) ⟨hx, hb, hml, hown, hts⟩ (c_X10_find l dC dI (h0) (n0) (st) (la) (tm) (p0) H.size) (cwV 1 hts g_c_X10_message_c_X10_find_53 rfl rfl rfl (by decide +kernel) ⟨Nat.le_of_ble_eq_true rfl, Nat.le_of_ble_eq_true rfl⟩) ⟨fun a U g mk q => by obtain ⟨q0, q1, qP, qK, qD, qE⟩ := q; exact ⟨q0, q1, qP, va_K.moved (u := U) (U := U.calling g mk a) (Vm.Alike.refl U.vm) qK, qD, ev.same (u := U) (U := U.calling g mk a) rfl qE⟩, va_recv hKc hPc (ci := 11) (q0 := 0) rfl rfl, fun U hU hW => ⟨rfl, by rw [hU], by rw [hU]; exact hPc, va_K.moved hW.alike hKc, hDc.weaken (fun _ _ _ _ => trivial), hE.warm hW⟩⟩ rfl rfl hl.1 rfl (lv_room (Nat.le_of_ble_eq_true rfl)) dX10_message_2 ⟨Nat.le_of_ble_eq_true rfl, Nat.le_of_ble_eq_true rfl⟩) hS (fun q _ h => hFc q h) hFc (fun r_1 u t H1 locs ht hvm hw hB hz1 hk1 hS => ?_)
  clear hPc hDc hKc
  have hP := ro_keep hP hk1
  generalize H1 = H at hP hS ⊢
  have hP : va_P (dC, dI) vwCl [(h0, .inr (11, [.ref n0, .ref st, .ref la, .int 0, .int tm, .int 0, .int (-1), .int 0]))] H := hP
  obtain rfl : r_1 = none := hw
  refine W.eq (g2 := F0 m 5 ls [.null]) rfl ?_
  refine lv_astoreN (lv' := [(4, .null), (0, .ref h0), (1, .int p0), (2, .int p1), (3, .int p2)]) hx hb dX10_message_5 hl (by decide) rfl (fun ls hl => ?_)
  refine lv_aloadN hx hb dX10_message_7 (lv_at hl 0 rfl) ?_
  refine lv_ifnonnullN hx hb dX10_message_9 ?_
  refine lv_iconst (v := -1) hx hb dX10_message_12 (by decide) ?_
  refine lv_goto (tgt := 26) hx hb dX10_message_13 (by decide) ?_
  exact W.iret (v := (-1)) hx hb hr (fun t ht hW => ⟨⟨(-1), (), rfl, rfl, trivial⟩, hS.F ht⟩) hS.2.2 dX10_message_26

def v_c_X10_kept : List Cond := .code yX10_kept cX10_kept 6 (some .int) :: ([.code yX10_find cX10_find 2 (some (.object "ClaimBus$Node")), .fieldLink RX10 29 "ClaimBus" "nodeCount" "I", .initialized RX10, .methodLink RX10 53 yX10_find, .instanceMethod yX10_find, .selects RX10 yX10_find yX10_find] ++ wsX100)
theorem in_c_X10_kept_X10 : ∀ w ∈ wsX100, w ∈ v_c_X10_kept := fun w h => List.mem_cons_of_mem _ (List.mem_append_right _ h)
set_option maxRecDepth 20000 in
theorem g_c_X10_kept_c_X10_find_53 : GoodIn v_c_X10_kept (wsV RX10 53 RX10 yX10_find v_c_X10_find) := goodIn_r _ [4, 5, 6, 3, 1, 2, 7, 8, 9, 10, 11, 12, 13, 14] (by decide +kernel) (by decide +kernel)
set_option maxHeartbeats 4000000 in
set_option maxRecDepth 100000 in
theorem c_X10_kept (l : Launch) (dC : Nat → ClassId) (dI : Nat → Nat → Nat) (h0 : Nat) (n0 : Nat) (st : Nat) (la : Nat) (tm : Int32) (p0 : Int32) (p1 : Int32) (p2 : Int32) (p3 : Int32) (sz : Nat)  : Met l yX10_kept v_c_X10_kept ({ frames := 1, cells := 0, slots := 0, locals := 21 }) (va_Pc [.ref h0, .int p0, .int p1, .int p2, .int p3] (fun U => U.heap.size = sz ∧ va_P (dC, dI) vwCl [(h0, .inr (11, [.ref n0, .ref st, .ref la, .int 0, .int tm, .int 0, .int (-1), .int 0]))] U.heap ∧ va_K (dC, dI) vwCl [] U ∧ va_D (fun _ => True) [(h0, .inr (11, [.ref n0, .ref st, .ref la, .int 0, .int tm, .int 0, .int (-1), .int 0]))] ∧ ev U)) (va_Qi (fun (r : Int32) (_ : Unit) => r = (-1)) (fun (_ : Unit) (_ : State) => True) (va_A [] sz)) 0 0 (va_A [] sz) := by
  refine Met.ofW (cc := cX10_kept) (maxL := 6) (ret := (some .int)) (by decide) rfl ?_
  intro p e s m args below meth c s₁ B hml hv
  obtain ⟨rfl, hsz, hP, hK, hD0, hE⟩ := hv
  have hx := B.exec
  have hb := B.bytes
  have hr := B.returns
  have hts := atoms_spec (ws := v_c_X10_kept) B.pre
  have hown : s.vm.findClass RX10 = some m.cls := findClass_of_methodNamed B.named
  have hlocks := B.notSynchronized
  subst hsz
  have hD := hD0
  generalize hAe : va_A [] s.heap.size = A
  have hA : ∀ q : Nat, s.heap.size ≤ q → A q := fun q h => by rw [← hAe]; exact Or.inr h
  have hS : va_S A s.heap s.heap [] := va_S.rf
  have hP : va_P (dC, dI) vwCl [(h0, .inr (11, [.ref n0, .ref st, .ref la, .int 0, .int tm, .int 0, .int (-1), .int 0]))] s.heap := hP
  have hl := lv_entry ([.ref h0, .int p0, .int p1, .int p2, .int p3]) (n := 6) (Nat.le_of_ble_eq_true rfl)
  rw [lg_entry_eq]
  generalize (lg_sl ([.ref h0, .int p0, .int p1, .int p2, .int p3]) ++ List.replicate (6 - (lg_sl ([.ref h0, .int p0, .int p1, .int p2, .int p3])).length) Slot.unset).toArray = ls at hl ⊢
  have hl : lv_has ls 6 [(0, .ref h0), (1, .int p0), (2, .int p1), (3, .int p2), (4, .int p3)] := hl
  obtain ⟨H, hH⟩ : ∃ z : Heap, z = s.heap := ⟨_, rfl⟩
  rw [← hH]
  have hS : va_S A s.heap H [] := by rw [hH]; exact va_S.rf
  have hP : va_P (dC, dI) vwCl [(h0, .inr (11, [.ref n0, .ref st, .ref la, .int 0, .int tm, .int 0, .int (-1), .int 0]))] H := by rw [hH]; exact hP
  clear hH
  refine lv_aload_n hx hb dX10_kept_0 rfl (lv_at hl 0 rfl) ?_
  refine lv_iload_n hx hb dX10_kept_1 rfl (lv_at hl 1 rfl) ?_
  have hPc := hP.sub (ws' := [(h0, .inr (11, [.ref n0, .ref st, .ref la, .int 0, .int tm, .int 0, .int (-1), .int 0]))]) [0] rfl
  have hDc := hD.sub (ws' := [(h0, .inr (11, [.ref n0, .ref st, .ref la, .int 0, .int tm, .int 0, .int (-1), .int 0]))]) [0] (by decide) rfl
  have hKc := hK.sub (tys' := []) [] rfl
  have hFc := ro_free hS hA
  refine va_callq (va_runV (As := [.int p0]) (rest := []) ⟨hx, hb, hml, hown, hts⟩ (c_X10_find l dC dI (h0) (n0) (st) (la) (tm) (p0) H.size) (cwV 1 hts g_c_X10_kept_c_X10_find_53 rfl rfl rfl (by decide +kernel) ⟨Nat.le_of_ble_eq_true rfl, Nat.le_of_ble_eq_true rfl⟩) ⟨fun a U g mk q => by obtain ⟨q0, q1, qP, qK, qD, qE⟩ := q; exact ⟨q0, q1, qP, va_K.moved (u := U) (U := U.calling g mk a) (Vm.Alike.refl U.vm) qK, qD, ev.same (u := U) (U := U.calling g mk a) rfl qE⟩, va_recv hKc hPc (ci := 11) (q0 := 0) rfl rfl, fun U hU hW => ⟨rfl, by rw [hU], by rw [hU]; exact hPc, va_K.moved hW.alike hKc, hDc.weaken (fun _ _ _ _ => trivial), hE.warm hW⟩⟩ rfl rfl hl.1 rfl (lv_room (Nat.le_of_ble_eq_true rfl)) dX10_kept_2 ⟨Nat.le_of_ble_eq_true rfl, Nat.le_of_ble_eq_true rfl⟩) hS (fun q _ h => hFc q h) hFc (fun r_1 u t H1 locs ht hvm hw hB hz1 hk1 hS => ?_)
  clear hPc hDc hKc
  have hP := ro_keep hP hk1
  generalize H1 = H at hP hS ⊢
  have hP : va_P (dC, dI) vwCl [(h0, .inr (11, [.ref n0, .ref st, .ref la, .int 0, .int tm, .int 0, .int (-1), .int 0]))] H := hP
  obtain rfl : r_1 = none := hw
  refine W.eq (g2 := F0 m 5 ls [.null]) rfl ?_
  refine lv_astoreN (lv' := [(5, .null), (0, .ref h0), (1, .int p0), (2, .int p1), (3, .int p2), (4, .int p3)]) hx hb dX10_kept_5 hl (by decide) rfl (fun ls hl => ?_)
  refine lv_aloadN hx hb dX10_kept_7 (lv_at hl 0 rfl) ?_
  refine lv_ifnonnullN hx hb dX10_kept_9 ?_
  refine lv_iconst (v := -1) hx hb dX10_kept_12 (by decide) ?_
  refine lv_goto (tgt := 28) hx hb dX10_kept_13 (by decide) ?_
  exact W.iret (v := (-1)) hx hb hr (fun t ht hW => ⟨⟨(-1), (), rfl, rfl, trivial⟩, hS.F ht⟩) hS.2.2 dX10_kept_28

def v_c_X10_carried : List Cond := .code yX10_carried cX10_carried 2 (some .int) :: ([.fieldLink RX10 39 "ClaimBus" "lastSender" "I"] ++ wsX100)
theorem in_c_X10_carried_X10 : ∀ w ∈ wsX100, w ∈ v_c_X10_carried := fun w h => List.mem_cons_of_mem _ (List.mem_append_right _ h)
set_option maxHeartbeats 4000000 in
set_option maxRecDepth 100000 in
theorem c_X10_carried (l : Launch) (dC : Nat → ClassId) (dI : Nat → Nat → Nat) (h0 : Nat) (n0 : Nat) (st : Nat) (la : Nat) (tm : Int32) (p0 : Int32) (sz : Nat)  : Met l yX10_carried v_c_X10_carried ({ frames := 0, cells := 0, slots := 0, locals := 0 }) (va_Pc [.ref h0, .int p0] (fun U => U.heap.size = sz ∧ va_P (dC, dI) vwCl [(h0, .inr (11, [.ref n0, .ref st, .ref la, .int 0, .int tm, .int 0, .int (-1), .int 0]))] U.heap ∧ va_K (dC, dI) vwCl [] U ∧ va_D (fun _ => True) [(h0, .inr (11, [.ref n0, .ref st, .ref la, .int 0, .int tm, .int 0, .int (-1), .int 0]))] ∧ ev U)) (va_Qi (fun (r : Int32) (_ : Unit) => r = if p0 = 3 then (-1) else 0) (fun (_ : Unit) (_ : State) => True) (va_A [] sz)) 0 0 (va_A [] sz) := by
  refine Met.ofW (cc := cX10_carried) (maxL := 2) (ret := (some .int)) (by decide) rfl ?_
  intro p e s m args below meth c s₁ B hml hv
  obtain ⟨rfl, hsz, hP, hK, hD0, hE⟩ := hv
  have hx := B.exec
  have hb := B.bytes
  have hr := B.returns
  have hts := atoms_spec (ws := v_c_X10_carried) B.pre
  have hown : s.vm.findClass RX10 = some m.cls := findClass_of_methodNamed B.named
  have hlocks := B.notSynchronized
  subst hsz
  have hD := hD0
  generalize hAe : va_A [] s.heap.size = A
  have hA : ∀ q : Nat, s.heap.size ≤ q → A q := fun q h => by rw [← hAe]; exact Or.inr h
  have hS : va_S A s.heap s.heap [] := va_S.rf
  have hP : va_P (dC, dI) vwCl [(h0, .inr (11, [.ref n0, .ref st, .ref la, .int 0, .int tm, .int 0, .int (-1), .int 0]))] s.heap := hP
  have hl := lv_entry ([.ref h0, .int p0]) (n := 2) (Nat.le_of_ble_eq_true rfl)
  rw [lg_entry_eq]
  generalize (lg_sl ([.ref h0, .int p0]) ++ List.replicate (2 - (lg_sl ([.ref h0, .int p0])).length) Slot.unset).toArray = ls at hl ⊢
  have hl : lv_has ls 2 [(0, .ref h0), (1, .int p0)] := hl
  obtain ⟨H, hH⟩ : ∃ z : Heap, z = s.heap := ⟨_, rfl⟩
  rw [← hH]
  have hS : va_S A s.heap H [] := by rw [hH]; exact va_S.rf
  have hP : va_P (dC, dI) vwCl [(h0, .inr (11, [.ref n0, .ref st, .ref la, .int 0, .int tm, .int 0, .int (-1), .int 0]))] H := by rw [hH]; exact hP
  clear hH
  refine lv_aload_n hx hb dX10_carried_0 rfl (lv_at hl 0 rfl) ?_
  refine va_get (D := (dC, dI)) (ci := 11) (v := .int (-1)) (C := RX10) (T := TX10) (N := 8) hx hb hts in_c_X10_carried_X10 hown hK hP 0 rfl rfl 6 (by decide) (hts (.fieldLink RX10 39 "ClaimBus" "lastSender" "I") (List.mem_of_getElem? (i := 1) rfl)) (fun _ h9 => h9) rfl dX10_carried_1 ?_
  refine lv_iconst (v := -1) hx hb dX10_carried_4 (by decide) ?_
  refine lv_icmp_ne (tgt := 19) hx hb dX10_carried_5 (by decide) (fun c_1 => ?_) (fun c_1 => ?_)
  · exact absurd c_1 (by decide)
  refine lv_iload_n hx hb dX10_carried_8 rfl (lv_at hl 1 rfl) ?_
  refine lv_iconst (v := 3) hx hb dX10_carried_9 (by decide) ?_
  refine lv_icmp_ne (tgt := 17) hx hb dX10_carried_10 (by decide) (fun c_2 => ?_) (fun c_2 => ?_)
  · refine lv_iconst (v := 0) hx hb dX10_carried_17 (by decide) ?_
    exact W.iret (v := 0) hx hb hr (fun t ht hW => ⟨⟨0, (), rfl, (by simp [c_2]), trivial⟩, hS.F ht⟩) hS.2.2 dX10_carried_18
  · refine lv_iconst (v := -1) hx hb dX10_carried_13 (by decide) ?_
    refine lv_goto (tgt := 18) hx hb dX10_carried_14 (by decide) ?_
    exact W.iret (v := (-1)) hx hb hr (fun t ht hW => ⟨⟨(-1), (), rfl, (by simp [c_2]), trivial⟩, hS.F ht⟩) hS.2.2 dX10_carried_18

def v_c_X10_isDisturbed : List Cond := .code yX10_isDisturbed cX10_isDisturbed 3 (some .boolean) :: ([.fieldLink RX10 29 "ClaimBus" "nodeCount" "I", .fieldLink RX10 42 "ClaimBus" "stopped" "Z"] ++ wsX100)
theorem in_c_X10_isDisturbed_X10 : ∀ w ∈ wsX100, w ∈ v_c_X10_isDisturbed := fun w h => List.mem_cons_of_mem _ (List.mem_append_right _ h)
set_option maxHeartbeats 4000000 in
set_option maxRecDepth 100000 in
theorem c_X10_isDisturbed (l : Launch) (dC : Nat → ClassId) (dI : Nat → Nat → Nat) (h0 : Nat) (n0 : Nat) (st : Nat) (la : Nat) (tm : Int32) (sz : Nat)  : Met l yX10_isDisturbed v_c_X10_isDisturbed ({ frames := 0, cells := 0, slots := 0, locals := 0 }) (va_Pc [.ref h0] (fun U => U.heap.size = sz ∧ va_P (dC, dI) vwCl [(h0, .inr (11, [.ref n0, .ref st, .ref la, .int 0, .int tm, .int 0, .int (-1), .int 0]))] U.heap ∧ va_K (dC, dI) vwCl [] U ∧ va_D (fun _ => True) [(h0, .inr (11, [.ref n0, .ref st, .ref la, .int 0, .int tm, .int 0, .int (-1), .int 0]))] ∧ ev U)) (va_Qi (fun (r : Int32) (_ : Unit) => r = 0) (fun (_ : Unit) (_ : State) => True) (va_A [] sz)) 0 0 (va_A [] sz) := by
  refine Met.ofW (cc := cX10_isDisturbed) (maxL := 3) (ret := (some .boolean)) (by decide) rfl ?_
  intro p e s m args below meth c s₁ B hml hv
  obtain ⟨rfl, hsz, hP, hK, hD0, hE⟩ := hv
  have hx := B.exec
  have hb := B.bytes
  have hr := B.returns
  have hts := atoms_spec (ws := v_c_X10_isDisturbed) B.pre
  have hown : s.vm.findClass RX10 = some m.cls := findClass_of_methodNamed B.named
  have hlocks := B.notSynchronized
  subst hsz
  have hD := hD0
  generalize hAe : va_A [] s.heap.size = A
  have hA : ∀ q : Nat, s.heap.size ≤ q → A q := fun q h => by rw [← hAe]; exact Or.inr h
  have hS : va_S A s.heap s.heap [] := va_S.rf
  have hP : va_P (dC, dI) vwCl [(h0, .inr (11, [.ref n0, .ref st, .ref la, .int 0, .int tm, .int 0, .int (-1), .int 0]))] s.heap := hP
  have hl := lv_entry ([.ref h0]) (n := 3) (Nat.le_of_ble_eq_true rfl)
  rw [lg_entry_eq]
  generalize (lg_sl ([.ref h0]) ++ List.replicate (3 - (lg_sl ([.ref h0])).length) Slot.unset).toArray = ls at hl ⊢
  have hl : lv_has ls 3 [(0, .ref h0)] := hl
  obtain ⟨H, hH⟩ : ∃ z : Heap, z = s.heap := ⟨_, rfl⟩
  rw [← hH]
  have hS : va_S A s.heap H [] := by rw [hH]; exact va_S.rf
  have hP : va_P (dC, dI) vwCl [(h0, .inr (11, [.ref n0, .ref st, .ref la, .int 0, .int tm, .int 0, .int (-1), .int 0]))] H := by rw [hH]; exact hP
  clear hH
  refine lv_iconst (v := 0) hx hb dX10_isDisturbed_0 (by decide) ?_
  refine lv_istore_n (lv' := [(1, .int 0), (0, .ref h0)]) hx hb dX10_isDisturbed_1 rfl hl (by decide) rfl (fun ls hl => ?_)
  refine lv_iload_n hx hb dX10_isDisturbed_2 rfl (lv_at hl 0 rfl) ?_
  refine lv_aload_n hx hb dX10_isDisturbed_3 rfl (lv_at hl 1 rfl) ?_
  refine va_get (D := (dC, dI)) (ci := 11) (v := .int 0) (C := RX10) (T := TX10) (N := 8) hx hb hts in_c_X10_isDisturbed_X10 hown hK hP 0 rfl rfl 3 (by decide) (hts (.fieldLink RX10 29 "ClaimBus" "nodeCount" "I") (List.mem_of_getElem? (i := 1) rfl)) (fun _ h9 => h9) rfl dX10_isDisturbed_4 ?_
  refine lv_icmp_ge (tgt := 35) hx hb dX10_isDisturbed_7 (by decide) (fun c_1 => ?_) (fun c_1 => ?_)
  rotate_left
  · exact absurd (by decide) c_1
  refine lv_aload_n hx hb dX10_isDisturbed_35 rfl (lv_at hl 1 rfl) ?_
  refine va_get (D := (dC, dI)) (ci := 11) (v := .int 0) (C := RX10) (T := TX10) (N := 8) hx hb hts in_c_X10_isDisturbed_X10 hown hK hP 0 rfl rfl 7 (by decide) (hts (.fieldLink RX10 42 "ClaimBus" "stopped" "Z") (List.mem_of_getElem? (i := 2) rfl)) (fun _ h9 => h9) rfl dX10_isDisturbed_36 ?_
  exact W.zret (v := 0) hx hb hr (by decide) (fun t ht hW => ⟨⟨0, (), rfl, rfl, trivial⟩, hS.F ht⟩) hS.2.2 dX10_isDisturbed_39

def v_c_X10_nodesWithAddress : List Cond := .code yX10_nodesWithAddress cX10_nodesWithAddress 4 (some .int) :: ([.fieldLink RX10 29 "ClaimBus" "nodeCount" "I"] ++ wsX100)
theorem in_c_X10_nodesWithAddress_X10 : ∀ w ∈ wsX100, w ∈ v_c_X10_nodesWithAddress := fun w h => List.mem_cons_of_mem _ (List.mem_append_right _ h)
set_option maxHeartbeats 4000000 in
set_option maxRecDepth 100000 in
theorem c_X10_nodesWithAddress (l : Launch) (dC : Nat → ClassId) (dI : Nat → Nat → Nat) (h0 : Nat) (n0 : Nat) (st : Nat) (la : Nat) (tm : Int32) (sz : Nat)  : Met l yX10_nodesWithAddress v_c_X10_nodesWithAddress ({ frames := 0, cells := 0, slots := 0, locals := 0 }) (va_Pc [.ref h0] (fun U => U.heap.size = sz ∧ va_P (dC, dI) vwCl [(h0, .inr (11, [.ref n0, .ref st, .ref la, .int 0, .int tm, .int 0, .int (-1), .int 0]))] U.heap ∧ va_K (dC, dI) vwCl [] U ∧ va_D (fun _ => True) [(h0, .inr (11, [.ref n0, .ref st, .ref la, .int 0, .int tm, .int 0, .int (-1), .int 0]))] ∧ ev U)) (va_Qi (fun (r : Int32) (_ : Unit) => r = 0) (fun (_ : Unit) (_ : State) => True) (va_A [] sz)) 0 0 (va_A [] sz) := by
  refine Met.ofW (cc := cX10_nodesWithAddress) (maxL := 4) (ret := (some .int)) (by decide) rfl ?_
  intro p e s m args below meth c s₁ B hml hv
  obtain ⟨rfl, hsz, hP, hK, hD0, hE⟩ := hv
  have hx := B.exec
  have hb := B.bytes
  have hr := B.returns
  have hts := atoms_spec (ws := v_c_X10_nodesWithAddress) B.pre
  have hown : s.vm.findClass RX10 = some m.cls := findClass_of_methodNamed B.named
  have hlocks := B.notSynchronized
  subst hsz
  have hD := hD0
  generalize hAe : va_A [] s.heap.size = A
  have hA : ∀ q : Nat, s.heap.size ≤ q → A q := fun q h => by rw [← hAe]; exact Or.inr h
  have hS : va_S A s.heap s.heap [] := va_S.rf
  have hP : va_P (dC, dI) vwCl [(h0, .inr (11, [.ref n0, .ref st, .ref la, .int 0, .int tm, .int 0, .int (-1), .int 0]))] s.heap := hP
  have hl := lv_entry ([.ref h0]) (n := 4) (Nat.le_of_ble_eq_true rfl)
  rw [lg_entry_eq]
  generalize (lg_sl ([.ref h0]) ++ List.replicate (4 - (lg_sl ([.ref h0])).length) Slot.unset).toArray = ls at hl ⊢
  have hl : lv_has ls 4 [(0, .ref h0)] := hl
  obtain ⟨H, hH⟩ : ∃ z : Heap, z = s.heap := ⟨_, rfl⟩
  rw [← hH]
  have hS : va_S A s.heap H [] := by rw [hH]; exact va_S.rf
  have hP : va_P (dC, dI) vwCl [(h0, .inr (11, [.ref n0, .ref st, .ref la, .int 0, .int tm, .int 0, .int (-1), .int 0]))] H := by rw [hH]; exact hP
  clear hH
  refine lv_iconst (v := 0) hx hb dX10_nodesWithAddress_0 (by decide) ?_
  refine lv_istore_n (lv' := [(1, .int 0), (0, .ref h0)]) hx hb dX10_nodesWithAddress_1 rfl hl (by decide) rfl (fun ls hl => ?_)
  refine lv_iconst (v := 0) hx hb dX10_nodesWithAddress_2 (by decide) ?_
  refine lv_istore_n (lv' := [(2, .int 0), (1, .int 0), (0, .ref h0)]) hx hb dX10_nodesWithAddress_3 rfl hl (by decide) rfl (fun ls hl => ?_)
  refine lv_iload_n hx hb dX10_nodesWithAddress_4 rfl (lv_at hl 0 rfl) ?_
  refine lv_aload_n hx hb dX10_nodesWithAddress_5 rfl (lv_at hl 2 rfl) ?_
  refine va_get (D := (dC, dI)) (ci := 11) (v := .int 0) (C := RX10) (T := TX10) (N := 8) hx hb hts in_c_X10_nodesWithAddress_X10 hown hK hP 0 rfl rfl 3 (by decide) (hts (.fieldLink RX10 29 "ClaimBus" "nodeCount" "I") (List.mem_of_getElem? (i := 1) rfl)) (fun _ h9 => h9) rfl dX10_nodesWithAddress_6 ?_
  refine lv_icmp_ge (tgt := 39) hx hb dX10_nodesWithAddress_9 (by decide) (fun c_1 => ?_) (fun c_1 => ?_)
  rotate_left
  · exact absurd (by decide) c_1
  refine lv_iload_n hx hb dX10_nodesWithAddress_39 rfl (lv_at hl 1 rfl) ?_
  exact W.iret (v := 0) hx hb hr (fun t ht hW => ⟨⟨0, (), rfl, rfl, trivial⟩, hS.F ht⟩) hS.2.2 dX10_nodesWithAddress_40

def v_c_X10_addressesAreApart : List Cond := .code yX10_addressesAreApart cX10_addressesAreApart 5 (some .boolean) :: ([.fieldLink RX10 29 "ClaimBus" "nodeCount" "I"] ++ wsX100)
theorem in_c_X10_addressesAreApart_X10 : ∀ w ∈ wsX100, w ∈ v_c_X10_addressesAreApart := fun w h => List.mem_cons_of_mem _ (List.mem_append_right _ h)
set_option maxHeartbeats 4000000 in
set_option maxRecDepth 100000 in
theorem c_X10_addressesAreApart (l : Launch) (dC : Nat → ClassId) (dI : Nat → Nat → Nat) (h0 : Nat) (n0 : Nat) (st : Nat) (la : Nat) (tm : Int32) (sz : Nat)  : Met l yX10_addressesAreApart v_c_X10_addressesAreApart ({ frames := 0, cells := 0, slots := 0, locals := 0 }) (va_Pc [.ref h0] (fun U => U.heap.size = sz ∧ va_P (dC, dI) vwCl [(h0, .inr (11, [.ref n0, .ref st, .ref la, .int 0, .int tm, .int 0, .int (-1), .int 0]))] U.heap ∧ va_K (dC, dI) vwCl [] U ∧ va_D (fun _ => True) [(h0, .inr (11, [.ref n0, .ref st, .ref la, .int 0, .int tm, .int 0, .int (-1), .int 0]))] ∧ ev U)) (va_Qi (fun (r : Int32) (_ : Unit) => r = 1) (fun (_ : Unit) (_ : State) => True) (va_A [] sz)) 0 0 (va_A [] sz) := by
  refine Met.ofW (cc := cX10_addressesAreApart) (maxL := 5) (ret := (some .boolean)) (by decide) rfl ?_
  intro p e s m args below meth c s₁ B hml hv
  obtain ⟨rfl, hsz, hP, hK, hD0, hE⟩ := hv
  have hx := B.exec
  have hb := B.bytes
  have hr := B.returns
  have hts := atoms_spec (ws := v_c_X10_addressesAreApart) B.pre
  have hown : s.vm.findClass RX10 = some m.cls := findClass_of_methodNamed B.named
  have hlocks := B.notSynchronized
  subst hsz
  have hD := hD0
  generalize hAe : va_A [] s.heap.size = A
  have hA : ∀ q : Nat, s.heap.size ≤ q → A q := fun q h => by rw [← hAe]; exact Or.inr h
  have hS : va_S A s.heap s.heap [] := va_S.rf
  have hP : va_P (dC, dI) vwCl [(h0, .inr (11, [.ref n0, .ref st, .ref la, .int 0, .int tm, .int 0, .int (-1), .int 0]))] s.heap := hP
  have hl := lv_entry ([.ref h0]) (n := 5) (Nat.le_of_ble_eq_true rfl)
  rw [lg_entry_eq]
  generalize (lg_sl ([.ref h0]) ++ List.replicate (5 - (lg_sl ([.ref h0])).length) Slot.unset).toArray = ls at hl ⊢
  have hl : lv_has ls 5 [(0, .ref h0)] := hl
  obtain ⟨H, hH⟩ : ∃ z : Heap, z = s.heap := ⟨_, rfl⟩
  rw [← hH]
  have hS : va_S A s.heap H [] := by rw [hH]; exact va_S.rf
  have hP : va_P (dC, dI) vwCl [(h0, .inr (11, [.ref n0, .ref st, .ref la, .int 0, .int tm, .int 0, .int (-1), .int 0]))] H := by rw [hH]; exact hP
  clear hH
  refine lv_iconst (v := 0) hx hb dX10_addressesAreApart_0 (by decide) ?_
  refine lv_istore_n (lv' := [(1, .int 0), (0, .ref h0)]) hx hb dX10_addressesAreApart_1 rfl hl (by decide) rfl (fun ls hl => ?_)
  refine lv_iload_n hx hb dX10_addressesAreApart_2 rfl (lv_at hl 0 rfl) ?_
  refine lv_aload_n hx hb dX10_addressesAreApart_3 rfl (lv_at hl 1 rfl) ?_
  refine va_get (D := (dC, dI)) (ci := 11) (v := .int 0) (C := RX10) (T := TX10) (N := 8) hx hb hts in_c_X10_addressesAreApart_X10 hown hK hP 0 rfl rfl 3 (by decide) (hts (.fieldLink RX10 29 "ClaimBus" "nodeCount" "I") (List.mem_of_getElem? (i := 1) rfl)) (fun _ h9 => h9) rfl dX10_addressesAreApart_4 ?_
  refine lv_icmp_ge (tgt := 62) hx hb dX10_addressesAreApart_7 (by decide) (fun c_1 => ?_) (fun c_1 => ?_)
  rotate_left
  · exact absurd (by decide) c_1
  refine lv_iconst (v := 1) hx hb dX10_addressesAreApart_62 (by decide) ?_
  exact W.zret (v := 1) hx hb hr (by decide) (fun t ht hW => ⟨⟨1, (), rfl, rfl, trivial⟩, hS.F ht⟩) hS.2.2 dX10_addressesAreApart_63

def v_c_X10_messagesAreTrue : List Cond := .code yX10_messagesAreTrue cX10_messagesAreTrue 3 (some .boolean) :: ([.fieldLink RX10 29 "ClaimBus" "nodeCount" "I"] ++ wsX100)
theorem in_c_X10_messagesAreTrue_X10 : ∀ w ∈ wsX100, w ∈ v_c_X10_messagesAreTrue := fun w h => List.mem_cons_of_mem _ (List.mem_append_right _ h)
set_option maxHeartbeats 4000000 in
set_option maxRecDepth 100000 in
theorem c_X10_messagesAreTrue (l : Launch) (dC : Nat → ClassId) (dI : Nat → Nat → Nat) (h0 : Nat) (n0 : Nat) (st : Nat) (la : Nat) (tm : Int32) (sz : Nat)  : Met l yX10_messagesAreTrue v_c_X10_messagesAreTrue ({ frames := 0, cells := 0, slots := 0, locals := 0 }) (va_Pc [.ref h0] (fun U => U.heap.size = sz ∧ va_P (dC, dI) vwCl [(h0, .inr (11, [.ref n0, .ref st, .ref la, .int 0, .int tm, .int 0, .int (-1), .int 0]))] U.heap ∧ va_K (dC, dI) vwCl [] U ∧ va_D (fun _ => True) [(h0, .inr (11, [.ref n0, .ref st, .ref la, .int 0, .int tm, .int 0, .int (-1), .int 0]))] ∧ ev U)) (va_Qi (fun (r : Int32) (_ : Unit) => r = 1) (fun (_ : Unit) (_ : State) => True) (va_A [] sz)) 0 0 (va_A [] sz) := by
  refine Met.ofW (cc := cX10_messagesAreTrue) (maxL := 3) (ret := (some .boolean)) (by decide) rfl ?_
  intro p e s m args below meth c s₁ B hml hv
  obtain ⟨rfl, hsz, hP, hK, hD0, hE⟩ := hv
  have hx := B.exec
  have hb := B.bytes
  have hr := B.returns
  have hts := atoms_spec (ws := v_c_X10_messagesAreTrue) B.pre
  have hown : s.vm.findClass RX10 = some m.cls := findClass_of_methodNamed B.named
  have hlocks := B.notSynchronized
  subst hsz
  have hD := hD0
  generalize hAe : va_A [] s.heap.size = A
  have hA : ∀ q : Nat, s.heap.size ≤ q → A q := fun q h => by rw [← hAe]; exact Or.inr h
  have hS : va_S A s.heap s.heap [] := va_S.rf
  have hP : va_P (dC, dI) vwCl [(h0, .inr (11, [.ref n0, .ref st, .ref la, .int 0, .int tm, .int 0, .int (-1), .int 0]))] s.heap := hP
  have hl := lv_entry ([.ref h0]) (n := 3) (Nat.le_of_ble_eq_true rfl)
  rw [lg_entry_eq]
  generalize (lg_sl ([.ref h0]) ++ List.replicate (3 - (lg_sl ([.ref h0])).length) Slot.unset).toArray = ls at hl ⊢
  have hl : lv_has ls 3 [(0, .ref h0)] := hl
  obtain ⟨H, hH⟩ : ∃ z : Heap, z = s.heap := ⟨_, rfl⟩
  rw [← hH]
  have hS : va_S A s.heap H [] := by rw [hH]; exact va_S.rf
  have hP : va_P (dC, dI) vwCl [(h0, .inr (11, [.ref n0, .ref st, .ref la, .int 0, .int tm, .int 0, .int (-1), .int 0]))] H := by rw [hH]; exact hP
  clear hH
  refine lv_iconst (v := 0) hx hb dX10_messagesAreTrue_0 (by decide) ?_
  refine lv_istore_n (lv' := [(1, .int 0), (0, .ref h0)]) hx hb dX10_messagesAreTrue_1 rfl hl (by decide) rfl (fun ls hl => ?_)
  refine lv_iload_n hx hb dX10_messagesAreTrue_2 rfl (lv_at hl 0 rfl) ?_
  refine lv_aload_n hx hb dX10_messagesAreTrue_3 rfl (lv_at hl 1 rfl) ?_
  refine va_get (D := (dC, dI)) (ci := 11) (v := .int 0) (C := RX10) (T := TX10) (N := 8) hx hb hts in_c_X10_messagesAreTrue_X10 hown hK hP 0 rfl rfl 3 (by decide) (hts (.fieldLink RX10 29 "ClaimBus" "nodeCount" "I") (List.mem_of_getElem? (i := 1) rfl)) (fun _ h9 => h9) rfl dX10_messagesAreTrue_4 ?_
  refine lv_icmp_ge (tgt := 38) hx hb dX10_messagesAreTrue_7 (by decide) (fun c_1 => ?_) (fun c_1 => ?_)
  rotate_left
  · exact absurd (by decide) c_1
  refine lv_iconst (v := 1) hx hb dX10_messagesAreTrue_38 (by decide) ?_
  exact W.zret (v := 1) hx hb hr (by decide) (fun t ht hW => ⟨⟨1, (), rfl, rfl, trivial⟩, hS.F ht⟩) hS.2.2 dX10_messagesAreTrue_39

def v_c_X10_sound : List Cond := .code yX10_sound cX10_sound 1 (some .boolean) :: ([.code yX10_isDisturbed cX10_isDisturbed 3 (some .boolean), .fieldLink RX10 29 "ClaimBus" "nodeCount" "I", .fieldLink RX10 42 "ClaimBus" "stopped" "Z", .initialized RX10, .methodLink RX10 180 yX10_isDisturbed, .instanceMethod yX10_isDisturbed, .selects RX10 yX10_isDisturbed yX10_isDisturbed, .code yX10_addressesAreApart cX10_addressesAreApart 5 (some .boolean), .methodLink RX10 183 yX10_addressesAreApart, .instanceMethod yX10_addressesAreApart, .selects RX10 yX10_addressesAreApart yX10_addressesAreApart, .code yX10_messagesAreTrue cX10_messagesAreTrue 3 (some .boolean), .methodLink RX10 186 yX10_messagesAreTrue, .instanceMethod yX10_messagesAreTrue, .selects RX10 yX10_messagesAreTrue yX10_messagesAreTrue] ++ wsX100)
theorem in_c_X10_sound_X10 : ∀ w ∈ wsX100, w ∈ v_c_X10_sound := fun w h => List.mem_cons_of_mem _ (List.mem_append_right _ h)
set_option maxRecDepth 20000 in
theorem g_c_X10_sound_c_X10_isDisturbed_180 : GoodIn v_c_X10_sound (wsV RX10 180 RX10 yX10_isDisturbed v_c_X10_isDisturbed) := goodIn_r _ [5, 6, 7, 4, 1, 2, 3, 16, 17, 18, 19, 20, 21, 22, 23] (by decide +kernel) (by decide +kernel)
set_option maxRecDepth 20000 in
theorem g_c_X10_sound_c_X10_addressesAreApart_183 : GoodIn v_c_X10_sound (wsV RX10 183 RX10 yX10_addressesAreApart v_c_X10_addressesAreApart) := goodIn_r _ [9, 10, 11, 4, 8, 2, 16, 17, 18, 19, 20, 21, 22, 23] (by decide +kernel) (by decide +kernel)
set_option maxRecDepth 20000 in
theorem g_c_X10_sound_c_X10_messagesAreTrue_186 : GoodIn v_c_X10_sound (wsV RX10 186 RX10 yX10_messagesAreTrue v_c_X10_messagesAreTrue) := goodIn_r _ [13, 14, 15, 4, 12, 2, 16, 17, 18, 19, 20, 21, 22, 23] (by decide +kernel) (by decide +kernel)
set_option maxHeartbeats 4000000 in
set_option maxRecDepth 100000 in
theorem c_X10_sound (l : Launch) (dC : Nat → ClassId) (dI : Nat → Nat → Nat) (h0 : Nat) (n0 : Nat) (st : Nat) (la : Nat) (tm : Int32) (sz : Nat)  : Met l yX10_sound v_c_X10_sound ({ frames := 1, cells := 0, slots := 0, locals := 24 }) (va_Pc [.ref h0] (fun U => U.heap.size = sz ∧ va_P (dC, dI) vwCl [(h0, .inr (11, [.ref n0, .ref st, .ref la, .int 0, .int tm, .int 0, .int (-1), .int 0]))] U.heap ∧ va_K (dC, dI) vwCl [] U ∧ va_D (fun _ => True) [(h0, .inr (11, [.ref n0, .ref st, .ref la, .int 0, .int tm, .int 0, .int (-1), .int 0]))] ∧ ev U)) (va_Qi (fun (r : Int32) (_ : Unit) => r = 1) (fun (_ : Unit) (_ : State) => True) (va_A [] sz)) 0 0 (va_A [] sz) := by
  refine Met.ofW (cc := cX10_sound) (maxL := 1) (ret := (some .boolean)) (by decide) rfl ?_
  intro p e s m args below meth c s₁ B hml hv
  obtain ⟨rfl, hsz, hP, hK, hD0, hE⟩ := hv
  have hx := B.exec
  have hb := B.bytes
  have hr := B.returns
  have hts := atoms_spec (ws := v_c_X10_sound) B.pre
  have hown : s.vm.findClass RX10 = some m.cls := findClass_of_methodNamed B.named
  have hlocks := B.notSynchronized
  subst hsz
  have hD := hD0
  generalize hAe : va_A [] s.heap.size = A
  have hA : ∀ q : Nat, s.heap.size ≤ q → A q := fun q h => by rw [← hAe]; exact Or.inr h
  have hS : va_S A s.heap s.heap [] := va_S.rf
  have hP : va_P (dC, dI) vwCl [(h0, .inr (11, [.ref n0, .ref st, .ref la, .int 0, .int tm, .int 0, .int (-1), .int 0]))] s.heap := hP
  have hl := lv_entry ([.ref h0]) (n := 1) (Nat.le_of_ble_eq_true rfl)
  rw [lg_entry_eq]
  generalize (lg_sl ([.ref h0]) ++ List.replicate (1 - (lg_sl ([.ref h0])).length) Slot.unset).toArray = ls at hl ⊢
  have hl : lv_has ls 1 [(0, .ref h0)] := hl
  obtain ⟨H, hH⟩ : ∃ z : Heap, z = s.heap := ⟨_, rfl⟩
  rw [← hH]
  have hS : va_S A s.heap H [] := by rw [hH]; exact va_S.rf
  have hP : va_P (dC, dI) vwCl [(h0, .inr (11, [.ref n0, .ref st, .ref la, .int 0, .int tm, .int 0, .int (-1), .int 0]))] H := by rw [hH]; exact hP
  clear hH
  refine lv_aload_n hx hb dX10_sound_0 rfl (lv_at hl 0 rfl) ?_
  have hPc := hP.sub (ws' := [(h0, .inr (11, [.ref n0, .ref st, .ref la, .int 0, .int tm, .int 0, .int (-1), .int 0]))]) [0] rfl
  have hDc := hD.sub (ws' := [(h0, .inr (11, [.ref n0, .ref st, .ref la, .int 0, .int tm, .int 0, .int (-1), .int 0]))]) [0] (by decide) rfl
  have hKc := hK.sub (tys' := []) [] rfl
  have hFc := ro_free hS hA
  refine va_calli (va_runV (As := []) (rest := []) ⟨hx, hb, hml, hown, hts⟩ (c_X10_isDisturbed l dC dI (h0) (n0) (st) (la) (tm) H.size) (cwV 0 hts g_c_X10_sound_c_X10_isDisturbed_180 rfl rfl rfl (by decide +kernel) ⟨Nat.le_of_ble_eq_true rfl, Nat.le_of_ble_eq_true rfl⟩) ⟨fun a U g mk q => by obtain ⟨q0, q1, qP, qK, qD, qE⟩ := q; exact ⟨q0, q1, qP, va_K.moved (u := U) (U := U.calling g mk a) (Vm.Alike.refl U.vm) qK, qD, ev.same (u := U) (U := U.calling g mk a) rfl qE⟩, va_recv hKc hPc (ci := 11) (q0 := 0) rfl rfl, fun U hU hW => ⟨rfl, by rw [hU], by rw [hU]; exact hPc, va_K.moved hW.alike hKc, hDc.weaken (fun _ _ _ _ => trivial), hE.warm hW⟩⟩ rfl rfl hl.1 rfl (lv_room (Nat.le_of_ble_eq_true rfl)) dX10_sound_1 ⟨Nat.le_of_ble_eq_true rfl, Nat.le_of_ble_eq_true rfl⟩) hS (fun q _ h => hFc q h) hFc (fun r_1 u t H1 locs ht hvm hw hB hz1 hk1 hS => ?_)
  clear hPc hDc hKc
  have hP := ro_keep hP hk1
  generalize H1 = H at hP hS ⊢
  have hP : va_P (dC, dI) vwCl [(h0, .inr (11, [.ref n0, .ref st, .ref la, .int 0, .int tm, .int 0, .int (-1), .int 0]))] H := hP
  have hw := hw.symm
  subst hw
  refine lv_if_ne (tgt := 21) hx hb dX10_sound_4 (by decide) (fun c_2 => ?_) (fun c_2 => ?_)
  · exact absurd c_2 (by decide)
  refine lv_aload_n hx hb dX10_sound_7 rfl (lv_at hl 0 rfl) ?_
  have hPc := hP.sub (ws' := [(h0, .inr (11, [.ref n0, .ref st, .ref la, .int 0, .int tm, .int 0, .int (-1), .int 0]))]) [0] rfl
  have hDc := hD.sub (ws' := [(h0, .inr (11, [.ref n0, .ref st, .ref la, .int 0, .int tm, .int 0, .int (-1), .int 0]))]) [0] (by decide) rfl
  have hKc := hK.sub (tys' := []) [] rfl
  have hFc := ro_free hS hA
  refine va_calli (va_runV (As := []) (rest := []) ⟨hx, hb, hml, hown, hts⟩ (c_X10_addressesAreApart l dC dI (h0) (n0) (st) (la) (tm) H.size) (cwV 0 hts g_c_X10_sound_c_X10_addressesAreApart_183 rfl rfl rfl (by decide +kernel) ⟨Nat.le_of_ble_eq_true rfl, Nat.le_of_ble_eq_true rfl⟩) ⟨fun a U g mk q => by obtain ⟨q0, q1, qP, qK, qD, qE⟩ := q; exact ⟨q0, q1, qP, va_K.moved (u := U) (U := U.calling g mk a) (Vm.Alike.refl U.vm) qK, qD, ev.same (u := U) (U := U.calling g mk a) rfl qE⟩, va_recv hKc hPc (ci := 11) (q0 := 0) rfl rfl, fun U hU hW => ⟨rfl, by rw [hU], by rw [hU]; exact hPc, va_K.moved hW.alike hKc, hDc.weaken (fun _ _ _ _ => trivial), hE.warm hW⟩⟩ rfl rfl hl.1 rfl (lv_room (Nat.le_of_ble_eq_true rfl)) dX10_sound_8 ⟨Nat.le_of_ble_eq_true rfl, Nat.le_of_ble_eq_true rfl⟩) hS (fun q _ h => hFc q h) hFc (fun r_3 u t H1 locs ht hvm hw hB hz1 hk1 hS => ?_)
  clear hPc hDc hKc
  have hP := ro_keep hP hk1
  generalize H1 = H at hP hS ⊢
  have hP : va_P (dC, dI) vwCl [(h0, .inr (11, [.ref n0, .ref st, .ref la, .int 0, .int tm, .int 0, .int (-1), .int 0]))] H := hP
  have hw := hw.symm
  subst hw
  refine lv_if_eq (tgt := 25) hx hb dX10_sound_11 (by decide) (fun c_4 => ?_) (fun c_4 => ?_)
  · exact absurd c_4 (by decide)
  refine lv_aload_n hx hb dX10_sound_14 rfl (lv_at hl 0 rfl) ?_
  have hPc := hP.sub (ws' := [(h0, .inr (11, [.ref n0, .ref st, .ref la, .int 0, .int tm, .int 0, .int (-1), .int 0]))]) [0] rfl
  have hDc := hD.sub (ws' := [(h0, .inr (11, [.ref n0, .ref st, .ref la, .int 0, .int tm, .int 0, .int (-1), .int 0]))]) [0] (by decide) rfl
  have hKc := hK.sub (tys' := []) [] rfl
  have hFc := ro_free hS hA
  refine va_calli (va_runV (As := []) (rest := []) ⟨hx, hb, hml, hown, hts⟩ (c_X10_messagesAreTrue l dC dI (h0) (n0) (st) (la) (tm) H.size) (cwV 0 hts g_c_X10_sound_c_X10_messagesAreTrue_186 rfl rfl rfl (by decide +kernel) ⟨Nat.le_of_ble_eq_true rfl, Nat.le_of_ble_eq_true rfl⟩) ⟨fun a U g mk q => by obtain ⟨q0, q1, qP, qK, qD, qE⟩ := q; exact ⟨q0, q1, qP, va_K.moved (u := U) (U := U.calling g mk a) (Vm.Alike.refl U.vm) qK, qD, ev.same (u := U) (U := U.calling g mk a) rfl qE⟩, va_recv hKc hPc (ci := 11) (q0 := 0) rfl rfl, fun U hU hW => ⟨rfl, by rw [hU], by rw [hU]; exact hPc, va_K.moved hW.alike hKc, hDc.weaken (fun _ _ _ _ => trivial), hE.warm hW⟩⟩ rfl rfl hl.1 rfl (lv_room (Nat.le_of_ble_eq_true rfl)) dX10_sound_15 ⟨Nat.le_of_ble_eq_true rfl, Nat.le_of_ble_eq_true rfl⟩) hS (fun q _ h => hFc q h) hFc (fun r_5 u t H1 locs ht hvm hw hB hz1 hk1 hS => ?_)
  clear hPc hDc hKc
  have hP := ro_keep hP hk1
  generalize H1 = H at hP hS ⊢
  have hP : va_P (dC, dI) vwCl [(h0, .inr (11, [.ref n0, .ref st, .ref la, .int 0, .int tm, .int 0, .int (-1), .int 0]))] H := hP
  have hw := hw.symm
  subst hw
  refine lv_if_eq (tgt := 25) hx hb dX10_sound_18 (by decide) (fun c_6 => ?_) (fun c_6 => ?_)
  · exact absurd c_6 (by decide)
  refine lv_iconst (v := 1) hx hb dX10_sound_21 (by decide) ?_
  refine lv_goto (tgt := 26) hx hb dX10_sound_22 (by decide) ?_
  exact W.zret (v := 1) hx hb hr (by decide) (fun t ht hW => ⟨⟨1, (), rfl, rfl, trivial⟩, hS.F ht⟩) hS.2.2 dX10_sound_26

def v_c_X10_count : List Cond := .code yX10_count cX10_count 2 (some .int) :: ([.fieldLink RX10 29 "ClaimBus" "nodeCount" "I", .fieldLink RX10 33 "ClaimBus" "time" "I", .fieldLink RX10 36 "ClaimBus" "framesCarried" "I", .code yX10_nodesWithAddress cX10_nodesWithAddress 4 (some .int), .initialized RX10, .methodLink RX10 189 yX10_nodesWithAddress, .instanceMethod yX10_nodesWithAddress, .selects RX10 yX10_nodesWithAddress yX10_nodesWithAddress] ++ wsX100)
theorem in_c_X10_count_X10 : ∀ w ∈ wsX100, w ∈ v_c_X10_count := fun w h => List.mem_cons_of_mem _ (List.mem_append_right _ h)
set_option maxRecDepth 20000 in
theorem g_c_X10_count_c_X10_nodesWithAddress_189 : GoodIn v_c_X10_count (wsV RX10 189 RX10 yX10_nodesWithAddress v_c_X10_nodesWithAddress) := goodIn_r _ [6, 7, 8, 5, 4, 1, 9, 10, 11, 12, 13, 14, 15, 16] (by decide +kernel) (by decide +kernel)
set_option maxHeartbeats 4000000 in
set_option maxRecDepth 100000 in
theorem c_X10_count (l : Launch) (dC : Nat → ClassId) (dI : Nat → Nat → Nat) (h0 : Nat) (n0 : Nat) (st : Nat) (la : Nat) (p0 : Int32) (sz : Nat)  : Met l yX10_count v_c_X10_count ({ frames := 1, cells := 0, slots := 0, locals := 23 }) (va_Pc [.ref h0, .int p0] (fun U => U.heap.size = sz ∧ va_P (dC, dI) vwCl [(h0, .inr (11, [.ref n0, .ref st, .ref la, .int 0, .int 0, .int 0, .int (-1), .int 0]))] U.heap ∧ va_K (dC, dI) vwCl [] U ∧ va_D (fun _ => True) [(h0, .inr (11, [.ref n0, .ref st, .ref la, .int 0, .int 0, .int 0, .int (-1), .int 0]))] ∧ ev U)) (va_Qi (fun (r : Int32) (_ : Unit) => r = if p0 = 0 ∨ p0 = 1 ∨ p0 = 2 ∨ p0 = 3 then 0 else (-1)) (fun (_ : Unit) (_ : State) => True) (va_A [] sz)) 0 0 (va_A [] sz) := by
  refine Met.ofW (cc := cX10_count) (maxL := 2) (ret := (some .int)) (by decide) rfl ?_
  intro p e s m args below meth c s₁ B hml hv
  obtain ⟨rfl, hsz, hP, hK, hD0, hE⟩ := hv
  have hx := B.exec
  have hb := B.bytes
  have hr := B.returns
  have hts := atoms_spec (ws := v_c_X10_count) B.pre
  have hown : s.vm.findClass RX10 = some m.cls := findClass_of_methodNamed B.named
  have hlocks := B.notSynchronized
  subst hsz
  have hD := hD0
  generalize hAe : va_A [] s.heap.size = A
  have hA : ∀ q : Nat, s.heap.size ≤ q → A q := fun q h => by rw [← hAe]; exact Or.inr h
  have hS : va_S A s.heap s.heap [] := va_S.rf
  have hP : va_P (dC, dI) vwCl [(h0, .inr (11, [.ref n0, .ref st, .ref la, .int 0, .int 0, .int 0, .int (-1), .int 0]))] s.heap := hP
  have hl := lv_entry ([.ref h0, .int p0]) (n := 2) (Nat.le_of_ble_eq_true rfl)
  rw [lg_entry_eq]
  generalize (lg_sl ([.ref h0, .int p0]) ++ List.replicate (2 - (lg_sl ([.ref h0, .int p0])).length) Slot.unset).toArray = ls at hl ⊢
  have hl : lv_has ls 2 [(0, .ref h0), (1, .int p0)] := hl
  obtain ⟨H, hH⟩ : ∃ z : Heap, z = s.heap := ⟨_, rfl⟩
  rw [← hH]
  have hS : va_S A s.heap H [] := by rw [hH]; exact va_S.rf
  have hP : va_P (dC, dI) vwCl [(h0, .inr (11, [.ref n0, .ref st, .ref la, .int 0, .int 0, .int 0, .int (-1), .int 0]))] H := by rw [hH]; exact hP
  clear hH
  refine lv_iload_n hx hb dX10_count_0 rfl (lv_at hl 1 rfl) ?_
  rcases (by omega : p0.toInt < 0 ∨ p0.toInt = 0 ∨ p0.toInt = 1 ∨ p0.toInt = 2 ∨ p0.toInt = 3 ∨ 3 < p0.toInt) with c_1 | c_1 | c_1 | c_1 | c_1 | c_1
  · refine lv_tableOut (tgt := 52) hx hb dX10_count_1 (Or.inl c_1) (by decide) ?_
    refine lv_iconst (v := -1) hx hb dX10_count_52 (by decide) ?_
    exact W.iret (v := (-1)) hx hb hr (fun t ht hW => ⟨⟨(-1), (), rfl, (by rw [if_neg]; rintro (rfl | rfl | rfl | rfl) <;> exact absurd c_1 (by decide)), trivial⟩, hS.F ht⟩) hS.2.2 dX10_count_53
  · obtain rfl : p0 = 0 := Int32.toInt_inj.mp (c_1.trans (by decide))
    refine lv_tableIn (tgt := 32) hx hb dX10_count_1 (by decide) (by decide) rfl (by decide) ?_
    refine lv_aload_n hx hb dX10_count_32 rfl (lv_at hl 0 rfl) ?_
    refine va_get (D := (dC, dI)) (ci := 11) (v := .int 0) (C := RX10) (T := TX10) (N := 8) hx hb hts in_c_X10_count_X10 hown hK hP 0 rfl rfl 3 (by decide) (hts (.fieldLink RX10 29 "ClaimBus" "nodeCount" "I") (List.mem_of_getElem? (i := 1) rfl)) (fun _ h9 => h9) rfl dX10_count_33 ?_
    exact W.iret (v := 0) hx hb hr (fun t ht hW => ⟨⟨0, (), rfl, (by decide), trivial⟩, hS.F ht⟩) hS.2.2 dX10_count_36
  · obtain rfl : p0 = 1 := Int32.toInt_inj.mp (c_1.trans (by decide))
    refine lv_tableIn (tgt := 37) hx hb dX10_count_1 (by decide) (by decide) rfl (by decide) ?_
    refine lv_aload_n hx hb dX10_count_37 rfl (lv_at hl 0 rfl) ?_
    refine va_get (D := (dC, dI)) (ci := 11) (v := .int 0) (C := RX10) (T := TX10) (N := 8) hx hb hts in_c_X10_count_X10 hown hK hP 0 rfl rfl 4 (by decide) (hts (.fieldLink RX10 33 "ClaimBus" "time" "I") (List.mem_of_getElem? (i := 2) rfl)) (fun _ h9 => h9) rfl dX10_count_38 ?_
    exact W.iret (v := 0) hx hb hr (fun t ht hW => ⟨⟨0, (), rfl, (by decide), trivial⟩, hS.F ht⟩) hS.2.2 dX10_count_41
  · obtain rfl : p0 = 2 := Int32.toInt_inj.mp (c_1.trans (by decide))
    refine lv_tableIn (tgt := 42) hx hb dX10_count_1 (by decide) (by decide) rfl (by decide) ?_
    refine lv_aload_n hx hb dX10_count_42 rfl (lv_at hl 0 rfl) ?_
    refine va_get (D := (dC, dI)) (ci := 11) (v := .int 0) (C := RX10) (T := TX10) (N := 8) hx hb hts in_c_X10_count_X10 hown hK hP 0 rfl rfl 5 (by decide) (hts (.fieldLink RX10 36 "ClaimBus" "framesCarried" "I") (List.mem_of_getElem? (i := 3) rfl)) (fun _ h9 => h9) rfl dX10_count_43 ?_
    exact W.iret (v := 0) hx hb hr (fun t ht hW => ⟨⟨0, (), rfl, (by decide), trivial⟩, hS.F ht⟩) hS.2.2 dX10_count_46
  · obtain rfl : p0 = 3 := Int32.toInt_inj.mp (c_1.trans (by decide))
    refine lv_tableIn (tgt := 47) hx hb dX10_count_1 (by decide) (by decide) rfl (by decide) ?_
    refine lv_aload_n hx hb dX10_count_47 rfl (lv_at hl 0 rfl) ?_
    have hPc := hP.sub (ws' := [(h0, .inr (11, [.ref n0, .ref st, .ref la, .int 0, .int 0, .int 0, .int (-1), .int 0]))]) [0] rfl
    have hDc := hD.sub (ws' := [(h0, .inr (11, [.ref n0, .ref st, .ref la, .int 0, .int 0, .int 0, .int (-1), .int 0]))]) [0] (by decide) rfl
    have hKc := hK.sub (tys' := []) [] rfl
    have hFc := ro_free hS hA
    refine va_calli (va_runV (As := []) (rest := []) ⟨hx, hb, hml, hown, hts⟩ (c_X10_nodesWithAddress l dC dI (h0) (n0) (st) (la) (0) H.size) (cwV 0 hts g_c_X10_count_c_X10_nodesWithAddress_189 rfl rfl rfl (by decide +kernel) ⟨Nat.le_of_ble_eq_true rfl, Nat.le_of_ble_eq_true rfl⟩) ⟨fun a U g mk q => by obtain ⟨q0, q1, qP, qK, qD, qE⟩ := q; exact ⟨q0, q1, qP, va_K.moved (u := U) (U := U.calling g mk a) (Vm.Alike.refl U.vm) qK, qD, ev.same (u := U) (U := U.calling g mk a) rfl qE⟩, va_recv hKc hPc (ci := 11) (q0 := 0) rfl rfl, fun U hU hW => ⟨rfl, by rw [hU], by rw [hU]; exact hPc, va_K.moved hW.alike hKc, hDc.weaken (fun _ _ _ _ => trivial), hE.warm hW⟩⟩ rfl rfl hl.1 rfl (lv_room (Nat.le_of_ble_eq_true rfl)) dX10_count_48 ⟨Nat.le_of_ble_eq_true rfl, Nat.le_of_ble_eq_true rfl⟩) hS (fun q _ h => hFc q h) hFc (fun r_2 u t H1 locs ht hvm hw hB hz1 hk1 hS => ?_)
    clear hPc hDc hKc
    have hP := ro_keep hP hk1
    generalize H1 = H at hP hS ⊢
    have hP : va_P (dC, dI) vwCl [(h0, .inr (11, [.ref n0, .ref st, .ref la, .int 0, .int 0, .int 0, .int (-1), .int 0]))] H := hP
    have hw := hw.symm
    subst hw
    exact W.iret (v := 0) hx hb hr (fun t ht hW => ⟨⟨0, (), rfl, (by decide), trivial⟩, hS.F ht⟩) hS.2.2 dX10_count_51
  · refine lv_tableOut (tgt := 52) hx hb dX10_count_1 (Or.inr c_1) (by decide) ?_
    refine lv_iconst (v := -1) hx hb dX10_count_52 (by decide) ?_
    exact W.iret (v := (-1)) hx hb hr (fun t ht hW => ⟨⟨(-1), (), rfl, (by rw [if_neg]; rintro (rfl | rfl | rfl | rfl) <;> exact absurd c_1 (by decide)), trivial⟩, hS.F ht⟩) hS.2.2 dX10_count_53

def v_c_X10_nextMoment : List Cond := .code yX10_nextMoment cX10_nextMoment 5 (some .int) :: ([.fieldLink RX10 29 "ClaimBus" "nodeCount" "I", .fieldLink RX10 33 "ClaimBus" "time" "I", .methodLink RX10 207 Lib.Math.max.name, .static Lib.Math.max.name, .initialized "java/lang/Math", .code Lib.Math.max.name Lib.Math.max.code 2 (some .int)] ++ wsX100)
theorem in_c_X10_nextMoment_X10 : ∀ w ∈ wsX100, w ∈ v_c_X10_nextMoment := fun w h => List.mem_cons_of_mem _ (List.mem_append_right _ h)
set_option maxHeartbeats 4000000 in
set_option maxRecDepth 100000 in
theorem c_X10_nextMoment (l : Launch) (dC : Nat → ClassId) (dI : Nat → Nat → Nat) (h0 : Nat) (n0 : Nat) (st : Nat) (la : Nat) (p0 : Int32) (sz : Nat) (h1 : ¬ p0 < 1) : Met l yX10_nextMoment v_c_X10_nextMoment ({ frames := 1, cells := 0, slots := 0, locals := 13 }) (va_Pc [.ref h0, .int p0] (fun U => U.heap.size = sz ∧ va_P (dC, dI) vwCl [(h0, .inr (11, [.ref n0, .ref st, .ref la, .int 0, .int 0, .int 0, .int (-1), .int 0]))] U.heap ∧ va_K (dC, dI) vwCl [] U ∧ va_D (fun _ => True) [(h0, .inr (11, [.ref n0, .ref st, .ref la, .int 0, .int 0, .int 0, .int (-1), .int 0]))] ∧ ev U)) (va_Qi (fun (r : Int32) (_ : Unit) => r = p0) (fun (_ : Unit) (_ : State) => True) (va_A [] sz)) 0 0 (va_A [] sz) := by
  refine Met.ofW (cc := cX10_nextMoment) (maxL := 5) (ret := (some .int)) (by decide) rfl ?_
  intro p e s m args below meth c s₁ B hml hv
  obtain ⟨rfl, hsz, hP, hK, hD0, hE⟩ := hv
  have hx := B.exec
  have hb := B.bytes
  have hr := B.returns
  have hts := atoms_spec (ws := v_c_X10_nextMoment) B.pre
  have hown : s.vm.findClass RX10 = some m.cls := findClass_of_methodNamed B.named
  have hlocks := B.notSynchronized
  subst hsz
  have hD := hD0
  generalize hAe : va_A [] s.heap.size = A
  have hA : ∀ q : Nat, s.heap.size ≤ q → A q := fun q h => by rw [← hAe]; exact Or.inr h
  have hS : va_S A s.heap s.heap [] := va_S.rf
  have hP : va_P (dC, dI) vwCl [(h0, .inr (11, [.ref n0, .ref st, .ref la, .int 0, .int 0, .int 0, .int (-1), .int 0]))] s.heap := hP
  have hl := lv_entry ([.ref h0, .int p0]) (n := 5) (Nat.le_of_ble_eq_true rfl)
  rw [lg_entry_eq]
  generalize (lg_sl ([.ref h0, .int p0]) ++ List.replicate (5 - (lg_sl ([.ref h0, .int p0])).length) Slot.unset).toArray = ls at hl ⊢
  have hl : lv_has ls 5 [(0, .ref h0), (1, .int p0)] := hl
  obtain ⟨H, hH⟩ : ∃ z : Heap, z = s.heap := ⟨_, rfl⟩
  rw [← hH]
  have hS : va_S A s.heap H [] := by rw [hH]; exact va_S.rf
  have hP : va_P (dC, dI) vwCl [(h0, .inr (11, [.ref n0, .ref st, .ref la, .int 0, .int 0, .int 0, .int (-1), .int 0]))] H := by rw [hH]; exact hP
  clear hH
  refine lv_iload_n hx hb dX10_nextMoment_0 rfl (lv_at hl 1 rfl) ?_
  refine lv_istore_n (lv' := [(2, .int p0), (0, .ref h0), (1, .int p0)]) hx hb dX10_nextMoment_1 rfl hl (by decide) rfl (fun ls hl => ?_)
  refine lv_iconst (v := 0) hx hb dX10_nextMoment_2 (by decide) ?_
  refine lv_istore_n (lv' := [(3, .int 0), (2, .int p0), (0, .ref h0), (1, .int p0)]) hx hb dX10_nextMoment_3 rfl hl (by decide) rfl (fun ls hl => ?_)
  refine lv_iload_n hx hb dX10_nextMoment_4 rfl (lv_at hl 0 rfl) ?_
  refine lv_aload_n hx hb dX10_nextMoment_5 rfl (lv_at hl 2 rfl) ?_
  refine va_get (D := (dC, dI)) (ci := 11) (v := .int 0) (C := RX10) (T := TX10) (N := 8) hx hb hts in_c_X10_nextMoment_X10 hown hK hP 0 rfl rfl 3 (by decide) (hts (.fieldLink RX10 29 "ClaimBus" "nodeCount" "I") (List.mem_of_getElem? (i := 1) rfl)) (fun _ h9 => h9) rfl dX10_nextMoment_6 ?_
  refine lv_icmp_ge (tgt := 63) hx hb dX10_nextMoment_9 (by decide) (fun c_1 => ?_) (fun c_1 => ?_)
  rotate_left
  · exact absurd (by decide) c_1
  refine lv_aload_n hx hb dX10_nextMoment_63 rfl (lv_at hl 2 rfl) ?_
  refine va_get (D := (dC, dI)) (ci := 11) (v := .int 0) (C := RX10) (T := TX10) (N := 8) hx hb hts in_c_X10_nextMoment_X10 hown hK hP 0 rfl rfl 4 (by decide) (hts (.fieldLink RX10 33 "ClaimBus" "time" "I") (List.mem_of_getElem? (i := 2) rfl)) (fun _ h9 => h9) rfl dX10_nextMoment_64 ?_
  refine lv_iconst (v := 1) hx hb dX10_nextMoment_67 (by decide) ?_
  refine lv_iadd hx hb dX10_nextMoment_68 ?_
  refine lv_topi (fun x_2 ex_2 => ?_)
  obtain rfl : x_2 = 1 := ex_2.trans (by decide)
  refine lv_iload_n hx hb dX10_nextMoment_69 rfl (lv_at hl 1 rfl) ?_
  refine va_mmax hx hb (by rw [hml]; exact hl.1.symm) hown (hts (.methodLink RX10 207 Lib.Math.max.name) (List.mem_of_getElem? (i := 3) rfl)) (hts (.static Lib.Math.max.name) (List.mem_of_getElem? (i := 4) rfl)) (hts (.initialized "java/lang/Math") (List.mem_of_getElem? (i := 5) rfl)) (hts (.code Lib.Math.max.name Lib.Math.max.code 2 (some .int)) (List.mem_of_getElem? (i := 6) rfl)) (Nat.le_of_ble_eq_true rfl) (Nat.le_of_ble_eq_true rfl) (Nat.zero_le _) (Nat.zero_le _) dX10_nextMoment_70 ?_
  refine lv_topi (fun x_3 ex_3 => ?_)
  exact W.iret (v := x_3) hx hb hr (fun t ht hW => ⟨⟨x_3, (), rfl, (by rw [ex_3]; by_cases h : (1 : Int32) < p0
      · rw [if_pos h]
      · rw [if_neg h]; exact Int32.le_antisymm (Int32.not_lt.mp h1) (Int32.not_lt.mp h)), trivial⟩, hS.F ht⟩) hS.2.2 dX10_nextMoment_73

def v_c_X10_runTimers : List Cond := .code yX10_runTimers cX10_runTimers 3 none :: ([.fieldLink RX10 29 "ClaimBus" "nodeCount" "I"] ++ wsX100)
theorem in_c_X10_runTimers_X10 : ∀ w ∈ wsX100, w ∈ v_c_X10_runTimers := fun w h => List.mem_cons_of_mem _ (List.mem_append_right _ h)
set_option maxHeartbeats 4000000 in
set_option maxRecDepth 100000 in
theorem c_X10_runTimers (l : Launch) (dC : Nat → ClassId) (dI : Nat → Nat → Nat) (h0 : Nat) (n0 : Nat) (st : Nat) (la : Nat) (tm : Int32) (sz : Nat)  : Met l yX10_runTimers v_c_X10_runTimers ({ frames := 0, cells := 0, slots := 0, locals := 0 }) (va_Pc [.ref h0] (fun U => U.heap.size = sz ∧ va_P (dC, dI) vwCl [(h0, .inr (11, [.ref n0, .ref st, .ref la, .int 0, .int tm, .int 0, .int (-1), .int 0]))] U.heap ∧ va_K (dC, dI) vwCl [] U ∧ va_D (fun _ => True) [(h0, .inr (11, [.ref n0, .ref st, .ref la, .int 0, .int tm, .int 0, .int (-1), .int 0]))] ∧ ev U)) (va_Qv (fun _ : Unit => True) (fun (_ : Unit) (_ : State) => True) (va_A [] sz)) 0 0 (va_A [] sz) := by
  refine Met.ofW (cc := cX10_runTimers) (maxL := 3) (ret := none) (by decide) rfl ?_
  intro p e s m args below meth c s₁ B hml hv
  obtain ⟨rfl, hsz, hP, hK, hD0, hE⟩ := hv
  have hx := B.exec
  have hb := B.bytes
  have hr := B.returns
  have hts := atoms_spec (ws := v_c_X10_runTimers) B.pre
  have hown : s.vm.findClass RX10 = some m.cls := findClass_of_methodNamed B.named
  have hlocks := B.notSynchronized
  subst hsz
  have hD := hD0
  generalize hAe : va_A [] s.heap.size = A
  have hA : ∀ q : Nat, s.heap.size ≤ q → A q := fun q h => by rw [← hAe]; exact Or.inr h
  have hS : va_S A s.heap s.heap [] := va_S.rf
  have hP : va_P (dC, dI) vwCl [(h0, .inr (11, [.ref n0, .ref st, .ref la, .int 0, .int tm, .int 0, .int (-1), .int 0]))] s.heap := hP
  have hl := lv_entry ([.ref h0]) (n := 3) (Nat.le_of_ble_eq_true rfl)
  rw [lg_entry_eq]
  generalize (lg_sl ([.ref h0]) ++ List.replicate (3 - (lg_sl ([.ref h0])).length) Slot.unset).toArray = ls at hl ⊢
  have hl : lv_has ls 3 [(0, .ref h0)] := hl
  obtain ⟨H, hH⟩ : ∃ z : Heap, z = s.heap := ⟨_, rfl⟩
  rw [← hH]
  have hS : va_S A s.heap H [] := by rw [hH]; exact va_S.rf
  have hP : va_P (dC, dI) vwCl [(h0, .inr (11, [.ref n0, .ref st, .ref la, .int 0, .int tm, .int 0, .int (-1), .int 0]))] H := by rw [hH]; exact hP
  clear hH
  refine lv_iconst (v := 0) hx hb dX10_runTimers_0 (by decide) ?_
  refine lv_istore_n (lv' := [(1, .int 0), (0, .ref h0)]) hx hb dX10_runTimers_1 rfl hl (by decide) rfl (fun ls hl => ?_)
  refine lv_iload_n hx hb dX10_runTimers_2 rfl (lv_at hl 0 rfl) ?_
  refine lv_aload_n hx hb dX10_runTimers_3 rfl (lv_at hl 1 rfl) ?_
  refine va_get (D := (dC, dI)) (ci := 11) (v := .int 0) (C := RX10) (T := TX10) (N := 8) hx hb hts in_c_X10_runTimers_X10 hown hK hP 0 rfl rfl 3 (by decide) (hts (.fieldLink RX10 29 "ClaimBus" "nodeCount" "I") (List.mem_of_getElem? (i := 1) rfl)) (fun _ h9 => h9) rfl dX10_runTimers_4 ?_
  refine lv_icmp_ge (tgt := 34) hx hb dX10_runTimers_7 (by decide) (fun c_1 => ?_) (fun c_1 => ?_)
  rotate_left
  · exact absurd (by decide) c_1
  exact W.vret hx hb hr (fun t ht hW => ⟨⟨(), rfl, trivial, trivial⟩, hS.F ht⟩) hS.2.2 dX10_runTimers_34

def v_c_X10_firstToSend : List Cond := .code yX10_firstToSend cX10_firstToSend 6 (some .int) :: ([.fieldLink RX10 29 "ClaimBus" "nodeCount" "I"] ++ wsX100)
theorem in_c_X10_firstToSend_X10 : ∀ w ∈ wsX100, w ∈ v_c_X10_firstToSend := fun w h => List.mem_cons_of_mem _ (List.mem_append_right _ h)
set_option maxHeartbeats 4000000 in
set_option maxRecDepth 100000 in
theorem c_X10_firstToSend (l : Launch) (dC : Nat → ClassId) (dI : Nat → Nat → Nat) (h0 : Nat) (n0 : Nat) (st : Nat) (la : Nat) (tm : Int32) (sz : Nat)  : Met l yX10_firstToSend v_c_X10_firstToSend ({ frames := 0, cells := 0, slots := 0, locals := 0 }) (va_Pc [.ref h0] (fun U => U.heap.size = sz ∧ va_P (dC, dI) vwCl [(h0, .inr (11, [.ref n0, .ref st, .ref la, .int 0, .int tm, .int 0, .int (-1), .int 0]))] U.heap ∧ va_K (dC, dI) vwCl [] U ∧ va_D (fun _ => True) [(h0, .inr (11, [.ref n0, .ref st, .ref la, .int 0, .int tm, .int 0, .int (-1), .int 0]))] ∧ ev U)) (va_Qi (fun (r : Int32) (_ : Unit) => r = (-1)) (fun (_ : Unit) (_ : State) => True) (va_A [] sz)) 0 0 (va_A [] sz) := by
  refine Met.ofW (cc := cX10_firstToSend) (maxL := 6) (ret := (some .int)) (by decide) rfl ?_
  intro p e s m args below meth c s₁ B hml hv
  obtain ⟨rfl, hsz, hP, hK, hD0, hE⟩ := hv
  have hx := B.exec
  have hb := B.bytes
  have hr := B.returns
  have hts := atoms_spec (ws := v_c_X10_firstToSend) B.pre
  have hown : s.vm.findClass RX10 = some m.cls := findClass_of_methodNamed B.named
  have hlocks := B.notSynchronized
  subst hsz
  have hD := hD0
  generalize hAe : va_A [] s.heap.size = A
  have hA : ∀ q : Nat, s.heap.size ≤ q → A q := fun q h => by rw [← hAe]; exact Or.inr h
  have hS : va_S A s.heap s.heap [] := va_S.rf
  have hP : va_P (dC, dI) vwCl [(h0, .inr (11, [.ref n0, .ref st, .ref la, .int 0, .int tm, .int 0, .int (-1), .int 0]))] s.heap := hP
  have hl := lv_entry ([.ref h0]) (n := 6) (Nat.le_of_ble_eq_true rfl)
  rw [lg_entry_eq]
  generalize (lg_sl ([.ref h0]) ++ List.replicate (6 - (lg_sl ([.ref h0])).length) Slot.unset).toArray = ls at hl ⊢
  have hl : lv_has ls 6 [(0, .ref h0)] := hl
  obtain ⟨H, hH⟩ : ∃ z : Heap, z = s.heap := ⟨_, rfl⟩
  rw [← hH]
  have hS : va_S A s.heap H [] := by rw [hH]; exact va_S.rf
  have hP : va_P (dC, dI) vwCl [(h0, .inr (11, [.ref n0, .ref st, .ref la, .int 0, .int tm, .int 0, .int (-1), .int 0]))] H := by rw [hH]; exact hP
  clear hH
  refine lv_iconst (v := -1) hx hb dX10_firstToSend_0 (by decide) ?_
  refine lv_istore_n (lv' := [(1, .int (-1)), (0, .ref h0)]) hx hb dX10_firstToSend_1 rfl hl (by decide) rfl (fun ls hl => ?_)
  refine lv_null hx hb dX10_firstToSend_2 ?_
  refine lv_astore_nN (lv' := [(2, .null), (1, .int (-1)), (0, .ref h0)]) hx hb dX10_firstToSend_3 rfl hl (by decide) rfl (fun ls hl => ?_)
  refine lv_iconst (v := 0) hx hb dX10_firstToSend_4 (by decide) ?_
  refine lv_istore_n (lv' := [(3, .int 0), (2, .null), (1, .int (-1)), (0, .ref h0)]) hx hb dX10_firstToSend_5 rfl hl (by decide) rfl (fun ls hl => ?_)
  refine lv_iload_n hx hb dX10_firstToSend_6 rfl (lv_at hl 0 rfl) ?_
  refine lv_aload_n hx hb dX10_firstToSend_7 rfl (lv_at hl 3 rfl) ?_
  refine va_get (D := (dC, dI)) (ci := 11) (v := .int 0) (C := RX10) (T := TX10) (N := 8) hx hb hts in_c_X10_firstToSend_X10 hown hK hP 0 rfl rfl 3 (by decide) (hts (.fieldLink RX10 29 "ClaimBus" "nodeCount" "I") (List.mem_of_getElem? (i := 1) rfl)) (fun _ h9 => h9) rfl dX10_firstToSend_8 ?_
  refine lv_icmp_ge (tgt := 74) hx hb dX10_firstToSend_11 (by decide) (fun c_1 => ?_) (fun c_1 => ?_)
  rotate_left
  · exact absurd (by decide) c_1
  refine lv_aload_nN hx hb dX10_firstToSend_74 rfl (lv_at hl 1 rfl) ?_
  refine lv_ifnullN (tgt := 86) hx hb dX10_firstToSend_75 (by decide) ?_
  refine lv_iload_n hx hb dX10_firstToSend_86 rfl (lv_at hl 2 rfl) ?_
  exact W.iret (v := (-1)) hx hb hr (fun t ht hW => ⟨⟨(-1), (), rfl, rfl, trivial⟩, hS.F ht⟩) hS.2.2 dX10_firstToSend_87

def v_c_X10_carryFrame : List Cond := .code yX10_carryFrame cX10_carryFrame 5 none :: ([.code yX10_firstToSend cX10_firstToSend 6 (some .int), .fieldLink RX10 29 "ClaimBus" "nodeCount" "I", .initialized RX10, .methodLink RX10 212 yX10_firstToSend, .instanceMethod yX10_firstToSend, .selects RX10 yX10_firstToSend yX10_firstToSend, .code yX10_find cX10_find 2 (some (.object "ClaimBus$Node")), .methodLink RX10 53 yX10_find, .instanceMethod yX10_find, .selects RX10 yX10_find yX10_find] ++ wsX100)
theorem in_c_X10_carryFrame_X10 : ∀ w ∈ wsX100, w ∈ v_c_X10_carryFrame := fun w h => List.mem_cons_of_mem _ (List.mem_append_right _ h)
set_option maxRecDepth 20000 in
theorem g_c_X10_carryFrame_c_X10_firstToSend_212 : GoodIn v_c_X10_carryFrame (wsV RX10 212 RX10 yX10_firstToSend v_c_X10_firstToSend) := goodIn_r _ [4, 5, 6, 3, 1, 2, 11, 12, 13, 14, 15, 16, 17, 18] (by decide +kernel) (by decide +kernel)
set_option maxRecDepth 20000 in
theorem g_c_X10_carryFrame_c_X10_find_53 : GoodIn v_c_X10_carryFrame (wsV RX10 53 RX10 yX10_find v_c_X10_find) := goodIn_r _ [8, 9, 10, 3, 7, 2, 11, 12, 13, 14, 15, 16, 17, 18] (by decide +kernel) (by decide +kernel)
set_option maxHeartbeats 4000000 in
set_option maxRecDepth 100000 in
theorem c_X10_carryFrame (l : Launch) (dC : Nat → ClassId) (dI : Nat → Nat → Nat) (h0 : Nat) (n0 : Nat) (st : Nat) (la : Nat) (tm : Int32) (sz : Nat)  : Met l yX10_carryFrame v_c_X10_carryFrame ({ frames := 1, cells := 0, slots := 0, locals := 25 }) (va_Pc [.ref h0] (fun U => U.heap.size = sz ∧ va_P (dC, dI) vwCl [(h0, .inr (11, [.ref n0, .ref st, .ref la, .int 0, .int tm, .int 0, .int (-1), .int 0]))] U.heap ∧ va_K (dC, dI) vwCl [] U ∧ va_D (fun _ => True) [(h0, .inr (11, [.ref n0, .ref st, .ref la, .int 0, .int tm, .int 0, .int (-1), .int 0]))] ∧ ev U)) (va_Qv (fun _ : Unit => True) (fun (_ : Unit) (_ : State) => True) (va_A [] sz)) 0 0 (va_A [] sz) := by
  refine Met.ofW (cc := cX10_carryFrame) (maxL := 5) (ret := none) (by decide) rfl ?_
  intro p e s m args below meth c s₁ B hml hv
  obtain ⟨rfl, hsz, hP, hK, hD0, hE⟩ := hv
  have hx := B.exec
  have hb := B.bytes
  have hr := B.returns
  have hts := atoms_spec (ws := v_c_X10_carryFrame) B.pre
  have hown : s.vm.findClass RX10 = some m.cls := findClass_of_methodNamed B.named
  have hlocks := B.notSynchronized
  subst hsz
  have hD := hD0
  generalize hAe : va_A [] s.heap.size = A
  have hA : ∀ q : Nat, s.heap.size ≤ q → A q := fun q h => by rw [← hAe]; exact Or.inr h
  have hS : va_S A s.heap s.heap [] := va_S.rf
  have hP : va_P (dC, dI) vwCl [(h0, .inr (11, [.ref n0, .ref st, .ref la, .int 0, .int tm, .int 0, .int (-1), .int 0]))] s.heap := hP
  have hl := lv_entry ([.ref h0]) (n := 5) (Nat.le_of_ble_eq_true rfl)
  rw [lg_entry_eq]
  generalize (lg_sl ([.ref h0]) ++ List.replicate (5 - (lg_sl ([.ref h0])).length) Slot.unset).toArray = ls at hl ⊢
  have hl : lv_has ls 5 [(0, .ref h0)] := hl
  obtain ⟨H, hH⟩ : ∃ z : Heap, z = s.heap := ⟨_, rfl⟩
  rw [← hH]
  have hS : va_S A s.heap H [] := by rw [hH]; exact va_S.rf
  have hP : va_P (dC, dI) vwCl [(h0, .inr (11, [.ref n0, .ref st, .ref la, .int 0, .int tm, .int 0, .int (-1), .int 0]))] H := by rw [hH]; exact hP
  clear hH
  refine lv_aload_n hx hb dX10_carryFrame_0 rfl (lv_at hl 0 rfl) ?_
  have hPc := hP.sub (ws' := [(h0, .inr (11, [.ref n0, .ref st, .ref la, .int 0, .int tm, .int 0, .int (-1), .int 0]))]) [0] rfl
  have hDc := hD.sub (ws' := [(h0, .inr (11, [.ref n0, .ref st, .ref la, .int 0, .int tm, .int 0, .int (-1), .int 0]))]) [0] (by decide) rfl
  have hKc := hK.sub (tys' := []) [] rfl
  have hFc := ro_free hS hA
  refine va_calli (va_runV (As := []) (rest := []) ⟨hx, hb, hml, hown, hts⟩ (c_X10_firstToSend l dC dI (h0) (n0) (st) (la) (tm) H.size) (cwV 0 hts g_c_X10_carryFrame_c_X10_firstToSend_212 rfl rfl rfl (by decide +kernel) ⟨Nat.le_of_ble_eq_true rfl, Nat.le_of_ble_eq_true rfl⟩) ⟨fun a U g mk q => by obtain ⟨q0, q1, qP, qK, qD, qE⟩ := q; exact ⟨q0, q1, qP, va_K.moved (u := U) (U := U.calling g mk a) (Vm.Alike.refl U.vm) qK, qD, ev.same (u := U) (U := U.calling g mk a) rfl qE⟩, va_recv hKc hPc (ci := 11) (q0 := 0) rfl rfl, fun U hU hW => ⟨rfl, by rw [hU], by rw [hU]; exact hPc, va_K.moved hW.alike hKc, hDc.weaken (fun _ _ _ _ => trivial), hE.warm hW⟩⟩ rfl rfl hl.1 rfl (lv_room (Nat.le_of_ble_eq_true rfl)) dX10_carryFrame_1 ⟨Nat.le_of_ble_eq_true rfl, Nat.le_of_ble_eq_true rfl⟩) hS (fun q _ h => hFc q h) hFc (fun r_1 u t H1 locs ht hvm hw hB hz1 hk1 hS => ?_)
  clear hPc hDc hKc
  have hP := ro_keep hP hk1
  generalize H1 = H at hP hS ⊢
  have hP : va_P (dC, dI) vwCl [(h0, .inr (11, [.ref n0, .ref st, .ref la, .int 0, .int tm, .int 0, .int (-1), .int 0]))] H := hP
  have hw := hw.symm
  subst hw
  refine lv_istore_n (lv' := [(1, .int (-1)), (0, .ref h0)]) hx hb dX10_carryFrame_4 rfl hl (by decide) rfl (fun ls hl => ?_)
  refine lv_aload_n hx hb dX10_carryFrame_5 rfl (lv_at hl 1 rfl) ?_
  refine lv_iload_n hx hb dX10_carryFrame_6 rfl (lv_at hl 0 rfl) ?_
  have hPc := hP.sub (ws' := [(h0, .inr (11, [.ref n0, .ref st, .ref la, .int 0, .int tm, .int 0, .int (-1), .int 0]))]) [0] rfl
  have hDc := hD.sub (ws' := [(h0, .inr (11, [.ref n0, .ref st, .ref la, .int 0, .int tm, .int 0, .int (-1), .int 0]))]) [0] (by decide) rfl
  have hKc := hK.sub (tys' := []) [] rfl
  have hFc := ro_free hS hA
  refine va_callq (va_runV (As := [.int (-1)]) (rest := []) ⟨hx, hb, hml, hown, hts⟩ (c_X10_find l dC dI (h0) (n0) (st) (la) (tm) ((-1)) H.size) (cwV 1 hts g_c_X10_carryFrame_c_X10_find_53 rfl rfl rfl (by decide +kernel) ⟨Nat.le_of_ble_eq_true rfl, Nat.le_of_ble_eq_true rfl⟩) ⟨fun a U g mk q => by obtain ⟨q0, q1, qP, qK, qD, qE⟩ := q; exact ⟨q0, q1, qP, va_K.moved (u := U) (U := U.calling g mk a) (Vm.Alike.refl U.vm) qK, qD, ev.same (u := U) (U := U.calling g mk a) rfl qE⟩, va_recv hKc hPc (ci := 11) (q0 := 0) rfl rfl, fun U hU hW => ⟨rfl, by rw [hU], by rw [hU]; exact hPc, va_K.moved hW.alike hKc, hDc.weaken (fun _ _ _ _ => trivial), hE.warm hW⟩⟩ rfl rfl hl.1 rfl (lv_room (Nat.le_of_ble_eq_true rfl)) dX10_carryFrame_7 ⟨Nat.le_of_ble_eq_true rfl, Nat.le_of_ble_eq_true rfl⟩) hS (fun q _ h => hFc q h) hFc (fun r_2 u t H1 locs ht hvm hw hB hz1 hk1 hS => ?_)
  clear hPc hDc hKc
  have hP := ro_keep hP hk1
  generalize H1 = H at hP hS ⊢
  have hP : va_P (dC, dI) vwCl [(h0, .inr (11, [.ref n0, .ref st, .ref la, .int 0, .int tm, .int 0, .int (-1), .int 0]))] H := hP
  obtain rfl : r_2 = none := hw
  refine W.eq (g2 := F0 m 10 ls [.null]) rfl ?_
  refine lv_astore_nN (lv' := [(2, .null), (1, .int (-1)), (0, .ref h0)]) hx hb dX10_carryFrame_10 rfl hl (by decide) rfl (fun ls hl => ?_)
  refine lv_aload_nN hx hb dX10_carryFrame_11 rfl (lv_at hl 0 rfl) ?_
  refine lv_ifnonnullN hx hb dX10_carryFrame_12 ?_
  exact W.vret hx hb hr (fun t ht hW => ⟨⟨(), rfl, trivial, trivial⟩, hS.F ht⟩) hS.2.2 dX10_carryFrame_15

def v_c_X10_pass : List Cond := .code yX10_pass cX10_pass 4 (some .int) :: ([.fieldLink RX10 33 "ClaimBus" "time" "I", .code yX10_nextMoment cX10_nextMoment 5 (some .int), .fieldLink RX10 29 "ClaimBus" "nodeCount" "I", .methodLink RX10 207 Lib.Math.max.name, .static Lib.Math.max.name, .initialized "java/lang/Math", .code Lib.Math.max.name Lib.Math.max.code 2 (some .int), .initialized RX10, .methodLink RX10 116 yX10_nextMoment, .instanceMethod yX10_nextMoment, .selects RX10 yX10_nextMoment yX10_nextMoment, .code yX10_runTimers cX10_runTimers 3 none, .methodLink RX10 120 yX10_runTimers, .instanceMethod yX10_runTimers, .selects RX10 yX10_runTimers yX10_runTimers, .code yX10_carryFrame cX10_carryFrame 5 none, .code yX10_firstToSend cX10_firstToSend 6 (some .int), .methodLink RX10 212 yX10_firstToSend, .instanceMethod yX10_firstToSend, .selects RX10 yX10_firstToSend yX10_firstToSend, .code yX10_find cX10_find 2 (some (.object "ClaimBus$Node")), .methodLink RX10 53 yX10_find, .instanceMethod yX10_find, .selects RX10 yX10_find yX10_find, .methodLink RX10 123 yX10_carryFrame, .instanceMethod yX10_carryFrame, .selects RX10 yX10_carryFrame yX10_carryFrame] ++ wsX100)
theorem in_c_X10_pass_X10 : ∀ w ∈ wsX100, w ∈ v_c_X10_pass := fun w h => List.mem_cons_of_mem _ (List.mem_append_right _ h)
set_option maxRecDepth 20000 in
theorem g_c_X10_pass_c_X10_nextMoment_116 : GoodIn v_c_X10_pass (wsV RX10 116 RX10 yX10_nextMoment v_c_X10_nextMoment) := goodIn_r _ [9, 10, 11, 8, 2, 3, 1, 4, 5, 6, 7, 28, 29, 30, 31, 32, 33, 34, 35] (by decide +kernel) (by decide +kernel)
set_option maxRecDepth 20000 in
theorem g_c_X10_pass_c_X10_runTimers_120 : GoodIn v_c_X10_pass (wsV RX10 120 RX10 yX10_runTimers v_c_X10_runTimers) := goodIn_r _ [13, 14, 15, 8, 12, 3, 28, 29, 30, 31, 32, 33, 34, 35] (by decide +kernel) (by decide +kernel)
set_option maxRecDepth 20000 in
theorem g_c_X10_pass_c_X10_carryFrame_123 : GoodIn v_c_X10_pass (wsV RX10 123 RX10 yX10_carryFrame v_c_X10_carryFrame) := goodIn_r _ [25, 26, 27, 8, 16, 17, 3, 8, 18, 19, 20, 21, 22, 23, 24, 28, 29, 30, 31, 32, 33, 34, 35] (by decide +kernel) (by decide +kernel)
set_option maxHeartbeats 4000000 in
set_option maxRecDepth 100000 in
/-- pass on a fresh object: one jump -/
theorem c_X10_pass (l : Launch) (dC : Nat → ClassId) (dI : Nat → Nat → Nat) (h0 : Nat) (n0 : Nat) (st : Nat) (la : Nat) (p0 : Int32) (sz : Nat)  : Met l yX10_pass v_c_X10_pass ({ frames := 2, cells := 0, slots := 0, locals := 49 }) (va_Pc [.ref h0, .int p0] (fun U => U.heap.size = sz ∧ va_P (dC, dI) vwCl [(h0, .inr (11, [.ref n0, .ref st, .ref la, .int 0, .int 0, .int 0, .int (-1), .int 0]))] U.heap ∧ va_K (dC, dI) vwCl [] U ∧ va_D (fun _ => True) [(h0, .inr (11, [.ref n0, .ref st, .ref la, .int 0, .int 0, .int 0, .int (-1), .int 0]))] ∧ ev U)) (va_Qi (fun (r : Int32) (_ : Unit) => r = if 1 ≤ p0 ∧ p0 ≤ 5000 then p0 else (-1)) (fun (_ : Unit) (_ : State) => True) (va_A [(h0, .inr (11, [.ref n0, .ref st, .ref la, .int 0, .int 0, .int 0, .int (-1), .int 0]))] sz)) 0 0 (va_A [(h0, .inr (11, [.ref n0, .ref st, .ref la, .int 0, .int 0, .int 0, .int (-1), .int 0]))] sz) := by
  refine Met.ofW (cc := cX10_pass) (maxL := 4) (ret := (some .int)) (by decide) rfl ?_
  intro p e s m args below meth c s₁ B hml hv
  obtain ⟨rfl, hsz, hP, hK, hD0, hE⟩ := hv
  have hx := B.exec
  have hb := B.bytes
  have hr := B.returns
  have hts := atoms_spec (ws := v_c_X10_pass) B.pre
  have hown : s.vm.findClass RX10 = some m.cls := findClass_of_methodNamed B.named
  have hlocks := B.notSynchronized
  subst hsz
  have hD := hD0.self (sz := s.heap.size)
  generalize hAe : va_A [(h0, .inr (11, [.ref n0, .ref st, .ref la, .int 0, .int 0, .int 0, .int (-1), .int 0]))] s.heap.size = A at hD ⊢
  have hA : ∀ q : Nat, s.heap.size ≤ q → A q := fun q h => by rw [← hAe]; exact Or.inr h
  have hS : va_S A s.heap s.heap [] := va_S.rf
  have hP : va_P (dC, dI) vwCl [(h0, .inr (11, [.ref n0, .ref st, .ref la, .int 0, .int 0, .int 0, .int (-1), .int 0]))] s.heap := hP
  have hl := lv_entry ([.ref h0, .int p0]) (n := 4) (Nat.le_of_ble_eq_true rfl)
  rw [lg_entry_eq]
  generalize (lg_sl ([.ref h0, .int p0]) ++ List.replicate (4 - (lg_sl ([.ref h0, .int p0])).length) Slot.unset).toArray = ls at hl ⊢
  have hl : lv_has ls 4 [(0, .ref h0), (1, .int p0)] := hl
  obtain ⟨H, hH⟩ : ∃ z : Heap, z = s.heap := ⟨_, rfl⟩
  rw [← hH]
  have hS : va_S A s.heap H [] := by rw [hH]; exact va_S.rf
  have hP : va_P (dC, dI) vwCl [(h0, .inr (11, [.ref n0, .ref st, .ref la, .int 0, .int 0, .int 0, .int (-1), .int 0]))] H := by rw [hH]; exact hP
  clear hH
  refine lv_iload_n hx hb dX10_pass_0 rfl (lv_at hl 1 rfl) ?_
  refine lv_iconst (v := 1) hx hb dX10_pass_1 (by decide) ?_
  refine lv_icmp_lt (tgt := 12) hx hb dX10_pass_2 (by decide) (fun c_1 => ?_) (fun c_1 => ?_)
  · refine lv_iconst (v := -1) hx hb dX10_pass_12 (by decide) ?_
    exact W.iret (v := (-1)) hx hb hr (fun t ht hW => ⟨⟨(-1), (), rfl, (by rw [if_neg]; exact fun h => absurd h.1 (Int32.not_le.mpr c_1)), trivial⟩, hS.F ht⟩) hS.2.2 dX10_pass_13
  · refine lv_iload_n hx hb dX10_pass_5 rfl (lv_at hl 1 rfl) ?_
    refine lv_sipush (v := 5000) hx hb dX10_pass_6 (by decide) ?_
    refine lv_icmp_le (tgt := 14) hx hb dX10_pass_9 (by decide) (fun c_2 => ?_) (fun c_2 => ?_)
    · refine lv_aload_n hx hb dX10_pass_14 rfl (lv_at hl 0 rfl) ?_
      refine va_get (D := (dC, dI)) (ci := 11) (v := .int 0) (C := RX10) (T := TX10) (N := 8) hx hb hts in_c_X10_pass_X10 hown hK hP 0 rfl rfl 4 (by decide) (hts (.fieldLink RX10 33 "ClaimBus" "time" "I") (List.mem_of_getElem? (i := 1) rfl)) (fun _ h9 => h9) rfl dX10_pass_15 ?_
      refine lv_iload_n hx hb dX10_pass_18 rfl (lv_at hl 1 rfl) ?_
      refine lv_iadd hx hb dX10_pass_19 ?_
      rw [Int32.zero_add]
      refine lv_istore_n (lv' := [(2, .int p0), (0, .ref h0), (1, .int p0)]) hx hb dX10_pass_20 rfl hl (by decide) rfl (fun ls hl => ?_)
      refine lv_iconst (v := 0) hx hb dX10_pass_21 (by decide) ?_
      refine lv_istore_n (lv' := [(3, .int 0), (2, .int p0), (0, .ref h0), (1, .int p0)]) hx hb dX10_pass_22 rfl hl (by decide) rfl (fun ls hl => ?_)
      refine lv_iload_n hx hb dX10_pass_23 rfl (lv_at hl 0 rfl) ?_
      refine lv_iload_n hx hb dX10_pass_24 rfl (lv_at hl 3 rfl) ?_
      refine lv_icmp_ge (tgt := 59) hx hb dX10_pass_25 (by decide) (fun c_3 => ?_) (fun c_3 => ?_)
      · exact absurd c_3 (fun h => c_1 (Int32.lt_of_le_of_lt h (by decide)))
      refine lv_aload_n hx hb dX10_pass_28 rfl (lv_at hl 2 rfl) ?_
      refine va_get (D := (dC, dI)) (ci := 11) (v := .int 0) (C := RX10) (T := TX10) (N := 8) hx hb hts in_c_X10_pass_X10 hown hK hP 0 rfl rfl 4 (by decide) (hts (.fieldLink RX10 33 "ClaimBus" "time" "I") (List.mem_of_getElem? (i := 1) rfl)) (fun _ h9 => h9) rfl dX10_pass_29 ?_
      refine lv_iload_n hx hb dX10_pass_32 rfl (lv_at hl 1 rfl) ?_
      refine lv_icmp_ge (tgt := 59) hx hb dX10_pass_33 (by decide) (fun c_4 => ?_) (fun c_4 => ?_)
      · exact absurd c_4 (fun h => c_1 (Int32.lt_of_le_of_lt h (by decide)))
      refine lv_aload_n hx hb dX10_pass_36 rfl (lv_at hl 2 rfl) ?_
      refine lv_aload_n hx hb dX10_pass_37 rfl (lv_at hl 2 rfl) ?_
      refine lv_iload_n hx hb dX10_pass_38 rfl (lv_at hl 1 rfl) ?_
      have hPc := hP.sub (ws' := [(h0, .inr (11, [.ref n0, .ref st, .ref la, .int 0, .int 0, .int 0, .int (-1), .int 0]))]) [0] rfl
      have hDc := hD.sub (ws' := [(h0, .inr (11, [.ref n0, .ref st, .ref la, .int 0, .int 0, .int 0, .int (-1), .int 0]))]) [0] (by decide) rfl
      have hKc := hK.sub (tys' := []) [] rfl
      have hFc := ro_free hS hA
      refine va_calli (va_runV (As := [.int p0]) (rest := [.ref h0]) ⟨hx, hb, hml, hown, hts⟩ (c_X10_nextMoment l dC dI (h0) (n0) (st) (la) (p0) H.size (c_1)) (cwV 1 hts g_c_X10_pass_c_X10_nextMoment_116 rfl rfl rfl (by decide +kernel) ⟨Nat.le_of_ble_eq_true rfl, Nat.le_of_ble_eq_true rfl⟩) ⟨fun a U g mk q => by obtain ⟨q0, q1, qP, qK, qD, qE⟩ := q; exact ⟨q0, q1, qP, va_K.moved (u := U) (U := U.calling g mk a) (Vm.Alike.refl U.vm) qK, qD, ev.same (u := U) (U := U.calling g mk a) rfl qE⟩, va_recv hKc hPc (ci := 11) (q0 := 0) rfl rfl, fun U hU hW => ⟨rfl, by rw [hU], by rw [hU]; exact hPc, va_K.moved hW.alike hKc, hDc.weaken (fun _ _ _ _ => trivial), hE.warm hW⟩⟩ rfl rfl hl.1 rfl (lv_room (Nat.le_of_ble_eq_true rfl)) dX10_pass_39 ⟨Nat.le_of_ble_eq_true rfl, Nat.le_of_ble_eq_true rfl⟩) hS (fun q _ h => hFc q h) hFc (fun r_5 u t H1 locs ht hvm hw hB hz1 hk1 hS => ?_)
      clear hPc hDc hKc
      have hP := ro_keep hP hk1
      generalize H1 = H at hP hS ⊢
      have hP : va_P (dC, dI) vwCl [(h0, .inr (11, [.ref n0, .ref st, .ref la, .int 0, .int 0, .int 0, .int (-1), .int 0]))] H := hP
      have hw := hw.symm
      subst hw
      refine va_put (D := (dC, dI)) (ci := 11) (v := .int p0) (ty := .int) (C := RX10) (T := TX10) (N := 8) hx hb hts in_c_X10_pass_X10 tyX10 tyX10_ok nmX10 hown hK hP hD hS 0 rfl rfl 4 (by decide) (hts (.fieldLink RX10 33 "ClaimBus" "time" "I") (List.mem_of_getElem? (i := 1) rfl)) (fun _ h9 => h9) rfl (by decide +kernel) rfl rfl (Nat.le_of_ble_eq_true rfl) dX10_pass_42 (fun H locs hP hD hS => ?_)
      have hP : va_P (dC, dI) vwCl [(h0, .inr (11, [.ref n0, .ref st, .ref la, .int 0, .int p0, .int 0, .int (-1), .int 0]))] H := hP
      have hD : va_D A [(h0, .inr (11, [.ref n0, .ref st, .ref la, .int 0, .int p0, .int 0, .int (-1), .int 0]))] := hD
      refine lv_aload_n hx hb dX10_pass_45 rfl (lv_at hl 2 rfl) ?_
      have hPc := hP.sub (ws' := [(h0, .inr (11, [.ref n0, .ref st, .ref la, .int 0, .int p0, .int 0, .int (-1), .int 0]))]) [0] rfl
      have hDc := hD.sub (ws' := [(h0, .inr (11, [.ref n0, .ref st, .ref la, .int 0, .int p0, .int 0, .int (-1), .int 0]))]) [0] (by decide) rfl
      have hKc := hK.sub (tys' := []) [] rfl
      have hFc := ro_free hS hA
      refine va_callv (va_runV (As := []) (rest := []) ⟨hx, hb, hml, hown, hts⟩ (c_X10_runTimers l dC dI (h0) (n0) (st) (la) (p0) H.size) (cwV 0 hts g_c_X10_pass_c_X10_runTimers_120 rfl rfl rfl (by decide +kernel) ⟨Nat.le_of_ble_eq_true rfl, Nat.le_of_ble_eq_true rfl⟩) ⟨fun a U g mk q => by obtain ⟨q0, q1, qP, qK, qD, qE⟩ := q; exact ⟨q0, q1, qP, va_K.moved (u := U) (U := U.calling g mk a) (Vm.Alike.refl U.vm) qK, qD, ev.same (u := U) (U := U.calling g mk a) rfl qE⟩, va_recv hKc hPc (ci := 11) (q0 := 0) rfl rfl, fun U hU hW => ⟨rfl, by rw [hU], by rw [hU]; exact hPc, va_K.moved hW.alike hKc, hDc.weaken (fun _ _ _ _ => trivial), hE.warm hW⟩⟩ rfl rfl hl.1 rfl (lv_room (Nat.le_of_ble_eq_true rfl)) dX10_pass_46 ⟨Nat.le_of_ble_eq_true rfl, Nat.le_of_ble_eq_true rfl⟩) hS (fun q _ h => hFc q h) hFc (fun u t H1 locs ht hvm hw hB hz1 hk1 hS => ?_)
      clear hPc hDc hKc
      have hP := ro_keep hP hk1
      generalize H1 = H at hP hS ⊢
      have hP : va_P (dC, dI) vwCl [(h0, .inr (11, [.ref n0, .ref st, .ref la, .int 0, .int p0, .int 0, .int (-1), .int 0]))] H := hP
      refine lv_aload_n hx hb dX10_pass_49 rfl (lv_at hl 2 rfl) ?_
      have hPc := hP.sub (ws' := [(h0, .inr (11, [.ref n0, .ref st, .ref la, .int 0, .int p0, .int 0, .int (-1), .int 0]))]) [0] rfl
      have hDc := hD.sub (ws' := [(h0, .inr (11, [.ref n0, .ref st, .ref la, .int 0, .int p0, .int 0, .int (-1), .int 0]))]) [0] (by decide) rfl
      have hKc := hK.sub (tys' := []) [] rfl
      have hFc := ro_free hS hA
      refine va_callv (va_runV (As := []) (rest := []) ⟨hx, hb, hml, hown, hts⟩ (c_X10_carryFrame l dC dI (h0) (n0) (st) (la) (p0) H.size) (cwV 0 hts g_c_X10_pass_c_X10_carryFrame_123 rfl rfl rfl (by decide +kernel) ⟨Nat.le_of_ble_eq_true rfl, Nat.le_of_ble_eq_true rfl⟩) ⟨fun a U g mk q => by obtain ⟨q0, q1, qP, qK, qD, qE⟩ := q; exact ⟨q0, q1, qP, va_K.moved (u := U) (U := U.calling g mk a) (Vm.Alike.refl U.vm) qK, qD, ev.same (u := U) (U := U.calling g mk a) rfl qE⟩, va_recv hKc hPc (ci := 11) (q0 := 0) rfl rfl, fun U hU hW => ⟨rfl, by rw [hU], by rw [hU]; exact hPc, va_K.moved hW.alike hKc, hDc.weaken (fun _ _ _ _ => trivial), hE.warm hW⟩⟩ rfl rfl hl.1 rfl (lv_room (Nat.le_of_ble_eq_true rfl)) dX10_pass_50 ⟨Nat.le_of_ble_eq_true rfl, Nat.le_of_ble_eq_true rfl⟩) hS (fun q _ h => hFc q h) hFc (fun u t H1 locs ht hvm hw hB hz1 hk1 hS => ?_)
      clear hPc hDc hKc
      have hP := ro_keep hP hk1
      generalize H1 = H at hP hS ⊢
      have hP : va_P (dC, dI) vwCl [(h0, .inr (11, [.ref n0, .ref st, .ref la, .int 0, .int p0, .int 0, .int (-1), .int 0]))] H := hP
      refine lv_iinc (v := 1) (lv' := [(3, .int 1), (2, .int p0), (0, .ref h0), (1, .int p0)]) hx hb dX10_pass_53 hl (k := 0) rfl (by decide) (by decide) rfl (fun ls hl => ?_)
      refine lv_goto (tgt := 23) hx hb dX10_pass_56 (by decide) ?_
      refine lv_iload_n hx hb dX10_pass_23 rfl (lv_at hl 0 rfl) ?_
      refine lv_iload_n hx hb dX10_pass_24 rfl (lv_at hl 3 rfl) ?_
      refine lv_icmp_ge (tgt := 59) hx hb dX10_pass_25 (by decide) (fun c_8 => ?_) (fun c_8 => ?_)
      · refine lv_aload_n hx hb dX10_pass_59 rfl (lv_at hl 2 rfl) ?_
        refine va_get (D := (dC, dI)) (ci := 11) (v := .int p0) (C := RX10) (T := TX10) (N := 8) hx hb hts in_c_X10_pass_X10 hown hK hP 0 rfl rfl 4 (by decide) (hts (.fieldLink RX10 33 "ClaimBus" "time" "I") (List.mem_of_getElem? (i := 1) rfl)) (fun _ h9 => h9) rfl dX10_pass_60 ?_
        exact W.iret (v := p0) hx hb hr (fun t ht hW => ⟨⟨p0, (), rfl, (by rw [if_pos ⟨Int32.not_lt.mp c_1, c_2⟩]), trivial⟩, hS.F ht⟩) hS.2.2 dX10_pass_63
      · refine lv_aload_n hx hb dX10_pass_28 rfl (lv_at hl 2 rfl) ?_
        refine va_get (D := (dC, dI)) (ci := 11) (v := .int p0) (C := RX10) (T := TX10) (N := 8) hx hb hts in_c_X10_pass_X10 hown hK hP 0 rfl rfl 4 (by decide) (hts (.fieldLink RX10 33 "ClaimBus" "time" "I") (List.mem_of_getElem? (i := 1) rfl)) (fun _ h9 => h9) rfl dX10_pass_29 ?_
        refine lv_iload_n hx hb dX10_pass_32 rfl (lv_at hl 1 rfl) ?_
        refine lv_icmp_ge (tgt := 59) hx hb dX10_pass_33 (by decide) (fun c_9 => ?_) (fun c_9 => ?_)
        rotate_left
        · exact absurd (Int32.le_refl _) c_9
        refine lv_aload_n hx hb dX10_pass_59 rfl (lv_at hl 2 rfl) ?_
        refine va_get (D := (dC, dI)) (ci := 11) (v := .int p0) (C := RX10) (T := TX10) (N := 8) hx hb hts in_c_X10_pass_X10 hown hK hP 0 rfl rfl 4 (by decide) (hts (.fieldLink RX10 33 "ClaimBus" "time" "I") (List.mem_of_getElem? (i := 1) rfl)) (fun _ h9 => h9) rfl dX10_pass_60 ?_
        exact W.iret (v := p0) hx hb hr (fun t ht hW => ⟨⟨p0, (), rfl, (by rw [if_pos ⟨Int32.not_lt.mp c_1, c_2⟩]), trivial⟩, hS.F ht⟩) hS.2.2 dX10_pass_63
    · refine lv_iconst (v := -1) hx hb dX10_pass_12 (by decide) ?_
      exact W.iret (v := (-1)) hx hb hr (fun t ht hW => ⟨⟨(-1), (), rfl, (by rw [if_neg]; exact fun h => absurd h.2 c_2), trivial⟩, hS.F ht⟩) hS.2.2 dX10_pass_13

def v_c_X10_node : List Cond := .code yX10_node cX10_node 6 (some .int) :: ([.fieldLink RX10 29 "ClaimBus" "nodeCount" "I", .code yX10_nameIsThere cX10_nameIsThere 5 (some .boolean), .initialized RX10, .methodLink RX10 46 yX10_nameIsThere, .instanceMethod yX10_nameIsThere, .selects RX10 yX10_nameIsThere yX10_nameIsThere, .fieldLink RX10 11 "ClaimBus" "nodes" "[LClaimBus$Node;", .classLink RX10 9 RX4, .instantiable RX4 18, .initialized RX4, .fieldLink RX10 18 "ClaimBus" "store" "LClaimBus$Store;", .code yX4_init cX4_init 7 none, .methodLink RX4 3 objectInit, .instanceMethod objectInit, .code objectInit ⟨#[0xb1]⟩ 1 none, .classLink RX4 9 RX8, .instantiable RX8 1, .initialized RX8, .code yX8_init cX8_init 1 none, .methodLink RX8 3 objectInit, .arrayClass .int, .fieldLink RX8 9 "ClaimBus$Table" "addresses" "[I", .code yX8_clear cX8_clear 2 none, .methodLink RX8 15 yX8_clear, .instanceMethod yX8_clear, .selects RX8 yX8_clear yX8_clear, .methodLink RX4 11 yX8_init, .instanceMethod yX8_init, .fieldLink RX4 12 "ClaimBus$Node" "table" "LClaimBus$Table;", .classLink RX4 18 RX6, .instantiable RX6 4, .initialized RX6, .code yX6_init cX6_init 1 none, .methodLink RX6 3 objectInit, .fieldLink RX6 9 "ClaimBus$Sending" "state" "I", .fieldLink RX6 15 "ClaimBus$Sending" "nextPacket" "I", .fieldLink RX6 18 "ClaimBus$Sending" "due" "I", .fieldLink RX6 21 "ClaimBus$Sending" "whole" "LClaimBus$Message;", .instanceMethod yX6_init, .fieldLink RX4 21 "ClaimBus$Node" "sending" "LClaimBus$Sending;", .classLink RX4 25 RX2, .instantiable RX2 4, .initialized RX2, .code yX2_init cX2_init 1 none, .methodLink RX2 3 objectInit, .fieldLink RX2 9 "ClaimBus$Inbox" "came" "I", .fieldLink RX2 15 "ClaimBus$Inbox" "gotAnotherThanSent" "Z", .fieldLink RX2 19 "ClaimBus$Inbox" "log" "[I", .classLink RX2 23 "[I", .fieldLink RX2 24 "ClaimBus$Inbox" "troubles" "[[I", .instanceMethod yX2_init, .fieldLink RX4 28 "ClaimBus$Node" "inbox" "LClaimBus$Inbox;", .classLink RX4 32 RX9, .fieldLink RX4 34 "ClaimBus$Node" "gets" "[LClaimBus$Transport;", .classLink RX4 38 RJx4a65c, .instantiable RJx4a65c 3, .initialized RJx4a65c, .code yJx4a65c_init_da8c8 cJx4a65c_init_da8c8 1 none, .code yJxc12de_init_da8c8 cJxc12de_init_da8c8 1 none, .code yJxa1e45_init_da8c8 cJxa1e45_init_da8c8 1 none, .methodLink RJxa1e45 1 objectInit, .initialized RJxa1e45, .methodLink RJxc12de 1 yJxa1e45_init_da8c8, .instanceMethod yJxa1e45_init_da8c8, .fieldLink RJxc12de 7 "java/util/AbstractList" "modCount" "I", .initialized RJxc12de, .methodLink RJx4a65c 1 yJxc12de_init_da8c8, .instanceMethod yJxc12de_init_da8c8, .fieldLink RJx4a65c 39 "java/util/ArrayList" "DEFAULTCAPACITY_EMPTY_ELEMENTDATA" "[Ljava/lang/Object;", .fieldLink RJx4a65c 9 "java/util/ArrayList" "elementData" "[Ljava/lang/Object;", .methodLink RX4 40 yJx4a65c_init_da8c8, .instanceMethod yJx4a65c_init_da8c8, .fieldLink RX4 41 "ClaimBus$Node" "collects" "Ljava/util/ArrayList;", .fieldLink RX4 45 "ClaimBus$Node" "troubles" "[I", .fieldLink RX4 49 "ClaimBus$Node" "troubleCount" "I", .fieldLink RX4 53 "ClaimBus$Node" "state" "I", .fieldLink RX4 56 "ClaimBus$Node" "claimCarriedAt" "I", .fieldLink RX4 59 "ClaimBus$Node" "toLose" "I", .fieldLink RX4 62 "ClaimBus$Node" "lost" "I", .fieldLink RX4 65 "ClaimBus$Node" "high" "I", .fieldLink RX4 68 "ClaimBus$Node" "low" "I", .fieldLink RX4 71 "ClaimBus$Node" "wanted" "I", .fieldLink RX4 74 "ClaimBus$Node" "free" "Z", .fieldLink RX4 78 "ClaimBus$Node" "window" "I", .fieldLink RX4 81 "ClaimBus$Node" "address" "I", .classLink RX4 84 RX5, .instantiable RX5 12, .initialized RX5, .code yX5_init cX5_init 4 none, .methodLink RX5 3 objectInit, .fieldLink RX5 9 "ClaimBus$Row" "head" "LClaimBus$Chunk;", .fieldLink RX5 15 "ClaimBus$Row" "tail" "LClaimBus$Chunk;", .fieldLink RX5 18 "ClaimBus$Row" "headPlace" "I", .fieldLink RX5 22 "ClaimBus$Row" "tailPlace" "I", .fieldLink RX5 25 "ClaimBus$Row" "frames" "I", .fieldLink RX5 28 "ClaimBus$Row" "gone" "I", .fieldLink RX5 31 "ClaimBus$Row" "claimWaits" "Z", .classLink RX5 35 RX1, .instantiable RX1 4, .initialized RX1, .code yX1_init cX1_init 1 none, .methodLink RX1 3 objectInit, .fieldLink RX1 9 "ClaimBus$Frame" "identifier" "I", .fieldLink RX1 15 "ClaimBus$Frame" "first" "I", .fieldLink RX1 18 "ClaimBus$Frame" "others" "I", .fieldLink RX1 21 "ClaimBus$Frame" "whole" "LClaimBus$Message;", .instanceMethod yX1_init, .fieldLink RX5 38 "ClaimBus$Row" "first" "LClaimBus$Frame;", .fieldLink RX5 42 "ClaimBus$Row" "firstIsWritten" "Z", .fieldLink RX5 45 "ClaimBus$Row" "high" "I", .fieldLink RX5 48 "ClaimBus$Row" "low" "I", .fieldLink RX5 51 "ClaimBus$Row" "store" "LClaimBus$Store;", .methodLink RX4 86 yX5_init, .instanceMethod yX5_init, .fieldLink RX4 89 "ClaimBus$Node" "row" "LClaimBus$Row;", .methodLink RX10 50 yX4_init, .instanceMethod yX4_init] ++ wsX100 ++ wsX40 ++ wsX80 ++ wsX60 ++ wsX20 ++ wsJx4a65c0 ++ wsX50 ++ wsX10)
theorem in_c_X10_node_X10 : ∀ w ∈ wsX100, w ∈ v_c_X10_node := fun w h => List.mem_cons_of_mem _ (List.mem_append_left _ (List.mem_append_left _ (List.mem_append_left _ (List.mem_append_left _ (List.mem_append_left _ (List.mem_append_left _ (List.mem_append_left _ (List.mem_append_right _ h))))))))
theorem in_c_X10_node_X4 : ∀ w ∈ wsX40, w ∈ v_c_X10_node := fun w h => List.mem_cons_of_mem _ (List.mem_append_left _ (List.mem_append_left _ (List.mem_append_left _ (List.mem_append_left _ (List.mem_append_left _ (List.mem_append_left _ (List.mem_append_right _ h)))))))
theorem in_c_X10_node_X8 : ∀ w ∈ wsX80, w ∈ v_c_X10_node := fun w h => List.mem_cons_of_mem _ (List.mem_append_left _ (List.mem_append_left _ (List.mem_append_left _ (List.mem_append_left _ (List.mem_append_left _ (List.mem_append_right _ h))))))
theorem in_c_X10_node_X6 : ∀ w ∈ wsX60, w ∈ v_c_X10_node := fun w h => List.mem_cons_of_mem _ (List.mem_append_left _ (List.mem_append_left _ (List.mem_append_left _ (List.mem_append_left _ (List.mem_append_right _ h)))))
theorem in_c_X10_node_X2 : ∀ w ∈ wsX20, w ∈ v_c_X10_node := fun w h => List.mem_cons_of_mem _ (List.mem_append_left _ (List.mem_append_left _ (List.mem_append_left _ (List.mem_append_right _ h))))
theorem in_c_X10_node_Jx4a65c : ∀ w ∈ wsJx4a65c0, w ∈ v_c_X10_node := fun w h => List.mem_cons_of_mem _ (List.mem_append_left _ (List.mem_append_left _ (List.mem_append_right _ h)))
theorem in_c_X10_node_X5 : ∀ w ∈ wsX50, w ∈ v_c_X10_node := fun w h => List.mem_cons_of_mem _ (List.mem_append_left _ (List.mem_append_right _ h))
theorem in_c_X10_node_X1 : ∀ w ∈ wsX10, w ∈ v_c_X10_node := fun w h => List.mem_cons_of_mem _ (List.mem_append_right _ h)
set_option maxRecDepth 20000 in
theorem g_c_X10_node_c_X10_nameIsThere_46 : GoodIn v_c_X10_node (wsV RX10 46 RX10 yX10_nameIsThere v_c_X10_nameIsThere) := goodIn_r _ [4, 5, 6, 3, 2, 1, 118, 119, 120, 121, 122, 123, 124, 125] (by decide +kernel) (by decide +kernel)
set_option maxRecDepth 20000 in
theorem g_c_X10_node_c_X4_init_50 : GoodIn v_c_X10_node v_c_X4_init := goodIn_r _ [12, 13, 14, 15, 16, 17, 18, 19, 20, 21, 22, 23, 24, 25, 26, 27, 28, 29, 30, 31, 32, 33, 34, 35, 36, 37, 38, 39, 40, 41, 42, 43, 44, 45, 46, 47, 48, 49, 50, 51, 52, 53, 54, 55, 56, 57, 58, 59, 60, 61, 62, 63, 64, 65, 66, 67, 68, 69, 70, 71, 72, 73, 74, 75, 76, 77, 78, 79, 80, 81, 82, 83, 84, 85, 86, 87, 88, 89, 90, 91, 92, 93, 94, 95, 96, 97, 98, 99, 100, 101, 102, 103, 104, 105, 106, 107, 108, 109, 110, 111, 112, 113, 114, 115, 144, 126, 127, 128, 129, 130, 131, 132, 133, 134, 135, 136, 137, 138, 139, 140, 141, 142, 143, 145, 146, 147, 148, 149, 150, 151, 152, 153, 154, 155, 156, 157, 158, 159, 160, 161, 162, 163, 164, 165, 166, 167, 168, 169, 170, 171] (by decide +kernel) (by decide +kernel)
set_option maxHeartbeats 4000000 in
set_option maxRecDepth 100000 in
/-- node on a fresh object -/
theorem c_X10_node (l : Launch) (dC : Nat → ClassId) (dI : Nat → Nat → Nat) (h0 : Nat) (n0 : Nat) (st : Nat) (la : Nat) (cN : ClassId) (p0 : Int32) (p1 : Int32) (p2 : Int32) (fr : Int32) (p3 : Int32) (sz : Nat) (hfr : narrow .boolean (.int fr) = .int fr) (hfr2 : fits .boolean (.int fr) = true) : Met l yX10_node v_c_X10_node ({ frames := 5, cells := 12, slots := 401, locals := 98 }) (va_Pc [.ref h0, .int p0, .int p1, .int p2, .int fr, .int p3] (fun U => U.heap.size = sz ∧ va_P (dC, dI) vwCl [(h0, .inr (11, [.ref n0, .ref st, .ref la, .int 0, .int 0, .int 0, .int (-1), .int 0])), (n0, .inl (cN, 8, .inr (.inr (.inr (.inr (fun _ => none))))))] U.heap ∧ va_K (dC, dI) vwCl [(cN, (.object RX4))] U ∧ va_D (fun _ => True) [(h0, .inr (11, [.ref n0, .ref st, .ref la, .int 0, .int 0, .int 0, .int (-1), .int 0])), (n0, .inl (cN, 8, .inr (.inr (.inr (.inr (fun _ => none))))))] ∧ ev U ∧ va_Zq "java/util/ArrayList" "DEFAULTCAPACITY_EMPTY_ELEMENTDATA" "[Ljava/lang/Object;" (va_A [(h0, .inr (11, [.ref n0, .ref st, .ref la, .int 0, .int 0, .int 0, .int (-1), .int 0])), (n0, .inl (cN, 8, .inr (.inr (.inr (.inr (fun _ => none))))))] sz) U U.heap)) (va_Qi (fun (r : Int32) (_ : Unit) => r = if 0 ≤ p2 ∧ p2 ≤ 247 ∧ 1 ≤ p3 ∧ p3 ≤ 16 then 0 else (-1)) (fun (_ : Unit) (_ : State) => True) (va_A [(h0, .inr (11, [.ref n0, .ref st, .ref la, .int 0, .int 0, .int 0, .int (-1), .int 0])), (n0, .inl (cN, 8, .inr (.inr (.inr (.inr (fun _ => none))))))] sz)) 12 401 (va_A [(h0, .inr (11, [.ref n0, .ref st, .ref la, .int 0, .int 0, .int 0, .int (-1), .int 0])), (n0, .inl (cN, 8, .inr (.inr (.inr (.inr (fun _ => none))))))] sz) := by
  refine Met.ofW (cc := cX10_node) (maxL := 6) (ret := (some .int)) (by decide) rfl ?_
  intro p e s m args below meth c s₁ B hml hv
  obtain ⟨rfl, hsz, hP, hK, hD0, hE, hZ⟩ := hv
  have hx := B.exec
  have hb := B.bytes
  have hr := B.returns
  have hts := atoms_spec (ws := v_c_X10_node) B.pre
  have hown : s.vm.findClass RX10 = some m.cls := findClass_of_methodNamed B.named
  have hlocks := B.notSynchronized
  subst hsz
  have hD := hD0.self (sz := s.heap.size)
  generalize hAe : va_A [(h0, .inr (11, [.ref n0, .ref st, .ref la, .int 0, .int 0, .int 0, .int (-1), .int 0])), (n0, .inl (cN, 8, .inr (.inr (.inr (.inr (fun _ => none))))))] s.heap.size = A at hD hZ ⊢
  have hA : ∀ q : Nat, s.heap.size ≤ q → A q := fun q h => by rw [← hAe]; exact Or.inr h
  have hS : va_S A s.heap s.heap [] := va_S.rf
  have hP : va_P (dC, dI) vwCl [(h0, .inr (11, [.ref n0, .ref st, .ref la, .int 0, .int 0, .int 0, .int (-1), .int 0])), (n0, .inl (cN, 8, .inr (.inr (.inr (.inr (fun _ => none))))))] s.heap := hP
  have hl := lv_entry ([.ref h0, .int p0, .int p1, .int p2, .int fr, .int p3]) (n := 6) (Nat.le_of_ble_eq_true rfl)
  rw [lg_entry_eq]
  generalize (lg_sl ([.ref h0, .int p0, .int p1, .int p2, .int fr, .int p3]) ++ List.replicate (6 - (lg_sl ([.ref h0, .int p0, .int p1, .int p2, .int fr, .int p3])).length) Slot.unset).toArray = ls at hl ⊢
  have hl : lv_has ls 6 [(0, .ref h0), (1, .int p0), (2, .int p1), (3, .int p2), (4, .int fr), (5, .int p3)] := hl
  obtain ⟨H, hH⟩ : ∃ z : Heap, z = s.heap := ⟨_, rfl⟩
  rw [← hH]
  have hS : va_S A s.heap H [] := by rw [hH]; exact va_S.rf
  have hP : va_P (dC, dI) vwCl [(h0, .inr (11, [.ref n0, .ref st, .ref la, .int 0, .int 0, .int 0, .int (-1), .int 0])), (n0, .inl (cN, 8, .inr (.inr (.inr (.inr (fun _ => none))))))] H := by rw [hH]; exact hP
  clear hH
  refine lv_iload_n hx hb dX10_node_0 rfl (lv_at hl 3 rfl) ?_
  refine lv_if_lt (tgt := 24) hx hb dX10_node_1 (by decide) (fun c_1 => ?_) (fun c_1 => ?_)
  · refine lv_iconst (v := -1) hx hb dX10_node_24 (by decide) ?_
    refine W.widen (k := 12) (n := 401) (Nat.le_of_ble_eq_true rfl) (Nat.le_of_ble_eq_true rfl) ?_
    exact W.iret (v := (-1)) hx hb hr (fun t ht hW => ⟨⟨(-1), (), rfl, (by rw [if_neg]; exact fun h => absurd h.1 (Int32.not_le.mpr c_1)), trivial⟩, hS.F ht⟩) hS.2.2 dX10_node_25
  · refine lv_iload_n hx hb dX10_node_4 rfl (lv_at hl 3 rfl) ?_
    refine lv_sipush (v := 247) hx hb dX10_node_5 (by decide) ?_
    refine lv_icmp_gt (tgt := 24) hx hb dX10_node_8 (by decide) (fun c_2 => ?_) (fun c_2 => ?_)
    · refine lv_iconst (v := -1) hx hb dX10_node_24 (by decide) ?_
      refine W.widen (k := 12) (n := 401) (Nat.le_of_ble_eq_true rfl) (Nat.le_of_ble_eq_true rfl) ?_
      exact W.iret (v := (-1)) hx hb hr (fun t ht hW => ⟨⟨(-1), (), rfl, (by rw [if_neg]; exact fun h => absurd h.2.1 (Int32.not_le.mpr c_2)), trivial⟩, hS.F ht⟩) hS.2.2 dX10_node_25
    · refine lv_iload hx hb dX10_node_11 (lv_at hl 5 rfl) ?_
      refine lv_iconst (v := 1) hx hb dX10_node_13 (by decide) ?_
      refine lv_icmp_lt (tgt := 24) hx hb dX10_node_14 (by decide) (fun c_3 => ?_) (fun c_3 => ?_)
      · refine lv_iconst (v := -1) hx hb dX10_node_24 (by decide) ?_
        refine W.widen (k := 12) (n := 401) (Nat.le_of_ble_eq_true rfl) (Nat.le_of_ble_eq_true rfl) ?_
        exact W.iret (v := (-1)) hx hb hr (fun t ht hW => ⟨⟨(-1), (), rfl, (by rw [if_neg]; exact fun h => absurd h.2.2.1 (Int32.not_le.mpr c_3)), trivial⟩, hS.F ht⟩) hS.2.2 dX10_node_25
      · refine lv_iload hx hb dX10_node_17 (lv_at hl 5 rfl) ?_
        refine lv_bipush (v := 16) hx hb dX10_node_19 (by decide) ?_
        refine lv_icmp_le (tgt := 26) hx hb dX10_node_21 (by decide) (fun c_4 => ?_) (fun c_4 => ?_)
        · refine lv_aload_n hx hb dX10_node_26 rfl (lv_at hl 0 rfl) ?_
          refine va_get (D := (dC, dI)) (ci := 11) (v := .int 0) (C := RX10) (T := TX10) (N := 8) hx hb hts in_c_X10_node_X10 hown hK hP 0 rfl rfl 3 (by decide) (hts (.fieldLink RX10 29 "ClaimBus" "nodeCount" "I") (List.mem_of_getElem? (i := 1) rfl)) (fun _ h9 => h9) rfl dX10_node_27 ?_
          refine lv_bipush (v := 8) hx hb dX10_node_30 (by decide) ?_
          refine lv_icmp_ge (tgt := 44) hx hb dX10_node_32 (by decide) (fun c_5 => ?_) (fun c_5 => ?_)
          · exact absurd c_5 (by decide)
          refine lv_aload_n hx hb dX10_node_35 rfl (lv_at hl 0 rfl) ?_
          refine lv_iload_n hx hb dX10_node_36 rfl (lv_at hl 1 rfl) ?_
          refine lv_iload_n hx hb dX10_node_37 rfl (lv_at hl 2 rfl) ?_
          have hPc := hP.sub (ws' := [(h0, .inr (11, [.ref n0, .ref st, .ref la, .int 0, .int 0, .int 0, .int (-1), .int 0]))]) [0] rfl
          have hDc := hD.sub (ws' := [(h0, .inr (11, [.ref n0, .ref st, .ref la, .int 0, .int 0, .int 0, .int (-1), .int 0]))]) [0] (by decide) rfl
          have hKc := hK.sub (tys' := []) [] rfl
          have hFc := ro_free hS hA
          refine va_calli (va_runV (As := [.int p0, .int p1]) (rest := []) ⟨hx, hb, hml, hown, hts⟩ (c_X10_nameIsThere l dC dI (h0) (n0) (st) (la) (0) (p0) (p1) H.size) (cwV 2 hts g_c_X10_node_c_X10_nameIsThere_46 rfl rfl rfl (by decide +kernel) ⟨Nat.le_of_ble_eq_true rfl, Nat.le_of_ble_eq_true rfl⟩) ⟨fun a U g mk q => by obtain ⟨q0, q1, qP, qK, qD, qE⟩ := q; exact ⟨q0, q1, qP, va_K.moved (u := U) (U := U.calling g mk a) (Vm.Alike.refl U.vm) qK, qD, ev.same (u := U) (U := U.calling g mk a) rfl qE⟩, va_recv hKc hPc (ci := 11) (q0 := 0) rfl rfl, fun U hU hW => ⟨rfl, by rw [hU], by rw [hU]; exact hPc, va_K.moved hW.alike hKc, hDc.weaken (fun _ _ _ _ => trivial), hE.warm hW⟩⟩ rfl rfl hl.1 rfl (lv_room (Nat.le_of_ble_eq_true rfl)) dX10_node_38 ⟨Nat.le_of_ble_eq_true rfl, Nat.le_of_ble_eq_true rfl⟩) hS (fun q _ h => hFc q h) hFc (fun r_6 u t H1 locs ht hvm hw hB hz1 hk1 hS => ?_)
          clear hPc hDc hKc
          have hP := ro_keep hP hk1
          generalize H1 = H at hP hS ⊢
          have hP : va_P (dC, dI) vwCl [(h0, .inr (11, [.ref n0, .ref st, .ref la, .int 0, .int 0, .int 0, .int (-1), .int 0])), (n0, .inl (cN, 8, .inr (.inr (.inr (.inr (fun _ => none))))))] H := hP
          have hw := hw.symm
          subst hw
          refine lv_if_eq (tgt := 46) hx hb dX10_node_41 (by decide) (fun c_7 => ?_) (fun c_7 => ?_)
          rotate_left
          · exact absurd (by decide) c_7
          refine lv_aload_n hx hb dX10_node_46 rfl (lv_at hl 0 rfl) ?_
          refine va_get (D := (dC, dI)) (ci := 11) (v := .ref n0) (C := RX10) (T := TX10) (N := 8) hx hb hts in_c_X10_node_X10 hown hK hP 0 rfl rfl 0 (by decide) (hts (.fieldLink RX10 11 "ClaimBus" "nodes" "[LClaimBus$Node;") (List.mem_of_getElem? (i := 7) rfl)) (fun _ h9 => h9) rfl dX10_node_47 ?_
          refine lv_aload_n hx hb dX10_node_50 rfl (lv_at hl 0 rfl) ?_
          refine va_get (D := (dC, dI)) (ci := 11) (v := .int 0) (C := RX10) (T := TX10) (N := 8) hx hb hts in_c_X10_node_X10 hown hK hP 0 rfl rfl 3 (by decide) (hts (.fieldLink RX10 29 "ClaimBus" "nodeCount" "I") (List.mem_of_getElem? (i := 1) rfl)) (fun _ h9 => h9) rfl dX10_node_51 ?_
          refine va_new (ci := 5) (fs := [.int 0, .int 0, .int 0, .int 0, .int 0, .null, .null, .null, .null, .null, .null, .null, .int 0, .int 0, .int 0, .int 0, .int 0, .int 0]) (C := RX4) (T := TX4) (N := 18) hx hb hts in_c_X10_node_X4 tyX4 tyX4_ok hown (hts (.classLink RX10 9 RX4) (List.mem_of_getElem? (i := 8) rfl)) (hts (.instantiable RX4 18) (List.mem_of_getElem? (i := 9) rfl)) (hts (.initialized RX4) (List.mem_of_getElem? (i := 10) rfl)) hK hP hD hS hA rfl df_X4 (Nat.le_of_ble_eq_true rfl) (Nat.le_of_ble_eq_true rfl) dX10_node_54 (fun q8 H hP hD hS => ?_)
          have hP : va_P (dC, dI) vwCl [(h0, .inr (11, [.ref n0, .ref st, .ref la, .int 0, .int 0, .int 0, .int (-1), .int 0])), (n0, .inl (cN, 8, .inr (.inr (.inr (.inr (fun _ => none)))))), (q8, .inr (5, [.int 0, .int 0, .int 0, .int 0, .int 0, .null, .null, .null, .null, .null, .null, .null, .int 0, .int 0, .int 0, .int 0, .int 0, .int 0]))] H := hP
          have hD : va_D A [(h0, .inr (11, [.ref n0, .ref st, .ref la, .int 0, .int 0, .int 0, .int (-1), .int 0])), (n0, .inl (cN, 8, .inr (.inr (.inr (.inr (fun _ => none)))))), (q8, .inr (5, [.int 0, .int 0, .int 0, .int 0, .int 0, .null, .null, .null, .null, .null, .null, .null, .int 0, .int 0, .int 0, .int 0, .int 0, .int 0]))] := hD
          refine W.widen (k := 1) (n := 18) (Nat.le_of_ble_eq_true rfl) (Nat.le_of_ble_eq_true rfl) ?_
          refine lv_dup hx hb dX10_node_57 rfl ?_
          refine lv_iload_n hx hb dX10_node_58 rfl (lv_at hl 1 rfl) ?_
          refine lv_iload_n hx hb dX10_node_59 rfl (lv_at hl 2 rfl) ?_
          refine lv_iload_n hx hb dX10_node_60 rfl (lv_at hl 3 rfl) ?_
          refine lv_iload hx hb dX10_node_61 (lv_at hl 4 rfl) ?_
          refine lv_iload hx hb dX10_node_63 (lv_at hl 5 rfl) ?_
          refine lv_aload_n hx hb dX10_node_65 rfl (lv_at hl 0 rfl) ?_
          refine va_get (D := (dC, dI)) (ci := 11) (v := .ref st) (C := RX10) (T := TX10) (N := 8) hx hb hts in_c_X10_node_X10 hown hK hP 0 rfl rfl 1 (by decide) (hts (.fieldLink RX10 18 "ClaimBus" "store" "LClaimBus$Store;") (List.mem_of_getElem? (i := 11) rfl)) (fun _ h9 => h9) rfl dX10_node_66 ?_
          have hPc := hP.sub (ws' := [(q8, .inr (5, [.int 0, .int 0, .int 0, .int 0, .int 0, .null, .null, .null, .null, .null, .null, .null, .int 0, .int 0, .int 0, .int 0, .int 0, .int 0]))]) [2] rfl
          have hDc := hD.sub (ws' := [(q8, .inr (5, [.int 0, .int 0, .int 0, .int 0, .int 0, .null, .null, .null, .null, .null, .null, .null, .int 0, .int 0, .int 0, .int 0, .int 0, .int 0]))]) [2] (by decide) rfl
          have hKc := hK.sub (tys' := []) [] rfl
          have hFc := va_free (wc := [(q8, .inr (5, [.int 0, .int 0, .int 0, .int 0, .int 0, .null, .null, .null, .null, .null, .null, .null, .int 0, .int 0, .int 0, .int 0, .int 0, .int 0]))]) hD hS hA [2] rfl
          have hZc := (w_zq hZ hS).narrow (fun q h => hFc q h)
          refine va_callv (va_runI (As := [.int p0, .int p1, .int p2, .int fr, .int p3, .ref st]) (rest := [.ref q8, .int 0, .ref n0]) ⟨hx, hb, hml, hown, hts⟩ (c_X4_init l dC dI (q8) (p0) (p1) (p2) (fr) (p3) (st) H.size (hfr) (hfr2)) (cwI 6 hts g_c_X10_node_c_X4_init_50 rfl rfl rfl (hts (.initialized RX4) (List.mem_of_getElem? (i := 10) rfl)) (hts (.methodLink RX10 50 yX4_init) (List.mem_of_getElem? (i := 116) rfl)) (hts (.instanceMethod yX4_init) (List.mem_of_getElem? (i := 117) rfl)) rfl (by decide +kernel) ⟨Nat.le_of_ble_eq_true rfl, Nat.le_of_ble_eq_true rfl⟩) ⟨fun a U g mk q => by obtain ⟨q0, q1, qP, qK, qD, qE, qZ⟩ := q; exact ⟨q0, q1, qP, va_K.moved (u := U) (U := U.calling g mk a) (Vm.Alike.refl U.vm) qK, qD, ev.same (u := U) (U := U.calling g mk a) rfl qE, va_Zq.moved (u := U) (U := U.calling g mk a) (Vm.Alike.refl U.vm) qZ⟩, fun U hU hW => ⟨rfl, by rw [hU], by rw [hU]; exact hPc, va_K.moved hW.alike hKc, hDc.weaken (fun _ _ _ _ => trivial), hE.warm hW, by rw [hU]; exact hZc.moved hW.alike⟩⟩ rfl rfl hl.1 rfl (lv_room (Nat.le_of_ble_eq_true rfl)) dX10_node_69 ⟨Nat.le_of_ble_eq_true rfl, Nat.le_of_ble_eq_true rfl⟩) hS (fun q _ h => hFc q h) hFc (fun u t H1 locs ht hvm hw hB hz1 hk1 hS => ?_)
          clear hPc hDc hKc
          obtain ⟨vs, hP1, hK1, hD1⟩ := hB
          rw [ht] at hP1
          have hK1 := va_K.moved hvm.symm hK1
          obtain ⟨hP, hD⟩ := va_join (wr := [(h0, .inr (11, [.ref n0, .ref st, .ref la, .int 0, .int 0, .int 0, .int (-1), .int 0])), (n0, .inl (cN, 8, .inr (.inr (.inr (.inr (fun _ => none))))))]) (w1 := [(q8, .inr (5, vs))]) hP hD [2] [0, 1] rfl rfl (by decide) (by decide) hk1 hFc hP1 hD1
          generalize H1 = H at hP hS ⊢
          have hP : va_P (dC, dI) vwCl [(h0, .inr (11, [.ref n0, .ref st, .ref la, .int 0, .int 0, .int 0, .int (-1), .int 0])), (n0, .inl (cN, 8, .inr (.inr (.inr (.inr (fun _ => none)))))), (q8, .inr (5, vs))] H := hP
          have hD : va_D A [(h0, .inr (11, [.ref n0, .ref st, .ref la, .int 0, .int 0, .int 0, .int (-1), .int 0])), (n0, .inl (cN, 8, .inr (.inr (.inr (.inr (fun _ => none)))))), (q8, .inr (5, vs))] := hD
          refine W.widen (k := 12) (n := 401) (Nat.le_of_ble_eq_true rfl) (Nat.le_of_ble_eq_true rfl) ?_
          refine va_astq hx hb hK hP hD hS 1 0 2 5 rfl rfl rfl rfl (show ¬ ((0 : Int32) < 0 ∨ 8 ≤ (0 : Int32).toNatClampNeg) by decide) dX10_node_72 (fun H locs hP hD hS => ?_)
          obtain ⟨f_10, ef_10⟩ : ∃ z : Nat → Option Nat, z = va_up (fun _ => none) (Int32.toNatClampNeg (0)) (some q8) := ⟨_, rfl⟩
          have hP : va_P (dC, dI) vwCl [(h0, .inr (11, [.ref n0, .ref st, .ref la, .int 0, .int 0, .int 0, .int (-1), .int 0])), (n0, .inl (cN, 8, .inr (.inr (.inr (.inr f_10))))), (q8, .inr (5, vs))] H := by rw [ef_10]; exact hP
          have hD : va_D A [(h0, .inr (11, [.ref n0, .ref st, .ref la, .int 0, .int 0, .int 0, .int (-1), .int 0])), (n0, .inl (cN, 8, .inr (.inr (.inr (.inr f_10))))), (q8, .inr (5, vs))] := by rw [ef_10]; exact hD
          refine lv_aload_n hx hb dX10_node_73 rfl (lv_at hl 0 rfl) ?_
          refine lv_dup hx hb dX10_node_74 rfl ?_
          refine va_get (D := (dC, dI)) (ci := 11) (v := .int 0) (C := RX10) (T := TX10) (N := 8) hx hb hts in_c_X10_node_X10 hown hK hP 0 rfl rfl 3 (by decide) (hts (.fieldLink RX10 29 "ClaimBus" "nodeCount" "I") (List.mem_of_getElem? (i := 1) rfl)) (fun _ h9 => h9) rfl dX10_node_75 ?_
          refine lv_iconst (v := 1) hx hb dX10_node_78 (by decide) ?_
          refine lv_iadd hx hb dX10_node_79 ?_
          refine lv_topi (fun x_11 ex_11 => ?_)
          obtain rfl : x_11 = 1 := ex_11.trans (by decide)
          refine va_put (D := (dC, dI)) (ci := 11) (v := .int 1) (ty := .int) (C := RX10) (T := TX10) (N := 8) hx hb hts in_c_X10_node_X10 tyX10 tyX10_ok nmX10 hown hK hP hD hS 0 rfl rfl 3 (by decide) (hts (.fieldLink RX10 29 "ClaimBus" "nodeCount" "I") (List.mem_of_getElem? (i := 1) rfl)) (fun _ h9 => h9) rfl (by decide +kernel) rfl rfl (Nat.le_of_ble_eq_true rfl) dX10_node_80 (fun H locs hP hD hS => ?_)
          have hP : va_P (dC, dI) vwCl [(h0, .inr (11, [.ref n0, .ref st, .ref la, .int 1, .int 0, .int 0, .int (-1), .int 0])), (n0, .inl (cN, 8, .inr (.inr (.inr (.inr f_10))))), (q8, .inr (5, vs))] H := hP
          have hD : va_D A [(h0, .inr (11, [.ref n0, .ref st, .ref la, .int 1, .int 0, .int 0, .int (-1), .int 0])), (n0, .inl (cN, 8, .inr (.inr (.inr (.inr f_10))))), (q8, .inr (5, vs))] := hD
          refine lv_aload_n hx hb dX10_node_83 rfl (lv_at hl 0 rfl) ?_
          refine va_get (D := (dC, dI)) (ci := 11) (v := .int 1) (C := RX10) (T := TX10) (N := 8) hx hb hts in_c_X10_node_X10 hown hK hP 0 rfl rfl 3 (by decide) (hts (.fieldLink RX10 29 "ClaimBus" "nodeCount" "I") (List.mem_of_getElem? (i := 1) rfl)) (fun _ h9 => h9) rfl dX10_node_84 ?_
          refine lv_iconst (v := 1) hx hb dX10_node_87 (by decide) ?_
          refine lv_isub hx hb dX10_node_88 ?_
          refine lv_topi (fun x_12 ex_12 => ?_)
          obtain rfl : x_12 = 0 := ex_12.trans (by decide)
          exact W.iret (v := 0) hx hb hr (fun t ht hW => ⟨⟨0, (), rfl, (by rw [if_pos ⟨Int32.not_lt.mp c_1, Int32.not_lt.mp c_2, Int32.not_lt.mp c_3, c_4⟩]), trivial⟩, hS.F ht⟩) hS.2.2 dX10_node_89
        · refine lv_iconst (v := -1) hx hb dX10_node_24 (by decide) ?_
          refine W.widen (k := 12) (n := 401) (Nat.le_of_ble_eq_true rfl) (Nat.le_of_ble_eq_true rfl) ?_
          exact W.iret (v := (-1)) hx hb hr (fun t ht hW => ⟨⟨(-1), (), rfl, (by rw [if_neg]; exact fun h => absurd h.2.2.2 c_4), trivial⟩, hS.F ht⟩) hS.2.2 dX10_node_25
end
