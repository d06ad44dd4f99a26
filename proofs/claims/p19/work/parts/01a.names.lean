-- ===== PART A: goes FIRST, ahead of the names: the tables' words, and 'selects' of the private methods out of them =====
/-- a private method of a class that the tables say can be made, by its rows of tables_1 -/
def lw_okq (q : MethodName × Nat) : Prop := (q.1.cls ≠ "java/lang/invoke/MethodHandle" ∧ q.1.cls ≠ "java/lang/invoke/VarHandle") ∧ Cond.instantiable q.1.cls q.2 ∈ tables_1 ∧ Cond.privateMethod q.1 ∈ tables_1 ∧ Cond.instanceMethod q.1 ∈ tables_1
theorem lw_p0 : lw_okq (⟨"ClaimBus", "nameIsThere", "(II)Z"⟩, 8) := ⟨⟨by decide +kernel, by decide +kernel⟩, List.mem_of_getElem? (i := 22) (by decide +kernel), List.mem_of_getElem? (i := 123) (by decide +kernel), List.mem_of_getElem? (i := 124) (by decide +kernel)⟩
theorem lw_p1 : lw_okq (⟨"ClaimBus", "find", "(I)LClaimBus$Node;"⟩, 8) := ⟨⟨by decide +kernel, by decide +kernel⟩, List.mem_of_getElem? (i := 22) (by decide +kernel), List.mem_of_getElem? (i := 127) (by decide +kernel), List.mem_of_getElem? (i := 128) (by decide +kernel)⟩
theorem lw_p2 : lw_okq (⟨"java/util/ArrayList", "add", "(Ljava/lang/Object;[Ljava/lang/Object;I)V"⟩, 3) := ⟨⟨by decide +kernel, by decide +kernel⟩, List.mem_of_getElem? (i := 38) (by decide +kernel), List.mem_of_getElem? (i := 382) (by decide +kernel), List.mem_of_getElem? (i := 383) (by decide +kernel)⟩
theorem lw_p3 : lw_okq (⟨"java/util/ArrayList", "grow", "()[Ljava/lang/Object;"⟩, 3) := ⟨⟨by decide +kernel, by decide +kernel⟩, List.mem_of_getElem? (i := 38) (by decide +kernel), List.mem_of_getElem? (i := 386) (by decide +kernel), List.mem_of_getElem? (i := 387) (by decide +kernel)⟩
theorem lw_p4 : lw_okq (⟨"java/util/ArrayList", "grow", "(I)[Ljava/lang/Object;"⟩, 3) := ⟨⟨by decide +kernel, by decide +kernel⟩, List.mem_of_getElem? (i := 38) (by decide +kernel), List.mem_of_getElem? (i := 390) (by decide +kernel), List.mem_of_getElem? (i := 391) (by decide +kernel)⟩
theorem lw_p5 : lw_okq (⟨"ClaimBus$Row", "lengthen", "(LClaimBus$Chunk;)V"⟩, 12) := ⟨⟨by decide +kernel, by decide +kernel⟩, List.mem_of_getElem? (i := 202) (by decide +kernel), List.mem_of_getElem? (i := 466) (by decide +kernel), List.mem_of_getElem? (i := 467) (by decide +kernel)⟩
theorem lw_p6 : lw_okq (⟨"ClaimBus", "nextMoment", "(I)I"⟩, 8) := ⟨⟨by decide +kernel, by decide +kernel⟩, List.mem_of_getElem? (i := 22) (by decide +kernel), List.mem_of_getElem? (i := 475) (by decide +kernel), List.mem_of_getElem? (i := 476) (by decide +kernel)⟩
theorem lw_p7 : lw_okq (⟨"ClaimBus", "runTimers", "()V"⟩, 8) := ⟨⟨by decide +kernel, by decide +kernel⟩, List.mem_of_getElem? (i := 22) (by decide +kernel), List.mem_of_getElem? (i := 506) (by decide +kernel), List.mem_of_getElem? (i := 507) (by decide +kernel)⟩
theorem lw_p8 : lw_okq (⟨"ClaimBus$Node", "sendOn", "(I)V"⟩, 18) := ⟨⟨by decide +kernel, by decide +kernel⟩, List.mem_of_getElem? (i := 130) (by decide +kernel), List.mem_of_getElem? (i := 514) (by decide +kernel), List.mem_of_getElem? (i := 515) (by decide +kernel)⟩
theorem lw_p9 : lw_okq (⟨"ClaimBus$Node", "breakOff", "(LClaimBus$Message;II)V"⟩, 18) := ⟨⟨by decide +kernel, by decide +kernel⟩, List.mem_of_getElem? (i := 130) (by decide +kernel), List.mem_of_getElem? (i := 518) (by decide +kernel), List.mem_of_getElem? (i := 519) (by decide +kernel)⟩
theorem lw_p10 : lw_okq (⟨"ClaimBus$Node", "waitedTooLong", "(LClaimBus$Transport;I)V"⟩, 18) := ⟨⟨by decide +kernel, by decide +kernel⟩, List.mem_of_getElem? (i := 130) (by decide +kernel), List.mem_of_getElem? (i := 526) (by decide +kernel), List.mem_of_getElem? (i := 527) (by decide +kernel)⟩
theorem lw_p11 : lw_okq (⟨"ClaimBus$Node", "clearNext", "(LClaimBus$Transport;I)V"⟩, 18) := ⟨⟨by decide +kernel, by decide +kernel⟩, List.mem_of_getElem? (i := 130) (by decide +kernel), List.mem_of_getElem? (i := 530) (by decide +kernel), List.mem_of_getElem? (i := 531) (by decide +kernel)⟩
theorem lw_p12 : lw_okq (⟨"ClaimBus", "carryFrame", "()V"⟩, 8) := ⟨⟨by decide +kernel, by decide +kernel⟩, List.mem_of_getElem? (i := 22) (by decide +kernel), List.mem_of_getElem? (i := 534) (by decide +kernel), List.mem_of_getElem? (i := 535) (by decide +kernel)⟩
theorem lw_p13 : lw_okq (⟨"ClaimBus", "firstToSend", "()I"⟩, 8) := ⟨⟨by decide +kernel, by decide +kernel⟩, List.mem_of_getElem? (i := 22) (by decide +kernel), List.mem_of_getElem? (i := 538) (by decide +kernel), List.mem_of_getElem? (i := 539) (by decide +kernel)⟩
theorem lw_p14 : lw_okq (⟨"ClaimBus$Row", "writeFirst", "(I)V"⟩, 12) := ⟨⟨by decide +kernel, by decide +kernel⟩, List.mem_of_getElem? (i := 202) (by decide +kernel), List.mem_of_getElem? (i := 547) (by decide +kernel), List.mem_of_getElem? (i := 548) (by decide +kernel)⟩
theorem lw_p15 : lw_okq (⟨"ClaimBus$Row", "firstEntry", "()J"⟩, 12) := ⟨⟨by decide +kernel, by decide +kernel⟩, List.mem_of_getElem? (i := 202) (by decide +kernel), List.mem_of_getElem? (i := 556) (by decide +kernel), List.mem_of_getElem? (i := 557) (by decide +kernel)⟩
def lw_privs_1 : List (MethodName × Nat) := [(⟨"ClaimBus", "nameIsThere", "(II)Z"⟩, 8), (⟨"ClaimBus", "find", "(I)LClaimBus$Node;"⟩, 8), (⟨"java/util/ArrayList", "add", "(Ljava/lang/Object;[Ljava/lang/Object;I)V"⟩, 3), (⟨"java/util/ArrayList", "grow", "()[Ljava/lang/Object;"⟩, 3), (⟨"java/util/ArrayList", "grow", "(I)[Ljava/lang/Object;"⟩, 3), (⟨"ClaimBus$Row", "lengthen", "(LClaimBus$Chunk;)V"⟩, 12), (⟨"ClaimBus", "nextMoment", "(I)I"⟩, 8), (⟨"ClaimBus", "runTimers", "()V"⟩, 8), (⟨"ClaimBus$Node", "sendOn", "(I)V"⟩, 18), (⟨"ClaimBus$Node", "breakOff", "(LClaimBus$Message;II)V"⟩, 18), (⟨"ClaimBus$Node", "waitedTooLong", "(LClaimBus$Transport;I)V"⟩, 18), (⟨"ClaimBus$Node", "clearNext", "(LClaimBus$Transport;I)V"⟩, 18), (⟨"ClaimBus", "carryFrame", "()V"⟩, 8), (⟨"ClaimBus", "firstToSend", "()I"⟩, 8), (⟨"ClaimBus$Row", "writeFirst", "(I)V"⟩, 12), (⟨"ClaimBus$Row", "firstEntry", "()J"⟩, 12)]
theorem lw_r1 : ∀ q ∈ lw_privs_1, lw_okq q := List.forall_mem_cons.mpr ⟨lw_p0, List.forall_mem_cons.mpr ⟨lw_p1, List.forall_mem_cons.mpr ⟨lw_p2, List.forall_mem_cons.mpr ⟨lw_p3, List.forall_mem_cons.mpr ⟨lw_p4, List.forall_mem_cons.mpr ⟨lw_p5, List.forall_mem_cons.mpr ⟨lw_p6, List.forall_mem_cons.mpr ⟨lw_p7, List.forall_mem_cons.mpr ⟨lw_p8, List.forall_mem_cons.mpr ⟨lw_p9, List.forall_mem_cons.mpr ⟨lw_p10, List.forall_mem_cons.mpr ⟨lw_p11, List.forall_mem_cons.mpr ⟨lw_p12, List.forall_mem_cons.mpr ⟨lw_p13, List.forall_mem_cons.mpr ⟨lw_p14, List.forall_mem_cons.mpr ⟨lw_p15, fun _ h => absurd h List.not_mem_nil⟩⟩⟩⟩⟩⟩⟩⟩⟩⟩⟩⟩⟩⟩⟩⟩
theorem lw_p16 : lw_okq (⟨"ClaimBus$Row", "removeFromFirstEntry", "()V"⟩, 12) := ⟨⟨by decide +kernel, by decide +kernel⟩, List.mem_of_getElem? (i := 202) (by decide +kernel), List.mem_of_getElem? (i := 630) (by decide +kernel), List.mem_of_getElem? (i := 631) (by decide +kernel)⟩
theorem lw_p17 : lw_okq (⟨"ClaimBus$Node", "hearClaim", "(LClaimBus$Frame;I)V"⟩, 18) := ⟨⟨by decide +kernel, by decide +kernel⟩, List.mem_of_getElem? (i := 130) (by decide +kernel), List.mem_of_getElem? (i := 639) (by decide +kernel), List.mem_of_getElem? (i := 640) (by decide +kernel)⟩
theorem lw_p18 : lw_okq (⟨"ClaimBus$Node", "goesBeforeName", "(II)Z"⟩, 18) := ⟨⟨by decide +kernel, by decide +kernel⟩, List.mem_of_getElem? (i := 130) (by decide +kernel), List.mem_of_getElem? (i := 651) (by decide +kernel), List.mem_of_getElem? (i := 652) (by decide +kernel)⟩
theorem lw_p19 : lw_okq (⟨"ClaimBus$Node", "dropAll", "()V"⟩, 18) := ⟨⟨by decide +kernel, by decide +kernel⟩, List.mem_of_getElem? (i := 130) (by decide +kernel), List.mem_of_getElem? (i := 659) (by decide +kernel), List.mem_of_getElem? (i := 660) (by decide +kernel)⟩
theorem lw_p20 : lw_okq (⟨"ClaimBus$Node", "nextFreeAddress", "()I"⟩, 18) := ⟨⟨by decide +kernel, by decide +kernel⟩, List.mem_of_getElem? (i := 130) (by decide +kernel), List.mem_of_getElem? (i := 664) (by decide +kernel), List.mem_of_getElem? (i := 665) (by decide +kernel)⟩
theorem lw_p21 : lw_okq (⟨"ClaimBus$Node", "hearControl", "(LClaimBus$Frame;I)V"⟩, 18) := ⟨⟨by decide +kernel, by decide +kernel⟩, List.mem_of_getElem? (i := 130) (by decide +kernel), List.mem_of_getElem? (i := 677) (by decide +kernel), List.mem_of_getElem? (i := 678) (by decide +kernel)⟩
theorem lw_p22 : lw_okq (⟨"ClaimBus$Node", "placeFor", "(I)LClaimBus$Transport;"⟩, 18) := ⟨⟨by decide +kernel, by decide +kernel⟩, List.mem_of_getElem? (i := 130) (by decide +kernel), List.mem_of_getElem? (i := 690) (by decide +kernel), List.mem_of_getElem? (i := 691) (by decide +kernel)⟩
theorem lw_p23 : lw_okq (⟨"ClaimBus$Node", "gotFrom", "(I)LClaimBus$Transport;"⟩, 18) := ⟨⟨by decide +kernel, by decide +kernel⟩, List.mem_of_getElem? (i := 130) (by decide +kernel), List.mem_of_getElem? (i := 694) (by decide +kernel), List.mem_of_getElem? (i := 695) (by decide +kernel)⟩
theorem lw_p24 : lw_okq (⟨"ClaimBus$Node", "beginCollecting", "(LClaimBus$Frame;I)V"⟩, 18) := ⟨⟨by decide +kernel, by decide +kernel⟩, List.mem_of_getElem? (i := 130) (by decide +kernel), List.mem_of_getElem? (i := 768) (by decide +kernel), List.mem_of_getElem? (i := 769) (by decide +kernel)⟩
theorem lw_p25 : lw_okq (⟨"ClaimBus$Node", "collectedFrom", "(I)LClaimBus$Transport;"⟩, 18) := ⟨⟨by decide +kernel, by decide +kernel⟩, List.mem_of_getElem? (i := 130) (by decide +kernel), List.mem_of_getElem? (i := 772) (by decide +kernel), List.mem_of_getElem? (i := 773) (by decide +kernel)⟩
theorem lw_p26 : lw_okq (⟨"ClaimBus$Node", "sendCleared", "(III)V"⟩, 18) := ⟨⟨by decide +kernel, by decide +kernel⟩, List.mem_of_getElem? (i := 130) (by decide +kernel), List.mem_of_getElem? (i := 777) (by decide +kernel), List.mem_of_getElem? (i := 778) (by decide +kernel)⟩
theorem lw_p27 : lw_okq (⟨"ClaimBus$Node", "dropGot", "(II)V"⟩, 18) := ⟨⟨by decide +kernel, by decide +kernel⟩, List.mem_of_getElem? (i := 130) (by decide +kernel), List.mem_of_getElem? (i := 781) (by decide +kernel), List.mem_of_getElem? (i := 782) (by decide +kernel)⟩
theorem lw_p28 : lw_okq (⟨"ClaimBus$Inbox", "enter", "(IIII)V"⟩, 4) := ⟨⟨by decide +kernel, by decide +kernel⟩, List.mem_of_getElem? (i := 175) (by decide +kernel), List.mem_of_getElem? (i := 796) (by decide +kernel), List.mem_of_getElem? (i := 797) (by decide +kernel)⟩
theorem lw_p29 : lw_okq (⟨"ClaimBus$Inbox", "listOf", "(I)[I"⟩, 4) := ⟨⟨by decide +kernel, by decide +kernel⟩, List.mem_of_getElem? (i := 175) (by decide +kernel), List.mem_of_getElem? (i := 801) (by decide +kernel), List.mem_of_getElem? (i := 802) (by decide +kernel)⟩
theorem lw_p30 : lw_okq (⟨"ClaimBus$Node", "collectPacket", "(LClaimBus$Frame;I)V"⟩, 18) := ⟨⟨by decide +kernel, by decide +kernel⟩, List.mem_of_getElem? (i := 130) (by decide +kernel), List.mem_of_getElem? (i := 810) (by decide +kernel), List.mem_of_getElem? (i := 811) (by decide +kernel)⟩
theorem lw_p31 : lw_okq (⟨"ClaimBus$Transport", "takeByte", "(II)V"⟩, 14) := ⟨⟨by decide +kernel, by decide +kernel⟩, List.mem_of_getElem? (i := 697) (by decide +kernel), List.mem_of_getElem? (i := 818) (by decide +kernel), List.mem_of_getElem? (i := 819) (by decide +kernel)⟩
def lw_privs_2 : List (MethodName × Nat) := [(⟨"ClaimBus$Row", "removeFromFirstEntry", "()V"⟩, 12), (⟨"ClaimBus$Node", "hearClaim", "(LClaimBus$Frame;I)V"⟩, 18), (⟨"ClaimBus$Node", "goesBeforeName", "(II)Z"⟩, 18), (⟨"ClaimBus$Node", "dropAll", "()V"⟩, 18), (⟨"ClaimBus$Node", "nextFreeAddress", "()I"⟩, 18), (⟨"ClaimBus$Node", "hearControl", "(LClaimBus$Frame;I)V"⟩, 18), (⟨"ClaimBus$Node", "placeFor", "(I)LClaimBus$Transport;"⟩, 18), (⟨"ClaimBus$Node", "gotFrom", "(I)LClaimBus$Transport;"⟩, 18), (⟨"ClaimBus$Node", "beginCollecting", "(LClaimBus$Frame;I)V"⟩, 18), (⟨"ClaimBus$Node", "collectedFrom", "(I)LClaimBus$Transport;"⟩, 18), (⟨"ClaimBus$Node", "sendCleared", "(III)V"⟩, 18), (⟨"ClaimBus$Node", "dropGot", "(II)V"⟩, 18), (⟨"ClaimBus$Inbox", "enter", "(IIII)V"⟩, 4), (⟨"ClaimBus$Inbox", "listOf", "(I)[I"⟩, 4), (⟨"ClaimBus$Node", "collectPacket", "(LClaimBus$Frame;I)V"⟩, 18), (⟨"ClaimBus$Transport", "takeByte", "(II)V"⟩, 14)]
theorem lw_r2 : ∀ q ∈ lw_privs_2, lw_okq q := List.forall_mem_cons.mpr ⟨lw_p16, List.forall_mem_cons.mpr ⟨lw_p17, List.forall_mem_cons.mpr ⟨lw_p18, List.forall_mem_cons.mpr ⟨lw_p19, List.forall_mem_cons.mpr ⟨lw_p20, List.forall_mem_cons.mpr ⟨lw_p21, List.forall_mem_cons.mpr ⟨lw_p22, List.forall_mem_cons.mpr ⟨lw_p23, List.forall_mem_cons.mpr ⟨lw_p24, List.forall_mem_cons.mpr ⟨lw_p25, List.forall_mem_cons.mpr ⟨lw_p26, List.forall_mem_cons.mpr ⟨lw_p27, List.forall_mem_cons.mpr ⟨lw_p28, List.forall_mem_cons.mpr ⟨lw_p29, List.forall_mem_cons.mpr ⟨lw_p30, List.forall_mem_cons.mpr ⟨lw_p31, fun _ h => absurd h List.not_mem_nil⟩⟩⟩⟩⟩⟩⟩⟩⟩⟩⟩⟩⟩⟩⟩⟩
theorem lw_p32 : lw_okq (⟨"ClaimBus$Inbox", "keepTroubles", "([ILClaimBus$Transport;)V"⟩, 4) := ⟨⟨by decide +kernel, by decide +kernel⟩, List.mem_of_getElem? (i := 175) (by decide +kernel), List.mem_of_getElem? (i := 831) (by decide +kernel), List.mem_of_getElem? (i := 832) (by decide +kernel)⟩
theorem lw_p33 : lw_okq (⟨"ClaimBus$Node", "getPacket", "(LClaimBus$Frame;I)V"⟩, 18) := ⟨⟨by decide +kernel, by decide +kernel⟩, List.mem_of_getElem? (i := 130) (by decide +kernel), List.mem_of_getElem? (i := 841) (by decide +kernel), List.mem_of_getElem? (i := 842) (by decide +kernel)⟩
theorem lw_p34 : lw_okq (⟨"ClaimBus", "isDisturbed", "()Z"⟩, 8) := ⟨⟨by decide +kernel, by decide +kernel⟩, List.mem_of_getElem? (i := 22) (by decide +kernel), List.mem_of_getElem? (i := 865) (by decide +kernel), List.mem_of_getElem? (i := 866) (by decide +kernel)⟩
theorem lw_p35 : lw_okq (⟨"ClaimBus", "addressesAreApart", "()Z"⟩, 8) := ⟨⟨by decide +kernel, by decide +kernel⟩, List.mem_of_getElem? (i := 22) (by decide +kernel), List.mem_of_getElem? (i := 869) (by decide +kernel), List.mem_of_getElem? (i := 870) (by decide +kernel)⟩
theorem lw_p36 : lw_okq (⟨"ClaimBus", "messagesAreTrue", "()Z"⟩, 8) := ⟨⟨by decide +kernel, by decide +kernel⟩, List.mem_of_getElem? (i := 22) (by decide +kernel), List.mem_of_getElem? (i := 877) (by decide +kernel), List.mem_of_getElem? (i := 878) (by decide +kernel)⟩
theorem lw_p37 : lw_okq (⟨"ClaimBus", "nodesWithAddress", "()I"⟩, 8) := ⟨⟨by decide +kernel, by decide +kernel⟩, List.mem_of_getElem? (i := 22) (by decide +kernel), List.mem_of_getElem? (i := 885) (by decide +kernel), List.mem_of_getElem? (i := 886) (by decide +kernel)⟩
def lw_privs_3 : List (MethodName × Nat) := [(⟨"ClaimBus$Inbox", "keepTroubles", "([ILClaimBus$Transport;)V"⟩, 4), (⟨"ClaimBus$Node", "getPacket", "(LClaimBus$Frame;I)V"⟩, 18), (⟨"ClaimBus", "isDisturbed", "()Z"⟩, 8), (⟨"ClaimBus", "addressesAreApart", "()Z"⟩, 8), (⟨"ClaimBus", "messagesAreTrue", "()Z"⟩, 8), (⟨"ClaimBus", "nodesWithAddress", "()I"⟩, 8)]
theorem lw_r3 : ∀ q ∈ lw_privs_3, lw_okq q := List.forall_mem_cons.mpr ⟨lw_p32, List.forall_mem_cons.mpr ⟨lw_p33, List.forall_mem_cons.mpr ⟨lw_p34, List.forall_mem_cons.mpr ⟨lw_p35, List.forall_mem_cons.mpr ⟨lw_p36, List.forall_mem_cons.mpr ⟨lw_p37, fun _ h => absurd h List.not_mem_nil⟩⟩⟩⟩⟩⟩
def lw_privs : List (MethodName × Nat) := lw_privs_1 ++ (lw_privs_2 ++ (lw_privs_3))
def lw_tbl : List Cond := k2_sels lw_privs ++ tables_1
theorem lw_privs_ok : ∀ q ∈ lw_privs, lw_okq q := by
  show ∀ q ∈ lw_privs_1 ++ (lw_privs_2 ++ (lw_privs_3)), lw_okq q
  exact List.forall_mem_append.mpr ⟨lw_r1, List.forall_mem_append.mpr ⟨lw_r2, lw_r3⟩⟩

/-! ===== BEGIN words of one list among another's, by their places ===== -/
theorem goodIn_r {big : List Cond} (ws : List Cond) (ps : List Nat) (hp : ws = ps.filterMap (fun i => big[i]?)) (h : ws.all goodWord = true) : GoodIn big ws := by
  intro w hw
  have h1 := List.all_eq_true.mp h w hw
  rw [hp] at hw
  obtain ⟨i, -, hi⟩ := List.mem_filterMap.mp hw
  have hm : w ∈ big := by first | exact List.mem_of_getElem? hi | exact List.getElem?_mem hi
  exact ⟨hm, good_of_word h1⟩
theorem goodIn_app {big a b : List Cond} (ha : GoodIn big a) (hb : GoodIn big b) : GoodIn big (a ++ b) := fun w h => (List.mem_append.mp h).elim (ha w) (hb w)
theorem goodIn_ca {big a b : List Cond} {c : Cond} (ha : GoodIn big (c :: a)) (hb : GoodIn big b) : GoodIn big (c :: (a ++ b)) := fun w h => (List.mem_cons.mp h).elim (fun e => ha w (List.mem_cons.mpr (Or.inl e))) (fun h => (List.mem_append.mp h).elim (fun h => ha w (List.mem_cons.mpr (Or.inr h))) (hb w))
theorem goodIn_sub {big ws : List Cond} (hm : ∀ w ∈ ws, w ∈ big) (h : ws.all goodWord = true) : GoodIn big ws := fun w hw => ⟨hm w hw, good_of_word (List.all_eq_true.mp h w hw)⟩
/-! ===== END ===== -/

/-! ===== BEGIN printed: names, fields, word lists, decode rows ===== -/
def RX0 : String := "ClaimBus$Chunk"
def TX0 : u_T := fun k => match k with
  | 0 => ("ClaimBus$Chunk", "entries", "[J", true)
  | _ => ("ClaimBus$Chunk", "next", "LClaimBus$Chunk;", false)
def tyX0 : Nat → FieldType := fun k => match k with
  | 0 => .array .long
  | _ => .object "ClaimBus$Chunk"
abbrev wsX00 : List Cond := u_ws RX0 TX0 2
theorem nmX0 : ∀ a, a < 2 → ∀ b, b < 2 → a ≠ b → (TX0 a).2.1 ≠ (TX0 b).2.1 := by decide +kernel
theorem tyX0_ok : ∀ k, k < 2 → parseFieldDescriptor (TX0 k).2.2.1 = some (tyX0 k) := by decide +kernel
abbrev cX0_init : ByteArray := prog_2_method_1_code
def yX0_init : MethodName := ⟨RX0, "<init>", "()V"⟩
def RX1 : String := "ClaimBus$Frame"
def TX1 : u_T := fun k => match k with
  | 0 => ("ClaimBus$Frame", "identifier", "I", false)
  | 1 => ("ClaimBus$Frame", "first", "I", false)
  | 2 => ("ClaimBus$Frame", "others", "I", false)
  | _ => ("ClaimBus$Frame", "whole", "LClaimBus$Message;", false)
def tyX1 : Nat → FieldType := fun k => match k with
  | 0 => .int
  | 1 => .int
  | 2 => .int
  | _ => .object "ClaimBus$Message"
abbrev wsX10 : List Cond := u_ws RX1 TX1 4
theorem nmX1 : ∀ a, a < 4 → ∀ b, b < 4 → a ≠ b → (TX1 a).2.1 ≠ (TX1 b).2.1 := by decide +kernel
theorem tyX1_ok : ∀ k, k < 4 → parseFieldDescriptor (TX1 k).2.2.1 = some (tyX1 k) := by decide +kernel
abbrev cX1_init : ByteArray := prog_3_method_1_code
def yX1_init : MethodName := ⟨RX1, "<init>", "()V"⟩
abbrev cX1_write : ByteArray := prog_3_method_2_code
def yX1_write : MethodName := ⟨RX1, "write", "(IIILClaimBus$Message;)V"⟩
abbrev cX1_takeOver : ByteArray := prog_3_method_3_code
def yX1_takeOver : MethodName := ⟨RX1, "takeOver", "(LClaimBus$Frame;)V"⟩
abbrev cX1_isOf : ByteArray := prog_3_method_4_code
def yX1_isOf : MethodName := ⟨RX1, "isOf", "(I)Z"⟩
abbrev cX1_isFor : ByteArray := prog_3_method_5_code
def yX1_isFor : MethodName := ⟨RX1, "isFor", "(I)Z"⟩
abbrev cX1_isForAll : ByteArray := prog_3_method_6_code
def yX1_isForAll : MethodName := ⟨RX1, "isForAll", "()Z"⟩
abbrev cX1_source : ByteArray := prog_3_method_7_code
def yX1_source : MethodName := ⟨RX1, "source", "()I"⟩
abbrev cX1_group : ByteArray := prog_3_method_8_code
def yX1_group : MethodName := ⟨RX1, "group", "()I"⟩
abbrev cX1_controlGroup : ByteArray := prog_3_method_9_code
def yX1_controlGroup : MethodName := ⟨RX1, "controlGroup", "()I"⟩
abbrev cX1_byteAt : ByteArray := prog_3_method_10_code
def yX1_byteAt : MethodName := ⟨RX1, "byteAt", "(I)I"⟩
abbrev cX1_goesBefore : ByteArray := prog_3_method_11_code
def yX1_goesBefore : MethodName := ⟨RX1, "goesBefore", "(LClaimBus$Frame;)Z"⟩
def RX2 : String := "ClaimBus$Inbox"
def TX2 : u_T := fun k => match k with
  | 0 => ("ClaimBus$Inbox", "came", "I", false)
  | 1 => ("ClaimBus$Inbox", "gotAnotherThanSent", "Z", false)
  | 2 => ("ClaimBus$Inbox", "log", "[I", true)
  | _ => ("ClaimBus$Inbox", "troubles", "[[I", true)
def tyX2 : Nat → FieldType := fun k => match k with
  | 0 => .int
  | 1 => .boolean
  | 2 => .array .int
  | _ => .array (.array .int)
abbrev wsX20 : List Cond := u_ws RX2 TX2 4
theorem nmX2 : ∀ a, a < 4 → ∀ b, b < 4 → a ≠ b → (TX2 a).2.1 ≠ (TX2 b).2.1 := by decide +kernel
theorem tyX2_ok : ∀ k, k < 4 → parseFieldDescriptor (TX2 k).2.2.1 = some (tyX2 k) := by decide +kernel
abbrev cX2_init : ByteArray := prog_4_method_1_code
def yX2_init : MethodName := ⟨RX2, "<init>", "()V"⟩
abbrev cX2_takeFrame : ByteArray := prog_4_method_2_code
def yX2_takeFrame : MethodName := ⟨RX2, "takeFrame", "(LClaimBus$Frame;)V"⟩
abbrev cX2_takeMessage : ByteArray := prog_4_method_3_code
def yX2_takeMessage : MethodName := ⟨RX2, "takeMessage", "(LClaimBus$Transport;)V"⟩
abbrev cX2_keepTroubles : ByteArray := prog_4_method_4_code
def yX2_keepTroubles : MethodName := ⟨RX2, "keepTroubles", "([ILClaimBus$Transport;)V"⟩
abbrev cX2_enter : ByteArray := prog_4_method_5_code
def yX2_enter : MethodName := ⟨RX2, "enter", "(IIII)V"⟩
abbrev cX2_listOf : ByteArray := prog_4_method_6_code
def yX2_listOf : MethodName := ⟨RX2, "listOf", "(I)[I"⟩
abbrev cX2_logged : ByteArray := prog_4_method_8_code
def yX2_logged : MethodName := ⟨RX2, "logged", "(II)I"⟩
def RX3 : String := "ClaimBus$Message"
def TX3 : u_T := fun k => match k with
  | 0 => ("ClaimBus$Message", "index", "I", true)
  | 1 => ("ClaimBus$Message", "to", "I", true)
  | 2 => ("ClaimBus$Message", "group", "I", true)
  | 3 => ("ClaimBus$Message", "size", "I", true)
  | 4 => ("ClaimBus$Message", "seed", "I", true)
  | _ => ("ClaimBus$Message", "troubles", "[I", false)
def tyX3 : Nat → FieldType := fun k => match k with
  | 0 => .int
  | 1 => .int
  | 2 => .int
  | 3 => .int
  | 4 => .int
  | _ => .array .int
abbrev wsX30 : List Cond := u_ws RX3 TX3 6
theorem nmX3 : ∀ a, a < 6 → ∀ b, b < 6 → a ≠ b → (TX3 a).2.1 ≠ (TX3 b).2.1 := by decide +kernel
theorem tyX3_ok : ∀ k, k < 6 → parseFieldDescriptor (TX3 k).2.2.1 = some (tyX3 k) := by decide +kernel
abbrev cX3_init : ByteArray := prog_5_method_1_code
def yX3_init : MethodName := ⟨RX3, "<init>", "(IIIII)V"⟩
abbrev cX3_writeShort : ByteArray := prog_5_method_2_code
def yX3_writeShort : MethodName := ⟨RX3, "writeShort", "(LClaimBus$Frame;I)V"⟩
abbrev cX3_writePacket : ByteArray := prog_5_method_3_code
def yX3_writePacket : MethodName := ⟨RX3, "writePacket", "(LClaimBus$Frame;II)V"⟩
abbrev cX3_writeControl : ByteArray := prog_5_method_4_code
def yX3_writeControl : MethodName := ⟨RX3, "writeControl", "(LClaimBus$Frame;IIII)V"⟩
abbrev cX3_packets : ByteArray := prog_5_method_5_code
def yX3_packets : MethodName := ⟨RX3, "packets", "()I"⟩
abbrev cX3_fourFrom : ByteArray := prog_5_method_6_code
def yX3_fourFrom : MethodName := ⟨RX3, "fourFrom", "(I)I"⟩
abbrev cX3_byteAt : ByteArray := prog_5_method_7_code
def yX3_byteAt : MethodName := ⟨RX3, "byteAt", "(I)I"⟩
def RX4 : String := "ClaimBus$Node"
def TX4 : u_T := fun k => match k with
  | 0 => ("ClaimBus$Node", "high", "I", true)
  | 1 => ("ClaimBus$Node", "low", "I", true)
  | 2 => ("ClaimBus$Node", "wanted", "I", true)
  | 3 => ("ClaimBus$Node", "free", "Z", true)
  | 4 => ("ClaimBus$Node", "window", "I", true)
  | 5 => ("ClaimBus$Node", "row", "LClaimBus$Row;", true)
  | 6 => ("ClaimBus$Node", "table", "LClaimBus$Table;", true)
  | 7 => ("ClaimBus$Node", "sending", "LClaimBus$Sending;", true)
  | 8 => ("ClaimBus$Node", "inbox", "LClaimBus$Inbox;", true)
  | 9 => ("ClaimBus$Node", "gets", "[LClaimBus$Transport;", true)
  | 10 => ("ClaimBus$Node", "collects", "Ljava/util/ArrayList;", true)
  | 11 => ("ClaimBus$Node", "troubles", "[I", true)
  | 12 => ("ClaimBus$Node", "troubleCount", "I", false)
  | 13 => ("ClaimBus$Node", "state", "I", false)
  | 14 => ("ClaimBus$Node", "address", "I", false)
  | 15 => ("ClaimBus$Node", "claimCarriedAt", "I", false)
  | 16 => ("ClaimBus$Node", "toLose", "I", false)
  | _ => ("ClaimBus$Node", "lost", "I", false)
def tyX4 : Nat → FieldType := fun k => match k with
  | 0 => .int
  | 1 => .int
  | 2 => .int
  | 3 => .boolean
  | 4 => .int
  | 5 => .object "ClaimBus$Row"
  | 6 => .object "ClaimBus$Table"
  | 7 => .object "ClaimBus$Sending"
  | 8 => .object "ClaimBus$Inbox"
  | 9 => .array (.object "ClaimBus$Transport")
  | 10 => .object "java/util/ArrayList"
  | 11 => .array .int
  | 12 => .int
  | 13 => .int
  | 14 => .int
  | 15 => .int
  | 16 => .int
  | _ => .int
abbrev wsX40 : List Cond := u_ws RX4 TX4 18
theorem nmX4 : ∀ a, a < 18 → ∀ b, b < 18 → a ≠ b → (TX4 a).2.1 ≠ (TX4 b).2.1 := by decide +kernel
theorem tyX4_ok : ∀ k, k < 18 → parseFieldDescriptor (TX4 k).2.2.1 = some (tyX4 k) := by decide +kernel
abbrev cX4_init : ByteArray := prog_6_method_1_code
def yX4_init : MethodName := ⟨RX4, "<init>", "(IIIZILClaimBus$Store;)V"⟩
abbrev cX4_sharesAddressWith : ByteArray := prog_6_method_2_code
def yX4_sharesAddressWith : MethodName := ⟨RX4, "sharesAddressWith", "(LClaimBus$Node;)Z"⟩
abbrev cX4_openTransports : ByteArray := prog_6_method_3_code
def yX4_openTransports : MethodName := ⟨RX4, "openTransports", "()I"⟩
abbrev cX4_claimAddress : ByteArray := prog_6_method_6_code
def yX4_claimAddress : MethodName := ⟨RX4, "claimAddress", "(I)V"⟩
abbrev cX4_dropAll : ByteArray := prog_6_method_8_code
def yX4_dropAll : MethodName := ⟨RX4, "dropAll", "()V"⟩
abbrev cX4_maySend : ByteArray := prog_6_method_9_code
def yX4_maySend : MethodName := ⟨RX4, "maySend", "()Z"⟩
abbrev cX4_beginSending : ByteArray := prog_6_method_10_code
def yX4_beginSending : MethodName := ⟨RX4, "beginSending", "(LClaimBus$Message;I)V"⟩
abbrev cX4_frameWasCarried : ByteArray := prog_6_method_11_code
def yX4_frameWasCarried : MethodName := ⟨RX4, "frameWasCarried", "(ZI)V"⟩
abbrev cX4_nextTimer : ByteArray := prog_6_method_12_code
def yX4_nextTimer : MethodName := ⟨RX4, "nextTimer", "()I"⟩
abbrev cX4_runTimers : ByteArray := prog_6_method_13_code
def yX4_runTimers : MethodName := ⟨RX4, "runTimers", "(I)V"⟩
abbrev cX4_sendOn : ByteArray := prog_6_method_14_code
def yX4_sendOn : MethodName := ⟨RX4, "sendOn", "(I)V"⟩
abbrev cX4_waitedTooLong : ByteArray := prog_6_method_15_code
def yX4_waitedTooLong : MethodName := ⟨RX4, "waitedTooLong", "(LClaimBus$Transport;I)V"⟩
abbrev cX4_breakOff : ByteArray := prog_6_method_16_code
def yX4_breakOff : MethodName := ⟨RX4, "breakOff", "(LClaimBus$Message;II)V"⟩
abbrev cX4_clearNext : ByteArray := prog_6_method_17_code
def yX4_clearNext : MethodName := ⟨RX4, "clearNext", "(LClaimBus$Transport;I)V"⟩
abbrev cX4_hear : ByteArray := prog_6_method_18_code
def yX4_hear : MethodName := ⟨RX4, "hear", "(LClaimBus$Frame;II)V"⟩
abbrev cX4_hearClaim : ByteArray := prog_6_method_19_code
def yX4_hearClaim : MethodName := ⟨RX4, "hearClaim", "(LClaimBus$Frame;I)V"⟩
abbrev cX4_goesBeforeName : ByteArray := prog_6_method_20_code
def yX4_goesBeforeName : MethodName := ⟨RX4, "goesBeforeName", "(II)Z"⟩
abbrev cX4_nextFreeAddress : ByteArray := prog_6_method_21_code
def yX4_nextFreeAddress : MethodName := ⟨RX4, "nextFreeAddress", "()I"⟩
abbrev cX4_hearControl : ByteArray := prog_6_method_22_code
def yX4_hearControl : MethodName := ⟨RX4, "hearControl", "(LClaimBus$Frame;I)V"⟩
abbrev cX4_sendCleared : ByteArray := prog_6_method_23_code
def yX4_sendCleared : MethodName := ⟨RX4, "sendCleared", "(III)V"⟩
abbrev cX4_dropGot : ByteArray := prog_6_method_24_code
def yX4_dropGot : MethodName := ⟨RX4, "dropGot", "(II)V"⟩
abbrev cX4_gotFrom : ByteArray := prog_6_method_25_code
def yX4_gotFrom : MethodName := ⟨RX4, "gotFrom", "(I)LClaimBus$Transport;"⟩
abbrev cX4_placeFor : ByteArray := prog_6_method_26_code
def yX4_placeFor : MethodName := ⟨RX4, "placeFor", "(I)LClaimBus$Transport;"⟩
abbrev cX4_getPacket : ByteArray := prog_6_method_27_code
def yX4_getPacket : MethodName := ⟨RX4, "getPacket", "(LClaimBus$Frame;I)V"⟩
abbrev cX4_collectedFrom : ByteArray := prog_6_method_28_code
def yX4_collectedFrom : MethodName := ⟨RX4, "collectedFrom", "(I)LClaimBus$Transport;"⟩
abbrev cX4_beginCollecting : ByteArray := prog_6_method_29_code
def yX4_beginCollecting : MethodName := ⟨RX4, "beginCollecting", "(LClaimBus$Frame;I)V"⟩
abbrev cX4_collectPacket : ByteArray := prog_6_method_30_code
def yX4_collectPacket : MethodName := ⟨RX4, "collectPacket", "(LClaimBus$Frame;I)V"⟩
def RX5 : String := "ClaimBus$Row"
def TX5 : u_T := fun k => match k with
  | 0 => ("ClaimBus$Row", "high", "I", true)
  | 1 => ("ClaimBus$Row", "low", "I", true)
  | 2 => ("ClaimBus$Row", "store", "LClaimBus$Store;", true)
  | 3 => ("ClaimBus$Row", "head", "LClaimBus$Chunk;", false)
  | 4 => ("ClaimBus$Row", "tail", "LClaimBus$Chunk;", false)
  | 5 => ("ClaimBus$Row", "headPlace", "I", false)
  | 6 => ("ClaimBus$Row", "tailPlace", "I", false)
  | 7 => ("ClaimBus$Row", "frames", "I", false)
  | 8 => ("ClaimBus$Row", "gone", "I", false)
  | 9 => ("ClaimBus$Row", "claimWaits", "Z", false)
  | 10 => ("ClaimBus$Row", "first", "LClaimBus$Frame;", true)
  | _ => ("ClaimBus$Row", "firstIsWritten", "Z", false)
def tyX5 : Nat → FieldType := fun k => match k with
  | 0 => .int
  | 1 => .int
  | 2 => .object "ClaimBus$Store"
  | 3 => .object "ClaimBus$Chunk"
  | 4 => .object "ClaimBus$Chunk"
  | 5 => .int
  | 6 => .int
  | 7 => .int
  | 8 => .int
  | 9 => .boolean
  | 10 => .object "ClaimBus$Frame"
  | _ => .boolean
abbrev wsX50 : List Cond := u_ws RX5 TX5 12
theorem nmX5 : ∀ a, a < 12 → ∀ b, b < 12 → a ≠ b → (TX5 a).2.1 ≠ (TX5 b).2.1 := by decide +kernel
theorem tyX5_ok : ∀ k, k < 12 → parseFieldDescriptor (TX5 k).2.2.1 = some (tyX5 k) := by decide +kernel
abbrev cX5_init : ByteArray := prog_7_method_1_code
def yX5_init : MethodName := ⟨RX5, "<init>", "(IILClaimBus$Store;)V"⟩
abbrev cX5_length : ByteArray := prog_7_method_2_code
def yX5_length : MethodName := ⟨RX5, "length", "()I"⟩
abbrev cX5_putClaim : ByteArray := prog_7_method_3_code
def yX5_putClaim : MethodName := ⟨RX5, "putClaim", "()V"⟩
abbrev cX5_put : ByteArray := prog_7_method_4_code
def yX5_put : MethodName := ⟨RX5, "put", "(LClaimBus$Message;IIII)V"⟩
abbrev cX5_lengthen : ByteArray := prog_7_method_5_code
def yX5_lengthen : MethodName := ⟨RX5, "lengthen", "(LClaimBus$Chunk;)V"⟩
abbrev cX5_firstEntry : ByteArray := prog_7_method_6_code
def yX5_firstEntry : MethodName := ⟨RX5, "firstEntry", "()J"⟩
abbrev cX5_first : ByteArray := prog_7_method_7_code
def yX5_first : MethodName := ⟨RX5, "first", "(I)LClaimBus$Frame;"⟩
abbrev cX5_writeFirst : ByteArray := prog_7_method_8_code
def yX5_writeFirst : MethodName := ⟨RX5, "writeFirst", "(I)V"⟩
abbrev cX5_removeFirst : ByteArray := prog_7_method_9_code
def yX5_removeFirst : MethodName := ⟨RX5, "removeFirst", "()V"⟩
abbrev cX5_removeFromFirstEntry : ByteArray := prog_7_method_10_code
def yX5_removeFromFirstEntry : MethodName := ⟨RX5, "removeFromFirstEntry", "()V"⟩
abbrev cX5_clear : ByteArray := prog_7_method_11_code
def yX5_clear : MethodName := ⟨RX5, "clear", "()V"⟩
def RX6 : String := "ClaimBus$Sending"
def TX6 : u_T := fun k => match k with
  | 0 => ("ClaimBus$Sending", "state", "I", false)
  | 1 => ("ClaimBus$Sending", "nextPacket", "I", false)
  | 2 => ("ClaimBus$Sending", "due", "I", false)
  | _ => ("ClaimBus$Sending", "whole", "LClaimBus$Message;", false)
def tyX6 : Nat → FieldType := fun k => match k with
  | 0 => .int
  | 1 => .int
  | 2 => .int
  | _ => .object "ClaimBus$Message"
abbrev wsX60 : List Cond := u_ws RX6 TX6 4
theorem nmX6 : ∀ a, a < 4 → ∀ b, b < 4 → a ≠ b → (TX6 a).2.1 ≠ (TX6 b).2.1 := by decide +kernel
theorem tyX6_ok : ∀ k, k < 4 → parseFieldDescriptor (TX6 k).2.2.1 = some (tyX6 k) := by decide +kernel
abbrev cX6_init : ByteArray := prog_8_method_1_code
def yX6_init : MethodName := ⟨RX6, "<init>", "()V"⟩
abbrev cX6_goesTo : ByteArray := prog_8_method_2_code
def yX6_goesTo : MethodName := ⟨RX6, "goesTo", "(II)Z"⟩
def RX7 : String := "ClaimBus$Store"
def TX7 : u_T := fun k => match k with
  | 0 => ("ClaimBus$Store", "messages", "Ljava/util/ArrayList;", true)
  | _ => ("ClaimBus$Store", "unused", "LClaimBus$Chunk;", false)
def tyX7 : Nat → FieldType := fun k => match k with
  | 0 => .object "java/util/ArrayList"
  | _ => .object "ClaimBus$Chunk"
abbrev wsX70 : List Cond := u_ws RX7 TX7 2
theorem nmX7 : ∀ a, a < 2 → ∀ b, b < 2 → a ≠ b → (TX7 a).2.1 ≠ (TX7 b).2.1 := by decide +kernel
theorem tyX7_ok : ∀ k, k < 2 → parseFieldDescriptor (TX7 k).2.2.1 = some (tyX7 k) := by decide +kernel
abbrev cX7_init : ByteArray := prog_9_method_1_code
def yX7_init : MethodName := ⟨RX7, "<init>", "()V"⟩
abbrev cX7_newMessage : ByteArray := prog_9_method_2_code
def yX7_newMessage : MethodName := ⟨RX7, "newMessage", "(IIII)LClaimBus$Message;"⟩
abbrev cX7_messageAt : ByteArray := prog_9_method_4_code
def yX7_messageAt : MethodName := ⟨RX7, "messageAt", "(I)LClaimBus$Message;"⟩
abbrev cX7_lend : ByteArray := prog_9_method_5_code
def yX7_lend : MethodName := ⟨RX7, "lend", "()LClaimBus$Chunk;"⟩
abbrev cX7_takeBack : ByteArray := prog_9_method_6_code
def yX7_takeBack : MethodName := ⟨RX7, "takeBack", "(LClaimBus$Chunk;LClaimBus$Chunk;)V"⟩
def RX8 : String := "ClaimBus$Table"
def TX8 : u_T := fun k => match k with
  | _ => ("ClaimBus$Table", "addresses", "[I", true)
def tyX8 : Nat → FieldType := fun k => match k with
  | _ => .array .int
abbrev wsX80 : List Cond := u_ws RX8 TX8 1
theorem nmX8 : ∀ a, a < 1 → ∀ b, b < 1 → a ≠ b → (TX8 a).2.1 ≠ (TX8 b).2.1 := by decide +kernel
theorem tyX8_ok : ∀ k, k < 1 → parseFieldDescriptor (TX8 k).2.2.1 = some (tyX8 k) := by decide +kernel
abbrev cX8_init : ByteArray := prog_10_method_1_code
def yX8_init : MethodName := ⟨RX8, "<init>", "()V"⟩
abbrev cX8_clear : ByteArray := prog_10_method_2_code
def yX8_clear : MethodName := ⟨RX8, "clear", "()V"⟩
abbrev cX8_learn : ByteArray := prog_10_method_3_code
def yX8_learn : MethodName := ⟨RX8, "learn", "(II)V"⟩
abbrev cX8_nameAt : ByteArray := prog_10_method_4_code
def yX8_nameAt : MethodName := ⟨RX8, "nameAt", "(I)I"⟩
def RX9 : String := "ClaimBus$Transport"
def TX9 : u_T := fun k => match k with
  | 0 => ("ClaimBus$Transport", "open", "Z", false)
  | 1 => ("ClaimBus$Transport", "source", "I", false)
  | 2 => ("ClaimBus$Transport", "group", "I", false)
  | 3 => ("ClaimBus$Transport", "size", "I", false)
  | 4 => ("ClaimBus$Transport", "packets", "I", false)
  | 5 => ("ClaimBus$Transport", "window", "I", false)
  | 6 => ("ClaimBus$Transport", "expected", "I", false)
  | 7 => ("ClaimBus$Transport", "clearedTo", "I", false)
  | 8 => ("ClaimBus$Transport", "lastHeard", "I", false)
  | 9 => ("ClaimBus$Transport", "waits", "I", false)
  | 10 => ("ClaimBus$Transport", "sum", "I", false)
  | 11 => ("ClaimBus$Transport", "isAsSent", "Z", false)
  | 12 => ("ClaimBus$Transport", "whole", "LClaimBus$Message;", false)
  | _ => ("ClaimBus$Transport", "beginning", "[I", true)
def tyX9 : Nat → FieldType := fun k => match k with
  | 0 => .boolean
  | 1 => .int
  | 2 => .int
  | 3 => .int
  | 4 => .int
  | 5 => .int
  | 6 => .int
  | 7 => .int
  | 8 => .int
  | 9 => .int
  | 10 => .int
  | 11 => .boolean
  | 12 => .object "ClaimBus$Message"
  | _ => .array .int
abbrev wsX90 : List Cond := u_ws RX9 TX9 14
theorem nmX9 : ∀ a, a < 14 → ∀ b, b < 14 → a ≠ b → (TX9 a).2.1 ≠ (TX9 b).2.1 := by decide +kernel
theorem tyX9_ok : ∀ k, k < 14 → parseFieldDescriptor (TX9 k).2.2.1 = some (tyX9 k) := by decide +kernel
abbrev cX9_init : ByteArray := prog_11_method_1_code
def yX9_init : MethodName := ⟨RX9, "<init>", "()V"⟩
abbrev cX9_begin : ByteArray := prog_11_method_2_code
def yX9_begin : MethodName := ⟨RX9, "begin", "(LClaimBus$Frame;I)V"⟩
abbrev cX9_takePacket : ByteArray := prog_11_method_3_code
def yX9_takePacket : MethodName := ⟨RX9, "takePacket", "(LClaimBus$Frame;I)V"⟩
abbrev cX9_takeByte : ByteArray := prog_11_method_4_code
def yX9_takeByte : MethodName := ⟨RX9, "takeByte", "(II)V"⟩
abbrev cX9_isWhole : ByteArray := prog_11_method_5_code
def yX9_isWhole : MethodName := ⟨RX9, "isWhole", "()Z"⟩
abbrev cX9_byteAt : ByteArray := prog_11_method_6_code
def yX9_byteAt : MethodName := ⟨RX9, "byteAt", "(I)I"⟩
def RX10 : String := "ClaimBus"
def TX10 : u_T := fun k => match k with
  | 0 => ("ClaimBus", "nodes", "[LClaimBus$Node;", true)
  | 1 => ("ClaimBus", "store", "LClaimBus$Store;", true)
  | 2 => ("ClaimBus", "last", "LClaimBus$Frame;", true)
  | 3 => ("ClaimBus", "nodeCount", "I", false)
  | 4 => ("ClaimBus", "time", "I", false)
  | 5 => ("ClaimBus", "framesCarried", "I", false)
  | 6 => ("ClaimBus", "lastSender", "I", false)
  | _ => ("ClaimBus", "stopped", "Z", false)
def tyX10 : Nat → FieldType := fun k => match k with
  | 0 => .array (.object "ClaimBus$Node")
  | 1 => .object "ClaimBus$Store"
  | 2 => .object "ClaimBus$Frame"
  | 3 => .int
  | 4 => .int
  | 5 => .int
  | 6 => .int
  | _ => .boolean
abbrev wsX100 : List Cond := u_ws RX10 TX10 8
theorem nmX10 : ∀ a, a < 8 → ∀ b, b < 8 → a ≠ b → (TX10 a).2.1 ≠ (TX10 b).2.1 := by decide +kernel
theorem tyX10_ok : ∀ k, k < 8 → parseFieldDescriptor (TX10 k).2.2.1 = some (tyX10 k) := by decide +kernel
abbrev cX10_init : ByteArray := prog_1_method_1_code
def yX10_init : MethodName := ⟨RX10, "<init>", "()V"⟩
abbrev cX10_node : ByteArray := prog_1_method_2_code
def yX10_node : MethodName := ⟨RX10, "node", "(IIIZI)I"⟩
abbrev cX10_start : ByteArray := prog_1_method_3_code
def yX10_start : MethodName := ⟨RX10, "start", "(I)Z"⟩
abbrev cX10_send : ByteArray := prog_1_method_6_code
def yX10_send : MethodName := ⟨RX10, "send", "(IIIII)Z"⟩
abbrev cX10_pass : ByteArray := prog_1_method_10_code
def yX10_pass : MethodName := ⟨RX10, "pass", "(I)I"⟩
abbrev cX10_told : ByteArray := prog_1_method_11_code
def yX10_told : MethodName := ⟨RX10, "told", "(II)I"⟩
abbrev cX10_message : ByteArray := prog_1_method_13_code
def yX10_message : MethodName := ⟨RX10, "message", "(III)I"⟩
abbrev cX10_sound : ByteArray := prog_1_method_16_code
def yX10_sound : MethodName := ⟨RX10, "sound", "()Z"⟩
abbrev cX10_count : ByteArray := prog_1_method_17_code
def yX10_count : MethodName := ⟨RX10, "count", "(I)I"⟩
abbrev cX10_find : ByteArray := prog_1_method_18_code
def yX10_find : MethodName := ⟨RX10, "find", "(I)LClaimBus$Node;"⟩
abbrev cX10_nameIsThere : ByteArray := prog_1_method_19_code
def yX10_nameIsThere : MethodName := ⟨RX10, "nameIsThere", "(II)Z"⟩
abbrev cX10_isReceiver : ByteArray := prog_1_method_20_code
def yX10_isReceiver : MethodName := ⟨RX10, "isReceiver", "(I)Z"⟩
abbrev cX10_isSendable : ByteArray := prog_1_method_21_code
def yX10_isSendable : MethodName := ⟨RX10, "isSendable", "(III)Z"⟩
abbrev cX10_nextMoment : ByteArray := prog_1_method_22_code
def yX10_nextMoment : MethodName := ⟨RX10, "nextMoment", "(I)I"⟩
abbrev cX10_runTimers : ByteArray := prog_1_method_23_code
def yX10_runTimers : MethodName := ⟨RX10, "runTimers", "()V"⟩
abbrev cX10_carryFrame : ByteArray := prog_1_method_24_code
def yX10_carryFrame : MethodName := ⟨RX10, "carryFrame", "()V"⟩
abbrev cX10_firstToSend : ByteArray := prog_1_method_25_code
def yX10_firstToSend : MethodName := ⟨RX10, "firstToSend", "()I"⟩
abbrev cX10_isDisturbed : ByteArray := prog_1_method_26_code
def yX10_isDisturbed : MethodName := ⟨RX10, "isDisturbed", "()Z"⟩
abbrev cX10_addressesAreApart : ByteArray := prog_1_method_27_code
def yX10_addressesAreApart : MethodName := ⟨RX10, "addressesAreApart", "()Z"⟩
abbrev cX10_messagesAreTrue : ByteArray := prog_1_method_28_code
def yX10_messagesAreTrue : MethodName := ⟨RX10, "messagesAreTrue", "()Z"⟩
abbrev cX10_nodesWithAddress : ByteArray := prog_1_method_29_code
def yX10_nodesWithAddress : MethodName := ⟨RX10, "nodesWithAddress", "()I"⟩
abbrev cX10_pack : ByteArray := prog_1_method_30_code
def yX10_pack : MethodName := ⟨RX10, "pack", "(IIII)I"⟩
abbrev cX10_isLess : ByteArray := prog_1_method_31_code
def yX10_isLess : MethodName := ⟨RX10, "isLess", "(II)Z"⟩
abbrev cX10_identifier : ByteArray := prog_1_method_32_code
def yX10_identifier : MethodName := ⟨RX10, "identifier", "(III)I"⟩
def RX11 : String := "ClaimBusModel"
def TX11 : u_T := fun k => match k with
  | _ => ("", "", "", false)
def tyX11 : Nat → FieldType := fun k => match k with
  | _ => .int
abbrev wsX110 : List Cond := u_ws RX11 TX11 0
theorem nmX11 : ∀ a, a < 0 → ∀ b, b < 0 → a ≠ b → (TX11 a).2.1 ≠ (TX11 b).2.1 := by decide +kernel
theorem tyX11_ok : ∀ k, k < 0 → parseFieldDescriptor (TX11 k).2.2.1 = some (tyX11 k) := by decide +kernel
def RJx145de : String := "java/io/Serializable"
def TJx145de : u_T := fun k => match k with
  | _ => ("", "", "", false)
def tyJx145de : Nat → FieldType := fun k => match k with
  | _ => .int
abbrev wsJx145de0 : List Cond := u_ws RJx145de TJx145de 0
theorem nmJx145de : ∀ a, a < 0 → ∀ b, b < 0 → a ≠ b → (TJx145de a).2.1 ≠ (TJx145de b).2.1 := by decide +kernel
theorem tyJx145de_ok : ∀ k, k < 0 → parseFieldDescriptor (TJx145de k).2.2.1 = some (tyJx145de k) := by decide +kernel
def RJx8e188 : String := "java/lang/Cloneable"
def TJx8e188 : u_T := fun k => match k with
  | _ => ("", "", "", false)
def tyJx8e188 : Nat → FieldType := fun k => match k with
  | _ => .int
abbrev wsJx8e1880 : List Cond := u_ws RJx8e188 TJx8e188 0
theorem nmJx8e188 : ∀ a, a < 0 → ∀ b, b < 0 → a ≠ b → (TJx8e188 a).2.1 ≠ (TJx8e188 b).2.1 := by decide +kernel
theorem tyJx8e188_ok : ∀ k, k < 0 → parseFieldDescriptor (TJx8e188 k).2.2.1 = some (tyJx8e188 k) := by decide +kernel
def RJxab1ab : String := "java/lang/Iterable"
def TJxab1ab : u_T := fun k => match k with
  | _ => ("", "", "", false)
def tyJxab1ab : Nat → FieldType := fun k => match k with
  | _ => .int
abbrev wsJxab1ab0 : List Cond := u_ws RJxab1ab TJxab1ab 0
theorem nmJxab1ab : ∀ a, a < 0 → ∀ b, b < 0 → a ≠ b → (TJxab1ab a).2.1 ≠ (TJxab1ab b).2.1 := by decide +kernel
theorem tyJxab1ab_ok : ∀ k, k < 0 → parseFieldDescriptor (TJxab1ab k).2.2.1 = some (tyJxab1ab k) := by decide +kernel
def RJ9 : String := "java/lang/Math"
def TJ9 : u_T := fun k => match k with
  | _ => ("", "", "", false)
def tyJ9 : Nat → FieldType := fun k => match k with
  | _ => .int
abbrev wsJ90 : List Cond := u_ws RJ9 TJ9 0
theorem nmJ9 : ∀ a, a < 0 → ∀ b, b < 0 → a ≠ b → (TJ9 a).2.1 ≠ (TJ9 b).2.1 := by decide +kernel
theorem tyJ9_ok : ∀ k, k < 0 → parseFieldDescriptor (TJ9 k).2.2.1 = some (tyJ9 k) := by decide +kernel
abbrev cJ9_max_7cf53 : ByteArray := prog_17_method_65_code
def yJ9_max_7cf53 : MethodName := ⟨RJ9, "max", "(II)I"⟩
abbrev cJ9_min_7cf53 : ByteArray := prog_17_method_69_code
def yJ9_min_7cf53 : MethodName := ⟨RJ9, "min", "(II)I"⟩
def RJ10 : String := "java/lang/System"
def TJ10 : u_T := fun k => match k with
  | _ => ("", "", "", false)
def tyJ10 : Nat → FieldType := fun k => match k with
  | _ => .int
abbrev wsJ100 : List Cond := u_ws RJ10 TJ10 0
theorem nmJ10 : ∀ a, a < 0 → ∀ b, b < 0 → a ≠ b → (TJ10 a).2.1 ≠ (TJ10 b).2.1 := by decide +kernel
theorem tyJ10_ok : ∀ k, k < 0 → parseFieldDescriptor (TJ10 k).2.2.1 = some (tyJ10 k) := by decide +kernel
def RJxa1e45 : String := "java/util/AbstractCollection"
def TJxa1e45 : u_T := fun k => match k with
  | _ => ("", "", "", false)
def tyJxa1e45 : Nat → FieldType := fun k => match k with
  | _ => .int
abbrev wsJxa1e450 : List Cond := u_ws RJxa1e45 TJxa1e45 0
theorem nmJxa1e45 : ∀ a, a < 0 → ∀ b, b < 0 → a ≠ b → (TJxa1e45 a).2.1 ≠ (TJxa1e45 b).2.1 := by decide +kernel
theorem tyJxa1e45_ok : ∀ k, k < 0 → parseFieldDescriptor (TJxa1e45 k).2.2.1 = some (tyJxa1e45 k) := by decide +kernel
abbrev cJxa1e45_init_da8c8 : ByteArray := prog_19_method_1_code
def yJxa1e45_init_da8c8 : MethodName := ⟨RJxa1e45, "<init>", "()V"⟩
def RJxc12de : String := "java/util/AbstractList"
def TJxc12de : u_T := fun k => match k with
  | _ => ("", "", "", false)
def tyJxc12de : Nat → FieldType := fun k => match k with
  | _ => .int
abbrev wsJxc12de0 : List Cond := u_ws RJxc12de TJxc12de 0
theorem nmJxc12de : ∀ a, a < 0 → ∀ b, b < 0 → a ≠ b → (TJxc12de a).2.1 ≠ (TJxc12de b).2.1 := by decide +kernel
theorem tyJxc12de_ok : ∀ k, k < 0 → parseFieldDescriptor (TJxc12de k).2.2.1 = some (tyJxc12de k) := by decide +kernel
abbrev cJxc12de_init_da8c8 : ByteArray := prog_20_method_1_code
def yJxc12de_init_da8c8 : MethodName := ⟨RJxc12de, "<init>", "()V"⟩
def RJx4a65c : String := "java/util/ArrayList"
def TJx4a65c : u_T := fun k => match k with
  | 0 => ("java/util/AbstractList", "modCount", "I", false)
  | 1 => ("java/util/ArrayList", "elementData", "[Ljava/lang/Object;", false)
  | _ => ("java/util/ArrayList", "size", "I", false)
def tyJx4a65c : Nat → FieldType := fun k => match k with
  | 0 => .int
  | 1 => .array (.object "java/lang/Object")
  | _ => .int
abbrev wsJx4a65c0 : List Cond := u_ws RJx4a65c TJx4a65c 3
theorem nmJx4a65c : ∀ a, a < 3 → ∀ b, b < 3 → a ≠ b → (TJx4a65c a).2.1 ≠ (TJx4a65c b).2.1 := by decide +kernel
theorem tyJx4a65c_ok : ∀ k, k < 3 → parseFieldDescriptor (TJx4a65c k).2.2.1 = some (tyJx4a65c k) := by decide +kernel
abbrev cJx4a65c_init_da8c8 : ByteArray := prog_21_method_2_code
def yJx4a65c_init_da8c8 : MethodName := ⟨RJx4a65c, "<init>", "()V"⟩
abbrev cJx4a65c_grow_92f84 : ByteArray := prog_21_method_6_code
def yJx4a65c_grow_92f84 : MethodName := ⟨RJx4a65c, "grow", "(I)[Ljava/lang/Object;"⟩
abbrev cJx4a65c_grow_d5877 : ByteArray := prog_21_method_7_code
def yJx4a65c_grow_d5877 : MethodName := ⟨RJx4a65c, "grow", "()[Ljava/lang/Object;"⟩
abbrev cJx4a65c_size_8abf5 : ByteArray := prog_21_method_8_code
def yJx4a65c_size_8abf5 : MethodName := ⟨RJx4a65c, "size", "()I"⟩
abbrev cJx4a65c_elementData_915e3 : ByteArray := prog_21_method_18_code
def yJx4a65c_elementData_915e3 : MethodName := ⟨RJx4a65c, "elementData", "(I)Ljava/lang/Object;"⟩
abbrev cJx4a65c_get_915e3 : ByteArray := prog_21_method_20_code
def yJx4a65c_get_915e3 : MethodName := ⟨RJx4a65c, "get", "(I)Ljava/lang/Object;"⟩
abbrev cJx4a65c_add_72be8 : ByteArray := prog_21_method_24_code
def yJx4a65c_add_72be8 : MethodName := ⟨RJx4a65c, "add", "(Ljava/lang/Object;[Ljava/lang/Object;I)V"⟩
abbrev cJx4a65c_add_9ea2d : ByteArray := prog_21_method_25_code
def yJx4a65c_add_9ea2d : MethodName := ⟨RJx4a65c, "add", "(Ljava/lang/Object;)Z"⟩
def RJ7 : String := "java/util/Arrays"
def TJ7 : u_T := fun k => match k with
  | _ => ("", "", "", false)
def tyJ7 : Nat → FieldType := fun k => match k with
  | _ => .int
abbrev wsJ70 : List Cond := u_ws RJ7 TJ7 0
theorem nmJ7 : ∀ a, a < 0 → ∀ b, b < 0 → a ≠ b → (TJ7 a).2.1 ≠ (TJ7 b).2.1 := by decide +kernel
theorem tyJ7_ok : ∀ k, k < 0 → parseFieldDescriptor (TJ7 k).2.2.1 = some (tyJ7 k) := by decide +kernel
abbrev cJ7_copyOf_1904c : ByteArray := prog_22_method_119_code
def yJ7_copyOf_1904c : MethodName := ⟨RJ7, "copyOf", "([Ljava/lang/Object;I)[Ljava/lang/Object;"⟩
abbrev cJ7_copyOf_6403c : ByteArray := prog_22_method_120_code
def yJ7_copyOf_6403c : MethodName := ⟨RJ7, "copyOf", "([Ljava/lang/Object;ILjava/lang/Class;)[Ljava/lang/Object;"⟩
def RJx5ef63 : String := "java/util/Collection"
def TJx5ef63 : u_T := fun k => match k with
  | _ => ("", "", "", false)
def tyJx5ef63 : Nat → FieldType := fun k => match k with
  | _ => .int
abbrev wsJx5ef630 : List Cond := u_ws RJx5ef63 TJx5ef63 0
theorem nmJx5ef63 : ∀ a, a < 0 → ∀ b, b < 0 → a ≠ b → (TJx5ef63 a).2.1 ≠ (TJx5ef63 b).2.1 := by decide +kernel
theorem tyJx5ef63_ok : ∀ k, k < 0 → parseFieldDescriptor (TJx5ef63 k).2.2.1 = some (tyJx5ef63 k) := by decide +kernel
def RJxbd725 : String := "java/util/List"
def TJxbd725 : u_T := fun k => match k with
  | _ => ("", "", "", false)
def tyJxbd725 : Nat → FieldType := fun k => match k with
  | _ => .int
abbrev wsJxbd7250 : List Cond := u_ws RJxbd725 TJxbd725 0
theorem nmJxbd725 : ∀ a, a < 0 → ∀ b, b < 0 → a ≠ b → (TJxbd725 a).2.1 ≠ (TJxbd725 b).2.1 := by decide +kernel
theorem tyJxbd725_ok : ∀ k, k < 0 → parseFieldDescriptor (TJxbd725 k).2.2.1 = some (tyJxbd725 k) := by decide +kernel
def RJ15 : String := "java/util/Objects"
def TJ15 : u_T := fun k => match k with
  | _ => ("", "", "", false)
def tyJ15 : Nat → FieldType := fun k => match k with
  | _ => .int
abbrev wsJ150 : List Cond := u_ws RJ15 TJ15 0
theorem nmJ15 : ∀ a, a < 0 → ∀ b, b < 0 → a ≠ b → (TJ15 a).2.1 ≠ (TJ15 b).2.1 := by decide +kernel
theorem tyJ15_ok : ∀ k, k < 0 → parseFieldDescriptor (TJ15 k).2.2.1 = some (tyJ15 k) := by decide +kernel
abbrev cJ15_checkIndex_7cf53 : ByteArray := prog_25_method_17_code
def yJ15_checkIndex_7cf53 : MethodName := ⟨RJ15, "checkIndex", "(II)I"⟩
def RJxf0a74 : String := "java/util/RandomAccess"
def TJxf0a74 : u_T := fun k => match k with
  | _ => ("", "", "", false)
def tyJxf0a74 : Nat → FieldType := fun k => match k with
  | _ => .int
abbrev wsJxf0a740 : List Cond := u_ws RJxf0a74 TJxf0a74 0
theorem nmJxf0a74 : ∀ a, a < 0 → ∀ b, b < 0 → a ≠ b → (TJxf0a74 a).2.1 ≠ (TJxf0a74 b).2.1 := by decide +kernel
theorem tyJxf0a74_ok : ∀ k, k < 0 → parseFieldDescriptor (TJxf0a74 k).2.2.1 = some (tyJxf0a74 k) := by decide +kernel
def RJxa66e6 : String := "java/util/SequencedCollection"
def TJxa66e6 : u_T := fun k => match k with
  | _ => ("", "", "", false)
def tyJxa66e6 : Nat → FieldType := fun k => match k with
  | _ => .int
abbrev wsJxa66e60 : List Cond := u_ws RJxa66e6 TJxa66e6 0
theorem nmJxa66e6 : ∀ a, a < 0 → ∀ b, b < 0 → a ≠ b → (TJxa66e6 a).2.1 ≠ (TJxa66e6 b).2.1 := by decide +kernel
theorem tyJxa66e6_ok : ∀ k, k < 0 → parseFieldDescriptor (TJxa66e6 k).2.2.1 = some (tyJxa66e6 k) := by decide +kernel
def RJ8 : String := "jdk/internal/util/ArraysSupport"
def TJ8 : u_T := fun k => match k with
  | _ => ("", "", "", false)
def tyJ8 : Nat → FieldType := fun k => match k with
  | _ => .int
abbrev wsJ80 : List Cond := u_ws RJ8 TJ8 0
theorem nmJ8 : ∀ a, a < 0 → ∀ b, b < 0 → a ≠ b → (TJ8 a).2.1 ≠ (TJ8 b).2.1 := by decide +kernel
theorem tyJ8_ok : ∀ k, k < 0 → parseFieldDescriptor (TJ8 k).2.2.1 = some (tyJ8 k) := by decide +kernel
abbrev cJ8_newLength_cabcc : ByteArray := prog_28_method_27_code
def yJ8_newLength_cabcc : MethodName := ⟨RJ8, "newLength", "(III)I"⟩
abbrev cJ8_hugeLength_7cf53 : ByteArray := prog_28_method_28_code
def yJ8_hugeLength_7cf53 : MethodName := ⟨RJ8, "hugeLength", "(II)I"⟩
def RJ3 : String := "jdk/internal/util/Preconditions"
def TJ3 : u_T := fun k => match k with
  | _ => ("", "", "", false)
def tyJ3 : Nat → FieldType := fun k => match k with
  | _ => .int
abbrev wsJ30 : List Cond := u_ws RJ3 TJ3 0
theorem nmJ3 : ∀ a, a < 0 → ∀ b, b < 0 → a ≠ b → (TJ3 a).2.1 ≠ (TJ3 b).2.1 := by decide +kernel
theorem tyJ3_ok : ∀ k, k < 0 → parseFieldDescriptor (TJ3 k).2.2.1 = some (tyJ3 k) := by decide +kernel
abbrev cJ3_checkIndex_8e157 : ByteArray := prog_29_method_11_code
def yJ3_checkIndex_8e157 : MethodName := ⟨RJ3, "checkIndex", "(IILjava/util/function/BiFunction;)I"⟩
def RL : String := "ClaimBusLaw"
abbrev cL_at : ByteArray := method_2_code
def yL_at : MethodName := ⟨RL, "at", "(II)I"⟩
abbrev cL_law : ByteArray := code
def yL_law : MethodName := ⟨RL, "law", "([I)Z"⟩
abbrev vwCl : List vw_C := [(RJx4a65c, TJx4a65c, 3), (RX0, TX0, 2), (RX1, TX1, 4), (RX2, TX2, 4), (RX3, TX3, 6), (RX4, TX4, 18), (RX5, TX5, 12), (RX6, TX6, 4), (RX7, TX7, 2), (RX8, TX8, 1), (RX9, TX9, 14), (RX10, TX10, 8)]
