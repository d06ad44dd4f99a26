def v_law : List Cond := [.instantiable RJx4a65c 3, .instantiable RX0 2, .instantiable RX1 4, .instantiable RX2 4, .instantiable RX3 6, .instantiable RX4 18, .instantiable RX5 12, .instantiable RX6 4, .instantiable RX7 2, .instantiable RX8 1, .instantiable RX9 14, .instantiable RX10 8, .instantiable RX11 63, .initialized RJx4a65c, .classLink RL 7 RX10, .initialized RX10, .code yX10_init cX10_init 1 none, .methodLink RX10 1 objectInit, .instanceMethod objectInit, .code objectInit ⟨#[0xb1]⟩ 1 none, .classLink RX10 9 RX4, .fieldLink RX10 11 "ClaimBus" "nodes" "[LClaimBus$Node;", .classLink RX10 15 RX7, .initialized RX7, .code yX7_init cX7_init 1 none, .methodLink RX7 3 objectInit, .classLink RX7 9 RJx4a65c, .code yJx4a65c_init_da8c8 cJx4a65c_init_da8c8 1 none, .code yJxc12de_init_da8c8 cJxc12de_init_da8c8 1 none, .code yJxa1e45_init_da8c8 cJxa1e45_init_da8c8 1 none, .methodLink RJxa1e45 1 objectInit, .initialized RJxa1e45, .methodLink RJxc12de 1 yJxa1e45_init_da8c8, .instanceMethod yJxa1e45_init_da8c8, .fieldLink RJxc12de 7 "java/util/AbstractList" "modCount" "I", .initialized RJxc12de, .methodLink RJx4a65c 1 yJxc12de_init_da8c8, .instanceMethod yJxc12de_init_da8c8, .fieldLink RJx4a65c 39 "java/util/ArrayList" "DEFAULTCAPACITY_EMPTY_ELEMENTDATA" "[Ljava/lang/Object;", .fieldLink RJx4a65c 9 "java/util/ArrayList" "elementData" "[Ljava/lang/Object;", .methodLink RX7 11 yJx4a65c_init_da8c8, .instanceMethod yJx4a65c_init_da8c8, .fieldLink RX7 12 "ClaimBus$Store" "messages" "Ljava/util/ArrayList;", .fieldLink RX7 18 "ClaimBus$Store" "unused" "LClaimBus$Chunk;", .instanceMethod yX7_init, .fieldLink RX10 18 "ClaimBus" "store" "LClaimBus$Store;", .classLink RX10 22 RX1, .initialized RX1, .code yX1_init cX1_init 1 none, .methodLink RX1 3 objectInit, .fieldLink RX1 9 "ClaimBus$Frame" "identifier" "I", .fieldLink RX1 15 "ClaimBus$Frame" "first" "I", .fieldLink RX1 18 "ClaimBus$Frame" "others" "I", .fieldLink RX1 21 "ClaimBus$Frame" "whole" "LClaimBus$Message;", .instanceMethod yX1_init, .fieldLink RX10 25 "ClaimBus" "last" "LClaimBus$Frame;", .fieldLink RX10 29 "ClaimBus" "nodeCount" "I", .fieldLink RX10 33 "ClaimBus" "time" "I", .fieldLink RX10 36 "ClaimBus" "framesCarried" "I", .fieldLink RX10 39 "ClaimBus" "lastSender" "I", .fieldLink RX10 42 "ClaimBus" "stopped" "Z", .methodLink RL 9 yX10_init, .instanceMethod yX10_init, .classLink RL 10 RX11, .initialized RX11, .code yX11_init cX11_init 2 none, .methodLink RX11 1 objectInit, .arrayClass .long, .fieldLink RX11 7 "ClaimBusModel" "names" "[J", .arrayClass .int, .fieldLink RX11 13 "ClaimBusModel" "wanted" "[I", .fieldLink RX11 17 "ClaimBusModel" "address" "[I", .arrayClass .boolean, .fieldLink RX11 20 "ClaimBusModel" "free" "[Z", .fieldLink RX11 24 "ClaimBusModel" "window" "[I", .fieldLink RX11 27 "ClaimBusModel" "state" "[I", .fieldLink RX11 30 "ClaimBusModel" "claimed" "[I", .fieldLink RX11 33 "ClaimBusModel" "tables" "[I", .fieldLink RX11 36 "ClaimBusModel" "first" "[I", .fieldLink RX11 39 "ClaimBusModel" "last" "[I", .fieldLink RX11 42 "ClaimBusModel" "waits" "[I", .constant RX11 45 (131072), .fieldLink RX11 46 "ClaimBusModel" "ids" "[I", .fieldLink RX11 49 "ClaimBusModel" "lows" "[I", .fieldLink RX11 52 "ClaimBusModel" "highs" "[I", .fieldLink RX11 55 "ClaimBusModel" "behind" "[I", .fieldLink RX11 58 "ClaimBusModel" "back" "I", .fieldLink RX11 62 "ClaimBusModel" "claimWaits" "[Z", .fieldLink RX11 65 "ClaimBusModel" "sending" "[I", .fieldLink RX11 68 "ClaimBusModel" "sendTo" "[I", .fieldLink RX11 71 "ClaimBusModel" "sendGroup" "[I", .fieldLink RX11 74 "ClaimBusModel" "sendSize" "[I", .fieldLink RX11 77 "ClaimBusModel" "sendNext" "[I", .fieldLink RX11 80 "ClaimBusModel" "sendSince" "[I", .fieldLink RX11 83 "ClaimBusModel" "sendBytes" "[I", .fieldLink RX11 86 "ClaimBusModel" "getSource" "[I", .fieldLink RX11 89 "ClaimBusModel" "getOne" "[Z", .fieldLink RX11 92 "ClaimBusModel" "getGroup" "[I", .fieldLink RX11 95 "ClaimBusModel" "getSize" "[I", .fieldLink RX11 98 "ClaimBusModel" "getWindow" "[I", .fieldLink RX11 101 "ClaimBusModel" "getNext" "[I", .fieldLink RX11 104 "ClaimBusModel" "getCleared" "[I", .fieldLink RX11 107 "ClaimBusModel" "getSince" "[I", .fieldLink RX11 110 "ClaimBusModel" "getTries" "[I", .fieldLink RX11 113 "ClaimBusModel" "getOrder" "[I", .constant RX11 116 (573440), .fieldLink RX11 117 "ClaimBusModel" "getBytes" "[I", .fieldLink RX11 120 "ClaimBusModel" "came" "[I", .fieldLink RX11 123 "ClaimBusModel" "messages" "[I", .fieldLink RX11 126 "ClaimBusModel" "lose" "[I", .fieldLink RX11 129 "ClaimBusModel" "lost" "[I", .fieldLink RX11 132 "ClaimBusModel" "troubles" "[I", .fieldLink RX11 135 "ClaimBusModel" "trouble" "[I", .fieldLink RX11 138 "ClaimBusModel" "keptMany" "[I", .constant RX11 141 (61440), .fieldLink RX11 142 "ClaimBusModel" "kept" "[I", .fieldLink RX11 145 "ClaimBusModel" "carriedNode" "I", .fieldLink RX11 148 "ClaimBusModel" "saidGroup" "[I", .fieldLink RX11 151 "ClaimBusModel" "saidSize" "[I", .fieldLink RX11 154 "ClaimBusModel" "saidSeed" "[I", .fieldLink RX11 157 "ClaimBusModel" "saidTroubles" "[I", .fieldLink RX11 160 "ClaimBusModel" "latest" "[I", .fieldLink RX11 163 "ClaimBusModel" "frameOf" "[I", .fieldLink RX11 166 "ClaimBusModel" "getOf" "[I", .fieldLink RX11 169 "ClaimBusModel" "eight" "[I", .methodLink RL 12 yX11_init, .instanceMethod yX11_init, .code yX10_node cX10_node 6 (some .int), .code yX10_nameIsThere cX10_nameIsThere 5 (some .boolean), .methodLink RX10 46 yX10_nameIsThere, .instanceMethod yX10_nameIsThere, .selects RX10 yX10_nameIsThere yX10_nameIsThere, .initialized RX4, .code yX4_init cX4_init 7 none, .methodLink RX4 3 objectInit, .classLink RX4 9 RX8, .initialized RX8, .code yX8_init cX8_init 1 none, .methodLink RX8 3 objectInit, .fieldLink RX8 9 "ClaimBus$Table" "addresses" "[I", .code yX8_clear cX8_clear 2 none, .methodLink RX8 15 yX8_clear, .instanceMethod yX8_clear, .selects RX8 yX8_clear yX8_clear, .methodLink RX4 11 yX8_init, .instanceMethod yX8_init, .fieldLink RX4 12 "ClaimBus$Node" "table" "LClaimBus$Table;", .classLink RX4 18 RX6, .initialized RX6, .code yX6_init cX6_init 1 none, .methodLink RX6 3 objectInit, .fieldLink RX6 9 "ClaimBus$Sending" "state" "I", .fieldLink RX6 15 "ClaimBus$Sending" "nextPacket" "I", .fieldLink RX6 18 "ClaimBus$Sending" "due" "I", .fieldLink RX6 21 "ClaimBus$Sending" "whole" "LClaimBus$Message;", .instanceMethod yX6_init, .fieldLink RX4 21 "ClaimBus$Node" "sending" "LClaimBus$Sending;", .classLink RX4 25 RX2, .initialized RX2, .code yX2_init cX2_init 1 none, .methodLink RX2 3 objectInit, .fieldLink RX2 9 "ClaimBus$Inbox" "came" "I", .fieldLink RX2 15 "ClaimBus$Inbox" "gotAnotherThanSent" "Z", .fieldLink RX2 19 "ClaimBus$Inbox" "log" "[I", .classLink RX2 23 "[I", .fieldLink RX2 24 "ClaimBus$Inbox" "troubles" "[[I", .instanceMethod yX2_init, .fieldLink RX4 28 "ClaimBus$Node" "inbox" "LClaimBus$Inbox;", .classLink RX4 32 RX9, .fieldLink RX4 34 "ClaimBus$Node" "gets" "[LClaimBus$Transport;", .classLink RX4 38 RJx4a65c, .methodLink RX4 40 yJx4a65c_init_da8c8, .fieldLink RX4 41 "ClaimBus$Node" "collects" "Ljava/util/ArrayList;", .fieldLink RX4 45 "ClaimBus$Node" "troubles" "[I", .fieldLink RX4 49 "ClaimBus$Node" "troubleCount" "I", .fieldLink RX4 53 "ClaimBus$Node" "state" "I", .fieldLink RX4 56 "ClaimBus$Node" "claimCarriedAt" "I", .fieldLink RX4 59 "ClaimBus$Node" "toLose" "I", .fieldLink RX4 62 "ClaimBus$Node" "lost" "I", .fieldLink RX4 65 "ClaimBus$Node" "high" "I", .fieldLink RX4 68 "ClaimBus$Node" "low" "I", .fieldLink RX4 71 "ClaimBus$Node" "wanted" "I", .fieldLink RX4 74 "ClaimBus$Node" "free" "Z", .fieldLink RX4 78 "ClaimBus$Node" "window" "I", .fieldLink RX4 81 "ClaimBus$Node" "address" "I", .classLink RX4 84 RX5, .initialized RX5, .code yX5_init cX5_init 4 none, .methodLink RX5 3 objectInit, .fieldLink RX5 9 "ClaimBus$Row" "head" "LClaimBus$Chunk;", .fieldLink RX5 15 "ClaimBus$Row" "tail" "LClaimBus$Chunk;", .fieldLink RX5 18 "ClaimBus$Row" "headPlace" "I", .fieldLink RX5 22 "ClaimBus$Row" "tailPlace" "I", .fieldLink RX5 25 "ClaimBus$Row" "frames" "I", .fieldLink RX5 28 "ClaimBus$Row" "gone" "I", .fieldLink RX5 31 "ClaimBus$Row" "claimWaits" "Z", .classLink RX5 35 RX1, .fieldLink RX5 38 "ClaimBus$Row" "first" "LClaimBus$Frame;", .fieldLink RX5 42 "ClaimBus$Row" "firstIsWritten" "Z", .fieldLink RX5 45 "ClaimBus$Row" "high" "I", .fieldLink RX5 48 "ClaimBus$Row" "low" "I", .fieldLink RX5 51 "ClaimBus$Row" "store" "LClaimBus$Store;", .methodLink RX4 86 yX5_init, .instanceMethod yX5_init, .fieldLink RX4 89 "ClaimBus$Node" "row" "LClaimBus$Row;", .methodLink RX10 50 yX4_init, .instanceMethod yX4_init, .methodLink RL 13 yX10_node, .instanceMethod yX10_node, .selects RX10 yX10_node yX10_node, .code yX11_node cX11_node 10 (some .int), .constantLong RX11 201 (4294967295), .fieldLink RX11 172 "ClaimBusModel" "nodes" "I", .code yX11_in cX11_in 3 (some .boolean), .methodLink RX11 175 yX11_in, .static yX11_in, .methodLink RL 17 yX11_node, .instanceMethod yX11_node, .selects RX11 yX11_node yX11_node, .code yX10_start cX10_start 3 (some .boolean), .code yX10_find cX10_find 2 (some (.object "ClaimBus$Node")), .methodLink RX10 53 yX10_find, .instanceMethod yX10_find, .selects RX10 yX10_find yX10_find, .methodLink RL 18 yX10_start, .instanceMethod yX10_start, .selects RX10 yX10_start yX10_start, .code yX11_start cX11_start 2 (some .boolean), .code yX11_isNode cX11_isNode 2 (some .boolean), .methodLink RX11 203 yX11_isNode, .instanceMethod yX11_isNode, .selects RX11 yX11_isNode yX11_isNode, .methodLink RL 22 yX11_start, .instanceMethod yX11_start, .selects RX11 yX11_start yX11_start, .code yX10_stop cX10_stop 3 (some .boolean), .methodLink RL 23 yX10_stop, .instanceMethod yX10_stop, .selects RX10 yX10_stop yX10_stop, .code yX11_stop cX11_stop 3 (some .boolean), .methodLink RL 26 yX11_stop, .instanceMethod yX11_stop, .selects RX11 yX11_stop yX11_stop, .code yX10_request cX10_request 4 (some .boolean), .methodLink RL 27 yX10_request, .instanceMethod yX10_request, .selects RX10 yX10_request yX10_request, .code yX11_request cX11_request 3 (some .boolean), .methodLink RL 31 yX11_request, .instanceMethod yX11_request, .selects RX11 yX11_request yX11_request, .code yX10_send cX10_send 7 (some .boolean), .methodLink RL 32 yX10_send, .instanceMethod yX10_send, .selects RX10 yX10_send yX10_send, .code yX11_send cX11_send 9 (some .boolean), .code yX11_canSend cX11_canSend 2 (some .boolean), .methodLink RX11 231 yX11_canSend, .instanceMethod yX11_canSend, .selects RX11 yX11_canSend yX11_canSend, .methodLink RL 36 yX11_send, .instanceMethod yX11_send, .selects RX11 yX11_send yX11_send, .code yX10_trouble cX10_trouble 6 (some .int), .methodLink RL 37 yX10_trouble, .instanceMethod yX10_trouble, .selects RX10 yX10_trouble yX10_trouble, .code yX11_trouble cX11_trouble 6 (some .int), .methodLink RL 41 yX11_trouble, .instanceMethod yX11_trouble, .selects RX11 yX11_trouble yX11_trouble, .code yX10_tell cX10_tell 3 (some .boolean), .methodLink RL 42 yX10_tell, .instanceMethod yX10_tell, .selects RX10 yX10_tell yX10_tell, .code yX11_tell cX11_tell 5 (some .boolean), .methodLink RL 45 yX11_tell, .instanceMethod yX11_tell, .selects RX11 yX11_tell yX11_tell, .code yX10_lose cX10_lose 4 (some .boolean), .methodLink RL 46 yX10_lose, .instanceMethod yX10_lose, .selects RX10 yX10_lose yX10_lose, .code yX11_lose cX11_lose 3 (some .boolean), .methodLink RL 49 yX11_lose, .instanceMethod yX11_lose, .selects RX11 yX11_lose yX11_lose, .code yX10_pass cX10_pass 4 (some .int), .code yX10_nextMoment cX10_nextMoment 5 (some .int), .methodLink RX10 207 Lib.Math.max.name, .static Lib.Math.max.name, .initialized "java/lang/Math", .code Lib.Math.max.name Lib.Math.max.code 2 (some .int), .methodLink RX10 116 yX10_nextMoment, .instanceMethod yX10_nextMoment, .selects RX10 yX10_nextMoment yX10_nextMoment, .code yX10_runTimers cX10_runTimers 3 none, .methodLink RX10 120 yX10_runTimers, .instanceMethod yX10_runTimers, .selects RX10 yX10_runTimers yX10_runTimers, .code yX10_carryFrame cX10_carryFrame 5 none, .code yX10_firstToSend cX10_firstToSend 6 (some .int), .methodLink RX10 212 yX10_firstToSend, .instanceMethod yX10_firstToSend, .selects RX10 yX10_firstToSend yX10_firstToSend, .methodLink RX10 123 yX10_carryFrame, .instanceMethod yX10_carryFrame, .selects RX10 yX10_carryFrame yX10_carryFrame, .methodLink RL 50 yX10_pass, .instanceMethod yX10_pass, .selects RX10 yX10_pass yX10_pass, .code yX11_pass cX11_pass 4 (some .int), .fieldLink RX11 220 "ClaimBusModel" "time" "I", .code yX11_carry cX11_carry 5 none, .methodLink RX11 336 yX11_carry, .instanceMethod yX11_carry, .selects RX11 yX11_carry yX11_carry, .methodLink RL 54 yX11_pass, .instanceMethod yX11_pass, .selects RX11 yX11_pass yX11_pass, .code yX10_told cX10_told 4 (some .int), .methodLink RL 55 yX10_told, .instanceMethod yX10_told, .selects RX10 yX10_told yX10_told, .code yX11_told cX11_told 5 (some .int), .methodLink RL 59 yX11_told, .instanceMethod yX11_told, .selects RX11 yX11_told yX11_told, .code yX10_table cX10_table 4 (some .int), .methodLink RL 60 yX10_table, .instanceMethod yX10_table, .selects RX10 yX10_table yX10_table, .code yX11_table cX11_table 3 (some .int), .methodLink RL 63 yX11_table, .instanceMethod yX11_table, .selects RX11 yX11_table yX11_table, .code yX10_message cX10_message 5 (some .int), .methodLink RL 64 yX10_message, .instanceMethod yX10_message, .selects RX10 yX10_message yX10_message, .code yX11_message cX11_message 4 (some .int), .methodLink RL 68 yX11_message, .instanceMethod yX11_message, .selects RX11 yX11_message yX11_message, .code yX10_kept cX10_kept 6 (some .int), .methodLink RL 69 yX10_kept, .instanceMethod yX10_kept, .selects RX10 yX10_kept yX10_kept, .code yX11_kept cX11_kept 6 (some .int), .methodLink RL 72 yX11_kept, .instanceMethod yX11_kept, .selects RX11 yX11_kept yX11_kept, .code yX10_carried cX10_carried 2 (some .int), .methodLink RL 73 yX10_carried, .instanceMethod yX10_carried, .selects RX10 yX10_carried yX10_carried, .code yX11_carried cX11_carried 2 (some .int), .fieldLink RX11 324 "ClaimBusModel" "carriedHigh" "I", .fieldLink RX11 321 "ClaimBusModel" "carriedLow" "I", .fieldLink RX11 318 "ClaimBusModel" "carriedId" "I", .methodLink RL 76 yX11_carried, .instanceMethod yX11_carried, .selects RX11 yX11_carried yX11_carried, .code yX10_sound cX10_sound 1 (some .boolean), .code yX10_isDisturbed cX10_isDisturbed 3 (some .boolean), .methodLink RX10 180 yX10_isDisturbed, .instanceMethod yX10_isDisturbed, .selects RX10 yX10_isDisturbed yX10_isDisturbed, .code yX10_addressesAreApart cX10_addressesAreApart 5 (some .boolean), .methodLink RX10 183 yX10_addressesAreApart, .instanceMethod yX10_addressesAreApart, .selects RX10 yX10_addressesAreApart yX10_addressesAreApart, .code yX10_messagesAreTrue cX10_messagesAreTrue 3 (some .boolean), .methodLink RX10 186 yX10_messagesAreTrue, .instanceMethod yX10_messagesAreTrue, .selects RX10 yX10_messagesAreTrue yX10_messagesAreTrue, .methodLink RL 77 yX10_sound, .instanceMethod yX10_sound, .selects RX10 yX10_sound yX10_sound, .code yX11_sound cX11_sound 4 (some .boolean), .fieldLink RX11 213 "ClaimBusModel" "disturbed" "Z", .fieldLink RX11 279 "ClaimBusModel" "wrong" "Z", .methodLink RL 81 yX11_sound, .instanceMethod yX11_sound, .selects RX11 yX11_sound yX11_sound, .code yX10_count cX10_count 2 (some .int), .code yX10_nodesWithAddress cX10_nodesWithAddress 4 (some .int), .methodLink RX10 189 yX10_nodesWithAddress, .instanceMethod yX10_nodesWithAddress, .selects RX10 yX10_nodesWithAddress yX10_nodesWithAddress, .methodLink RL 82 yX10_count, .instanceMethod yX10_count, .selects RX10 yX10_count yX10_count, .code yX11_count cX11_count 4 (some .int), .fieldLink RX11 327 "ClaimBusModel" "carriedMany" "I", .methodLink RL 85 yX11_count, .instanceMethod yX11_count, .selects RX11 yX11_count yX11_count] ++ wsJx4a65c0 ++ wsX00 ++ wsX10 ++ wsX20 ++ wsX30 ++ wsX40 ++ wsX50 ++ wsX60 ++ wsX70 ++ wsX80 ++ wsX90 ++ wsX100 ++ wsX110
theorem in_law_Jx4a65c : ∀ w ∈ wsJx4a65c0, w ∈ v_law := fun w h => List.mem_append_left _ (List.mem_append_left _ (List.mem_append_left _ (List.mem_append_left _ (List.mem_append_left _ (List.mem_append_left _ (List.mem_append_left _ (List.mem_append_left _ (List.mem_append_left _ (List.mem_append_left _ (List.mem_append_left _ (List.mem_append_left _ (List.mem_append_right _ h))))))))))))
theorem in_law_X0 : ∀ w ∈ wsX00, w ∈ v_law := fun w h => List.mem_append_left _ (List.mem_append_left _ (List.mem_append_left _ (List.mem_append_left _ (List.mem_append_left _ (List.mem_append_left _ (List.mem_append_left _ (List.mem_append_left _ (List.mem_append_left _ (List.mem_append_left _ (List.mem_append_left _ (List.mem_append_right _ h)))))))))))
theorem in_law_X1 : ∀ w ∈ wsX10, w ∈ v_law := fun w h => List.mem_append_left _ (List.mem_append_left _ (List.mem_append_left _ (List.mem_append_left _ (List.mem_append_left _ (List.mem_append_left _ (List.mem_append_left _ (List.mem_append_left _ (List.mem_append_left _ (List.mem_append_left _ (List.mem_append_right _ h))))))))))
theorem in_law_X2 : ∀ w ∈ wsX20, w ∈ v_law := fun w h => List.mem_append_left _ (List.mem_append_left _ (List.mem_append_left _ (List.mem_append_left _ (List.mem_append_left _ (List.mem_append_left _ (List.mem_append_left _ (List.mem_append_left _ (List.mem_append_left _ (List.mem_append_right _ h)))))))))
theorem in_law_X3 : ∀ w ∈ wsX30, w ∈ v_law := fun w h => List.mem_append_left _ (List.mem_append_left _ (List.mem_append_left _ (List.mem_append_left _ (List.mem_append_left _ (List.mem_append_left _ (List.mem_append_left _ (List.mem_append_left _ (List.mem_append_right _ h))))))))
theorem in_law_X4 : ∀ w ∈ wsX40, w ∈ v_law := fun w h => List.mem_append_left _ (List.mem_append_left _ (List.mem_append_left _ (List.mem_append_left _ (List.mem_append_left _ (List.mem_append_left _ (List.mem_append_left _ (List.mem_append_right _ h)))))))
theorem in_law_X5 : ∀ w ∈ wsX50, w ∈ v_law := fun w h => List.mem_append_left _ (List.mem_append_left _ (List.mem_append_left _ (List.mem_append_left _ (List.mem_append_left _ (List.mem_append_left _ (List.mem_append_right _ h))))))
theorem in_law_X6 : ∀ w ∈ wsX60, w ∈ v_law := fun w h => List.mem_append_left _ (List.mem_append_left _ (List.mem_append_left _ (List.mem_append_left _ (List.mem_append_left _ (List.mem_append_right _ h)))))
theorem in_law_X7 : ∀ w ∈ wsX70, w ∈ v_law := fun w h => List.mem_append_left _ (List.mem_append_left _ (List.mem_append_left _ (List.mem_append_left _ (List.mem_append_right _ h))))
theorem in_law_X8 : ∀ w ∈ wsX80, w ∈ v_law := fun w h => List.mem_append_left _ (List.mem_append_left _ (List.mem_append_left _ (List.mem_append_right _ h)))
theorem in_law_X9 : ∀ w ∈ wsX90, w ∈ v_law := fun w h => List.mem_append_left _ (List.mem_append_left _ (List.mem_append_right _ h))
theorem in_law_X10 : ∀ w ∈ wsX100, w ∈ v_law := fun w h => List.mem_append_left _ (List.mem_append_right _ h)
theorem in_law_X11 : ∀ w ∈ wsX110, w ∈ v_law := fun w h => List.mem_append_right _ h
set_option maxRecDepth 20000 in
theorem g_law_c_X10_init_9 : GoodIn v_law v_c_X10_init := goodIn_r _ [16, 17, 18, 19, 20, 21, 22, 8, 23, 24, 25, 26, 0, 13, 27, 28, 29, 30, 31, 32, 33, 34, 35, 36, 37, 38, 39, 40, 41, 42, 43, 44, 45, 46, 2, 47, 48, 49, 50, 51, 52, 53, 54, 55, 56, 57, 58, 59, 60, 468, 469, 470, 471, 472, 473, 474, 475, 451, 452, 398, 399, 400, 403, 404, 405, 406] (by decide +kernel) (by decide +kernel)
set_option maxRecDepth 20000 in
theorem g_law_c_X11_init_12 : GoodIn v_law v_c_X11_init := goodIn_r _ [65, 66, 18, 19, 67, 68, 69, 70, 71, 72, 73, 74, 75, 76, 77, 78, 79, 80, 81, 82, 83, 84, 85, 86, 87, 88, 89, 90, 91, 92, 93, 94, 95, 96, 97, 98, 99, 100, 101, 102, 103, 104, 105, 106, 107, 108, 109, 110, 111, 112, 113, 114, 115, 116, 117, 118, 119, 120, 121, 122, 123, 124, 476, 477, 478, 479, 480, 481, 482, 483, 484, 485, 486, 487, 488, 489, 490, 491, 492, 493, 494, 495, 496, 497, 498, 499, 500, 501, 502, 503, 504, 505, 506, 507, 508, 509, 510, 511, 512, 513, 514, 515, 516, 517, 518, 519, 520, 521, 522, 523, 524, 525, 526, 527, 528, 529, 530, 531, 532, 533, 534, 535, 536, 537, 538] (by decide +kernel) (by decide +kernel)
set_option maxRecDepth 20000 in
theorem g_law_c_X10_node_13 : GoodIn v_law (wsV RL 13 RX10 yX10_node v_c_X10_node) := goodIn_r _ [207, 208, 209, 15, 127, 56, 128, 15, 129, 130, 131, 21, 20, 5, 132, 45, 133, 134, 18, 19, 135, 9, 136, 137, 138, 69, 139, 140, 141, 142, 143, 144, 145, 146, 147, 7, 148, 149, 150, 151, 152, 153, 154, 155, 156, 157, 3, 158, 159, 160, 161, 162, 163, 164, 165, 166, 167, 168, 169, 170, 0, 13, 27, 28, 29, 30, 31, 32, 33, 34, 35, 36, 37, 38, 39, 171, 41, 172, 173, 174, 175, 176, 177, 178, 179, 180, 181, 182, 183, 184, 185, 6, 186, 187, 188, 189, 190, 191, 192, 193, 194, 195, 196, 2, 47, 48, 49, 50, 51, 52, 53, 54, 197, 198, 199, 200, 201, 202, 203, 204, 205, 206, 468, 469, 470, 471, 472, 473, 474, 475, 417, 418, 419, 420, 421, 422, 423, 424, 425, 426, 427, 428, 429, 430, 431, 432, 433, 434, 453, 447, 448, 449, 450, 407, 408, 409, 410, 398, 399, 400, 435, 436, 437, 438, 439, 440, 441, 442, 443, 444, 445, 446, 403, 404, 405, 406] (by decide +kernel) (by decide +kernel)
set_option maxRecDepth 20000 in
theorem g_law_c_X11_node_17 : GoodIn v_law (wsV RL 17 RX11 yX11_node v_c_X11_node) := goodIn_r _ [216, 217, 218, 64, 210, 211, 212, 213, 64, 214, 215, 68, 70, 71, 73, 74, 476, 477, 478, 479, 480, 481, 482, 483, 484, 485, 486, 487, 488, 489, 490, 491, 492, 493, 494, 495, 496, 497, 498, 499, 500, 501, 502, 503, 504, 505, 506, 507, 508, 509, 510, 511, 512, 513, 514, 515, 516, 517, 518, 519, 520, 521, 522, 523, 524, 525, 526, 527, 528, 529, 530, 531, 532, 533, 534, 535, 536, 537, 538] (by decide +kernel) (by decide +kernel)
set_option maxRecDepth 20000 in
theorem g_law_c_X10_start_18 : GoodIn v_law (wsV RL 18 RX10 yX10_start v_c_X10_start) := goodIn_r _ [224, 225, 226, 15, 219, 220, 56, 15, 221, 222, 223, 468, 469, 470, 471, 472, 473, 474, 475] (by decide +kernel) (by decide +kernel)
set_option maxRecDepth 20000 in
theorem g_law_c_X11_start_22 : GoodIn v_law (wsV RL 22 RX11 yX11_start v_c_X11_start) := goodIn_r _ [232, 233, 234, 64, 227, 228, 212, 213, 64, 214, 215, 229, 230, 231, 476, 477, 478, 479, 480, 481, 482, 483, 484, 485, 486, 487, 488, 489, 490, 491, 492, 493, 494, 495, 496, 497, 498, 499, 500, 501, 502, 503, 504, 505, 506, 507, 508, 509, 510, 511, 512, 513, 514, 515, 516, 517, 518, 519, 520, 521, 522, 523, 524, 525, 526, 527, 528, 529, 530, 531, 532, 533, 534, 535, 536, 537, 538] (by decide +kernel) (by decide +kernel)
set_option maxRecDepth 20000 in
theorem g_law_c_X10_stop_23 : GoodIn v_law (wsV RL 23 RX10 yX10_stop v_c_X10_stop) := goodIn_r _ [236, 237, 238, 15, 235, 220, 56, 15, 221, 222, 223, 468, 469, 470, 471, 472, 473, 474, 475] (by decide +kernel) (by decide +kernel)
set_option maxRecDepth 20000 in
theorem g_law_c_X11_stop_26 : GoodIn v_law (wsV RL 26 RX11 yX11_stop v_c_X11_stop) := goodIn_r _ [240, 241, 242, 64, 239, 228, 212, 213, 64, 214, 215, 229, 230, 231, 476, 477, 478, 479, 480, 481, 482, 483, 484, 485, 486, 487, 488, 489, 490, 491, 492, 493, 494, 495, 496, 497, 498, 499, 500, 501, 502, 503, 504, 505, 506, 507, 508, 509, 510, 511, 512, 513, 514, 515, 516, 517, 518, 519, 520, 521, 522, 523, 524, 525, 526, 527, 528, 529, 530, 531, 532, 533, 534, 535, 536, 537, 538] (by decide +kernel) (by decide +kernel)
set_option maxRecDepth 20000 in
theorem g_law_c_X10_request_27 : GoodIn v_law (wsV RL 27 RX10 yX10_request v_c_X10_request) := goodIn_r _ [244, 245, 246, 15, 243, 220, 56, 15, 221, 222, 223, 468, 469, 470, 471, 472, 473, 474, 475] (by decide +kernel) (by decide +kernel)
set_option maxRecDepth 20000 in
theorem g_law_c_X11_request_31 : GoodIn v_law (wsV RL 31 RX11 yX11_request v_c_X11_request) := goodIn_r _ [248, 249, 250, 64, 247, 228, 212, 213, 64, 214, 215, 229, 230, 231, 476, 477, 478, 479, 480, 481, 482, 483, 484, 485, 486, 487, 488, 489, 490, 491, 492, 493, 494, 495, 496, 497, 498, 499, 500, 501, 502, 503, 504, 505, 506, 507, 508, 509, 510, 511, 512, 513, 514, 515, 516, 517, 518, 519, 520, 521, 522, 523, 524, 525, 526, 527, 528, 529, 530, 531, 532, 533, 534, 535, 536, 537, 538] (by decide +kernel) (by decide +kernel)
set_option maxRecDepth 20000 in
theorem g_law_c_X10_send_32 : GoodIn v_law (wsV RL 32 RX10 yX10_send v_c_X10_send) := goodIn_r _ [252, 253, 254, 15, 251, 220, 56, 15, 221, 222, 223, 468, 469, 470, 471, 472, 473, 474, 475] (by decide +kernel) (by decide +kernel)
set_option maxRecDepth 20000 in
theorem g_law_c_X11_send_36 : GoodIn v_law (wsV RL 36 RX11 yX11_send v_c_X11_send) := goodIn_r _ [260, 261, 262, 64, 255, 256, 228, 212, 213, 64, 214, 215, 229, 230, 231, 257, 258, 259, 476, 477, 478, 479, 480, 481, 482, 483, 484, 485, 486, 487, 488, 489, 490, 491, 492, 493, 494, 495, 496, 497, 498, 499, 500, 501, 502, 503, 504, 505, 506, 507, 508, 509, 510, 511, 512, 513, 514, 515, 516, 517, 518, 519, 520, 521, 522, 523, 524, 525, 526, 527, 528, 529, 530, 531, 532, 533, 534, 535, 536, 537, 538] (by decide +kernel) (by decide +kernel)
set_option maxRecDepth 20000 in
theorem g_law_c_X10_trouble_37 : GoodIn v_law (wsV RL 37 RX10 yX10_trouble v_c_X10_trouble) := goodIn_r _ [264, 265, 266, 15, 263, 220, 56, 15, 221, 222, 223, 468, 469, 470, 471, 472, 473, 474, 475] (by decide +kernel) (by decide +kernel)
set_option maxRecDepth 20000 in
theorem g_law_c_X11_trouble_41 : GoodIn v_law (wsV RL 41 RX11 yX11_trouble v_c_X11_trouble) := goodIn_r _ [268, 269, 270, 64, 267, 228, 212, 213, 64, 214, 215, 229, 230, 231, 476, 477, 478, 479, 480, 481, 482, 483, 484, 485, 486, 487, 488, 489, 490, 491, 492, 493, 494, 495, 496, 497, 498, 499, 500, 501, 502, 503, 504, 505, 506, 507, 508, 509, 510, 511, 512, 513, 514, 515, 516, 517, 518, 519, 520, 521, 522, 523, 524, 525, 526, 527, 528, 529, 530, 531, 532, 533, 534, 535, 536, 537, 538] (by decide +kernel) (by decide +kernel)
set_option maxRecDepth 20000 in
theorem g_law_c_X10_tell_42 : GoodIn v_law (wsV RL 42 RX10 yX10_tell v_c_X10_tell) := goodIn_r _ [272, 273, 274, 15, 271, 220, 56, 15, 221, 222, 223, 468, 469, 470, 471, 472, 473, 474, 475] (by decide +kernel) (by decide +kernel)
set_option maxRecDepth 20000 in
theorem g_law_c_X11_tell_45 : GoodIn v_law (wsV RL 45 RX11 yX11_tell v_c_X11_tell) := goodIn_r _ [276, 277, 278, 64, 275, 256, 228, 212, 213, 64, 214, 215, 229, 230, 231, 257, 258, 259, 476, 477, 478, 479, 480, 481, 482, 483, 484, 485, 486, 487, 488, 489, 490, 491, 492, 493, 494, 495, 496, 497, 498, 499, 500, 501, 502, 503, 504, 505, 506, 507, 508, 509, 510, 511, 512, 513, 514, 515, 516, 517, 518, 519, 520, 521, 522, 523, 524, 525, 526, 527, 528, 529, 530, 531, 532, 533, 534, 535, 536, 537, 538] (by decide +kernel) (by decide +kernel)
set_option maxRecDepth 20000 in
theorem g_law_c_X10_lose_46 : GoodIn v_law (wsV RL 46 RX10 yX10_lose v_c_X10_lose) := goodIn_r _ [280, 281, 282, 15, 279, 220, 56, 15, 221, 222, 223, 468, 469, 470, 471, 472, 473, 474, 475] (by decide +kernel) (by decide +kernel)
set_option maxRecDepth 20000 in
theorem g_law_c_X11_lose_49 : GoodIn v_law (wsV RL 49 RX11 yX11_lose v_c_X11_lose) := goodIn_r _ [284, 285, 286, 64, 283, 228, 212, 213, 64, 214, 215, 229, 230, 231, 476, 477, 478, 479, 480, 481, 482, 483, 484, 485, 486, 487, 488, 489, 490, 491, 492, 493, 494, 495, 496, 497, 498, 499, 500, 501, 502, 503, 504, 505, 506, 507, 508, 509, 510, 511, 512, 513, 514, 515, 516, 517, 518, 519, 520, 521, 522, 523, 524, 525, 526, 527, 528, 529, 530, 531, 532, 533, 534, 535, 536, 537, 538] (by decide +kernel) (by decide +kernel)
set_option maxRecDepth 20000 in
theorem g_law_c_X10_pass_50 : GoodIn v_law (wsV RL 50 RX10 yX10_pass v_c_X10_pass) := goodIn_r _ [308, 309, 310, 15, 287, 57, 288, 56, 289, 290, 291, 292, 15, 293, 294, 295, 296, 297, 298, 299, 300, 301, 302, 303, 304, 220, 221, 222, 223, 305, 306, 307, 468, 469, 470, 471, 472, 473, 474, 475] (by decide +kernel) (by decide +kernel)
set_option maxRecDepth 20000 in
theorem g_law_c_X11_pass_54 : GoodIn v_law (wsV RL 54 RX11 yX11_pass v_c_X11_pass) := goodIn_r _ [317, 318, 319, 64, 311, 213, 64, 214, 215, 312, 212, 313, 314, 315, 316, 476, 477, 478, 479, 480, 481, 482, 483, 484, 485, 486, 487, 488, 489, 490, 491, 492, 493, 494, 495, 496, 497, 498, 499, 500, 501, 502, 503, 504, 505, 506, 507, 508, 509, 510, 511, 512, 513, 514, 515, 516, 517, 518, 519, 520, 521, 522, 523, 524, 525, 526, 527, 528, 529, 530, 531, 532, 533, 534, 535, 536, 537, 538] (by decide +kernel) (by decide +kernel)
set_option maxRecDepth 20000 in
theorem g_law_c_X10_told_55 : GoodIn v_law (wsV RL 55 RX10 yX10_told v_c_X10_told) := goodIn_r _ [321, 322, 323, 15, 320, 220, 56, 15, 221, 222, 223, 468, 469, 470, 471, 472, 473, 474, 475] (by decide +kernel) (by decide +kernel)
set_option maxRecDepth 20000 in
theorem g_law_c_X11_told_59 : GoodIn v_law (wsV RL 59 RX11 yX11_told v_c_X11_told) := goodIn_r _ [325, 326, 327, 64, 324, 228, 212, 213, 64, 214, 215, 229, 230, 231, 476, 477, 478, 479, 480, 481, 482, 483, 484, 485, 486, 487, 488, 489, 490, 491, 492, 493, 494, 495, 496, 497, 498, 499, 500, 501, 502, 503, 504, 505, 506, 507, 508, 509, 510, 511, 512, 513, 514, 515, 516, 517, 518, 519, 520, 521, 522, 523, 524, 525, 526, 527, 528, 529, 530, 531, 532, 533, 534, 535, 536, 537, 538] (by decide +kernel) (by decide +kernel)
set_option maxRecDepth 20000 in
theorem g_law_c_X10_table_60 : GoodIn v_law (wsV RL 60 RX10 yX10_table v_c_X10_table) := goodIn_r _ [329, 330, 331, 15, 328, 220, 56, 15, 221, 222, 223, 468, 469, 470, 471, 472, 473, 474, 475] (by decide +kernel) (by decide +kernel)
set_option maxRecDepth 20000 in
theorem g_law_c_X11_table_63 : GoodIn v_law (wsV RL 63 RX11 yX11_table v_c_X11_table) := goodIn_r _ [333, 334, 335, 64, 332, 228, 212, 213, 64, 214, 215, 229, 230, 231, 476, 477, 478, 479, 480, 481, 482, 483, 484, 485, 486, 487, 488, 489, 490, 491, 492, 493, 494, 495, 496, 497, 498, 499, 500, 501, 502, 503, 504, 505, 506, 507, 508, 509, 510, 511, 512, 513, 514, 515, 516, 517, 518, 519, 520, 521, 522, 523, 524, 525, 526, 527, 528, 529, 530, 531, 532, 533, 534, 535, 536, 537, 538] (by decide +kernel) (by decide +kernel)
set_option maxRecDepth 20000 in
theorem g_law_c_X10_message_64 : GoodIn v_law (wsV RL 64 RX10 yX10_message v_c_X10_message) := goodIn_r _ [337, 338, 339, 15, 336, 220, 56, 15, 221, 222, 223, 468, 469, 470, 471, 472, 473, 474, 475] (by decide +kernel) (by decide +kernel)
set_option maxRecDepth 20000 in
theorem g_law_c_X11_message_68 : GoodIn v_law (wsV RL 68 RX11 yX11_message v_c_X11_message) := goodIn_r _ [341, 342, 343, 64, 340, 228, 212, 213, 64, 214, 215, 229, 230, 231, 476, 477, 478, 479, 480, 481, 482, 483, 484, 485, 486, 487, 488, 489, 490, 491, 492, 493, 494, 495, 496, 497, 498, 499, 500, 501, 502, 503, 504, 505, 506, 507, 508, 509, 510, 511, 512, 513, 514, 515, 516, 517, 518, 519, 520, 521, 522, 523, 524, 525, 526, 527, 528, 529, 530, 531, 532, 533, 534, 535, 536, 537, 538] (by decide +kernel) (by decide +kernel)
set_option maxRecDepth 20000 in
theorem g_law_c_X10_kept_69 : GoodIn v_law (wsV RL 69 RX10 yX10_kept v_c_X10_kept) := goodIn_r _ [345, 346, 347, 15, 344, 220, 56, 15, 221, 222, 223, 468, 469, 470, 471, 472, 473, 474, 475] (by decide +kernel) (by decide +kernel)
set_option maxRecDepth 20000 in
theorem g_law_c_X11_kept_72 : GoodIn v_law (wsV RL 72 RX11 yX11_kept v_c_X11_kept) := goodIn_r _ [349, 350, 351, 64, 348, 228, 212, 213, 64, 214, 215, 229, 230, 231, 476, 477, 478, 479, 480, 481, 482, 483, 484, 485, 486, 487, 488, 489, 490, 491, 492, 493, 494, 495, 496, 497, 498, 499, 500, 501, 502, 503, 504, 505, 506, 507, 508, 509, 510, 511, 512, 513, 514, 515, 516, 517, 518, 519, 520, 521, 522, 523, 524, 525, 526, 527, 528, 529, 530, 531, 532, 533, 534, 535, 536, 537, 538] (by decide +kernel) (by decide +kernel)
set_option maxRecDepth 20000 in
theorem g_law_c_X10_carried_73 : GoodIn v_law (wsV RL 73 RX10 yX10_carried v_c_X10_carried) := goodIn_r _ [353, 354, 355, 15, 352, 59, 468, 469, 470, 471, 472, 473, 474, 475] (by decide +kernel) (by decide +kernel)
set_option maxRecDepth 20000 in
theorem g_law_c_X11_carried_76 : GoodIn v_law (wsV RL 76 RX11 yX11_carried v_c_X11_carried) := goodIn_r _ [360, 361, 362, 64, 356, 116, 357, 358, 359, 476, 477, 478, 479, 480, 481, 482, 483, 484, 485, 486, 487, 488, 489, 490, 491, 492, 493, 494, 495, 496, 497, 498, 499, 500, 501, 502, 503, 504, 505, 506, 507, 508, 509, 510, 511, 512, 513, 514, 515, 516, 517, 518, 519, 520, 521, 522, 523, 524, 525, 526, 527, 528, 529, 530, 531, 532, 533, 534, 535, 536, 537, 538] (by decide +kernel) (by decide +kernel)
set_option maxRecDepth 20000 in
theorem g_law_c_X10_sound_77 : GoodIn v_law (wsV RL 77 RX10 yX10_sound v_c_X10_sound) := goodIn_r _ [376, 377, 378, 15, 363, 364, 56, 60, 15, 365, 366, 367, 368, 369, 370, 371, 372, 373, 374, 375, 468, 469, 470, 471, 472, 473, 474, 475] (by decide +kernel) (by decide +kernel)
set_option maxRecDepth 20000 in
theorem g_law_c_X11_sound_81 : GoodIn v_law (wsV RL 81 RX11 yX11_sound v_c_X11_sound) := goodIn_r _ [382, 383, 384, 64, 379, 380, 381, 212, 476, 477, 478, 479, 480, 481, 482, 483, 484, 485, 486, 487, 488, 489, 490, 491, 492, 493, 494, 495, 496, 497, 498, 499, 500, 501, 502, 503, 504, 505, 506, 507, 508, 509, 510, 511, 512, 513, 514, 515, 516, 517, 518, 519, 520, 521, 522, 523, 524, 525, 526, 527, 528, 529, 530, 531, 532, 533, 534, 535, 536, 537, 538] (by decide +kernel) (by decide +kernel)
set_option maxRecDepth 20000 in
theorem g_law_c_X10_count_82 : GoodIn v_law (wsV RL 82 RX10 yX10_count v_c_X10_count) := goodIn_r _ [390, 391, 392, 15, 385, 56, 57, 58, 386, 15, 387, 388, 389, 468, 469, 470, 471, 472, 473, 474, 475] (by decide +kernel) (by decide +kernel)
set_option maxRecDepth 20000 in
theorem g_law_c_X11_count_85 : GoodIn v_law (wsV RL 85 RX11 yX11_count v_c_X11_count) := goodIn_r _ [395, 396, 397, 64, 393, 212, 394, 312, 476, 477, 478, 479, 480, 481, 482, 483, 484, 485, 486, 487, 488, 489, 490, 491, 492, 493, 494, 495, 496, 497, 498, 499, 500, 501, 502, 503, 504, 505, 506, 507, 508, 509, 510, 511, 512, 513, 514, 515, 516, 517, 518, 519, 520, 521, 522, 523, 524, 525, 526, 527, 528, 529, 530, 531, 532, 533, 534, 535, 536, 537, 538] (by decide +kernel) (by decide +kernel)
set_option maxRecDepth 20000 in
theorem v_law_good : GoodIn lw_tbl v_law := goodIn_r _ [110, 458, 143, 250, 496, 205, 277, 226, 104, 211, 822, 94, 1032, 76, 93, 72, 97, 98, 99, 100, 101, 168, 103, 73, 107, 108, 109, 113, 116, 119, 120, 74, 117, 118, 125, 75, 114, 115, 121, 123, 111, 112, 135, 136, 106, 169, 142, 77, 146, 147, 148, 150, 153, 156, 145, 170, 171, 172, 173, 174, 175, 95, 96, 1031, 78, 1035, 1036, 473, 1042, 224, 1043, 1044, 1230, 1045, 1046, 1047, 1048, 1049, 1050, 1051, 1052, 1037, 1053, 1054, 1055, 1056, 1057, 1059, 1060, 1061, 1062, 1063, 1064, 1065, 1066, 1067, 1068, 1069, 1070, 1071, 1072, 1073, 1074, 1075, 1076, 1038, 1077, 1078, 1079, 1080, 1081, 1082, 1083, 1084, 1039, 1085, 1089, 1094, 1095, 1096, 1097, 1098, 1099, 1101, 1102, 1033, 1034, 196, 200, 197, 199, 0, 79, 208, 209, 210, 80, 214, 215, 220, 219, 216, 217, 218, 212, 213, 331, 225, 81, 229, 230, 231, 234, 236, 238, 228, 333, 249, 82, 253, 254, 257, 259, 261, 255, 262, 252, 335, 272, 337, 274, 275, 338, 339, 340, 341, 345, 346, 348, 321, 323, 325, 327, 328, 343, 276, 83, 280, 281, 287, 288, 289, 290, 291, 292, 293, 282, 294, 295, 284, 285, 286, 278, 279, 329, 206, 207, 193, 194, 195, 1234, 1235, 1040, 1238, 1236, 1237, 1231, 1232, 1233, 390, 204, 201, 203, 1, 387, 388, 389, 1242, 1246, 1243, 1245, 38, 1239, 1240, 1241, 402, 399, 400, 401, 1261, 1258, 1259, 1260, 445, 442, 443, 444, 1273, 1270, 1271, 1272, 482, 479, 480, 481, 1284, 1288, 1285, 1287, 44, 1281, 1282, 1283, 597, 594, 595, 596, 1305, 1302, 1303, 1304, 609, 606, 607, 608, 1310, 1307, 1308, 1309, 623, 620, 621, 622, 1315, 1312, 1313, 1314, 627, 631, 643, 549, 89, 550, 628, 630, 7, 647, 644, 646, 8, 675, 679, 676, 678, 14, 672, 674, 13, 624, 625, 626, 1319, 1041, 1343, 1340, 1342, 53, 1316, 1317, 1318, 972, 969, 970, 971, 1415, 1412, 1413, 1414, 980, 977, 978, 979, 1419, 1416, 1417, 1418, 985, 982, 983, 984, 1423, 1420, 1421, 1422, 993, 990, 991, 992, 1427, 1424, 1425, 1426, 1002, 999, 1000, 1001, 1431, 1088, 1087, 1086, 1428, 1429, 1430, 1006, 1010, 1007, 1009, 34, 1014, 1011, 1013, 35, 1022, 1019, 1021, 36, 1003, 1004, 1005, 1435, 1091, 1092, 1432, 1433, 1434, 1026, 1030, 1027, 1029, 37, 1023, 1024, 1025, 1439, 1090, 1436, 1437, 1438, 132, 128, 130, 468, 470, 159, 161, 163, 165, 263, 265, 267, 269, 516, 518, 520, 522, 524, 526, 350, 352, 354, 356, 358, 360, 362, 364, 366, 368, 370, 372, 374, 376, 378, 380, 382, 384, 296, 298, 300, 302, 304, 306, 308, 310, 312, 314, 316, 318, 240, 242, 244, 246, 137, 139, 221, 856, 858, 860, 862, 864, 866, 868, 870, 872, 874, 876, 878, 880, 882, 176, 178, 180, 182, 184, 186, 188, 190, 1103, 1105, 1107, 1109, 1111, 1113, 1115, 1117, 1119, 1121, 1123, 1125, 1127, 1129, 1131, 1133, 1135, 1137, 1139, 1141, 1143, 1145, 1147, 1149, 1151, 1153, 1155, 1157, 1159, 1161, 1163, 1165, 1167, 1169, 1171, 1173, 1175, 1177, 1179, 1181, 1183, 1185, 1187, 1189, 1191, 1193, 1195, 1197, 1199, 1201, 1203, 1205, 1207, 1209, 1211, 1213, 1215, 1217, 1219, 1221, 1223, 1225, 1227] (by decide +kernel) (by decide +kernel)
theorem v_law_in : ∀ w ∈ v_law, w ∈ lw_tbl := fun w h => (v_law_good w h).1
set_option maxHeartbeats 4000000 in
set_option maxRecDepth 100000 in
theorem law_end {p : Program} {e : Env} {s : State} {m : MethodId} {below : List Frame} {meth : Method} {c : Code} {l : Launch} {b L : Nat} {xs : Nat → Int32} (hL : L ≤ 6) (C0 : lw_At p s m meth c b L xs) {H : Heap} {locs : List Loc} {cells slots : Nat} {ls : Array Slot} (hc : cells ≤ 600000) (hs : slots ≤ 7302250) (hS : va_S (fun q : Nat => s.heap.size ≤ q) s.heap H locs) (hl : lv_has ls 4 [(3, .int 6), (0, .ref b)]) : W p l e room_1 s m #[Value.ref b] below meth c H locs cells slots (lw_Z below #[Value.ref b] s) (F0 m 18 ls []) := by
  obtain ⟨hx, hb, hr, hml, hown0, hts0, hX, hbl, hlocks, hgv⟩ := id C0
  have hown : s.vm.findClass RL = some m.cls := hown0
  have hts : ∀ w ∈ v_law, w.before #[Value.ref b] s = true := fun w h => hts0 w (v_law_in w h)
  have hA : ∀ q : Nat, s.heap.size ≤ q → (fun q : Nat => s.heap.size ≤ q) q := fun _ h => h
  have hbA : ¬ (fun q : Nat => s.heap.size ≤ q) b := Nat.not_le.mpr hbl
  refine lv_iload_n hx hb dL_law_18 rfl (lv_at hl 0 rfl) ?_
  refine lv_aload_n hx hb dL_law_19 rfl (lv_at hl 1 rfl) ?_
  refine va_slen hx hb hX hbl hbA hS dL_law_20 ?_
  refine lv_bipush (v := 6) hx hb dL_law_21 (by decide) ?_
  refine lv_isub hx hb dL_law_23 ?_
  refine lv_topi (fun x_1 ex_1 => ?_)
  refine lv_icmp_gt (tgt := 692) hx hb dL_law_24 (by decide) (fun c_2 => ?_) (fun c_2 => ?_)
  rotate_left
  · exact absurd (show x_1 < 6 from by rw [ex_1]; rcases (by omega : L = 0 ∨ L = 1 ∨ L = 2 ∨ L = 3 ∨ L = 4 ∨ L = 5 ∨ L = 6) with rfl | rfl | rfl | rfl | rfl | rfl | rfl <;> decide) c_2
  refine lv_iconst (v := 1) hx hb dL_law_692 (by decide) ?_
  refine va_forget (fun q hq => hS.2.2 q hq) ?_
  refine W.widen (k := 600000) (n := 7302250) hc hs ?_
  exact lw_ret hx hb hr hlocks dL_law_693
set_option maxHeartbeats 8000000 in
set_option maxRecDepth 100000 in
/-- THE LAW, from its entry -/
theorem whole_start {p : Program} {e : Env} {s : State} {m : MethodId} {below : List Frame} {meth : Method} {c : Code} (l : Launch) (hflags : l.flags = flags0) {b L : Nat} {xs : Nat → Int32} (hL : L ≤ 6) (C0 : lw_At p s m meth c b L xs) : W p l e room_1 s m #[Value.ref b] below meth c s.heap [] 0 0 (lw_Z below #[Value.ref b] s) (entryFrame m ([Value.ref b] : List Value).toArray 4) := by
  obtain ⟨hx, hb, hr, hml, hown0, hts0, hX, hbl, hlocks, hgv⟩ := id C0
  have hown : s.vm.findClass RL = some m.cls := hown0
  have hts : ∀ w ∈ v_law, w.before #[Value.ref b] s = true := fun w h => hts0 w (v_law_in w h)
  have hA : ∀ q : Nat, s.heap.size ≤ q → (fun q : Nat => s.heap.size ≤ q) q := fun _ h => h
  have hbA : ¬ (fun q : Nat => s.heap.size ≤ q) b := Nat.not_le.mpr hbl
  obtain ⟨kc0, ki0, hKn0⟩ := u_known (C := RJx4a65c) (T := TJx4a65c) (N := 3) (n := 3) hts in_law_Jx4a65c (hts (.instantiable RJx4a65c 3) (List.mem_of_getElem? (i := 0) rfl))
  obtain ⟨kc1, ki1, hKn1⟩ := u_known (C := RX0) (T := TX0) (N := 2) (n := 2) hts in_law_X0 (hts (.instantiable RX0 2) (List.mem_of_getElem? (i := 1) rfl))
  obtain ⟨kc2, ki2, hKn2⟩ := u_known (C := RX1) (T := TX1) (N := 4) (n := 4) hts in_law_X1 (hts (.instantiable RX1 4) (List.mem_of_getElem? (i := 2) rfl))
  obtain ⟨kc3, ki3, hKn3⟩ := u_known (C := RX2) (T := TX2) (N := 4) (n := 4) hts in_law_X2 (hts (.instantiable RX2 4) (List.mem_of_getElem? (i := 3) rfl))
  obtain ⟨kc4, ki4, hKn4⟩ := u_known (C := RX3) (T := TX3) (N := 6) (n := 6) hts in_law_X3 (hts (.instantiable RX3 6) (List.mem_of_getElem? (i := 4) rfl))
  obtain ⟨kc5, ki5, hKn5⟩ := u_known (C := RX4) (T := TX4) (N := 18) (n := 18) hts in_law_X4 (hts (.instantiable RX4 18) (List.mem_of_getElem? (i := 5) rfl))
  obtain ⟨kc6, ki6, hKn6⟩ := u_known (C := RX5) (T := TX5) (N := 12) (n := 12) hts in_law_X5 (hts (.instantiable RX5 12) (List.mem_of_getElem? (i := 6) rfl))
  obtain ⟨kc7, ki7, hKn7⟩ := u_known (C := RX6) (T := TX6) (N := 4) (n := 4) hts in_law_X6 (hts (.instantiable RX6 4) (List.mem_of_getElem? (i := 7) rfl))
  obtain ⟨kc8, ki8, hKn8⟩ := u_known (C := RX7) (T := TX7) (N := 2) (n := 2) hts in_law_X7 (hts (.instantiable RX7 2) (List.mem_of_getElem? (i := 8) rfl))
  obtain ⟨kc9, ki9, hKn9⟩ := u_known (C := RX8) (T := TX8) (N := 1) (n := 1) hts in_law_X8 (hts (.instantiable RX8 1) (List.mem_of_getElem? (i := 9) rfl))
  obtain ⟨kc10, ki10, hKn10⟩ := u_known (C := RX9) (T := TX9) (N := 14) (n := 14) hts in_law_X9 (hts (.instantiable RX9 14) (List.mem_of_getElem? (i := 10) rfl))
  obtain ⟨kc11, ki11, hKn11⟩ := u_known (C := RX10) (T := TX10) (N := 8) (n := 8) hts in_law_X10 (hts (.instantiable RX10 8) (List.mem_of_getElem? (i := 11) rfl))
  obtain ⟨kc12, ki12, hKn12⟩ := u_known (C := RX11) (T := TX11) (N := 63) (n := 63) hts in_law_X11 (hts (.instantiable RX11 63) (List.mem_of_getElem? (i := 12) rfl))
  obtain ⟨dC, dI, hKc0⟩ : ∃ (dC : Nat → ClassId) (dI : Nat → Nat → Nat), ∀ (k : Nat) (q : vw_C), vwCl[k]? = some q → u_Kn s q.1 q.2.1 q.2.2 (dC k) (dI k) := by
    refine ⟨fun k => ([kc0, kc1, kc2, kc3, kc4, kc5, kc6, kc7, kc8, kc9, kc10, kc11, kc12] : List ClassId).getD k kc0, fun k => ([ki0, ki1, ki2, ki3, ki4, ki5, ki6, ki7, ki8, ki9, ki10, ki11, ki12] : List (Nat → Nat)).getD k ki0, ?_⟩
    intro k q hq
    match k, hq with
    | 0, hq => cases hq; exact hKn0
    | 1, hq => cases hq; exact hKn1
    | 2, hq => cases hq; exact hKn2
    | 3, hq => cases hq; exact hKn3
    | 4, hq => cases hq; exact hKn4
    | 5, hq => cases hq; exact hKn5
    | 6, hq => cases hq; exact hKn6
    | 7, hq => cases hq; exact hKn7
    | 8, hq => cases hq; exact hKn8
    | 9, hq => cases hq; exact hKn9
    | 10, hq => cases hq; exact hKn10
    | 11, hq => cases hq; exact hKn11
    | 12, hq => cases hq; exact hKn12
    | k + 13, hq => simp [vwCl] at hq
  have hS : va_S (fun q : Nat => s.heap.size ≤ q) s.heap s.heap [] := va_S.rf
  have hK : va_K (dC, dI) vwCl [] s := ⟨hKc0, fun k q h => by simp at h⟩
  have hP : va_P (dC, dI) vwCl [] s.heap := p_nil
  have hD : va_D (fun q : Nat => s.heap.size ≤ q) [] := d_nil
  have hE : ev s := ⟨va_Nw.of rfl (hts0 (.methodLinkNest RX10 17 yX7_init "ClaimBus") (List.mem_append_right _ (List.mem_of_getElem? (i := 34) (by decide +kernel)))), va_Nw.of rfl (hts0 (.methodLinkNest RX10 24 yX1_init "ClaimBus") (List.mem_append_right _ (List.mem_of_getElem? (i := 73) (by decide +kernel)))), va_Nw.of rfl (hts0 (.methodLinkNest RX4 20 yX6_init "ClaimBus") (List.mem_append_right _ (List.mem_of_getElem? (i := 156) (by decide +kernel)))), va_Nw.of rfl (hts0 (.methodLinkNest RX4 27 yX2_init "ClaimBus") (List.mem_append_right _ (List.mem_of_getElem? (i := 180) (by decide +kernel)))), va_Nw.of rfl (hts0 (.methodLinkNest RX5 37 yX1_init "ClaimBus") (List.mem_append_right _ (List.mem_of_getElem? (i := 212) (by decide +kernel)))), va_AO.of (hts0 (.arrayOver (.object "ClaimBus$Node")) (List.mem_append_right _ (List.mem_of_getElem? (i := 31) (by decide +kernel)))), va_AO.of (hts0 (.arrayOver (.object "ClaimBus$Transport")) (List.mem_append_right _ (List.mem_of_getElem? (i := 202) (by decide +kernel)))), (hts0 (.arrayOver (.array .int)) (List.mem_append_right _ (List.mem_of_getElem? (i := 185) (by decide +kernel))))⟩
  have hZ : va_Zq "java/util/ArrayList" "DEFAULTCAPACITY_EMPTY_ELEMENTDATA" "[Ljava/lang/Object;" (fun q : Nat => s.heap.size ≤ q) s s.heap := va_Zqof (hts0 (.laysStatic "java/util/ArrayList" "DEFAULTCAPACITY_EMPTY_ELEMENTDATA" "[Ljava/lang/Object;") (List.mem_append_right _ (List.mem_of_getElem? (i := 51) (by decide +kernel)))) (hts (.initialized RJx4a65c) (List.mem_of_getElem? (i := 13) rfl)) (flat_of_before _ hgv (.isRef (.static "java/util/ArrayList" "DEFAULTCAPACITY_EMPTY_ELEMENTDATA" "[Ljava/lang/Object;")) (by decide +kernel)) (fun a ha => Nat.not_le.mpr ha)
  have hl := lv_entry ([.ref b]) (n := 4) (Nat.le_of_ble_eq_true rfl)
  rw [lg_entry_eq]
  generalize (lg_sl ([.ref b]) ++ List.replicate (4 - (lg_sl ([.ref b])).length) Slot.unset).toArray = ls at hl ⊢
  replace hl : lv_has ls 4 [(0, .ref b)] := hl
  refine va_new (ci := 11) (fs := [.null, .null, .null, .int 0, .int 0, .int 0, .int 0, .int 0]) (C := RX10) (T := TX10) (N := 8) hx hb hts in_law_X10 tyX10 tyX10_ok hown (hts (.classLink RL 7 RX10) (List.mem_of_getElem? (i := 14) rfl)) (hts (.instantiable RX10 8) (List.mem_of_getElem? (i := 11) rfl)) (hts (.initialized RX10) (List.mem_of_getElem? (i := 15) rfl)) hK hP hD hS hA rfl df_X10 (Nat.le_of_ble_eq_true rfl) (Nat.le_of_ble_eq_true rfl) dL_law_0 (fun q1 H hP hD hS => ?_)
  replace hP : va_P (dC, dI) vwCl [(q1, .inr (11, [.null, .null, .null, .int 0, .int 0, .int 0, .int 0, .int 0]))] H := hP
  replace hD : va_D (fun q : Nat => s.heap.size ≤ q) [(q1, .inr (11, [.null, .null, .null, .int 0, .int 0, .int 0, .int 0, .int 0]))] := hD
  refine W.widen (k := 1) (n := 8) (Nat.le_of_ble_eq_true rfl) (Nat.le_of_ble_eq_true rfl) ?_
  refine lv_dup hx hb dL_law_3 rfl ?_
  have hPc := hP.sub (ws' := [(q1, .inr (11, [.null, .null, .null, .int 0, .int 0, .int 0, .int 0, .int 0]))]) [0] rfl
  have hDc := hD.sub (ws' := [(q1, .inr (11, [.null, .null, .null, .int 0, .int 0, .int 0, .int 0, .int 0]))]) [0] (by decide) rfl
  have hKc := hK.sub (tys' := []) [] rfl
  have hFc := va_free (wc := [(q1, .inr (11, [.null, .null, .null, .int 0, .int 0, .int 0, .int 0, .int 0]))]) hD hS hA [0] rfl
  have hZc := (w_zq hZ hS).narrow (fun q h => hFc q h)
  refine va_callv (va_runI (As := []) (rest := [.ref q1]) ⟨hx, hb, hml, hown, hts⟩ (c_X10_init l dC dI (q1) H.size) (cwI 0 hts g_law_c_X10_init_9 rfl rfl rfl (hts (.initialized RX10) (List.mem_of_getElem? (i := 15) rfl)) (hts (.methodLink RL 9 yX10_init) (List.mem_of_getElem? (i := 61) rfl)) (hts (.instanceMethod yX10_init) (List.mem_of_getElem? (i := 62) rfl)) rfl (by decide +kernel) ⟨Nat.le_of_ble_eq_true rfl, Nat.le_of_ble_eq_true rfl⟩) ⟨fun a U g mk q => by obtain ⟨q0, q1, qP, qK, qD, qE, qZ⟩ := q; exact ⟨q0, q1, qP, va_K.moved (u := U) (U := U.calling g mk a) (Vm.Alike.refl U.vm) qK, qD, ev.same (u := U) (U := U.calling g mk a) rfl qE, va_Zq.moved (u := U) (U := U.calling g mk a) (Vm.Alike.refl U.vm) qZ⟩, fun U hU hW => ⟨rfl, by rw [hU], by rw [hU]; exact hPc, va_K.moved hW.alike hKc, hDc.weaken (fun _ _ _ _ => trivial), hE.warm hW, by rw [hU]; exact hZc.moved hW.alike⟩⟩ rfl rfl hl.1 rfl (lv_room (Nat.le_of_ble_eq_true rfl)) dL_law_4 ⟨Nat.le_of_ble_eq_true rfl, Nat.le_of_ble_eq_true rfl⟩) hS (fun q _ h => hFc q h) hFc (fun u t H1 locs ht hvm hw hB hz1 hk1 hS => ?_)
  clear hPc hDc hKc
  obtain ⟨n0, st, la, cN, hP1, hK1, hD1⟩ := hB
  rw [ht] at hP1
  have hK1 := va_K.moved hvm.symm hK1
  obtain ⟨hP, hD⟩ := va_join (wr := []) (w1 := [(q1, .inr (11, [.ref n0, .ref st, .ref la, .int 0, .int 0, .int 0, .int (-1), .int 0])), (n0, .inl (cN, 8, .inr (.inr (.inr (.inr (fun _ => none))))))]) hP hD [0] [] rfl rfl (by decide) (by decide) hk1 hFc hP1 hD1
  replace hK := hK.app hK1
  replace hK : va_K (dC, dI) vwCl [(cN, (.object RX4))] s := hK
  generalize H1 = H at hP hS ⊢
  replace hP : va_P (dC, dI) vwCl [(q1, .inr (11, [.ref n0, .ref st, .ref la, .int 0, .int 0, .int 0, .int (-1), .int 0])), (n0, .inl (cN, 8, .inr (.inr (.inr (.inr (fun _ => none))))))] H := hP
  replace hD : va_D (fun q : Nat => s.heap.size ≤ q) [(q1, .inr (11, [.ref n0, .ref st, .ref la, .int 0, .int 0, .int 0, .int (-1), .int 0])), (n0, .inl (cN, 8, .inr (.inr (.inr (.inr (fun _ => none))))))] := hD
  refine W.widen (k := 5) (n := 25) (Nat.le_of_ble_eq_true rfl) (Nat.le_of_ble_eq_true rfl) ?_
  refine lv_astore_n (lv' := [(1, .ref q1), (0, .ref b)]) hx hb dL_law_7 rfl hl (by decide) rfl (fun ls hl => ?_)
  refine va_new (ci := 12) (fs := [.int 0, .int 0, .null, .null, .null, .null, .null, .null, .null, .null, .null, .null, .null, .null, .null, .null, .null, .int 0, .int 0, .null, .null, .null, .null, .null, .null, .null, .null, .null, .null, .null, .null, .null, .null, .null, .null, .null, .null, .null, .null, .null, .null, .null, .null, .null, .null, .null, .int 0, .int 0, .int 0, .int 0, .int 0, .int 0, .int 0, .int 0, .null, .null, .null, .null, .null, .null, .int 0, .null, .null]) (C := RX11) (T := TX11) (N := 63) hx hb hts in_law_X11 tyX11 tyX11_ok hown (hts (.classLink RL 10 RX11) (List.mem_of_getElem? (i := 63) rfl)) (hts (.instantiable RX11 63) (List.mem_of_getElem? (i := 12) rfl)) (hts (.initialized RX11) (List.mem_of_getElem? (i := 64) rfl)) hK hP hD hS hA rfl df_X11 (Nat.le_of_ble_eq_true rfl) (Nat.le_of_ble_eq_true rfl) dL_law_8 (fun q3 H hP hD hS => ?_)
  replace hP : va_P (dC, dI) vwCl [(q1, .inr (11, [.ref n0, .ref st, .ref la, .int 0, .int 0, .int 0, .int (-1), .int 0])), (n0, .inl (cN, 8, .inr (.inr (.inr (.inr (fun _ => none)))))), (q3, .inr (12, [.int 0, .int 0, .null, .null, .null, .null, .null, .null, .null, .null, .null, .null, .null, .null, .null, .null, .null, .int 0, .int 0, .null, .null, .null, .null, .null, .null, .null, .null, .null, .null, .null, .null, .null, .null, .null, .null, .null, .null, .null, .null, .null, .null, .null, .null, .null, .null, .null, .int 0, .int 0, .int 0, .int 0, .int 0, .int 0, .int 0, .int 0, .null, .null, .null, .null, .null, .null, .int 0, .null, .null]))] H := hP
  replace hD : va_D (fun q : Nat => s.heap.size ≤ q) [(q1, .inr (11, [.ref n0, .ref st, .ref la, .int 0, .int 0, .int 0, .int (-1), .int 0])), (n0, .inl (cN, 8, .inr (.inr (.inr (.inr (fun _ => none)))))), (q3, .inr (12, [.int 0, .int 0, .null, .null, .null, .null, .null, .null, .null, .null, .null, .null, .null, .null, .null, .null, .null, .int 0, .int 0, .null, .null, .null, .null, .null, .null, .null, .null, .null, .null, .null, .null, .null, .null, .null, .null, .null, .null, .null, .null, .null, .null, .null, .null, .null, .null, .null, .int 0, .int 0, .int 0, .int 0, .int 0, .int 0, .int 0, .int 0, .null, .null, .null, .null, .null, .null, .int 0, .null, .null]))] := hD
  refine W.widen (k := 6) (n := 88) (Nat.le_of_ble_eq_true rfl) (Nat.le_of_ble_eq_true rfl) ?_
  refine lv_dup hx hb dL_law_11 rfl ?_
  have hPc := hP.sub (ws' := [(q3, .inr (12, [.int 0, .int 0, .null, .null, .null, .null, .null, .null, .null, .null, .null, .null, .null, .null, .null, .null, .null, .int 0, .int 0, .null, .null, .null, .null, .null, .null, .null, .null, .null, .null, .null, .null, .null, .null, .null, .null, .null, .null, .null, .null, .null, .null, .null, .null, .null, .null, .null, .int 0, .int 0, .int 0, .int 0, .int 0, .int 0, .int 0, .int 0, .null, .null, .null, .null, .null, .null, .int 0, .null, .null]))]) [2] rfl
  have hDc := hD.sub (ws' := [(q3, .inr (12, [.int 0, .int 0, .null, .null, .null, .null, .null, .null, .null, .null, .null, .null, .null, .null, .null, .null, .null, .int 0, .int 0, .null, .null, .null, .null, .null, .null, .null, .null, .null, .null, .null, .null, .null, .null, .null, .null, .null, .null, .null, .null, .null, .null, .null, .null, .null, .null, .null, .int 0, .int 0, .int 0, .int 0, .int 0, .int 0, .int 0, .int 0, .null, .null, .null, .null, .null, .null, .int 0, .null, .null]))]) [2] (by decide) rfl
  have hKc := hK.sub (tys' := []) [] rfl
  have hFc := va_free (wc := [(q3, .inr (12, [.int 0, .int 0, .null, .null, .null, .null, .null, .null, .null, .null, .null, .null, .null, .null, .null, .null, .null, .int 0, .int 0, .null, .null, .null, .null, .null, .null, .null, .null, .null, .null, .null, .null, .null, .null, .null, .null, .null, .null, .null, .null, .null, .null, .null, .null, .null, .null, .null, .int 0, .int 0, .int 0, .int 0, .int 0, .int 0, .int 0, .int 0, .null, .null, .null, .null, .null, .null, .int 0, .null, .null]))]) hD hS hA [2] rfl
  refine va_callv (va_runI (As := []) (rest := [.ref q3]) ⟨hx, hb, hml, hown, hts⟩ (c_X11_init l dC dI (q3) ([.int 0, .int 0, .null, .null, .null, .null, .null, .null, .null, .null, .null, .null, .null, .null, .null, .null, .null, .int 0, .int 0, .null, .null, .null, .null, .null, .null, .null, .null, .null, .null, .null, .null, .null, .null, .null, .null, .null, .null, .null, .null, .null, .null, .null, .null, .null, .null, .null, .int 0, .int 0, .int 0, .int 0, .int 0, .int 0, .int 0, .int 0, .null, .null, .null, .null, .null, .null, .int 0, .null, .null]) H.size (rfl) (rfl) (rfl) (rfl) (rfl) (rfl) (rfl) (rfl) (rfl)) (cwI 0 hts g_law_c_X11_init_12 rfl rfl rfl (hts (.initialized RX11) (List.mem_of_getElem? (i := 64) rfl)) (hts (.methodLink RL 12 yX11_init) (List.mem_of_getElem? (i := 125) rfl)) (hts (.instanceMethod yX11_init) (List.mem_of_getElem? (i := 126) rfl)) rfl (by decide +kernel) ⟨Nat.le_of_ble_eq_true rfl, Nat.le_of_ble_eq_true rfl⟩) ⟨fun a U g mk q => by obtain ⟨q0, q1, qP, qK, qD, qE⟩ := q; exact ⟨q0, q1, qP, va_K.moved (u := U) (U := U.calling g mk a) (Vm.Alike.refl U.vm) qK, qD, ev.same (u := U) (U := U.calling g mk a) rfl qE⟩, fun U hU hW => ⟨rfl, by rw [hU], by rw [hU]; exact hPc, va_K.moved hW.alike hKc, hDc.weaken (fun _ _ _ _ => trivial), hE.warm hW⟩⟩ rfl rfl hl.1 rfl (lv_room (Nat.le_of_ble_eq_true rfl)) dL_law_12 ⟨Nat.le_of_ble_eq_true rfl, Nat.le_of_ble_eq_true rfl⟩) hS (fun q _ h => hFc q h) hFc (fun u t H1 locs ht hvm hw hB hz1 hk1 hS => ?_)
  clear hPc hDc hKc
  obtain ⟨fs, a2, a3, a4, a5, a6, c2, c3, c4, c5, c6, hP1, hK1, hD1, hf0, hf1, hf2, hf3, hf4, hf5, hf6, hf46, hf47, hf48, hf49, hf50, hf51, hf52, hlen⟩ := hB
  rw [ht] at hP1
  have hK1 := va_K.moved hvm.symm hK1
  obtain ⟨hP, hD⟩ := va_join (wr := [(q1, .inr (11, [.ref n0, .ref st, .ref la, .int 0, .int 0, .int 0, .int (-1), .int 0])), (n0, .inl (cN, 8, .inr (.inr (.inr (.inr (fun _ => none))))))]) (w1 := [(q3, .inr (12, fs)), (a2, .inl (c2, 8, .inr (.inl (fun _ => 0)))), (a3, .inl (c3, 8, .inl (fun _ => 0))), (a4, .inl (c4, 8, .inl (fun _ => 0))), (a5, .inl (c5, 8, .inl (fun _ => 0))), (a6, .inl (c6, 8, .inl (fun _ => 0)))]) hP hD [2] [0, 1] rfl rfl (by decide) (by decide) hk1 hFc hP1 hD1
  replace hK := hK.app hK1
  replace hK : va_K (dC, dI) vwCl [(cN, (.object RX4)), (c2, .long), (c3, .int), (c4, .int), (c5, .boolean), (c6, .int)] s := hK
  generalize H1 = H at hP hS ⊢
  replace hP : va_P (dC, dI) vwCl [(q1, .inr (11, [.ref n0, .ref st, .ref la, .int 0, .int 0, .int 0, .int (-1), .int 0])), (n0, .inl (cN, 8, .inr (.inr (.inr (.inr (fun _ => none)))))), (q3, .inr (12, fs)), (a2, .inl (c2, 8, .inr (.inl (fun _ => 0)))), (a3, .inl (c3, 8, .inl (fun _ => 0))), (a4, .inl (c4, 8, .inl (fun _ => 0))), (a5, .inl (c5, 8, .inl (fun _ => 0))), (a6, .inl (c6, 8, .inl (fun _ => 0)))] H := hP
  replace hD : va_D (fun q : Nat => s.heap.size ≤ q) [(q1, .inr (11, [.ref n0, .ref st, .ref la, .int 0, .int 0, .int 0, .int (-1), .int 0])), (n0, .inl (cN, 8, .inr (.inr (.inr (.inr (fun _ => none)))))), (q3, .inr (12, fs)), (a2, .inl (c2, 8, .inr (.inl (fun _ => 0)))), (a3, .inl (c3, 8, .inl (fun _ => 0))), (a4, .inl (c4, 8, .inl (fun _ => 0))), (a5, .inl (c5, 8, .inl (fun _ => 0))), (a6, .inl (c6, 8, .inl (fun _ => 0)))] := hD
  refine W.widen (k := 56) (n := 1330088) (Nat.le_of_ble_eq_true rfl) (Nat.le_of_ble_eq_true rfl) ?_
  refine lv_astore_n (lv' := [(2, .ref q3), (1, .ref q1), (0, .ref b)]) hx hb dL_law_15 rfl hl (by decide) rfl (fun ls hl => ?_)
  refine lv_iconst (v := 0) hx hb dL_law_16 (by decide) ?_
  refine lv_istore_n (lv' := [(3, .int 0), (2, .ref q3), (1, .ref q1), (0, .ref b)]) hx hb dL_law_17 rfl hl (by decide) rfl (fun ls hl => ?_)
  refine lv_iload_n hx hb dL_law_18 rfl (lv_at hl 0 rfl) ?_
  refine lv_aload_n hx hb dL_law_19 rfl (lv_at hl 3 rfl) ?_
  refine va_slen hx hb hX hbl hbA hS dL_law_20 ?_
  refine lv_bipush (v := 6) hx hb dL_law_21 (by decide) ?_
  refine lv_isub hx hb dL_law_23 ?_
  refine lv_topi (fun x_5 ex_5 => ?_)
  refine lv_icmp_gt (tgt := 692) hx hb dL_law_24 (by decide) (fun c_6 => ?_) (fun c_6 => ?_)
  · refine lv_iconst (v := 1) hx hb dL_law_692 (by decide) ?_
    refine va_forget (fun q hq => hS.2.2 q hq) ?_
    refine W.widen (k := 600000) (n := 7302250) (Nat.le_of_ble_eq_true rfl) (Nat.le_of_ble_eq_true rfl) ?_
    exact lw_ret hx hb hr hlocks dL_law_693
  · obtain rfl : L = 6 := by
      rcases (by omega : L = 0 ∨ L = 1 ∨ L = 2 ∨ L = 3 ∨ L = 4 ∨ L = 5 ∨ L = 6) with rfl | rfl | rfl | rfl | rfl | rfl | rfl <;> first | rfl | exact absurd (show x_5 < 0 from by rw [ex_5]; decide) c_6
    refine lv_aload_n hx hb dL_law_27 rfl (lv_at hl 3 rfl) ?_
    refine lv_iload_n hx hb dL_law_28 rfl (lv_at hl 0 rfl) ?_
    refine va_sld hx hb hX hbl hbA hS (show ¬ ((0 : Int32) < 0 ∨ 6 ≤ (0 : Int32).toNatClampNeg) by decide) dL_law_29 ?_
    refine lv_bipush (v := 15) hx hb dL_law_30 (by decide) ?_
    refine lv_iand hx hb dL_law_32 ?_
    refine lv_topi (fun x_7 ex_7 => ?_)
    rcases (by omega : x_7.toInt < 0 ∨ x_7.toInt = 0 ∨ x_7.toInt = 1 ∨ x_7.toInt = 2 ∨ x_7.toInt = 3 ∨ x_7.toInt = 4 ∨ x_7.toInt = 5 ∨ x_7.toInt = 6 ∨ x_7.toInt = 7 ∨ x_7.toInt = 8 ∨ x_7.toInt = 9 ∨ x_7.toInt = 10 ∨ x_7.toInt = 11 ∨ x_7.toInt = 12 ∨ x_7.toInt = 13 ∨ x_7.toInt = 14 ∨ x_7.toInt = 15 ∨ 15 < x_7.toInt) with c_8 | c_8 | c_8 | c_8 | c_8 | c_8 | c_8 | c_8 | c_8 | c_8 | c_8 | c_8 | c_8 | c_8 | c_8 | c_8 | c_8 | c_8
    · refine lv_tableOut (tgt := 686) hx hb dL_law_33 (Or.inl c_8) (by decide) ?_
      refine lv_iinc (v := 6) (lv' := [(3, .int 6), (2, .ref q3), (1, .ref q1), (0, .ref b)]) hx hb dL_law_686 hl (k := 0) rfl (by decide) (by decide) rfl (fun ls hl => ?_)
      refine lv_goto (tgt := 18) hx hb dL_law_689 (by decide) ?_
      exact law_end hL C0 (Nat.le_of_ble_eq_true rfl) (Nat.le_of_ble_eq_true rfl) hS (lv_sub hl [0, 3] rfl)
    · obtain rfl : x_7 = 0 := Int32.toInt_inj.mp (c_8.trans (by decide))
      refine lv_tableIn (tgt := 112) hx hb dL_law_33 (by decide) (by decide) rfl (by decide) ?_
      refine lv_aload_n hx hb dL_law_112 rfl (lv_at hl 2 rfl) ?_
      refine lv_aload_n hx hb dL_law_113 rfl (lv_at hl 3 rfl) ?_
      refine lv_iload_n hx hb dL_law_114 rfl (lv_at hl 0 rfl) ?_
      refine lv_iconst (v := 1) hx hb dL_law_115 (by decide) ?_
      refine lv_iadd hx hb dL_law_116 ?_
      refine lv_topi (fun x_9 ex_9 => ?_)
      obtain rfl : x_9 = 1 := ex_9.trans (by decide)
      refine va_sld hx hb hX hbl hbA hS (show ¬ ((1 : Int32) < 0 ∨ 6 ≤ (1 : Int32).toNatClampNeg) by decide) dL_law_117 ?_
      refine lv_aload_n hx hb dL_law_118 rfl (lv_at hl 3 rfl) ?_
      refine lv_iload_n hx hb dL_law_119 rfl (lv_at hl 0 rfl) ?_
      refine lv_iconst (v := 2) hx hb dL_law_120 (by decide) ?_
      refine lv_iadd hx hb dL_law_121 ?_
      refine lv_topi (fun x_10 ex_10 => ?_)
      obtain rfl : x_10 = 2 := ex_10.trans (by decide)
      refine va_sld hx hb hX hbl hbA hS (show ¬ ((2 : Int32) < 0 ∨ 6 ≤ (2 : Int32).toNatClampNeg) by decide) dL_law_122 ?_
      refine lv_aload_n hx hb dL_law_123 rfl (lv_at hl 3 rfl) ?_
      refine lv_iload_n hx hb dL_law_124 rfl (lv_at hl 0 rfl) ?_
      refine lv_iconst (v := 3) hx hb dL_law_125 (by decide) ?_
      refine lv_iadd hx hb dL_law_126 ?_
      refine lv_topi (fun x_11 ex_11 => ?_)
      obtain rfl : x_11 = 3 := ex_11.trans (by decide)
      refine va_sld hx hb hX hbl hbA hS (show ¬ ((3 : Int32) < 0 ∨ 6 ≤ (3 : Int32).toNatClampNeg) by decide) dL_law_127 ?_
      refine lv_aload_n hx hb dL_law_128 rfl (lv_at hl 3 rfl) ?_
      refine lv_iload_n hx hb dL_law_129 rfl (lv_at hl 0 rfl) ?_
      refine lv_iconst (v := 4) hx hb dL_law_130 (by decide) ?_
      refine lv_iadd hx hb dL_law_131 ?_
      refine lv_topi (fun x_12 ex_12 => ?_)
      obtain rfl : x_12 = 4 := ex_12.trans (by decide)
      refine va_sld hx hb hX hbl hbA hS (show ¬ ((4 : Int32) < 0 ∨ 6 ≤ (4 : Int32).toNatClampNeg) by decide) dL_law_132 ?_
      refine lv_if_eq (tgt := 140) hx hb dL_law_133 (by decide) (fun c_13 => ?_) (fun c_13 => ?_)
      · refine lv_iconst (v := 0) hx hb dL_law_140 (by decide) ?_
        refine lv_aload_n hx hb dL_law_141 rfl (lv_at hl 3 rfl) ?_
        refine lv_iload_n hx hb dL_law_142 rfl (lv_at hl 0 rfl) ?_
        refine lv_iconst (v := 5) hx hb dL_law_143 (by decide) ?_
        refine lv_iadd hx hb dL_law_144 ?_
        refine lv_topi (fun x_14 ex_14 => ?_)
        obtain rfl : x_14 = 5 := ex_14.trans (by decide)
        refine va_sld hx hb hX hbl hbA hS (show ¬ ((5 : Int32) < 0 ∨ 6 ≤ (5 : Int32).toNatClampNeg) by decide) dL_law_145 ?_
        have hPc := hP.sub (ws' := [(q1, .inr (11, [.ref n0, .ref st, .ref la, .int 0, .int 0, .int 0, .int (-1), .int 0])), (n0, .inl (cN, 8, .inr (.inr (.inr (.inr (fun _ => none))))))]) [0, 1] rfl
        have hDc := hD.sub (ws' := [(q1, .inr (11, [.ref n0, .ref st, .ref la, .int 0, .int 0, .int 0, .int (-1), .int 0])), (n0, .inl (cN, 8, .inr (.inr (.inr (.inr (fun _ => none))))))]) [0, 1] (by decide) rfl
        have hKc := hK.sub (tys' := [(cN, (.object RX4))]) [0] rfl
        have hFc := va_free (wc := [(q1, .inr (11, [.ref n0, .ref st, .ref la, .int 0, .int 0, .int 0, .int (-1), .int 0])), (n0, .inl (cN, 8, .inr (.inr (.inr (.inr (fun _ => none))))))]) hD hS hA [0, 1] rfl
        have hZc := (w_zq hZ hS).narrow (fun q h => hFc q h)
        refine va_calli (va_runV (As := [.int (xs (Int32.toNatClampNeg 1)), .int (xs (Int32.toNatClampNeg 2)), .int (xs (Int32.toNatClampNeg 3)), .int 0, .int (xs (Int32.toNatClampNeg 5))]) (rest := []) ⟨hx, hb, hml, hown, hts⟩ (c_X10_node l dC dI (q1) (n0) (st) (la) (cN) ((xs (Int32.toNatClampNeg 1))) ((xs (Int32.toNatClampNeg 2))) ((xs (Int32.toNatClampNeg 3))) (0) ((xs (Int32.toNatClampNeg 5))) H.size (rfl) (rfl)) (cwV 5 hts g_law_c_X10_node_13 rfl rfl rfl (by decide +kernel) ⟨Nat.le_of_ble_eq_true rfl, Nat.le_of_ble_eq_true rfl⟩) ⟨fun a U g mk q => by obtain ⟨q0, q1, qP, qK, qD, qE, qZ⟩ := q; exact ⟨q0, q1, qP, va_K.moved (u := U) (U := U.calling g mk a) (Vm.Alike.refl U.vm) qK, qD, ev.same (u := U) (U := U.calling g mk a) rfl qE, va_Zq.moved (u := U) (U := U.calling g mk a) (Vm.Alike.refl U.vm) qZ⟩, va_recv hKc hPc (ci := 11) (q0 := 0) rfl rfl, fun U hU hW => ⟨rfl, by rw [hU], by rw [hU]; exact hPc, va_K.moved hW.alike hKc, hDc.weaken (fun _ _ _ _ => trivial), hE.warm hW, by rw [hU]; exact hZc.moved hW.alike⟩⟩ rfl rfl hl.1 rfl (lv_room (Nat.le_of_ble_eq_true rfl)) dL_law_146 ⟨Nat.le_of_ble_eq_true rfl, Nat.le_of_ble_eq_true rfl⟩) hS (fun q _ h => hFc q h) hFc (fun r_15 u t H1 locs ht hvm hw hB hz1 hk1 hS => ?_)
        clear hPc hDc hKc
        obtain ⟨hP, hD⟩ := va_join (wr := [(q3, .inr (12, fs)), (a2, .inl (c2, 8, .inr (.inl (fun _ => 0)))), (a3, .inl (c3, 8, .inl (fun _ => 0))), (a4, .inl (c4, 8, .inl (fun _ => 0))), (a5, .inl (c5, 8, .inl (fun _ => 0))), (a6, .inl (c6, 8, .inl (fun _ => 0)))]) (w1 := []) hP hD [0, 1] [2, 3, 4, 5, 6, 7] rfl rfl (by decide) (by decide) hk1 hFc p_nil d_nil
        generalize H1 = H at hP hS ⊢
        replace hP : va_P (dC, dI) vwCl [(q3, .inr (12, fs)), (a2, .inl (c2, 8, .inr (.inl (fun _ => 0)))), (a3, .inl (c3, 8, .inl (fun _ => 0))), (a4, .inl (c4, 8, .inl (fun _ => 0))), (a5, .inl (c5, 8, .inl (fun _ => 0))), (a6, .inl (c6, 8, .inl (fun _ => 0)))] H := hP
        replace hD : va_D (fun q : Nat => s.heap.size ≤ q) [(q3, .inr (12, fs)), (a2, .inl (c2, 8, .inr (.inl (fun _ => 0)))), (a3, .inl (c3, 8, .inl (fun _ => 0))), (a4, .inl (c4, 8, .inl (fun _ => 0))), (a5, .inl (c5, 8, .inl (fun _ => 0))), (a6, .inl (c6, 8, .inl (fun _ => 0)))] := hD
        refine W.widen (k := 68) (n := 1330489) (Nat.le_of_ble_eq_true rfl) (Nat.le_of_ble_eq_true rfl) ?_
        have er_15 := hw
        clear hw
        refine lv_aload_n hx hb dL_law_149 rfl (lv_at hl 1 rfl) ?_
        refine lv_aload_n hx hb dL_law_150 rfl (lv_at hl 3 rfl) ?_
        refine lv_iload_n hx hb dL_law_151 rfl (lv_at hl 0 rfl) ?_
        refine lv_iconst (v := 1) hx hb dL_law_152 (by decide) ?_
        refine lv_iadd hx hb dL_law_153 ?_
        refine lv_topi (fun x_16 ex_16 => ?_)
        obtain rfl : x_16 = 1 := ex_16.trans (by decide)
        refine va_sld hx hb hX hbl hbA hS (show ¬ ((1 : Int32) < 0 ∨ 6 ≤ (1 : Int32).toNatClampNeg) by decide) dL_law_154 ?_
        refine lv_aload_n hx hb dL_law_155 rfl (lv_at hl 3 rfl) ?_
        refine lv_iload_n hx hb dL_law_156 rfl (lv_at hl 0 rfl) ?_
        refine lv_iconst (v := 2) hx hb dL_law_157 (by decide) ?_
        refine lv_iadd hx hb dL_law_158 ?_
        refine lv_topi (fun x_17 ex_17 => ?_)
        obtain rfl : x_17 = 2 := ex_17.trans (by decide)
        refine va_sld hx hb hX hbl hbA hS (show ¬ ((2 : Int32) < 0 ∨ 6 ≤ (2 : Int32).toNatClampNeg) by decide) dL_law_159 ?_
        refine lv_aload_n hx hb dL_law_160 rfl (lv_at hl 3 rfl) ?_
        refine lv_iload_n hx hb dL_law_161 rfl (lv_at hl 0 rfl) ?_
        refine lv_iconst (v := 3) hx hb dL_law_162 (by decide) ?_
        refine lv_iadd hx hb dL_law_163 ?_
        refine lv_topi (fun x_18 ex_18 => ?_)
        obtain rfl : x_18 = 3 := ex_18.trans (by decide)
        refine va_sld hx hb hX hbl hbA hS (show ¬ ((3 : Int32) < 0 ∨ 6 ≤ (3 : Int32).toNatClampNeg) by decide) dL_law_164 ?_
        refine lv_aload_n hx hb dL_law_165 rfl (lv_at hl 3 rfl) ?_
        refine lv_iload_n hx hb dL_law_166 rfl (lv_at hl 0 rfl) ?_
        refine lv_iconst (v := 4) hx hb dL_law_167 (by decide) ?_
        refine lv_iadd hx hb dL_law_168 ?_
        refine lv_topi (fun x_19 ex_19 => ?_)
        obtain rfl : x_19 = 4 := ex_19.trans (by decide)
        refine va_sld hx hb hX hbl hbA hS (show ¬ ((4 : Int32) < 0 ∨ 6 ≤ (4 : Int32).toNatClampNeg) by decide) dL_law_169 ?_
        refine lv_if_eq (tgt := 177) hx hb dL_law_170 (by decide) (fun c_20 => ?_) (fun c_20 => ?_)
        rotate_left
        · exact absurd c_13 c_20
        refine lv_iconst (v := 0) hx hb dL_law_177 (by decide) ?_
        refine lv_aload_n hx hb dL_law_178 rfl (lv_at hl 3 rfl) ?_
        refine lv_iload_n hx hb dL_law_179 rfl (lv_at hl 0 rfl) ?_
        refine lv_iconst (v := 5) hx hb dL_law_180 (by decide) ?_
        refine lv_iadd hx hb dL_law_181 ?_
        refine lv_topi (fun x_21 ex_21 => ?_)
        obtain rfl : x_21 = 5 := ex_21.trans (by decide)
        refine va_sld hx hb hX hbl hbA hS (show ¬ ((5 : Int32) < 0 ∨ 6 ≤ (5 : Int32).toNatClampNeg) by decide) dL_law_182 ?_
        have hPc := hP.sub (ws' := [(q3, .inr (12, fs)), (a2, .inl (c2, 8, .inr (.inl (fun _ => 0)))), (a3, .inl (c3, 8, .inl (fun _ => 0))), (a4, .inl (c4, 8, .inl (fun _ => 0))), (a5, .inl (c5, 8, .inl (fun _ => 0))), (a6, .inl (c6, 8, .inl (fun _ => 0)))]) [0, 1, 2, 3, 4, 5] rfl
        have hDc := hD.sub (ws' := [(q3, .inr (12, fs)), (a2, .inl (c2, 8, .inr (.inl (fun _ => 0)))), (a3, .inl (c3, 8, .inl (fun _ => 0))), (a4, .inl (c4, 8, .inl (fun _ => 0))), (a5, .inl (c5, 8, .inl (fun _ => 0))), (a6, .inl (c6, 8, .inl (fun _ => 0)))]) [0, 1, 2, 3, 4, 5] (by decide) rfl
        have hKc := hK.sub (tys' := [(c2, .long), (c3, .int), (c4, .int), (c5, .boolean), (c6, .int)]) [1, 2, 3, 4, 5] rfl
        have hFc := va_free (wc := [(q3, .inr (12, fs)), (a2, .inl (c2, 8, .inr (.inl (fun _ => 0)))), (a3, .inl (c3, 8, .inl (fun _ => 0))), (a4, .inl (c4, 8, .inl (fun _ => 0))), (a5, .inl (c5, 8, .inl (fun _ => 0))), (a6, .inl (c6, 8, .inl (fun _ => 0)))]) hD hS hA [0, 1, 2, 3, 4, 5] rfl
        refine va_calli (va_runV (As := [.int (xs (Int32.toNatClampNeg 1)), .int (xs (Int32.toNatClampNeg 2)), .int (xs (Int32.toNatClampNeg 3)), .int 0, .int (xs (Int32.toNatClampNeg 5))]) (rest := [.int r_15]) ⟨hx, hb, hml, hown, hts⟩ (c_X11_node l dC dI (q3) (fs) (a2) (a3) (a4) (a5) (a6) (c2) (c3) (c4) (c5) (c6) ((fun _ => 0)) ((fun _ => 0)) ((fun _ => 0)) ((fun _ => 0)) ((fun _ => 0)) ((xs (Int32.toNatClampNeg 1))) ((xs (Int32.toNatClampNeg 2))) ((xs (Int32.toNatClampNeg 3))) (0) ((xs (Int32.toNatClampNeg 5))) H.size (hf0) (hf2) (hf3) (hf4) (hf5) (hf6) ((by rw [hlen]; decide))) (cwV 5 hts g_law_c_X11_node_17 rfl rfl rfl (by decide +kernel) ⟨Nat.le_of_ble_eq_true rfl, Nat.le_of_ble_eq_true rfl⟩) ⟨fun a U g mk q => by obtain ⟨q0, q1, qP, qK, qD, qE⟩ := q; exact ⟨q0, q1, qP, va_K.moved (u := U) (U := U.calling g mk a) (Vm.Alike.refl U.vm) qK, qD, ev.same (u := U) (U := U.calling g mk a) rfl qE⟩, va_recv hKc hPc (ci := 12) (q0 := 0) rfl rfl, fun U hU hW => ⟨rfl, by rw [hU], by rw [hU]; exact hPc, va_K.moved hW.alike hKc, hDc.weaken (fun _ _ _ _ => trivial), hE.warm hW⟩⟩ rfl rfl hl.1 rfl (lv_room (Nat.le_of_ble_eq_true rfl)) dL_law_183 ⟨Nat.le_of_ble_eq_true rfl, Nat.le_of_ble_eq_true rfl⟩) hS (fun q _ h => hFc q h) hFc (fun r_22 u t H1 locs ht hvm hw hB hz1 hk1 hS => ?_)
        clear hPc hDc hKc
        obtain ⟨hP, hD⟩ := va_join (wr := []) (w1 := []) hP hD [0, 1, 2, 3, 4, 5] [] rfl rfl (by decide) (by decide) hk1 hFc p_nil d_nil
        generalize H1 = H at hP hS ⊢
        replace hP : va_P (dC, dI) vwCl [] H := hP
        replace hD : va_D (fun q : Nat => s.heap.size ≤ q) [] := hD
        have er_22 := hw
        clear hw
        refine lv_icmp_eq (tgt := 686) hx hb dL_law_186 (by decide) (fun c_23 => ?_) (fun c_23 => ?_)
        rotate_left
        · exact absurd (er_15.trans er_22.symm) c_23
        refine lv_iinc (v := 6) (lv' := [(3, .int 6), (2, .ref q3), (1, .ref q1), (0, .ref b)]) hx hb dL_law_686 hl (k := 0) rfl (by decide) (by decide) rfl (fun ls hl => ?_)
        refine lv_goto (tgt := 18) hx hb dL_law_689 (by decide) ?_
        exact law_end hL C0 (Nat.le_of_ble_eq_true rfl) (Nat.le_of_ble_eq_true rfl) hS (lv_sub hl [0, 3] rfl)
      · refine lv_iconst (v := 1) hx hb dL_law_136 (by decide) ?_
        refine lv_goto (tgt := 141) hx hb dL_law_137 (by decide) ?_
        refine lv_aload_n hx hb dL_law_141 rfl (lv_at hl 3 rfl) ?_
        refine lv_iload_n hx hb dL_law_142 rfl (lv_at hl 0 rfl) ?_
        refine lv_iconst (v := 5) hx hb dL_law_143 (by decide) ?_
        refine lv_iadd hx hb dL_law_144 ?_
        refine lv_topi (fun x_24 ex_24 => ?_)
        obtain rfl : x_24 = 5 := ex_24.trans (by decide)
        refine va_sld hx hb hX hbl hbA hS (show ¬ ((5 : Int32) < 0 ∨ 6 ≤ (5 : Int32).toNatClampNeg) by decide) dL_law_145 ?_
        have hPc := hP.sub (ws' := [(q1, .inr (11, [.ref n0, .ref st, .ref la, .int 0, .int 0, .int 0, .int (-1), .int 0])), (n0, .inl (cN, 8, .inr (.inr (.inr (.inr (fun _ => none))))))]) [0, 1] rfl
        have hDc := hD.sub (ws' := [(q1, .inr (11, [.ref n0, .ref st, .ref la, .int 0, .int 0, .int 0, .int (-1), .int 0])), (n0, .inl (cN, 8, .inr (.inr (.inr (.inr (fun _ => none))))))]) [0, 1] (by decide) rfl
        have hKc := hK.sub (tys' := [(cN, (.object RX4))]) [0] rfl
        have hFc := va_free (wc := [(q1, .inr (11, [.ref n0, .ref st, .ref la, .int 0, .int 0, .int 0, .int (-1), .int 0])), (n0, .inl (cN, 8, .inr (.inr (.inr (.inr (fun _ => none))))))]) hD hS hA [0, 1] rfl
        have hZc := (w_zq hZ hS).narrow (fun q h => hFc q h)
        refine va_calli (va_runV (As := [.int (xs (Int32.toNatClampNeg 1)), .int (xs (Int32.toNatClampNeg 2)), .int (xs (Int32.toNatClampNeg 3)), .int 1, .int (xs (Int32.toNatClampNeg 5))]) (rest := []) ⟨hx, hb, hml, hown, hts⟩ (c_X10_node l dC dI (q1) (n0) (st) (la) (cN) ((xs (Int32.toNatClampNeg 1))) ((xs (Int32.toNatClampNeg 2))) ((xs (Int32.toNatClampNeg 3))) (1) ((xs (Int32.toNatClampNeg 5))) H.size (rfl) (rfl)) (cwV 5 hts g_law_c_X10_node_13 rfl rfl rfl (by decide +kernel) ⟨Nat.le_of_ble_eq_true rfl, Nat.le_of_ble_eq_true rfl⟩) ⟨fun a U g mk q => by obtain ⟨q0, q1, qP, qK, qD, qE, qZ⟩ := q; exact ⟨q0, q1, qP, va_K.moved (u := U) (U := U.calling g mk a) (Vm.Alike.refl U.vm) qK, qD, ev.same (u := U) (U := U.calling g mk a) rfl qE, va_Zq.moved (u := U) (U := U.calling g mk a) (Vm.Alike.refl U.vm) qZ⟩, va_recv hKc hPc (ci := 11) (q0 := 0) rfl rfl, fun U hU hW => ⟨rfl, by rw [hU], by rw [hU]; exact hPc, va_K.moved hW.alike hKc, hDc.weaken (fun _ _ _ _ => trivial), hE.warm hW, by rw [hU]; exact hZc.moved hW.alike⟩⟩ rfl rfl hl.1 rfl (lv_room (Nat.le_of_ble_eq_true rfl)) dL_law_146 ⟨Nat.le_of_ble_eq_true rfl, Nat.le_of_ble_eq_true rfl⟩) hS (fun q _ h => hFc q h) hFc (fun r_25 u t H1 locs ht hvm hw hB hz1 hk1 hS => ?_)
        clear hPc hDc hKc
        obtain ⟨hP, hD⟩ := va_join (wr := [(q3, .inr (12, fs)), (a2, .inl (c2, 8, .inr (.inl (fun _ => 0)))), (a3, .inl (c3, 8, .inl (fun _ => 0))), (a4, .inl (c4, 8, .inl (fun _ => 0))), (a5, .inl (c5, 8, .inl (fun _ => 0))), (a6, .inl (c6, 8, .inl (fun _ => 0)))]) (w1 := []) hP hD [0, 1] [2, 3, 4, 5, 6, 7] rfl rfl (by decide) (by decide) hk1 hFc p_nil d_nil
        generalize H1 = H at hP hS ⊢
        replace hP : va_P (dC, dI) vwCl [(q3, .inr (12, fs)), (a2, .inl (c2, 8, .inr (.inl (fun _ => 0)))), (a3, .inl (c3, 8, .inl (fun _ => 0))), (a4, .inl (c4, 8, .inl (fun _ => 0))), (a5, .inl (c5, 8, .inl (fun _ => 0))), (a6, .inl (c6, 8, .inl (fun _ => 0)))] H := hP
        replace hD : va_D (fun q : Nat => s.heap.size ≤ q) [(q3, .inr (12, fs)), (a2, .inl (c2, 8, .inr (.inl (fun _ => 0)))), (a3, .inl (c3, 8, .inl (fun _ => 0))), (a4, .inl (c4, 8, .inl (fun _ => 0))), (a5, .inl (c5, 8, .inl (fun _ => 0))), (a6, .inl (c6, 8, .inl (fun _ => 0)))] := hD
        refine W.widen (k := 68) (n := 1330489) (Nat.le_of_ble_eq_true rfl) (Nat.le_of_ble_eq_true rfl) ?_
        have er_25 := hw
        clear hw
        refine lv_aload_n hx hb dL_law_149 rfl (lv_at hl 1 rfl) ?_
        refine lv_aload_n hx hb dL_law_150 rfl (lv_at hl 3 rfl) ?_
        refine lv_iload_n hx hb dL_law_151 rfl (lv_at hl 0 rfl) ?_
        refine lv_iconst (v := 1) hx hb dL_law_152 (by decide) ?_
        refine lv_iadd hx hb dL_law_153 ?_
        refine lv_topi (fun x_26 ex_26 => ?_)
        obtain rfl : x_26 = 1 := ex_26.trans (by decide)
        refine va_sld hx hb hX hbl hbA hS (show ¬ ((1 : Int32) < 0 ∨ 6 ≤ (1 : Int32).toNatClampNeg) by decide) dL_law_154 ?_
        refine lv_aload_n hx hb dL_law_155 rfl (lv_at hl 3 rfl) ?_
        refine lv_iload_n hx hb dL_law_156 rfl (lv_at hl 0 rfl) ?_
        refine lv_iconst (v := 2) hx hb dL_law_157 (by decide) ?_
        refine lv_iadd hx hb dL_law_158 ?_
        refine lv_topi (fun x_27 ex_27 => ?_)
        obtain rfl : x_27 = 2 := ex_27.trans (by decide)
        refine va_sld hx hb hX hbl hbA hS (show ¬ ((2 : Int32) < 0 ∨ 6 ≤ (2 : Int32).toNatClampNeg) by decide) dL_law_159 ?_
        refine lv_aload_n hx hb dL_law_160 rfl (lv_at hl 3 rfl) ?_
        refine lv_iload_n hx hb dL_law_161 rfl (lv_at hl 0 rfl) ?_
        refine lv_iconst (v := 3) hx hb dL_law_162 (by decide) ?_
        refine lv_iadd hx hb dL_law_163 ?_
        refine lv_topi (fun x_28 ex_28 => ?_)
        obtain rfl : x_28 = 3 := ex_28.trans (by decide)
        refine va_sld hx hb hX hbl hbA hS (show ¬ ((3 : Int32) < 0 ∨ 6 ≤ (3 : Int32).toNatClampNeg) by decide) dL_law_164 ?_
        refine lv_aload_n hx hb dL_law_165 rfl (lv_at hl 3 rfl) ?_
        refine lv_iload_n hx hb dL_law_166 rfl (lv_at hl 0 rfl) ?_
        refine lv_iconst (v := 4) hx hb dL_law_167 (by decide) ?_
        refine lv_iadd hx hb dL_law_168 ?_
        refine lv_topi (fun x_29 ex_29 => ?_)
        obtain rfl : x_29 = 4 := ex_29.trans (by decide)
        refine va_sld hx hb hX hbl hbA hS (show ¬ ((4 : Int32) < 0 ∨ 6 ≤ (4 : Int32).toNatClampNeg) by decide) dL_law_169 ?_
        refine lv_if_eq (tgt := 177) hx hb dL_law_170 (by decide) (fun c_30 => ?_) (fun c_30 => ?_)
        · exact absurd c_30 c_13
        refine lv_iconst (v := 1) hx hb dL_law_173 (by decide) ?_
        refine lv_goto (tgt := 178) hx hb dL_law_174 (by decide) ?_
        refine lv_aload_n hx hb dL_law_178 rfl (lv_at hl 3 rfl) ?_
        refine lv_iload_n hx hb dL_law_179 rfl (lv_at hl 0 rfl) ?_
        refine lv_iconst (v := 5) hx hb dL_law_180 (by decide) ?_
        refine lv_iadd hx hb dL_law_181 ?_
        refine lv_topi (fun x_31 ex_31 => ?_)
        obtain rfl : x_31 = 5 := ex_31.trans (by decide)
        refine va_sld hx hb hX hbl hbA hS (show ¬ ((5 : Int32) < 0 ∨ 6 ≤ (5 : Int32).toNatClampNeg) by decide) dL_law_182 ?_
        have hPc := hP.sub (ws' := [(q3, .inr (12, fs)), (a2, .inl (c2, 8, .inr (.inl (fun _ => 0)))), (a3, .inl (c3, 8, .inl (fun _ => 0))), (a4, .inl (c4, 8, .inl (fun _ => 0))), (a5, .inl (c5, 8, .inl (fun _ => 0))), (a6, .inl (c6, 8, .inl (fun _ => 0)))]) [0, 1, 2, 3, 4, 5] rfl
        have hDc := hD.sub (ws' := [(q3, .inr (12, fs)), (a2, .inl (c2, 8, .inr (.inl (fun _ => 0)))), (a3, .inl (c3, 8, .inl (fun _ => 0))), (a4, .inl (c4, 8, .inl (fun _ => 0))), (a5, .inl (c5, 8, .inl (fun _ => 0))), (a6, .inl (c6, 8, .inl (fun _ => 0)))]) [0, 1, 2, 3, 4, 5] (by decide) rfl
        have hKc := hK.sub (tys' := [(c2, .long), (c3, .int), (c4, .int), (c5, .boolean), (c6, .int)]) [1, 2, 3, 4, 5] rfl
        have hFc := va_free (wc := [(q3, .inr (12, fs)), (a2, .inl (c2, 8, .inr (.inl (fun _ => 0)))), (a3, .inl (c3, 8, .inl (fun _ => 0))), (a4, .inl (c4, 8, .inl (fun _ => 0))), (a5, .inl (c5, 8, .inl (fun _ => 0))), (a6, .inl (c6, 8, .inl (fun _ => 0)))]) hD hS hA [0, 1, 2, 3, 4, 5] rfl
        refine va_calli (va_runV (As := [.int (xs (Int32.toNatClampNeg 1)), .int (xs (Int32.toNatClampNeg 2)), .int (xs (Int32.toNatClampNeg 3)), .int 1, .int (xs (Int32.toNatClampNeg 5))]) (rest := [.int r_25]) ⟨hx, hb, hml, hown, hts⟩ (c_X11_node l dC dI (q3) (fs) (a2) (a3) (a4) (a5) (a6) (c2) (c3) (c4) (c5) (c6) ((fun _ => 0)) ((fun _ => 0)) ((fun _ => 0)) ((fun _ => 0)) ((fun _ => 0)) ((xs (Int32.toNatClampNeg 1))) ((xs (Int32.toNatClampNeg 2))) ((xs (Int32.toNatClampNeg 3))) (1) ((xs (Int32.toNatClampNeg 5))) H.size (hf0) (hf2) (hf3) (hf4) (hf5) (hf6) ((by rw [hlen]; decide))) (cwV 5 hts g_law_c_X11_node_17 rfl rfl rfl (by decide +kernel) ⟨Nat.le_of_ble_eq_true rfl, Nat.le_of_ble_eq_true rfl⟩) ⟨fun a U g mk q => by obtain ⟨q0, q1, qP, qK, qD, qE⟩ := q; exact ⟨q0, q1, qP, va_K.moved (u := U) (U := U.calling g mk a) (Vm.Alike.refl U.vm) qK, qD, ev.same (u := U) (U := U.calling g mk a) rfl qE⟩, va_recv hKc hPc (ci := 12) (q0 := 0) rfl rfl, fun U hU hW => ⟨rfl, by rw [hU], by rw [hU]; exact hPc, va_K.moved hW.alike hKc, hDc.weaken (fun _ _ _ _ => trivial), hE.warm hW⟩⟩ rfl rfl hl.1 rfl (lv_room (Nat.le_of_ble_eq_true rfl)) dL_law_183 ⟨Nat.le_of_ble_eq_true rfl, Nat.le_of_ble_eq_true rfl⟩) hS (fun q _ h => hFc q h) hFc (fun r_32 u t H1 locs ht hvm hw hB hz1 hk1 hS => ?_)
        clear hPc hDc hKc
        obtain ⟨hP, hD⟩ := va_join (wr := []) (w1 := []) hP hD [0, 1, 2, 3, 4, 5] [] rfl rfl (by decide) (by decide) hk1 hFc p_nil d_nil
        generalize H1 = H at hP hS ⊢
        replace hP : va_P (dC, dI) vwCl [] H := hP
        replace hD : va_D (fun q : Nat => s.heap.size ≤ q) [] := hD
        have er_32 := hw
        clear hw
        refine lv_icmp_eq (tgt := 686) hx hb dL_law_186 (by decide) (fun c_33 => ?_) (fun c_33 => ?_)
        rotate_left
        · exact absurd (er_25.trans er_32.symm) c_33
        refine lv_iinc (v := 6) (lv' := [(3, .int 6), (2, .ref q3), (1, .ref q1), (0, .ref b)]) hx hb dL_law_686 hl (k := 0) rfl (by decide) (by decide) rfl (fun ls hl => ?_)
        refine lv_goto (tgt := 18) hx hb dL_law_689 (by decide) ?_
        exact law_end hL C0 (Nat.le_of_ble_eq_true rfl) (Nat.le_of_ble_eq_true rfl) hS (lv_sub hl [0, 3] rfl)
    · obtain rfl : x_7 = 1 := Int32.toInt_inj.mp (c_8.trans (by decide))
      refine lv_tableIn (tgt := 191) hx hb dL_law_33 (by decide) (by decide) rfl (by decide) ?_
      refine lv_aload_n hx hb dL_law_191 rfl (lv_at hl 2 rfl) ?_
      refine lv_aload_n hx hb dL_law_192 rfl (lv_at hl 3 rfl) ?_
      refine lv_iload_n hx hb dL_law_193 rfl (lv_at hl 0 rfl) ?_
      refine lv_iconst (v := 1) hx hb dL_law_194 (by decide) ?_
      refine lv_iadd hx hb dL_law_195 ?_
      refine lv_topi (fun x_34 ex_34 => ?_)
      obtain rfl : x_34 = 1 := ex_34.trans (by decide)
      refine va_sld hx hb hX hbl hbA hS (show ¬ ((1 : Int32) < 0 ∨ 6 ≤ (1 : Int32).toNatClampNeg) by decide) dL_law_196 ?_
      have hPc := hP.sub (ws' := [(q1, .inr (11, [.ref n0, .ref st, .ref la, .int 0, .int 0, .int 0, .int (-1), .int 0]))]) [0] rfl
      have hDc := hD.sub (ws' := [(q1, .inr (11, [.ref n0, .ref st, .ref la, .int 0, .int 0, .int 0, .int (-1), .int 0]))]) [0] (by decide) rfl
      have hKc := hK.sub (tys' := []) [] rfl
      have hFc := ro_free hS hA
      refine va_calli (va_runV (As := [.int (xs (Int32.toNatClampNeg 1))]) (rest := []) ⟨hx, hb, hml, hown, hts⟩ (c_X10_start l dC dI (q1) (n0) (st) (la) (0) ((xs (Int32.toNatClampNeg 1))) H.size) (cwV 1 hts g_law_c_X10_start_18 rfl rfl rfl (by decide +kernel) ⟨Nat.le_of_ble_eq_true rfl, Nat.le_of_ble_eq_true rfl⟩) ⟨fun a U g mk q => by obtain ⟨q0, q1, qP, qK, qD, qE⟩ := q; exact ⟨q0, q1, qP, va_K.moved (u := U) (U := U.calling g mk a) (Vm.Alike.refl U.vm) qK, qD, ev.same (u := U) (U := U.calling g mk a) rfl qE⟩, va_recv hKc hPc (ci := 11) (q0 := 0) rfl rfl, fun U hU hW => ⟨rfl, by rw [hU], by rw [hU]; exact hPc, va_K.moved hW.alike hKc, hDc.weaken (fun _ _ _ _ => trivial), hE.warm hW⟩⟩ rfl rfl hl.1 rfl (lv_room (Nat.le_of_ble_eq_true rfl)) dL_law_197 ⟨Nat.le_of_ble_eq_true rfl, Nat.le_of_ble_eq_true rfl⟩) hS (fun q _ h => hFc q h) hFc (fun r_35 u t H1 locs ht hvm hw hB hz1 hk1 hS => ?_)
      clear hPc hDc hKc
      replace hP := ro_keep hP hk1
      generalize H1 = H at hP hS ⊢
      replace hP : va_P (dC, dI) vwCl [(q1, .inr (11, [.ref n0, .ref st, .ref la, .int 0, .int 0, .int 0, .int (-1), .int 0])), (n0, .inl (cN, 8, .inr (.inr (.inr (.inr (fun _ => none)))))), (q3, .inr (12, fs)), (a2, .inl (c2, 8, .inr (.inl (fun _ => 0)))), (a3, .inl (c3, 8, .inl (fun _ => 0))), (a4, .inl (c4, 8, .inl (fun _ => 0))), (a5, .inl (c5, 8, .inl (fun _ => 0))), (a6, .inl (c6, 8, .inl (fun _ => 0)))] H := hP
      have hw := hw.symm
      subst hw
      refine lv_aload_n hx hb dL_law_200 rfl (lv_at hl 1 rfl) ?_
      refine lv_aload_n hx hb dL_law_201 rfl (lv_at hl 3 rfl) ?_
      refine lv_iload_n hx hb dL_law_202 rfl (lv_at hl 0 rfl) ?_
      refine lv_iconst (v := 1) hx hb dL_law_203 (by decide) ?_
      refine lv_iadd hx hb dL_law_204 ?_
      refine lv_topi (fun x_36 ex_36 => ?_)
      obtain rfl : x_36 = 1 := ex_36.trans (by decide)
      refine va_sld hx hb hX hbl hbA hS (show ¬ ((1 : Int32) < 0 ∨ 6 ≤ (1 : Int32).toNatClampNeg) by decide) dL_law_205 ?_
      have hPc := hP.sub (ws' := [(q3, .inr (12, fs))]) [2] rfl
      have hDc := hD.sub (ws' := [(q3, .inr (12, fs))]) [2] (by decide) rfl
      have hKc := hK.sub (tys' := []) [] rfl
      have hFc := ro_free hS hA
      refine va_calli (va_runV (As := [.int (xs (Int32.toNatClampNeg 1))]) (rest := [.int 0]) ⟨hx, hb, hml, hown, hts⟩ (c_X11_start l dC dI (q3) (fs) ((xs (Int32.toNatClampNeg 1))) H.size (hf0)) (cwV 1 hts g_law_c_X11_start_22 rfl rfl rfl (by decide +kernel) ⟨Nat.le_of_ble_eq_true rfl, Nat.le_of_ble_eq_true rfl⟩) ⟨fun a U g mk q => by obtain ⟨q0, q1, qP, qK, qD, qE⟩ := q; exact ⟨q0, q1, qP, va_K.moved (u := U) (U := U.calling g mk a) (Vm.Alike.refl U.vm) qK, qD, ev.same (u := U) (U := U.calling g mk a) rfl qE⟩, va_recv hKc hPc (ci := 12) (q0 := 0) rfl rfl, fun U hU hW => ⟨rfl, by rw [hU], by rw [hU]; exact hPc, va_K.moved hW.alike hKc, hDc.weaken (fun _ _ _ _ => trivial), hE.warm hW⟩⟩ rfl rfl hl.1 rfl (lv_room (Nat.le_of_ble_eq_true rfl)) dL_law_206 ⟨Nat.le_of_ble_eq_true rfl, Nat.le_of_ble_eq_true rfl⟩) hS (fun q _ h => hFc q h) hFc (fun r_37 u t H1 locs ht hvm hw hB hz1 hk1 hS => ?_)
      clear hPc hDc hKc
      replace hP := ro_keep hP hk1
      generalize H1 = H at hP hS ⊢
      replace hP : va_P (dC, dI) vwCl [(q1, .inr (11, [.ref n0, .ref st, .ref la, .int 0, .int 0, .int 0, .int (-1), .int 0])), (n0, .inl (cN, 8, .inr (.inr (.inr (.inr (fun _ => none)))))), (q3, .inr (12, fs)), (a2, .inl (c2, 8, .inr (.inl (fun _ => 0)))), (a3, .inl (c3, 8, .inl (fun _ => 0))), (a4, .inl (c4, 8, .inl (fun _ => 0))), (a5, .inl (c5, 8, .inl (fun _ => 0))), (a6, .inl (c6, 8, .inl (fun _ => 0)))] H := hP
      have hw := hw.symm
      subst hw
      refine lv_icmp_eq (tgt := 686) hx hb dL_law_209 (by decide) (fun c_38 => ?_) (fun c_38 => ?_)
      rotate_left
      · exact absurd (by decide) c_38
      refine lv_iinc (v := 6) (lv' := [(3, .int 6), (2, .ref q3), (1, .ref q1), (0, .ref b)]) hx hb dL_law_686 hl (k := 0) rfl (by decide) (by decide) rfl (fun ls hl => ?_)
      refine lv_goto (tgt := 18) hx hb dL_law_689 (by decide) ?_
      exact law_end hL C0 (Nat.le_of_ble_eq_true rfl) (Nat.le_of_ble_eq_true rfl) hS (lv_sub hl [0, 3] rfl)
    · obtain rfl : x_7 = 2 := Int32.toInt_inj.mp (c_8.trans (by decide))
      refine lv_tableIn (tgt := 214) hx hb dL_law_33 (by decide) (by decide) rfl (by decide) ?_
      refine lv_aload_n hx hb dL_law_214 rfl (lv_at hl 2 rfl) ?_
      refine lv_aload_n hx hb dL_law_215 rfl (lv_at hl 3 rfl) ?_
      refine lv_iload_n hx hb dL_law_216 rfl (lv_at hl 0 rfl) ?_
      refine lv_iconst (v := 1) hx hb dL_law_217 (by decide) ?_
      refine lv_iadd hx hb dL_law_218 ?_
      refine lv_topi (fun x_39 ex_39 => ?_)
      obtain rfl : x_39 = 1 := ex_39.trans (by decide)
      refine va_sld hx hb hX hbl hbA hS (show ¬ ((1 : Int32) < 0 ∨ 6 ≤ (1 : Int32).toNatClampNeg) by decide) dL_law_219 ?_
      have hPc := hP.sub (ws' := [(q1, .inr (11, [.ref n0, .ref st, .ref la, .int 0, .int 0, .int 0, .int (-1), .int 0]))]) [0] rfl
      have hDc := hD.sub (ws' := [(q1, .inr (11, [.ref n0, .ref st, .ref la, .int 0, .int 0, .int 0, .int (-1), .int 0]))]) [0] (by decide) rfl
      have hKc := hK.sub (tys' := []) [] rfl
      have hFc := ro_free hS hA
      refine va_calli (va_runV (As := [.int (xs (Int32.toNatClampNeg 1))]) (rest := []) ⟨hx, hb, hml, hown, hts⟩ (c_X10_stop l dC dI (q1) (n0) (st) (la) (0) ((xs (Int32.toNatClampNeg 1))) H.size) (cwV 1 hts g_law_c_X10_stop_23 rfl rfl rfl (by decide +kernel) ⟨Nat.le_of_ble_eq_true rfl, Nat.le_of_ble_eq_true rfl⟩) ⟨fun a U g mk q => by obtain ⟨q0, q1, qP, qK, qD, qE⟩ := q; exact ⟨q0, q1, qP, va_K.moved (u := U) (U := U.calling g mk a) (Vm.Alike.refl U.vm) qK, qD, ev.same (u := U) (U := U.calling g mk a) rfl qE⟩, va_recv hKc hPc (ci := 11) (q0 := 0) rfl rfl, fun U hU hW => ⟨rfl, by rw [hU], by rw [hU]; exact hPc, va_K.moved hW.alike hKc, hDc.weaken (fun _ _ _ _ => trivial), hE.warm hW⟩⟩ rfl rfl hl.1 rfl (lv_room (Nat.le_of_ble_eq_true rfl)) dL_law_220 ⟨Nat.le_of_ble_eq_true rfl, Nat.le_of_ble_eq_true rfl⟩) hS (fun q _ h => hFc q h) hFc (fun r_40 u t H1 locs ht hvm hw hB hz1 hk1 hS => ?_)
      clear hPc hDc hKc
      replace hP := ro_keep hP hk1
      generalize H1 = H at hP hS ⊢
      replace hP : va_P (dC, dI) vwCl [(q1, .inr (11, [.ref n0, .ref st, .ref la, .int 0, .int 0, .int 0, .int (-1), .int 0])), (n0, .inl (cN, 8, .inr (.inr (.inr (.inr (fun _ => none)))))), (q3, .inr (12, fs)), (a2, .inl (c2, 8, .inr (.inl (fun _ => 0)))), (a3, .inl (c3, 8, .inl (fun _ => 0))), (a4, .inl (c4, 8, .inl (fun _ => 0))), (a5, .inl (c5, 8, .inl (fun _ => 0))), (a6, .inl (c6, 8, .inl (fun _ => 0)))] H := hP
      have hw := hw.symm
      subst hw
      refine lv_aload_n hx hb dL_law_223 rfl (lv_at hl 1 rfl) ?_
      refine lv_aload_n hx hb dL_law_224 rfl (lv_at hl 3 rfl) ?_
      refine lv_iload_n hx hb dL_law_225 rfl (lv_at hl 0 rfl) ?_
      refine lv_iconst (v := 1) hx hb dL_law_226 (by decide) ?_
      refine lv_iadd hx hb dL_law_227 ?_
      refine lv_topi (fun x_41 ex_41 => ?_)
      obtain rfl : x_41 = 1 := ex_41.trans (by decide)
      refine va_sld hx hb hX hbl hbA hS (show ¬ ((1 : Int32) < 0 ∨ 6 ≤ (1 : Int32).toNatClampNeg) by decide) dL_law_228 ?_
      have hPc := hP.sub (ws' := [(q3, .inr (12, fs))]) [2] rfl
      have hDc := hD.sub (ws' := [(q3, .inr (12, fs))]) [2] (by decide) rfl
      have hKc := hK.sub (tys' := []) [] rfl
      have hFc := ro_free hS hA
      refine va_calli (va_runV (As := [.int (xs (Int32.toNatClampNeg 1))]) (rest := [.int 0]) ⟨hx, hb, hml, hown, hts⟩ (c_X11_stop l dC dI (q3) (fs) ((xs (Int32.toNatClampNeg 1))) H.size (hf0)) (cwV 1 hts g_law_c_X11_stop_26 rfl rfl rfl (by decide +kernel) ⟨Nat.le_of_ble_eq_true rfl, Nat.le_of_ble_eq_true rfl⟩) ⟨fun a U g mk q => by obtain ⟨q0, q1, qP, qK, qD, qE⟩ := q; exact ⟨q0, q1, qP, va_K.moved (u := U) (U := U.calling g mk a) (Vm.Alike.refl U.vm) qK, qD, ev.same (u := U) (U := U.calling g mk a) rfl qE⟩, va_recv hKc hPc (ci := 12) (q0 := 0) rfl rfl, fun U hU hW => ⟨rfl, by rw [hU], by rw [hU]; exact hPc, va_K.moved hW.alike hKc, hDc.weaken (fun _ _ _ _ => trivial), hE.warm hW⟩⟩ rfl rfl hl.1 rfl (lv_room (Nat.le_of_ble_eq_true rfl)) dL_law_229 ⟨Nat.le_of_ble_eq_true rfl, Nat.le_of_ble_eq_true rfl⟩) hS (fun q _ h => hFc q h) hFc (fun r_42 u t H1 locs ht hvm hw hB hz1 hk1 hS => ?_)
      clear hPc hDc hKc
      replace hP := ro_keep hP hk1
      generalize H1 = H at hP hS ⊢
      replace hP : va_P (dC, dI) vwCl [(q1, .inr (11, [.ref n0, .ref st, .ref la, .int 0, .int 0, .int 0, .int (-1), .int 0])), (n0, .inl (cN, 8, .inr (.inr (.inr (.inr (fun _ => none)))))), (q3, .inr (12, fs)), (a2, .inl (c2, 8, .inr (.inl (fun _ => 0)))), (a3, .inl (c3, 8, .inl (fun _ => 0))), (a4, .inl (c4, 8, .inl (fun _ => 0))), (a5, .inl (c5, 8, .inl (fun _ => 0))), (a6, .inl (c6, 8, .inl (fun _ => 0)))] H := hP
      have hw := hw.symm
      subst hw
      refine lv_icmp_eq (tgt := 686) hx hb dL_law_232 (by decide) (fun c_43 => ?_) (fun c_43 => ?_)
      rotate_left
      · exact absurd (by decide) c_43
      refine lv_iinc (v := 6) (lv' := [(3, .int 6), (2, .ref q3), (1, .ref q1), (0, .ref b)]) hx hb dL_law_686 hl (k := 0) rfl (by decide) (by decide) rfl (fun ls hl => ?_)
      refine lv_goto (tgt := 18) hx hb dL_law_689 (by decide) ?_
      exact law_end hL C0 (Nat.le_of_ble_eq_true rfl) (Nat.le_of_ble_eq_true rfl) hS (lv_sub hl [0, 3] rfl)
    · obtain rfl : x_7 = 3 := Int32.toInt_inj.mp (c_8.trans (by decide))
      refine lv_tableIn (tgt := 237) hx hb dL_law_33 (by decide) (by decide) rfl (by decide) ?_
      refine lv_aload_n hx hb dL_law_237 rfl (lv_at hl 2 rfl) ?_
      refine lv_aload_n hx hb dL_law_238 rfl (lv_at hl 3 rfl) ?_
      refine lv_iload_n hx hb dL_law_239 rfl (lv_at hl 0 rfl) ?_
      refine lv_iconst (v := 1) hx hb dL_law_240 (by decide) ?_
      refine lv_iadd hx hb dL_law_241 ?_
      refine lv_topi (fun x_44 ex_44 => ?_)
      obtain rfl : x_44 = 1 := ex_44.trans (by decide)
      refine va_sld hx hb hX hbl hbA hS (show ¬ ((1 : Int32) < 0 ∨ 6 ≤ (1 : Int32).toNatClampNeg) by decide) dL_law_242 ?_
      refine lv_aload_n hx hb dL_law_243 rfl (lv_at hl 3 rfl) ?_
      refine lv_iload_n hx hb dL_law_244 rfl (lv_at hl 0 rfl) ?_
      refine lv_iconst (v := 2) hx hb dL_law_245 (by decide) ?_
      refine lv_iadd hx hb dL_law_246 ?_
      refine lv_topi (fun x_45 ex_45 => ?_)
      obtain rfl : x_45 = 2 := ex_45.trans (by decide)
      refine va_sld hx hb hX hbl hbA hS (show ¬ ((2 : Int32) < 0 ∨ 6 ≤ (2 : Int32).toNatClampNeg) by decide) dL_law_247 ?_
      have hPc := hP.sub (ws' := [(q1, .inr (11, [.ref n0, .ref st, .ref la, .int 0, .int 0, .int 0, .int (-1), .int 0]))]) [0] rfl
      have hDc := hD.sub (ws' := [(q1, .inr (11, [.ref n0, .ref st, .ref la, .int 0, .int 0, .int 0, .int (-1), .int 0]))]) [0] (by decide) rfl
      have hKc := hK.sub (tys' := []) [] rfl
      have hFc := ro_free hS hA
      refine va_calli (va_runV (As := [.int (xs (Int32.toNatClampNeg 1)), .int (xs (Int32.toNatClampNeg 2))]) (rest := []) ⟨hx, hb, hml, hown, hts⟩ (c_X10_request l dC dI (q1) (n0) (st) (la) (0) ((xs (Int32.toNatClampNeg 1))) ((xs (Int32.toNatClampNeg 2))) H.size) (cwV 2 hts g_law_c_X10_request_27 rfl rfl rfl (by decide +kernel) ⟨Nat.le_of_ble_eq_true rfl, Nat.le_of_ble_eq_true rfl⟩) ⟨fun a U g mk q => by obtain ⟨q0, q1, qP, qK, qD, qE⟩ := q; exact ⟨q0, q1, qP, va_K.moved (u := U) (U := U.calling g mk a) (Vm.Alike.refl U.vm) qK, qD, ev.same (u := U) (U := U.calling g mk a) rfl qE⟩, va_recv hKc hPc (ci := 11) (q0 := 0) rfl rfl, fun U hU hW => ⟨rfl, by rw [hU], by rw [hU]; exact hPc, va_K.moved hW.alike hKc, hDc.weaken (fun _ _ _ _ => trivial), hE.warm hW⟩⟩ rfl rfl hl.1 rfl (lv_room (Nat.le_of_ble_eq_true rfl)) dL_law_248 ⟨Nat.le_of_ble_eq_true rfl, Nat.le_of_ble_eq_true rfl⟩) hS (fun q _ h => hFc q h) hFc (fun r_46 u t H1 locs ht hvm hw hB hz1 hk1 hS => ?_)
      clear hPc hDc hKc
      replace hP := ro_keep hP hk1
      generalize H1 = H at hP hS ⊢
      replace hP : va_P (dC, dI) vwCl [(q1, .inr (11, [.ref n0, .ref st, .ref la, .int 0, .int 0, .int 0, .int (-1), .int 0])), (n0, .inl (cN, 8, .inr (.inr (.inr (.inr (fun _ => none)))))), (q3, .inr (12, fs)), (a2, .inl (c2, 8, .inr (.inl (fun _ => 0)))), (a3, .inl (c3, 8, .inl (fun _ => 0))), (a4, .inl (c4, 8, .inl (fun _ => 0))), (a5, .inl (c5, 8, .inl (fun _ => 0))), (a6, .inl (c6, 8, .inl (fun _ => 0)))] H := hP
      have hw := hw.symm
      subst hw
      refine lv_aload_n hx hb dL_law_251 rfl (lv_at hl 1 rfl) ?_
      refine lv_aload_n hx hb dL_law_252 rfl (lv_at hl 3 rfl) ?_
      refine lv_iload_n hx hb dL_law_253 rfl (lv_at hl 0 rfl) ?_
      refine lv_iconst (v := 1) hx hb dL_law_254 (by decide) ?_
      refine lv_iadd hx hb dL_law_255 ?_
      refine lv_topi (fun x_47 ex_47 => ?_)
      obtain rfl : x_47 = 1 := ex_47.trans (by decide)
      refine va_sld hx hb hX hbl hbA hS (show ¬ ((1 : Int32) < 0 ∨ 6 ≤ (1 : Int32).toNatClampNeg) by decide) dL_law_256 ?_
      refine lv_aload_n hx hb dL_law_257 rfl (lv_at hl 3 rfl) ?_
      refine lv_iload_n hx hb dL_law_258 rfl (lv_at hl 0 rfl) ?_
      refine lv_iconst (v := 2) hx hb dL_law_259 (by decide) ?_
      refine lv_iadd hx hb dL_law_260 ?_
      refine lv_topi (fun x_48 ex_48 => ?_)
      obtain rfl : x_48 = 2 := ex_48.trans (by decide)
      refine va_sld hx hb hX hbl hbA hS (show ¬ ((2 : Int32) < 0 ∨ 6 ≤ (2 : Int32).toNatClampNeg) by decide) dL_law_261 ?_
      have hPc := hP.sub (ws' := [(q3, .inr (12, fs))]) [2] rfl
      have hDc := hD.sub (ws' := [(q3, .inr (12, fs))]) [2] (by decide) rfl
      have hKc := hK.sub (tys' := []) [] rfl
      have hFc := ro_free hS hA
      refine va_calli (va_runV (As := [.int (xs (Int32.toNatClampNeg 1)), .int (xs (Int32.toNatClampNeg 2))]) (rest := [.int 0]) ⟨hx, hb, hml, hown, hts⟩ (c_X11_request l dC dI (q3) (fs) ((xs (Int32.toNatClampNeg 1))) ((xs (Int32.toNatClampNeg 2))) H.size (hf0)) (cwV 2 hts g_law_c_X11_request_31 rfl rfl rfl (by decide +kernel) ⟨Nat.le_of_ble_eq_true rfl, Nat.le_of_ble_eq_true rfl⟩) ⟨fun a U g mk q => by obtain ⟨q0, q1, qP, qK, qD, qE⟩ := q; exact ⟨q0, q1, qP, va_K.moved (u := U) (U := U.calling g mk a) (Vm.Alike.refl U.vm) qK, qD, ev.same (u := U) (U := U.calling g mk a) rfl qE⟩, va_recv hKc hPc (ci := 12) (q0 := 0) rfl rfl, fun U hU hW => ⟨rfl, by rw [hU], by rw [hU]; exact hPc, va_K.moved hW.alike hKc, hDc.weaken (fun _ _ _ _ => trivial), hE.warm hW⟩⟩ rfl rfl hl.1 rfl (lv_room (Nat.le_of_ble_eq_true rfl)) dL_law_262 ⟨Nat.le_of_ble_eq_true rfl, Nat.le_of_ble_eq_true rfl⟩) hS (fun q _ h => hFc q h) hFc (fun r_49 u t H1 locs ht hvm hw hB hz1 hk1 hS => ?_)
      clear hPc hDc hKc
      replace hP := ro_keep hP hk1
      generalize H1 = H at hP hS ⊢
      replace hP : va_P (dC, dI) vwCl [(q1, .inr (11, [.ref n0, .ref st, .ref la, .int 0, .int 0, .int 0, .int (-1), .int 0])), (n0, .inl (cN, 8, .inr (.inr (.inr (.inr (fun _ => none)))))), (q3, .inr (12, fs)), (a2, .inl (c2, 8, .inr (.inl (fun _ => 0)))), (a3, .inl (c3, 8, .inl (fun _ => 0))), (a4, .inl (c4, 8, .inl (fun _ => 0))), (a5, .inl (c5, 8, .inl (fun _ => 0))), (a6, .inl (c6, 8, .inl (fun _ => 0)))] H := hP
      have hw := hw.symm
      subst hw
      refine lv_icmp_eq (tgt := 686) hx hb dL_law_265 (by decide) (fun c_50 => ?_) (fun c_50 => ?_)
      rotate_left
      · exact absurd (by decide) c_50
      refine lv_iinc (v := 6) (lv' := [(3, .int 6), (2, .ref q3), (1, .ref q1), (0, .ref b)]) hx hb dL_law_686 hl (k := 0) rfl (by decide) (by decide) rfl (fun ls hl => ?_)
      refine lv_goto (tgt := 18) hx hb dL_law_689 (by decide) ?_
      exact law_end hL C0 (Nat.le_of_ble_eq_true rfl) (Nat.le_of_ble_eq_true rfl) hS (lv_sub hl [0, 3] rfl)
    · obtain rfl : x_7 = 4 := Int32.toInt_inj.mp (c_8.trans (by decide))
      refine lv_tableIn (tgt := 270) hx hb dL_law_33 (by decide) (by decide) rfl (by decide) ?_
      refine lv_aload_n hx hb dL_law_270 rfl (lv_at hl 2 rfl) ?_
      refine lv_aload_n hx hb dL_law_271 rfl (lv_at hl 3 rfl) ?_
      refine lv_iload_n hx hb dL_law_272 rfl (lv_at hl 0 rfl) ?_
      refine lv_iconst (v := 1) hx hb dL_law_273 (by decide) ?_
      refine lv_iadd hx hb dL_law_274 ?_
      refine lv_topi (fun x_51 ex_51 => ?_)
      obtain rfl : x_51 = 1 := ex_51.trans (by decide)
      refine va_sld hx hb hX hbl hbA hS (show ¬ ((1 : Int32) < 0 ∨ 6 ≤ (1 : Int32).toNatClampNeg) by decide) dL_law_275 ?_
      refine lv_aload_n hx hb dL_law_276 rfl (lv_at hl 3 rfl) ?_
      refine lv_iload_n hx hb dL_law_277 rfl (lv_at hl 0 rfl) ?_
      refine lv_iconst (v := 2) hx hb dL_law_278 (by decide) ?_
      refine lv_iadd hx hb dL_law_279 ?_
      refine lv_topi (fun x_52 ex_52 => ?_)
      obtain rfl : x_52 = 2 := ex_52.trans (by decide)
      refine va_sld hx hb hX hbl hbA hS (show ¬ ((2 : Int32) < 0 ∨ 6 ≤ (2 : Int32).toNatClampNeg) by decide) dL_law_280 ?_
      refine lv_aload_n hx hb dL_law_281 rfl (lv_at hl 3 rfl) ?_
      refine lv_iload_n hx hb dL_law_282 rfl (lv_at hl 0 rfl) ?_
      refine lv_iconst (v := 3) hx hb dL_law_283 (by decide) ?_
      refine lv_iadd hx hb dL_law_284 ?_
      refine lv_topi (fun x_53 ex_53 => ?_)
      obtain rfl : x_53 = 3 := ex_53.trans (by decide)
      refine va_sld hx hb hX hbl hbA hS (show ¬ ((3 : Int32) < 0 ∨ 6 ≤ (3 : Int32).toNatClampNeg) by decide) dL_law_285 ?_
      refine lv_aload_n hx hb dL_law_286 rfl (lv_at hl 3 rfl) ?_
      refine lv_iload_n hx hb dL_law_287 rfl (lv_at hl 0 rfl) ?_
      refine lv_iconst (v := 4) hx hb dL_law_288 (by decide) ?_
      refine lv_iadd hx hb dL_law_289 ?_
      refine lv_topi (fun x_54 ex_54 => ?_)
      obtain rfl : x_54 = 4 := ex_54.trans (by decide)
      refine va_sld hx hb hX hbl hbA hS (show ¬ ((4 : Int32) < 0 ∨ 6 ≤ (4 : Int32).toNatClampNeg) by decide) dL_law_290 ?_
      refine lv_aload_n hx hb dL_law_291 rfl (lv_at hl 3 rfl) ?_
      refine lv_iload_n hx hb dL_law_292 rfl (lv_at hl 0 rfl) ?_
      refine lv_iconst (v := 5) hx hb dL_law_293 (by decide) ?_
      refine lv_iadd hx hb dL_law_294 ?_
      refine lv_topi (fun x_55 ex_55 => ?_)
      obtain rfl : x_55 = 5 := ex_55.trans (by decide)
      refine va_sld hx hb hX hbl hbA hS (show ¬ ((5 : Int32) < 0 ∨ 6 ≤ (5 : Int32).toNatClampNeg) by decide) dL_law_295 ?_
      have hPc := hP.sub (ws' := [(q1, .inr (11, [.ref n0, .ref st, .ref la, .int 0, .int 0, .int 0, .int (-1), .int 0]))]) [0] rfl
      have hDc := hD.sub (ws' := [(q1, .inr (11, [.ref n0, .ref st, .ref la, .int 0, .int 0, .int 0, .int (-1), .int 0]))]) [0] (by decide) rfl
      have hKc := hK.sub (tys' := []) [] rfl
      have hFc := ro_free hS hA
      refine va_calli (va_runV (As := [.int (xs (Int32.toNatClampNeg 1)), .int (xs (Int32.toNatClampNeg 2)), .int (xs (Int32.toNatClampNeg 3)), .int (xs (Int32.toNatClampNeg 4)), .int (xs (Int32.toNatClampNeg 5))]) (rest := []) ⟨hx, hb, hml, hown, hts⟩ (c_X10_send l dC dI (q1) (n0) (st) (la) (0) ((xs (Int32.toNatClampNeg 1))) ((xs (Int32.toNatClampNeg 2))) ((xs (Int32.toNatClampNeg 3))) ((xs (Int32.toNatClampNeg 4))) ((xs (Int32.toNatClampNeg 5))) H.size) (cwV 5 hts g_law_c_X10_send_32 rfl rfl rfl (by decide +kernel) ⟨Nat.le_of_ble_eq_true rfl, Nat.le_of_ble_eq_true rfl⟩) ⟨fun a U g mk q => by obtain ⟨q0, q1, qP, qK, qD, qE⟩ := q; exact ⟨q0, q1, qP, va_K.moved (u := U) (U := U.calling g mk a) (Vm.Alike.refl U.vm) qK, qD, ev.same (u := U) (U := U.calling g mk a) rfl qE⟩, va_recv hKc hPc (ci := 11) (q0 := 0) rfl rfl, fun U hU hW => ⟨rfl, by rw [hU], by rw [hU]; exact hPc, va_K.moved hW.alike hKc, hDc.weaken (fun _ _ _ _ => trivial), hE.warm hW⟩⟩ rfl rfl hl.1 rfl (lv_room (Nat.le_of_ble_eq_true rfl)) dL_law_296 ⟨Nat.le_of_ble_eq_true rfl, Nat.le_of_ble_eq_true rfl⟩) hS (fun q _ h => hFc q h) hFc (fun r_56 u t H1 locs ht hvm hw hB hz1 hk1 hS => ?_)
      clear hPc hDc hKc
      replace hP := ro_keep hP hk1
      generalize H1 = H at hP hS ⊢
      replace hP : va_P (dC, dI) vwCl [(q1, .inr (11, [.ref n0, .ref st, .ref la, .int 0, .int 0, .int 0, .int (-1), .int 0])), (n0, .inl (cN, 8, .inr (.inr (.inr (.inr (fun _ => none)))))), (q3, .inr (12, fs)), (a2, .inl (c2, 8, .inr (.inl (fun _ => 0)))), (a3, .inl (c3, 8, .inl (fun _ => 0))), (a4, .inl (c4, 8, .inl (fun _ => 0))), (a5, .inl (c5, 8, .inl (fun _ => 0))), (a6, .inl (c6, 8, .inl (fun _ => 0)))] H := hP
      have hw := hw.symm
      subst hw
      refine lv_aload_n hx hb dL_law_299 rfl (lv_at hl 1 rfl) ?_
      refine lv_aload_n hx hb dL_law_300 rfl (lv_at hl 3 rfl) ?_
      refine lv_iload_n hx hb dL_law_301 rfl (lv_at hl 0 rfl) ?_
      refine lv_iconst (v := 1) hx hb dL_law_302 (by decide) ?_
      refine lv_iadd hx hb dL_law_303 ?_
      refine lv_topi (fun x_57 ex_57 => ?_)
      obtain rfl : x_57 = 1 := ex_57.trans (by decide)
      refine va_sld hx hb hX hbl hbA hS (show ¬ ((1 : Int32) < 0 ∨ 6 ≤ (1 : Int32).toNatClampNeg) by decide) dL_law_304 ?_
      refine lv_aload_n hx hb dL_law_305 rfl (lv_at hl 3 rfl) ?_
      refine lv_iload_n hx hb dL_law_306 rfl (lv_at hl 0 rfl) ?_
      refine lv_iconst (v := 2) hx hb dL_law_307 (by decide) ?_
      refine lv_iadd hx hb dL_law_308 ?_
      refine lv_topi (fun x_58 ex_58 => ?_)
      obtain rfl : x_58 = 2 := ex_58.trans (by decide)
      refine va_sld hx hb hX hbl hbA hS (show ¬ ((2 : Int32) < 0 ∨ 6 ≤ (2 : Int32).toNatClampNeg) by decide) dL_law_309 ?_
      refine lv_aload_n hx hb dL_law_310 rfl (lv_at hl 3 rfl) ?_
      refine lv_iload_n hx hb dL_law_311 rfl (lv_at hl 0 rfl) ?_
      refine lv_iconst (v := 3) hx hb dL_law_312 (by decide) ?_
      refine lv_iadd hx hb dL_law_313 ?_
      refine lv_topi (fun x_59 ex_59 => ?_)
      obtain rfl : x_59 = 3 := ex_59.trans (by decide)
      refine va_sld hx hb hX hbl hbA hS (show ¬ ((3 : Int32) < 0 ∨ 6 ≤ (3 : Int32).toNatClampNeg) by decide) dL_law_314 ?_
      refine lv_aload_n hx hb dL_law_315 rfl (lv_at hl 3 rfl) ?_
      refine lv_iload_n hx hb dL_law_316 rfl (lv_at hl 0 rfl) ?_
      refine lv_iconst (v := 4) hx hb dL_law_317 (by decide) ?_
      refine lv_iadd hx hb dL_law_318 ?_
      refine lv_topi (fun x_60 ex_60 => ?_)
      obtain rfl : x_60 = 4 := ex_60.trans (by decide)
      refine va_sld hx hb hX hbl hbA hS (show ¬ ((4 : Int32) < 0 ∨ 6 ≤ (4 : Int32).toNatClampNeg) by decide) dL_law_319 ?_
      refine lv_aload_n hx hb dL_law_320 rfl (lv_at hl 3 rfl) ?_
      refine lv_iload_n hx hb dL_law_321 rfl (lv_at hl 0 rfl) ?_
      refine lv_iconst (v := 5) hx hb dL_law_322 (by decide) ?_
      refine lv_iadd hx hb dL_law_323 ?_
      refine lv_topi (fun x_61 ex_61 => ?_)
      obtain rfl : x_61 = 5 := ex_61.trans (by decide)
      refine va_sld hx hb hX hbl hbA hS (show ¬ ((5 : Int32) < 0 ∨ 6 ≤ (5 : Int32).toNatClampNeg) by decide) dL_law_324 ?_
      have hPc := hP.sub (ws' := [(q3, .inr (12, fs))]) [2] rfl
      have hDc := hD.sub (ws' := [(q3, .inr (12, fs))]) [2] (by decide) rfl
      have hKc := hK.sub (tys' := []) [] rfl
      have hFc := ro_free hS hA
      refine va_calli (va_runV (As := [.int (xs (Int32.toNatClampNeg 1)), .int (xs (Int32.toNatClampNeg 2)), .int (xs (Int32.toNatClampNeg 3)), .int (xs (Int32.toNatClampNeg 4)), .int (xs (Int32.toNatClampNeg 5))]) (rest := [.int 0]) ⟨hx, hb, hml, hown, hts⟩ (c_X11_send l dC dI (q3) (fs) ((xs (Int32.toNatClampNeg 1))) ((xs (Int32.toNatClampNeg 2))) ((xs (Int32.toNatClampNeg 3))) ((xs (Int32.toNatClampNeg 4))) ((xs (Int32.toNatClampNeg 5))) H.size (hf0)) (cwV 5 hts g_law_c_X11_send_36 rfl rfl rfl (by decide +kernel) ⟨Nat.le_of_ble_eq_true rfl, Nat.le_of_ble_eq_true rfl⟩) ⟨fun a U g mk q => by obtain ⟨q0, q1, qP, qK, qD, qE⟩ := q; exact ⟨q0, q1, qP, va_K.moved (u := U) (U := U.calling g mk a) (Vm.Alike.refl U.vm) qK, qD, ev.same (u := U) (U := U.calling g mk a) rfl qE⟩, va_recv hKc hPc (ci := 12) (q0 := 0) rfl rfl, fun U hU hW => ⟨rfl, by rw [hU], by rw [hU]; exact hPc, va_K.moved hW.alike hKc, hDc.weaken (fun _ _ _ _ => trivial), hE.warm hW⟩⟩ rfl rfl hl.1 rfl (lv_room (Nat.le_of_ble_eq_true rfl)) dL_law_325 ⟨Nat.le_of_ble_eq_true rfl, Nat.le_of_ble_eq_true rfl⟩) hS (fun q _ h => hFc q h) hFc (fun r_62 u t H1 locs ht hvm hw hB hz1 hk1 hS => ?_)
      clear hPc hDc hKc
      replace hP := ro_keep hP hk1
      generalize H1 = H at hP hS ⊢
      replace hP : va_P (dC, dI) vwCl [(q1, .inr (11, [.ref n0, .ref st, .ref la, .int 0, .int 0, .int 0, .int (-1), .int 0])), (n0, .inl (cN, 8, .inr (.inr (.inr (.inr (fun _ => none)))))), (q3, .inr (12, fs)), (a2, .inl (c2, 8, .inr (.inl (fun _ => 0)))), (a3, .inl (c3, 8, .inl (fun _ => 0))), (a4, .inl (c4, 8, .inl (fun _ => 0))), (a5, .inl (c5, 8, .inl (fun _ => 0))), (a6, .inl (c6, 8, .inl (fun _ => 0)))] H := hP
      have hw := hw.symm
      subst hw
      refine lv_icmp_eq (tgt := 686) hx hb dL_law_328 (by decide) (fun c_63 => ?_) (fun c_63 => ?_)
      rotate_left
      · exact absurd (by decide) c_63
      refine lv_iinc (v := 6) (lv' := [(3, .int 6), (2, .ref q3), (1, .ref q1), (0, .ref b)]) hx hb dL_law_686 hl (k := 0) rfl (by decide) (by decide) rfl (fun ls hl => ?_)
      refine lv_goto (tgt := 18) hx hb dL_law_689 (by decide) ?_
      exact law_end hL C0 (Nat.le_of_ble_eq_true rfl) (Nat.le_of_ble_eq_true rfl) hS (lv_sub hl [0, 3] rfl)
    · obtain rfl : x_7 = 5 := Int32.toInt_inj.mp (c_8.trans (by decide))
      refine lv_tableIn (tgt := 333) hx hb dL_law_33 (by decide) (by decide) rfl (by decide) ?_
      refine lv_aload_n hx hb dL_law_333 rfl (lv_at hl 2 rfl) ?_
      refine lv_aload_n hx hb dL_law_334 rfl (lv_at hl 3 rfl) ?_
      refine lv_iload_n hx hb dL_law_335 rfl (lv_at hl 0 rfl) ?_
      refine lv_iconst (v := 1) hx hb dL_law_336 (by decide) ?_
      refine lv_iadd hx hb dL_law_337 ?_
      refine lv_topi (fun x_64 ex_64 => ?_)
      obtain rfl : x_64 = 1 := ex_64.trans (by decide)
      refine va_sld hx hb hX hbl hbA hS (show ¬ ((1 : Int32) < 0 ∨ 6 ≤ (1 : Int32).toNatClampNeg) by decide) dL_law_338 ?_
      refine lv_aload_n hx hb dL_law_339 rfl (lv_at hl 3 rfl) ?_
      refine lv_iload_n hx hb dL_law_340 rfl (lv_at hl 0 rfl) ?_
      refine lv_iconst (v := 2) hx hb dL_law_341 (by decide) ?_
      refine lv_iadd hx hb dL_law_342 ?_
      refine lv_topi (fun x_65 ex_65 => ?_)
      obtain rfl : x_65 = 2 := ex_65.trans (by decide)
      refine va_sld hx hb hX hbl hbA hS (show ¬ ((2 : Int32) < 0 ∨ 6 ≤ (2 : Int32).toNatClampNeg) by decide) dL_law_343 ?_
      refine lv_aload_n hx hb dL_law_344 rfl (lv_at hl 3 rfl) ?_
      refine lv_iload_n hx hb dL_law_345 rfl (lv_at hl 0 rfl) ?_
      refine lv_iconst (v := 3) hx hb dL_law_346 (by decide) ?_
      refine lv_iadd hx hb dL_law_347 ?_
      refine lv_topi (fun x_66 ex_66 => ?_)
      obtain rfl : x_66 = 3 := ex_66.trans (by decide)
      refine va_sld hx hb hX hbl hbA hS (show ¬ ((3 : Int32) < 0 ∨ 6 ≤ (3 : Int32).toNatClampNeg) by decide) dL_law_348 ?_
      refine lv_aload_n hx hb dL_law_349 rfl (lv_at hl 3 rfl) ?_
      refine lv_iload_n hx hb dL_law_350 rfl (lv_at hl 0 rfl) ?_
      refine lv_iconst (v := 4) hx hb dL_law_351 (by decide) ?_
      refine lv_iadd hx hb dL_law_352 ?_
      refine lv_topi (fun x_67 ex_67 => ?_)
      obtain rfl : x_67 = 4 := ex_67.trans (by decide)
      refine va_sld hx hb hX hbl hbA hS (show ¬ ((4 : Int32) < 0 ∨ 6 ≤ (4 : Int32).toNatClampNeg) by decide) dL_law_353 ?_
      have hPc := hP.sub (ws' := [(q1, .inr (11, [.ref n0, .ref st, .ref la, .int 0, .int 0, .int 0, .int (-1), .int 0]))]) [0] rfl
      have hDc := hD.sub (ws' := [(q1, .inr (11, [.ref n0, .ref st, .ref la, .int 0, .int 0, .int 0, .int (-1), .int 0]))]) [0] (by decide) rfl
      have hKc := hK.sub (tys' := []) [] rfl
      have hFc := ro_free hS hA
      refine va_calli (va_runV (As := [.int (xs (Int32.toNatClampNeg 1)), .int (xs (Int32.toNatClampNeg 2)), .int (xs (Int32.toNatClampNeg 3)), .int (xs (Int32.toNatClampNeg 4))]) (rest := []) ⟨hx, hb, hml, hown, hts⟩ (c_X10_trouble l dC dI (q1) (n0) (st) (la) (0) ((xs (Int32.toNatClampNeg 1))) ((xs (Int32.toNatClampNeg 2))) ((xs (Int32.toNatClampNeg 3))) ((xs (Int32.toNatClampNeg 4))) H.size) (cwV 4 hts g_law_c_X10_trouble_37 rfl rfl rfl (by decide +kernel) ⟨Nat.le_of_ble_eq_true rfl, Nat.le_of_ble_eq_true rfl⟩) ⟨fun a U g mk q => by obtain ⟨q0, q1, qP, qK, qD, qE⟩ := q; exact ⟨q0, q1, qP, va_K.moved (u := U) (U := U.calling g mk a) (Vm.Alike.refl U.vm) qK, qD, ev.same (u := U) (U := U.calling g mk a) rfl qE⟩, va_recv hKc hPc (ci := 11) (q0 := 0) rfl rfl, fun U hU hW => ⟨rfl, by rw [hU], by rw [hU]; exact hPc, va_K.moved hW.alike hKc, hDc.weaken (fun _ _ _ _ => trivial), hE.warm hW⟩⟩ rfl rfl hl.1 rfl (lv_room (Nat.le_of_ble_eq_true rfl)) dL_law_354 ⟨Nat.le_of_ble_eq_true rfl, Nat.le_of_ble_eq_true rfl⟩) hS (fun q _ h => hFc q h) hFc (fun r_68 u t H1 locs ht hvm hw hB hz1 hk1 hS => ?_)
      clear hPc hDc hKc
      replace hP := ro_keep hP hk1
      generalize H1 = H at hP hS ⊢
      replace hP : va_P (dC, dI) vwCl [(q1, .inr (11, [.ref n0, .ref st, .ref la, .int 0, .int 0, .int 0, .int (-1), .int 0])), (n0, .inl (cN, 8, .inr (.inr (.inr (.inr (fun _ => none)))))), (q3, .inr (12, fs)), (a2, .inl (c2, 8, .inr (.inl (fun _ => 0)))), (a3, .inl (c3, 8, .inl (fun _ => 0))), (a4, .inl (c4, 8, .inl (fun _ => 0))), (a5, .inl (c5, 8, .inl (fun _ => 0))), (a6, .inl (c6, 8, .inl (fun _ => 0)))] H := hP
      have hw := hw.symm
      subst hw
      refine lv_aload_n hx hb dL_law_357 rfl (lv_at hl 1 rfl) ?_
      refine lv_aload_n hx hb dL_law_358 rfl (lv_at hl 3 rfl) ?_
      refine lv_iload_n hx hb dL_law_359 rfl (lv_at hl 0 rfl) ?_
      refine lv_iconst (v := 1) hx hb dL_law_360 (by decide) ?_
      refine lv_iadd hx hb dL_law_361 ?_
      refine lv_topi (fun x_69 ex_69 => ?_)
      obtain rfl : x_69 = 1 := ex_69.trans (by decide)
      refine va_sld hx hb hX hbl hbA hS (show ¬ ((1 : Int32) < 0 ∨ 6 ≤ (1 : Int32).toNatClampNeg) by decide) dL_law_362 ?_
      refine lv_aload_n hx hb dL_law_363 rfl (lv_at hl 3 rfl) ?_
      refine lv_iload_n hx hb dL_law_364 rfl (lv_at hl 0 rfl) ?_
      refine lv_iconst (v := 2) hx hb dL_law_365 (by decide) ?_
      refine lv_iadd hx hb dL_law_366 ?_
      refine lv_topi (fun x_70 ex_70 => ?_)
      obtain rfl : x_70 = 2 := ex_70.trans (by decide)
      refine va_sld hx hb hX hbl hbA hS (show ¬ ((2 : Int32) < 0 ∨ 6 ≤ (2 : Int32).toNatClampNeg) by decide) dL_law_367 ?_
      refine lv_aload_n hx hb dL_law_368 rfl (lv_at hl 3 rfl) ?_
      refine lv_iload_n hx hb dL_law_369 rfl (lv_at hl 0 rfl) ?_
      refine lv_iconst (v := 3) hx hb dL_law_370 (by decide) ?_
      refine lv_iadd hx hb dL_law_371 ?_
      refine lv_topi (fun x_71 ex_71 => ?_)
      obtain rfl : x_71 = 3 := ex_71.trans (by decide)
      refine va_sld hx hb hX hbl hbA hS (show ¬ ((3 : Int32) < 0 ∨ 6 ≤ (3 : Int32).toNatClampNeg) by decide) dL_law_372 ?_
      refine lv_aload_n hx hb dL_law_373 rfl (lv_at hl 3 rfl) ?_
      refine lv_iload_n hx hb dL_law_374 rfl (lv_at hl 0 rfl) ?_
      refine lv_iconst (v := 4) hx hb dL_law_375 (by decide) ?_
      refine lv_iadd hx hb dL_law_376 ?_
      refine lv_topi (fun x_72 ex_72 => ?_)
      obtain rfl : x_72 = 4 := ex_72.trans (by decide)
      refine va_sld hx hb hX hbl hbA hS (show ¬ ((4 : Int32) < 0 ∨ 6 ≤ (4 : Int32).toNatClampNeg) by decide) dL_law_377 ?_
      have hPc := hP.sub (ws' := [(q3, .inr (12, fs))]) [2] rfl
      have hDc := hD.sub (ws' := [(q3, .inr (12, fs))]) [2] (by decide) rfl
      have hKc := hK.sub (tys' := []) [] rfl
      have hFc := ro_free hS hA
      refine va_calli (va_runV (As := [.int (xs (Int32.toNatClampNeg 1)), .int (xs (Int32.toNatClampNeg 2)), .int (xs (Int32.toNatClampNeg 3)), .int (xs (Int32.toNatClampNeg 4))]) (rest := [.int (-1)]) ⟨hx, hb, hml, hown, hts⟩ (c_X11_trouble l dC dI (q3) (fs) ((xs (Int32.toNatClampNeg 1))) ((xs (Int32.toNatClampNeg 2))) ((xs (Int32.toNatClampNeg 3))) ((xs (Int32.toNatClampNeg 4))) H.size (hf0)) (cwV 4 hts g_law_c_X11_trouble_41 rfl rfl rfl (by decide +kernel) ⟨Nat.le_of_ble_eq_true rfl, Nat.le_of_ble_eq_true rfl⟩) ⟨fun a U g mk q => by obtain ⟨q0, q1, qP, qK, qD, qE⟩ := q; exact ⟨q0, q1, qP, va_K.moved (u := U) (U := U.calling g mk a) (Vm.Alike.refl U.vm) qK, qD, ev.same (u := U) (U := U.calling g mk a) rfl qE⟩, va_recv hKc hPc (ci := 12) (q0 := 0) rfl rfl, fun U hU hW => ⟨rfl, by rw [hU], by rw [hU]; exact hPc, va_K.moved hW.alike hKc, hDc.weaken (fun _ _ _ _ => trivial), hE.warm hW⟩⟩ rfl rfl hl.1 rfl (lv_room (Nat.le_of_ble_eq_true rfl)) dL_law_378 ⟨Nat.le_of_ble_eq_true rfl, Nat.le_of_ble_eq_true rfl⟩) hS (fun q _ h => hFc q h) hFc (fun r_73 u t H1 locs ht hvm hw hB hz1 hk1 hS => ?_)
      clear hPc hDc hKc
      replace hP := ro_keep hP hk1
      generalize H1 = H at hP hS ⊢
      replace hP : va_P (dC, dI) vwCl [(q1, .inr (11, [.ref n0, .ref st, .ref la, .int 0, .int 0, .int 0, .int (-1), .int 0])), (n0, .inl (cN, 8, .inr (.inr (.inr (.inr (fun _ => none)))))), (q3, .inr (12, fs)), (a2, .inl (c2, 8, .inr (.inl (fun _ => 0)))), (a3, .inl (c3, 8, .inl (fun _ => 0))), (a4, .inl (c4, 8, .inl (fun _ => 0))), (a5, .inl (c5, 8, .inl (fun _ => 0))), (a6, .inl (c6, 8, .inl (fun _ => 0)))] H := hP
      have hw := hw.symm
      subst hw
      refine lv_icmp_eq (tgt := 686) hx hb dL_law_381 (by decide) (fun c_74 => ?_) (fun c_74 => ?_)
      rotate_left
      · exact absurd (by decide) c_74
      refine lv_iinc (v := 6) (lv' := [(3, .int 6), (2, .ref q3), (1, .ref q1), (0, .ref b)]) hx hb dL_law_686 hl (k := 0) rfl (by decide) (by decide) rfl (fun ls hl => ?_)
      refine lv_goto (tgt := 18) hx hb dL_law_689 (by decide) ?_
      exact law_end hL C0 (Nat.le_of_ble_eq_true rfl) (Nat.le_of_ble_eq_true rfl) hS (lv_sub hl [0, 3] rfl)
    · obtain rfl : x_7 = 6 := Int32.toInt_inj.mp (c_8.trans (by decide))
      refine lv_tableIn (tgt := 386) hx hb dL_law_33 (by decide) (by decide) rfl (by decide) ?_
      refine lv_aload_n hx hb dL_law_386 rfl (lv_at hl 2 rfl) ?_
      refine lv_aload_n hx hb dL_law_387 rfl (lv_at hl 3 rfl) ?_
      refine lv_iload_n hx hb dL_law_388 rfl (lv_at hl 0 rfl) ?_
      refine lv_iconst (v := 1) hx hb dL_law_389 (by decide) ?_
      refine lv_iadd hx hb dL_law_390 ?_
      refine lv_topi (fun x_75 ex_75 => ?_)
      obtain rfl : x_75 = 1 := ex_75.trans (by decide)
      refine va_sld hx hb hX hbl hbA hS (show ¬ ((1 : Int32) < 0 ∨ 6 ≤ (1 : Int32).toNatClampNeg) by decide) dL_law_391 ?_
      have hPc := hP.sub (ws' := [(q1, .inr (11, [.ref n0, .ref st, .ref la, .int 0, .int 0, .int 0, .int (-1), .int 0]))]) [0] rfl
      have hDc := hD.sub (ws' := [(q1, .inr (11, [.ref n0, .ref st, .ref la, .int 0, .int 0, .int 0, .int (-1), .int 0]))]) [0] (by decide) rfl
      have hKc := hK.sub (tys' := []) [] rfl
      have hFc := ro_free hS hA
      refine va_calli (va_runV (As := [.int (xs (Int32.toNatClampNeg 1))]) (rest := []) ⟨hx, hb, hml, hown, hts⟩ (c_X10_tell l dC dI (q1) (n0) (st) (la) (0) ((xs (Int32.toNatClampNeg 1))) H.size) (cwV 1 hts g_law_c_X10_tell_42 rfl rfl rfl (by decide +kernel) ⟨Nat.le_of_ble_eq_true rfl, Nat.le_of_ble_eq_true rfl⟩) ⟨fun a U g mk q => by obtain ⟨q0, q1, qP, qK, qD, qE⟩ := q; exact ⟨q0, q1, qP, va_K.moved (u := U) (U := U.calling g mk a) (Vm.Alike.refl U.vm) qK, qD, ev.same (u := U) (U := U.calling g mk a) rfl qE⟩, va_recv hKc hPc (ci := 11) (q0 := 0) rfl rfl, fun U hU hW => ⟨rfl, by rw [hU], by rw [hU]; exact hPc, va_K.moved hW.alike hKc, hDc.weaken (fun _ _ _ _ => trivial), hE.warm hW⟩⟩ rfl rfl hl.1 rfl (lv_room (Nat.le_of_ble_eq_true rfl)) dL_law_392 ⟨Nat.le_of_ble_eq_true rfl, Nat.le_of_ble_eq_true rfl⟩) hS (fun q _ h => hFc q h) hFc (fun r_76 u t H1 locs ht hvm hw hB hz1 hk1 hS => ?_)
      clear hPc hDc hKc
      replace hP := ro_keep hP hk1
      generalize H1 = H at hP hS ⊢
      replace hP : va_P (dC, dI) vwCl [(q1, .inr (11, [.ref n0, .ref st, .ref la, .int 0, .int 0, .int 0, .int (-1), .int 0])), (n0, .inl (cN, 8, .inr (.inr (.inr (.inr (fun _ => none)))))), (q3, .inr (12, fs)), (a2, .inl (c2, 8, .inr (.inl (fun _ => 0)))), (a3, .inl (c3, 8, .inl (fun _ => 0))), (a4, .inl (c4, 8, .inl (fun _ => 0))), (a5, .inl (c5, 8, .inl (fun _ => 0))), (a6, .inl (c6, 8, .inl (fun _ => 0)))] H := hP
      have hw := hw.symm
      subst hw
      refine lv_aload_n hx hb dL_law_395 rfl (lv_at hl 1 rfl) ?_
      refine lv_aload_n hx hb dL_law_396 rfl (lv_at hl 3 rfl) ?_
      refine lv_iload_n hx hb dL_law_397 rfl (lv_at hl 0 rfl) ?_
      refine lv_iconst (v := 1) hx hb dL_law_398 (by decide) ?_
      refine lv_iadd hx hb dL_law_399 ?_
      refine lv_topi (fun x_77 ex_77 => ?_)
      obtain rfl : x_77 = 1 := ex_77.trans (by decide)
      refine va_sld hx hb hX hbl hbA hS (show ¬ ((1 : Int32) < 0 ∨ 6 ≤ (1 : Int32).toNatClampNeg) by decide) dL_law_400 ?_
      have hPc := hP.sub (ws' := [(q3, .inr (12, fs))]) [2] rfl
      have hDc := hD.sub (ws' := [(q3, .inr (12, fs))]) [2] (by decide) rfl
      have hKc := hK.sub (tys' := []) [] rfl
      have hFc := ro_free hS hA
      refine va_calli (va_runV (As := [.int (xs (Int32.toNatClampNeg 1))]) (rest := [.int 0]) ⟨hx, hb, hml, hown, hts⟩ (c_X11_tell l dC dI (q3) (fs) ((xs (Int32.toNatClampNeg 1))) H.size (hf0)) (cwV 1 hts g_law_c_X11_tell_45 rfl rfl rfl (by decide +kernel) ⟨Nat.le_of_ble_eq_true rfl, Nat.le_of_ble_eq_true rfl⟩) ⟨fun a U g mk q => by obtain ⟨q0, q1, qP, qK, qD, qE⟩ := q; exact ⟨q0, q1, qP, va_K.moved (u := U) (U := U.calling g mk a) (Vm.Alike.refl U.vm) qK, qD, ev.same (u := U) (U := U.calling g mk a) rfl qE⟩, va_recv hKc hPc (ci := 12) (q0 := 0) rfl rfl, fun U hU hW => ⟨rfl, by rw [hU], by rw [hU]; exact hPc, va_K.moved hW.alike hKc, hDc.weaken (fun _ _ _ _ => trivial), hE.warm hW⟩⟩ rfl rfl hl.1 rfl (lv_room (Nat.le_of_ble_eq_true rfl)) dL_law_401 ⟨Nat.le_of_ble_eq_true rfl, Nat.le_of_ble_eq_true rfl⟩) hS (fun q _ h => hFc q h) hFc (fun r_78 u t H1 locs ht hvm hw hB hz1 hk1 hS => ?_)
      clear hPc hDc hKc
      replace hP := ro_keep hP hk1
      generalize H1 = H at hP hS ⊢
      replace hP : va_P (dC, dI) vwCl [(q1, .inr (11, [.ref n0, .ref st, .ref la, .int 0, .int 0, .int 0, .int (-1), .int 0])), (n0, .inl (cN, 8, .inr (.inr (.inr (.inr (fun _ => none)))))), (q3, .inr (12, fs)), (a2, .inl (c2, 8, .inr (.inl (fun _ => 0)))), (a3, .inl (c3, 8, .inl (fun _ => 0))), (a4, .inl (c4, 8, .inl (fun _ => 0))), (a5, .inl (c5, 8, .inl (fun _ => 0))), (a6, .inl (c6, 8, .inl (fun _ => 0)))] H := hP
      have hw := hw.symm
      subst hw
      refine lv_icmp_eq (tgt := 686) hx hb dL_law_404 (by decide) (fun c_79 => ?_) (fun c_79 => ?_)
      rotate_left
      · exact absurd (by decide) c_79
      refine lv_iinc (v := 6) (lv' := [(3, .int 6), (2, .ref q3), (1, .ref q1), (0, .ref b)]) hx hb dL_law_686 hl (k := 0) rfl (by decide) (by decide) rfl (fun ls hl => ?_)
      refine lv_goto (tgt := 18) hx hb dL_law_689 (by decide) ?_
      exact law_end hL C0 (Nat.le_of_ble_eq_true rfl) (Nat.le_of_ble_eq_true rfl) hS (lv_sub hl [0, 3] rfl)
    · obtain rfl : x_7 = 7 := Int32.toInt_inj.mp (c_8.trans (by decide))
      refine lv_tableIn (tgt := 409) hx hb dL_law_33 (by decide) (by decide) rfl (by decide) ?_
      refine lv_aload_n hx hb dL_law_409 rfl (lv_at hl 2 rfl) ?_
      refine lv_aload_n hx hb dL_law_410 rfl (lv_at hl 3 rfl) ?_
      refine lv_iload_n hx hb dL_law_411 rfl (lv_at hl 0 rfl) ?_
      refine lv_iconst (v := 1) hx hb dL_law_412 (by decide) ?_
      refine lv_iadd hx hb dL_law_413 ?_
      refine lv_topi (fun x_80 ex_80 => ?_)
      obtain rfl : x_80 = 1 := ex_80.trans (by decide)
      refine va_sld hx hb hX hbl hbA hS (show ¬ ((1 : Int32) < 0 ∨ 6 ≤ (1 : Int32).toNatClampNeg) by decide) dL_law_414 ?_
      refine lv_aload_n hx hb dL_law_415 rfl (lv_at hl 3 rfl) ?_
      refine lv_iload_n hx hb dL_law_416 rfl (lv_at hl 0 rfl) ?_
      refine lv_iconst (v := 2) hx hb dL_law_417 (by decide) ?_
      refine lv_iadd hx hb dL_law_418 ?_
      refine lv_topi (fun x_81 ex_81 => ?_)
      obtain rfl : x_81 = 2 := ex_81.trans (by decide)
      refine va_sld hx hb hX hbl hbA hS (show ¬ ((2 : Int32) < 0 ∨ 6 ≤ (2 : Int32).toNatClampNeg) by decide) dL_law_419 ?_
      have hPc := hP.sub (ws' := [(q1, .inr (11, [.ref n0, .ref st, .ref la, .int 0, .int 0, .int 0, .int (-1), .int 0]))]) [0] rfl
      have hDc := hD.sub (ws' := [(q1, .inr (11, [.ref n0, .ref st, .ref la, .int 0, .int 0, .int 0, .int (-1), .int 0]))]) [0] (by decide) rfl
      have hKc := hK.sub (tys' := []) [] rfl
      have hFc := ro_free hS hA
      refine va_calli (va_runV (As := [.int (xs (Int32.toNatClampNeg 1)), .int (xs (Int32.toNatClampNeg 2))]) (rest := []) ⟨hx, hb, hml, hown, hts⟩ (c_X10_lose l dC dI (q1) (n0) (st) (la) (0) ((xs (Int32.toNatClampNeg 1))) ((xs (Int32.toNatClampNeg 2))) H.size) (cwV 2 hts g_law_c_X10_lose_46 rfl rfl rfl (by decide +kernel) ⟨Nat.le_of_ble_eq_true rfl, Nat.le_of_ble_eq_true rfl⟩) ⟨fun a U g mk q => by obtain ⟨q0, q1, qP, qK, qD, qE⟩ := q; exact ⟨q0, q1, qP, va_K.moved (u := U) (U := U.calling g mk a) (Vm.Alike.refl U.vm) qK, qD, ev.same (u := U) (U := U.calling g mk a) rfl qE⟩, va_recv hKc hPc (ci := 11) (q0 := 0) rfl rfl, fun U hU hW => ⟨rfl, by rw [hU], by rw [hU]; exact hPc, va_K.moved hW.alike hKc, hDc.weaken (fun _ _ _ _ => trivial), hE.warm hW⟩⟩ rfl rfl hl.1 rfl (lv_room (Nat.le_of_ble_eq_true rfl)) dL_law_420 ⟨Nat.le_of_ble_eq_true rfl, Nat.le_of_ble_eq_true rfl⟩) hS (fun q _ h => hFc q h) hFc (fun r_82 u t H1 locs ht hvm hw hB hz1 hk1 hS => ?_)
      clear hPc hDc hKc
      replace hP := ro_keep hP hk1
      generalize H1 = H at hP hS ⊢
      replace hP : va_P (dC, dI) vwCl [(q1, .inr (11, [.ref n0, .ref st, .ref la, .int 0, .int 0, .int 0, .int (-1), .int 0])), (n0, .inl (cN, 8, .inr (.inr (.inr (.inr (fun _ => none)))))), (q3, .inr (12, fs)), (a2, .inl (c2, 8, .inr (.inl (fun _ => 0)))), (a3, .inl (c3, 8, .inl (fun _ => 0))), (a4, .inl (c4, 8, .inl (fun _ => 0))), (a5, .inl (c5, 8, .inl (fun _ => 0))), (a6, .inl (c6, 8, .inl (fun _ => 0)))] H := hP
      have hw := hw.symm
      subst hw
      refine lv_aload_n hx hb dL_law_423 rfl (lv_at hl 1 rfl) ?_
      refine lv_aload_n hx hb dL_law_424 rfl (lv_at hl 3 rfl) ?_
      refine lv_iload_n hx hb dL_law_425 rfl (lv_at hl 0 rfl) ?_
      refine lv_iconst (v := 1) hx hb dL_law_426 (by decide) ?_
      refine lv_iadd hx hb dL_law_427 ?_
      refine lv_topi (fun x_83 ex_83 => ?_)
      obtain rfl : x_83 = 1 := ex_83.trans (by decide)
      refine va_sld hx hb hX hbl hbA hS (show ¬ ((1 : Int32) < 0 ∨ 6 ≤ (1 : Int32).toNatClampNeg) by decide) dL_law_428 ?_
      refine lv_aload_n hx hb dL_law_429 rfl (lv_at hl 3 rfl) ?_
      refine lv_iload_n hx hb dL_law_430 rfl (lv_at hl 0 rfl) ?_
      refine lv_iconst (v := 2) hx hb dL_law_431 (by decide) ?_
      refine lv_iadd hx hb dL_law_432 ?_
      refine lv_topi (fun x_84 ex_84 => ?_)
      obtain rfl : x_84 = 2 := ex_84.trans (by decide)
      refine va_sld hx hb hX hbl hbA hS (show ¬ ((2 : Int32) < 0 ∨ 6 ≤ (2 : Int32).toNatClampNeg) by decide) dL_law_433 ?_
      have hPc := hP.sub (ws' := [(q3, .inr (12, fs))]) [2] rfl
      have hDc := hD.sub (ws' := [(q3, .inr (12, fs))]) [2] (by decide) rfl
      have hKc := hK.sub (tys' := []) [] rfl
      have hFc := ro_free hS hA
      refine va_calli (va_runV (As := [.int (xs (Int32.toNatClampNeg 1)), .int (xs (Int32.toNatClampNeg 2))]) (rest := [.int 0]) ⟨hx, hb, hml, hown, hts⟩ (c_X11_lose l dC dI (q3) (fs) ((xs (Int32.toNatClampNeg 1))) ((xs (Int32.toNatClampNeg 2))) H.size (hf0)) (cwV 2 hts g_law_c_X11_lose_49 rfl rfl rfl (by decide +kernel) ⟨Nat.le_of_ble_eq_true rfl, Nat.le_of_ble_eq_true rfl⟩) ⟨fun a U g mk q => by obtain ⟨q0, q1, qP, qK, qD, qE⟩ := q; exact ⟨q0, q1, qP, va_K.moved (u := U) (U := U.calling g mk a) (Vm.Alike.refl U.vm) qK, qD, ev.same (u := U) (U := U.calling g mk a) rfl qE⟩, va_recv hKc hPc (ci := 12) (q0 := 0) rfl rfl, fun U hU hW => ⟨rfl, by rw [hU], by rw [hU]; exact hPc, va_K.moved hW.alike hKc, hDc.weaken (fun _ _ _ _ => trivial), hE.warm hW⟩⟩ rfl rfl hl.1 rfl (lv_room (Nat.le_of_ble_eq_true rfl)) dL_law_434 ⟨Nat.le_of_ble_eq_true rfl, Nat.le_of_ble_eq_true rfl⟩) hS (fun q _ h => hFc q h) hFc (fun r_85 u t H1 locs ht hvm hw hB hz1 hk1 hS => ?_)
      clear hPc hDc hKc
      replace hP := ro_keep hP hk1
      generalize H1 = H at hP hS ⊢
      replace hP : va_P (dC, dI) vwCl [(q1, .inr (11, [.ref n0, .ref st, .ref la, .int 0, .int 0, .int 0, .int (-1), .int 0])), (n0, .inl (cN, 8, .inr (.inr (.inr (.inr (fun _ => none)))))), (q3, .inr (12, fs)), (a2, .inl (c2, 8, .inr (.inl (fun _ => 0)))), (a3, .inl (c3, 8, .inl (fun _ => 0))), (a4, .inl (c4, 8, .inl (fun _ => 0))), (a5, .inl (c5, 8, .inl (fun _ => 0))), (a6, .inl (c6, 8, .inl (fun _ => 0)))] H := hP
      have hw := hw.symm
      subst hw
      refine lv_icmp_eq (tgt := 686) hx hb dL_law_437 (by decide) (fun c_86 => ?_) (fun c_86 => ?_)
      rotate_left
      · exact absurd (by decide) c_86
      refine lv_iinc (v := 6) (lv' := [(3, .int 6), (2, .ref q3), (1, .ref q1), (0, .ref b)]) hx hb dL_law_686 hl (k := 0) rfl (by decide) (by decide) rfl (fun ls hl => ?_)
      refine lv_goto (tgt := 18) hx hb dL_law_689 (by decide) ?_
      exact law_end hL C0 (Nat.le_of_ble_eq_true rfl) (Nat.le_of_ble_eq_true rfl) hS (lv_sub hl [0, 3] rfl)
    · obtain rfl : x_7 = 8 := Int32.toInt_inj.mp (c_8.trans (by decide))
      refine lv_tableIn (tgt := 442) hx hb dL_law_33 (by decide) (by decide) rfl (by decide) ?_
      refine lv_aload_n hx hb dL_law_442 rfl (lv_at hl 2 rfl) ?_
      refine lv_aload_n hx hb dL_law_443 rfl (lv_at hl 3 rfl) ?_
      refine lv_iload_n hx hb dL_law_444 rfl (lv_at hl 0 rfl) ?_
      refine lv_iconst (v := 1) hx hb dL_law_445 (by decide) ?_
      refine lv_iadd hx hb dL_law_446 ?_
      refine lv_topi (fun x_87 ex_87 => ?_)
      obtain rfl : x_87 = 1 := ex_87.trans (by decide)
      refine va_sld hx hb hX hbl hbA hS (show ¬ ((1 : Int32) < 0 ∨ 6 ≤ (1 : Int32).toNatClampNeg) by decide) dL_law_447 ?_
      have hPc := hP.sub (ws' := [(q1, .inr (11, [.ref n0, .ref st, .ref la, .int 0, .int 0, .int 0, .int (-1), .int 0]))]) [0] rfl
      have hDc := hD.sub (ws' := [(q1, .inr (11, [.ref n0, .ref st, .ref la, .int 0, .int 0, .int 0, .int (-1), .int 0]))]) [0] (by decide) rfl
      have hKc := hK.sub (tys' := []) [] rfl
      have hFc := va_free (wc := [(q1, .inr (11, [.ref n0, .ref st, .ref la, .int 0, .int 0, .int 0, .int (-1), .int 0]))]) hD hS hA [0] rfl
      refine va_calli (va_runV (As := [.int (xs (Int32.toNatClampNeg 1))]) (rest := []) ⟨hx, hb, hml, hown, hts⟩ (c_X10_pass l dC dI (q1) (n0) (st) (la) ((xs (Int32.toNatClampNeg 1))) H.size) (cwV 1 hts g_law_c_X10_pass_50 rfl rfl rfl (by decide +kernel) ⟨Nat.le_of_ble_eq_true rfl, Nat.le_of_ble_eq_true rfl⟩) ⟨fun a U g mk q => by obtain ⟨q0, q1, qP, qK, qD, qE⟩ := q; exact ⟨q0, q1, qP, va_K.moved (u := U) (U := U.calling g mk a) (Vm.Alike.refl U.vm) qK, qD, ev.same (u := U) (U := U.calling g mk a) rfl qE⟩, va_recv hKc hPc (ci := 11) (q0 := 0) rfl rfl, fun U hU hW => ⟨rfl, by rw [hU], by rw [hU]; exact hPc, va_K.moved hW.alike hKc, hDc.weaken (fun _ _ _ _ => trivial), hE.warm hW⟩⟩ rfl rfl hl.1 rfl (lv_room (Nat.le_of_ble_eq_true rfl)) dL_law_448 ⟨Nat.le_of_ble_eq_true rfl, Nat.le_of_ble_eq_true rfl⟩) hS (fun q _ h => hFc q h) hFc (fun r_88 u t H1 locs ht hvm hw hB hz1 hk1 hS => ?_)
      clear hPc hDc hKc
      obtain ⟨hP, hD⟩ := va_join (wr := [(n0, .inl (cN, 8, .inr (.inr (.inr (.inr (fun _ => none)))))), (q3, .inr (12, fs)), (a2, .inl (c2, 8, .inr (.inl (fun _ => 0)))), (a3, .inl (c3, 8, .inl (fun _ => 0))), (a4, .inl (c4, 8, .inl (fun _ => 0))), (a5, .inl (c5, 8, .inl (fun _ => 0))), (a6, .inl (c6, 8, .inl (fun _ => 0)))]) (w1 := []) hP hD [0] [1, 2, 3, 4, 5, 6, 7] rfl rfl (by decide) (by decide) hk1 hFc p_nil d_nil
      generalize H1 = H at hP hS ⊢
      replace hP : va_P (dC, dI) vwCl [(n0, .inl (cN, 8, .inr (.inr (.inr (.inr (fun _ => none)))))), (q3, .inr (12, fs)), (a2, .inl (c2, 8, .inr (.inl (fun _ => 0)))), (a3, .inl (c3, 8, .inl (fun _ => 0))), (a4, .inl (c4, 8, .inl (fun _ => 0))), (a5, .inl (c5, 8, .inl (fun _ => 0))), (a6, .inl (c6, 8, .inl (fun _ => 0)))] H := hP
      replace hD : va_D (fun q : Nat => s.heap.size ≤ q) [(n0, .inl (cN, 8, .inr (.inr (.inr (.inr (fun _ => none)))))), (q3, .inr (12, fs)), (a2, .inl (c2, 8, .inr (.inl (fun _ => 0)))), (a3, .inl (c3, 8, .inl (fun _ => 0))), (a4, .inl (c4, 8, .inl (fun _ => 0))), (a5, .inl (c5, 8, .inl (fun _ => 0))), (a6, .inl (c6, 8, .inl (fun _ => 0)))] := hD
      have er_88 := hw
      clear hw
      refine lv_aload_n hx hb dL_law_451 rfl (lv_at hl 1 rfl) ?_
      refine lv_aload_n hx hb dL_law_452 rfl (lv_at hl 3 rfl) ?_
      refine lv_iload_n hx hb dL_law_453 rfl (lv_at hl 0 rfl) ?_
      refine lv_iconst (v := 1) hx hb dL_law_454 (by decide) ?_
      refine lv_iadd hx hb dL_law_455 ?_
      refine lv_topi (fun x_89 ex_89 => ?_)
      obtain rfl : x_89 = 1 := ex_89.trans (by decide)
      refine va_sld hx hb hX hbl hbA hS (show ¬ ((1 : Int32) < 0 ∨ 6 ≤ (1 : Int32).toNatClampNeg) by decide) dL_law_456 ?_
      have hPc := hP.sub (ws' := [(q3, .inr (12, fs))]) [1] rfl
      have hDc := hD.sub (ws' := [(q3, .inr (12, fs))]) [1] (by decide) rfl
      have hKc := hK.sub (tys' := []) [] rfl
      have hFc := va_free (wc := [(q3, .inr (12, fs))]) hD hS hA [1] rfl
      refine va_calli (va_runV (As := [.int (xs (Int32.toNatClampNeg 1))]) (rest := [.int r_88]) ⟨hx, hb, hml, hown, hts⟩ (c_X11_pass l dC dI (q3) (fs) ((xs (Int32.toNatClampNeg 1))) H.size (hf0) (hf1) ((by rw [hlen]; decide))) (cwV 1 hts g_law_c_X11_pass_54 rfl rfl rfl (by decide +kernel) ⟨Nat.le_of_ble_eq_true rfl, Nat.le_of_ble_eq_true rfl⟩) ⟨fun a U g mk q => by obtain ⟨q0, q1, qP, qK, qD, qE⟩ := q; exact ⟨q0, q1, qP, va_K.moved (u := U) (U := U.calling g mk a) (Vm.Alike.refl U.vm) qK, qD, ev.same (u := U) (U := U.calling g mk a) rfl qE⟩, va_recv hKc hPc (ci := 12) (q0 := 0) rfl rfl, fun U hU hW => ⟨rfl, by rw [hU], by rw [hU]; exact hPc, va_K.moved hW.alike hKc, hDc.weaken (fun _ _ _ _ => trivial), hE.warm hW⟩⟩ rfl rfl hl.1 rfl (lv_room (Nat.le_of_ble_eq_true rfl)) dL_law_457 ⟨Nat.le_of_ble_eq_true rfl, Nat.le_of_ble_eq_true rfl⟩) hS (fun q _ h => hFc q h) hFc (fun r_90 u t H1 locs ht hvm hw hB hz1 hk1 hS => ?_)
      clear hPc hDc hKc
      obtain ⟨hP, hD⟩ := va_join (wr := [(n0, .inl (cN, 8, .inr (.inr (.inr (.inr (fun _ => none)))))), (a2, .inl (c2, 8, .inr (.inl (fun _ => 0)))), (a3, .inl (c3, 8, .inl (fun _ => 0))), (a4, .inl (c4, 8, .inl (fun _ => 0))), (a5, .inl (c5, 8, .inl (fun _ => 0))), (a6, .inl (c6, 8, .inl (fun _ => 0)))]) (w1 := []) hP hD [1] [0, 2, 3, 4, 5, 6] rfl rfl (by decide) (by decide) hk1 hFc p_nil d_nil
      generalize H1 = H at hP hS ⊢
      replace hP : va_P (dC, dI) vwCl [(n0, .inl (cN, 8, .inr (.inr (.inr (.inr (fun _ => none)))))), (a2, .inl (c2, 8, .inr (.inl (fun _ => 0)))), (a3, .inl (c3, 8, .inl (fun _ => 0))), (a4, .inl (c4, 8, .inl (fun _ => 0))), (a5, .inl (c5, 8, .inl (fun _ => 0))), (a6, .inl (c6, 8, .inl (fun _ => 0)))] H := hP
      replace hD : va_D (fun q : Nat => s.heap.size ≤ q) [(n0, .inl (cN, 8, .inr (.inr (.inr (.inr (fun _ => none)))))), (a2, .inl (c2, 8, .inr (.inl (fun _ => 0)))), (a3, .inl (c3, 8, .inl (fun _ => 0))), (a4, .inl (c4, 8, .inl (fun _ => 0))), (a5, .inl (c5, 8, .inl (fun _ => 0))), (a6, .inl (c6, 8, .inl (fun _ => 0)))] := hD
      have er_90 := hw
      clear hw
      refine lv_icmp_eq (tgt := 686) hx hb dL_law_460 (by decide) (fun c_91 => ?_) (fun c_91 => ?_)
      rotate_left
      · exact absurd (er_88.trans er_90.symm) c_91
      refine lv_iinc (v := 6) (lv' := [(3, .int 6), (2, .ref q3), (1, .ref q1), (0, .ref b)]) hx hb dL_law_686 hl (k := 0) rfl (by decide) (by decide) rfl (fun ls hl => ?_)
      refine lv_goto (tgt := 18) hx hb dL_law_689 (by decide) ?_
      exact law_end hL C0 (Nat.le_of_ble_eq_true rfl) (Nat.le_of_ble_eq_true rfl) hS (lv_sub hl [0, 3] rfl)
    · obtain rfl : x_7 = 9 := Int32.toInt_inj.mp (c_8.trans (by decide))
      refine lv_tableIn (tgt := 465) hx hb dL_law_33 (by decide) (by decide) rfl (by decide) ?_
      refine lv_aload_n hx hb dL_law_465 rfl (lv_at hl 2 rfl) ?_
      refine lv_aload_n hx hb dL_law_466 rfl (lv_at hl 3 rfl) ?_
      refine lv_iload_n hx hb dL_law_467 rfl (lv_at hl 0 rfl) ?_
      refine lv_iconst (v := 1) hx hb dL_law_468 (by decide) ?_
      refine lv_iadd hx hb dL_law_469 ?_
      refine lv_topi (fun x_92 ex_92 => ?_)
      obtain rfl : x_92 = 1 := ex_92.trans (by decide)
      refine va_sld hx hb hX hbl hbA hS (show ¬ ((1 : Int32) < 0 ∨ 6 ≤ (1 : Int32).toNatClampNeg) by decide) dL_law_470 ?_
      refine lv_aload_n hx hb dL_law_471 rfl (lv_at hl 3 rfl) ?_
      refine lv_iload_n hx hb dL_law_472 rfl (lv_at hl 0 rfl) ?_
      refine lv_iconst (v := 2) hx hb dL_law_473 (by decide) ?_
      refine lv_iadd hx hb dL_law_474 ?_
      refine lv_topi (fun x_93 ex_93 => ?_)
      obtain rfl : x_93 = 2 := ex_93.trans (by decide)
      refine va_sld hx hb hX hbl hbA hS (show ¬ ((2 : Int32) < 0 ∨ 6 ≤ (2 : Int32).toNatClampNeg) by decide) dL_law_475 ?_
      have hPc := hP.sub (ws' := [(q1, .inr (11, [.ref n0, .ref st, .ref la, .int 0, .int 0, .int 0, .int (-1), .int 0]))]) [0] rfl
      have hDc := hD.sub (ws' := [(q1, .inr (11, [.ref n0, .ref st, .ref la, .int 0, .int 0, .int 0, .int (-1), .int 0]))]) [0] (by decide) rfl
      have hKc := hK.sub (tys' := []) [] rfl
      have hFc := ro_free hS hA
      refine va_calli (va_runV (As := [.int (xs (Int32.toNatClampNeg 1)), .int (xs (Int32.toNatClampNeg 2))]) (rest := []) ⟨hx, hb, hml, hown, hts⟩ (c_X10_told l dC dI (q1) (n0) (st) (la) (0) ((xs (Int32.toNatClampNeg 1))) ((xs (Int32.toNatClampNeg 2))) H.size) (cwV 2 hts g_law_c_X10_told_55 rfl rfl rfl (by decide +kernel) ⟨Nat.le_of_ble_eq_true rfl, Nat.le_of_ble_eq_true rfl⟩) ⟨fun a U g mk q => by obtain ⟨q0, q1, qP, qK, qD, qE⟩ := q; exact ⟨q0, q1, qP, va_K.moved (u := U) (U := U.calling g mk a) (Vm.Alike.refl U.vm) qK, qD, ev.same (u := U) (U := U.calling g mk a) rfl qE⟩, va_recv hKc hPc (ci := 11) (q0 := 0) rfl rfl, fun U hU hW => ⟨rfl, by rw [hU], by rw [hU]; exact hPc, va_K.moved hW.alike hKc, hDc.weaken (fun _ _ _ _ => trivial), hE.warm hW⟩⟩ rfl rfl hl.1 rfl (lv_room (Nat.le_of_ble_eq_true rfl)) dL_law_476 ⟨Nat.le_of_ble_eq_true rfl, Nat.le_of_ble_eq_true rfl⟩) hS (fun q _ h => hFc q h) hFc (fun r_94 u t H1 locs ht hvm hw hB hz1 hk1 hS => ?_)
      clear hPc hDc hKc
      replace hP := ro_keep hP hk1
      generalize H1 = H at hP hS ⊢
      replace hP : va_P (dC, dI) vwCl [(q1, .inr (11, [.ref n0, .ref st, .ref la, .int 0, .int 0, .int 0, .int (-1), .int 0])), (n0, .inl (cN, 8, .inr (.inr (.inr (.inr (fun _ => none)))))), (q3, .inr (12, fs)), (a2, .inl (c2, 8, .inr (.inl (fun _ => 0)))), (a3, .inl (c3, 8, .inl (fun _ => 0))), (a4, .inl (c4, 8, .inl (fun _ => 0))), (a5, .inl (c5, 8, .inl (fun _ => 0))), (a6, .inl (c6, 8, .inl (fun _ => 0)))] H := hP
      have hw := hw.symm
      subst hw
      refine lv_aload_n hx hb dL_law_479 rfl (lv_at hl 1 rfl) ?_
      refine lv_aload_n hx hb dL_law_480 rfl (lv_at hl 3 rfl) ?_
      refine lv_iload_n hx hb dL_law_481 rfl (lv_at hl 0 rfl) ?_
      refine lv_iconst (v := 1) hx hb dL_law_482 (by decide) ?_
      refine lv_iadd hx hb dL_law_483 ?_
      refine lv_topi (fun x_95 ex_95 => ?_)
      obtain rfl : x_95 = 1 := ex_95.trans (by decide)
      refine va_sld hx hb hX hbl hbA hS (show ¬ ((1 : Int32) < 0 ∨ 6 ≤ (1 : Int32).toNatClampNeg) by decide) dL_law_484 ?_
      refine lv_aload_n hx hb dL_law_485 rfl (lv_at hl 3 rfl) ?_
      refine lv_iload_n hx hb dL_law_486 rfl (lv_at hl 0 rfl) ?_
      refine lv_iconst (v := 2) hx hb dL_law_487 (by decide) ?_
      refine lv_iadd hx hb dL_law_488 ?_
      refine lv_topi (fun x_96 ex_96 => ?_)
      obtain rfl : x_96 = 2 := ex_96.trans (by decide)
      refine va_sld hx hb hX hbl hbA hS (show ¬ ((2 : Int32) < 0 ∨ 6 ≤ (2 : Int32).toNatClampNeg) by decide) dL_law_489 ?_
      have hPc := hP.sub (ws' := [(q3, .inr (12, fs))]) [2] rfl
      have hDc := hD.sub (ws' := [(q3, .inr (12, fs))]) [2] (by decide) rfl
      have hKc := hK.sub (tys' := []) [] rfl
      have hFc := ro_free hS hA
      refine va_calli (va_runV (As := [.int (xs (Int32.toNatClampNeg 1)), .int (xs (Int32.toNatClampNeg 2))]) (rest := [.int (-1)]) ⟨hx, hb, hml, hown, hts⟩ (c_X11_told l dC dI (q3) (fs) ((xs (Int32.toNatClampNeg 1))) ((xs (Int32.toNatClampNeg 2))) H.size (hf0)) (cwV 2 hts g_law_c_X11_told_59 rfl rfl rfl (by decide +kernel) ⟨Nat.le_of_ble_eq_true rfl, Nat.le_of_ble_eq_true rfl⟩) ⟨fun a U g mk q => by obtain ⟨q0, q1, qP, qK, qD, qE⟩ := q; exact ⟨q0, q1, qP, va_K.moved (u := U) (U := U.calling g mk a) (Vm.Alike.refl U.vm) qK, qD, ev.same (u := U) (U := U.calling g mk a) rfl qE⟩, va_recv hKc hPc (ci := 12) (q0 := 0) rfl rfl, fun U hU hW => ⟨rfl, by rw [hU], by rw [hU]; exact hPc, va_K.moved hW.alike hKc, hDc.weaken (fun _ _ _ _ => trivial), hE.warm hW⟩⟩ rfl rfl hl.1 rfl (lv_room (Nat.le_of_ble_eq_true rfl)) dL_law_490 ⟨Nat.le_of_ble_eq_true rfl, Nat.le_of_ble_eq_true rfl⟩) hS (fun q _ h => hFc q h) hFc (fun r_97 u t H1 locs ht hvm hw hB hz1 hk1 hS => ?_)
      clear hPc hDc hKc
      replace hP := ro_keep hP hk1
      generalize H1 = H at hP hS ⊢
      replace hP : va_P (dC, dI) vwCl [(q1, .inr (11, [.ref n0, .ref st, .ref la, .int 0, .int 0, .int 0, .int (-1), .int 0])), (n0, .inl (cN, 8, .inr (.inr (.inr (.inr (fun _ => none)))))), (q3, .inr (12, fs)), (a2, .inl (c2, 8, .inr (.inl (fun _ => 0)))), (a3, .inl (c3, 8, .inl (fun _ => 0))), (a4, .inl (c4, 8, .inl (fun _ => 0))), (a5, .inl (c5, 8, .inl (fun _ => 0))), (a6, .inl (c6, 8, .inl (fun _ => 0)))] H := hP
      have hw := hw.symm
      subst hw
      refine lv_icmp_eq (tgt := 686) hx hb dL_law_493 (by decide) (fun c_98 => ?_) (fun c_98 => ?_)
      rotate_left
      · exact absurd (by decide) c_98
      refine lv_iinc (v := 6) (lv' := [(3, .int 6), (2, .ref q3), (1, .ref q1), (0, .ref b)]) hx hb dL_law_686 hl (k := 0) rfl (by decide) (by decide) rfl (fun ls hl => ?_)
      refine lv_goto (tgt := 18) hx hb dL_law_689 (by decide) ?_
      exact law_end hL C0 (Nat.le_of_ble_eq_true rfl) (Nat.le_of_ble_eq_true rfl) hS (lv_sub hl [0, 3] rfl)
    · obtain rfl : x_7 = 10 := Int32.toInt_inj.mp (c_8.trans (by decide))
      refine lv_tableIn (tgt := 498) hx hb dL_law_33 (by decide) (by decide) rfl (by decide) ?_
      refine lv_aload_n hx hb dL_law_498 rfl (lv_at hl 2 rfl) ?_
      refine lv_aload_n hx hb dL_law_499 rfl (lv_at hl 3 rfl) ?_
      refine lv_iload_n hx hb dL_law_500 rfl (lv_at hl 0 rfl) ?_
      refine lv_iconst (v := 1) hx hb dL_law_501 (by decide) ?_
      refine lv_iadd hx hb dL_law_502 ?_
      refine lv_topi (fun x_99 ex_99 => ?_)
      obtain rfl : x_99 = 1 := ex_99.trans (by decide)
      refine va_sld hx hb hX hbl hbA hS (show ¬ ((1 : Int32) < 0 ∨ 6 ≤ (1 : Int32).toNatClampNeg) by decide) dL_law_503 ?_
      refine lv_aload_n hx hb dL_law_504 rfl (lv_at hl 3 rfl) ?_
      refine lv_iload_n hx hb dL_law_505 rfl (lv_at hl 0 rfl) ?_
      refine lv_iconst (v := 2) hx hb dL_law_506 (by decide) ?_
      refine lv_iadd hx hb dL_law_507 ?_
      refine lv_topi (fun x_100 ex_100 => ?_)
      obtain rfl : x_100 = 2 := ex_100.trans (by decide)
      refine va_sld hx hb hX hbl hbA hS (show ¬ ((2 : Int32) < 0 ∨ 6 ≤ (2 : Int32).toNatClampNeg) by decide) dL_law_508 ?_
      have hPc := hP.sub (ws' := [(q1, .inr (11, [.ref n0, .ref st, .ref la, .int 0, .int 0, .int 0, .int (-1), .int 0]))]) [0] rfl
      have hDc := hD.sub (ws' := [(q1, .inr (11, [.ref n0, .ref st, .ref la, .int 0, .int 0, .int 0, .int (-1), .int 0]))]) [0] (by decide) rfl
      have hKc := hK.sub (tys' := []) [] rfl
      have hFc := ro_free hS hA
      refine va_calli (va_runV (As := [.int (xs (Int32.toNatClampNeg 1)), .int (xs (Int32.toNatClampNeg 2))]) (rest := []) ⟨hx, hb, hml, hown, hts⟩ (c_X10_table l dC dI (q1) (n0) (st) (la) (0) ((xs (Int32.toNatClampNeg 1))) ((xs (Int32.toNatClampNeg 2))) H.size) (cwV 2 hts g_law_c_X10_table_60 rfl rfl rfl (by decide +kernel) ⟨Nat.le_of_ble_eq_true rfl, Nat.le_of_ble_eq_true rfl⟩) ⟨fun a U g mk q => by obtain ⟨q0, q1, qP, qK, qD, qE⟩ := q; exact ⟨q0, q1, qP, va_K.moved (u := U) (U := U.calling g mk a) (Vm.Alike.refl U.vm) qK, qD, ev.same (u := U) (U := U.calling g mk a) rfl qE⟩, va_recv hKc hPc (ci := 11) (q0 := 0) rfl rfl, fun U hU hW => ⟨rfl, by rw [hU], by rw [hU]; exact hPc, va_K.moved hW.alike hKc, hDc.weaken (fun _ _ _ _ => trivial), hE.warm hW⟩⟩ rfl rfl hl.1 rfl (lv_room (Nat.le_of_ble_eq_true rfl)) dL_law_509 ⟨Nat.le_of_ble_eq_true rfl, Nat.le_of_ble_eq_true rfl⟩) hS (fun q _ h => hFc q h) hFc (fun r_101 u t H1 locs ht hvm hw hB hz1 hk1 hS => ?_)
      clear hPc hDc hKc
      replace hP := ro_keep hP hk1
      generalize H1 = H at hP hS ⊢
      replace hP : va_P (dC, dI) vwCl [(q1, .inr (11, [.ref n0, .ref st, .ref la, .int 0, .int 0, .int 0, .int (-1), .int 0])), (n0, .inl (cN, 8, .inr (.inr (.inr (.inr (fun _ => none)))))), (q3, .inr (12, fs)), (a2, .inl (c2, 8, .inr (.inl (fun _ => 0)))), (a3, .inl (c3, 8, .inl (fun _ => 0))), (a4, .inl (c4, 8, .inl (fun _ => 0))), (a5, .inl (c5, 8, .inl (fun _ => 0))), (a6, .inl (c6, 8, .inl (fun _ => 0)))] H := hP
      have hw := hw.symm
      subst hw
      refine lv_aload_n hx hb dL_law_512 rfl (lv_at hl 1 rfl) ?_
      refine lv_aload_n hx hb dL_law_513 rfl (lv_at hl 3 rfl) ?_
      refine lv_iload_n hx hb dL_law_514 rfl (lv_at hl 0 rfl) ?_
      refine lv_iconst (v := 1) hx hb dL_law_515 (by decide) ?_
      refine lv_iadd hx hb dL_law_516 ?_
      refine lv_topi (fun x_102 ex_102 => ?_)
      obtain rfl : x_102 = 1 := ex_102.trans (by decide)
      refine va_sld hx hb hX hbl hbA hS (show ¬ ((1 : Int32) < 0 ∨ 6 ≤ (1 : Int32).toNatClampNeg) by decide) dL_law_517 ?_
      refine lv_aload_n hx hb dL_law_518 rfl (lv_at hl 3 rfl) ?_
      refine lv_iload_n hx hb dL_law_519 rfl (lv_at hl 0 rfl) ?_
      refine lv_iconst (v := 2) hx hb dL_law_520 (by decide) ?_
      refine lv_iadd hx hb dL_law_521 ?_
      refine lv_topi (fun x_103 ex_103 => ?_)
      obtain rfl : x_103 = 2 := ex_103.trans (by decide)
      refine va_sld hx hb hX hbl hbA hS (show ¬ ((2 : Int32) < 0 ∨ 6 ≤ (2 : Int32).toNatClampNeg) by decide) dL_law_522 ?_
      have hPc := hP.sub (ws' := [(q3, .inr (12, fs))]) [2] rfl
      have hDc := hD.sub (ws' := [(q3, .inr (12, fs))]) [2] (by decide) rfl
      have hKc := hK.sub (tys' := []) [] rfl
      have hFc := ro_free hS hA
      refine va_calli (va_runV (As := [.int (xs (Int32.toNatClampNeg 1)), .int (xs (Int32.toNatClampNeg 2))]) (rest := [.int (-1)]) ⟨hx, hb, hml, hown, hts⟩ (c_X11_table l dC dI (q3) (fs) ((xs (Int32.toNatClampNeg 1))) ((xs (Int32.toNatClampNeg 2))) H.size (hf0)) (cwV 2 hts g_law_c_X11_table_63 rfl rfl rfl (by decide +kernel) ⟨Nat.le_of_ble_eq_true rfl, Nat.le_of_ble_eq_true rfl⟩) ⟨fun a U g mk q => by obtain ⟨q0, q1, qP, qK, qD, qE⟩ := q; exact ⟨q0, q1, qP, va_K.moved (u := U) (U := U.calling g mk a) (Vm.Alike.refl U.vm) qK, qD, ev.same (u := U) (U := U.calling g mk a) rfl qE⟩, va_recv hKc hPc (ci := 12) (q0 := 0) rfl rfl, fun U hU hW => ⟨rfl, by rw [hU], by rw [hU]; exact hPc, va_K.moved hW.alike hKc, hDc.weaken (fun _ _ _ _ => trivial), hE.warm hW⟩⟩ rfl rfl hl.1 rfl (lv_room (Nat.le_of_ble_eq_true rfl)) dL_law_523 ⟨Nat.le_of_ble_eq_true rfl, Nat.le_of_ble_eq_true rfl⟩) hS (fun q _ h => hFc q h) hFc (fun r_104 u t H1 locs ht hvm hw hB hz1 hk1 hS => ?_)
      clear hPc hDc hKc
      replace hP := ro_keep hP hk1
      generalize H1 = H at hP hS ⊢
      replace hP : va_P (dC, dI) vwCl [(q1, .inr (11, [.ref n0, .ref st, .ref la, .int 0, .int 0, .int 0, .int (-1), .int 0])), (n0, .inl (cN, 8, .inr (.inr (.inr (.inr (fun _ => none)))))), (q3, .inr (12, fs)), (a2, .inl (c2, 8, .inr (.inl (fun _ => 0)))), (a3, .inl (c3, 8, .inl (fun _ => 0))), (a4, .inl (c4, 8, .inl (fun _ => 0))), (a5, .inl (c5, 8, .inl (fun _ => 0))), (a6, .inl (c6, 8, .inl (fun _ => 0)))] H := hP
      have hw := hw.symm
      subst hw
      refine lv_icmp_eq (tgt := 686) hx hb dL_law_526 (by decide) (fun c_105 => ?_) (fun c_105 => ?_)
      rotate_left
      · exact absurd (by decide) c_105
      refine lv_iinc (v := 6) (lv' := [(3, .int 6), (2, .ref q3), (1, .ref q1), (0, .ref b)]) hx hb dL_law_686 hl (k := 0) rfl (by decide) (by decide) rfl (fun ls hl => ?_)
      refine lv_goto (tgt := 18) hx hb dL_law_689 (by decide) ?_
      exact law_end hL C0 (Nat.le_of_ble_eq_true rfl) (Nat.le_of_ble_eq_true rfl) hS (lv_sub hl [0, 3] rfl)
    · obtain rfl : x_7 = 11 := Int32.toInt_inj.mp (c_8.trans (by decide))
      refine lv_tableIn (tgt := 531) hx hb dL_law_33 (by decide) (by decide) rfl (by decide) ?_
      refine lv_aload_n hx hb dL_law_531 rfl (lv_at hl 2 rfl) ?_
      refine lv_aload_n hx hb dL_law_532 rfl (lv_at hl 3 rfl) ?_
      refine lv_iload_n hx hb dL_law_533 rfl (lv_at hl 0 rfl) ?_
      refine lv_iconst (v := 1) hx hb dL_law_534 (by decide) ?_
      refine lv_iadd hx hb dL_law_535 ?_
      refine lv_topi (fun x_106 ex_106 => ?_)
      obtain rfl : x_106 = 1 := ex_106.trans (by decide)
      refine va_sld hx hb hX hbl hbA hS (show ¬ ((1 : Int32) < 0 ∨ 6 ≤ (1 : Int32).toNatClampNeg) by decide) dL_law_536 ?_
      refine lv_aload_n hx hb dL_law_537 rfl (lv_at hl 3 rfl) ?_
      refine lv_iload_n hx hb dL_law_538 rfl (lv_at hl 0 rfl) ?_
      refine lv_iconst (v := 2) hx hb dL_law_539 (by decide) ?_
      refine lv_iadd hx hb dL_law_540 ?_
      refine lv_topi (fun x_107 ex_107 => ?_)
      obtain rfl : x_107 = 2 := ex_107.trans (by decide)
      refine va_sld hx hb hX hbl hbA hS (show ¬ ((2 : Int32) < 0 ∨ 6 ≤ (2 : Int32).toNatClampNeg) by decide) dL_law_541 ?_
      refine lv_aload_n hx hb dL_law_542 rfl (lv_at hl 3 rfl) ?_
      refine lv_iload_n hx hb dL_law_543 rfl (lv_at hl 0 rfl) ?_
      refine lv_iconst (v := 3) hx hb dL_law_544 (by decide) ?_
      refine lv_iadd hx hb dL_law_545 ?_
      refine lv_topi (fun x_108 ex_108 => ?_)
      obtain rfl : x_108 = 3 := ex_108.trans (by decide)
      refine va_sld hx hb hX hbl hbA hS (show ¬ ((3 : Int32) < 0 ∨ 6 ≤ (3 : Int32).toNatClampNeg) by decide) dL_law_546 ?_
      have hPc := hP.sub (ws' := [(q1, .inr (11, [.ref n0, .ref st, .ref la, .int 0, .int 0, .int 0, .int (-1), .int 0]))]) [0] rfl
      have hDc := hD.sub (ws' := [(q1, .inr (11, [.ref n0, .ref st, .ref la, .int 0, .int 0, .int 0, .int (-1), .int 0]))]) [0] (by decide) rfl
      have hKc := hK.sub (tys' := []) [] rfl
      have hFc := ro_free hS hA
      refine va_calli (va_runV (As := [.int (xs (Int32.toNatClampNeg 1)), .int (xs (Int32.toNatClampNeg 2)), .int (xs (Int32.toNatClampNeg 3))]) (rest := []) ⟨hx, hb, hml, hown, hts⟩ (c_X10_message l dC dI (q1) (n0) (st) (la) (0) ((xs (Int32.toNatClampNeg 1))) ((xs (Int32.toNatClampNeg 2))) ((xs (Int32.toNatClampNeg 3))) H.size) (cwV 3 hts g_law_c_X10_message_64 rfl rfl rfl (by decide +kernel) ⟨Nat.le_of_ble_eq_true rfl, Nat.le_of_ble_eq_true rfl⟩) ⟨fun a U g mk q => by obtain ⟨q0, q1, qP, qK, qD, qE⟩ := q; exact ⟨q0, q1, qP, va_K.moved (u := U) (U := U.calling g mk a) (Vm.Alike.refl U.vm) qK, qD, ev.same (u := U) (U := U.calling g mk a) rfl qE⟩, va_recv hKc hPc (ci := 11) (q0 := 0) rfl rfl, fun U hU hW => ⟨rfl, by rw [hU], by rw [hU]; exact hPc, va_K.moved hW.alike hKc, hDc.weaken (fun _ _ _ _ => trivial), hE.warm hW⟩⟩ rfl rfl hl.1 rfl (lv_room (Nat.le_of_ble_eq_true rfl)) dL_law_547 ⟨Nat.le_of_ble_eq_true rfl, Nat.le_of_ble_eq_true rfl⟩) hS (fun q _ h => hFc q h) hFc (fun r_109 u t H1 locs ht hvm hw hB hz1 hk1 hS => ?_)
      clear hPc hDc hKc
      replace hP := ro_keep hP hk1
      generalize H1 = H at hP hS ⊢
      replace hP : va_P (dC, dI) vwCl [(q1, .inr (11, [.ref n0, .ref st, .ref la, .int 0, .int 0, .int 0, .int (-1), .int 0])), (n0, .inl (cN, 8, .inr (.inr (.inr (.inr (fun _ => none)))))), (q3, .inr (12, fs)), (a2, .inl (c2, 8, .inr (.inl (fun _ => 0)))), (a3, .inl (c3, 8, .inl (fun _ => 0))), (a4, .inl (c4, 8, .inl (fun _ => 0))), (a5, .inl (c5, 8, .inl (fun _ => 0))), (a6, .inl (c6, 8, .inl (fun _ => 0)))] H := hP
      have hw := hw.symm
      subst hw
      refine lv_aload_n hx hb dL_law_550 rfl (lv_at hl 1 rfl) ?_
      refine lv_aload_n hx hb dL_law_551 rfl (lv_at hl 3 rfl) ?_
      refine lv_iload_n hx hb dL_law_552 rfl (lv_at hl 0 rfl) ?_
      refine lv_iconst (v := 1) hx hb dL_law_553 (by decide) ?_
      refine lv_iadd hx hb dL_law_554 ?_
      refine lv_topi (fun x_110 ex_110 => ?_)
      obtain rfl : x_110 = 1 := ex_110.trans (by decide)
      refine va_sld hx hb hX hbl hbA hS (show ¬ ((1 : Int32) < 0 ∨ 6 ≤ (1 : Int32).toNatClampNeg) by decide) dL_law_555 ?_
      refine lv_aload_n hx hb dL_law_556 rfl (lv_at hl 3 rfl) ?_
      refine lv_iload_n hx hb dL_law_557 rfl (lv_at hl 0 rfl) ?_
      refine lv_iconst (v := 2) hx hb dL_law_558 (by decide) ?_
      refine lv_iadd hx hb dL_law_559 ?_
      refine lv_topi (fun x_111 ex_111 => ?_)
      obtain rfl : x_111 = 2 := ex_111.trans (by decide)
      refine va_sld hx hb hX hbl hbA hS (show ¬ ((2 : Int32) < 0 ∨ 6 ≤ (2 : Int32).toNatClampNeg) by decide) dL_law_560 ?_
      refine lv_aload_n hx hb dL_law_561 rfl (lv_at hl 3 rfl) ?_
      refine lv_iload_n hx hb dL_law_562 rfl (lv_at hl 0 rfl) ?_
      refine lv_iconst (v := 3) hx hb dL_law_563 (by decide) ?_
      refine lv_iadd hx hb dL_law_564 ?_
      refine lv_topi (fun x_112 ex_112 => ?_)
      obtain rfl : x_112 = 3 := ex_112.trans (by decide)
      refine va_sld hx hb hX hbl hbA hS (show ¬ ((3 : Int32) < 0 ∨ 6 ≤ (3 : Int32).toNatClampNeg) by decide) dL_law_565 ?_
      have hPc := hP.sub (ws' := [(q3, .inr (12, fs))]) [2] rfl
      have hDc := hD.sub (ws' := [(q3, .inr (12, fs))]) [2] (by decide) rfl
      have hKc := hK.sub (tys' := []) [] rfl
      have hFc := ro_free hS hA
      refine va_calli (va_runV (As := [.int (xs (Int32.toNatClampNeg 1)), .int (xs (Int32.toNatClampNeg 2)), .int (xs (Int32.toNatClampNeg 3))]) (rest := [.int (-1)]) ⟨hx, hb, hml, hown, hts⟩ (c_X11_message l dC dI (q3) (fs) ((xs (Int32.toNatClampNeg 1))) ((xs (Int32.toNatClampNeg 2))) ((xs (Int32.toNatClampNeg 3))) H.size (hf0)) (cwV 3 hts g_law_c_X11_message_68 rfl rfl rfl (by decide +kernel) ⟨Nat.le_of_ble_eq_true rfl, Nat.le_of_ble_eq_true rfl⟩) ⟨fun a U g mk q => by obtain ⟨q0, q1, qP, qK, qD, qE⟩ := q; exact ⟨q0, q1, qP, va_K.moved (u := U) (U := U.calling g mk a) (Vm.Alike.refl U.vm) qK, qD, ev.same (u := U) (U := U.calling g mk a) rfl qE⟩, va_recv hKc hPc (ci := 12) (q0 := 0) rfl rfl, fun U hU hW => ⟨rfl, by rw [hU], by rw [hU]; exact hPc, va_K.moved hW.alike hKc, hDc.weaken (fun _ _ _ _ => trivial), hE.warm hW⟩⟩ rfl rfl hl.1 rfl (lv_room (Nat.le_of_ble_eq_true rfl)) dL_law_566 ⟨Nat.le_of_ble_eq_true rfl, Nat.le_of_ble_eq_true rfl⟩) hS (fun q _ h => hFc q h) hFc (fun r_113 u t H1 locs ht hvm hw hB hz1 hk1 hS => ?_)
      clear hPc hDc hKc
      replace hP := ro_keep hP hk1
      generalize H1 = H at hP hS ⊢
      replace hP : va_P (dC, dI) vwCl [(q1, .inr (11, [.ref n0, .ref st, .ref la, .int 0, .int 0, .int 0, .int (-1), .int 0])), (n0, .inl (cN, 8, .inr (.inr (.inr (.inr (fun _ => none)))))), (q3, .inr (12, fs)), (a2, .inl (c2, 8, .inr (.inl (fun _ => 0)))), (a3, .inl (c3, 8, .inl (fun _ => 0))), (a4, .inl (c4, 8, .inl (fun _ => 0))), (a5, .inl (c5, 8, .inl (fun _ => 0))), (a6, .inl (c6, 8, .inl (fun _ => 0)))] H := hP
      have hw := hw.symm
      subst hw
      refine lv_icmp_eq (tgt := 686) hx hb dL_law_569 (by decide) (fun c_114 => ?_) (fun c_114 => ?_)
      rotate_left
      · exact absurd (by decide) c_114
      refine lv_iinc (v := 6) (lv' := [(3, .int 6), (2, .ref q3), (1, .ref q1), (0, .ref b)]) hx hb dL_law_686 hl (k := 0) rfl (by decide) (by decide) rfl (fun ls hl => ?_)
      refine lv_goto (tgt := 18) hx hb dL_law_689 (by decide) ?_
      exact law_end hL C0 (Nat.le_of_ble_eq_true rfl) (Nat.le_of_ble_eq_true rfl) hS (lv_sub hl [0, 3] rfl)
    · obtain rfl : x_7 = 12 := Int32.toInt_inj.mp (c_8.trans (by decide))
      refine lv_tableIn (tgt := 574) hx hb dL_law_33 (by decide) (by decide) rfl (by decide) ?_
      refine lv_aload_n hx hb dL_law_574 rfl (lv_at hl 2 rfl) ?_
      refine lv_aload_n hx hb dL_law_575 rfl (lv_at hl 3 rfl) ?_
      refine lv_iload_n hx hb dL_law_576 rfl (lv_at hl 0 rfl) ?_
      refine lv_iconst (v := 1) hx hb dL_law_577 (by decide) ?_
      refine lv_iadd hx hb dL_law_578 ?_
      refine lv_topi (fun x_115 ex_115 => ?_)
      obtain rfl : x_115 = 1 := ex_115.trans (by decide)
      refine va_sld hx hb hX hbl hbA hS (show ¬ ((1 : Int32) < 0 ∨ 6 ≤ (1 : Int32).toNatClampNeg) by decide) dL_law_579 ?_
      refine lv_aload_n hx hb dL_law_580 rfl (lv_at hl 3 rfl) ?_
      refine lv_iload_n hx hb dL_law_581 rfl (lv_at hl 0 rfl) ?_
      refine lv_iconst (v := 2) hx hb dL_law_582 (by decide) ?_
      refine lv_iadd hx hb dL_law_583 ?_
      refine lv_topi (fun x_116 ex_116 => ?_)
      obtain rfl : x_116 = 2 := ex_116.trans (by decide)
      refine va_sld hx hb hX hbl hbA hS (show ¬ ((2 : Int32) < 0 ∨ 6 ≤ (2 : Int32).toNatClampNeg) by decide) dL_law_584 ?_
      refine lv_aload_n hx hb dL_law_585 rfl (lv_at hl 3 rfl) ?_
      refine lv_iload_n hx hb dL_law_586 rfl (lv_at hl 0 rfl) ?_
      refine lv_iconst (v := 3) hx hb dL_law_587 (by decide) ?_
      refine lv_iadd hx hb dL_law_588 ?_
      refine lv_topi (fun x_117 ex_117 => ?_)
      obtain rfl : x_117 = 3 := ex_117.trans (by decide)
      refine va_sld hx hb hX hbl hbA hS (show ¬ ((3 : Int32) < 0 ∨ 6 ≤ (3 : Int32).toNatClampNeg) by decide) dL_law_589 ?_
      refine lv_aload_n hx hb dL_law_590 rfl (lv_at hl 3 rfl) ?_
      refine lv_iload_n hx hb dL_law_591 rfl (lv_at hl 0 rfl) ?_
      refine lv_iconst (v := 4) hx hb dL_law_592 (by decide) ?_
      refine lv_iadd hx hb dL_law_593 ?_
      refine lv_topi (fun x_118 ex_118 => ?_)
      obtain rfl : x_118 = 4 := ex_118.trans (by decide)
      refine va_sld hx hb hX hbl hbA hS (show ¬ ((4 : Int32) < 0 ∨ 6 ≤ (4 : Int32).toNatClampNeg) by decide) dL_law_594 ?_
      have hPc := hP.sub (ws' := [(q1, .inr (11, [.ref n0, .ref st, .ref la, .int 0, .int 0, .int 0, .int (-1), .int 0]))]) [0] rfl
      have hDc := hD.sub (ws' := [(q1, .inr (11, [.ref n0, .ref st, .ref la, .int 0, .int 0, .int 0, .int (-1), .int 0]))]) [0] (by decide) rfl
      have hKc := hK.sub (tys' := []) [] rfl
      have hFc := ro_free hS hA
      refine va_calli (va_runV (As := [.int (xs (Int32.toNatClampNeg 1)), .int (xs (Int32.toNatClampNeg 2)), .int (xs (Int32.toNatClampNeg 3)), .int (xs (Int32.toNatClampNeg 4))]) (rest := []) ⟨hx, hb, hml, hown, hts⟩ (c_X10_kept l dC dI (q1) (n0) (st) (la) (0) ((xs (Int32.toNatClampNeg 1))) ((xs (Int32.toNatClampNeg 2))) ((xs (Int32.toNatClampNeg 3))) ((xs (Int32.toNatClampNeg 4))) H.size) (cwV 4 hts g_law_c_X10_kept_69 rfl rfl rfl (by decide +kernel) ⟨Nat.le_of_ble_eq_true rfl, Nat.le_of_ble_eq_true rfl⟩) ⟨fun a U g mk q => by obtain ⟨q0, q1, qP, qK, qD, qE⟩ := q; exact ⟨q0, q1, qP, va_K.moved (u := U) (U := U.calling g mk a) (Vm.Alike.refl U.vm) qK, qD, ev.same (u := U) (U := U.calling g mk a) rfl qE⟩, va_recv hKc hPc (ci := 11) (q0 := 0) rfl rfl, fun U hU hW => ⟨rfl, by rw [hU], by rw [hU]; exact hPc, va_K.moved hW.alike hKc, hDc.weaken (fun _ _ _ _ => trivial), hE.warm hW⟩⟩ rfl rfl hl.1 rfl (lv_room (Nat.le_of_ble_eq_true rfl)) dL_law_595 ⟨Nat.le_of_ble_eq_true rfl, Nat.le_of_ble_eq_true rfl⟩) hS (fun q _ h => hFc q h) hFc (fun r_119 u t H1 locs ht hvm hw hB hz1 hk1 hS => ?_)
      clear hPc hDc hKc
      replace hP := ro_keep hP hk1
      generalize H1 = H at hP hS ⊢
      replace hP : va_P (dC, dI) vwCl [(q1, .inr (11, [.ref n0, .ref st, .ref la, .int 0, .int 0, .int 0, .int (-1), .int 0])), (n0, .inl (cN, 8, .inr (.inr (.inr (.inr (fun _ => none)))))), (q3, .inr (12, fs)), (a2, .inl (c2, 8, .inr (.inl (fun _ => 0)))), (a3, .inl (c3, 8, .inl (fun _ => 0))), (a4, .inl (c4, 8, .inl (fun _ => 0))), (a5, .inl (c5, 8, .inl (fun _ => 0))), (a6, .inl (c6, 8, .inl (fun _ => 0)))] H := hP
      have hw := hw.symm
      subst hw
      refine lv_aload_n hx hb dL_law_598 rfl (lv_at hl 1 rfl) ?_
      refine lv_aload_n hx hb dL_law_599 rfl (lv_at hl 3 rfl) ?_
      refine lv_iload_n hx hb dL_law_600 rfl (lv_at hl 0 rfl) ?_
      refine lv_iconst (v := 1) hx hb dL_law_601 (by decide) ?_
      refine lv_iadd hx hb dL_law_602 ?_
      refine lv_topi (fun x_120 ex_120 => ?_)
      obtain rfl : x_120 = 1 := ex_120.trans (by decide)
      refine va_sld hx hb hX hbl hbA hS (show ¬ ((1 : Int32) < 0 ∨ 6 ≤ (1 : Int32).toNatClampNeg) by decide) dL_law_603 ?_
      refine lv_aload_n hx hb dL_law_604 rfl (lv_at hl 3 rfl) ?_
      refine lv_iload_n hx hb dL_law_605 rfl (lv_at hl 0 rfl) ?_
      refine lv_iconst (v := 2) hx hb dL_law_606 (by decide) ?_
      refine lv_iadd hx hb dL_law_607 ?_
      refine lv_topi (fun x_121 ex_121 => ?_)
      obtain rfl : x_121 = 2 := ex_121.trans (by decide)
      refine va_sld hx hb hX hbl hbA hS (show ¬ ((2 : Int32) < 0 ∨ 6 ≤ (2 : Int32).toNatClampNeg) by decide) dL_law_608 ?_
      refine lv_aload_n hx hb dL_law_609 rfl (lv_at hl 3 rfl) ?_
      refine lv_iload_n hx hb dL_law_610 rfl (lv_at hl 0 rfl) ?_
      refine lv_iconst (v := 3) hx hb dL_law_611 (by decide) ?_
      refine lv_iadd hx hb dL_law_612 ?_
      refine lv_topi (fun x_122 ex_122 => ?_)
      obtain rfl : x_122 = 3 := ex_122.trans (by decide)
      refine va_sld hx hb hX hbl hbA hS (show ¬ ((3 : Int32) < 0 ∨ 6 ≤ (3 : Int32).toNatClampNeg) by decide) dL_law_613 ?_
      refine lv_aload_n hx hb dL_law_614 rfl (lv_at hl 3 rfl) ?_
      refine lv_iload_n hx hb dL_law_615 rfl (lv_at hl 0 rfl) ?_
      refine lv_iconst (v := 4) hx hb dL_law_616 (by decide) ?_
      refine lv_iadd hx hb dL_law_617 ?_
      refine lv_topi (fun x_123 ex_123 => ?_)
      obtain rfl : x_123 = 4 := ex_123.trans (by decide)
      refine va_sld hx hb hX hbl hbA hS (show ¬ ((4 : Int32) < 0 ∨ 6 ≤ (4 : Int32).toNatClampNeg) by decide) dL_law_618 ?_
      have hPc := hP.sub (ws' := [(q3, .inr (12, fs))]) [2] rfl
      have hDc := hD.sub (ws' := [(q3, .inr (12, fs))]) [2] (by decide) rfl
      have hKc := hK.sub (tys' := []) [] rfl
      have hFc := ro_free hS hA
      refine va_calli (va_runV (As := [.int (xs (Int32.toNatClampNeg 1)), .int (xs (Int32.toNatClampNeg 2)), .int (xs (Int32.toNatClampNeg 3)), .int (xs (Int32.toNatClampNeg 4))]) (rest := [.int (-1)]) ⟨hx, hb, hml, hown, hts⟩ (c_X11_kept l dC dI (q3) (fs) ((xs (Int32.toNatClampNeg 1))) ((xs (Int32.toNatClampNeg 2))) ((xs (Int32.toNatClampNeg 3))) ((xs (Int32.toNatClampNeg 4))) H.size (hf0)) (cwV 4 hts g_law_c_X11_kept_72 rfl rfl rfl (by decide +kernel) ⟨Nat.le_of_ble_eq_true rfl, Nat.le_of_ble_eq_true rfl⟩) ⟨fun a U g mk q => by obtain ⟨q0, q1, qP, qK, qD, qE⟩ := q; exact ⟨q0, q1, qP, va_K.moved (u := U) (U := U.calling g mk a) (Vm.Alike.refl U.vm) qK, qD, ev.same (u := U) (U := U.calling g mk a) rfl qE⟩, va_recv hKc hPc (ci := 12) (q0 := 0) rfl rfl, fun U hU hW => ⟨rfl, by rw [hU], by rw [hU]; exact hPc, va_K.moved hW.alike hKc, hDc.weaken (fun _ _ _ _ => trivial), hE.warm hW⟩⟩ rfl rfl hl.1 rfl (lv_room (Nat.le_of_ble_eq_true rfl)) dL_law_619 ⟨Nat.le_of_ble_eq_true rfl, Nat.le_of_ble_eq_true rfl⟩) hS (fun q _ h => hFc q h) hFc (fun r_124 u t H1 locs ht hvm hw hB hz1 hk1 hS => ?_)
      clear hPc hDc hKc
      replace hP := ro_keep hP hk1
      generalize H1 = H at hP hS ⊢
      replace hP : va_P (dC, dI) vwCl [(q1, .inr (11, [.ref n0, .ref st, .ref la, .int 0, .int 0, .int 0, .int (-1), .int 0])), (n0, .inl (cN, 8, .inr (.inr (.inr (.inr (fun _ => none)))))), (q3, .inr (12, fs)), (a2, .inl (c2, 8, .inr (.inl (fun _ => 0)))), (a3, .inl (c3, 8, .inl (fun _ => 0))), (a4, .inl (c4, 8, .inl (fun _ => 0))), (a5, .inl (c5, 8, .inl (fun _ => 0))), (a6, .inl (c6, 8, .inl (fun _ => 0)))] H := hP
      have hw := hw.symm
      subst hw
      refine lv_icmp_eq (tgt := 686) hx hb dL_law_622 (by decide) (fun c_125 => ?_) (fun c_125 => ?_)
      rotate_left
      · exact absurd (by decide) c_125
      refine lv_iinc (v := 6) (lv' := [(3, .int 6), (2, .ref q3), (1, .ref q1), (0, .ref b)]) hx hb dL_law_686 hl (k := 0) rfl (by decide) (by decide) rfl (fun ls hl => ?_)
      refine lv_goto (tgt := 18) hx hb dL_law_689 (by decide) ?_
      exact law_end hL C0 (Nat.le_of_ble_eq_true rfl) (Nat.le_of_ble_eq_true rfl) hS (lv_sub hl [0, 3] rfl)
    · obtain rfl : x_7 = 13 := Int32.toInt_inj.mp (c_8.trans (by decide))
      refine lv_tableIn (tgt := 627) hx hb dL_law_33 (by decide) (by decide) rfl (by decide) ?_
      refine lv_aload_n hx hb dL_law_627 rfl (lv_at hl 2 rfl) ?_
      refine lv_aload_n hx hb dL_law_628 rfl (lv_at hl 3 rfl) ?_
      refine lv_iload_n hx hb dL_law_629 rfl (lv_at hl 0 rfl) ?_
      refine lv_iconst (v := 1) hx hb dL_law_630 (by decide) ?_
      refine lv_iadd hx hb dL_law_631 ?_
      refine lv_topi (fun x_126 ex_126 => ?_)
      obtain rfl : x_126 = 1 := ex_126.trans (by decide)
      refine va_sld hx hb hX hbl hbA hS (show ¬ ((1 : Int32) < 0 ∨ 6 ≤ (1 : Int32).toNatClampNeg) by decide) dL_law_632 ?_
      have hPc := hP.sub (ws' := [(q1, .inr (11, [.ref n0, .ref st, .ref la, .int 0, .int 0, .int 0, .int (-1), .int 0]))]) [0] rfl
      have hDc := hD.sub (ws' := [(q1, .inr (11, [.ref n0, .ref st, .ref la, .int 0, .int 0, .int 0, .int (-1), .int 0]))]) [0] (by decide) rfl
      have hKc := hK.sub (tys' := []) [] rfl
      have hFc := ro_free hS hA
      refine va_calli (va_runV (As := [.int (xs (Int32.toNatClampNeg 1))]) (rest := []) ⟨hx, hb, hml, hown, hts⟩ (c_X10_carried l dC dI (q1) (n0) (st) (la) (0) ((xs (Int32.toNatClampNeg 1))) H.size) (cwV 1 hts g_law_c_X10_carried_73 rfl rfl rfl (by decide +kernel) ⟨Nat.le_of_ble_eq_true rfl, Nat.le_of_ble_eq_true rfl⟩) ⟨fun a U g mk q => by obtain ⟨q0, q1, qP, qK, qD, qE⟩ := q; exact ⟨q0, q1, qP, va_K.moved (u := U) (U := U.calling g mk a) (Vm.Alike.refl U.vm) qK, qD, ev.same (u := U) (U := U.calling g mk a) rfl qE⟩, va_recv hKc hPc (ci := 11) (q0 := 0) rfl rfl, fun U hU hW => ⟨rfl, by rw [hU], by rw [hU]; exact hPc, va_K.moved hW.alike hKc, hDc.weaken (fun _ _ _ _ => trivial), hE.warm hW⟩⟩ rfl rfl hl.1 rfl (lv_room (Nat.le_of_ble_eq_true rfl)) dL_law_633 ⟨Nat.le_of_ble_eq_true rfl, Nat.le_of_ble_eq_true rfl⟩) hS (fun q _ h => hFc q h) hFc (fun r_127 u t H1 locs ht hvm hw hB hz1 hk1 hS => ?_)
      clear hPc hDc hKc
      replace hP := ro_keep hP hk1
      generalize H1 = H at hP hS ⊢
      replace hP : va_P (dC, dI) vwCl [(q1, .inr (11, [.ref n0, .ref st, .ref la, .int 0, .int 0, .int 0, .int (-1), .int 0])), (n0, .inl (cN, 8, .inr (.inr (.inr (.inr (fun _ => none)))))), (q3, .inr (12, fs)), (a2, .inl (c2, 8, .inr (.inl (fun _ => 0)))), (a3, .inl (c3, 8, .inl (fun _ => 0))), (a4, .inl (c4, 8, .inl (fun _ => 0))), (a5, .inl (c5, 8, .inl (fun _ => 0))), (a6, .inl (c6, 8, .inl (fun _ => 0)))] H := hP
      have er_127 := hw
      clear hw
      refine lv_aload_n hx hb dL_law_636 rfl (lv_at hl 1 rfl) ?_
      refine lv_aload_n hx hb dL_law_637 rfl (lv_at hl 3 rfl) ?_
      refine lv_iload_n hx hb dL_law_638 rfl (lv_at hl 0 rfl) ?_
      refine lv_iconst (v := 1) hx hb dL_law_639 (by decide) ?_
      refine lv_iadd hx hb dL_law_640 ?_
      refine lv_topi (fun x_128 ex_128 => ?_)
      obtain rfl : x_128 = 1 := ex_128.trans (by decide)
      refine va_sld hx hb hX hbl hbA hS (show ¬ ((1 : Int32) < 0 ∨ 6 ≤ (1 : Int32).toNatClampNeg) by decide) dL_law_641 ?_
      have hPc := hP.sub (ws' := [(q3, .inr (12, fs))]) [2] rfl
      have hDc := hD.sub (ws' := [(q3, .inr (12, fs))]) [2] (by decide) rfl
      have hKc := hK.sub (tys' := []) [] rfl
      have hFc := ro_free hS hA
      refine va_calli (va_runV (As := [.int (xs (Int32.toNatClampNeg 1))]) (rest := [.int r_127]) ⟨hx, hb, hml, hown, hts⟩ (c_X11_carried l dC dI (q3) (fs) ((xs (Int32.toNatClampNeg 1))) H.size (hf46) (hf47) (hf48) (hf49)) (cwV 1 hts g_law_c_X11_carried_76 rfl rfl rfl (by decide +kernel) ⟨Nat.le_of_ble_eq_true rfl, Nat.le_of_ble_eq_true rfl⟩) ⟨fun a U g mk q => by obtain ⟨q0, q1, qP, qK, qD, qE⟩ := q; exact ⟨q0, q1, qP, va_K.moved (u := U) (U := U.calling g mk a) (Vm.Alike.refl U.vm) qK, qD, ev.same (u := U) (U := U.calling g mk a) rfl qE⟩, va_recv hKc hPc (ci := 12) (q0 := 0) rfl rfl, fun U hU hW => ⟨rfl, by rw [hU], by rw [hU]; exact hPc, va_K.moved hW.alike hKc, hDc.weaken (fun _ _ _ _ => trivial), hE.warm hW⟩⟩ rfl rfl hl.1 rfl (lv_room (Nat.le_of_ble_eq_true rfl)) dL_law_642 ⟨Nat.le_of_ble_eq_true rfl, Nat.le_of_ble_eq_true rfl⟩) hS (fun q _ h => hFc q h) hFc (fun r_129 u t H1 locs ht hvm hw hB hz1 hk1 hS => ?_)
      clear hPc hDc hKc
      replace hP := ro_keep hP hk1
      generalize H1 = H at hP hS ⊢
      replace hP : va_P (dC, dI) vwCl [(q1, .inr (11, [.ref n0, .ref st, .ref la, .int 0, .int 0, .int 0, .int (-1), .int 0])), (n0, .inl (cN, 8, .inr (.inr (.inr (.inr (fun _ => none)))))), (q3, .inr (12, fs)), (a2, .inl (c2, 8, .inr (.inl (fun _ => 0)))), (a3, .inl (c3, 8, .inl (fun _ => 0))), (a4, .inl (c4, 8, .inl (fun _ => 0))), (a5, .inl (c5, 8, .inl (fun _ => 0))), (a6, .inl (c6, 8, .inl (fun _ => 0)))] H := hP
      have er_129 := hw
      clear hw
      refine lv_icmp_eq (tgt := 686) hx hb dL_law_645 (by decide) (fun c_130 => ?_) (fun c_130 => ?_)
      rotate_left
      · exact absurd (er_127.trans er_129.symm) c_130
      refine lv_iinc (v := 6) (lv' := [(3, .int 6), (2, .ref q3), (1, .ref q1), (0, .ref b)]) hx hb dL_law_686 hl (k := 0) rfl (by decide) (by decide) rfl (fun ls hl => ?_)
      refine lv_goto (tgt := 18) hx hb dL_law_689 (by decide) ?_
      exact law_end hL C0 (Nat.le_of_ble_eq_true rfl) (Nat.le_of_ble_eq_true rfl) hS (lv_sub hl [0, 3] rfl)
    · obtain rfl : x_7 = 14 := Int32.toInt_inj.mp (c_8.trans (by decide))
      refine lv_tableIn (tgt := 650) hx hb dL_law_33 (by decide) (by decide) rfl (by decide) ?_
      refine lv_aload_n hx hb dL_law_650 rfl (lv_at hl 2 rfl) ?_
      have hPc := hP.sub (ws' := [(q1, .inr (11, [.ref n0, .ref st, .ref la, .int 0, .int 0, .int 0, .int (-1), .int 0]))]) [0] rfl
      have hDc := hD.sub (ws' := [(q1, .inr (11, [.ref n0, .ref st, .ref la, .int 0, .int 0, .int 0, .int (-1), .int 0]))]) [0] (by decide) rfl
      have hKc := hK.sub (tys' := []) [] rfl
      have hFc := ro_free hS hA
      refine va_calli (va_runV (As := []) (rest := []) ⟨hx, hb, hml, hown, hts⟩ (c_X10_sound l dC dI (q1) (n0) (st) (la) (0) H.size) (cwV 0 hts g_law_c_X10_sound_77 rfl rfl rfl (by decide +kernel) ⟨Nat.le_of_ble_eq_true rfl, Nat.le_of_ble_eq_true rfl⟩) ⟨fun a U g mk q => by obtain ⟨q0, q1, qP, qK, qD, qE⟩ := q; exact ⟨q0, q1, qP, va_K.moved (u := U) (U := U.calling g mk a) (Vm.Alike.refl U.vm) qK, qD, ev.same (u := U) (U := U.calling g mk a) rfl qE⟩, va_recv hKc hPc (ci := 11) (q0 := 0) rfl rfl, fun U hU hW => ⟨rfl, by rw [hU], by rw [hU]; exact hPc, va_K.moved hW.alike hKc, hDc.weaken (fun _ _ _ _ => trivial), hE.warm hW⟩⟩ rfl rfl hl.1 rfl (lv_room (Nat.le_of_ble_eq_true rfl)) dL_law_651 ⟨Nat.le_of_ble_eq_true rfl, Nat.le_of_ble_eq_true rfl⟩) hS (fun q _ h => hFc q h) hFc (fun r_131 u t H1 locs ht hvm hw hB hz1 hk1 hS => ?_)
      clear hPc hDc hKc
      replace hP := ro_keep hP hk1
      generalize H1 = H at hP hS ⊢
      replace hP : va_P (dC, dI) vwCl [(q1, .inr (11, [.ref n0, .ref st, .ref la, .int 0, .int 0, .int 0, .int (-1), .int 0])), (n0, .inl (cN, 8, .inr (.inr (.inr (.inr (fun _ => none)))))), (q3, .inr (12, fs)), (a2, .inl (c2, 8, .inr (.inl (fun _ => 0)))), (a3, .inl (c3, 8, .inl (fun _ => 0))), (a4, .inl (c4, 8, .inl (fun _ => 0))), (a5, .inl (c5, 8, .inl (fun _ => 0))), (a6, .inl (c6, 8, .inl (fun _ => 0)))] H := hP
      have hw := hw.symm
      subst hw
      refine lv_aload_n hx hb dL_law_654 rfl (lv_at hl 1 rfl) ?_
      have hPc := hP.sub (ws' := [(q3, .inr (12, fs))]) [2] rfl
      have hDc := hD.sub (ws' := [(q3, .inr (12, fs))]) [2] (by decide) rfl
      have hKc := hK.sub (tys' := []) [] rfl
      have hFc := ro_free hS hA
      refine va_calli (va_runV (As := []) (rest := [.int 1]) ⟨hx, hb, hml, hown, hts⟩ (c_X11_sound l dC dI (q3) (fs) H.size (hf0) (hf51) (hf52)) (cwV 0 hts g_law_c_X11_sound_81 rfl rfl rfl (by decide +kernel) ⟨Nat.le_of_ble_eq_true rfl, Nat.le_of_ble_eq_true rfl⟩) ⟨fun a U g mk q => by obtain ⟨q0, q1, qP, qK, qD, qE⟩ := q; exact ⟨q0, q1, qP, va_K.moved (u := U) (U := U.calling g mk a) (Vm.Alike.refl U.vm) qK, qD, ev.same (u := U) (U := U.calling g mk a) rfl qE⟩, va_recv hKc hPc (ci := 12) (q0 := 0) rfl rfl, fun U hU hW => ⟨rfl, by rw [hU], by rw [hU]; exact hPc, va_K.moved hW.alike hKc, hDc.weaken (fun _ _ _ _ => trivial), hE.warm hW⟩⟩ rfl rfl hl.1 rfl (lv_room (Nat.le_of_ble_eq_true rfl)) dL_law_655 ⟨Nat.le_of_ble_eq_true rfl, Nat.le_of_ble_eq_true rfl⟩) hS (fun q _ h => hFc q h) hFc (fun r_132 u t H1 locs ht hvm hw hB hz1 hk1 hS => ?_)
      clear hPc hDc hKc
      replace hP := ro_keep hP hk1
      generalize H1 = H at hP hS ⊢
      replace hP : va_P (dC, dI) vwCl [(q1, .inr (11, [.ref n0, .ref st, .ref la, .int 0, .int 0, .int 0, .int (-1), .int 0])), (n0, .inl (cN, 8, .inr (.inr (.inr (.inr (fun _ => none)))))), (q3, .inr (12, fs)), (a2, .inl (c2, 8, .inr (.inl (fun _ => 0)))), (a3, .inl (c3, 8, .inl (fun _ => 0))), (a4, .inl (c4, 8, .inl (fun _ => 0))), (a5, .inl (c5, 8, .inl (fun _ => 0))), (a6, .inl (c6, 8, .inl (fun _ => 0)))] H := hP
      have hw := hw.symm
      subst hw
      refine lv_icmp_eq (tgt := 686) hx hb dL_law_658 (by decide) (fun c_133 => ?_) (fun c_133 => ?_)
      rotate_left
      · exact absurd (by decide) c_133
      refine lv_iinc (v := 6) (lv' := [(3, .int 6), (2, .ref q3), (1, .ref q1), (0, .ref b)]) hx hb dL_law_686 hl (k := 0) rfl (by decide) (by decide) rfl (fun ls hl => ?_)
      refine lv_goto (tgt := 18) hx hb dL_law_689 (by decide) ?_
      exact law_end hL C0 (Nat.le_of_ble_eq_true rfl) (Nat.le_of_ble_eq_true rfl) hS (lv_sub hl [0, 3] rfl)
    · obtain rfl : x_7 = 15 := Int32.toInt_inj.mp (c_8.trans (by decide))
      refine lv_tableIn (tgt := 663) hx hb dL_law_33 (by decide) (by decide) rfl (by decide) ?_
      refine lv_aload_n hx hb dL_law_663 rfl (lv_at hl 2 rfl) ?_
      refine lv_aload_n hx hb dL_law_664 rfl (lv_at hl 3 rfl) ?_
      refine lv_iload_n hx hb dL_law_665 rfl (lv_at hl 0 rfl) ?_
      refine lv_iconst (v := 1) hx hb dL_law_666 (by decide) ?_
      refine lv_iadd hx hb dL_law_667 ?_
      refine lv_topi (fun x_134 ex_134 => ?_)
      obtain rfl : x_134 = 1 := ex_134.trans (by decide)
      refine va_sld hx hb hX hbl hbA hS (show ¬ ((1 : Int32) < 0 ∨ 6 ≤ (1 : Int32).toNatClampNeg) by decide) dL_law_668 ?_
      have hPc := hP.sub (ws' := [(q1, .inr (11, [.ref n0, .ref st, .ref la, .int 0, .int 0, .int 0, .int (-1), .int 0]))]) [0] rfl
      have hDc := hD.sub (ws' := [(q1, .inr (11, [.ref n0, .ref st, .ref la, .int 0, .int 0, .int 0, .int (-1), .int 0]))]) [0] (by decide) rfl
      have hKc := hK.sub (tys' := []) [] rfl
      have hFc := ro_free hS hA
      refine va_calli (va_runV (As := [.int (xs (Int32.toNatClampNeg 1))]) (rest := []) ⟨hx, hb, hml, hown, hts⟩ (c_X10_count l dC dI (q1) (n0) (st) (la) ((xs (Int32.toNatClampNeg 1))) H.size) (cwV 1 hts g_law_c_X10_count_82 rfl rfl rfl (by decide +kernel) ⟨Nat.le_of_ble_eq_true rfl, Nat.le_of_ble_eq_true rfl⟩) ⟨fun a U g mk q => by obtain ⟨q0, q1, qP, qK, qD, qE⟩ := q; exact ⟨q0, q1, qP, va_K.moved (u := U) (U := U.calling g mk a) (Vm.Alike.refl U.vm) qK, qD, ev.same (u := U) (U := U.calling g mk a) rfl qE⟩, va_recv hKc hPc (ci := 11) (q0 := 0) rfl rfl, fun U hU hW => ⟨rfl, by rw [hU], by rw [hU]; exact hPc, va_K.moved hW.alike hKc, hDc.weaken (fun _ _ _ _ => trivial), hE.warm hW⟩⟩ rfl rfl hl.1 rfl (lv_room (Nat.le_of_ble_eq_true rfl)) dL_law_669 ⟨Nat.le_of_ble_eq_true rfl, Nat.le_of_ble_eq_true rfl⟩) hS (fun q _ h => hFc q h) hFc (fun r_135 u t H1 locs ht hvm hw hB hz1 hk1 hS => ?_)
      clear hPc hDc hKc
      replace hP := ro_keep hP hk1
      generalize H1 = H at hP hS ⊢
      replace hP : va_P (dC, dI) vwCl [(q1, .inr (11, [.ref n0, .ref st, .ref la, .int 0, .int 0, .int 0, .int (-1), .int 0])), (n0, .inl (cN, 8, .inr (.inr (.inr (.inr (fun _ => none)))))), (q3, .inr (12, fs)), (a2, .inl (c2, 8, .inr (.inl (fun _ => 0)))), (a3, .inl (c3, 8, .inl (fun _ => 0))), (a4, .inl (c4, 8, .inl (fun _ => 0))), (a5, .inl (c5, 8, .inl (fun _ => 0))), (a6, .inl (c6, 8, .inl (fun _ => 0)))] H := hP
      have er_135 := hw
      clear hw
      refine lv_aload_n hx hb dL_law_672 rfl (lv_at hl 1 rfl) ?_
      refine lv_aload_n hx hb dL_law_673 rfl (lv_at hl 3 rfl) ?_
      refine lv_iload_n hx hb dL_law_674 rfl (lv_at hl 0 rfl) ?_
      refine lv_iconst (v := 1) hx hb dL_law_675 (by decide) ?_
      refine lv_iadd hx hb dL_law_676 ?_
      refine lv_topi (fun x_136 ex_136 => ?_)
      obtain rfl : x_136 = 1 := ex_136.trans (by decide)
      refine va_sld hx hb hX hbl hbA hS (show ¬ ((1 : Int32) < 0 ∨ 6 ≤ (1 : Int32).toNatClampNeg) by decide) dL_law_677 ?_
      have hPc := hP.sub (ws' := [(q3, .inr (12, fs))]) [2] rfl
      have hDc := hD.sub (ws' := [(q3, .inr (12, fs))]) [2] (by decide) rfl
      have hKc := hK.sub (tys' := []) [] rfl
      have hFc := ro_free hS hA
      refine va_calli (va_runV (As := [.int (xs (Int32.toNatClampNeg 1))]) (rest := [.int r_135]) ⟨hx, hb, hml, hown, hts⟩ (c_X11_count l dC dI (q3) (fs) ((xs (Int32.toNatClampNeg 1))) H.size (hf0) (hf1) (hf50)) (cwV 1 hts g_law_c_X11_count_85 rfl rfl rfl (by decide +kernel) ⟨Nat.le_of_ble_eq_true rfl, Nat.le_of_ble_eq_true rfl⟩) ⟨fun a U g mk q => by obtain ⟨q0, q1, qP, qK, qD, qE⟩ := q; exact ⟨q0, q1, qP, va_K.moved (u := U) (U := U.calling g mk a) (Vm.Alike.refl U.vm) qK, qD, ev.same (u := U) (U := U.calling g mk a) rfl qE⟩, va_recv hKc hPc (ci := 12) (q0 := 0) rfl rfl, fun U hU hW => ⟨rfl, by rw [hU], by rw [hU]; exact hPc, va_K.moved hW.alike hKc, hDc.weaken (fun _ _ _ _ => trivial), hE.warm hW⟩⟩ rfl rfl hl.1 rfl (lv_room (Nat.le_of_ble_eq_true rfl)) dL_law_678 ⟨Nat.le_of_ble_eq_true rfl, Nat.le_of_ble_eq_true rfl⟩) hS (fun q _ h => hFc q h) hFc (fun r_137 u t H1 locs ht hvm hw hB hz1 hk1 hS => ?_)
      clear hPc hDc hKc
      replace hP := ro_keep hP hk1
      generalize H1 = H at hP hS ⊢
      replace hP : va_P (dC, dI) vwCl [(q1, .inr (11, [.ref n0, .ref st, .ref la, .int 0, .int 0, .int 0, .int (-1), .int 0])), (n0, .inl (cN, 8, .inr (.inr (.inr (.inr (fun _ => none)))))), (q3, .inr (12, fs)), (a2, .inl (c2, 8, .inr (.inl (fun _ => 0)))), (a3, .inl (c3, 8, .inl (fun _ => 0))), (a4, .inl (c4, 8, .inl (fun _ => 0))), (a5, .inl (c5, 8, .inl (fun _ => 0))), (a6, .inl (c6, 8, .inl (fun _ => 0)))] H := hP
      have er_137 := hw
      clear hw
      refine lv_icmp_eq (tgt := 686) hx hb dL_law_681 (by decide) (fun c_138 => ?_) (fun c_138 => ?_)
      rotate_left
      · exact absurd (er_135.trans er_137.symm) c_138
      refine lv_iinc (v := 6) (lv' := [(3, .int 6), (2, .ref q3), (1, .ref q1), (0, .ref b)]) hx hb dL_law_686 hl (k := 0) rfl (by decide) (by decide) rfl (fun ls hl => ?_)
      refine lv_goto (tgt := 18) hx hb dL_law_689 (by decide) ?_
      exact law_end hL C0 (Nat.le_of_ble_eq_true rfl) (Nat.le_of_ble_eq_true rfl) hS (lv_sub hl [0, 3] rfl)
    · refine lv_tableOut (tgt := 686) hx hb dL_law_33 (Or.inr c_8) (by decide) ?_
      refine lv_iinc (v := 6) (lv' := [(3, .int 6), (2, .ref q3), (1, .ref q1), (0, .ref b)]) hx hb dL_law_686 hl (k := 0) rfl (by decide) (by decide) rfl (fun ls hl => ?_)
      refine lv_goto (tgt := 18) hx hb dL_law_689 (by decide) ?_
      exact law_end hL C0 (Nat.le_of_ble_eq_true rfl) (Nat.le_of_ble_eq_true rfl) hS (lv_sub hl [0, 3] rfl)
