section
-- ===== PART A: goes FIRST, ahead of the names: the tables' words, and 'selects' of the private methods out of them =====
/-- a private method of a class that the tables say can be made, by its rows of tables_1 -/
def lw_okq (q : MethodName × Nat) : Prop := (q.1.cls ≠ "java/lang/invoke/MethodHandle" ∧ q.1.cls ≠ "java/lang/invoke/VarHandle") ∧ Cond.instantiable q.1.cls q.2 ∈ tables_1 ∧ Cond.privateMethod q.1 ∈ tables_1 ∧ Cond.instanceMethod q.1 ∈ tables_1
theorem lw_p0 : lw_okq (⟨"BridgeClients", "beginAnew", "()V"⟩, 5) := ⟨⟨by decide +kernel, by decide +kernel⟩, List.mem_of_getElem? (i := 11) (by decide +kernel), List.mem_of_getElem? (i := 176) (by decide +kernel), List.mem_of_getElem? (i := 177) (by decide +kernel)⟩
theorem lw_p1 : lw_okq (⟨"BridgeClients$Ledger", "beginAnew", "()V"⟩, 3) := ⟨⟨by decide +kernel, by decide +kernel⟩, List.mem_of_getElem? (i := 24) (by decide +kernel), List.mem_of_getElem? (i := 180) (by decide +kernel), List.mem_of_getElem? (i := 181) (by decide +kernel)⟩
theorem lw_p2 : lw_okq (⟨"BridgeClients$Client", "forgetAll", "()V"⟩, 4) := ⟨⟨by decide +kernel, by decide +kernel⟩, List.mem_of_getElem? (i := 30) (by decide +kernel), List.mem_of_getElem? (i := 187) (by decide +kernel), List.mem_of_getElem? (i := 188) (by decide +kernel)⟩
theorem lw_p3 : lw_okq (⟨"BridgeClients$End", "beginAnew", "()V"⟩, 8) := ⟨⟨by decide +kernel, by decide +kernel⟩, List.mem_of_getElem? (i := 72) (by decide +kernel), List.mem_of_getElem? (i := 192) (by decide +kernel), List.mem_of_getElem? (i := 193) (by decide +kernel)⟩
theorem lw_p4 : lw_okq (⟨"BridgeClients$Client", "howFollowed", "(I)I"⟩, 4) := ⟨⟨by decide +kernel, by decide +kernel⟩, List.mem_of_getElem? (i := 30) (by decide +kernel), List.mem_of_getElem? (i := 227) (by decide +kernel), List.mem_of_getElem? (i := 228) (by decide +kernel)⟩
theorem lw_p5 : lw_okq (⟨"BridgeClients$Client", "isToldMark", "(II)Z"⟩, 4) := ⟨⟨by decide +kernel, by decide +kernel⟩, List.mem_of_getElem? (i := 30) (by decide +kernel), List.mem_of_getElem? (i := 232) (by decide +kernel), List.mem_of_getElem? (i := 233) (by decide +kernel)⟩
theorem lw_p6 : lw_okq (⟨"BridgeClients$Client", "add", "(II)V"⟩, 4) := ⟨⟨by decide +kernel, by decide +kernel⟩, List.mem_of_getElem? (i := 30) (by decide +kernel), List.mem_of_getElem? (i := 237) (by decide +kernel), List.mem_of_getElem? (i := 238) (by decide +kernel)⟩
theorem lw_p7 : lw_okq (⟨"BridgeClients$End", "comeTo", "(II)V"⟩, 8) := ⟨⟨by decide +kernel, by decide +kernel⟩, List.mem_of_getElem? (i := 72) (by decide +kernel), List.mem_of_getElem? (i := 264) (by decide +kernel), List.mem_of_getElem? (i := 265) (by decide +kernel)⟩
theorem lw_p8 : lw_okq (⟨"BridgeClients", "isChannel", "(I)Z"⟩, 5) := ⟨⟨by decide +kernel, by decide +kernel⟩, List.mem_of_getElem? (i := 11) (by decide +kernel), List.mem_of_getElem? (i := 273) (by decide +kernel), List.mem_of_getElem? (i := 274) (by decide +kernel)⟩
theorem lw_p9 : lw_okq (⟨"BridgeClients", "refusalOfStep", "(IIIII)I"⟩, 5) := ⟨⟨by decide +kernel, by decide +kernel⟩, List.mem_of_getElem? (i := 11) (by decide +kernel), List.mem_of_getElem? (i := 277) (by decide +kernel), List.mem_of_getElem? (i := 278) (by decide +kernel)⟩
theorem lw_p10 : lw_okq (⟨"BridgeClients$Client", "refusal", "(I)I"⟩, 4) := ⟨⟨by decide +kernel, by decide +kernel⟩, List.mem_of_getElem? (i := 30) (by decide +kernel), List.mem_of_getElem? (i := 281) (by decide +kernel), List.mem_of_getElem? (i := 282) (by decide +kernel)⟩
theorem lw_p11 : lw_okq (⟨"BridgeClients$End", "stepIn", "(I)I"⟩, 8) := ⟨⟨by decide +kernel, by decide +kernel⟩, List.mem_of_getElem? (i := 72) (by decide +kernel), List.mem_of_getElem? (i := 286) (by decide +kernel), List.mem_of_getElem? (i := 287) (by decide +kernel)⟩
theorem lw_p12 : lw_okq (⟨"BridgeClients", "purse", "(III)[I"⟩, 5) := ⟨⟨by decide +kernel, by decide +kernel⟩, List.mem_of_getElem? (i := 11) (by decide +kernel), List.mem_of_getElem? (i := 319) (by decide +kernel), List.mem_of_getElem? (i := 320) (by decide +kernel)⟩
theorem lw_p13 : lw_okq (⟨"BridgeClients", "takeIn", "(IIIII)V"⟩, 5) := ⟨⟨by decide +kernel, by decide +kernel⟩, List.mem_of_getElem? (i := 11) (by decide +kernel), List.mem_of_getElem? (i := 323) (by decide +kernel), List.mem_of_getElem? (i := 324) (by decide +kernel)⟩
theorem lw_p14 : lw_okq (⟨"BridgeClients", "write", "(IIIIIII)V"⟩, 5) := ⟨⟨by decide +kernel, by decide +kernel⟩, List.mem_of_getElem? (i := 11) (by decide +kernel), List.mem_of_getElem? (i := 327) (by decide +kernel), List.mem_of_getElem? (i := 328) (by decide +kernel)⟩
theorem lw_p15 : lw_okq (⟨"BridgeClients$Message", "beginToStand", "(I)V"⟩, 14) := ⟨⟨by decide +kernel, by decide +kernel⟩, List.mem_of_getElem? (i := 120) (by decide +kernel), List.mem_of_getElem? (i := 331) (by decide +kernel), List.mem_of_getElem? (i := 332) (by decide +kernel)⟩
def lw_privs_1 : List (MethodName × Nat) := [(⟨"BridgeClients", "beginAnew", "()V"⟩, 5), (⟨"BridgeClients$Ledger", "beginAnew", "()V"⟩, 3), (⟨"BridgeClients$Client", "forgetAll", "()V"⟩, 4), (⟨"BridgeClients$End", "beginAnew", "()V"⟩, 8), (⟨"BridgeClients$Client", "howFollowed", "(I)I"⟩, 4), (⟨"BridgeClients$Client", "isToldMark", "(II)Z"⟩, 4), (⟨"BridgeClients$Client", "add", "(II)V"⟩, 4), (⟨"BridgeClients$End", "comeTo", "(II)V"⟩, 8), (⟨"BridgeClients", "isChannel", "(I)Z"⟩, 5), (⟨"BridgeClients", "refusalOfStep", "(IIIII)I"⟩, 5), (⟨"BridgeClients$Client", "refusal", "(I)I"⟩, 4), (⟨"BridgeClients$End", "stepIn", "(I)I"⟩, 8), (⟨"BridgeClients", "purse", "(III)[I"⟩, 5), (⟨"BridgeClients", "takeIn", "(IIIII)V"⟩, 5), (⟨"BridgeClients", "write", "(IIIIIII)V"⟩, 5), (⟨"BridgeClients$Message", "beginToStand", "(I)V"⟩, 14)]
theorem lw_r1 : ∀ q ∈ lw_privs_1, lw_okq q := List.forall_mem_cons.mpr ⟨lw_p0, List.forall_mem_cons.mpr ⟨lw_p1, List.forall_mem_cons.mpr ⟨lw_p2, List.forall_mem_cons.mpr ⟨lw_p3, List.forall_mem_cons.mpr ⟨lw_p4, List.forall_mem_cons.mpr ⟨lw_p5, List.forall_mem_cons.mpr ⟨lw_p6, List.forall_mem_cons.mpr ⟨lw_p7, List.forall_mem_cons.mpr ⟨lw_p8, List.forall_mem_cons.mpr ⟨lw_p9, List.forall_mem_cons.mpr ⟨lw_p10, List.forall_mem_cons.mpr ⟨lw_p11, List.forall_mem_cons.mpr ⟨lw_p12, List.forall_mem_cons.mpr ⟨lw_p13, List.forall_mem_cons.mpr ⟨lw_p14, List.forall_mem_cons.mpr ⟨lw_p15, fun _ h => absurd h List.not_mem_nil⟩⟩⟩⟩⟩⟩⟩⟩⟩⟩⟩⟩⟩⟩⟩⟩
theorem lw_p16 : lw_okq (⟨"BridgeClients", "isMessage", "(I)Z"⟩, 5) := ⟨⟨by decide +kernel, by decide +kernel⟩, List.mem_of_getElem? (i := 11) (by decide +kernel), List.mem_of_getElem? (i := 339) (by decide +kernel), List.mem_of_getElem? (i := 340) (by decide +kernel)⟩
theorem lw_p17 : lw_okq (⟨"BridgeClients$Message", "standsIn", "(I)Z"⟩, 14) := ⟨⟨by decide +kernel, by decide +kernel⟩, List.mem_of_getElem? (i := 120) (by decide +kernel), List.mem_of_getElem? (i := 343) (by decide +kernel), List.mem_of_getElem? (i := 344) (by decide +kernel)⟩
theorem lw_p18 : lw_okq (⟨"BridgeClients", "areAllBeforeReceived", "(I)Z"⟩, 5) := ⟨⟨by decide +kernel, by decide +kernel⟩, List.mem_of_getElem? (i := 11) (by decide +kernel), List.mem_of_getElem? (i := 347) (by decide +kernel), List.mem_of_getElem? (i := 348) (by decide +kernel)⟩
theorem lw_p19 : lw_okq (⟨"BridgeClients$Message", "isOfSameEnd", "(LBridgeClients$Message;)Z"⟩, 14) := ⟨⟨by decide +kernel, by decide +kernel⟩, List.mem_of_getElem? (i := 120) (by decide +kernel), List.mem_of_getElem? (i := 351) (by decide +kernel), List.mem_of_getElem? (i := 352) (by decide +kernel)⟩
theorem lw_p20 : lw_okq (⟨"BridgeClients", "giveOut", "(IIIII)V"⟩, 5) := ⟨⟨by decide +kernel, by decide +kernel⟩, List.mem_of_getElem? (i := 11) (by decide +kernel), List.mem_of_getElem? (i := 355) (by decide +kernel), List.mem_of_getElem? (i := 356) (by decide +kernel)⟩
theorem lw_p21 : lw_okq (⟨"BridgeClients", "refusalAtSender", "(LBridgeClients$Message;I)I"⟩, 5) := ⟨⟨by decide +kernel, by decide +kernel⟩, List.mem_of_getElem? (i := 11) (by decide +kernel), List.mem_of_getElem? (i := 363) (by decide +kernel), List.mem_of_getElem? (i := 364) (by decide +kernel)⟩
theorem lw_p22 : lw_okq (⟨"BridgeClients$Message", "isReceivedIn", "(I)Z"⟩, 14) := ⟨⟨by decide +kernel, by decide +kernel⟩, List.mem_of_getElem? (i := 120) (by decide +kernel), List.mem_of_getElem? (i := 367) (by decide +kernel), List.mem_of_getElem? (i := 368) (by decide +kernel)⟩
theorem lw_p23 : lw_okq (⟨"BridgeClients", "standsOneBefore", "(I)Z"⟩, 5) := ⟨⟨by decide +kernel, by decide +kernel⟩, List.mem_of_getElem? (i := 11) (by decide +kernel), List.mem_of_getElem? (i := 371) (by decide +kernel), List.mem_of_getElem? (i := 372) (by decide +kernel)⟩
theorem lw_p24 : lw_okq (⟨"BridgeClients", "finish", "(LBridgeClients$Message;)V"⟩, 5) := ⟨⟨by decide +kernel, by decide +kernel⟩, List.mem_of_getElem? (i := 11) (by decide +kernel), List.mem_of_getElem? (i := 375) (by decide +kernel), List.mem_of_getElem? (i := 376) (by decide +kernel)⟩
theorem lw_p25 : lw_okq (⟨"BridgeClients", "giveBack", "(LBridgeClients$Message;)V"⟩, 5) := ⟨⟨by decide +kernel, by decide +kernel⟩, List.mem_of_getElem? (i := 11) (by decide +kernel), List.mem_of_getElem? (i := 379) (by decide +kernel), List.mem_of_getElem? (i := 380) (by decide +kernel)⟩
theorem lw_p26 : lw_okq (⟨"BridgeClients", "allEscrows", "(I)I"⟩, 5) := ⟨⟨by decide +kernel, by decide +kernel⟩, List.mem_of_getElem? (i := 11) (by decide +kernel), List.mem_of_getElem? (i := 414) (by decide +kernel), List.mem_of_getElem? (i := 415) (by decide +kernel)⟩
theorem lw_p27 : lw_okq (⟨"BridgeClients", "allVouchers", "(I)I"⟩, 5) := ⟨⟨by decide +kernel, by decide +kernel⟩, List.mem_of_getElem? (i := 11) (by decide +kernel), List.mem_of_getElem? (i := 418) (by decide +kernel), List.mem_of_getElem? (i := 419) (by decide +kernel)⟩
theorem lw_p28 : lw_okq (⟨"BridgeClients", "onTheWay", "(I)I"⟩, 5) := ⟨⟨by decide +kernel, by decide +kernel⟩, List.mem_of_getElem? (i := 11) (by decide +kernel), List.mem_of_getElem? (i := 422) (by decide +kernel), List.mem_of_getElem? (i := 423) (by decide +kernel)⟩
theorem lw_p29 : lw_okq (⟨"BridgeClients", "howManyStand", "()I"⟩, 5) := ⟨⟨by decide +kernel, by decide +kernel⟩, List.mem_of_getElem? (i := 11) (by decide +kernel), List.mem_of_getElem? (i := 430) (by decide +kernel), List.mem_of_getElem? (i := 431) (by decide +kernel)⟩
theorem lw_p30 : lw_okq (⟨"BridgeClientsModel", "begin", "()V"⟩, 30) := ⟨⟨by decide +kernel, by decide +kernel⟩, List.mem_of_getElem? (i := 438) (by decide +kernel), List.mem_of_getElem? (i := 444) (by decide +kernel), List.mem_of_getElem? (i := 445) (by decide +kernel)⟩
theorem lw_p31 : lw_okq (⟨"BridgeClientsModel", "forget", "(I)V"⟩, 30) := ⟨⟨by decide +kernel, by decide +kernel⟩, List.mem_of_getElem? (i := 438) (by decide +kernel), List.mem_of_getElem? (i := 448) (by decide +kernel), List.mem_of_getElem? (i := 449) (by decide +kernel)⟩
def lw_privs_2 : List (MethodName × Nat) := [(⟨"BridgeClients", "isMessage", "(I)Z"⟩, 5), (⟨"BridgeClients$Message", "standsIn", "(I)Z"⟩, 14), (⟨"BridgeClients", "areAllBeforeReceived", "(I)Z"⟩, 5), (⟨"BridgeClients$Message", "isOfSameEnd", "(LBridgeClients$Message;)Z"⟩, 14), (⟨"BridgeClients", "giveOut", "(IIIII)V"⟩, 5), (⟨"BridgeClients", "refusalAtSender", "(LBridgeClients$Message;I)I"⟩, 5), (⟨"BridgeClients$Message", "isReceivedIn", "(I)Z"⟩, 14), (⟨"BridgeClients", "standsOneBefore", "(I)Z"⟩, 5), (⟨"BridgeClients", "finish", "(LBridgeClients$Message;)V"⟩, 5), (⟨"BridgeClients", "giveBack", "(LBridgeClients$Message;)V"⟩, 5), (⟨"BridgeClients", "allEscrows", "(I)I"⟩, 5), (⟨"BridgeClients", "allVouchers", "(I)I"⟩, 5), (⟨"BridgeClients", "onTheWay", "(I)I"⟩, 5), (⟨"BridgeClients", "howManyStand", "()I"⟩, 5), (⟨"BridgeClientsModel", "begin", "()V"⟩, 30), (⟨"BridgeClientsModel", "forget", "(I)V"⟩, 30)]
theorem lw_r2 : ∀ q ∈ lw_privs_2, lw_okq q := List.forall_mem_cons.mpr ⟨lw_p16, List.forall_mem_cons.mpr ⟨lw_p17, List.forall_mem_cons.mpr ⟨lw_p18, List.forall_mem_cons.mpr ⟨lw_p19, List.forall_mem_cons.mpr ⟨lw_p20, List.forall_mem_cons.mpr ⟨lw_p21, List.forall_mem_cons.mpr ⟨lw_p22, List.forall_mem_cons.mpr ⟨lw_p23, List.forall_mem_cons.mpr ⟨lw_p24, List.forall_mem_cons.mpr ⟨lw_p25, List.forall_mem_cons.mpr ⟨lw_p26, List.forall_mem_cons.mpr ⟨lw_p27, List.forall_mem_cons.mpr ⟨lw_p28, List.forall_mem_cons.mpr ⟨lw_p29, List.forall_mem_cons.mpr ⟨lw_p30, List.forall_mem_cons.mpr ⟨lw_p31, fun _ h => absurd h List.not_mem_nil⟩⟩⟩⟩⟩⟩⟩⟩⟩⟩⟩⟩⟩⟩⟩⟩
theorem lw_p32 : lw_okq (⟨"BridgeClientsModel", "followedMany", "(I)I"⟩, 30) := ⟨⟨by decide +kernel, by decide +kernel⟩, List.mem_of_getElem? (i := 438) (by decide +kernel), List.mem_of_getElem? (i := 562) (by decide +kernel), List.mem_of_getElem? (i := 563) (by decide +kernel)⟩
theorem lw_p33 : lw_okq (⟨"BridgeClientsModel", "highest", "(I)I"⟩, 30) := ⟨⟨by decide +kernel, by decide +kernel⟩, List.mem_of_getElem? (i := 438) (by decide +kernel), List.mem_of_getElem? (i := 570) (by decide +kernel), List.mem_of_getElem? (i := 571) (by decide +kernel)⟩
theorem lw_p34 : lw_okq (⟨"BridgeClientsModel", "noChannel", "(I)Z"⟩, 30) := ⟨⟨by decide +kernel, by decide +kernel⟩, List.mem_of_getElem? (i := 438) (by decide +kernel), List.mem_of_getElem? (i := 586) (by decide +kernel), List.mem_of_getElem? (i := 587) (by decide +kernel)⟩
theorem lw_p35 : lw_okq (⟨"BridgeClientsModel", "unprovedStep", "(IIII)I"⟩, 30) := ⟨⟨by decide +kernel, by decide +kernel⟩, List.mem_of_getElem? (i := 438) (by decide +kernel), List.mem_of_getElem? (i := 590) (by decide +kernel), List.mem_of_getElem? (i := 591) (by decide +kernel)⟩
theorem lw_p36 : lw_okq (⟨"BridgeClientsModel", "unproved", "(II)I"⟩, 30) := ⟨⟨by decide +kernel, by decide +kernel⟩, List.mem_of_getElem? (i := 438) (by decide +kernel), List.mem_of_getElem? (i := 594) (by decide +kernel), List.mem_of_getElem? (i := 595) (by decide +kernel)⟩
theorem lw_p37 : lw_okq (⟨"BridgeClientsModel", "stepOf", "(III)I"⟩, 30) := ⟨⟨by decide +kernel, by decide +kernel⟩, List.mem_of_getElem? (i := 438) (by decide +kernel), List.mem_of_getElem? (i := 599) (by decide +kernel), List.mem_of_getElem? (i := 600) (by decide +kernel)⟩
theorem lw_p38 : lw_okq (⟨"BridgeClientsModel", "has", "(III)I"⟩, 30) := ⟨⟨by decide +kernel, by decide +kernel⟩, List.mem_of_getElem? (i := 438) (by decide +kernel), List.mem_of_getElem? (i := 626) (by decide +kernel), List.mem_of_getElem? (i := 627) (by decide +kernel)⟩
theorem lw_p39 : lw_okq (⟨"BridgeClientsModel", "give", "(IIII)V"⟩, 30) := ⟨⟨by decide +kernel, by decide +kernel⟩, List.mem_of_getElem? (i := 438) (by decide +kernel), List.mem_of_getElem? (i := 630) (by decide +kernel), List.mem_of_getElem? (i := 631) (by decide +kernel)⟩
theorem lw_p40 : lw_okq (⟨"BridgeClientsModel", "noMessage", "(I)Z"⟩, 30) := ⟨⟨by decide +kernel, by decide +kernel⟩, List.mem_of_getElem? (i := 438) (by decide +kernel), List.mem_of_getElem? (i := 638) (by decide +kernel), List.mem_of_getElem? (i := 639) (by decide +kernel)⟩
theorem lw_p41 : lw_okq (⟨"BridgeClientsModel", "isBehind", "(IZ)Z"⟩, 30) := ⟨⟨by decide +kernel, by decide +kernel⟩, List.mem_of_getElem? (i := 438) (by decide +kernel), List.mem_of_getElem? (i := 642) (by decide +kernel), List.mem_of_getElem? (i := 643) (by decide +kernel)⟩
theorem lw_p42 : lw_okq (⟨"BridgeClientsModel", "finish", "(IZ)V"⟩, 30) := ⟨⟨by decide +kernel, by decide +kernel⟩, List.mem_of_getElem? (i := 438) (by decide +kernel), List.mem_of_getElem? (i := 650) (by decide +kernel), List.mem_of_getElem? (i := 651) (by decide +kernel)⟩
theorem lw_p43 : lw_okq (⟨"BridgeClientsModel", "held", "(II)I"⟩, 30) := ⟨⟨by decide +kernel, by decide +kernel⟩, List.mem_of_getElem? (i := 438) (by decide +kernel), List.mem_of_getElem? (i := 682) (by decide +kernel), List.mem_of_getElem? (i := 683) (by decide +kernel)⟩
def lw_privs_3 : List (MethodName × Nat) := [(⟨"BridgeClientsModel", "followedMany", "(I)I"⟩, 30), (⟨"BridgeClientsModel", "highest", "(I)I"⟩, 30), (⟨"BridgeClientsModel", "noChannel", "(I)Z"⟩, 30), (⟨"BridgeClientsModel", "unprovedStep", "(IIII)I"⟩, 30), (⟨"BridgeClientsModel", "unproved", "(II)I"⟩, 30), (⟨"BridgeClientsModel", "stepOf", "(III)I"⟩, 30), (⟨"BridgeClientsModel", "has", "(III)I"⟩, 30), (⟨"BridgeClientsModel", "give", "(IIII)V"⟩, 30), (⟨"BridgeClientsModel", "noMessage", "(I)Z"⟩, 30), (⟨"BridgeClientsModel", "isBehind", "(IZ)Z"⟩, 30), (⟨"BridgeClientsModel", "finish", "(IZ)V"⟩, 30), (⟨"BridgeClientsModel", "held", "(II)I"⟩, 30)]
theorem lw_r3 : ∀ q ∈ lw_privs_3, lw_okq q := List.forall_mem_cons.mpr ⟨lw_p32, List.forall_mem_cons.mpr ⟨lw_p33, List.forall_mem_cons.mpr ⟨lw_p34, List.forall_mem_cons.mpr ⟨lw_p35, List.forall_mem_cons.mpr ⟨lw_p36, List.forall_mem_cons.mpr ⟨lw_p37, List.forall_mem_cons.mpr ⟨lw_p38, List.forall_mem_cons.mpr ⟨lw_p39, List.forall_mem_cons.mpr ⟨lw_p40, List.forall_mem_cons.mpr ⟨lw_p41, List.forall_mem_cons.mpr ⟨lw_p42, List.forall_mem_cons.mpr ⟨lw_p43, fun _ h => absurd h List.not_mem_nil⟩⟩⟩⟩⟩⟩⟩⟩⟩⟩⟩⟩
def lw_privs : List (MethodName × Nat) := lw_privs_1 ++ (lw_privs_2 ++ (lw_privs_3))
def lw_tbl : List Cond := k2_sels lw_privs ++ tables_1
theorem lw_privs_ok : ∀ q ∈ lw_privs, lw_okq q := by
  show ∀ q ∈ lw_privs_1 ++ (lw_privs_2 ++ (lw_privs_3)), lw_okq q
  exact List.forall_mem_append.mpr ⟨lw_r1, List.forall_mem_append.mpr ⟨lw_r2, lw_r3⟩⟩
end
section
/-! names of classes, their fields and methods; words of the tables by their places -/
def R_Ch : String := "BridgeClients$Channel"
def F_Ch : u_T := fun k => match k with
  | 0 => ("BridgeClients$Channel", "ends", "[LBridgeClients$End;", true)
  | 1 => ("BridgeClients$Channel", "ordered", "Z", false)
  | _ => ("BridgeClients$Channel", "first", "I", false)
def t_Ch : Nat → FieldType := fun k => match k with
  | 0 => .array (.object "BridgeClients$End")
  | 1 => .boolean
  | _ => .int
theorem nm_Ch : ∀ a, a < 3 → ∀ b, b < 3 → a ≠ b → (F_Ch a).2.1 ≠ (F_Ch b).2.1 := by decide +kernel
theorem ty_Ch : ∀ k, k < 3 → parseFieldDescriptor (F_Ch k).2.2.1 = some (t_Ch k) := by decide +kernel
theorem ku_Ch : ∀ w ∈ u_ws R_Ch F_Ch 3, w ∈ lw_tbl := by decide +kernel
def R_Cl : String := "BridgeClients$Client"
def F_Cl : u_T := fun k => match k with
  | 0 => ("BridgeClients$Client", "told", "[I", true)
  | 1 => ("BridgeClients$Client", "frozen", "Z", false)
  | 2 => ("BridgeClients$Client", "greatest", "I", false)
  | _ => ("BridgeClients$Client", "howMany", "I", false)
def t_Cl : Nat → FieldType := fun k => match k with
  | 0 => .array .int
  | 1 => .boolean
  | 2 => .int
  | _ => .int
theorem nm_Cl : ∀ a, a < 4 → ∀ b, b < 4 → a ≠ b → (F_Cl a).2.1 ≠ (F_Cl b).2.1 := by decide +kernel
theorem ty_Cl : ∀ k, k < 4 → parseFieldDescriptor (F_Cl k).2.2.1 = some (t_Cl k) := by decide +kernel
theorem ku_Cl : ∀ w ∈ u_ws R_Cl F_Cl 4, w ∈ lw_tbl := by decide +kernel
def R_En : String := "BridgeClients$End"
def F_En : u_T := fun k => match k with
  | 0 => ("BridgeClients$End", "cameAt", "[I", true)
  | 1 => ("BridgeClients$End", "vouchers", "[I", true)
  | 2 => ("BridgeClients$End", "step", "I", false)
  | 3 => ("BridgeClients$End", "offer", "I", false)
  | 4 => ("BridgeClients$End", "version", "I", false)
  | 5 => ("BridgeClients$End", "escrow", "I", false)
  | 6 => ("BridgeClients$End", "sent", "I", false)
  | _ => ("BridgeClients$End", "received", "I", false)
def t_En : Nat → FieldType := fun k => match k with
  | 0 => .array .int
  | 1 => .array .int
  | 2 => .int
  | 3 => .int
  | 4 => .int
  | 5 => .int
  | 6 => .int
  | _ => .int
theorem nm_En : ∀ a, a < 8 → ∀ b, b < 8 → a ≠ b → (F_En a).2.1 ≠ (F_En b).2.1 := by decide +kernel
theorem ty_En : ∀ k, k < 8 → parseFieldDescriptor (F_En k).2.2.1 = some (t_En k) := by decide +kernel
theorem ku_En : ∀ w ∈ u_ws R_En F_En 8, w ∈ lw_tbl := by decide +kernel
def R_Le : String := "BridgeClients$Ledger"
def F_Le : u_T := fun k => match k with
  | 0 => ("BridgeClients$Ledger", "coins", "[I", true)
  | 1 => ("BridgeClients$Ledger", "client", "LBridgeClients$Client;", true)
  | _ => ("BridgeClients$Ledger", "height", "I", false)
def t_Le : Nat → FieldType := fun k => match k with
  | 0 => .array .int
  | 1 => .object "BridgeClients$Client"
  | _ => .int
theorem nm_Le : ∀ a, a < 3 → ∀ b, b < 3 → a ≠ b → (F_Le a).2.1 ≠ (F_Le b).2.1 := by decide +kernel
theorem ty_Le : ∀ k, k < 3 → parseFieldDescriptor (F_Le k).2.2.1 = some (t_Le k) := by decide +kernel
theorem ku_Le : ∀ w ∈ u_ws R_Le F_Le 3, w ∈ lw_tbl := by decide +kernel
def R_Me : String := "BridgeClients$Message"
def F_Me : u_T := fun k => match k with
  | 0 => ("BridgeClients$Message", "channel", "I", false)
  | 1 => ("BridgeClients$Message", "side", "I", false)
  | 2 => ("BridgeClients$Message", "place", "I", false)
  | 3 => ("BridgeClients$Message", "account", "I", false)
  | 4 => ("BridgeClients$Message", "to", "I", false)
  | 5 => ("BridgeClients$Message", "coin", "I", false)
  | 6 => ("BridgeClients$Message", "amount", "I", false)
  | 7 => ("BridgeClients$Message", "until", "I", false)
  | 8 => ("BridgeClients$Message", "stands", "Z", false)
  | 9 => ("BridgeClients$Message", "cameBack", "Z", false)
  | 10 => ("BridgeClients$Message", "outcome", "I", false)
  | 11 => ("BridgeClients$Message", "sentAt", "I", false)
  | 12 => ("BridgeClients$Message", "finishedAt", "I", false)
  | _ => ("BridgeClients$Message", "receivedAt", "I", false)
def t_Me : Nat → FieldType := fun k => match k with
  | 0 => .int
  | 1 => .int
  | 2 => .int
  | 3 => .int
  | 4 => .int
  | 5 => .int
  | 6 => .int
  | 7 => .int
  | 8 => .boolean
  | 9 => .boolean
  | 10 => .int
  | 11 => .int
  | 12 => .int
  | _ => .int
theorem nm_Me : ∀ a, a < 14 → ∀ b, b < 14 → a ≠ b → (F_Me a).2.1 ≠ (F_Me b).2.1 := by decide +kernel
theorem ty_Me : ∀ k, k < 14 → parseFieldDescriptor (F_Me k).2.2.1 = some (t_Me k) := by decide +kernel
theorem ku_Me : ∀ w ∈ u_ws R_Me F_Me 14, w ∈ lw_tbl := by decide +kernel
def R_B : String := "BridgeClients"
def F_B : u_T := fun k => match k with
  | 0 => ("BridgeClients", "ledgers", "[LBridgeClients$Ledger;", true)
  | 1 => ("BridgeClients", "channels", "[LBridgeClients$Channel;", true)
  | 2 => ("BridgeClients", "messages", "[LBridgeClients$Message;", true)
  | 3 => ("BridgeClients", "channelCount", "I", false)
  | _ => ("BridgeClients", "messageCount", "I", false)
def t_B : Nat → FieldType := fun k => match k with
  | 0 => .array (.object "BridgeClients$Ledger")
  | 1 => .array (.object "BridgeClients$Channel")
  | 2 => .array (.object "BridgeClients$Message")
  | 3 => .int
  | _ => .int
theorem nm_B : ∀ a, a < 5 → ∀ b, b < 5 → a ≠ b → (F_B a).2.1 ≠ (F_B b).2.1 := by decide +kernel
theorem ty_B : ∀ k, k < 5 → parseFieldDescriptor (F_B k).2.2.1 = some (t_B k) := by decide +kernel
theorem ku_B : ∀ w ∈ u_ws R_B F_B 5, w ∈ lw_tbl := by decide +kernel
def R_R : String := "BridgeClientsModel"
def F_R : u_T := fun k => match k with
  | 0 => ("BridgeClientsModel", "heights", "[I", true)
  | 1 => ("BridgeClientsModel", "followed", "[I", true)
  | 2 => ("BridgeClientsModel", "frozen", "[Z", true)
  | 3 => ("BridgeClientsModel", "channels", "I", false)
  | 4 => ("BridgeClientsModel", "beginner", "[I", true)
  | 5 => ("BridgeClientsModel", "ordered", "[Z", true)
  | 6 => ("BridgeClientsModel", "steps", "[I", true)
  | 7 => ("BridgeClientsModel", "offers", "[I", true)
  | 8 => ("BridgeClientsModel", "versions", "[I", true)
  | 9 => ("BridgeClientsModel", "escrows", "[I", true)
  | 10 => ("BridgeClientsModel", "sent", "[I", true)
  | 11 => ("BridgeClientsModel", "received", "[I", true)
  | 12 => ("BridgeClientsModel", "stepsAt", "[I", true)
  | 13 => ("BridgeClientsModel", "homes", "[I", true)
  | 14 => ("BridgeClientsModel", "vouched", "[I", true)
  | 15 => ("BridgeClientsModel", "messages", "I", false)
  | 16 => ("BridgeClientsModel", "mChannel", "[I", true)
  | 17 => ("BridgeClientsModel", "mSide", "[I", true)
  | 18 => ("BridgeClientsModel", "mPlace", "[I", true)
  | 19 => ("BridgeClientsModel", "mAmount", "[I", true)
  | 20 => ("BridgeClientsModel", "mCoin", "[I", true)
  | 21 => ("BridgeClientsModel", "mAccount", "[I", true)
  | 22 => ("BridgeClientsModel", "mTo", "[I", true)
  | 23 => ("BridgeClientsModel", "mUntil", "[I", true)
  | 24 => ("BridgeClientsModel", "mStands", "[Z", true)
  | 25 => ("BridgeClientsModel", "mFrom", "[I", true)
  | 26 => ("BridgeClientsModel", "mEnd", "[I", true)
  | 27 => ("BridgeClientsModel", "mState", "[I", true)
  | 28 => ("BridgeClientsModel", "mGot", "[I", true)
  | _ => ("BridgeClientsModel", "mBack", "[Z", true)
def t_R : Nat → FieldType := fun k => match k with
  | 0 => .array .int
  | 1 => .array .int
  | 2 => .array .boolean
  | 3 => .int
  | 4 => .array .int
  | 5 => .array .boolean
  | 6 => .array .int
  | 7 => .array .int
  | 8 => .array .int
  | 9 => .array .int
  | 10 => .array .int
  | 11 => .array .int
  | 12 => .array .int
  | 13 => .array .int
  | 14 => .array .int
  | 15 => .int
  | 16 => .array .int
  | 17 => .array .int
  | 18 => .array .int
  | 19 => .array .int
  | 20 => .array .int
  | 21 => .array .int
  | 22 => .array .int
  | 23 => .array .int
  | 24 => .array .boolean
  | 25 => .array .int
  | 26 => .array .int
  | 27 => .array .int
  | 28 => .array .int
  | _ => .array .boolean
theorem nm_R : ∀ a, a < 30 → ∀ b, b < 30 → a ≠ b → (F_R a).2.1 ≠ (F_R b).2.1 := by decide +kernel
theorem ty_R : ∀ k, k < 30 → parseFieldDescriptor (F_R k).2.2.1 = some (t_R k) := by decide +kernel
theorem ku_R : ∀ w ∈ u_ws R_R F_R 30, w ∈ lw_tbl := by decide +kernel
abbrev classes : List vw_C := [(R_Ch, F_Ch, 3), (R_Cl, F_Cl, 4), (R_En, F_En, 8), (R_Le, F_Le, 3), (R_Me, F_Me, 14), (R_B, F_B, 5), (R_R, F_R, 30)]
def R_law : String := "BridgeClientsLaw"
abbrev cd_B_new : ByteArray := prog_1_method_1_code
def y_B_new : MethodName := ⟨"BridgeClients", "<init>", "()V"⟩
abbrev cd_B_tick : ByteArray := prog_1_method_2_code
def y_B_tick : MethodName := ⟨"BridgeClients", "tick", "(I)I"⟩
abbrev cd_B_follow : ByteArray := prog_1_method_3_code
def y_B_follow : MethodName := ⟨"BridgeClients", "follow", "(III)I"⟩
abbrev cd_B_renew : ByteArray := prog_1_method_4_code
def y_B_renew : MethodName := ⟨"BridgeClients", "renew", "(I)I"⟩
abbrev cd_B_client : ByteArray := prog_1_method_5_code
def y_B_client : MethodName := ⟨"BridgeClients", "client", "(II)I"⟩
abbrev cd_B_follows : ByteArray := prog_1_method_6_code
def y_B_follows : MethodName := ⟨"BridgeClients", "follows", "(II)I"⟩
abbrev cd_B_init : ByteArray := prog_1_method_7_code
def y_B_init : MethodName := ⟨"BridgeClients", "init", "(IZI)I"⟩
abbrev cd_B_meet : ByteArray := prog_1_method_8_code
def y_B_meet : MethodName := ⟨"BridgeClients", "meet", "(III)I"⟩
abbrev cd_B_agree : ByteArray := prog_1_method_9_code
def y_B_agree : MethodName := ⟨"BridgeClients", "agree", "(II)I"⟩
abbrev cd_B_confirm : ByteArray := prog_1_method_10_code
def y_B_confirm : MethodName := ⟨"BridgeClients", "confirm", "(II)I"⟩
abbrev cd_B_close : ByteArray := prog_1_method_11_code
def y_B_close : MethodName := ⟨"BridgeClients", "close", "(II)I"⟩
abbrev cd_B_shut : ByteArray := prog_1_method_12_code
def y_B_shut : MethodName := ⟨"BridgeClients", "shut", "(III)I"⟩
abbrev cd_B_send : ByteArray := prog_1_method_13_code
def y_B_send : MethodName := ⟨"BridgeClients", "send", "(IIIIIII)I"⟩
abbrev cd_B_receive : ByteArray := prog_1_method_14_code
def y_B_receive : MethodName := ⟨"BridgeClients", "receive", "(II)I"⟩
abbrev cd_B_acknowledge : ByteArray := prog_1_method_15_code
def y_B_acknowledge : MethodName := ⟨"BridgeClients", "acknowledge", "(II)I"⟩
abbrev cd_B_timeout : ByteArray := prog_1_method_16_code
def y_B_timeout : MethodName := ⟨"BridgeClients", "timeout", "(II)I"⟩
abbrev cd_B_end : ByteArray := prog_1_method_17_code
def y_B_end : MethodName := ⟨"BridgeClients", "end", "(III)I"⟩
abbrev cd_B_stepAt : ByteArray := prog_1_method_18_code
def y_B_stepAt : MethodName := ⟨"BridgeClients", "stepAt", "(III)I"⟩
abbrev cd_B_message : ByteArray := prog_1_method_19_code
def y_B_message : MethodName := ⟨"BridgeClients", "message", "(II)I"⟩
abbrev cd_B_balance : ByteArray := prog_1_method_20_code
def y_B_balance : MethodName := ⟨"BridgeClients", "balance", "(III)I"⟩
abbrev cd_B_vouchers : ByteArray := prog_1_method_21_code
def y_B_vouchers : MethodName := ⟨"BridgeClients", "vouchers", "(III)I"⟩
abbrev cd_B_sum : ByteArray := prog_1_method_22_code
def y_B_sum : MethodName := ⟨"BridgeClients", "sum", "(II)I"⟩
abbrev cd_B_count : ByteArray := prog_1_method_23_code
def y_B_count : MethodName := ⟨"BridgeClients", "count", "(I)I"⟩
abbrev cd_B_clear : ByteArray := prog_1_method_24_code
def y_B_clear : MethodName := ⟨"BridgeClients", "clear", "()I"⟩
abbrev cd_B_isWithin : ByteArray := prog_1_method_25_code
def y_B_isWithin : MethodName := ⟨"BridgeClients", "isWithin", "(III)Z"⟩
abbrev cd_B_isSide : ByteArray := prog_1_method_26_code
def y_B_isSide : MethodName := ⟨"BridgeClients", "isSide", "(I)Z"⟩
abbrev cd_B_isCoin : ByteArray := prog_1_method_27_code
def y_B_isCoin : MethodName := ⟨"BridgeClients", "isCoin", "(I)Z"⟩
abbrev cd_B_isAccount : ByteArray := prog_1_method_28_code
def y_B_isAccount : MethodName := ⟨"BridgeClients", "isAccount", "(I)Z"⟩
abbrev cd_B_isChannel : ByteArray := prog_1_method_29_code
def y_B_isChannel : MethodName := ⟨"BridgeClients", "isChannel", "(I)Z"⟩
abbrev cd_B_isMessage : ByteArray := prog_1_method_30_code
def y_B_isMessage : MethodName := ⟨"BridgeClients", "isMessage", "(I)Z"⟩
abbrev cd_B_oneIf : ByteArray := prog_1_method_31_code
def y_B_oneIf : MethodName := ⟨"BridgeClients", "oneIf", "(Z)I"⟩
abbrev cd_B_refusalOfStep : ByteArray := prog_1_method_32_code
def y_B_refusalOfStep : MethodName := ⟨"BridgeClients", "refusalOfStep", "(IIIII)I"⟩
abbrev cd_B_refusalAtSender : ByteArray := prog_1_method_33_code
def y_B_refusalAtSender : MethodName := ⟨"BridgeClients", "refusalAtSender", "(LBridgeClients$Message;I)I"⟩
abbrev cd_B_areAllBeforeReceived : ByteArray := prog_1_method_34_code
def y_B_areAllBeforeReceived : MethodName := ⟨"BridgeClients", "areAllBeforeReceived", "(I)Z"⟩
abbrev cd_B_standsOneBefore : ByteArray := prog_1_method_35_code
def y_B_standsOneBefore : MethodName := ⟨"BridgeClients", "standsOneBefore", "(I)Z"⟩
abbrev cd_B_purse : ByteArray := prog_1_method_36_code
def y_B_purse : MethodName := ⟨"BridgeClients", "purse", "(III)[I"⟩
abbrev cd_B_takeIn : ByteArray := prog_1_method_37_code
def y_B_takeIn : MethodName := ⟨"BridgeClients", "takeIn", "(IIIII)V"⟩
abbrev cd_B_giveOut : ByteArray := prog_1_method_38_code
def y_B_giveOut : MethodName := ⟨"BridgeClients", "giveOut", "(IIIII)V"⟩
abbrev cd_B_write : ByteArray := prog_1_method_39_code
def y_B_write : MethodName := ⟨"BridgeClients", "write", "(IIIIIII)V"⟩
abbrev cd_B_finish : ByteArray := prog_1_method_40_code
def y_B_finish : MethodName := ⟨"BridgeClients", "finish", "(LBridgeClients$Message;)V"⟩
abbrev cd_B_giveBack : ByteArray := prog_1_method_41_code
def y_B_giveBack : MethodName := ⟨"BridgeClients", "giveBack", "(LBridgeClients$Message;)V"⟩
abbrev cd_B_greatestVersion : ByteArray := prog_1_method_42_code
def y_B_greatestVersion : MethodName := ⟨"BridgeClients", "greatestVersion", "(I)I"⟩
abbrev cd_B_total : ByteArray := prog_1_method_43_code
def y_B_total : MethodName := ⟨"BridgeClients", "total", "([I)I"⟩
abbrev cd_B_allEscrows : ByteArray := prog_1_method_44_code
def y_B_allEscrows : MethodName := ⟨"BridgeClients", "allEscrows", "(I)I"⟩
abbrev cd_B_allVouchers : ByteArray := prog_1_method_45_code
def y_B_allVouchers : MethodName := ⟨"BridgeClients", "allVouchers", "(I)I"⟩
abbrev cd_B_onTheWay : ByteArray := prog_1_method_46_code
def y_B_onTheWay : MethodName := ⟨"BridgeClients", "onTheWay", "(I)I"⟩
abbrev cd_B_howManyStand : ByteArray := prog_1_method_47_code
def y_B_howManyStand : MethodName := ⟨"BridgeClients", "howManyStand", "()I"⟩
abbrev cd_B_beginAnew : ByteArray := prog_1_method_48_code
def y_B_beginAnew : MethodName := ⟨"BridgeClients", "beginAnew", "()V"⟩
abbrev cd_R_new : ByteArray := prog_8_method_1_code
def y_R_new : MethodName := ⟨"BridgeClientsModel", "<init>", "()V"⟩
abbrev cd_R_in : ByteArray := prog_8_method_2_code
def y_R_in : MethodName := ⟨"BridgeClientsModel", "in", "(III)Z"⟩
abbrev cd_R_begin : ByteArray := prog_8_method_3_code
def y_R_begin : MethodName := ⟨"BridgeClientsModel", "begin", "()V"⟩
abbrev cd_R_forget : ByteArray := prog_8_method_4_code
def y_R_forget : MethodName := ⟨"BridgeClientsModel", "forget", "(I)V"⟩
abbrev cd_R_noSide : ByteArray := prog_8_method_5_code
def y_R_noSide : MethodName := ⟨"BridgeClientsModel", "noSide", "(I)Z"⟩
abbrev cd_R_tick : ByteArray := prog_8_method_6_code
def y_R_tick : MethodName := ⟨"BridgeClientsModel", "tick", "(I)I"⟩
abbrev cd_R_follow : ByteArray := prog_8_method_7_code
def y_R_follow : MethodName := ⟨"BridgeClientsModel", "follow", "(III)I"⟩
abbrev cd_R_followedMany : ByteArray := prog_8_method_8_code
def y_R_followedMany : MethodName := ⟨"BridgeClientsModel", "followedMany", "(I)I"⟩
abbrev cd_R_highest : ByteArray := prog_8_method_9_code
def y_R_highest : MethodName := ⟨"BridgeClientsModel", "highest", "(I)I"⟩
abbrev cd_R_renew : ByteArray := prog_8_method_10_code
def y_R_renew : MethodName := ⟨"BridgeClientsModel", "renew", "(I)I"⟩
abbrev cd_R_client : ByteArray := prog_8_method_11_code
def y_R_client : MethodName := ⟨"BridgeClientsModel", "client", "(II)I"⟩
abbrev cd_R_follows : ByteArray := prog_8_method_12_code
def y_R_follows : MethodName := ⟨"BridgeClientsModel", "follows", "(II)I"⟩
abbrev cd_R_unproved : ByteArray := prog_8_method_13_code
def y_R_unproved : MethodName := ⟨"BridgeClientsModel", "unproved", "(II)I"⟩
abbrev cd_R_stepOf : ByteArray := prog_8_method_14_code
def y_R_stepOf : MethodName := ⟨"BridgeClientsModel", "stepOf", "(III)I"⟩
abbrev cd_R_unprovedStep : ByteArray := prog_8_method_15_code
def y_R_unprovedStep : MethodName := ⟨"BridgeClientsModel", "unprovedStep", "(IIII)I"⟩
abbrev cd_R_noChannel : ByteArray := prog_8_method_16_code
def y_R_noChannel : MethodName := ⟨"BridgeClientsModel", "noChannel", "(I)Z"⟩
abbrev cd_R_init : ByteArray := prog_8_method_17_code
def y_R_init : MethodName := ⟨"BridgeClientsModel", "init", "(IZI)I"⟩
abbrev cd_R_greatestOf : ByteArray := prog_8_method_18_code
def y_R_greatestOf : MethodName := ⟨"BridgeClientsModel", "greatestOf", "(I)I"⟩
abbrev cd_R_meet : ByteArray := prog_8_method_19_code
def y_R_meet : MethodName := ⟨"BridgeClientsModel", "meet", "(III)I"⟩
abbrev cd_R_agree : ByteArray := prog_8_method_20_code
def y_R_agree : MethodName := ⟨"BridgeClientsModel", "agree", "(II)I"⟩
abbrev cd_R_confirm : ByteArray := prog_8_method_21_code
def y_R_confirm : MethodName := ⟨"BridgeClientsModel", "confirm", "(II)I"⟩
abbrev cd_R_close : ByteArray := prog_8_method_22_code
def y_R_close : MethodName := ⟨"BridgeClientsModel", "close", "(II)I"⟩
abbrev cd_R_shut : ByteArray := prog_8_method_23_code
def y_R_shut : MethodName := ⟨"BridgeClientsModel", "shut", "(III)I"⟩
abbrev cd_R_has : ByteArray := prog_8_method_24_code
def y_R_has : MethodName := ⟨"BridgeClientsModel", "has", "(III)I"⟩
abbrev cd_R_give : ByteArray := prog_8_method_25_code
def y_R_give : MethodName := ⟨"BridgeClientsModel", "give", "(IIII)V"⟩
abbrev cd_R_send : ByteArray := prog_8_method_26_code
def y_R_send : MethodName := ⟨"BridgeClientsModel", "send", "(IIIIIII)I"⟩
abbrev cd_R_noMessage : ByteArray := prog_8_method_27_code
def y_R_noMessage : MethodName := ⟨"BridgeClientsModel", "noMessage", "(I)Z"⟩
abbrev cd_R_isBehind : ByteArray := prog_8_method_28_code
def y_R_isBehind : MethodName := ⟨"BridgeClientsModel", "isBehind", "(IZ)Z"⟩
abbrev cd_R_receive : ByteArray := prog_8_method_29_code
def y_R_receive : MethodName := ⟨"BridgeClientsModel", "receive", "(II)I"⟩
abbrev cd_R_finish : ByteArray := prog_8_method_30_code
def y_R_finish : MethodName := ⟨"BridgeClientsModel", "finish", "(IZ)V"⟩
abbrev cd_R_acknowledge : ByteArray := prog_8_method_31_code
def y_R_acknowledge : MethodName := ⟨"BridgeClientsModel", "acknowledge", "(II)I"⟩
abbrev cd_R_timeout : ByteArray := prog_8_method_32_code
def y_R_timeout : MethodName := ⟨"BridgeClientsModel", "timeout", "(II)I"⟩
abbrev cd_R_end : ByteArray := prog_8_method_33_code
def y_R_end : MethodName := ⟨"BridgeClientsModel", "end", "(III)I"⟩
abbrev cd_R_stepAt : ByteArray := prog_8_method_34_code
def y_R_stepAt : MethodName := ⟨"BridgeClientsModel", "stepAt", "(III)I"⟩
abbrev cd_R_message : ByteArray := prog_8_method_35_code
def y_R_message : MethodName := ⟨"BridgeClientsModel", "message", "(II)I"⟩
abbrev cd_R_balance : ByteArray := prog_8_method_36_code
def y_R_balance : MethodName := ⟨"BridgeClientsModel", "balance", "(III)I"⟩
abbrev cd_R_vouchers : ByteArray := prog_8_method_37_code
def y_R_vouchers : MethodName := ⟨"BridgeClientsModel", "vouchers", "(III)I"⟩
abbrev cd_R_held : ByteArray := prog_8_method_38_code
def y_R_held : MethodName := ⟨"BridgeClientsModel", "held", "(II)I"⟩
abbrev cd_R_sum : ByteArray := prog_8_method_39_code
def y_R_sum : MethodName := ⟨"BridgeClientsModel", "sum", "(II)I"⟩
abbrev cd_R_count : ByteArray := prog_8_method_40_code
def y_R_count : MethodName := ⟨"BridgeClientsModel", "count", "(I)I"⟩
abbrev cd_R_clear : ByteArray := prog_8_method_41_code
def y_R_clear : MethodName := ⟨"BridgeClientsModel", "clear", "()I"⟩
abbrev cd_Ch_new : ByteArray := prog_2_method_1_code
def y_Ch_new : MethodName := ⟨"BridgeClients$Channel", "<init>", "()V"⟩
abbrev cd_Cl_new : ByteArray := prog_3_method_1_code
def y_Cl_new : MethodName := ⟨"BridgeClients$Client", "<init>", "()V"⟩
abbrev cd_Cl_howFollowed : ByteArray := prog_3_method_2_code
def y_Cl_howFollowed : MethodName := ⟨"BridgeClients$Client", "howFollowed", "(I)I"⟩
abbrev cd_Cl_isToldMark : ByteArray := prog_3_method_3_code
def y_Cl_isToldMark : MethodName := ⟨"BridgeClients$Client", "isToldMark", "(II)Z"⟩
abbrev cd_Cl_add : ByteArray := prog_3_method_4_code
def y_Cl_add : MethodName := ⟨"BridgeClients$Client", "add", "(II)V"⟩
abbrev cd_Cl_refusal : ByteArray := prog_3_method_5_code
def y_Cl_refusal : MethodName := ⟨"BridgeClients$Client", "refusal", "(I)I"⟩
abbrev cd_Cl_forgetAll : ByteArray := prog_3_method_6_code
def y_Cl_forgetAll : MethodName := ⟨"BridgeClients$Client", "forgetAll", "()V"⟩
abbrev cd_En_new : ByteArray := prog_4_method_1_code
def y_En_new : MethodName := ⟨"BridgeClients$End", "<init>", "()V"⟩
abbrev cd_En_comeTo : ByteArray := prog_4_method_2_code
def y_En_comeTo : MethodName := ⟨"BridgeClients$End", "comeTo", "(II)V"⟩
abbrev cd_En_stepIn : ByteArray := prog_4_method_3_code
def y_En_stepIn : MethodName := ⟨"BridgeClients$End", "stepIn", "(I)I"⟩
abbrev cd_En_beginAnew : ByteArray := prog_4_method_4_code
def y_En_beginAnew : MethodName := ⟨"BridgeClients$End", "beginAnew", "()V"⟩
abbrev cd_Le_new : ByteArray := prog_5_method_1_code
def y_Le_new : MethodName := ⟨"BridgeClients$Ledger", "<init>", "()V"⟩
abbrev cd_Le_beginAnew : ByteArray := prog_5_method_2_code
def y_Le_beginAnew : MethodName := ⟨"BridgeClients$Ledger", "beginAnew", "()V"⟩
abbrev cd_Me_new : ByteArray := prog_6_method_1_code
def y_Me_new : MethodName := ⟨"BridgeClients$Message", "<init>", "()V"⟩
abbrev cd_Me_beginToStand : ByteArray := prog_6_method_2_code
def y_Me_beginToStand : MethodName := ⟨"BridgeClients$Message", "beginToStand", "(I)V"⟩
abbrev cd_Me_isOfSameEnd : ByteArray := prog_6_method_3_code
def y_Me_isOfSameEnd : MethodName := ⟨"BridgeClients$Message", "isOfSameEnd", "(LBridgeClients$Message;)Z"⟩
abbrev cd_Me_standsIn : ByteArray := prog_6_method_4_code
def y_Me_standsIn : MethodName := ⟨"BridgeClients$Message", "standsIn", "(I)Z"⟩
abbrev cd_Me_isReceivedIn : ByteArray := prog_6_method_5_code
def y_Me_isReceivedIn : MethodName := ⟨"BridgeClients$Message", "isReceivedIn", "(I)Z"⟩
def y_law_law : MethodName := ⟨"BridgeClientsLaw", "law", "([I)Z"⟩
abbrev cd_Ob_new : ByteArray := object_method_1_code
def y_Ob_new : MethodName := ⟨"java/lang/Object", "<init>", "()V"⟩
abbrev cd_Ma_max : ByteArray := prog_9_method_65_code
def y_Ma_max : MethodName := ⟨"java/lang/Math", "max", "(II)I"⟩
abbrev cd_Ar_fill : ByteArray := prog_10_method_103_code
def y_Ar_fill : MethodName := ⟨"java/util/Arrays", "fill", "([II)V"⟩
theorem kn_law : (Cond.initialized "BridgeClientsLaw") ∈ lw_tbl := List.mem_of_getElem? (i := 44) (by decide +kernel)
theorem kn_B : (Cond.initialized "BridgeClients") ∈ lw_tbl := List.mem_of_getElem? (i := 45) (by decide +kernel)
theorem kn_Le : (Cond.initialized "BridgeClients$Ledger") ∈ lw_tbl := List.mem_of_getElem? (i := 46) (by decide +kernel)
theorem kn_Cl : (Cond.initialized "BridgeClients$Client") ∈ lw_tbl := List.mem_of_getElem? (i := 47) (by decide +kernel)
theorem kn_Ch : (Cond.initialized "BridgeClients$Channel") ∈ lw_tbl := List.mem_of_getElem? (i := 48) (by decide +kernel)
theorem kn_En : (Cond.initialized "BridgeClients$End") ∈ lw_tbl := List.mem_of_getElem? (i := 49) (by decide +kernel)
theorem kn_Me : (Cond.initialized "BridgeClients$Message") ∈ lw_tbl := List.mem_of_getElem? (i := 50) (by decide +kernel)
theorem kn_Ar : (Cond.initialized "java/util/Arrays") ∈ lw_tbl := List.mem_of_getElem? (i := 51) (by decide +kernel)
theorem kn_R : (Cond.initialized "BridgeClientsModel") ∈ lw_tbl := List.mem_of_getElem? (i := 52) (by decide +kernel)
theorem kn_Ma : (Cond.initialized "java/lang/Math") ∈ lw_tbl := List.mem_of_getElem? (i := 53) (by decide +kernel)
theorem kl_law_7 : (Cond.classLink "BridgeClientsLaw" (7 : Nat) "BridgeClients") ∈ lw_tbl := List.mem_of_getElem? (i := 54) (by decide +kernel)
theorem kt_B : (Cond.instantiable "BridgeClients" (5 : Nat)) ∈ lw_tbl := List.mem_of_getElem? (i := 55) (by decide +kernel)
theorem km_law_9 : (Cond.methodLink "BridgeClientsLaw" (9 : Nat) ({ cls := "BridgeClients", name := "<init>", desc := "()V" } : MethodName)) ∈ lw_tbl := List.mem_of_getElem? (i := 56) (by decide +kernel)
theorem ki_B_new : (Cond.instanceMethod ({ cls := "BridgeClients", name := "<init>", desc := "()V" } : MethodName)) ∈ lw_tbl := List.mem_of_getElem? (i := 57) (by decide +kernel)
theorem kc_B_new : (Cond.code ({ cls := "BridgeClients", name := "<init>", desc := "()V" } : MethodName) prog_1_method_1_code (2 : Nat) (Option.none : Option FieldType)) ∈ lw_tbl := List.mem_of_getElem? (i := 58) (by decide +kernel)
theorem km_B_3 : (Cond.methodLink "BridgeClients" (3 : Nat) ({ cls := "java/lang/Object", name := "<init>", desc := "()V" } : MethodName)) ∈ lw_tbl := List.mem_of_getElem? (i := 59) (by decide +kernel)
theorem ki_Ob_new : (Cond.instanceMethod ({ cls := "java/lang/Object", name := "<init>", desc := "()V" } : MethodName)) ∈ lw_tbl := List.mem_of_getElem? (i := 60) (by decide +kernel)
theorem kc_Ob_new : (Cond.code ({ cls := "java/lang/Object", name := "<init>", desc := "()V" } : MethodName) object_method_1_code (1 : Nat) (Option.none : Option FieldType)) ∈ lw_tbl := List.mem_of_getElem? (i := 61) (by decide +kernel)
theorem kl_B_9 : (Cond.classLink "BridgeClients" (9 : Nat) "BridgeClients$Ledger") ∈ lw_tbl := List.mem_of_getElem? (i := 62) (by decide +kernel)
theorem ko_Le : (Cond.arrayOver (FieldType.object "BridgeClients$Ledger")) ∈ lw_tbl := List.mem_of_getElem? (i := 63) (by decide +kernel)
theorem kl_B_15 : (Cond.classLink "BridgeClients" (15 : Nat) "BridgeClients$Channel") ∈ lw_tbl := List.mem_of_getElem? (i := 64) (by decide +kernel)
theorem ko_Ch : (Cond.arrayOver (FieldType.object "BridgeClients$Channel")) ∈ lw_tbl := List.mem_of_getElem? (i := 65) (by decide +kernel)
theorem kl_B_21 : (Cond.classLink "BridgeClients" (21 : Nat) "BridgeClients$Message") ∈ lw_tbl := List.mem_of_getElem? (i := 66) (by decide +kernel)
theorem ko_Me : (Cond.arrayOver (FieldType.object "BridgeClients$Message")) ∈ lw_tbl := List.mem_of_getElem? (i := 67) (by decide +kernel)
theorem kt_Le : (Cond.instantiable "BridgeClients$Ledger" (3 : Nat)) ∈ lw_tbl := List.mem_of_getElem? (i := 68) (by decide +kernel)
theorem km_B_27 : (Cond.methodLinkNest "BridgeClients" (27 : Nat) ({ cls := "BridgeClients$Ledger", name := "<init>", desc := "()V" } : MethodName) "BridgeClients") ∈ lw_tbl := List.mem_of_getElem? (i := 69) (by decide +kernel)
theorem ki_Le_new : (Cond.instanceMethod ({ cls := "BridgeClients$Ledger", name := "<init>", desc := "()V" } : MethodName)) ∈ lw_tbl := List.mem_of_getElem? (i := 70) (by decide +kernel)
theorem kc_Le_new : (Cond.code ({ cls := "BridgeClients$Ledger", name := "<init>", desc := "()V" } : MethodName) prog_5_method_1_code (1 : Nat) (Option.none : Option FieldType)) ∈ lw_tbl := List.mem_of_getElem? (i := 71) (by decide +kernel)
theorem km_Le_3 : (Cond.methodLink "BridgeClients$Ledger" (3 : Nat) ({ cls := "java/lang/Object", name := "<init>", desc := "()V" } : MethodName)) ∈ lw_tbl := List.mem_of_getElem? (i := 72) (by decide +kernel)
theorem kl_Le_15 : (Cond.classLink "BridgeClients$Ledger" (15 : Nat) "BridgeClients$Client") ∈ lw_tbl := List.mem_of_getElem? (i := 73) (by decide +kernel)
theorem kt_Cl : (Cond.instantiable "BridgeClients$Client" (4 : Nat)) ∈ lw_tbl := List.mem_of_getElem? (i := 74) (by decide +kernel)
theorem km_Le_17 : (Cond.methodLinkNest "BridgeClients$Ledger" (17 : Nat) ({ cls := "BridgeClients$Client", name := "<init>", desc := "()V" } : MethodName) "BridgeClients") ∈ lw_tbl := List.mem_of_getElem? (i := 75) (by decide +kernel)
theorem ki_Cl_new : (Cond.instanceMethod ({ cls := "BridgeClients$Client", name := "<init>", desc := "()V" } : MethodName)) ∈ lw_tbl := List.mem_of_getElem? (i := 76) (by decide +kernel)
theorem kc_Cl_new : (Cond.code ({ cls := "BridgeClients$Client", name := "<init>", desc := "()V" } : MethodName) prog_3_method_1_code (1 : Nat) (Option.none : Option FieldType)) ∈ lw_tbl := List.mem_of_getElem? (i := 77) (by decide +kernel)
theorem km_Cl_3 : (Cond.methodLink "BridgeClients$Client" (3 : Nat) ({ cls := "java/lang/Object", name := "<init>", desc := "()V" } : MethodName)) ∈ lw_tbl := List.mem_of_getElem? (i := 78) (by decide +kernel)
theorem kf_Cl_9 : (Cond.fieldLink "BridgeClients$Client" (9 : Nat) "BridgeClients$Client" "told" "[I") ∈ lw_tbl := List.mem_of_getElem? (i := 79) (by decide +kernel)
theorem kf_B_59 : (Cond.fieldLinkNest "BridgeClients" (59 : Nat) "BridgeClients$Client" "frozen" "Z" "BridgeClients") ∈ lw_tbl := List.mem_of_getElem? (i := 80) (by decide +kernel)
theorem kf_Cl_36 : (Cond.fieldLink "BridgeClients$Client" (36 : Nat) "BridgeClients$Client" "frozen" "Z") ∈ lw_tbl := List.mem_of_getElem? (i := 81) (by decide +kernel)
theorem kf_Cl_23 : (Cond.fieldLink "BridgeClients$Client" (23 : Nat) "BridgeClients$Client" "greatest" "I") ∈ lw_tbl := List.mem_of_getElem? (i := 82) (by decide +kernel)
theorem kf_B_77 : (Cond.fieldLinkNest "BridgeClients" (77 : Nat) "BridgeClients$Client" "greatest" "I" "BridgeClients") ∈ lw_tbl := List.mem_of_getElem? (i := 83) (by decide +kernel)
theorem kf_B_67 : (Cond.fieldLinkNest "BridgeClients" (67 : Nat) "BridgeClients$Client" "howMany" "I" "BridgeClients") ∈ lw_tbl := List.mem_of_getElem? (i := 84) (by decide +kernel)
theorem kf_Cl_33 : (Cond.fieldLink "BridgeClients$Client" (33 : Nat) "BridgeClients$Client" "howMany" "I") ∈ lw_tbl := List.mem_of_getElem? (i := 85) (by decide +kernel)
theorem ka_int : (Cond.arrayClass FieldType.int) ∈ lw_tbl := List.mem_of_getElem? (i := 95) (by decide +kernel)
theorem kf_Le_9 : (Cond.fieldLink "BridgeClients$Ledger" (9 : Nat) "BridgeClients$Ledger" "coins" "[I") ∈ lw_tbl := List.mem_of_getElem? (i := 96) (by decide +kernel)
theorem kf_B_218 : (Cond.fieldLinkNest "BridgeClients" (218 : Nat) "BridgeClients$Ledger" "coins" "[I" "BridgeClients") ∈ lw_tbl := List.mem_of_getElem? (i := 97) (by decide +kernel)
theorem kf_Le_18 : (Cond.fieldLink "BridgeClients$Ledger" (18 : Nat) "BridgeClients$Ledger" "client" "LBridgeClients$Client;") ∈ lw_tbl := List.mem_of_getElem? (i := 98) (by decide +kernel)
theorem kf_B_45 : (Cond.fieldLinkNest "BridgeClients" (45 : Nat) "BridgeClients$Ledger" "client" "LBridgeClients$Client;" "BridgeClients") ∈ lw_tbl := List.mem_of_getElem? (i := 99) (by decide +kernel)
theorem kf_B_37 : (Cond.fieldLinkNest "BridgeClients" (37 : Nat) "BridgeClients$Ledger" "height" "I" "BridgeClients") ∈ lw_tbl := List.mem_of_getElem? (i := 100) (by decide +kernel)
theorem kf_Le_31 : (Cond.fieldLink "BridgeClients$Ledger" (31 : Nat) "BridgeClients$Ledger" "height" "I") ∈ lw_tbl := List.mem_of_getElem? (i := 101) (by decide +kernel)
theorem kt_Ch : (Cond.instantiable "BridgeClients$Channel" (3 : Nat)) ∈ lw_tbl := List.mem_of_getElem? (i := 109) (by decide +kernel)
theorem km_B_28 : (Cond.methodLinkNest "BridgeClients" (28 : Nat) ({ cls := "BridgeClients$Channel", name := "<init>", desc := "()V" } : MethodName) "BridgeClients") ∈ lw_tbl := List.mem_of_getElem? (i := 110) (by decide +kernel)
theorem ki_Ch_new : (Cond.instanceMethod ({ cls := "BridgeClients$Channel", name := "<init>", desc := "()V" } : MethodName)) ∈ lw_tbl := List.mem_of_getElem? (i := 111) (by decide +kernel)
theorem kc_Ch_new : (Cond.code ({ cls := "BridgeClients$Channel", name := "<init>", desc := "()V" } : MethodName) prog_2_method_1_code (1 : Nat) (Option.none : Option FieldType)) ∈ lw_tbl := List.mem_of_getElem? (i := 112) (by decide +kernel)
theorem km_Ch_1 : (Cond.methodLink "BridgeClients$Channel" (1 : Nat) ({ cls := "java/lang/Object", name := "<init>", desc := "()V" } : MethodName)) ∈ lw_tbl := List.mem_of_getElem? (i := 113) (by decide +kernel)
theorem kl_Ch_7 : (Cond.classLink "BridgeClients$Channel" (7 : Nat) "BridgeClients$End") ∈ lw_tbl := List.mem_of_getElem? (i := 114) (by decide +kernel)
theorem ko_En : (Cond.arrayOver (FieldType.object "BridgeClients$End")) ∈ lw_tbl := List.mem_of_getElem? (i := 115) (by decide +kernel)
theorem kt_En : (Cond.instantiable "BridgeClients$End" (8 : Nat)) ∈ lw_tbl := List.mem_of_getElem? (i := 116) (by decide +kernel)
theorem km_Ch_9 : (Cond.methodLinkNest "BridgeClients$Channel" (9 : Nat) ({ cls := "BridgeClients$End", name := "<init>", desc := "()V" } : MethodName) "BridgeClients") ∈ lw_tbl := List.mem_of_getElem? (i := 117) (by decide +kernel)
theorem ki_En_new : (Cond.instanceMethod ({ cls := "BridgeClients$End", name := "<init>", desc := "()V" } : MethodName)) ∈ lw_tbl := List.mem_of_getElem? (i := 118) (by decide +kernel)
theorem kc_En_new : (Cond.code ({ cls := "BridgeClients$End", name := "<init>", desc := "()V" } : MethodName) prog_4_method_1_code (1 : Nat) (Option.none : Option FieldType)) ∈ lw_tbl := List.mem_of_getElem? (i := 119) (by decide +kernel)
theorem km_En_3 : (Cond.methodLink "BridgeClients$End" (3 : Nat) ({ cls := "java/lang/Object", name := "<init>", desc := "()V" } : MethodName)) ∈ lw_tbl := List.mem_of_getElem? (i := 120) (by decide +kernel)
theorem kf_En_9 : (Cond.fieldLink "BridgeClients$End" (9 : Nat) "BridgeClients$End" "cameAt" "[I") ∈ lw_tbl := List.mem_of_getElem? (i := 121) (by decide +kernel)
theorem kf_En_15 : (Cond.fieldLink "BridgeClients$End" (15 : Nat) "BridgeClients$End" "vouchers" "[I") ∈ lw_tbl := List.mem_of_getElem? (i := 122) (by decide +kernel)
theorem kf_B_222 : (Cond.fieldLinkNest "BridgeClients" (222 : Nat) "BridgeClients$End" "vouchers" "[I" "BridgeClients") ∈ lw_tbl := List.mem_of_getElem? (i := 123) (by decide +kernel)
theorem kf_En_22 : (Cond.fieldLink "BridgeClients$End" (22 : Nat) "BridgeClients$End" "step" "I") ∈ lw_tbl := List.mem_of_getElem? (i := 124) (by decide +kernel)
theorem kf_B_114 : (Cond.fieldLinkNest "BridgeClients" (114 : Nat) "BridgeClients$End" "step" "I" "BridgeClients") ∈ lw_tbl := List.mem_of_getElem? (i := 125) (by decide +kernel)
theorem kf_En_32 : (Cond.fieldLink "BridgeClients$End" (32 : Nat) "BridgeClients$End" "offer" "I") ∈ lw_tbl := List.mem_of_getElem? (i := 126) (by decide +kernel)
theorem kf_B_93 : (Cond.fieldLinkNest "BridgeClients" (93 : Nat) "BridgeClients$End" "offer" "I" "BridgeClients") ∈ lw_tbl := List.mem_of_getElem? (i := 127) (by decide +kernel)
theorem kf_En_35 : (Cond.fieldLink "BridgeClients$End" (35 : Nat) "BridgeClients$End" "version" "I") ∈ lw_tbl := List.mem_of_getElem? (i := 128) (by decide +kernel)
theorem kf_B_111 : (Cond.fieldLinkNest "BridgeClients" (111 : Nat) "BridgeClients$End" "version" "I" "BridgeClients") ∈ lw_tbl := List.mem_of_getElem? (i := 129) (by decide +kernel)
theorem kf_En_38 : (Cond.fieldLink "BridgeClients$End" (38 : Nat) "BridgeClients$End" "escrow" "I") ∈ lw_tbl := List.mem_of_getElem? (i := 130) (by decide +kernel)
theorem kf_B_197 : (Cond.fieldLinkNest "BridgeClients" (197 : Nat) "BridgeClients$End" "escrow" "I" "BridgeClients") ∈ lw_tbl := List.mem_of_getElem? (i := 131) (by decide +kernel)
theorem kf_En_41 : (Cond.fieldLink "BridgeClients$End" (41 : Nat) "BridgeClients$End" "sent" "I") ∈ lw_tbl := List.mem_of_getElem? (i := 132) (by decide +kernel)
theorem kf_B_200 : (Cond.fieldLinkNest "BridgeClients" (200 : Nat) "BridgeClients$End" "sent" "I" "BridgeClients") ∈ lw_tbl := List.mem_of_getElem? (i := 133) (by decide +kernel)
theorem kf_En_44 : (Cond.fieldLink "BridgeClients$End" (44 : Nat) "BridgeClients$End" "received" "I") ∈ lw_tbl := List.mem_of_getElem? (i := 134) (by decide +kernel)
theorem kf_B_174 : (Cond.fieldLinkNest "BridgeClients" (174 : Nat) "BridgeClients$End" "received" "I" "BridgeClients") ∈ lw_tbl := List.mem_of_getElem? (i := 135) (by decide +kernel)
theorem kf_Ch_10 : (Cond.fieldLink "BridgeClients$Channel" (10 : Nat) "BridgeClients$Channel" "ends" "[LBridgeClients$End;") ∈ lw_tbl := List.mem_of_getElem? (i := 153) (by decide +kernel)
theorem kf_B_89 : (Cond.fieldLinkNest "BridgeClients" (89 : Nat) "BridgeClients$Channel" "ends" "[LBridgeClients$End;" "BridgeClients") ∈ lw_tbl := List.mem_of_getElem? (i := 154) (by decide +kernel)
theorem kf_B_86 : (Cond.fieldLinkNest "BridgeClients" (86 : Nat) "BridgeClients$Channel" "ordered" "Z" "BridgeClients") ∈ lw_tbl := List.mem_of_getElem? (i := 155) (by decide +kernel)
theorem kf_B_83 : (Cond.fieldLinkNest "BridgeClients" (83 : Nat) "BridgeClients$Channel" "first" "I" "BridgeClients") ∈ lw_tbl := List.mem_of_getElem? (i := 156) (by decide +kernel)
theorem kt_Me : (Cond.instantiable "BridgeClients$Message" (14 : Nat)) ∈ lw_tbl := List.mem_of_getElem? (i := 164) (by decide +kernel)
theorem km_B_29 : (Cond.methodLinkNest "BridgeClients" (29 : Nat) ({ cls := "BridgeClients$Message", name := "<init>", desc := "()V" } : MethodName) "BridgeClients") ∈ lw_tbl := List.mem_of_getElem? (i := 165) (by decide +kernel)
theorem ki_Me_new : (Cond.instanceMethod ({ cls := "BridgeClients$Message", name := "<init>", desc := "()V" } : MethodName)) ∈ lw_tbl := List.mem_of_getElem? (i := 166) (by decide +kernel)
theorem kc_Me_new : (Cond.code ({ cls := "BridgeClients$Message", name := "<init>", desc := "()V" } : MethodName) prog_6_method_1_code (1 : Nat) (Option.none : Option FieldType)) ∈ lw_tbl := List.mem_of_getElem? (i := 167) (by decide +kernel)
theorem km_Me_3 : (Cond.methodLink "BridgeClients$Message" (3 : Nat) ({ cls := "java/lang/Object", name := "<init>", desc := "()V" } : MethodName)) ∈ lw_tbl := List.mem_of_getElem? (i := 168) (by decide +kernel)
theorem kf_Me_31 : (Cond.fieldLink "BridgeClients$Message" (31 : Nat) "BridgeClients$Message" "channel" "I") ∈ lw_tbl := List.mem_of_getElem? (i := 169) (by decide +kernel)
theorem kf_B_144 : (Cond.fieldLinkNest "BridgeClients" (144 : Nat) "BridgeClients$Message" "channel" "I" "BridgeClients") ∈ lw_tbl := List.mem_of_getElem? (i := 170) (by decide +kernel)
theorem kf_Me_34 : (Cond.fieldLink "BridgeClients$Message" (34 : Nat) "BridgeClients$Message" "side" "I") ∈ lw_tbl := List.mem_of_getElem? (i := 171) (by decide +kernel)
theorem kf_B_141 : (Cond.fieldLinkNest "BridgeClients" (141 : Nat) "BridgeClients$Message" "side" "I" "BridgeClients") ∈ lw_tbl := List.mem_of_getElem? (i := 172) (by decide +kernel)
theorem kf_B_206 : (Cond.fieldLinkNest "BridgeClients" (206 : Nat) "BridgeClients$Message" "place" "I" "BridgeClients") ∈ lw_tbl := List.mem_of_getElem? (i := 173) (by decide +kernel)
theorem kf_B_209 : (Cond.fieldLinkNest "BridgeClients" (209 : Nat) "BridgeClients$Message" "account" "I" "BridgeClients") ∈ lw_tbl := List.mem_of_getElem? (i := 174) (by decide +kernel)
theorem kf_B_162 : (Cond.fieldLinkNest "BridgeClients" (162 : Nat) "BridgeClients$Message" "to" "I" "BridgeClients") ∈ lw_tbl := List.mem_of_getElem? (i := 175) (by decide +kernel)
theorem kf_B_165 : (Cond.fieldLinkNest "BridgeClients" (165 : Nat) "BridgeClients$Message" "coin" "I" "BridgeClients") ∈ lw_tbl := List.mem_of_getElem? (i := 176) (by decide +kernel)
theorem kf_B_168 : (Cond.fieldLinkNest "BridgeClients" (168 : Nat) "BridgeClients$Message" "amount" "I" "BridgeClients") ∈ lw_tbl := List.mem_of_getElem? (i := 177) (by decide +kernel)
theorem kf_B_156 : (Cond.fieldLinkNest "BridgeClients" (156 : Nat) "BridgeClients$Message" "until" "I" "BridgeClients") ∈ lw_tbl := List.mem_of_getElem? (i := 178) (by decide +kernel)
theorem kf_Me_9 : (Cond.fieldLink "BridgeClients$Message" (9 : Nat) "BridgeClients$Message" "stands" "Z") ∈ lw_tbl := List.mem_of_getElem? (i := 179) (by decide +kernel)
theorem kf_B_212 : (Cond.fieldLinkNest "BridgeClients" (212 : Nat) "BridgeClients$Message" "stands" "Z" "BridgeClients") ∈ lw_tbl := List.mem_of_getElem? (i := 180) (by decide +kernel)
theorem kf_Me_15 : (Cond.fieldLink "BridgeClients$Message" (15 : Nat) "BridgeClients$Message" "cameBack" "Z") ∈ lw_tbl := List.mem_of_getElem? (i := 181) (by decide +kernel)
theorem kf_B_215 : (Cond.fieldLinkNest "BridgeClients" (215 : Nat) "BridgeClients$Message" "cameBack" "Z" "BridgeClients") ∈ lw_tbl := List.mem_of_getElem? (i := 182) (by decide +kernel)
theorem kf_Me_18 : (Cond.fieldLink "BridgeClients$Message" (18 : Nat) "BridgeClients$Message" "outcome" "I") ∈ lw_tbl := List.mem_of_getElem? (i := 183) (by decide +kernel)
theorem kf_B_147 : (Cond.fieldLinkNest "BridgeClients" (147 : Nat) "BridgeClients$Message" "outcome" "I" "BridgeClients") ∈ lw_tbl := List.mem_of_getElem? (i := 184) (by decide +kernel)
theorem kf_Me_22 : (Cond.fieldLink "BridgeClients$Message" (22 : Nat) "BridgeClients$Message" "sentAt" "I") ∈ lw_tbl := List.mem_of_getElem? (i := 185) (by decide +kernel)
theorem kf_Me_25 : (Cond.fieldLink "BridgeClients$Message" (25 : Nat) "BridgeClients$Message" "finishedAt" "I") ∈ lw_tbl := List.mem_of_getElem? (i := 186) (by decide +kernel)
theorem kf_B_250 : (Cond.fieldLinkNest "BridgeClients" (250 : Nat) "BridgeClients$Message" "finishedAt" "I" "BridgeClients") ∈ lw_tbl := List.mem_of_getElem? (i := 187) (by decide +kernel)
theorem kf_Me_28 : (Cond.fieldLink "BridgeClients$Message" (28 : Nat) "BridgeClients$Message" "receivedAt" "I") ∈ lw_tbl := List.mem_of_getElem? (i := 188) (by decide +kernel)
theorem kf_B_177 : (Cond.fieldLinkNest "BridgeClients" (177 : Nat) "BridgeClients$Message" "receivedAt" "I" "BridgeClients") ∈ lw_tbl := List.mem_of_getElem? (i := 189) (by decide +kernel)
theorem km_B_30 : (Cond.methodLink "BridgeClients" (30 : Nat) ({ cls := "BridgeClients", name := "beginAnew", desc := "()V" } : MethodName)) ∈ lw_tbl := List.mem_of_getElem? (i := 219) (by decide +kernel)
theorem ki_B_beginAnew : (Cond.instanceMethod ({ cls := "BridgeClients", name := "beginAnew", desc := "()V" } : MethodName)) ∈ lw_tbl := List.mem_of_getElem? (i := 221) (by decide +kernel)
theorem kc_B_beginAnew : (Cond.code ({ cls := "BridgeClients", name := "beginAnew", desc := "()V" } : MethodName) prog_1_method_48_code (2 : Nat) (Option.none : Option FieldType)) ∈ lw_tbl := List.mem_of_getElem? (i := 222) (by decide +kernel)
theorem km_B_253 : (Cond.methodLinkNest "BridgeClients" (253 : Nat) ({ cls := "BridgeClients$Ledger", name := "beginAnew", desc := "()V" } : MethodName) "BridgeClients") ∈ lw_tbl := List.mem_of_getElem? (i := 223) (by decide +kernel)
theorem ki_Le_beginAnew : (Cond.instanceMethod ({ cls := "BridgeClients$Ledger", name := "beginAnew", desc := "()V" } : MethodName)) ∈ lw_tbl := List.mem_of_getElem? (i := 225) (by decide +kernel)
theorem kc_Le_beginAnew : (Cond.code ({ cls := "BridgeClients$Ledger", name := "beginAnew", desc := "()V" } : MethodName) prog_5_method_2_code (1 : Nat) (Option.none : Option FieldType)) ∈ lw_tbl := List.mem_of_getElem? (i := 226) (by decide +kernel)
theorem km_Le_22 : (Cond.methodLink "BridgeClients$Ledger" (22 : Nat) ({ cls := "java/util/Arrays", name := "fill", desc := "([II)V" } : MethodName)) ∈ lw_tbl := List.mem_of_getElem? (i := 227) (by decide +kernel)
theorem ks_Ar_fill : (Cond.static ({ cls := "java/util/Arrays", name := "fill", desc := "([II)V" } : MethodName)) ∈ lw_tbl := List.mem_of_getElem? (i := 228) (by decide +kernel)
theorem kc_Ar_fill : (Cond.code ({ cls := "java/util/Arrays", name := "fill", desc := "([II)V" } : MethodName) prog_10_method_103_code (4 : Nat) (Option.none : Option FieldType)) ∈ lw_tbl := List.mem_of_getElem? (i := 229) (by decide +kernel)
theorem km_Le_28 : (Cond.methodLinkNest "BridgeClients$Ledger" (28 : Nat) ({ cls := "BridgeClients$Client", name := "forgetAll", desc := "()V" } : MethodName) "BridgeClients") ∈ lw_tbl := List.mem_of_getElem? (i := 230) (by decide +kernel)
theorem ki_Cl_forgetAll : (Cond.instanceMethod ({ cls := "BridgeClients$Client", name := "forgetAll", desc := "()V" } : MethodName)) ∈ lw_tbl := List.mem_of_getElem? (i := 232) (by decide +kernel)
theorem kc_Cl_forgetAll : (Cond.code ({ cls := "BridgeClients$Client", name := "forgetAll", desc := "()V" } : MethodName) prog_3_method_6_code (1 : Nat) (Option.none : Option FieldType)) ∈ lw_tbl := List.mem_of_getElem? (i := 233) (by decide +kernel)
theorem km_Cl_44 : (Cond.methodLink "BridgeClients$Client" (44 : Nat) ({ cls := "java/util/Arrays", name := "fill", desc := "([II)V" } : MethodName)) ∈ lw_tbl := List.mem_of_getElem? (i := 234) (by decide +kernel)
theorem km_B_254 : (Cond.methodLinkNest "BridgeClients" (254 : Nat) ({ cls := "BridgeClients$End", name := "beginAnew", desc := "()V" } : MethodName) "BridgeClients") ∈ lw_tbl := List.mem_of_getElem? (i := 235) (by decide +kernel)
theorem ki_En_beginAnew : (Cond.instanceMethod ({ cls := "BridgeClients$End", name := "beginAnew", desc := "()V" } : MethodName)) ∈ lw_tbl := List.mem_of_getElem? (i := 237) (by decide +kernel)
theorem kc_En_beginAnew : (Cond.code ({ cls := "BridgeClients$End", name := "beginAnew", desc := "()V" } : MethodName) prog_4_method_4_code (1 : Nat) (Option.none : Option FieldType)) ∈ lw_tbl := List.mem_of_getElem? (i := 238) (by decide +kernel)
theorem km_En_26 : (Cond.methodLink "BridgeClients$End" (26 : Nat) ({ cls := "java/util/Arrays", name := "fill", desc := "([II)V" } : MethodName)) ∈ lw_tbl := List.mem_of_getElem? (i := 239) (by decide +kernel)
theorem kf_B_11 : (Cond.fieldLink "BridgeClients" (11 : Nat) "BridgeClients" "ledgers" "[LBridgeClients$Ledger;") ∈ lw_tbl := List.mem_of_getElem? (i := 240) (by decide +kernel)
theorem kf_B_17 : (Cond.fieldLink "BridgeClients" (17 : Nat) "BridgeClients" "channels" "[LBridgeClients$Channel;") ∈ lw_tbl := List.mem_of_getElem? (i := 241) (by decide +kernel)
theorem kf_B_23 : (Cond.fieldLink "BridgeClients" (23 : Nat) "BridgeClients" "messages" "[LBridgeClients$Message;") ∈ lw_tbl := List.mem_of_getElem? (i := 242) (by decide +kernel)
theorem kf_B_80 : (Cond.fieldLink "BridgeClients" (80 : Nat) "BridgeClients" "channelCount" "I") ∈ lw_tbl := List.mem_of_getElem? (i := 243) (by decide +kernel)
theorem kf_B_127 : (Cond.fieldLink "BridgeClients" (127 : Nat) "BridgeClients" "messageCount" "I") ∈ lw_tbl := List.mem_of_getElem? (i := 244) (by decide +kernel)
theorem km_law_13 : (Cond.methodLink "BridgeClientsLaw" (13 : Nat) ({ cls := "BridgeClients", name := "tick", desc := "(I)I" } : MethodName)) ∈ lw_tbl := List.mem_of_getElem? (i := 256) (by decide +kernel)
theorem ki_B_tick : (Cond.instanceMethod ({ cls := "BridgeClients", name := "tick", desc := "(I)I" } : MethodName)) ∈ lw_tbl := List.mem_of_getElem? (i := 257) (by decide +kernel)
theorem kx_B_tick : (Cond.selects "BridgeClients" ({ cls := "BridgeClients", name := "tick", desc := "(I)I" } : MethodName) ({ cls := "BridgeClients", name := "tick", desc := "(I)I" } : MethodName)) ∈ lw_tbl := List.mem_of_getElem? (i := 258) (by decide +kernel)
theorem kc_B_tick : (Cond.code ({ cls := "BridgeClients", name := "tick", desc := "(I)I" } : MethodName) prog_1_method_2_code (3 : Nat) (Option.some FieldType.int)) ∈ lw_tbl := List.mem_of_getElem? (i := 259) (by decide +kernel)
theorem km_B_33 : (Cond.methodLink "BridgeClients" (33 : Nat) ({ cls := "BridgeClients", name := "isSide", desc := "(I)Z" } : MethodName)) ∈ lw_tbl := List.mem_of_getElem? (i := 260) (by decide +kernel)
theorem ks_B_isSide : (Cond.static ({ cls := "BridgeClients", name := "isSide", desc := "(I)Z" } : MethodName)) ∈ lw_tbl := List.mem_of_getElem? (i := 261) (by decide +kernel)
theorem kc_B_isSide : (Cond.code ({ cls := "BridgeClients", name := "isSide", desc := "(I)Z" } : MethodName) prog_1_method_26_code (1 : Nat) (Option.some FieldType.boolean)) ∈ lw_tbl := List.mem_of_getElem? (i := 262) (by decide +kernel)
theorem km_B_41 : (Cond.methodLink "BridgeClients" (41 : Nat) ({ cls := "BridgeClients", name := "isWithin", desc := "(III)Z" } : MethodName)) ∈ lw_tbl := List.mem_of_getElem? (i := 263) (by decide +kernel)
theorem ks_B_isWithin : (Cond.static ({ cls := "BridgeClients", name := "isWithin", desc := "(III)Z" } : MethodName)) ∈ lw_tbl := List.mem_of_getElem? (i := 264) (by decide +kernel)
theorem kc_B_isWithin : (Cond.code ({ cls := "BridgeClients", name := "isWithin", desc := "(III)Z" } : MethodName) prog_1_method_25_code (3 : Nat) (Option.some FieldType.boolean)) ∈ lw_tbl := List.mem_of_getElem? (i := 265) (by decide +kernel)
theorem km_law_18 : (Cond.methodLink "BridgeClientsLaw" (18 : Nat) ({ cls := "BridgeClients", name := "follow", desc := "(III)I" } : MethodName)) ∈ lw_tbl := List.mem_of_getElem? (i := 266) (by decide +kernel)
theorem ki_B_follow : (Cond.instanceMethod ({ cls := "BridgeClients", name := "follow", desc := "(III)I" } : MethodName)) ∈ lw_tbl := List.mem_of_getElem? (i := 267) (by decide +kernel)
theorem kx_B_follow : (Cond.selects "BridgeClients" ({ cls := "BridgeClients", name := "follow", desc := "(III)I" } : MethodName) ({ cls := "BridgeClients", name := "follow", desc := "(III)I" } : MethodName)) ∈ lw_tbl := List.mem_of_getElem? (i := 268) (by decide +kernel)
theorem kc_B_follow : (Cond.code ({ cls := "BridgeClients", name := "follow", desc := "(III)I" } : MethodName) prog_1_method_3_code (6 : Nat) (Option.some FieldType.int)) ∈ lw_tbl := List.mem_of_getElem? (i := 269) (by decide +kernel)
theorem km_B_49 : (Cond.methodLinkNest "BridgeClients" (49 : Nat) ({ cls := "BridgeClients$Client", name := "howFollowed", desc := "(I)I" } : MethodName) "BridgeClients") ∈ lw_tbl := List.mem_of_getElem? (i := 270) (by decide +kernel)
theorem ki_Cl_howFollowed : (Cond.instanceMethod ({ cls := "BridgeClients$Client", name := "howFollowed", desc := "(I)I" } : MethodName)) ∈ lw_tbl := List.mem_of_getElem? (i := 272) (by decide +kernel)
theorem kc_Cl_howFollowed : (Cond.code ({ cls := "BridgeClients$Client", name := "howFollowed", desc := "(I)I" } : MethodName) prog_3_method_2_code (2 : Nat) (Option.some FieldType.int)) ∈ lw_tbl := List.mem_of_getElem? (i := 273) (by decide +kernel)
theorem km_Cl_15 : (Cond.methodLinkNest "BridgeClients$Client" (15 : Nat) ({ cls := "BridgeClients", name := "isWithin", desc := "(III)Z" } : MethodName) "BridgeClients") ∈ lw_tbl := List.mem_of_getElem? (i := 274) (by decide +kernel)
theorem km_Cl_19 : (Cond.methodLink "BridgeClients$Client" (19 : Nat) ({ cls := "BridgeClients$Client", name := "isToldMark", desc := "(II)Z" } : MethodName)) ∈ lw_tbl := List.mem_of_getElem? (i := 275) (by decide +kernel)
theorem ki_Cl_isToldMark : (Cond.instanceMethod ({ cls := "BridgeClients$Client", name := "isToldMark", desc := "(II)Z" } : MethodName)) ∈ lw_tbl := List.mem_of_getElem? (i := 277) (by decide +kernel)
theorem kc_Cl_isToldMark : (Cond.code ({ cls := "BridgeClients$Client", name := "isToldMark", desc := "(II)Z" } : MethodName) prog_3_method_3_code (3 : Nat) (Option.some FieldType.boolean)) ∈ lw_tbl := List.mem_of_getElem? (i := 278) (by decide +kernel)
theorem km_B_55 : (Cond.methodLinkNest "BridgeClients" (55 : Nat) ({ cls := "BridgeClients$Client", name := "isToldMark", desc := "(II)Z" } : MethodName) "BridgeClients") ∈ lw_tbl := List.mem_of_getElem? (i := 279) (by decide +kernel)
theorem km_B_63 : (Cond.methodLinkNest "BridgeClients" (63 : Nat) ({ cls := "BridgeClients$Client", name := "add", desc := "(II)V" } : MethodName) "BridgeClients") ∈ lw_tbl := List.mem_of_getElem? (i := 280) (by decide +kernel)
theorem ki_Cl_add : (Cond.instanceMethod ({ cls := "BridgeClients$Client", name := "add", desc := "(II)V" } : MethodName)) ∈ lw_tbl := List.mem_of_getElem? (i := 282) (by decide +kernel)
theorem kc_Cl_add : (Cond.code ({ cls := "BridgeClients$Client", name := "add", desc := "(II)V" } : MethodName) prog_3_method_4_code (3 : Nat) (Option.none : Option FieldType)) ∈ lw_tbl := List.mem_of_getElem? (i := 283) (by decide +kernel)
theorem km_Cl_27 : (Cond.methodLink "BridgeClients$Client" (27 : Nat) ({ cls := "java/lang/Math", name := "max", desc := "(II)I" } : MethodName)) ∈ lw_tbl := List.mem_of_getElem? (i := 284) (by decide +kernel)
theorem ks_Ma_max : (Cond.static ({ cls := "java/lang/Math", name := "max", desc := "(II)I" } : MethodName)) ∈ lw_tbl := List.mem_of_getElem? (i := 285) (by decide +kernel)
theorem kc_Ma_max : (Cond.code ({ cls := "java/lang/Math", name := "max", desc := "(II)I" } : MethodName) prog_9_method_65_code (2 : Nat) (Option.some FieldType.int)) ∈ lw_tbl := List.mem_of_getElem? (i := 286) (by decide +kernel)
theorem km_law_23 : (Cond.methodLink "BridgeClientsLaw" (23 : Nat) ({ cls := "BridgeClients", name := "renew", desc := "(I)I" } : MethodName)) ∈ lw_tbl := List.mem_of_getElem? (i := 287) (by decide +kernel)
theorem ki_B_renew : (Cond.instanceMethod ({ cls := "BridgeClients", name := "renew", desc := "(I)I" } : MethodName)) ∈ lw_tbl := List.mem_of_getElem? (i := 288) (by decide +kernel)
theorem kx_B_renew : (Cond.selects "BridgeClients" ({ cls := "BridgeClients", name := "renew", desc := "(I)I" } : MethodName) ({ cls := "BridgeClients", name := "renew", desc := "(I)I" } : MethodName)) ∈ lw_tbl := List.mem_of_getElem? (i := 289) (by decide +kernel)
theorem kc_B_renew : (Cond.code ({ cls := "BridgeClients", name := "renew", desc := "(I)I" } : MethodName) prog_1_method_4_code (4 : Nat) (Option.some FieldType.int)) ∈ lw_tbl := List.mem_of_getElem? (i := 290) (by decide +kernel)
theorem km_B_70 : (Cond.methodLinkNest "BridgeClients" (70 : Nat) ({ cls := "BridgeClients$Client", name := "forgetAll", desc := "()V" } : MethodName) "BridgeClients") ∈ lw_tbl := List.mem_of_getElem? (i := 291) (by decide +kernel)
theorem km_law_27 : (Cond.methodLink "BridgeClientsLaw" (27 : Nat) ({ cls := "BridgeClients", name := "client", desc := "(II)I" } : MethodName)) ∈ lw_tbl := List.mem_of_getElem? (i := 292) (by decide +kernel)
theorem ki_B_client : (Cond.instanceMethod ({ cls := "BridgeClients", name := "client", desc := "(II)I" } : MethodName)) ∈ lw_tbl := List.mem_of_getElem? (i := 293) (by decide +kernel)
theorem kx_B_client : (Cond.selects "BridgeClients" ({ cls := "BridgeClients", name := "client", desc := "(II)I" } : MethodName) ({ cls := "BridgeClients", name := "client", desc := "(II)I" } : MethodName)) ∈ lw_tbl := List.mem_of_getElem? (i := 294) (by decide +kernel)
theorem kc_B_client : (Cond.code ({ cls := "BridgeClients", name := "client", desc := "(II)I" } : MethodName) prog_1_method_5_code (4 : Nat) (Option.some FieldType.int)) ∈ lw_tbl := List.mem_of_getElem? (i := 295) (by decide +kernel)
theorem km_B_73 : (Cond.methodLink "BridgeClients" (73 : Nat) ({ cls := "BridgeClients", name := "oneIf", desc := "(Z)I" } : MethodName)) ∈ lw_tbl := List.mem_of_getElem? (i := 296) (by decide +kernel)
theorem ks_B_oneIf : (Cond.static ({ cls := "BridgeClients", name := "oneIf", desc := "(Z)I" } : MethodName)) ∈ lw_tbl := List.mem_of_getElem? (i := 297) (by decide +kernel)
theorem kc_B_oneIf : (Cond.code ({ cls := "BridgeClients", name := "oneIf", desc := "(Z)I" } : MethodName) prog_1_method_31_code (1 : Nat) (Option.some FieldType.int)) ∈ lw_tbl := List.mem_of_getElem? (i := 298) (by decide +kernel)
theorem km_law_32 : (Cond.methodLink "BridgeClientsLaw" (32 : Nat) ({ cls := "BridgeClients", name := "follows", desc := "(II)I" } : MethodName)) ∈ lw_tbl := List.mem_of_getElem? (i := 299) (by decide +kernel)
theorem ki_B_follows : (Cond.instanceMethod ({ cls := "BridgeClients", name := "follows", desc := "(II)I" } : MethodName)) ∈ lw_tbl := List.mem_of_getElem? (i := 300) (by decide +kernel)
theorem kx_B_follows : (Cond.selects "BridgeClients" ({ cls := "BridgeClients", name := "follows", desc := "(II)I" } : MethodName) ({ cls := "BridgeClients", name := "follows", desc := "(II)I" } : MethodName)) ∈ lw_tbl := List.mem_of_getElem? (i := 301) (by decide +kernel)
theorem kc_B_follows : (Cond.code ({ cls := "BridgeClients", name := "follows", desc := "(II)I" } : MethodName) prog_1_method_6_code (3 : Nat) (Option.some FieldType.int)) ∈ lw_tbl := List.mem_of_getElem? (i := 302) (by decide +kernel)
theorem km_law_36 : (Cond.methodLink "BridgeClientsLaw" (36 : Nat) ({ cls := "BridgeClients", name := "init", desc := "(IZI)I" } : MethodName)) ∈ lw_tbl := List.mem_of_getElem? (i := 303) (by decide +kernel)
theorem ki_B_init : (Cond.instanceMethod ({ cls := "BridgeClients", name := "init", desc := "(IZI)I" } : MethodName)) ∈ lw_tbl := List.mem_of_getElem? (i := 304) (by decide +kernel)
theorem kx_B_init : (Cond.selects "BridgeClients" ({ cls := "BridgeClients", name := "init", desc := "(IZI)I" } : MethodName) ({ cls := "BridgeClients", name := "init", desc := "(IZI)I" } : MethodName)) ∈ lw_tbl := List.mem_of_getElem? (i := 305) (by decide +kernel)
theorem kc_B_init : (Cond.code ({ cls := "BridgeClients", name := "init", desc := "(IZI)I" } : MethodName) prog_1_method_7_code (5 : Nat) (Option.some FieldType.int)) ∈ lw_tbl := List.mem_of_getElem? (i := 306) (by decide +kernel)
theorem km_B_98 : (Cond.methodLinkNest "BridgeClients" (98 : Nat) ({ cls := "BridgeClients$End", name := "comeTo", desc := "(II)V" } : MethodName) "BridgeClients") ∈ lw_tbl := List.mem_of_getElem? (i := 307) (by decide +kernel)
theorem ki_En_comeTo : (Cond.instanceMethod ({ cls := "BridgeClients$End", name := "comeTo", desc := "(II)V" } : MethodName)) ∈ lw_tbl := List.mem_of_getElem? (i := 309) (by decide +kernel)
theorem kc_En_comeTo : (Cond.code ({ cls := "BridgeClients$End", name := "comeTo", desc := "(II)V" } : MethodName) prog_4_method_2_code (3 : Nat) (Option.none : Option FieldType)) ∈ lw_tbl := List.mem_of_getElem? (i := 310) (by decide +kernel)
theorem km_En_18 : (Cond.methodLinkNest "BridgeClients$End" (18 : Nat) ({ cls := "BridgeClients", name := "isWithin", desc := "(III)Z" } : MethodName) "BridgeClients") ∈ lw_tbl := List.mem_of_getElem? (i := 311) (by decide +kernel)
theorem km_law_41 : (Cond.methodLink "BridgeClientsLaw" (41 : Nat) ({ cls := "BridgeClients", name := "meet", desc := "(III)I" } : MethodName)) ∈ lw_tbl := List.mem_of_getElem? (i := 312) (by decide +kernel)
theorem ki_B_meet : (Cond.instanceMethod ({ cls := "BridgeClients", name := "meet", desc := "(III)I" } : MethodName)) ∈ lw_tbl := List.mem_of_getElem? (i := 313) (by decide +kernel)
theorem kx_B_meet : (Cond.selects "BridgeClients" ({ cls := "BridgeClients", name := "meet", desc := "(III)I" } : MethodName) ({ cls := "BridgeClients", name := "meet", desc := "(III)I" } : MethodName)) ∈ lw_tbl := List.mem_of_getElem? (i := 314) (by decide +kernel)
theorem kc_B_meet : (Cond.code ({ cls := "BridgeClients", name := "meet", desc := "(III)I" } : MethodName) prog_1_method_8_code (9 : Nat) (Option.some FieldType.int)) ∈ lw_tbl := List.mem_of_getElem? (i := 315) (by decide +kernel)
theorem km_B_101 : (Cond.methodLink "BridgeClients" (101 : Nat) ({ cls := "BridgeClients", name := "isChannel", desc := "(I)Z" } : MethodName)) ∈ lw_tbl := List.mem_of_getElem? (i := 316) (by decide +kernel)
theorem ki_B_isChannel : (Cond.instanceMethod ({ cls := "BridgeClients", name := "isChannel", desc := "(I)Z" } : MethodName)) ∈ lw_tbl := List.mem_of_getElem? (i := 318) (by decide +kernel)
theorem kc_B_isChannel : (Cond.code ({ cls := "BridgeClients", name := "isChannel", desc := "(I)Z" } : MethodName) prog_1_method_29_code (2 : Nat) (Option.some FieldType.boolean)) ∈ lw_tbl := List.mem_of_getElem? (i := 319) (by decide +kernel)
theorem km_B_104 : (Cond.methodLink "BridgeClients" (104 : Nat) ({ cls := "BridgeClients", name := "refusalOfStep", desc := "(IIIII)I" } : MethodName)) ∈ lw_tbl := List.mem_of_getElem? (i := 320) (by decide +kernel)
theorem ki_B_refusalOfStep : (Cond.instanceMethod ({ cls := "BridgeClients", name := "refusalOfStep", desc := "(IIIII)I" } : MethodName)) ∈ lw_tbl := List.mem_of_getElem? (i := 322) (by decide +kernel)
theorem kc_B_refusalOfStep : (Cond.code ({ cls := "BridgeClients", name := "refusalOfStep", desc := "(IIIII)I" } : MethodName) prog_1_method_32_code (8 : Nat) (Option.some FieldType.int)) ∈ lw_tbl := List.mem_of_getElem? (i := 323) (by decide +kernel)
theorem km_B_150 : (Cond.methodLinkNest "BridgeClients" (150 : Nat) ({ cls := "BridgeClients$Client", name := "refusal", desc := "(I)I" } : MethodName) "BridgeClients") ∈ lw_tbl := List.mem_of_getElem? (i := 324) (by decide +kernel)
theorem ki_Cl_refusal : (Cond.instanceMethod ({ cls := "BridgeClients$Client", name := "refusal", desc := "(I)I" } : MethodName)) ∈ lw_tbl := List.mem_of_getElem? (i := 326) (by decide +kernel)
theorem kc_Cl_refusal : (Cond.code ({ cls := "BridgeClients$Client", name := "refusal", desc := "(I)I" } : MethodName) prog_3_method_5_code (2 : Nat) (Option.some FieldType.int)) ∈ lw_tbl := List.mem_of_getElem? (i := 327) (by decide +kernel)
theorem km_Cl_40 : (Cond.methodLink "BridgeClients$Client" (40 : Nat) ({ cls := "BridgeClients$Client", name := "howFollowed", desc := "(I)I" } : MethodName)) ∈ lw_tbl := List.mem_of_getElem? (i := 328) (by decide +kernel)
theorem km_B_203 : (Cond.methodLinkNest "BridgeClients" (203 : Nat) ({ cls := "BridgeClients$End", name := "stepIn", desc := "(I)I" } : MethodName) "BridgeClients") ∈ lw_tbl := List.mem_of_getElem? (i := 329) (by decide +kernel)
theorem ki_En_stepIn : (Cond.instanceMethod ({ cls := "BridgeClients$End", name := "stepIn", desc := "(I)I" } : MethodName)) ∈ lw_tbl := List.mem_of_getElem? (i := 331) (by decide +kernel)
theorem kc_En_stepIn : (Cond.code ({ cls := "BridgeClients$End", name := "stepIn", desc := "(I)I" } : MethodName) prog_4_method_3_code (3 : Nat) (Option.some FieldType.int)) ∈ lw_tbl := List.mem_of_getElem? (i := 332) (by decide +kernel)
theorem km_B_108 : (Cond.methodLink "BridgeClients" (108 : Nat) ({ cls := "BridgeClients", name := "greatestVersion", desc := "(I)I" } : MethodName)) ∈ lw_tbl := List.mem_of_getElem? (i := 333) (by decide +kernel)
theorem ks_B_greatestVersion : (Cond.static ({ cls := "BridgeClients", name := "greatestVersion", desc := "(I)I" } : MethodName)) ∈ lw_tbl := List.mem_of_getElem? (i := 334) (by decide +kernel)
theorem kc_B_greatestVersion : (Cond.code ({ cls := "BridgeClients", name := "greatestVersion", desc := "(I)I" } : MethodName) prog_1_method_42_code (1 : Nat) (Option.some FieldType.int)) ∈ lw_tbl := List.mem_of_getElem? (i := 335) (by decide +kernel)
theorem km_law_45 : (Cond.methodLink "BridgeClientsLaw" (45 : Nat) ({ cls := "BridgeClients", name := "agree", desc := "(II)I" } : MethodName)) ∈ lw_tbl := List.mem_of_getElem? (i := 336) (by decide +kernel)
theorem ki_B_agree : (Cond.instanceMethod ({ cls := "BridgeClients", name := "agree", desc := "(II)I" } : MethodName)) ∈ lw_tbl := List.mem_of_getElem? (i := 337) (by decide +kernel)
theorem kx_B_agree : (Cond.selects "BridgeClients" ({ cls := "BridgeClients", name := "agree", desc := "(II)I" } : MethodName) ({ cls := "BridgeClients", name := "agree", desc := "(II)I" } : MethodName)) ∈ lw_tbl := List.mem_of_getElem? (i := 338) (by decide +kernel)
theorem kc_B_agree : (Cond.code ({ cls := "BridgeClients", name := "agree", desc := "(II)I" } : MethodName) prog_1_method_9_code (7 : Nat) (Option.some FieldType.int)) ∈ lw_tbl := List.mem_of_getElem? (i := 339) (by decide +kernel)
theorem km_law_49 : (Cond.methodLink "BridgeClientsLaw" (49 : Nat) ({ cls := "BridgeClients", name := "confirm", desc := "(II)I" } : MethodName)) ∈ lw_tbl := List.mem_of_getElem? (i := 340) (by decide +kernel)
theorem ki_B_confirm : (Cond.instanceMethod ({ cls := "BridgeClients", name := "confirm", desc := "(II)I" } : MethodName)) ∈ lw_tbl := List.mem_of_getElem? (i := 341) (by decide +kernel)
theorem kx_B_confirm : (Cond.selects "BridgeClients" ({ cls := "BridgeClients", name := "confirm", desc := "(II)I" } : MethodName) ({ cls := "BridgeClients", name := "confirm", desc := "(II)I" } : MethodName)) ∈ lw_tbl := List.mem_of_getElem? (i := 342) (by decide +kernel)
theorem kc_B_confirm : (Cond.code ({ cls := "BridgeClients", name := "confirm", desc := "(II)I" } : MethodName) prog_1_method_10_code (6 : Nat) (Option.some FieldType.int)) ∈ lw_tbl := List.mem_of_getElem? (i := 343) (by decide +kernel)
theorem km_law_53 : (Cond.methodLink "BridgeClientsLaw" (53 : Nat) ({ cls := "BridgeClients", name := "close", desc := "(II)I" } : MethodName)) ∈ lw_tbl := List.mem_of_getElem? (i := 344) (by decide +kernel)
theorem ki_B_close : (Cond.instanceMethod ({ cls := "BridgeClients", name := "close", desc := "(II)I" } : MethodName)) ∈ lw_tbl := List.mem_of_getElem? (i := 345) (by decide +kernel)
theorem kx_B_close : (Cond.selects "BridgeClients" ({ cls := "BridgeClients", name := "close", desc := "(II)I" } : MethodName) ({ cls := "BridgeClients", name := "close", desc := "(II)I" } : MethodName)) ∈ lw_tbl := List.mem_of_getElem? (i := 346) (by decide +kernel)
theorem kc_B_close : (Cond.code ({ cls := "BridgeClients", name := "close", desc := "(II)I" } : MethodName) prog_1_method_11_code (4 : Nat) (Option.some FieldType.int)) ∈ lw_tbl := List.mem_of_getElem? (i := 347) (by decide +kernel)
theorem km_law_57 : (Cond.methodLink "BridgeClientsLaw" (57 : Nat) ({ cls := "BridgeClients", name := "shut", desc := "(III)I" } : MethodName)) ∈ lw_tbl := List.mem_of_getElem? (i := 348) (by decide +kernel)
theorem ki_B_shut : (Cond.instanceMethod ({ cls := "BridgeClients", name := "shut", desc := "(III)I" } : MethodName)) ∈ lw_tbl := List.mem_of_getElem? (i := 349) (by decide +kernel)
theorem kx_B_shut : (Cond.selects "BridgeClients" ({ cls := "BridgeClients", name := "shut", desc := "(III)I" } : MethodName) ({ cls := "BridgeClients", name := "shut", desc := "(III)I" } : MethodName)) ∈ lw_tbl := List.mem_of_getElem? (i := 350) (by decide +kernel)
theorem kc_B_shut : (Cond.code ({ cls := "BridgeClients", name := "shut", desc := "(III)I" } : MethodName) prog_1_method_12_code (5 : Nat) (Option.some FieldType.int)) ∈ lw_tbl := List.mem_of_getElem? (i := 351) (by decide +kernel)
theorem km_law_61 : (Cond.methodLink "BridgeClientsLaw" (61 : Nat) ({ cls := "BridgeClients", name := "send", desc := "(IIIIIII)I" } : MethodName)) ∈ lw_tbl := List.mem_of_getElem? (i := 352) (by decide +kernel)
theorem ki_B_send : (Cond.instanceMethod ({ cls := "BridgeClients", name := "send", desc := "(IIIIIII)I" } : MethodName)) ∈ lw_tbl := List.mem_of_getElem? (i := 353) (by decide +kernel)
theorem kx_B_send : (Cond.selects "BridgeClients" ({ cls := "BridgeClients", name := "send", desc := "(IIIIIII)I" } : MethodName) ({ cls := "BridgeClients", name := "send", desc := "(IIIIIII)I" } : MethodName)) ∈ lw_tbl := List.mem_of_getElem? (i := 354) (by decide +kernel)
theorem kc_B_send : (Cond.code ({ cls := "BridgeClients", name := "send", desc := "(IIIIIII)I" } : MethodName) prog_1_method_13_code (9 : Nat) (Option.some FieldType.int)) ∈ lw_tbl := List.mem_of_getElem? (i := 355) (by decide +kernel)
theorem km_B_117 : (Cond.methodLink "BridgeClients" (117 : Nat) ({ cls := "BridgeClients", name := "isAccount", desc := "(I)Z" } : MethodName)) ∈ lw_tbl := List.mem_of_getElem? (i := 356) (by decide +kernel)
theorem ks_B_isAccount : (Cond.static ({ cls := "BridgeClients", name := "isAccount", desc := "(I)Z" } : MethodName)) ∈ lw_tbl := List.mem_of_getElem? (i := 357) (by decide +kernel)
theorem kc_B_isAccount : (Cond.code ({ cls := "BridgeClients", name := "isAccount", desc := "(I)Z" } : MethodName) prog_1_method_28_code (1 : Nat) (Option.some FieldType.boolean)) ∈ lw_tbl := List.mem_of_getElem? (i := 358) (by decide +kernel)
theorem km_B_120 : (Cond.methodLink "BridgeClients" (120 : Nat) ({ cls := "BridgeClients", name := "isCoin", desc := "(I)Z" } : MethodName)) ∈ lw_tbl := List.mem_of_getElem? (i := 359) (by decide +kernel)
theorem ks_B_isCoin : (Cond.static ({ cls := "BridgeClients", name := "isCoin", desc := "(I)Z" } : MethodName)) ∈ lw_tbl := List.mem_of_getElem? (i := 360) (by decide +kernel)
theorem kc_B_isCoin : (Cond.code ({ cls := "BridgeClients", name := "isCoin", desc := "(I)Z" } : MethodName) prog_1_method_27_code (1 : Nat) (Option.some FieldType.boolean)) ∈ lw_tbl := List.mem_of_getElem? (i := 361) (by decide +kernel)
theorem km_B_123 : (Cond.methodLink "BridgeClients" (123 : Nat) ({ cls := "BridgeClients", name := "purse", desc := "(III)[I" } : MethodName)) ∈ lw_tbl := List.mem_of_getElem? (i := 362) (by decide +kernel)
theorem ki_B_purse : (Cond.instanceMethod ({ cls := "BridgeClients", name := "purse", desc := "(III)[I" } : MethodName)) ∈ lw_tbl := List.mem_of_getElem? (i := 364) (by decide +kernel)
theorem kc_B_purse : (Cond.code ({ cls := "BridgeClients", name := "purse", desc := "(III)[I" } : MethodName) prog_1_method_36_code (4 : Nat) (Option.some (FieldType.array FieldType.int))) ∈ lw_tbl := List.mem_of_getElem? (i := 365) (by decide +kernel)
theorem km_B_130 : (Cond.methodLink "BridgeClients" (130 : Nat) ({ cls := "BridgeClients", name := "takeIn", desc := "(IIIII)V" } : MethodName)) ∈ lw_tbl := List.mem_of_getElem? (i := 366) (by decide +kernel)
theorem ki_B_takeIn : (Cond.instanceMethod ({ cls := "BridgeClients", name := "takeIn", desc := "(IIIII)V" } : MethodName)) ∈ lw_tbl := List.mem_of_getElem? (i := 368) (by decide +kernel)
theorem kc_B_takeIn : (Cond.code ({ cls := "BridgeClients", name := "takeIn", desc := "(IIIII)V" } : MethodName) prog_1_method_37_code (6 : Nat) (Option.none : Option FieldType)) ∈ lw_tbl := List.mem_of_getElem? (i := 369) (by decide +kernel)
theorem km_B_134 : (Cond.methodLink "BridgeClients" (134 : Nat) ({ cls := "BridgeClients", name := "write", desc := "(IIIIIII)V" } : MethodName)) ∈ lw_tbl := List.mem_of_getElem? (i := 370) (by decide +kernel)
theorem ki_B_write : (Cond.instanceMethod ({ cls := "BridgeClients", name := "write", desc := "(IIIIIII)V" } : MethodName)) ∈ lw_tbl := List.mem_of_getElem? (i := 372) (by decide +kernel)
theorem kc_B_write : (Cond.code ({ cls := "BridgeClients", name := "write", desc := "(IIIIIII)V" } : MethodName) prog_1_method_39_code (10 : Nat) (Option.none : Option FieldType)) ∈ lw_tbl := List.mem_of_getElem? (i := 373) (by decide +kernel)
theorem km_B_246 : (Cond.methodLinkNest "BridgeClients" (246 : Nat) ({ cls := "BridgeClients$Message", name := "beginToStand", desc := "(I)V" } : MethodName) "BridgeClients") ∈ lw_tbl := List.mem_of_getElem? (i := 374) (by decide +kernel)
theorem ki_Me_beginToStand : (Cond.instanceMethod ({ cls := "BridgeClients$Message", name := "beginToStand", desc := "(I)V" } : MethodName)) ∈ lw_tbl := List.mem_of_getElem? (i := 376) (by decide +kernel)
theorem kc_Me_beginToStand : (Cond.code ({ cls := "BridgeClients$Message", name := "beginToStand", desc := "(I)V" } : MethodName) prog_6_method_2_code (2 : Nat) (Option.none : Option FieldType)) ∈ lw_tbl := List.mem_of_getElem? (i := 377) (by decide +kernel)
theorem km_law_66 : (Cond.methodLink "BridgeClientsLaw" (66 : Nat) ({ cls := "BridgeClients", name := "receive", desc := "(II)I" } : MethodName)) ∈ lw_tbl := List.mem_of_getElem? (i := 378) (by decide +kernel)
theorem ki_B_receive : (Cond.instanceMethod ({ cls := "BridgeClients", name := "receive", desc := "(II)I" } : MethodName)) ∈ lw_tbl := List.mem_of_getElem? (i := 379) (by decide +kernel)
theorem kx_B_receive : (Cond.selects "BridgeClients" ({ cls := "BridgeClients", name := "receive", desc := "(II)I" } : MethodName) ({ cls := "BridgeClients", name := "receive", desc := "(II)I" } : MethodName)) ∈ lw_tbl := List.mem_of_getElem? (i := 380) (by decide +kernel)
theorem kc_B_receive : (Cond.code ({ cls := "BridgeClients", name := "receive", desc := "(II)I" } : MethodName) prog_1_method_14_code (8 : Nat) (Option.some FieldType.int)) ∈ lw_tbl := List.mem_of_getElem? (i := 381) (by decide +kernel)
theorem km_B_138 : (Cond.methodLink "BridgeClients" (138 : Nat) ({ cls := "BridgeClients", name := "isMessage", desc := "(I)Z" } : MethodName)) ∈ lw_tbl := List.mem_of_getElem? (i := 382) (by decide +kernel)
theorem ki_B_isMessage : (Cond.instanceMethod ({ cls := "BridgeClients", name := "isMessage", desc := "(I)Z" } : MethodName)) ∈ lw_tbl := List.mem_of_getElem? (i := 384) (by decide +kernel)
theorem kc_B_isMessage : (Cond.code ({ cls := "BridgeClients", name := "isMessage", desc := "(I)Z" } : MethodName) prog_1_method_30_code (2 : Nat) (Option.some FieldType.boolean)) ∈ lw_tbl := List.mem_of_getElem? (i := 385) (by decide +kernel)
theorem km_B_153 : (Cond.methodLinkNest "BridgeClients" (153 : Nat) ({ cls := "BridgeClients$Message", name := "standsIn", desc := "(I)Z" } : MethodName) "BridgeClients") ∈ lw_tbl := List.mem_of_getElem? (i := 386) (by decide +kernel)
theorem ki_Me_standsIn : (Cond.instanceMethod ({ cls := "BridgeClients$Message", name := "standsIn", desc := "(I)Z" } : MethodName)) ∈ lw_tbl := List.mem_of_getElem? (i := 388) (by decide +kernel)
theorem kc_Me_standsIn : (Cond.code ({ cls := "BridgeClients$Message", name := "standsIn", desc := "(I)Z" } : MethodName) prog_6_method_4_code (2 : Nat) (Option.some FieldType.boolean)) ∈ lw_tbl := List.mem_of_getElem? (i := 389) (by decide +kernel)
theorem km_B_159 : (Cond.methodLink "BridgeClients" (159 : Nat) ({ cls := "BridgeClients", name := "areAllBeforeReceived", desc := "(I)Z" } : MethodName)) ∈ lw_tbl := List.mem_of_getElem? (i := 390) (by decide +kernel)
theorem ki_B_areAllBeforeReceived : (Cond.instanceMethod ({ cls := "BridgeClients", name := "areAllBeforeReceived", desc := "(I)Z" } : MethodName)) ∈ lw_tbl := List.mem_of_getElem? (i := 392) (by decide +kernel)
theorem kc_B_areAllBeforeReceived : (Cond.code ({ cls := "BridgeClients", name := "areAllBeforeReceived", desc := "(I)Z" } : MethodName) prog_1_method_34_code (3 : Nat) (Option.some FieldType.boolean)) ∈ lw_tbl := List.mem_of_getElem? (i := 393) (by decide +kernel)
theorem km_B_242 : (Cond.methodLinkNest "BridgeClients" (242 : Nat) ({ cls := "BridgeClients$Message", name := "isOfSameEnd", desc := "(LBridgeClients$Message;)Z" } : MethodName) "BridgeClients") ∈ lw_tbl := List.mem_of_getElem? (i := 394) (by decide +kernel)
theorem ki_Me_isOfSameEnd : (Cond.instanceMethod ({ cls := "BridgeClients$Message", name := "isOfSameEnd", desc := "(LBridgeClients$Message;)Z" } : MethodName)) ∈ lw_tbl := List.mem_of_getElem? (i := 396) (by decide +kernel)
theorem kc_Me_isOfSameEnd : (Cond.code ({ cls := "BridgeClients$Message", name := "isOfSameEnd", desc := "(LBridgeClients$Message;)Z" } : MethodName) prog_6_method_3_code (2 : Nat) (Option.some FieldType.boolean)) ∈ lw_tbl := List.mem_of_getElem? (i := 397) (by decide +kernel)
theorem km_B_171 : (Cond.methodLink "BridgeClients" (171 : Nat) ({ cls := "BridgeClients", name := "giveOut", desc := "(IIIII)V" } : MethodName)) ∈ lw_tbl := List.mem_of_getElem? (i := 398) (by decide +kernel)
theorem ki_B_giveOut : (Cond.instanceMethod ({ cls := "BridgeClients", name := "giveOut", desc := "(IIIII)V" } : MethodName)) ∈ lw_tbl := List.mem_of_getElem? (i := 400) (by decide +kernel)
theorem kc_B_giveOut : (Cond.code ({ cls := "BridgeClients", name := "giveOut", desc := "(IIIII)V" } : MethodName) prog_1_method_38_code (6 : Nat) (Option.none : Option FieldType)) ∈ lw_tbl := List.mem_of_getElem? (i := 401) (by decide +kernel)
theorem km_law_70 : (Cond.methodLink "BridgeClientsLaw" (70 : Nat) ({ cls := "BridgeClients", name := "acknowledge", desc := "(II)I" } : MethodName)) ∈ lw_tbl := List.mem_of_getElem? (i := 402) (by decide +kernel)
theorem ki_B_acknowledge : (Cond.instanceMethod ({ cls := "BridgeClients", name := "acknowledge", desc := "(II)I" } : MethodName)) ∈ lw_tbl := List.mem_of_getElem? (i := 403) (by decide +kernel)
theorem kx_B_acknowledge : (Cond.selects "BridgeClients" ({ cls := "BridgeClients", name := "acknowledge", desc := "(II)I" } : MethodName) ({ cls := "BridgeClients", name := "acknowledge", desc := "(II)I" } : MethodName)) ∈ lw_tbl := List.mem_of_getElem? (i := 404) (by decide +kernel)
theorem kc_B_acknowledge : (Cond.code ({ cls := "BridgeClients", name := "acknowledge", desc := "(II)I" } : MethodName) prog_1_method_15_code (5 : Nat) (Option.some FieldType.int)) ∈ lw_tbl := List.mem_of_getElem? (i := 405) (by decide +kernel)
theorem km_B_180 : (Cond.methodLink "BridgeClients" (180 : Nat) ({ cls := "BridgeClients", name := "refusalAtSender", desc := "(LBridgeClients$Message;I)I" } : MethodName)) ∈ lw_tbl := List.mem_of_getElem? (i := 406) (by decide +kernel)
theorem ki_B_refusalAtSender : (Cond.instanceMethod ({ cls := "BridgeClients", name := "refusalAtSender", desc := "(LBridgeClients$Message;I)I" } : MethodName)) ∈ lw_tbl := List.mem_of_getElem? (i := 408) (by decide +kernel)
theorem kc_B_refusalAtSender : (Cond.code ({ cls := "BridgeClients", name := "refusalAtSender", desc := "(LBridgeClients$Message;I)I" } : MethodName) prog_1_method_33_code (3 : Nat) (Option.some FieldType.int)) ∈ lw_tbl := List.mem_of_getElem? (i := 409) (by decide +kernel)
theorem km_B_184 : (Cond.methodLinkNest "BridgeClients" (184 : Nat) ({ cls := "BridgeClients$Message", name := "isReceivedIn", desc := "(I)Z" } : MethodName) "BridgeClients") ∈ lw_tbl := List.mem_of_getElem? (i := 410) (by decide +kernel)
theorem ki_Me_isReceivedIn : (Cond.instanceMethod ({ cls := "BridgeClients$Message", name := "isReceivedIn", desc := "(I)Z" } : MethodName)) ∈ lw_tbl := List.mem_of_getElem? (i := 412) (by decide +kernel)
theorem kc_Me_isReceivedIn : (Cond.code ({ cls := "BridgeClients$Message", name := "isReceivedIn", desc := "(I)Z" } : MethodName) prog_6_method_5_code (2 : Nat) (Option.some FieldType.boolean)) ∈ lw_tbl := List.mem_of_getElem? (i := 413) (by decide +kernel)
theorem km_B_187 : (Cond.methodLink "BridgeClients" (187 : Nat) ({ cls := "BridgeClients", name := "standsOneBefore", desc := "(I)Z" } : MethodName)) ∈ lw_tbl := List.mem_of_getElem? (i := 414) (by decide +kernel)
theorem ki_B_standsOneBefore : (Cond.instanceMethod ({ cls := "BridgeClients", name := "standsOneBefore", desc := "(I)Z" } : MethodName)) ∈ lw_tbl := List.mem_of_getElem? (i := 416) (by decide +kernel)
theorem kc_B_standsOneBefore : (Cond.code ({ cls := "BridgeClients", name := "standsOneBefore", desc := "(I)Z" } : MethodName) prog_1_method_35_code (3 : Nat) (Option.some FieldType.boolean)) ∈ lw_tbl := List.mem_of_getElem? (i := 417) (by decide +kernel)
theorem km_B_190 : (Cond.methodLink "BridgeClients" (190 : Nat) ({ cls := "BridgeClients", name := "finish", desc := "(LBridgeClients$Message;)V" } : MethodName)) ∈ lw_tbl := List.mem_of_getElem? (i := 418) (by decide +kernel)
theorem ki_B_finish : (Cond.instanceMethod ({ cls := "BridgeClients", name := "finish", desc := "(LBridgeClients$Message;)V" } : MethodName)) ∈ lw_tbl := List.mem_of_getElem? (i := 420) (by decide +kernel)
theorem kc_B_finish : (Cond.code ({ cls := "BridgeClients", name := "finish", desc := "(LBridgeClients$Message;)V" } : MethodName) prog_1_method_40_code (2 : Nat) (Option.none : Option FieldType)) ∈ lw_tbl := List.mem_of_getElem? (i := 421) (by decide +kernel)
theorem km_B_194 : (Cond.methodLink "BridgeClients" (194 : Nat) ({ cls := "BridgeClients", name := "giveBack", desc := "(LBridgeClients$Message;)V" } : MethodName)) ∈ lw_tbl := List.mem_of_getElem? (i := 422) (by decide +kernel)
theorem ki_B_giveBack : (Cond.instanceMethod ({ cls := "BridgeClients", name := "giveBack", desc := "(LBridgeClients$Message;)V" } : MethodName)) ∈ lw_tbl := List.mem_of_getElem? (i := 424) (by decide +kernel)
theorem kc_B_giveBack : (Cond.code ({ cls := "BridgeClients", name := "giveBack", desc := "(LBridgeClients$Message;)V" } : MethodName) prog_1_method_41_code (2 : Nat) (Option.none : Option FieldType)) ∈ lw_tbl := List.mem_of_getElem? (i := 425) (by decide +kernel)
theorem km_law_74 : (Cond.methodLink "BridgeClientsLaw" (74 : Nat) ({ cls := "BridgeClients", name := "timeout", desc := "(II)I" } : MethodName)) ∈ lw_tbl := List.mem_of_getElem? (i := 426) (by decide +kernel)
theorem ki_B_timeout : (Cond.instanceMethod ({ cls := "BridgeClients", name := "timeout", desc := "(II)I" } : MethodName)) ∈ lw_tbl := List.mem_of_getElem? (i := 427) (by decide +kernel)
theorem kx_B_timeout : (Cond.selects "BridgeClients" ({ cls := "BridgeClients", name := "timeout", desc := "(II)I" } : MethodName) ({ cls := "BridgeClients", name := "timeout", desc := "(II)I" } : MethodName)) ∈ lw_tbl := List.mem_of_getElem? (i := 428) (by decide +kernel)
theorem kc_B_timeout : (Cond.code ({ cls := "BridgeClients", name := "timeout", desc := "(II)I" } : MethodName) prog_1_method_16_code (6 : Nat) (Option.some FieldType.int)) ∈ lw_tbl := List.mem_of_getElem? (i := 429) (by decide +kernel)
theorem km_law_78 : (Cond.methodLink "BridgeClientsLaw" (78 : Nat) ({ cls := "BridgeClients", name := "end", desc := "(III)I" } : MethodName)) ∈ lw_tbl := List.mem_of_getElem? (i := 430) (by decide +kernel)
theorem ki_B_end : (Cond.instanceMethod ({ cls := "BridgeClients", name := "end", desc := "(III)I" } : MethodName)) ∈ lw_tbl := List.mem_of_getElem? (i := 431) (by decide +kernel)
theorem kx_B_end : (Cond.selects "BridgeClients" ({ cls := "BridgeClients", name := "end", desc := "(III)I" } : MethodName) ({ cls := "BridgeClients", name := "end", desc := "(III)I" } : MethodName)) ∈ lw_tbl := List.mem_of_getElem? (i := 432) (by decide +kernel)
theorem kc_B_end : (Cond.code ({ cls := "BridgeClients", name := "end", desc := "(III)I" } : MethodName) prog_1_method_17_code (5 : Nat) (Option.some FieldType.int)) ∈ lw_tbl := List.mem_of_getElem? (i := 433) (by decide +kernel)
theorem km_law_82 : (Cond.methodLink "BridgeClientsLaw" (82 : Nat) ({ cls := "BridgeClients", name := "stepAt", desc := "(III)I" } : MethodName)) ∈ lw_tbl := List.mem_of_getElem? (i := 434) (by decide +kernel)
theorem ki_B_stepAt : (Cond.instanceMethod ({ cls := "BridgeClients", name := "stepAt", desc := "(III)I" } : MethodName)) ∈ lw_tbl := List.mem_of_getElem? (i := 435) (by decide +kernel)
theorem kx_B_stepAt : (Cond.selects "BridgeClients" ({ cls := "BridgeClients", name := "stepAt", desc := "(III)I" } : MethodName) ({ cls := "BridgeClients", name := "stepAt", desc := "(III)I" } : MethodName)) ∈ lw_tbl := List.mem_of_getElem? (i := 436) (by decide +kernel)
theorem kc_B_stepAt : (Cond.code ({ cls := "BridgeClients", name := "stepAt", desc := "(III)I" } : MethodName) prog_1_method_18_code (4 : Nat) (Option.some FieldType.int)) ∈ lw_tbl := List.mem_of_getElem? (i := 437) (by decide +kernel)
theorem km_law_86 : (Cond.methodLink "BridgeClientsLaw" (86 : Nat) ({ cls := "BridgeClients", name := "message", desc := "(II)I" } : MethodName)) ∈ lw_tbl := List.mem_of_getElem? (i := 438) (by decide +kernel)
theorem ki_B_message : (Cond.instanceMethod ({ cls := "BridgeClients", name := "message", desc := "(II)I" } : MethodName)) ∈ lw_tbl := List.mem_of_getElem? (i := 439) (by decide +kernel)
theorem kx_B_message : (Cond.selects "BridgeClients" ({ cls := "BridgeClients", name := "message", desc := "(II)I" } : MethodName) ({ cls := "BridgeClients", name := "message", desc := "(II)I" } : MethodName)) ∈ lw_tbl := List.mem_of_getElem? (i := 440) (by decide +kernel)
theorem kc_B_message : (Cond.code ({ cls := "BridgeClients", name := "message", desc := "(II)I" } : MethodName) prog_1_method_19_code (4 : Nat) (Option.some FieldType.int)) ∈ lw_tbl := List.mem_of_getElem? (i := 441) (by decide +kernel)
theorem km_law_90 : (Cond.methodLink "BridgeClientsLaw" (90 : Nat) ({ cls := "BridgeClients", name := "balance", desc := "(III)I" } : MethodName)) ∈ lw_tbl := List.mem_of_getElem? (i := 442) (by decide +kernel)
theorem ki_B_balance : (Cond.instanceMethod ({ cls := "BridgeClients", name := "balance", desc := "(III)I" } : MethodName)) ∈ lw_tbl := List.mem_of_getElem? (i := 443) (by decide +kernel)
theorem kx_B_balance : (Cond.selects "BridgeClients" ({ cls := "BridgeClients", name := "balance", desc := "(III)I" } : MethodName) ({ cls := "BridgeClients", name := "balance", desc := "(III)I" } : MethodName)) ∈ lw_tbl := List.mem_of_getElem? (i := 444) (by decide +kernel)
theorem kc_B_balance : (Cond.code ({ cls := "BridgeClients", name := "balance", desc := "(III)I" } : MethodName) prog_1_method_20_code (6 : Nat) (Option.some FieldType.int)) ∈ lw_tbl := List.mem_of_getElem? (i := 445) (by decide +kernel)
theorem km_law_94 : (Cond.methodLink "BridgeClientsLaw" (94 : Nat) ({ cls := "BridgeClients", name := "vouchers", desc := "(III)I" } : MethodName)) ∈ lw_tbl := List.mem_of_getElem? (i := 446) (by decide +kernel)
theorem ki_B_vouchers : (Cond.instanceMethod ({ cls := "BridgeClients", name := "vouchers", desc := "(III)I" } : MethodName)) ∈ lw_tbl := List.mem_of_getElem? (i := 447) (by decide +kernel)
theorem kx_B_vouchers : (Cond.selects "BridgeClients" ({ cls := "BridgeClients", name := "vouchers", desc := "(III)I" } : MethodName) ({ cls := "BridgeClients", name := "vouchers", desc := "(III)I" } : MethodName)) ∈ lw_tbl := List.mem_of_getElem? (i := 448) (by decide +kernel)
theorem kc_B_vouchers : (Cond.code ({ cls := "BridgeClients", name := "vouchers", desc := "(III)I" } : MethodName) prog_1_method_21_code (4 : Nat) (Option.some FieldType.int)) ∈ lw_tbl := List.mem_of_getElem? (i := 449) (by decide +kernel)
theorem km_law_98 : (Cond.methodLink "BridgeClientsLaw" (98 : Nat) ({ cls := "BridgeClients", name := "sum", desc := "(II)I" } : MethodName)) ∈ lw_tbl := List.mem_of_getElem? (i := 450) (by decide +kernel)
theorem ki_B_sum : (Cond.instanceMethod ({ cls := "BridgeClients", name := "sum", desc := "(II)I" } : MethodName)) ∈ lw_tbl := List.mem_of_getElem? (i := 451) (by decide +kernel)
theorem kx_B_sum : (Cond.selects "BridgeClients" ({ cls := "BridgeClients", name := "sum", desc := "(II)I" } : MethodName) ({ cls := "BridgeClients", name := "sum", desc := "(II)I" } : MethodName)) ∈ lw_tbl := List.mem_of_getElem? (i := 452) (by decide +kernel)
theorem kc_B_sum : (Cond.code ({ cls := "BridgeClients", name := "sum", desc := "(II)I" } : MethodName) prog_1_method_22_code (3 : Nat) (Option.some FieldType.int)) ∈ lw_tbl := List.mem_of_getElem? (i := 453) (by decide +kernel)
theorem km_B_225 : (Cond.methodLink "BridgeClients" (225 : Nat) ({ cls := "BridgeClients", name := "total", desc := "([I)I" } : MethodName)) ∈ lw_tbl := List.mem_of_getElem? (i := 454) (by decide +kernel)
theorem ks_B_total : (Cond.static ({ cls := "BridgeClients", name := "total", desc := "([I)I" } : MethodName)) ∈ lw_tbl := List.mem_of_getElem? (i := 455) (by decide +kernel)
theorem kc_B_total : (Cond.code ({ cls := "BridgeClients", name := "total", desc := "([I)I" } : MethodName) prog_1_method_43_code (3 : Nat) (Option.some FieldType.int)) ∈ lw_tbl := List.mem_of_getElem? (i := 456) (by decide +kernel)
theorem km_B_229 : (Cond.methodLink "BridgeClients" (229 : Nat) ({ cls := "BridgeClients", name := "allEscrows", desc := "(I)I" } : MethodName)) ∈ lw_tbl := List.mem_of_getElem? (i := 457) (by decide +kernel)
theorem ki_B_allEscrows : (Cond.instanceMethod ({ cls := "BridgeClients", name := "allEscrows", desc := "(I)I" } : MethodName)) ∈ lw_tbl := List.mem_of_getElem? (i := 459) (by decide +kernel)
theorem kc_B_allEscrows : (Cond.code ({ cls := "BridgeClients", name := "allEscrows", desc := "(I)I" } : MethodName) prog_1_method_44_code (4 : Nat) (Option.some FieldType.int)) ∈ lw_tbl := List.mem_of_getElem? (i := 460) (by decide +kernel)
theorem km_B_232 : (Cond.methodLink "BridgeClients" (232 : Nat) ({ cls := "BridgeClients", name := "allVouchers", desc := "(I)I" } : MethodName)) ∈ lw_tbl := List.mem_of_getElem? (i := 461) (by decide +kernel)
theorem ki_B_allVouchers : (Cond.instanceMethod ({ cls := "BridgeClients", name := "allVouchers", desc := "(I)I" } : MethodName)) ∈ lw_tbl := List.mem_of_getElem? (i := 463) (by decide +kernel)
theorem kc_B_allVouchers : (Cond.code ({ cls := "BridgeClients", name := "allVouchers", desc := "(I)I" } : MethodName) prog_1_method_45_code (4 : Nat) (Option.some FieldType.int)) ∈ lw_tbl := List.mem_of_getElem? (i := 464) (by decide +kernel)
theorem km_B_235 : (Cond.methodLink "BridgeClients" (235 : Nat) ({ cls := "BridgeClients", name := "onTheWay", desc := "(I)I" } : MethodName)) ∈ lw_tbl := List.mem_of_getElem? (i := 465) (by decide +kernel)
theorem ki_B_onTheWay : (Cond.instanceMethod ({ cls := "BridgeClients", name := "onTheWay", desc := "(I)I" } : MethodName)) ∈ lw_tbl := List.mem_of_getElem? (i := 467) (by decide +kernel)
theorem kc_B_onTheWay : (Cond.code ({ cls := "BridgeClients", name := "onTheWay", desc := "(I)I" } : MethodName) prog_1_method_46_code (5 : Nat) (Option.some FieldType.int)) ∈ lw_tbl := List.mem_of_getElem? (i := 468) (by decide +kernel)
theorem km_law_102 : (Cond.methodLink "BridgeClientsLaw" (102 : Nat) ({ cls := "BridgeClients", name := "count", desc := "(I)I" } : MethodName)) ∈ lw_tbl := List.mem_of_getElem? (i := 469) (by decide +kernel)
theorem ki_B_count : (Cond.instanceMethod ({ cls := "BridgeClients", name := "count", desc := "(I)I" } : MethodName)) ∈ lw_tbl := List.mem_of_getElem? (i := 470) (by decide +kernel)
theorem kx_B_count : (Cond.selects "BridgeClients" ({ cls := "BridgeClients", name := "count", desc := "(I)I" } : MethodName) ({ cls := "BridgeClients", name := "count", desc := "(I)I" } : MethodName)) ∈ lw_tbl := List.mem_of_getElem? (i := 471) (by decide +kernel)
theorem kc_B_count : (Cond.code ({ cls := "BridgeClients", name := "count", desc := "(I)I" } : MethodName) prog_1_method_23_code (2 : Nat) (Option.some FieldType.int)) ∈ lw_tbl := List.mem_of_getElem? (i := 472) (by decide +kernel)
theorem km_B_238 : (Cond.methodLink "BridgeClients" (238 : Nat) ({ cls := "BridgeClients", name := "howManyStand", desc := "()I" } : MethodName)) ∈ lw_tbl := List.mem_of_getElem? (i := 473) (by decide +kernel)
theorem ki_B_howManyStand : (Cond.instanceMethod ({ cls := "BridgeClients", name := "howManyStand", desc := "()I" } : MethodName)) ∈ lw_tbl := List.mem_of_getElem? (i := 475) (by decide +kernel)
theorem kc_B_howManyStand : (Cond.code ({ cls := "BridgeClients", name := "howManyStand", desc := "()I" } : MethodName) prog_1_method_47_code (3 : Nat) (Option.some FieldType.int)) ∈ lw_tbl := List.mem_of_getElem? (i := 476) (by decide +kernel)
theorem km_law_106 : (Cond.methodLink "BridgeClientsLaw" (106 : Nat) ({ cls := "BridgeClients", name := "clear", desc := "()I" } : MethodName)) ∈ lw_tbl := List.mem_of_getElem? (i := 477) (by decide +kernel)
theorem ki_B_clear : (Cond.instanceMethod ({ cls := "BridgeClients", name := "clear", desc := "()I" } : MethodName)) ∈ lw_tbl := List.mem_of_getElem? (i := 478) (by decide +kernel)
theorem kx_B_clear : (Cond.selects "BridgeClients" ({ cls := "BridgeClients", name := "clear", desc := "()I" } : MethodName) ({ cls := "BridgeClients", name := "clear", desc := "()I" } : MethodName)) ∈ lw_tbl := List.mem_of_getElem? (i := 479) (by decide +kernel)
theorem kc_B_clear : (Cond.code ({ cls := "BridgeClients", name := "clear", desc := "()I" } : MethodName) prog_1_method_24_code (2 : Nat) (Option.some FieldType.int)) ∈ lw_tbl := List.mem_of_getElem? (i := 480) (by decide +kernel)
theorem kl_law_10 : (Cond.classLink "BridgeClientsLaw" (10 : Nat) "BridgeClientsModel") ∈ lw_tbl := List.mem_of_getElem? (i := 481) (by decide +kernel)
theorem kt_R : (Cond.instantiable "BridgeClientsModel" (30 : Nat)) ∈ lw_tbl := List.mem_of_getElem? (i := 482) (by decide +kernel)
theorem km_law_12 : (Cond.methodLink "BridgeClientsLaw" (12 : Nat) ({ cls := "BridgeClientsModel", name := "<init>", desc := "()V" } : MethodName)) ∈ lw_tbl := List.mem_of_getElem? (i := 483) (by decide +kernel)
theorem ki_R_new : (Cond.instanceMethod ({ cls := "BridgeClientsModel", name := "<init>", desc := "()V" } : MethodName)) ∈ lw_tbl := List.mem_of_getElem? (i := 484) (by decide +kernel)
theorem kc_R_new : (Cond.code ({ cls := "BridgeClientsModel", name := "<init>", desc := "()V" } : MethodName) prog_8_method_1_code (1 : Nat) (Option.none : Option FieldType)) ∈ lw_tbl := List.mem_of_getElem? (i := 485) (by decide +kernel)
theorem km_R_1 : (Cond.methodLink "BridgeClientsModel" (1 : Nat) ({ cls := "java/lang/Object", name := "<init>", desc := "()V" } : MethodName)) ∈ lw_tbl := List.mem_of_getElem? (i := 486) (by decide +kernel)
theorem km_R_95 : (Cond.methodLink "BridgeClientsModel" (95 : Nat) ({ cls := "BridgeClientsModel", name := "begin", desc := "()V" } : MethodName)) ∈ lw_tbl := List.mem_of_getElem? (i := 487) (by decide +kernel)
theorem ki_R_begin : (Cond.instanceMethod ({ cls := "BridgeClientsModel", name := "begin", desc := "()V" } : MethodName)) ∈ lw_tbl := List.mem_of_getElem? (i := 489) (by decide +kernel)
theorem kc_R_begin : (Cond.code ({ cls := "BridgeClientsModel", name := "begin", desc := "()V" } : MethodName) prog_8_method_3_code (3 : Nat) (Option.none : Option FieldType)) ∈ lw_tbl := List.mem_of_getElem? (i := 490) (by decide +kernel)
theorem km_R_105 : (Cond.methodLink "BridgeClientsModel" (105 : Nat) ({ cls := "BridgeClientsModel", name := "forget", desc := "(I)V" } : MethodName)) ∈ lw_tbl := List.mem_of_getElem? (i := 491) (by decide +kernel)
theorem ki_R_forget : (Cond.instanceMethod ({ cls := "BridgeClientsModel", name := "forget", desc := "(I)V" } : MethodName)) ∈ lw_tbl := List.mem_of_getElem? (i := 493) (by decide +kernel)
theorem kc_R_forget : (Cond.code ({ cls := "BridgeClientsModel", name := "forget", desc := "(I)V" } : MethodName) prog_8_method_4_code (3 : Nat) (Option.none : Option FieldType)) ∈ lw_tbl := List.mem_of_getElem? (i := 494) (by decide +kernel)
theorem kf_R_7 : (Cond.fieldLink "BridgeClientsModel" (7 : Nat) "BridgeClientsModel" "heights" "[I") ∈ lw_tbl := List.mem_of_getElem? (i := 495) (by decide +kernel)
theorem kf_R_13 : (Cond.fieldLink "BridgeClientsModel" (13 : Nat) "BridgeClientsModel" "followed" "[I") ∈ lw_tbl := List.mem_of_getElem? (i := 496) (by decide +kernel)
theorem kf_R_16 : (Cond.fieldLink "BridgeClientsModel" (16 : Nat) "BridgeClientsModel" "frozen" "[Z") ∈ lw_tbl := List.mem_of_getElem? (i := 497) (by decide +kernel)
theorem kf_R_98 : (Cond.fieldLink "BridgeClientsModel" (98 : Nat) "BridgeClientsModel" "channels" "I") ∈ lw_tbl := List.mem_of_getElem? (i := 498) (by decide +kernel)
theorem kf_R_20 : (Cond.fieldLink "BridgeClientsModel" (20 : Nat) "BridgeClientsModel" "beginner" "[I") ∈ lw_tbl := List.mem_of_getElem? (i := 499) (by decide +kernel)
theorem kf_R_23 : (Cond.fieldLink "BridgeClientsModel" (23 : Nat) "BridgeClientsModel" "ordered" "[Z") ∈ lw_tbl := List.mem_of_getElem? (i := 500) (by decide +kernel)
theorem kf_R_26 : (Cond.fieldLink "BridgeClientsModel" (26 : Nat) "BridgeClientsModel" "steps" "[I") ∈ lw_tbl := List.mem_of_getElem? (i := 501) (by decide +kernel)
theorem kf_R_29 : (Cond.fieldLink "BridgeClientsModel" (29 : Nat) "BridgeClientsModel" "offers" "[I") ∈ lw_tbl := List.mem_of_getElem? (i := 502) (by decide +kernel)
theorem kf_R_32 : (Cond.fieldLink "BridgeClientsModel" (32 : Nat) "BridgeClientsModel" "versions" "[I") ∈ lw_tbl := List.mem_of_getElem? (i := 503) (by decide +kernel)
theorem kf_R_35 : (Cond.fieldLink "BridgeClientsModel" (35 : Nat) "BridgeClientsModel" "escrows" "[I") ∈ lw_tbl := List.mem_of_getElem? (i := 504) (by decide +kernel)
theorem kf_R_38 : (Cond.fieldLink "BridgeClientsModel" (38 : Nat) "BridgeClientsModel" "sent" "[I") ∈ lw_tbl := List.mem_of_getElem? (i := 505) (by decide +kernel)
theorem kf_R_41 : (Cond.fieldLink "BridgeClientsModel" (41 : Nat) "BridgeClientsModel" "received" "[I") ∈ lw_tbl := List.mem_of_getElem? (i := 506) (by decide +kernel)
theorem kf_R_44 : (Cond.fieldLink "BridgeClientsModel" (44 : Nat) "BridgeClientsModel" "stepsAt" "[I") ∈ lw_tbl := List.mem_of_getElem? (i := 507) (by decide +kernel)
theorem kf_R_47 : (Cond.fieldLink "BridgeClientsModel" (47 : Nat) "BridgeClientsModel" "homes" "[I") ∈ lw_tbl := List.mem_of_getElem? (i := 508) (by decide +kernel)
theorem kf_R_50 : (Cond.fieldLink "BridgeClientsModel" (50 : Nat) "BridgeClientsModel" "vouched" "[I") ∈ lw_tbl := List.mem_of_getElem? (i := 509) (by decide +kernel)
theorem kf_R_102 : (Cond.fieldLink "BridgeClientsModel" (102 : Nat) "BridgeClientsModel" "messages" "I") ∈ lw_tbl := List.mem_of_getElem? (i := 510) (by decide +kernel)
theorem kf_R_53 : (Cond.fieldLink "BridgeClientsModel" (53 : Nat) "BridgeClientsModel" "mChannel" "[I") ∈ lw_tbl := List.mem_of_getElem? (i := 511) (by decide +kernel)
theorem kf_R_56 : (Cond.fieldLink "BridgeClientsModel" (56 : Nat) "BridgeClientsModel" "mSide" "[I") ∈ lw_tbl := List.mem_of_getElem? (i := 512) (by decide +kernel)
theorem kf_R_59 : (Cond.fieldLink "BridgeClientsModel" (59 : Nat) "BridgeClientsModel" "mPlace" "[I") ∈ lw_tbl := List.mem_of_getElem? (i := 513) (by decide +kernel)
theorem kf_R_62 : (Cond.fieldLink "BridgeClientsModel" (62 : Nat) "BridgeClientsModel" "mAmount" "[I") ∈ lw_tbl := List.mem_of_getElem? (i := 514) (by decide +kernel)
theorem kf_R_65 : (Cond.fieldLink "BridgeClientsModel" (65 : Nat) "BridgeClientsModel" "mCoin" "[I") ∈ lw_tbl := List.mem_of_getElem? (i := 515) (by decide +kernel)
theorem kf_R_68 : (Cond.fieldLink "BridgeClientsModel" (68 : Nat) "BridgeClientsModel" "mAccount" "[I") ∈ lw_tbl := List.mem_of_getElem? (i := 516) (by decide +kernel)
theorem kf_R_71 : (Cond.fieldLink "BridgeClientsModel" (71 : Nat) "BridgeClientsModel" "mTo" "[I") ∈ lw_tbl := List.mem_of_getElem? (i := 517) (by decide +kernel)
theorem kf_R_74 : (Cond.fieldLink "BridgeClientsModel" (74 : Nat) "BridgeClientsModel" "mUntil" "[I") ∈ lw_tbl := List.mem_of_getElem? (i := 518) (by decide +kernel)
theorem kf_R_77 : (Cond.fieldLink "BridgeClientsModel" (77 : Nat) "BridgeClientsModel" "mStands" "[Z") ∈ lw_tbl := List.mem_of_getElem? (i := 519) (by decide +kernel)
theorem kf_R_80 : (Cond.fieldLink "BridgeClientsModel" (80 : Nat) "BridgeClientsModel" "mFrom" "[I") ∈ lw_tbl := List.mem_of_getElem? (i := 520) (by decide +kernel)
theorem kf_R_83 : (Cond.fieldLink "BridgeClientsModel" (83 : Nat) "BridgeClientsModel" "mEnd" "[I") ∈ lw_tbl := List.mem_of_getElem? (i := 521) (by decide +kernel)
theorem kf_R_86 : (Cond.fieldLink "BridgeClientsModel" (86 : Nat) "BridgeClientsModel" "mState" "[I") ∈ lw_tbl := List.mem_of_getElem? (i := 522) (by decide +kernel)
theorem kf_R_89 : (Cond.fieldLink "BridgeClientsModel" (89 : Nat) "BridgeClientsModel" "mGot" "[I") ∈ lw_tbl := List.mem_of_getElem? (i := 523) (by decide +kernel)
theorem kf_R_92 : (Cond.fieldLink "BridgeClientsModel" (92 : Nat) "BridgeClientsModel" "mBack" "[Z") ∈ lw_tbl := List.mem_of_getElem? (i := 524) (by decide +kernel)
theorem ka_boolean : (Cond.arrayClass FieldType.boolean) ∈ lw_tbl := List.mem_of_getElem? (i := 586) (by decide +kernel)
theorem km_law_17 : (Cond.methodLink "BridgeClientsLaw" (17 : Nat) ({ cls := "BridgeClientsModel", name := "tick", desc := "(I)I" } : MethodName)) ∈ lw_tbl := List.mem_of_getElem? (i := 587) (by decide +kernel)
theorem ki_R_tick : (Cond.instanceMethod ({ cls := "BridgeClientsModel", name := "tick", desc := "(I)I" } : MethodName)) ∈ lw_tbl := List.mem_of_getElem? (i := 588) (by decide +kernel)
theorem kx_R_tick : (Cond.selects "BridgeClientsModel" ({ cls := "BridgeClientsModel", name := "tick", desc := "(I)I" } : MethodName) ({ cls := "BridgeClientsModel", name := "tick", desc := "(I)I" } : MethodName)) ∈ lw_tbl := List.mem_of_getElem? (i := 589) (by decide +kernel)
theorem kc_R_tick : (Cond.code ({ cls := "BridgeClientsModel", name := "tick", desc := "(I)I" } : MethodName) prog_8_method_6_code (4 : Nat) (Option.some FieldType.int)) ∈ lw_tbl := List.mem_of_getElem? (i := 590) (by decide +kernel)
theorem km_R_109 : (Cond.methodLink "BridgeClientsModel" (109 : Nat) ({ cls := "BridgeClientsModel", name := "noSide", desc := "(I)Z" } : MethodName)) ∈ lw_tbl := List.mem_of_getElem? (i := 591) (by decide +kernel)
theorem ks_R_noSide : (Cond.static ({ cls := "BridgeClientsModel", name := "noSide", desc := "(I)Z" } : MethodName)) ∈ lw_tbl := List.mem_of_getElem? (i := 592) (by decide +kernel)
theorem kc_R_noSide : (Cond.code ({ cls := "BridgeClientsModel", name := "noSide", desc := "(I)Z" } : MethodName) prog_8_method_5_code (1 : Nat) (Option.some FieldType.boolean)) ∈ lw_tbl := List.mem_of_getElem? (i := 593) (by decide +kernel)
theorem km_law_22 : (Cond.methodLink "BridgeClientsLaw" (22 : Nat) ({ cls := "BridgeClientsModel", name := "follow", desc := "(III)I" } : MethodName)) ∈ lw_tbl := List.mem_of_getElem? (i := 594) (by decide +kernel)
theorem ki_R_follow : (Cond.instanceMethod ({ cls := "BridgeClientsModel", name := "follow", desc := "(III)I" } : MethodName)) ∈ lw_tbl := List.mem_of_getElem? (i := 595) (by decide +kernel)
theorem kx_R_follow : (Cond.selects "BridgeClientsModel" ({ cls := "BridgeClientsModel", name := "follow", desc := "(III)I" } : MethodName) ({ cls := "BridgeClientsModel", name := "follow", desc := "(III)I" } : MethodName)) ∈ lw_tbl := List.mem_of_getElem? (i := 596) (by decide +kernel)
theorem kc_R_follow : (Cond.code ({ cls := "BridgeClientsModel", name := "follow", desc := "(III)I" } : MethodName) prog_8_method_7_code (5 : Nat) (Option.some FieldType.int)) ∈ lw_tbl := List.mem_of_getElem? (i := 597) (by decide +kernel)
theorem km_R_113 : (Cond.methodLink "BridgeClientsModel" (113 : Nat) ({ cls := "BridgeClientsModel", name := "in", desc := "(III)Z" } : MethodName)) ∈ lw_tbl := List.mem_of_getElem? (i := 598) (by decide +kernel)
theorem ks_R_in : (Cond.static ({ cls := "BridgeClientsModel", name := "in", desc := "(III)Z" } : MethodName)) ∈ lw_tbl := List.mem_of_getElem? (i := 599) (by decide +kernel)
theorem kc_R_in : (Cond.code ({ cls := "BridgeClientsModel", name := "in", desc := "(III)Z" } : MethodName) prog_8_method_2_code (3 : Nat) (Option.some FieldType.boolean)) ∈ lw_tbl := List.mem_of_getElem? (i := 600) (by decide +kernel)
theorem km_law_26 : (Cond.methodLink "BridgeClientsLaw" (26 : Nat) ({ cls := "BridgeClientsModel", name := "renew", desc := "(I)I" } : MethodName)) ∈ lw_tbl := List.mem_of_getElem? (i := 601) (by decide +kernel)
theorem ki_R_renew : (Cond.instanceMethod ({ cls := "BridgeClientsModel", name := "renew", desc := "(I)I" } : MethodName)) ∈ lw_tbl := List.mem_of_getElem? (i := 602) (by decide +kernel)
theorem kx_R_renew : (Cond.selects "BridgeClientsModel" ({ cls := "BridgeClientsModel", name := "renew", desc := "(I)I" } : MethodName) ({ cls := "BridgeClientsModel", name := "renew", desc := "(I)I" } : MethodName)) ∈ lw_tbl := List.mem_of_getElem? (i := 603) (by decide +kernel)
theorem kc_R_renew : (Cond.code ({ cls := "BridgeClientsModel", name := "renew", desc := "(I)I" } : MethodName) prog_8_method_10_code (3 : Nat) (Option.some FieldType.int)) ∈ lw_tbl := List.mem_of_getElem? (i := 604) (by decide +kernel)
theorem km_R_117 : (Cond.methodLink "BridgeClientsModel" (117 : Nat) ({ cls := "BridgeClientsModel", name := "followedMany", desc := "(I)I" } : MethodName)) ∈ lw_tbl := List.mem_of_getElem? (i := 605) (by decide +kernel)
theorem ki_R_followedMany : (Cond.instanceMethod ({ cls := "BridgeClientsModel", name := "followedMany", desc := "(I)I" } : MethodName)) ∈ lw_tbl := List.mem_of_getElem? (i := 607) (by decide +kernel)
theorem kc_R_followedMany : (Cond.code ({ cls := "BridgeClientsModel", name := "followedMany", desc := "(I)I" } : MethodName) prog_8_method_8_code (4 : Nat) (Option.some FieldType.int)) ∈ lw_tbl := List.mem_of_getElem? (i := 608) (by decide +kernel)
theorem km_law_31 : (Cond.methodLink "BridgeClientsLaw" (31 : Nat) ({ cls := "BridgeClientsModel", name := "client", desc := "(II)I" } : MethodName)) ∈ lw_tbl := List.mem_of_getElem? (i := 609) (by decide +kernel)
theorem ki_R_client : (Cond.instanceMethod ({ cls := "BridgeClientsModel", name := "client", desc := "(II)I" } : MethodName)) ∈ lw_tbl := List.mem_of_getElem? (i := 610) (by decide +kernel)
theorem kx_R_client : (Cond.selects "BridgeClientsModel" ({ cls := "BridgeClientsModel", name := "client", desc := "(II)I" } : MethodName) ({ cls := "BridgeClientsModel", name := "client", desc := "(II)I" } : MethodName)) ∈ lw_tbl := List.mem_of_getElem? (i := 611) (by decide +kernel)
theorem kc_R_client : (Cond.code ({ cls := "BridgeClientsModel", name := "client", desc := "(II)I" } : MethodName) prog_8_method_11_code (3 : Nat) (Option.some FieldType.int)) ∈ lw_tbl := List.mem_of_getElem? (i := 612) (by decide +kernel)
theorem km_R_121 : (Cond.methodLink "BridgeClientsModel" (121 : Nat) ({ cls := "BridgeClientsModel", name := "highest", desc := "(I)I" } : MethodName)) ∈ lw_tbl := List.mem_of_getElem? (i := 613) (by decide +kernel)
theorem ki_R_highest : (Cond.instanceMethod ({ cls := "BridgeClientsModel", name := "highest", desc := "(I)I" } : MethodName)) ∈ lw_tbl := List.mem_of_getElem? (i := 615) (by decide +kernel)
theorem kc_R_highest : (Cond.code ({ cls := "BridgeClientsModel", name := "highest", desc := "(I)I" } : MethodName) prog_8_method_9_code (4 : Nat) (Option.some FieldType.int)) ∈ lw_tbl := List.mem_of_getElem? (i := 616) (by decide +kernel)
theorem km_law_35 : (Cond.methodLink "BridgeClientsLaw" (35 : Nat) ({ cls := "BridgeClientsModel", name := "follows", desc := "(II)I" } : MethodName)) ∈ lw_tbl := List.mem_of_getElem? (i := 617) (by decide +kernel)
theorem ki_R_follows : (Cond.instanceMethod ({ cls := "BridgeClientsModel", name := "follows", desc := "(II)I" } : MethodName)) ∈ lw_tbl := List.mem_of_getElem? (i := 618) (by decide +kernel)
theorem kx_R_follows : (Cond.selects "BridgeClientsModel" ({ cls := "BridgeClientsModel", name := "follows", desc := "(II)I" } : MethodName) ({ cls := "BridgeClientsModel", name := "follows", desc := "(II)I" } : MethodName)) ∈ lw_tbl := List.mem_of_getElem? (i := 619) (by decide +kernel)
theorem kc_R_follows : (Cond.code ({ cls := "BridgeClientsModel", name := "follows", desc := "(II)I" } : MethodName) prog_8_method_12_code (4 : Nat) (Option.some FieldType.int)) ∈ lw_tbl := List.mem_of_getElem? (i := 620) (by decide +kernel)
theorem km_law_40 : (Cond.methodLink "BridgeClientsLaw" (40 : Nat) ({ cls := "BridgeClientsModel", name := "init", desc := "(IZI)I" } : MethodName)) ∈ lw_tbl := List.mem_of_getElem? (i := 621) (by decide +kernel)
theorem ki_R_init : (Cond.instanceMethod ({ cls := "BridgeClientsModel", name := "init", desc := "(IZI)I" } : MethodName)) ∈ lw_tbl := List.mem_of_getElem? (i := 622) (by decide +kernel)
theorem kx_R_init : (Cond.selects "BridgeClientsModel" ({ cls := "BridgeClientsModel", name := "init", desc := "(IZI)I" } : MethodName) ({ cls := "BridgeClientsModel", name := "init", desc := "(IZI)I" } : MethodName)) ∈ lw_tbl := List.mem_of_getElem? (i := 623) (by decide +kernel)
theorem kc_R_init : (Cond.code ({ cls := "BridgeClientsModel", name := "init", desc := "(IZI)I" } : MethodName) prog_8_method_17_code (8 : Nat) (Option.some FieldType.int)) ∈ lw_tbl := List.mem_of_getElem? (i := 624) (by decide +kernel)
theorem km_law_44 : (Cond.methodLink "BridgeClientsLaw" (44 : Nat) ({ cls := "BridgeClientsModel", name := "meet", desc := "(III)I" } : MethodName)) ∈ lw_tbl := List.mem_of_getElem? (i := 625) (by decide +kernel)
theorem ki_R_meet : (Cond.instanceMethod ({ cls := "BridgeClientsModel", name := "meet", desc := "(III)I" } : MethodName)) ∈ lw_tbl := List.mem_of_getElem? (i := 626) (by decide +kernel)
theorem kx_R_meet : (Cond.selects "BridgeClientsModel" ({ cls := "BridgeClientsModel", name := "meet", desc := "(III)I" } : MethodName) ({ cls := "BridgeClientsModel", name := "meet", desc := "(III)I" } : MethodName)) ∈ lw_tbl := List.mem_of_getElem? (i := 627) (by decide +kernel)
theorem kc_R_meet : (Cond.code ({ cls := "BridgeClientsModel", name := "meet", desc := "(III)I" } : MethodName) prog_8_method_19_code (8 : Nat) (Option.some FieldType.int)) ∈ lw_tbl := List.mem_of_getElem? (i := 628) (by decide +kernel)
theorem km_R_135 : (Cond.methodLink "BridgeClientsModel" (135 : Nat) ({ cls := "BridgeClientsModel", name := "noChannel", desc := "(I)Z" } : MethodName)) ∈ lw_tbl := List.mem_of_getElem? (i := 629) (by decide +kernel)
theorem ki_R_noChannel : (Cond.instanceMethod ({ cls := "BridgeClientsModel", name := "noChannel", desc := "(I)Z" } : MethodName)) ∈ lw_tbl := List.mem_of_getElem? (i := 631) (by decide +kernel)
theorem kc_R_noChannel : (Cond.code ({ cls := "BridgeClientsModel", name := "noChannel", desc := "(I)Z" } : MethodName) prog_8_method_16_code (2 : Nat) (Option.some FieldType.boolean)) ∈ lw_tbl := List.mem_of_getElem? (i := 632) (by decide +kernel)
theorem km_R_138 : (Cond.methodLink "BridgeClientsModel" (138 : Nat) ({ cls := "BridgeClientsModel", name := "unprovedStep", desc := "(IIII)I" } : MethodName)) ∈ lw_tbl := List.mem_of_getElem? (i := 633) (by decide +kernel)
theorem ki_R_unprovedStep : (Cond.instanceMethod ({ cls := "BridgeClientsModel", name := "unprovedStep", desc := "(IIII)I" } : MethodName)) ∈ lw_tbl := List.mem_of_getElem? (i := 635) (by decide +kernel)
theorem kc_R_unprovedStep : (Cond.code ({ cls := "BridgeClientsModel", name := "unprovedStep", desc := "(IIII)I" } : MethodName) prog_8_method_15_code (6 : Nat) (Option.some FieldType.int)) ∈ lw_tbl := List.mem_of_getElem? (i := 636) (by decide +kernel)
theorem km_R_128 : (Cond.methodLink "BridgeClientsModel" (128 : Nat) ({ cls := "BridgeClientsModel", name := "unproved", desc := "(II)I" } : MethodName)) ∈ lw_tbl := List.mem_of_getElem? (i := 637) (by decide +kernel)
theorem ki_R_unproved : (Cond.instanceMethod ({ cls := "BridgeClientsModel", name := "unproved", desc := "(II)I" } : MethodName)) ∈ lw_tbl := List.mem_of_getElem? (i := 639) (by decide +kernel)
theorem kc_R_unproved : (Cond.code ({ cls := "BridgeClientsModel", name := "unproved", desc := "(II)I" } : MethodName) prog_8_method_13_code (3 : Nat) (Option.some FieldType.int)) ∈ lw_tbl := List.mem_of_getElem? (i := 640) (by decide +kernel)
theorem km_R_124 : (Cond.methodLink "BridgeClientsModel" (124 : Nat) ({ cls := "BridgeClientsModel", name := "follows", desc := "(II)I" } : MethodName)) ∈ lw_tbl := List.mem_of_getElem? (i := 641) (by decide +kernel)
theorem km_R_131 : (Cond.methodLink "BridgeClientsModel" (131 : Nat) ({ cls := "BridgeClientsModel", name := "stepOf", desc := "(III)I" } : MethodName)) ∈ lw_tbl := List.mem_of_getElem? (i := 642) (by decide +kernel)
theorem ki_R_stepOf : (Cond.instanceMethod ({ cls := "BridgeClientsModel", name := "stepOf", desc := "(III)I" } : MethodName)) ∈ lw_tbl := List.mem_of_getElem? (i := 644) (by decide +kernel)
theorem kc_R_stepOf : (Cond.code ({ cls := "BridgeClientsModel", name := "stepOf", desc := "(III)I" } : MethodName) prog_8_method_14_code (4 : Nat) (Option.some FieldType.int)) ∈ lw_tbl := List.mem_of_getElem? (i := 645) (by decide +kernel)
theorem km_R_142 : (Cond.methodLink "BridgeClientsModel" (142 : Nat) ({ cls := "BridgeClientsModel", name := "greatestOf", desc := "(I)I" } : MethodName)) ∈ lw_tbl := List.mem_of_getElem? (i := 646) (by decide +kernel)
theorem ks_R_greatestOf : (Cond.static ({ cls := "BridgeClientsModel", name := "greatestOf", desc := "(I)I" } : MethodName)) ∈ lw_tbl := List.mem_of_getElem? (i := 647) (by decide +kernel)
theorem kc_R_greatestOf : (Cond.code ({ cls := "BridgeClientsModel", name := "greatestOf", desc := "(I)I" } : MethodName) prog_8_method_18_code (1 : Nat) (Option.some FieldType.int)) ∈ lw_tbl := List.mem_of_getElem? (i := 648) (by decide +kernel)
theorem km_law_48 : (Cond.methodLink "BridgeClientsLaw" (48 : Nat) ({ cls := "BridgeClientsModel", name := "agree", desc := "(II)I" } : MethodName)) ∈ lw_tbl := List.mem_of_getElem? (i := 649) (by decide +kernel)
theorem ki_R_agree : (Cond.instanceMethod ({ cls := "BridgeClientsModel", name := "agree", desc := "(II)I" } : MethodName)) ∈ lw_tbl := List.mem_of_getElem? (i := 650) (by decide +kernel)
theorem kx_R_agree : (Cond.selects "BridgeClientsModel" ({ cls := "BridgeClientsModel", name := "agree", desc := "(II)I" } : MethodName) ({ cls := "BridgeClientsModel", name := "agree", desc := "(II)I" } : MethodName)) ∈ lw_tbl := List.mem_of_getElem? (i := 651) (by decide +kernel)
theorem kc_R_agree : (Cond.code ({ cls := "BridgeClientsModel", name := "agree", desc := "(II)I" } : MethodName) prog_8_method_20_code (6 : Nat) (Option.some FieldType.int)) ∈ lw_tbl := List.mem_of_getElem? (i := 652) (by decide +kernel)
theorem km_law_52 : (Cond.methodLink "BridgeClientsLaw" (52 : Nat) ({ cls := "BridgeClientsModel", name := "confirm", desc := "(II)I" } : MethodName)) ∈ lw_tbl := List.mem_of_getElem? (i := 653) (by decide +kernel)
theorem ki_R_confirm : (Cond.instanceMethod ({ cls := "BridgeClientsModel", name := "confirm", desc := "(II)I" } : MethodName)) ∈ lw_tbl := List.mem_of_getElem? (i := 654) (by decide +kernel)
theorem kx_R_confirm : (Cond.selects "BridgeClientsModel" ({ cls := "BridgeClientsModel", name := "confirm", desc := "(II)I" } : MethodName) ({ cls := "BridgeClientsModel", name := "confirm", desc := "(II)I" } : MethodName)) ∈ lw_tbl := List.mem_of_getElem? (i := 655) (by decide +kernel)
theorem kc_R_confirm : (Cond.code ({ cls := "BridgeClientsModel", name := "confirm", desc := "(II)I" } : MethodName) prog_8_method_21_code (6 : Nat) (Option.some FieldType.int)) ∈ lw_tbl := List.mem_of_getElem? (i := 656) (by decide +kernel)
theorem km_law_56 : (Cond.methodLink "BridgeClientsLaw" (56 : Nat) ({ cls := "BridgeClientsModel", name := "close", desc := "(II)I" } : MethodName)) ∈ lw_tbl := List.mem_of_getElem? (i := 657) (by decide +kernel)
theorem ki_R_close : (Cond.instanceMethod ({ cls := "BridgeClientsModel", name := "close", desc := "(II)I" } : MethodName)) ∈ lw_tbl := List.mem_of_getElem? (i := 658) (by decide +kernel)
theorem kx_R_close : (Cond.selects "BridgeClientsModel" ({ cls := "BridgeClientsModel", name := "close", desc := "(II)I" } : MethodName) ({ cls := "BridgeClientsModel", name := "close", desc := "(II)I" } : MethodName)) ∈ lw_tbl := List.mem_of_getElem? (i := 659) (by decide +kernel)
theorem kc_R_close : (Cond.code ({ cls := "BridgeClientsModel", name := "close", desc := "(II)I" } : MethodName) prog_8_method_22_code (4 : Nat) (Option.some FieldType.int)) ∈ lw_tbl := List.mem_of_getElem? (i := 660) (by decide +kernel)
theorem km_law_60 : (Cond.methodLink "BridgeClientsLaw" (60 : Nat) ({ cls := "BridgeClientsModel", name := "shut", desc := "(III)I" } : MethodName)) ∈ lw_tbl := List.mem_of_getElem? (i := 661) (by decide +kernel)
theorem ki_R_shut : (Cond.instanceMethod ({ cls := "BridgeClientsModel", name := "shut", desc := "(III)I" } : MethodName)) ∈ lw_tbl := List.mem_of_getElem? (i := 662) (by decide +kernel)
theorem kx_R_shut : (Cond.selects "BridgeClientsModel" ({ cls := "BridgeClientsModel", name := "shut", desc := "(III)I" } : MethodName) ({ cls := "BridgeClientsModel", name := "shut", desc := "(III)I" } : MethodName)) ∈ lw_tbl := List.mem_of_getElem? (i := 663) (by decide +kernel)
theorem kc_R_shut : (Cond.code ({ cls := "BridgeClientsModel", name := "shut", desc := "(III)I" } : MethodName) prog_8_method_23_code (6 : Nat) (Option.some FieldType.int)) ∈ lw_tbl := List.mem_of_getElem? (i := 664) (by decide +kernel)
theorem km_law_65 : (Cond.methodLink "BridgeClientsLaw" (65 : Nat) ({ cls := "BridgeClientsModel", name := "send", desc := "(IIIIIII)I" } : MethodName)) ∈ lw_tbl := List.mem_of_getElem? (i := 665) (by decide +kernel)
theorem ki_R_send : (Cond.instanceMethod ({ cls := "BridgeClientsModel", name := "send", desc := "(IIIIIII)I" } : MethodName)) ∈ lw_tbl := List.mem_of_getElem? (i := 666) (by decide +kernel)
theorem kx_R_send : (Cond.selects "BridgeClientsModel" ({ cls := "BridgeClientsModel", name := "send", desc := "(IIIIIII)I" } : MethodName) ({ cls := "BridgeClientsModel", name := "send", desc := "(IIIIIII)I" } : MethodName)) ∈ lw_tbl := List.mem_of_getElem? (i := 667) (by decide +kernel)
theorem kc_R_send : (Cond.code ({ cls := "BridgeClientsModel", name := "send", desc := "(IIIIIII)I" } : MethodName) prog_8_method_26_code (10 : Nat) (Option.some FieldType.int)) ∈ lw_tbl := List.mem_of_getElem? (i := 668) (by decide +kernel)
theorem km_R_145 : (Cond.methodLink "BridgeClientsModel" (145 : Nat) ({ cls := "BridgeClientsModel", name := "has", desc := "(III)I" } : MethodName)) ∈ lw_tbl := List.mem_of_getElem? (i := 669) (by decide +kernel)
theorem ki_R_has : (Cond.instanceMethod ({ cls := "BridgeClientsModel", name := "has", desc := "(III)I" } : MethodName)) ∈ lw_tbl := List.mem_of_getElem? (i := 671) (by decide +kernel)
theorem kc_R_has : (Cond.code ({ cls := "BridgeClientsModel", name := "has", desc := "(III)I" } : MethodName) prog_8_method_24_code (5 : Nat) (Option.some FieldType.int)) ∈ lw_tbl := List.mem_of_getElem? (i := 672) (by decide +kernel)
theorem km_R_148 : (Cond.methodLink "BridgeClientsModel" (148 : Nat) ({ cls := "BridgeClientsModel", name := "give", desc := "(IIII)V" } : MethodName)) ∈ lw_tbl := List.mem_of_getElem? (i := 673) (by decide +kernel)
theorem ki_R_give : (Cond.instanceMethod ({ cls := "BridgeClientsModel", name := "give", desc := "(IIII)V" } : MethodName)) ∈ lw_tbl := List.mem_of_getElem? (i := 675) (by decide +kernel)
theorem kc_R_give : (Cond.code ({ cls := "BridgeClientsModel", name := "give", desc := "(IIII)V" } : MethodName) prog_8_method_25_code (6 : Nat) (Option.none : Option FieldType)) ∈ lw_tbl := List.mem_of_getElem? (i := 676) (by decide +kernel)
theorem km_law_69 : (Cond.methodLink "BridgeClientsLaw" (69 : Nat) ({ cls := "BridgeClientsModel", name := "receive", desc := "(II)I" } : MethodName)) ∈ lw_tbl := List.mem_of_getElem? (i := 677) (by decide +kernel)
theorem ki_R_receive : (Cond.instanceMethod ({ cls := "BridgeClientsModel", name := "receive", desc := "(II)I" } : MethodName)) ∈ lw_tbl := List.mem_of_getElem? (i := 678) (by decide +kernel)
theorem kx_R_receive : (Cond.selects "BridgeClientsModel" ({ cls := "BridgeClientsModel", name := "receive", desc := "(II)I" } : MethodName) ({ cls := "BridgeClientsModel", name := "receive", desc := "(II)I" } : MethodName)) ∈ lw_tbl := List.mem_of_getElem? (i := 679) (by decide +kernel)
theorem kc_R_receive : (Cond.code ({ cls := "BridgeClientsModel", name := "receive", desc := "(II)I" } : MethodName) prog_8_method_29_code (7 : Nat) (Option.some FieldType.int)) ∈ lw_tbl := List.mem_of_getElem? (i := 680) (by decide +kernel)
theorem km_R_152 : (Cond.methodLink "BridgeClientsModel" (152 : Nat) ({ cls := "BridgeClientsModel", name := "noMessage", desc := "(I)Z" } : MethodName)) ∈ lw_tbl := List.mem_of_getElem? (i := 681) (by decide +kernel)
theorem ki_R_noMessage : (Cond.instanceMethod ({ cls := "BridgeClientsModel", name := "noMessage", desc := "(I)Z" } : MethodName)) ∈ lw_tbl := List.mem_of_getElem? (i := 683) (by decide +kernel)
theorem kc_R_noMessage : (Cond.code ({ cls := "BridgeClientsModel", name := "noMessage", desc := "(I)Z" } : MethodName) prog_8_method_27_code (2 : Nat) (Option.some FieldType.boolean)) ∈ lw_tbl := List.mem_of_getElem? (i := 684) (by decide +kernel)
theorem km_R_155 : (Cond.methodLink "BridgeClientsModel" (155 : Nat) ({ cls := "BridgeClientsModel", name := "isBehind", desc := "(IZ)Z" } : MethodName)) ∈ lw_tbl := List.mem_of_getElem? (i := 685) (by decide +kernel)
theorem ki_R_isBehind : (Cond.instanceMethod ({ cls := "BridgeClientsModel", name := "isBehind", desc := "(IZ)Z" } : MethodName)) ∈ lw_tbl := List.mem_of_getElem? (i := 687) (by decide +kernel)
theorem kc_R_isBehind : (Cond.code ({ cls := "BridgeClientsModel", name := "isBehind", desc := "(IZ)Z" } : MethodName) prog_8_method_28_code (6 : Nat) (Option.some FieldType.boolean)) ∈ lw_tbl := List.mem_of_getElem? (i := 688) (by decide +kernel)
theorem km_law_73 : (Cond.methodLink "BridgeClientsLaw" (73 : Nat) ({ cls := "BridgeClientsModel", name := "acknowledge", desc := "(II)I" } : MethodName)) ∈ lw_tbl := List.mem_of_getElem? (i := 689) (by decide +kernel)
theorem ki_R_acknowledge : (Cond.instanceMethod ({ cls := "BridgeClientsModel", name := "acknowledge", desc := "(II)I" } : MethodName)) ∈ lw_tbl := List.mem_of_getElem? (i := 690) (by decide +kernel)
theorem kx_R_acknowledge : (Cond.selects "BridgeClientsModel" ({ cls := "BridgeClientsModel", name := "acknowledge", desc := "(II)I" } : MethodName) ({ cls := "BridgeClientsModel", name := "acknowledge", desc := "(II)I" } : MethodName)) ∈ lw_tbl := List.mem_of_getElem? (i := 691) (by decide +kernel)
theorem kc_R_acknowledge : (Cond.code ({ cls := "BridgeClientsModel", name := "acknowledge", desc := "(II)I" } : MethodName) prog_8_method_31_code (4 : Nat) (Option.some FieldType.int)) ∈ lw_tbl := List.mem_of_getElem? (i := 692) (by decide +kernel)
theorem km_R_159 : (Cond.methodLink "BridgeClientsModel" (159 : Nat) ({ cls := "BridgeClientsModel", name := "finish", desc := "(IZ)V" } : MethodName)) ∈ lw_tbl := List.mem_of_getElem? (i := 693) (by decide +kernel)
theorem ki_R_finish : (Cond.instanceMethod ({ cls := "BridgeClientsModel", name := "finish", desc := "(IZ)V" } : MethodName)) ∈ lw_tbl := List.mem_of_getElem? (i := 695) (by decide +kernel)
theorem kc_R_finish : (Cond.code ({ cls := "BridgeClientsModel", name := "finish", desc := "(IZ)V" } : MethodName) prog_8_method_30_code (4 : Nat) (Option.none : Option FieldType)) ∈ lw_tbl := List.mem_of_getElem? (i := 696) (by decide +kernel)
theorem km_law_77 : (Cond.methodLink "BridgeClientsLaw" (77 : Nat) ({ cls := "BridgeClientsModel", name := "timeout", desc := "(II)I" } : MethodName)) ∈ lw_tbl := List.mem_of_getElem? (i := 697) (by decide +kernel)
theorem ki_R_timeout : (Cond.instanceMethod ({ cls := "BridgeClientsModel", name := "timeout", desc := "(II)I" } : MethodName)) ∈ lw_tbl := List.mem_of_getElem? (i := 698) (by decide +kernel)
theorem kx_R_timeout : (Cond.selects "BridgeClientsModel" ({ cls := "BridgeClientsModel", name := "timeout", desc := "(II)I" } : MethodName) ({ cls := "BridgeClientsModel", name := "timeout", desc := "(II)I" } : MethodName)) ∈ lw_tbl := List.mem_of_getElem? (i := 699) (by decide +kernel)
theorem kc_R_timeout : (Cond.code ({ cls := "BridgeClientsModel", name := "timeout", desc := "(II)I" } : MethodName) prog_8_method_32_code (5 : Nat) (Option.some FieldType.int)) ∈ lw_tbl := List.mem_of_getElem? (i := 700) (by decide +kernel)
theorem km_law_81 : (Cond.methodLink "BridgeClientsLaw" (81 : Nat) ({ cls := "BridgeClientsModel", name := "end", desc := "(III)I" } : MethodName)) ∈ lw_tbl := List.mem_of_getElem? (i := 701) (by decide +kernel)
theorem ki_R_end : (Cond.instanceMethod ({ cls := "BridgeClientsModel", name := "end", desc := "(III)I" } : MethodName)) ∈ lw_tbl := List.mem_of_getElem? (i := 702) (by decide +kernel)
theorem kx_R_end : (Cond.selects "BridgeClientsModel" ({ cls := "BridgeClientsModel", name := "end", desc := "(III)I" } : MethodName) ({ cls := "BridgeClientsModel", name := "end", desc := "(III)I" } : MethodName)) ∈ lw_tbl := List.mem_of_getElem? (i := 703) (by decide +kernel)
theorem kc_R_end : (Cond.code ({ cls := "BridgeClientsModel", name := "end", desc := "(III)I" } : MethodName) prog_8_method_33_code (5 : Nat) (Option.some FieldType.int)) ∈ lw_tbl := List.mem_of_getElem? (i := 704) (by decide +kernel)
theorem km_law_85 : (Cond.methodLink "BridgeClientsLaw" (85 : Nat) ({ cls := "BridgeClientsModel", name := "stepAt", desc := "(III)I" } : MethodName)) ∈ lw_tbl := List.mem_of_getElem? (i := 705) (by decide +kernel)
theorem ki_R_stepAt : (Cond.instanceMethod ({ cls := "BridgeClientsModel", name := "stepAt", desc := "(III)I" } : MethodName)) ∈ lw_tbl := List.mem_of_getElem? (i := 706) (by decide +kernel)
theorem kx_R_stepAt : (Cond.selects "BridgeClientsModel" ({ cls := "BridgeClientsModel", name := "stepAt", desc := "(III)I" } : MethodName) ({ cls := "BridgeClientsModel", name := "stepAt", desc := "(III)I" } : MethodName)) ∈ lw_tbl := List.mem_of_getElem? (i := 707) (by decide +kernel)
theorem kc_R_stepAt : (Cond.code ({ cls := "BridgeClientsModel", name := "stepAt", desc := "(III)I" } : MethodName) prog_8_method_34_code (4 : Nat) (Option.some FieldType.int)) ∈ lw_tbl := List.mem_of_getElem? (i := 708) (by decide +kernel)
theorem km_law_89 : (Cond.methodLink "BridgeClientsLaw" (89 : Nat) ({ cls := "BridgeClientsModel", name := "message", desc := "(II)I" } : MethodName)) ∈ lw_tbl := List.mem_of_getElem? (i := 709) (by decide +kernel)
theorem ki_R_message : (Cond.instanceMethod ({ cls := "BridgeClientsModel", name := "message", desc := "(II)I" } : MethodName)) ∈ lw_tbl := List.mem_of_getElem? (i := 710) (by decide +kernel)
theorem kx_R_message : (Cond.selects "BridgeClientsModel" ({ cls := "BridgeClientsModel", name := "message", desc := "(II)I" } : MethodName) ({ cls := "BridgeClientsModel", name := "message", desc := "(II)I" } : MethodName)) ∈ lw_tbl := List.mem_of_getElem? (i := 711) (by decide +kernel)
theorem kc_R_message : (Cond.code ({ cls := "BridgeClientsModel", name := "message", desc := "(II)I" } : MethodName) prog_8_method_35_code (3 : Nat) (Option.some FieldType.int)) ∈ lw_tbl := List.mem_of_getElem? (i := 712) (by decide +kernel)
theorem km_law_93 : (Cond.methodLink "BridgeClientsLaw" (93 : Nat) ({ cls := "BridgeClientsModel", name := "balance", desc := "(III)I" } : MethodName)) ∈ lw_tbl := List.mem_of_getElem? (i := 713) (by decide +kernel)
theorem ki_R_balance : (Cond.instanceMethod ({ cls := "BridgeClientsModel", name := "balance", desc := "(III)I" } : MethodName)) ∈ lw_tbl := List.mem_of_getElem? (i := 714) (by decide +kernel)
theorem kx_R_balance : (Cond.selects "BridgeClientsModel" ({ cls := "BridgeClientsModel", name := "balance", desc := "(III)I" } : MethodName) ({ cls := "BridgeClientsModel", name := "balance", desc := "(III)I" } : MethodName)) ∈ lw_tbl := List.mem_of_getElem? (i := 715) (by decide +kernel)
theorem kc_R_balance : (Cond.code ({ cls := "BridgeClientsModel", name := "balance", desc := "(III)I" } : MethodName) prog_8_method_36_code (6 : Nat) (Option.some FieldType.int)) ∈ lw_tbl := List.mem_of_getElem? (i := 716) (by decide +kernel)
theorem km_law_97 : (Cond.methodLink "BridgeClientsLaw" (97 : Nat) ({ cls := "BridgeClientsModel", name := "vouchers", desc := "(III)I" } : MethodName)) ∈ lw_tbl := List.mem_of_getElem? (i := 717) (by decide +kernel)
theorem ki_R_vouchers : (Cond.instanceMethod ({ cls := "BridgeClientsModel", name := "vouchers", desc := "(III)I" } : MethodName)) ∈ lw_tbl := List.mem_of_getElem? (i := 718) (by decide +kernel)
theorem kx_R_vouchers : (Cond.selects "BridgeClientsModel" ({ cls := "BridgeClientsModel", name := "vouchers", desc := "(III)I" } : MethodName) ({ cls := "BridgeClientsModel", name := "vouchers", desc := "(III)I" } : MethodName)) ∈ lw_tbl := List.mem_of_getElem? (i := 719) (by decide +kernel)
theorem kc_R_vouchers : (Cond.code ({ cls := "BridgeClientsModel", name := "vouchers", desc := "(III)I" } : MethodName) prog_8_method_37_code (4 : Nat) (Option.some FieldType.int)) ∈ lw_tbl := List.mem_of_getElem? (i := 720) (by decide +kernel)
theorem km_law_101 : (Cond.methodLink "BridgeClientsLaw" (101 : Nat) ({ cls := "BridgeClientsModel", name := "sum", desc := "(II)I" } : MethodName)) ∈ lw_tbl := List.mem_of_getElem? (i := 721) (by decide +kernel)
theorem ki_R_sum : (Cond.instanceMethod ({ cls := "BridgeClientsModel", name := "sum", desc := "(II)I" } : MethodName)) ∈ lw_tbl := List.mem_of_getElem? (i := 722) (by decide +kernel)
theorem kx_R_sum : (Cond.selects "BridgeClientsModel" ({ cls := "BridgeClientsModel", name := "sum", desc := "(II)I" } : MethodName) ({ cls := "BridgeClientsModel", name := "sum", desc := "(II)I" } : MethodName)) ∈ lw_tbl := List.mem_of_getElem? (i := 723) (by decide +kernel)
theorem kc_R_sum : (Cond.code ({ cls := "BridgeClientsModel", name := "sum", desc := "(II)I" } : MethodName) prog_8_method_39_code (5 : Nat) (Option.some FieldType.int)) ∈ lw_tbl := List.mem_of_getElem? (i := 724) (by decide +kernel)
theorem km_R_166 : (Cond.methodLink "BridgeClientsModel" (166 : Nat) ({ cls := "BridgeClientsModel", name := "held", desc := "(II)I" } : MethodName)) ∈ lw_tbl := List.mem_of_getElem? (i := 725) (by decide +kernel)
theorem ki_R_held : (Cond.instanceMethod ({ cls := "BridgeClientsModel", name := "held", desc := "(II)I" } : MethodName)) ∈ lw_tbl := List.mem_of_getElem? (i := 727) (by decide +kernel)
theorem kc_R_held : (Cond.code ({ cls := "BridgeClientsModel", name := "held", desc := "(II)I" } : MethodName) prog_8_method_38_code (5 : Nat) (Option.some FieldType.int)) ∈ lw_tbl := List.mem_of_getElem? (i := 728) (by decide +kernel)
theorem km_R_163 : (Cond.methodLink "BridgeClientsModel" (163 : Nat) ({ cls := "BridgeClientsModel", name := "balance", desc := "(III)I" } : MethodName)) ∈ lw_tbl := List.mem_of_getElem? (i := 729) (by decide +kernel)
theorem km_law_105 : (Cond.methodLink "BridgeClientsLaw" (105 : Nat) ({ cls := "BridgeClientsModel", name := "count", desc := "(I)I" } : MethodName)) ∈ lw_tbl := List.mem_of_getElem? (i := 730) (by decide +kernel)
theorem ki_R_count : (Cond.instanceMethod ({ cls := "BridgeClientsModel", name := "count", desc := "(I)I" } : MethodName)) ∈ lw_tbl := List.mem_of_getElem? (i := 731) (by decide +kernel)
theorem kx_R_count : (Cond.selects "BridgeClientsModel" ({ cls := "BridgeClientsModel", name := "count", desc := "(I)I" } : MethodName) ({ cls := "BridgeClientsModel", name := "count", desc := "(I)I" } : MethodName)) ∈ lw_tbl := List.mem_of_getElem? (i := 732) (by decide +kernel)
theorem kc_R_count : (Cond.code ({ cls := "BridgeClientsModel", name := "count", desc := "(I)I" } : MethodName) prog_8_method_40_code (4 : Nat) (Option.some FieldType.int)) ∈ lw_tbl := List.mem_of_getElem? (i := 733) (by decide +kernel)
theorem km_law_110 : (Cond.methodLink "BridgeClientsLaw" (110 : Nat) ({ cls := "BridgeClientsModel", name := "clear", desc := "()I" } : MethodName)) ∈ lw_tbl := List.mem_of_getElem? (i := 734) (by decide +kernel)
theorem ki_R_clear : (Cond.instanceMethod ({ cls := "BridgeClientsModel", name := "clear", desc := "()I" } : MethodName)) ∈ lw_tbl := List.mem_of_getElem? (i := 735) (by decide +kernel)
theorem kx_R_clear : (Cond.selects "BridgeClientsModel" ({ cls := "BridgeClientsModel", name := "clear", desc := "()I" } : MethodName) ({ cls := "BridgeClientsModel", name := "clear", desc := "()I" } : MethodName)) ∈ lw_tbl := List.mem_of_getElem? (i := 736) (by decide +kernel)
theorem kc_R_clear : (Cond.code ({ cls := "BridgeClientsModel", name := "clear", desc := "()I" } : MethodName) prog_8_method_41_code (2 : Nat) (Option.some FieldType.int)) ∈ lw_tbl := List.mem_of_getElem? (i := 737) (by decide +kernel)
theorem kx_B_beginAnew : (Cond.selects "BridgeClients" ⟨"BridgeClients", "beginAnew", "()V"⟩ ⟨"BridgeClients", "beginAnew", "()V"⟩) ∈ lw_tbl := List.mem_of_getElem? (i := 0) (by decide +kernel)
theorem kx_Le_beginAnew : (Cond.selects "BridgeClients$Ledger" ⟨"BridgeClients$Ledger", "beginAnew", "()V"⟩ ⟨"BridgeClients$Ledger", "beginAnew", "()V"⟩) ∈ lw_tbl := List.mem_of_getElem? (i := 1) (by decide +kernel)
theorem kx_Cl_forgetAll : (Cond.selects "BridgeClients$Client" ⟨"BridgeClients$Client", "forgetAll", "()V"⟩ ⟨"BridgeClients$Client", "forgetAll", "()V"⟩) ∈ lw_tbl := List.mem_of_getElem? (i := 2) (by decide +kernel)
theorem kx_En_beginAnew : (Cond.selects "BridgeClients$End" ⟨"BridgeClients$End", "beginAnew", "()V"⟩ ⟨"BridgeClients$End", "beginAnew", "()V"⟩) ∈ lw_tbl := List.mem_of_getElem? (i := 3) (by decide +kernel)
theorem kx_Cl_howFollowed : (Cond.selects "BridgeClients$Client" ⟨"BridgeClients$Client", "howFollowed", "(I)I"⟩ ⟨"BridgeClients$Client", "howFollowed", "(I)I"⟩) ∈ lw_tbl := List.mem_of_getElem? (i := 4) (by decide +kernel)
theorem kx_Cl_isToldMark : (Cond.selects "BridgeClients$Client" ⟨"BridgeClients$Client", "isToldMark", "(II)Z"⟩ ⟨"BridgeClients$Client", "isToldMark", "(II)Z"⟩) ∈ lw_tbl := List.mem_of_getElem? (i := 5) (by decide +kernel)
theorem kx_Cl_add : (Cond.selects "BridgeClients$Client" ⟨"BridgeClients$Client", "add", "(II)V"⟩ ⟨"BridgeClients$Client", "add", "(II)V"⟩) ∈ lw_tbl := List.mem_of_getElem? (i := 6) (by decide +kernel)
theorem kx_En_comeTo : (Cond.selects "BridgeClients$End" ⟨"BridgeClients$End", "comeTo", "(II)V"⟩ ⟨"BridgeClients$End", "comeTo", "(II)V"⟩) ∈ lw_tbl := List.mem_of_getElem? (i := 7) (by decide +kernel)
theorem kx_B_isChannel : (Cond.selects "BridgeClients" ⟨"BridgeClients", "isChannel", "(I)Z"⟩ ⟨"BridgeClients", "isChannel", "(I)Z"⟩) ∈ lw_tbl := List.mem_of_getElem? (i := 8) (by decide +kernel)
theorem kx_B_refusalOfStep : (Cond.selects "BridgeClients" ⟨"BridgeClients", "refusalOfStep", "(IIIII)I"⟩ ⟨"BridgeClients", "refusalOfStep", "(IIIII)I"⟩) ∈ lw_tbl := List.mem_of_getElem? (i := 9) (by decide +kernel)
theorem kx_Cl_refusal : (Cond.selects "BridgeClients$Client" ⟨"BridgeClients$Client", "refusal", "(I)I"⟩ ⟨"BridgeClients$Client", "refusal", "(I)I"⟩) ∈ lw_tbl := List.mem_of_getElem? (i := 10) (by decide +kernel)
theorem kx_En_stepIn : (Cond.selects "BridgeClients$End" ⟨"BridgeClients$End", "stepIn", "(I)I"⟩ ⟨"BridgeClients$End", "stepIn", "(I)I"⟩) ∈ lw_tbl := List.mem_of_getElem? (i := 11) (by decide +kernel)
theorem kx_B_purse : (Cond.selects "BridgeClients" ⟨"BridgeClients", "purse", "(III)[I"⟩ ⟨"BridgeClients", "purse", "(III)[I"⟩) ∈ lw_tbl := List.mem_of_getElem? (i := 12) (by decide +kernel)
theorem kx_B_takeIn : (Cond.selects "BridgeClients" ⟨"BridgeClients", "takeIn", "(IIIII)V"⟩ ⟨"BridgeClients", "takeIn", "(IIIII)V"⟩) ∈ lw_tbl := List.mem_of_getElem? (i := 13) (by decide +kernel)
theorem kx_B_write : (Cond.selects "BridgeClients" ⟨"BridgeClients", "write", "(IIIIIII)V"⟩ ⟨"BridgeClients", "write", "(IIIIIII)V"⟩) ∈ lw_tbl := List.mem_of_getElem? (i := 14) (by decide +kernel)
theorem kx_Me_beginToStand : (Cond.selects "BridgeClients$Message" ⟨"BridgeClients$Message", "beginToStand", "(I)V"⟩ ⟨"BridgeClients$Message", "beginToStand", "(I)V"⟩) ∈ lw_tbl := List.mem_of_getElem? (i := 15) (by decide +kernel)
theorem kx_B_isMessage : (Cond.selects "BridgeClients" ⟨"BridgeClients", "isMessage", "(I)Z"⟩ ⟨"BridgeClients", "isMessage", "(I)Z"⟩) ∈ lw_tbl := List.mem_of_getElem? (i := 16) (by decide +kernel)
theorem kx_Me_standsIn : (Cond.selects "BridgeClients$Message" ⟨"BridgeClients$Message", "standsIn", "(I)Z"⟩ ⟨"BridgeClients$Message", "standsIn", "(I)Z"⟩) ∈ lw_tbl := List.mem_of_getElem? (i := 17) (by decide +kernel)
theorem kx_B_areAllBeforeReceived : (Cond.selects "BridgeClients" ⟨"BridgeClients", "areAllBeforeReceived", "(I)Z"⟩ ⟨"BridgeClients", "areAllBeforeReceived", "(I)Z"⟩) ∈ lw_tbl := List.mem_of_getElem? (i := 18) (by decide +kernel)
theorem kx_Me_isOfSameEnd : (Cond.selects "BridgeClients$Message" ⟨"BridgeClients$Message", "isOfSameEnd", "(LBridgeClients$Message;)Z"⟩ ⟨"BridgeClients$Message", "isOfSameEnd", "(LBridgeClients$Message;)Z"⟩) ∈ lw_tbl := List.mem_of_getElem? (i := 19) (by decide +kernel)
theorem kx_B_giveOut : (Cond.selects "BridgeClients" ⟨"BridgeClients", "giveOut", "(IIIII)V"⟩ ⟨"BridgeClients", "giveOut", "(IIIII)V"⟩) ∈ lw_tbl := List.mem_of_getElem? (i := 20) (by decide +kernel)
theorem kx_B_refusalAtSender : (Cond.selects "BridgeClients" ⟨"BridgeClients", "refusalAtSender", "(LBridgeClients$Message;I)I"⟩ ⟨"BridgeClients", "refusalAtSender", "(LBridgeClients$Message;I)I"⟩) ∈ lw_tbl := List.mem_of_getElem? (i := 21) (by decide +kernel)
theorem kx_Me_isReceivedIn : (Cond.selects "BridgeClients$Message" ⟨"BridgeClients$Message", "isReceivedIn", "(I)Z"⟩ ⟨"BridgeClients$Message", "isReceivedIn", "(I)Z"⟩) ∈ lw_tbl := List.mem_of_getElem? (i := 22) (by decide +kernel)
theorem kx_B_standsOneBefore : (Cond.selects "BridgeClients" ⟨"BridgeClients", "standsOneBefore", "(I)Z"⟩ ⟨"BridgeClients", "standsOneBefore", "(I)Z"⟩) ∈ lw_tbl := List.mem_of_getElem? (i := 23) (by decide +kernel)
theorem kx_B_finish : (Cond.selects "BridgeClients" ⟨"BridgeClients", "finish", "(LBridgeClients$Message;)V"⟩ ⟨"BridgeClients", "finish", "(LBridgeClients$Message;)V"⟩) ∈ lw_tbl := List.mem_of_getElem? (i := 24) (by decide +kernel)
theorem kx_B_giveBack : (Cond.selects "BridgeClients" ⟨"BridgeClients", "giveBack", "(LBridgeClients$Message;)V"⟩ ⟨"BridgeClients", "giveBack", "(LBridgeClients$Message;)V"⟩) ∈ lw_tbl := List.mem_of_getElem? (i := 25) (by decide +kernel)
theorem kx_B_allEscrows : (Cond.selects "BridgeClients" ⟨"BridgeClients", "allEscrows", "(I)I"⟩ ⟨"BridgeClients", "allEscrows", "(I)I"⟩) ∈ lw_tbl := List.mem_of_getElem? (i := 26) (by decide +kernel)
theorem kx_B_allVouchers : (Cond.selects "BridgeClients" ⟨"BridgeClients", "allVouchers", "(I)I"⟩ ⟨"BridgeClients", "allVouchers", "(I)I"⟩) ∈ lw_tbl := List.mem_of_getElem? (i := 27) (by decide +kernel)
theorem kx_B_onTheWay : (Cond.selects "BridgeClients" ⟨"BridgeClients", "onTheWay", "(I)I"⟩ ⟨"BridgeClients", "onTheWay", "(I)I"⟩) ∈ lw_tbl := List.mem_of_getElem? (i := 28) (by decide +kernel)
theorem kx_B_howManyStand : (Cond.selects "BridgeClients" ⟨"BridgeClients", "howManyStand", "()I"⟩ ⟨"BridgeClients", "howManyStand", "()I"⟩) ∈ lw_tbl := List.mem_of_getElem? (i := 29) (by decide +kernel)
theorem kx_R_begin : (Cond.selects "BridgeClientsModel" ⟨"BridgeClientsModel", "begin", "()V"⟩ ⟨"BridgeClientsModel", "begin", "()V"⟩) ∈ lw_tbl := List.mem_of_getElem? (i := 30) (by decide +kernel)
theorem kx_R_forget : (Cond.selects "BridgeClientsModel" ⟨"BridgeClientsModel", "forget", "(I)V"⟩ ⟨"BridgeClientsModel", "forget", "(I)V"⟩) ∈ lw_tbl := List.mem_of_getElem? (i := 31) (by decide +kernel)
theorem kx_R_followedMany : (Cond.selects "BridgeClientsModel" ⟨"BridgeClientsModel", "followedMany", "(I)I"⟩ ⟨"BridgeClientsModel", "followedMany", "(I)I"⟩) ∈ lw_tbl := List.mem_of_getElem? (i := 32) (by decide +kernel)
theorem kx_R_highest : (Cond.selects "BridgeClientsModel" ⟨"BridgeClientsModel", "highest", "(I)I"⟩ ⟨"BridgeClientsModel", "highest", "(I)I"⟩) ∈ lw_tbl := List.mem_of_getElem? (i := 33) (by decide +kernel)
theorem kx_R_noChannel : (Cond.selects "BridgeClientsModel" ⟨"BridgeClientsModel", "noChannel", "(I)Z"⟩ ⟨"BridgeClientsModel", "noChannel", "(I)Z"⟩) ∈ lw_tbl := List.mem_of_getElem? (i := 34) (by decide +kernel)
theorem kx_R_unprovedStep : (Cond.selects "BridgeClientsModel" ⟨"BridgeClientsModel", "unprovedStep", "(IIII)I"⟩ ⟨"BridgeClientsModel", "unprovedStep", "(IIII)I"⟩) ∈ lw_tbl := List.mem_of_getElem? (i := 35) (by decide +kernel)
theorem kx_R_unproved : (Cond.selects "BridgeClientsModel" ⟨"BridgeClientsModel", "unproved", "(II)I"⟩ ⟨"BridgeClientsModel", "unproved", "(II)I"⟩) ∈ lw_tbl := List.mem_of_getElem? (i := 36) (by decide +kernel)
theorem kx_R_stepOf : (Cond.selects "BridgeClientsModel" ⟨"BridgeClientsModel", "stepOf", "(III)I"⟩ ⟨"BridgeClientsModel", "stepOf", "(III)I"⟩) ∈ lw_tbl := List.mem_of_getElem? (i := 37) (by decide +kernel)
theorem kx_R_has : (Cond.selects "BridgeClientsModel" ⟨"BridgeClientsModel", "has", "(III)I"⟩ ⟨"BridgeClientsModel", "has", "(III)I"⟩) ∈ lw_tbl := List.mem_of_getElem? (i := 38) (by decide +kernel)
theorem kx_R_give : (Cond.selects "BridgeClientsModel" ⟨"BridgeClientsModel", "give", "(IIII)V"⟩ ⟨"BridgeClientsModel", "give", "(IIII)V"⟩) ∈ lw_tbl := List.mem_of_getElem? (i := 39) (by decide +kernel)
theorem kx_R_noMessage : (Cond.selects "BridgeClientsModel" ⟨"BridgeClientsModel", "noMessage", "(I)Z"⟩ ⟨"BridgeClientsModel", "noMessage", "(I)Z"⟩) ∈ lw_tbl := List.mem_of_getElem? (i := 40) (by decide +kernel)
theorem kx_R_isBehind : (Cond.selects "BridgeClientsModel" ⟨"BridgeClientsModel", "isBehind", "(IZ)Z"⟩ ⟨"BridgeClientsModel", "isBehind", "(IZ)Z"⟩) ∈ lw_tbl := List.mem_of_getElem? (i := 41) (by decide +kernel)
theorem kx_R_finish : (Cond.selects "BridgeClientsModel" ⟨"BridgeClientsModel", "finish", "(IZ)V"⟩ ⟨"BridgeClientsModel", "finish", "(IZ)V"⟩) ∈ lw_tbl := List.mem_of_getElem? (i := 42) (by decide +kernel)
theorem kx_R_held : (Cond.selects "BridgeClientsModel" ⟨"BridgeClientsModel", "held", "(II)I"⟩ ⟨"BridgeClientsModel", "held", "(II)I"⟩) ∈ lw_tbl := List.mem_of_getElem? (i := 43) (by decide +kernel)
def dc (cc : ByteArray) (pc : Nat) (i : Instr) (n pc2 : Nat) : Prop := decode cc pc = .ok (i, n) ∧ pc + n = pc2
end
section
theorem d_B_new_0 : dc cd_B_new 0 (.aload_n 0) 1 1 := ⟨by decide +kernel, rfl⟩
theorem d_B_new_1 : dc cd_B_new 1 (.invokespecial 3) 3 4 := ⟨by decide +kernel, rfl⟩
theorem d_B_new_4 : dc cd_B_new 4 (.aload_n 0) 1 5 := ⟨by decide +kernel, rfl⟩
theorem d_B_new_5 : dc cd_B_new 5 (.iconst 2) 1 6 := ⟨by decide +kernel, rfl⟩
theorem d_B_new_6 : dc cd_B_new 6 (.anewarray 9) 3 9 := ⟨by decide +kernel, rfl⟩
theorem d_B_new_9 : dc cd_B_new 9 (.putfield 11) 3 12 := ⟨by decide +kernel, rfl⟩
theorem d_B_new_12 : dc cd_B_new 12 (.aload_n 0) 1 13 := ⟨by decide +kernel, rfl⟩
theorem d_B_new_13 : dc cd_B_new 13 (.iconst 4) 1 14 := ⟨by decide +kernel, rfl⟩
theorem d_B_new_14 : dc cd_B_new 14 (.anewarray 15) 3 17 := ⟨by decide +kernel, rfl⟩
theorem d_B_new_17 : dc cd_B_new 17 (.putfield 17) 3 20 := ⟨by decide +kernel, rfl⟩
theorem d_B_new_20 : dc cd_B_new 20 (.aload_n 0) 1 21 := ⟨by decide +kernel, rfl⟩
theorem d_B_new_21 : dc cd_B_new 21 (.bipush 60) 2 23 := ⟨by decide +kernel, rfl⟩
theorem d_B_new_23 : dc cd_B_new 23 (.anewarray 21) 3 26 := ⟨by decide +kernel, rfl⟩
theorem d_B_new_26 : dc cd_B_new 26 (.putfield 23) 3 29 := ⟨by decide +kernel, rfl⟩
theorem d_B_new_29 : dc cd_B_new 29 (.iconst 0) 1 30 := ⟨by decide +kernel, rfl⟩
theorem d_B_new_30 : dc cd_B_new 30 (.istore_n 1) 1 31 := ⟨by decide +kernel, rfl⟩
theorem d_B_new_31 : dc cd_B_new 31 (.iload_n 1) 1 32 := ⟨by decide +kernel, rfl⟩
theorem d_B_new_32 : dc cd_B_new 32 (.iconst 2) 1 33 := ⟨by decide +kernel, rfl⟩
theorem d_B_new_33 : dc cd_B_new 33 (.if_icmp .ge 22) 3 36 := ⟨by decide +kernel, rfl⟩
theorem d_B_new_36 : dc cd_B_new 36 (.aload_n 0) 1 37 := ⟨by decide +kernel, rfl⟩
theorem d_B_new_37 : dc cd_B_new 37 (.getfield 11) 3 40 := ⟨by decide +kernel, rfl⟩
theorem d_B_new_40 : dc cd_B_new 40 (.iload_n 1) 1 41 := ⟨by decide +kernel, rfl⟩
theorem d_B_new_41 : dc cd_B_new 41 (.new 9) 3 44 := ⟨by decide +kernel, rfl⟩
theorem d_B_new_44 : dc cd_B_new 44 (.dup) 1 45 := ⟨by decide +kernel, rfl⟩
theorem d_B_new_45 : dc cd_B_new 45 (.invokespecial 27) 3 48 := ⟨by decide +kernel, rfl⟩
theorem d_B_new_48 : dc cd_B_new 48 (.aastore) 1 49 := ⟨by decide +kernel, rfl⟩
theorem d_B_new_49 : dc cd_B_new 49 (.iinc 1 1) 3 52 := ⟨by decide +kernel, rfl⟩
theorem d_B_new_52 : dc cd_B_new 52 (.goto (-21)) 3 55 := ⟨by decide +kernel, rfl⟩
theorem d_B_new_55 : dc cd_B_new 55 (.iconst 0) 1 56 := ⟨by decide +kernel, rfl⟩
theorem d_B_new_56 : dc cd_B_new 56 (.istore_n 1) 1 57 := ⟨by decide +kernel, rfl⟩
theorem d_B_new_57 : dc cd_B_new 57 (.iload_n 1) 1 58 := ⟨by decide +kernel, rfl⟩
theorem d_B_new_58 : dc cd_B_new 58 (.iconst 4) 1 59 := ⟨by decide +kernel, rfl⟩
theorem d_B_new_59 : dc cd_B_new 59 (.if_icmp .ge 22) 3 62 := ⟨by decide +kernel, rfl⟩
theorem d_B_new_62 : dc cd_B_new 62 (.aload_n 0) 1 63 := ⟨by decide +kernel, rfl⟩
theorem d_B_new_63 : dc cd_B_new 63 (.getfield 17) 3 66 := ⟨by decide +kernel, rfl⟩
theorem d_B_new_66 : dc cd_B_new 66 (.iload_n 1) 1 67 := ⟨by decide +kernel, rfl⟩
theorem d_B_new_67 : dc cd_B_new 67 (.new 15) 3 70 := ⟨by decide +kernel, rfl⟩
theorem d_B_new_70 : dc cd_B_new 70 (.dup) 1 71 := ⟨by decide +kernel, rfl⟩
theorem d_B_new_71 : dc cd_B_new 71 (.invokespecial 28) 3 74 := ⟨by decide +kernel, rfl⟩
theorem d_B_new_74 : dc cd_B_new 74 (.aastore) 1 75 := ⟨by decide +kernel, rfl⟩
theorem d_B_new_75 : dc cd_B_new 75 (.iinc 1 1) 3 78 := ⟨by decide +kernel, rfl⟩
theorem d_B_new_78 : dc cd_B_new 78 (.goto (-21)) 3 81 := ⟨by decide +kernel, rfl⟩
theorem d_B_new_81 : dc cd_B_new 81 (.iconst 0) 1 82 := ⟨by decide +kernel, rfl⟩
theorem d_B_new_82 : dc cd_B_new 82 (.istore_n 1) 1 83 := ⟨by decide +kernel, rfl⟩
theorem d_B_new_83 : dc cd_B_new 83 (.iload_n 1) 1 84 := ⟨by decide +kernel, rfl⟩
theorem d_B_new_84 : dc cd_B_new 84 (.bipush 60) 2 86 := ⟨by decide +kernel, rfl⟩
theorem d_B_new_86 : dc cd_B_new 86 (.if_icmp .ge 22) 3 89 := ⟨by decide +kernel, rfl⟩
theorem d_B_new_89 : dc cd_B_new 89 (.aload_n 0) 1 90 := ⟨by decide +kernel, rfl⟩
theorem d_B_new_90 : dc cd_B_new 90 (.getfield 23) 3 93 := ⟨by decide +kernel, rfl⟩
theorem d_B_new_93 : dc cd_B_new 93 (.iload_n 1) 1 94 := ⟨by decide +kernel, rfl⟩
theorem d_B_new_94 : dc cd_B_new 94 (.new 21) 3 97 := ⟨by decide +kernel, rfl⟩
theorem d_B_new_97 : dc cd_B_new 97 (.dup) 1 98 := ⟨by decide +kernel, rfl⟩
theorem d_B_new_98 : dc cd_B_new 98 (.invokespecial 29) 3 101 := ⟨by decide +kernel, rfl⟩
theorem d_B_new_101 : dc cd_B_new 101 (.aastore) 1 102 := ⟨by decide +kernel, rfl⟩
theorem d_B_new_102 : dc cd_B_new 102 (.iinc 1 1) 3 105 := ⟨by decide +kernel, rfl⟩
theorem d_B_new_105 : dc cd_B_new 105 (.goto (-22)) 3 108 := ⟨by decide +kernel, rfl⟩
theorem d_B_new_108 : dc cd_B_new 108 (.aload_n 0) 1 109 := ⟨by decide +kernel, rfl⟩
theorem d_B_new_109 : dc cd_B_new 109 (.invokevirtual 30) 3 112 := ⟨by decide +kernel, rfl⟩
theorem d_B_new_112 : dc cd_B_new 112 (.return_) 1 113 := ⟨by decide +kernel, rfl⟩
theorem d_B_tick_0 : dc cd_B_tick 0 (.iload_n 1) 1 1 := ⟨by decide +kernel, rfl⟩
theorem d_B_tick_1 : dc cd_B_tick 1 (.invokestatic 33) 3 4 := ⟨by decide +kernel, rfl⟩
theorem d_B_tick_4 : dc cd_B_tick 4 (.ifCond .ne 5) 3 7 := ⟨by decide +kernel, rfl⟩
theorem d_B_tick_7 : dc cd_B_tick 7 (.iconst (-1)) 1 8 := ⟨by decide +kernel, rfl⟩
theorem d_B_tick_8 : dc cd_B_tick 8 (.ireturn) 1 9 := ⟨by decide +kernel, rfl⟩
theorem d_B_tick_9 : dc cd_B_tick 9 (.aload_n 0) 1 10 := ⟨by decide +kernel, rfl⟩
theorem d_B_tick_10 : dc cd_B_tick 10 (.getfield 11) 3 13 := ⟨by decide +kernel, rfl⟩
theorem d_B_tick_13 : dc cd_B_tick 13 (.iload_n 1) 1 14 := ⟨by decide +kernel, rfl⟩
theorem d_B_tick_14 : dc cd_B_tick 14 (.aaload) 1 15 := ⟨by decide +kernel, rfl⟩
theorem d_B_tick_15 : dc cd_B_tick 15 (.astore_n 2) 1 16 := ⟨by decide +kernel, rfl⟩
theorem d_B_tick_16 : dc cd_B_tick 16 (.aload_n 2) 1 17 := ⟨by decide +kernel, rfl⟩
theorem d_B_tick_17 : dc cd_B_tick 17 (.getfield 37) 3 20 := ⟨by decide +kernel, rfl⟩
theorem d_B_tick_20 : dc cd_B_tick 20 (.sipush 200) 3 23 := ⟨by decide +kernel, rfl⟩
theorem d_B_tick_23 : dc cd_B_tick 23 (.if_icmp .lt 6) 3 26 := ⟨by decide +kernel, rfl⟩
theorem d_B_tick_26 : dc cd_B_tick 26 (.bipush (-10)) 2 28 := ⟨by decide +kernel, rfl⟩
theorem d_B_tick_28 : dc cd_B_tick 28 (.ireturn) 1 29 := ⟨by decide +kernel, rfl⟩
theorem d_B_tick_29 : dc cd_B_tick 29 (.aload_n 2) 1 30 := ⟨by decide +kernel, rfl⟩
theorem d_B_tick_30 : dc cd_B_tick 30 (.dup) 1 31 := ⟨by decide +kernel, rfl⟩
theorem d_B_tick_31 : dc cd_B_tick 31 (.getfield 37) 3 34 := ⟨by decide +kernel, rfl⟩
theorem d_B_tick_34 : dc cd_B_tick 34 (.iconst 1) 1 35 := ⟨by decide +kernel, rfl⟩
theorem d_B_tick_35 : dc cd_B_tick 35 (.iadd) 1 36 := ⟨by decide +kernel, rfl⟩
theorem d_B_tick_36 : dc cd_B_tick 36 (.putfield 37) 3 39 := ⟨by decide +kernel, rfl⟩
theorem d_B_tick_39 : dc cd_B_tick 39 (.aload_n 2) 1 40 := ⟨by decide +kernel, rfl⟩
theorem d_B_tick_40 : dc cd_B_tick 40 (.getfield 37) 3 43 := ⟨by decide +kernel, rfl⟩
theorem d_B_tick_43 : dc cd_B_tick 43 (.ireturn) 1 44 := ⟨by decide +kernel, rfl⟩
theorem d_B_follow_0 : dc cd_B_follow 0 (.iload_n 1) 1 1 := ⟨by decide +kernel, rfl⟩
theorem d_B_follow_1 : dc cd_B_follow 1 (.invokestatic 33) 3 4 := ⟨by decide +kernel, rfl⟩
theorem d_B_follow_4 : dc cd_B_follow 4 (.ifCond .ne 5) 3 7 := ⟨by decide +kernel, rfl⟩
theorem d_B_follow_7 : dc cd_B_follow 7 (.iconst (-1)) 1 8 := ⟨by decide +kernel, rfl⟩
theorem d_B_follow_8 : dc cd_B_follow 8 (.ireturn) 1 9 := ⟨by decide +kernel, rfl⟩
theorem d_B_follow_9 : dc cd_B_follow 9 (.iload_n 2) 1 10 := ⟨by decide +kernel, rfl⟩
theorem d_B_follow_10 : dc cd_B_follow 10 (.iconst 1) 1 11 := ⟨by decide +kernel, rfl⟩
theorem d_B_follow_11 : dc cd_B_follow 11 (.aload_n 0) 1 12 := ⟨by decide +kernel, rfl⟩
theorem d_B_follow_12 : dc cd_B_follow 12 (.getfield 11) 3 15 := ⟨by decide +kernel, rfl⟩
theorem d_B_follow_15 : dc cd_B_follow 15 (.iconst 1) 1 16 := ⟨by decide +kernel, rfl⟩
theorem d_B_follow_16 : dc cd_B_follow 16 (.iload_n 1) 1 17 := ⟨by decide +kernel, rfl⟩
theorem d_B_follow_17 : dc cd_B_follow 17 (.isub) 1 18 := ⟨by decide +kernel, rfl⟩
theorem d_B_follow_18 : dc cd_B_follow 18 (.aaload) 1 19 := ⟨by decide +kernel, rfl⟩
theorem d_B_follow_19 : dc cd_B_follow 19 (.getfield 37) 3 22 := ⟨by decide +kernel, rfl⟩
theorem d_B_follow_22 : dc cd_B_follow 22 (.invokestatic 41) 3 25 := ⟨by decide +kernel, rfl⟩
theorem d_B_follow_25 : dc cd_B_follow 25 (.ifCond .eq 13) 3 28 := ⟨by decide +kernel, rfl⟩
theorem d_B_follow_28 : dc cd_B_follow 28 (.iload_n 3) 1 29 := ⟨by decide +kernel, rfl⟩
theorem d_B_follow_29 : dc cd_B_follow 29 (.iconst 0) 1 30 := ⟨by decide +kernel, rfl⟩
theorem d_B_follow_30 : dc cd_B_follow 30 (.bipush 9) 2 32 := ⟨by decide +kernel, rfl⟩
theorem d_B_follow_32 : dc cd_B_follow 32 (.invokestatic 41) 3 35 := ⟨by decide +kernel, rfl⟩
theorem d_B_follow_35 : dc cd_B_follow 35 (.ifCond .ne 6) 3 38 := ⟨by decide +kernel, rfl⟩
theorem d_B_follow_38 : dc cd_B_follow 38 (.bipush (-2)) 2 40 := ⟨by decide +kernel, rfl⟩
theorem d_B_follow_40 : dc cd_B_follow 40 (.ireturn) 1 41 := ⟨by decide +kernel, rfl⟩
theorem d_B_follow_41 : dc cd_B_follow 41 (.aload_n 0) 1 42 := ⟨by decide +kernel, rfl⟩
theorem d_B_follow_42 : dc cd_B_follow 42 (.getfield 11) 3 45 := ⟨by decide +kernel, rfl⟩
theorem d_B_follow_45 : dc cd_B_follow 45 (.iload_n 1) 1 46 := ⟨by decide +kernel, rfl⟩
theorem d_B_follow_46 : dc cd_B_follow 46 (.aaload) 1 47 := ⟨by decide +kernel, rfl⟩
theorem d_B_follow_47 : dc cd_B_follow 47 (.getfield 45) 3 50 := ⟨by decide +kernel, rfl⟩
theorem d_B_follow_50 : dc cd_B_follow 50 (.astore 4) 2 52 := ⟨by decide +kernel, rfl⟩
theorem d_B_follow_52 : dc cd_B_follow 52 (.aload 4) 2 54 := ⟨by decide +kernel, rfl⟩
theorem d_B_follow_54 : dc cd_B_follow 54 (.iload_n 2) 1 55 := ⟨by decide +kernel, rfl⟩
theorem d_B_follow_55 : dc cd_B_follow 55 (.invokevirtual 49) 3 58 := ⟨by decide +kernel, rfl⟩
theorem d_B_follow_58 : dc cd_B_follow 58 (.ifCond .eq 7) 3 61 := ⟨by decide +kernel, rfl⟩
theorem d_B_follow_61 : dc cd_B_follow 61 (.iconst 1) 1 62 := ⟨by decide +kernel, rfl⟩
theorem d_B_follow_62 : dc cd_B_follow 62 (.goto 4) 3 65 := ⟨by decide +kernel, rfl⟩
theorem d_B_follow_65 : dc cd_B_follow 65 (.iconst 0) 1 66 := ⟨by decide +kernel, rfl⟩
theorem d_B_follow_66 : dc cd_B_follow 66 (.istore 5) 2 68 := ⟨by decide +kernel, rfl⟩
theorem d_B_follow_68 : dc cd_B_follow 68 (.iload 5) 2 70 := ⟨by decide +kernel, rfl⟩
theorem d_B_follow_70 : dc cd_B_follow 70 (.ifCond .eq 16) 3 73 := ⟨by decide +kernel, rfl⟩
theorem d_B_follow_73 : dc cd_B_follow 73 (.aload 4) 2 75 := ⟨by decide +kernel, rfl⟩
theorem d_B_follow_75 : dc cd_B_follow 75 (.iload_n 2) 1 76 := ⟨by decide +kernel, rfl⟩
theorem d_B_follow_76 : dc cd_B_follow 76 (.iload_n 3) 1 77 := ⟨by decide +kernel, rfl⟩
theorem d_B_follow_77 : dc cd_B_follow 77 (.invokevirtual 55) 3 80 := ⟨by decide +kernel, rfl⟩
theorem d_B_follow_80 : dc cd_B_follow 80 (.ifCond .eq 6) 3 83 := ⟨by decide +kernel, rfl⟩
theorem d_B_follow_83 : dc cd_B_follow 83 (.bipush (-3)) 2 85 := ⟨by decide +kernel, rfl⟩
theorem d_B_follow_85 : dc cd_B_follow 85 (.ireturn) 1 86 := ⟨by decide +kernel, rfl⟩
theorem d_B_follow_86 : dc cd_B_follow 86 (.aload 4) 2 88 := ⟨by decide +kernel, rfl⟩
theorem d_B_follow_88 : dc cd_B_follow 88 (.getfield 59) 3 91 := ⟨by decide +kernel, rfl⟩
theorem d_B_follow_91 : dc cd_B_follow 91 (.ifCond .eq 6) 3 94 := ⟨by decide +kernel, rfl⟩
theorem d_B_follow_94 : dc cd_B_follow 94 (.bipush (-4)) 2 96 := ⟨by decide +kernel, rfl⟩
theorem d_B_follow_96 : dc cd_B_follow 96 (.ireturn) 1 97 := ⟨by decide +kernel, rfl⟩
theorem d_B_follow_97 : dc cd_B_follow 97 (.iload 5) 2 99 := ⟨by decide +kernel, rfl⟩
theorem d_B_follow_99 : dc cd_B_follow 99 (.ifCond .eq 11) 3 102 := ⟨by decide +kernel, rfl⟩
theorem d_B_follow_102 : dc cd_B_follow 102 (.aload 4) 2 104 := ⟨by decide +kernel, rfl⟩
theorem d_B_follow_104 : dc cd_B_follow 104 (.iconst 1) 1 105 := ⟨by decide +kernel, rfl⟩
theorem d_B_follow_105 : dc cd_B_follow 105 (.putfield 59) 3 108 := ⟨by decide +kernel, rfl⟩
theorem d_B_follow_108 : dc cd_B_follow 108 (.iconst 2) 1 109 := ⟨by decide +kernel, rfl⟩
theorem d_B_follow_109 : dc cd_B_follow 109 (.ireturn) 1 110 := ⟨by decide +kernel, rfl⟩
theorem d_B_follow_110 : dc cd_B_follow 110 (.aload 4) 2 112 := ⟨by decide +kernel, rfl⟩
theorem d_B_follow_112 : dc cd_B_follow 112 (.iload_n 2) 1 113 := ⟨by decide +kernel, rfl⟩
theorem d_B_follow_113 : dc cd_B_follow 113 (.iload_n 3) 1 114 := ⟨by decide +kernel, rfl⟩
theorem d_B_follow_114 : dc cd_B_follow 114 (.invokevirtual 63) 3 117 := ⟨by decide +kernel, rfl⟩
theorem d_B_follow_117 : dc cd_B_follow 117 (.iconst 1) 1 118 := ⟨by decide +kernel, rfl⟩
theorem d_B_follow_118 : dc cd_B_follow 118 (.ireturn) 1 119 := ⟨by decide +kernel, rfl⟩
theorem d_B_renew_0 : dc cd_B_renew 0 (.iload_n 1) 1 1 := ⟨by decide +kernel, rfl⟩
theorem d_B_renew_1 : dc cd_B_renew 1 (.invokestatic 33) 3 4 := ⟨by decide +kernel, rfl⟩
theorem d_B_renew_4 : dc cd_B_renew 4 (.ifCond .ne 5) 3 7 := ⟨by decide +kernel, rfl⟩
theorem d_B_renew_7 : dc cd_B_renew 7 (.iconst (-1)) 1 8 := ⟨by decide +kernel, rfl⟩
theorem d_B_renew_8 : dc cd_B_renew 8 (.ireturn) 1 9 := ⟨by decide +kernel, rfl⟩
theorem d_B_renew_9 : dc cd_B_renew 9 (.aload_n 0) 1 10 := ⟨by decide +kernel, rfl⟩
theorem d_B_renew_10 : dc cd_B_renew 10 (.getfield 11) 3 13 := ⟨by decide +kernel, rfl⟩
theorem d_B_renew_13 : dc cd_B_renew 13 (.iload_n 1) 1 14 := ⟨by decide +kernel, rfl⟩
theorem d_B_renew_14 : dc cd_B_renew 14 (.aaload) 1 15 := ⟨by decide +kernel, rfl⟩
theorem d_B_renew_15 : dc cd_B_renew 15 (.getfield 45) 3 18 := ⟨by decide +kernel, rfl⟩
theorem d_B_renew_18 : dc cd_B_renew 18 (.astore_n 2) 1 19 := ⟨by decide +kernel, rfl⟩
theorem d_B_renew_19 : dc cd_B_renew 19 (.aload_n 2) 1 20 := ⟨by decide +kernel, rfl⟩
theorem d_B_renew_20 : dc cd_B_renew 20 (.getfield 59) 3 23 := ⟨by decide +kernel, rfl⟩
theorem d_B_renew_23 : dc cd_B_renew 23 (.ifCond .ne 6) 3 26 := ⟨by decide +kernel, rfl⟩
theorem d_B_renew_26 : dc cd_B_renew 26 (.bipush (-3)) 2 28 := ⟨by decide +kernel, rfl⟩
theorem d_B_renew_28 : dc cd_B_renew 28 (.ireturn) 1 29 := ⟨by decide +kernel, rfl⟩
theorem d_B_renew_29 : dc cd_B_renew 29 (.aload_n 2) 1 30 := ⟨by decide +kernel, rfl⟩
theorem d_B_renew_30 : dc cd_B_renew 30 (.getfield 67) 3 33 := ⟨by decide +kernel, rfl⟩
theorem d_B_renew_33 : dc cd_B_renew 33 (.istore_n 3) 1 34 := ⟨by decide +kernel, rfl⟩
theorem d_B_renew_34 : dc cd_B_renew 34 (.aload_n 2) 1 35 := ⟨by decide +kernel, rfl⟩
theorem d_B_renew_35 : dc cd_B_renew 35 (.invokevirtual 70) 3 38 := ⟨by decide +kernel, rfl⟩
theorem d_B_renew_38 : dc cd_B_renew 38 (.iload_n 3) 1 39 := ⟨by decide +kernel, rfl⟩
theorem d_B_renew_39 : dc cd_B_renew 39 (.ireturn) 1 40 := ⟨by decide +kernel, rfl⟩
theorem d_B_client_0 : dc cd_B_client 0 (.iload_n 1) 1 1 := ⟨by decide +kernel, rfl⟩
theorem d_B_client_1 : dc cd_B_client 1 (.invokestatic 33) 3 4 := ⟨by decide +kernel, rfl⟩
theorem d_B_client_4 : dc cd_B_client 4 (.ifCond .ne 5) 3 7 := ⟨by decide +kernel, rfl⟩
theorem d_B_client_7 : dc cd_B_client 7 (.iconst (-1)) 1 8 := ⟨by decide +kernel, rfl⟩
theorem d_B_client_8 : dc cd_B_client 8 (.ireturn) 1 9 := ⟨by decide +kernel, rfl⟩
theorem d_B_client_9 : dc cd_B_client 9 (.aload_n 0) 1 10 := ⟨by decide +kernel, rfl⟩
theorem d_B_client_10 : dc cd_B_client 10 (.getfield 11) 3 13 := ⟨by decide +kernel, rfl⟩
theorem d_B_client_13 : dc cd_B_client 13 (.iload_n 1) 1 14 := ⟨by decide +kernel, rfl⟩
theorem d_B_client_14 : dc cd_B_client 14 (.aaload) 1 15 := ⟨by decide +kernel, rfl⟩
theorem d_B_client_15 : dc cd_B_client 15 (.getfield 45) 3 18 := ⟨by decide +kernel, rfl⟩
theorem d_B_client_18 : dc cd_B_client 18 (.astore_n 3) 1 19 := ⟨by decide +kernel, rfl⟩
theorem d_B_client_19 : dc cd_B_client 19 (.iload_n 2) 1 20 := ⟨by decide +kernel, rfl⟩
theorem d_B_client_20 : dc cd_B_client 20 (.tableswitch 46 0 2 #[28, 36, 41]) 28 48 := ⟨by decide +kernel, rfl⟩
theorem d_B_client_48 : dc cd_B_client 48 (.aload_n 3) 1 49 := ⟨by decide +kernel, rfl⟩
theorem d_B_client_49 : dc cd_B_client 49 (.getfield 59) 3 52 := ⟨by decide +kernel, rfl⟩
theorem d_B_client_52 : dc cd_B_client 52 (.invokestatic 73) 3 55 := ⟨by decide +kernel, rfl⟩
theorem d_B_client_55 : dc cd_B_client 55 (.ireturn) 1 56 := ⟨by decide +kernel, rfl⟩
theorem d_B_client_56 : dc cd_B_client 56 (.aload_n 3) 1 57 := ⟨by decide +kernel, rfl⟩
theorem d_B_client_57 : dc cd_B_client 57 (.getfield 77) 3 60 := ⟨by decide +kernel, rfl⟩
theorem d_B_client_60 : dc cd_B_client 60 (.ireturn) 1 61 := ⟨by decide +kernel, rfl⟩
theorem d_B_client_61 : dc cd_B_client 61 (.aload_n 3) 1 62 := ⟨by decide +kernel, rfl⟩
theorem d_B_client_62 : dc cd_B_client 62 (.getfield 67) 3 65 := ⟨by decide +kernel, rfl⟩
theorem d_B_client_65 : dc cd_B_client 65 (.ireturn) 1 66 := ⟨by decide +kernel, rfl⟩
theorem d_B_client_66 : dc cd_B_client 66 (.bipush (-2)) 2 68 := ⟨by decide +kernel, rfl⟩
theorem d_B_client_68 : dc cd_B_client 68 (.ireturn) 1 69 := ⟨by decide +kernel, rfl⟩
theorem d_B_follows_0 : dc cd_B_follows 0 (.iload_n 1) 1 1 := ⟨by decide +kernel, rfl⟩
theorem d_B_follows_1 : dc cd_B_follows 1 (.invokestatic 33) 3 4 := ⟨by decide +kernel, rfl⟩
theorem d_B_follows_4 : dc cd_B_follows 4 (.ifCond .ne 5) 3 7 := ⟨by decide +kernel, rfl⟩
theorem d_B_follows_7 : dc cd_B_follows 7 (.iconst (-1)) 1 8 := ⟨by decide +kernel, rfl⟩
theorem d_B_follows_8 : dc cd_B_follows 8 (.ireturn) 1 9 := ⟨by decide +kernel, rfl⟩
theorem d_B_follows_9 : dc cd_B_follows 9 (.iload_n 2) 1 10 := ⟨by decide +kernel, rfl⟩
theorem d_B_follows_10 : dc cd_B_follows 10 (.iconst 1) 1 11 := ⟨by decide +kernel, rfl⟩
theorem d_B_follows_11 : dc cd_B_follows 11 (.sipush 200) 3 14 := ⟨by decide +kernel, rfl⟩
theorem d_B_follows_14 : dc cd_B_follows 14 (.invokestatic 41) 3 17 := ⟨by decide +kernel, rfl⟩
theorem d_B_follows_17 : dc cd_B_follows 17 (.ifCond .ne 6) 3 20 := ⟨by decide +kernel, rfl⟩
theorem d_B_follows_20 : dc cd_B_follows 20 (.bipush (-2)) 2 22 := ⟨by decide +kernel, rfl⟩
theorem d_B_follows_22 : dc cd_B_follows 22 (.ireturn) 1 23 := ⟨by decide +kernel, rfl⟩
theorem d_B_follows_23 : dc cd_B_follows 23 (.aload_n 0) 1 24 := ⟨by decide +kernel, rfl⟩
theorem d_B_follows_24 : dc cd_B_follows 24 (.getfield 11) 3 27 := ⟨by decide +kernel, rfl⟩
theorem d_B_follows_27 : dc cd_B_follows 27 (.iload_n 1) 1 28 := ⟨by decide +kernel, rfl⟩
theorem d_B_follows_28 : dc cd_B_follows 28 (.aaload) 1 29 := ⟨by decide +kernel, rfl⟩
theorem d_B_follows_29 : dc cd_B_follows 29 (.getfield 45) 3 32 := ⟨by decide +kernel, rfl⟩
theorem d_B_follows_32 : dc cd_B_follows 32 (.iload_n 2) 1 33 := ⟨by decide +kernel, rfl⟩
theorem d_B_follows_33 : dc cd_B_follows 33 (.invokevirtual 49) 3 36 := ⟨by decide +kernel, rfl⟩
theorem d_B_follows_36 : dc cd_B_follows 36 (.ireturn) 1 37 := ⟨by decide +kernel, rfl⟩
theorem d_B_init_0 : dc cd_B_init 0 (.iload_n 1) 1 1 := ⟨by decide +kernel, rfl⟩
theorem d_B_init_1 : dc cd_B_init 1 (.invokestatic 33) 3 4 := ⟨by decide +kernel, rfl⟩
theorem d_B_init_4 : dc cd_B_init 4 (.ifCond .ne 5) 3 7 := ⟨by decide +kernel, rfl⟩
theorem d_B_init_7 : dc cd_B_init 7 (.iconst (-1)) 1 8 := ⟨by decide +kernel, rfl⟩
theorem d_B_init_8 : dc cd_B_init 8 (.ireturn) 1 9 := ⟨by decide +kernel, rfl⟩
theorem d_B_init_9 : dc cd_B_init 9 (.iload_n 3) 1 10 := ⟨by decide +kernel, rfl⟩
theorem d_B_init_10 : dc cd_B_init 10 (.iconst 1) 1 11 := ⟨by decide +kernel, rfl⟩
theorem d_B_init_11 : dc cd_B_init 11 (.bipush 7) 2 13 := ⟨by decide +kernel, rfl⟩
theorem d_B_init_13 : dc cd_B_init 13 (.invokestatic 41) 3 16 := ⟨by decide +kernel, rfl⟩
theorem d_B_init_16 : dc cd_B_init 16 (.ifCond .ne 6) 3 19 := ⟨by decide +kernel, rfl⟩
theorem d_B_init_19 : dc cd_B_init 19 (.bipush (-2)) 2 21 := ⟨by decide +kernel, rfl⟩
theorem d_B_init_21 : dc cd_B_init 21 (.ireturn) 1 22 := ⟨by decide +kernel, rfl⟩
theorem d_B_init_22 : dc cd_B_init 22 (.aload_n 0) 1 23 := ⟨by decide +kernel, rfl⟩
theorem d_B_init_23 : dc cd_B_init 23 (.getfield 80) 3 26 := ⟨by decide +kernel, rfl⟩
theorem d_B_init_26 : dc cd_B_init 26 (.iconst 4) 1 27 := ⟨by decide +kernel, rfl⟩
theorem d_B_init_27 : dc cd_B_init 27 (.if_icmp .lt 6) 3 30 := ⟨by decide +kernel, rfl⟩
theorem d_B_init_30 : dc cd_B_init 30 (.bipush (-10)) 2 32 := ⟨by decide +kernel, rfl⟩
theorem d_B_init_32 : dc cd_B_init 32 (.ireturn) 1 33 := ⟨by decide +kernel, rfl⟩
theorem d_B_init_33 : dc cd_B_init 33 (.aload_n 0) 1 34 := ⟨by decide +kernel, rfl⟩
theorem d_B_init_34 : dc cd_B_init 34 (.getfield 17) 3 37 := ⟨by decide +kernel, rfl⟩
theorem d_B_init_37 : dc cd_B_init 37 (.aload_n 0) 1 38 := ⟨by decide +kernel, rfl⟩
theorem d_B_init_38 : dc cd_B_init 38 (.getfield 80) 3 41 := ⟨by decide +kernel, rfl⟩
theorem d_B_init_41 : dc cd_B_init 41 (.aaload) 1 42 := ⟨by decide +kernel, rfl⟩
theorem d_B_init_42 : dc cd_B_init 42 (.astore 4) 2 44 := ⟨by decide +kernel, rfl⟩
theorem d_B_init_44 : dc cd_B_init 44 (.aload 4) 2 46 := ⟨by decide +kernel, rfl⟩
theorem d_B_init_46 : dc cd_B_init 46 (.iload_n 1) 1 47 := ⟨by decide +kernel, rfl⟩
theorem d_B_init_47 : dc cd_B_init 47 (.putfield 83) 3 50 := ⟨by decide +kernel, rfl⟩
theorem d_B_init_50 : dc cd_B_init 50 (.aload 4) 2 52 := ⟨by decide +kernel, rfl⟩
theorem d_B_init_52 : dc cd_B_init 52 (.iload_n 2) 1 53 := ⟨by decide +kernel, rfl⟩
theorem d_B_init_53 : dc cd_B_init 53 (.putfield 86) 3 56 := ⟨by decide +kernel, rfl⟩
theorem d_B_init_56 : dc cd_B_init 56 (.aload 4) 2 58 := ⟨by decide +kernel, rfl⟩
theorem d_B_init_58 : dc cd_B_init 58 (.getfield 89) 3 61 := ⟨by decide +kernel, rfl⟩
theorem d_B_init_61 : dc cd_B_init 61 (.iload_n 1) 1 62 := ⟨by decide +kernel, rfl⟩
theorem d_B_init_62 : dc cd_B_init 62 (.aaload) 1 63 := ⟨by decide +kernel, rfl⟩
theorem d_B_init_63 : dc cd_B_init 63 (.iload_n 3) 1 64 := ⟨by decide +kernel, rfl⟩
theorem d_B_init_64 : dc cd_B_init 64 (.putfield 93) 3 67 := ⟨by decide +kernel, rfl⟩
theorem d_B_init_67 : dc cd_B_init 67 (.aload 4) 2 69 := ⟨by decide +kernel, rfl⟩
theorem d_B_init_69 : dc cd_B_init 69 (.getfield 89) 3 72 := ⟨by decide +kernel, rfl⟩
theorem d_B_init_72 : dc cd_B_init 72 (.iload_n 1) 1 73 := ⟨by decide +kernel, rfl⟩
theorem d_B_init_73 : dc cd_B_init 73 (.aaload) 1 74 := ⟨by decide +kernel, rfl⟩
theorem d_B_init_74 : dc cd_B_init 74 (.iconst 1) 1 75 := ⟨by decide +kernel, rfl⟩
theorem d_B_init_75 : dc cd_B_init 75 (.aload_n 0) 1 76 := ⟨by decide +kernel, rfl⟩
theorem d_B_init_76 : dc cd_B_init 76 (.getfield 11) 3 79 := ⟨by decide +kernel, rfl⟩
theorem d_B_init_79 : dc cd_B_init 79 (.iload_n 1) 1 80 := ⟨by decide +kernel, rfl⟩
theorem d_B_init_80 : dc cd_B_init 80 (.aaload) 1 81 := ⟨by decide +kernel, rfl⟩
theorem d_B_init_81 : dc cd_B_init 81 (.getfield 37) 3 84 := ⟨by decide +kernel, rfl⟩
theorem d_B_init_84 : dc cd_B_init 84 (.invokevirtual 98) 3 87 := ⟨by decide +kernel, rfl⟩
theorem d_B_init_87 : dc cd_B_init 87 (.aload_n 0) 1 88 := ⟨by decide +kernel, rfl⟩
theorem d_B_init_88 : dc cd_B_init 88 (.dup) 1 89 := ⟨by decide +kernel, rfl⟩
theorem d_B_init_89 : dc cd_B_init 89 (.getfield 80) 3 92 := ⟨by decide +kernel, rfl⟩
theorem d_B_init_92 : dc cd_B_init 92 (.iconst 1) 1 93 := ⟨by decide +kernel, rfl⟩
theorem d_B_init_93 : dc cd_B_init 93 (.iadd) 1 94 := ⟨by decide +kernel, rfl⟩
theorem d_B_init_94 : dc cd_B_init 94 (.putfield 80) 3 97 := ⟨by decide +kernel, rfl⟩
theorem d_B_init_97 : dc cd_B_init 97 (.aload_n 0) 1 98 := ⟨by decide +kernel, rfl⟩
theorem d_B_init_98 : dc cd_B_init 98 (.getfield 80) 3 101 := ⟨by decide +kernel, rfl⟩
theorem d_B_init_101 : dc cd_B_init 101 (.iconst 1) 1 102 := ⟨by decide +kernel, rfl⟩
theorem d_B_init_102 : dc cd_B_init 102 (.isub) 1 103 := ⟨by decide +kernel, rfl⟩
theorem d_B_init_103 : dc cd_B_init 103 (.ireturn) 1 104 := ⟨by decide +kernel, rfl⟩
theorem d_B_meet_0 : dc cd_B_meet 0 (.aload_n 0) 1 1 := ⟨by decide +kernel, rfl⟩
theorem d_B_meet_1 : dc cd_B_meet 1 (.iload_n 1) 1 2 := ⟨by decide +kernel, rfl⟩
theorem d_B_meet_2 : dc cd_B_meet 2 (.invokevirtual 101) 3 5 := ⟨by decide +kernel, rfl⟩
theorem d_B_meet_5 : dc cd_B_meet 5 (.ifCond .ne 5) 3 8 := ⟨by decide +kernel, rfl⟩
theorem d_B_meet_8 : dc cd_B_meet 8 (.iconst (-1)) 1 9 := ⟨by decide +kernel, rfl⟩
theorem d_B_meet_9 : dc cd_B_meet 9 (.ireturn) 1 10 := ⟨by decide +kernel, rfl⟩
theorem d_B_meet_10 : dc cd_B_meet 10 (.iload_n 2) 1 11 := ⟨by decide +kernel, rfl⟩
theorem d_B_meet_11 : dc cd_B_meet 11 (.iconst 1) 1 12 := ⟨by decide +kernel, rfl⟩
theorem d_B_meet_12 : dc cd_B_meet 12 (.bipush 7) 2 14 := ⟨by decide +kernel, rfl⟩
theorem d_B_meet_14 : dc cd_B_meet 14 (.invokestatic 41) 3 17 := ⟨by decide +kernel, rfl⟩
theorem d_B_meet_17 : dc cd_B_meet 17 (.ifCond .ne 6) 3 20 := ⟨by decide +kernel, rfl⟩
theorem d_B_meet_20 : dc cd_B_meet 20 (.bipush (-2)) 2 22 := ⟨by decide +kernel, rfl⟩
theorem d_B_meet_22 : dc cd_B_meet 22 (.ireturn) 1 23 := ⟨by decide +kernel, rfl⟩
theorem d_B_meet_23 : dc cd_B_meet 23 (.iconst 1) 1 24 := ⟨by decide +kernel, rfl⟩
theorem d_B_meet_24 : dc cd_B_meet 24 (.aload_n 0) 1 25 := ⟨by decide +kernel, rfl⟩
theorem d_B_meet_25 : dc cd_B_meet 25 (.getfield 17) 3 28 := ⟨by decide +kernel, rfl⟩
theorem d_B_meet_28 : dc cd_B_meet 28 (.iload_n 1) 1 29 := ⟨by decide +kernel, rfl⟩
theorem d_B_meet_29 : dc cd_B_meet 29 (.aaload) 1 30 := ⟨by decide +kernel, rfl⟩
theorem d_B_meet_30 : dc cd_B_meet 30 (.getfield 83) 3 33 := ⟨by decide +kernel, rfl⟩
theorem d_B_meet_33 : dc cd_B_meet 33 (.isub) 1 34 := ⟨by decide +kernel, rfl⟩
theorem d_B_meet_34 : dc cd_B_meet 34 (.istore 4) 2 36 := ⟨by decide +kernel, rfl⟩
theorem d_B_meet_36 : dc cd_B_meet 36 (.aload_n 0) 1 37 := ⟨by decide +kernel, rfl⟩
theorem d_B_meet_37 : dc cd_B_meet 37 (.getfield 17) 3 40 := ⟨by decide +kernel, rfl⟩
theorem d_B_meet_40 : dc cd_B_meet 40 (.iload_n 1) 1 41 := ⟨by decide +kernel, rfl⟩
theorem d_B_meet_41 : dc cd_B_meet 41 (.aaload) 1 42 := ⟨by decide +kernel, rfl⟩
theorem d_B_meet_42 : dc cd_B_meet 42 (.getfield 89) 3 45 := ⟨by decide +kernel, rfl⟩
theorem d_B_meet_45 : dc cd_B_meet 45 (.iload 4) 2 47 := ⟨by decide +kernel, rfl⟩
theorem d_B_meet_47 : dc cd_B_meet 47 (.aaload) 1 48 := ⟨by decide +kernel, rfl⟩
theorem d_B_meet_48 : dc cd_B_meet 48 (.astore 5) 2 50 := ⟨by decide +kernel, rfl⟩
theorem d_B_meet_50 : dc cd_B_meet 50 (.aload_n 0) 1 51 := ⟨by decide +kernel, rfl⟩
theorem d_B_meet_51 : dc cd_B_meet 51 (.getfield 17) 3 54 := ⟨by decide +kernel, rfl⟩
theorem d_B_meet_54 : dc cd_B_meet 54 (.iload_n 1) 1 55 := ⟨by decide +kernel, rfl⟩
theorem d_B_meet_55 : dc cd_B_meet 55 (.aaload) 1 56 := ⟨by decide +kernel, rfl⟩
theorem d_B_meet_56 : dc cd_B_meet 56 (.getfield 89) 3 59 := ⟨by decide +kernel, rfl⟩
theorem d_B_meet_59 : dc cd_B_meet 59 (.iconst 1) 1 60 := ⟨by decide +kernel, rfl⟩
theorem d_B_meet_60 : dc cd_B_meet 60 (.iload 4) 2 62 := ⟨by decide +kernel, rfl⟩
theorem d_B_meet_62 : dc cd_B_meet 62 (.isub) 1 63 := ⟨by decide +kernel, rfl⟩
theorem d_B_meet_63 : dc cd_B_meet 63 (.aaload) 1 64 := ⟨by decide +kernel, rfl⟩
theorem d_B_meet_64 : dc cd_B_meet 64 (.astore 6) 2 66 := ⟨by decide +kernel, rfl⟩
theorem d_B_meet_66 : dc cd_B_meet 66 (.aload_n 0) 1 67 := ⟨by decide +kernel, rfl⟩
theorem d_B_meet_67 : dc cd_B_meet 67 (.iload_n 1) 1 68 := ⟨by decide +kernel, rfl⟩
theorem d_B_meet_68 : dc cd_B_meet 68 (.iload 4) 2 70 := ⟨by decide +kernel, rfl⟩
theorem d_B_meet_70 : dc cd_B_meet 70 (.iconst 0) 1 71 := ⟨by decide +kernel, rfl⟩
theorem d_B_meet_71 : dc cd_B_meet 71 (.iconst 1) 1 72 := ⟨by decide +kernel, rfl⟩
theorem d_B_meet_72 : dc cd_B_meet 72 (.iload_n 3) 1 73 := ⟨by decide +kernel, rfl⟩
theorem d_B_meet_73 : dc cd_B_meet 73 (.invokevirtual 104) 3 76 := ⟨by decide +kernel, rfl⟩
theorem d_B_meet_76 : dc cd_B_meet 76 (.istore 7) 2 78 := ⟨by decide +kernel, rfl⟩
theorem d_B_meet_78 : dc cd_B_meet 78 (.iload 7) 2 80 := ⟨by decide +kernel, rfl⟩
theorem d_B_meet_80 : dc cd_B_meet 80 (.ifCond .eq 6) 3 83 := ⟨by decide +kernel, rfl⟩
theorem d_B_meet_83 : dc cd_B_meet 83 (.iload 7) 2 85 := ⟨by decide +kernel, rfl⟩
theorem d_B_meet_85 : dc cd_B_meet 85 (.ireturn) 1 86 := ⟨by decide +kernel, rfl⟩
theorem d_B_meet_86 : dc cd_B_meet 86 (.iload_n 2) 1 87 := ⟨by decide +kernel, rfl⟩
theorem d_B_meet_87 : dc cd_B_meet 87 (.aload 6) 2 89 := ⟨by decide +kernel, rfl⟩
theorem d_B_meet_89 : dc cd_B_meet 89 (.getfield 93) 3 92 := ⟨by decide +kernel, rfl⟩
theorem d_B_meet_92 : dc cd_B_meet 92 (.iand) 1 93 := ⟨by decide +kernel, rfl⟩
theorem d_B_meet_93 : dc cd_B_meet 93 (.invokestatic 108) 3 96 := ⟨by decide +kernel, rfl⟩
theorem d_B_meet_96 : dc cd_B_meet 96 (.istore 8) 2 98 := ⟨by decide +kernel, rfl⟩
theorem d_B_meet_98 : dc cd_B_meet 98 (.iload 8) 2 100 := ⟨by decide +kernel, rfl⟩
theorem d_B_meet_100 : dc cd_B_meet 100 (.ifCond .ne 6) 3 103 := ⟨by decide +kernel, rfl⟩
theorem d_B_meet_103 : dc cd_B_meet 103 (.bipush (-9)) 2 105 := ⟨by decide +kernel, rfl⟩
theorem d_B_meet_105 : dc cd_B_meet 105 (.ireturn) 1 106 := ⟨by decide +kernel, rfl⟩
theorem d_B_meet_106 : dc cd_B_meet 106 (.aload 5) 2 108 := ⟨by decide +kernel, rfl⟩
theorem d_B_meet_108 : dc cd_B_meet 108 (.iload_n 2) 1 109 := ⟨by decide +kernel, rfl⟩
theorem d_B_meet_109 : dc cd_B_meet 109 (.putfield 93) 3 112 := ⟨by decide +kernel, rfl⟩
theorem d_B_meet_112 : dc cd_B_meet 112 (.aload 5) 2 114 := ⟨by decide +kernel, rfl⟩
theorem d_B_meet_114 : dc cd_B_meet 114 (.iload 8) 2 116 := ⟨by decide +kernel, rfl⟩
theorem d_B_meet_116 : dc cd_B_meet 116 (.putfield 111) 3 119 := ⟨by decide +kernel, rfl⟩
theorem d_B_meet_119 : dc cd_B_meet 119 (.aload 5) 2 121 := ⟨by decide +kernel, rfl⟩
theorem d_B_meet_121 : dc cd_B_meet 121 (.iconst 2) 1 122 := ⟨by decide +kernel, rfl⟩
theorem d_B_meet_122 : dc cd_B_meet 122 (.aload_n 0) 1 123 := ⟨by decide +kernel, rfl⟩
theorem d_B_meet_123 : dc cd_B_meet 123 (.getfield 11) 3 126 := ⟨by decide +kernel, rfl⟩
theorem d_B_meet_126 : dc cd_B_meet 126 (.iload 4) 2 128 := ⟨by decide +kernel, rfl⟩
theorem d_B_meet_128 : dc cd_B_meet 128 (.aaload) 1 129 := ⟨by decide +kernel, rfl⟩
theorem d_B_meet_129 : dc cd_B_meet 129 (.getfield 37) 3 132 := ⟨by decide +kernel, rfl⟩
theorem d_B_meet_132 : dc cd_B_meet 132 (.invokevirtual 98) 3 135 := ⟨by decide +kernel, rfl⟩
theorem d_B_meet_135 : dc cd_B_meet 135 (.iload 8) 2 137 := ⟨by decide +kernel, rfl⟩
theorem d_B_meet_137 : dc cd_B_meet 137 (.ireturn) 1 138 := ⟨by decide +kernel, rfl⟩
theorem d_B_agree_0 : dc cd_B_agree 0 (.aload_n 0) 1 1 := ⟨by decide +kernel, rfl⟩
theorem d_B_agree_1 : dc cd_B_agree 1 (.iload_n 1) 1 2 := ⟨by decide +kernel, rfl⟩
theorem d_B_agree_2 : dc cd_B_agree 2 (.invokevirtual 101) 3 5 := ⟨by decide +kernel, rfl⟩
theorem d_B_agree_5 : dc cd_B_agree 5 (.ifCond .ne 5) 3 8 := ⟨by decide +kernel, rfl⟩
theorem d_B_agree_8 : dc cd_B_agree 8 (.iconst (-1)) 1 9 := ⟨by decide +kernel, rfl⟩
theorem d_B_agree_9 : dc cd_B_agree 9 (.ireturn) 1 10 := ⟨by decide +kernel, rfl⟩
theorem d_B_agree_10 : dc cd_B_agree 10 (.aload_n 0) 1 11 := ⟨by decide +kernel, rfl⟩
theorem d_B_agree_11 : dc cd_B_agree 11 (.getfield 17) 3 14 := ⟨by decide +kernel, rfl⟩
theorem d_B_agree_14 : dc cd_B_agree 14 (.iload_n 1) 1 15 := ⟨by decide +kernel, rfl⟩
theorem d_B_agree_15 : dc cd_B_agree 15 (.aaload) 1 16 := ⟨by decide +kernel, rfl⟩
theorem d_B_agree_16 : dc cd_B_agree 16 (.getfield 83) 3 19 := ⟨by decide +kernel, rfl⟩
theorem d_B_agree_19 : dc cd_B_agree 19 (.istore_n 3) 1 20 := ⟨by decide +kernel, rfl⟩
theorem d_B_agree_20 : dc cd_B_agree 20 (.aload_n 0) 1 21 := ⟨by decide +kernel, rfl⟩
theorem d_B_agree_21 : dc cd_B_agree 21 (.getfield 17) 3 24 := ⟨by decide +kernel, rfl⟩
theorem d_B_agree_24 : dc cd_B_agree 24 (.iload_n 1) 1 25 := ⟨by decide +kernel, rfl⟩
theorem d_B_agree_25 : dc cd_B_agree 25 (.aaload) 1 26 := ⟨by decide +kernel, rfl⟩
theorem d_B_agree_26 : dc cd_B_agree 26 (.getfield 89) 3 29 := ⟨by decide +kernel, rfl⟩
theorem d_B_agree_29 : dc cd_B_agree 29 (.iload_n 3) 1 30 := ⟨by decide +kernel, rfl⟩
theorem d_B_agree_30 : dc cd_B_agree 30 (.aaload) 1 31 := ⟨by decide +kernel, rfl⟩
theorem d_B_agree_31 : dc cd_B_agree 31 (.astore 4) 2 33 := ⟨by decide +kernel, rfl⟩
theorem d_B_agree_33 : dc cd_B_agree 33 (.aload_n 0) 1 34 := ⟨by decide +kernel, rfl⟩
theorem d_B_agree_34 : dc cd_B_agree 34 (.getfield 17) 3 37 := ⟨by decide +kernel, rfl⟩
theorem d_B_agree_37 : dc cd_B_agree 37 (.iload_n 1) 1 38 := ⟨by decide +kernel, rfl⟩
theorem d_B_agree_38 : dc cd_B_agree 38 (.aaload) 1 39 := ⟨by decide +kernel, rfl⟩
theorem d_B_agree_39 : dc cd_B_agree 39 (.getfield 89) 3 42 := ⟨by decide +kernel, rfl⟩
theorem d_B_agree_42 : dc cd_B_agree 42 (.iconst 1) 1 43 := ⟨by decide +kernel, rfl⟩
theorem d_B_agree_43 : dc cd_B_agree 43 (.iload_n 3) 1 44 := ⟨by decide +kernel, rfl⟩
theorem d_B_agree_44 : dc cd_B_agree 44 (.isub) 1 45 := ⟨by decide +kernel, rfl⟩
theorem d_B_agree_45 : dc cd_B_agree 45 (.aaload) 1 46 := ⟨by decide +kernel, rfl⟩
theorem d_B_agree_46 : dc cd_B_agree 46 (.astore 5) 2 48 := ⟨by decide +kernel, rfl⟩
theorem d_B_agree_48 : dc cd_B_agree 48 (.aload_n 0) 1 49 := ⟨by decide +kernel, rfl⟩
theorem d_B_agree_49 : dc cd_B_agree 49 (.iload_n 1) 1 50 := ⟨by decide +kernel, rfl⟩
theorem d_B_agree_50 : dc cd_B_agree 50 (.iload_n 3) 1 51 := ⟨by decide +kernel, rfl⟩
theorem d_B_agree_51 : dc cd_B_agree 51 (.iconst 1) 1 52 := ⟨by decide +kernel, rfl⟩
theorem d_B_agree_52 : dc cd_B_agree 52 (.iconst 2) 1 53 := ⟨by decide +kernel, rfl⟩
theorem d_B_agree_53 : dc cd_B_agree 53 (.iload_n 2) 1 54 := ⟨by decide +kernel, rfl⟩
theorem d_B_agree_54 : dc cd_B_agree 54 (.invokevirtual 104) 3 57 := ⟨by decide +kernel, rfl⟩
theorem d_B_agree_57 : dc cd_B_agree 57 (.istore 6) 2 59 := ⟨by decide +kernel, rfl⟩
theorem d_B_agree_59 : dc cd_B_agree 59 (.iload 6) 2 61 := ⟨by decide +kernel, rfl⟩
theorem d_B_agree_61 : dc cd_B_agree 61 (.ifCond .eq 6) 3 64 := ⟨by decide +kernel, rfl⟩
theorem d_B_agree_64 : dc cd_B_agree 64 (.iload 6) 2 66 := ⟨by decide +kernel, rfl⟩
theorem d_B_agree_66 : dc cd_B_agree 66 (.ireturn) 1 67 := ⟨by decide +kernel, rfl⟩
theorem d_B_agree_67 : dc cd_B_agree 67 (.aload 4) 2 69 := ⟨by decide +kernel, rfl⟩
theorem d_B_agree_69 : dc cd_B_agree 69 (.aload 5) 2 71 := ⟨by decide +kernel, rfl⟩
theorem d_B_agree_71 : dc cd_B_agree 71 (.getfield 111) 3 74 := ⟨by decide +kernel, rfl⟩
theorem d_B_agree_74 : dc cd_B_agree 74 (.putfield 111) 3 77 := ⟨by decide +kernel, rfl⟩
theorem d_B_agree_77 : dc cd_B_agree 77 (.aload 4) 2 79 := ⟨by decide +kernel, rfl⟩
theorem d_B_agree_79 : dc cd_B_agree 79 (.iconst 3) 1 80 := ⟨by decide +kernel, rfl⟩
theorem d_B_agree_80 : dc cd_B_agree 80 (.aload_n 0) 1 81 := ⟨by decide +kernel, rfl⟩
theorem d_B_agree_81 : dc cd_B_agree 81 (.getfield 11) 3 84 := ⟨by decide +kernel, rfl⟩
theorem d_B_agree_84 : dc cd_B_agree 84 (.iload_n 3) 1 85 := ⟨by decide +kernel, rfl⟩
theorem d_B_agree_85 : dc cd_B_agree 85 (.aaload) 1 86 := ⟨by decide +kernel, rfl⟩
theorem d_B_agree_86 : dc cd_B_agree 86 (.getfield 37) 3 89 := ⟨by decide +kernel, rfl⟩
theorem d_B_agree_89 : dc cd_B_agree 89 (.invokevirtual 98) 3 92 := ⟨by decide +kernel, rfl⟩
theorem d_B_agree_92 : dc cd_B_agree 92 (.aload 4) 2 94 := ⟨by decide +kernel, rfl⟩
theorem d_B_agree_94 : dc cd_B_agree 94 (.getfield 111) 3 97 := ⟨by decide +kernel, rfl⟩
theorem d_B_agree_97 : dc cd_B_agree 97 (.ireturn) 1 98 := ⟨by decide +kernel, rfl⟩
theorem d_B_confirm_0 : dc cd_B_confirm 0 (.aload_n 0) 1 1 := ⟨by decide +kernel, rfl⟩
theorem d_B_confirm_1 : dc cd_B_confirm 1 (.iload_n 1) 1 2 := ⟨by decide +kernel, rfl⟩
theorem d_B_confirm_2 : dc cd_B_confirm 2 (.invokevirtual 101) 3 5 := ⟨by decide +kernel, rfl⟩
theorem d_B_confirm_5 : dc cd_B_confirm 5 (.ifCond .ne 5) 3 8 := ⟨by decide +kernel, rfl⟩
theorem d_B_confirm_8 : dc cd_B_confirm 8 (.iconst (-1)) 1 9 := ⟨by decide +kernel, rfl⟩
theorem d_B_confirm_9 : dc cd_B_confirm 9 (.ireturn) 1 10 := ⟨by decide +kernel, rfl⟩
theorem d_B_confirm_10 : dc cd_B_confirm 10 (.iconst 1) 1 11 := ⟨by decide +kernel, rfl⟩
theorem d_B_confirm_11 : dc cd_B_confirm 11 (.aload_n 0) 1 12 := ⟨by decide +kernel, rfl⟩
theorem d_B_confirm_12 : dc cd_B_confirm 12 (.getfield 17) 3 15 := ⟨by decide +kernel, rfl⟩
theorem d_B_confirm_15 : dc cd_B_confirm 15 (.iload_n 1) 1 16 := ⟨by decide +kernel, rfl⟩
theorem d_B_confirm_16 : dc cd_B_confirm 16 (.aaload) 1 17 := ⟨by decide +kernel, rfl⟩
theorem d_B_confirm_17 : dc cd_B_confirm 17 (.getfield 83) 3 20 := ⟨by decide +kernel, rfl⟩
theorem d_B_confirm_20 : dc cd_B_confirm 20 (.isub) 1 21 := ⟨by decide +kernel, rfl⟩
theorem d_B_confirm_21 : dc cd_B_confirm 21 (.istore_n 3) 1 22 := ⟨by decide +kernel, rfl⟩
theorem d_B_confirm_22 : dc cd_B_confirm 22 (.aload_n 0) 1 23 := ⟨by decide +kernel, rfl⟩
theorem d_B_confirm_23 : dc cd_B_confirm 23 (.getfield 17) 3 26 := ⟨by decide +kernel, rfl⟩
theorem d_B_confirm_26 : dc cd_B_confirm 26 (.iload_n 1) 1 27 := ⟨by decide +kernel, rfl⟩
theorem d_B_confirm_27 : dc cd_B_confirm 27 (.aaload) 1 28 := ⟨by decide +kernel, rfl⟩
theorem d_B_confirm_28 : dc cd_B_confirm 28 (.getfield 89) 3 31 := ⟨by decide +kernel, rfl⟩
theorem d_B_confirm_31 : dc cd_B_confirm 31 (.iload_n 3) 1 32 := ⟨by decide +kernel, rfl⟩
theorem d_B_confirm_32 : dc cd_B_confirm 32 (.aaload) 1 33 := ⟨by decide +kernel, rfl⟩
theorem d_B_confirm_33 : dc cd_B_confirm 33 (.astore 4) 2 35 := ⟨by decide +kernel, rfl⟩
theorem d_B_confirm_35 : dc cd_B_confirm 35 (.aload_n 0) 1 36 := ⟨by decide +kernel, rfl⟩
theorem d_B_confirm_36 : dc cd_B_confirm 36 (.iload_n 1) 1 37 := ⟨by decide +kernel, rfl⟩
theorem d_B_confirm_37 : dc cd_B_confirm 37 (.iload_n 3) 1 38 := ⟨by decide +kernel, rfl⟩
theorem d_B_confirm_38 : dc cd_B_confirm 38 (.iconst 2) 1 39 := ⟨by decide +kernel, rfl⟩
theorem d_B_confirm_39 : dc cd_B_confirm 39 (.iconst 3) 1 40 := ⟨by decide +kernel, rfl⟩
theorem d_B_confirm_40 : dc cd_B_confirm 40 (.iload_n 2) 1 41 := ⟨by decide +kernel, rfl⟩
theorem d_B_confirm_41 : dc cd_B_confirm 41 (.invokevirtual 104) 3 44 := ⟨by decide +kernel, rfl⟩
theorem d_B_confirm_44 : dc cd_B_confirm 44 (.istore 5) 2 46 := ⟨by decide +kernel, rfl⟩
theorem d_B_confirm_46 : dc cd_B_confirm 46 (.iload 5) 2 48 := ⟨by decide +kernel, rfl⟩
theorem d_B_confirm_48 : dc cd_B_confirm 48 (.ifCond .eq 6) 3 51 := ⟨by decide +kernel, rfl⟩
theorem d_B_confirm_51 : dc cd_B_confirm 51 (.iload 5) 2 53 := ⟨by decide +kernel, rfl⟩
theorem d_B_confirm_53 : dc cd_B_confirm 53 (.ireturn) 1 54 := ⟨by decide +kernel, rfl⟩
theorem d_B_confirm_54 : dc cd_B_confirm 54 (.aload 4) 2 56 := ⟨by decide +kernel, rfl⟩
theorem d_B_confirm_56 : dc cd_B_confirm 56 (.iconst 3) 1 57 := ⟨by decide +kernel, rfl⟩
theorem d_B_confirm_57 : dc cd_B_confirm 57 (.aload_n 0) 1 58 := ⟨by decide +kernel, rfl⟩
theorem d_B_confirm_58 : dc cd_B_confirm 58 (.getfield 11) 3 61 := ⟨by decide +kernel, rfl⟩
theorem d_B_confirm_61 : dc cd_B_confirm 61 (.iload_n 3) 1 62 := ⟨by decide +kernel, rfl⟩
theorem d_B_confirm_62 : dc cd_B_confirm 62 (.aaload) 1 63 := ⟨by decide +kernel, rfl⟩
theorem d_B_confirm_63 : dc cd_B_confirm 63 (.getfield 37) 3 66 := ⟨by decide +kernel, rfl⟩
theorem d_B_confirm_66 : dc cd_B_confirm 66 (.invokevirtual 98) 3 69 := ⟨by decide +kernel, rfl⟩
theorem d_B_confirm_69 : dc cd_B_confirm 69 (.aload 4) 2 71 := ⟨by decide +kernel, rfl⟩
theorem d_B_confirm_71 : dc cd_B_confirm 71 (.getfield 111) 3 74 := ⟨by decide +kernel, rfl⟩
theorem d_B_confirm_74 : dc cd_B_confirm 74 (.ireturn) 1 75 := ⟨by decide +kernel, rfl⟩
theorem d_B_close_0 : dc cd_B_close 0 (.aload_n 0) 1 1 := ⟨by decide +kernel, rfl⟩
theorem d_B_close_1 : dc cd_B_close 1 (.iload_n 1) 1 2 := ⟨by decide +kernel, rfl⟩
theorem d_B_close_2 : dc cd_B_close 2 (.invokevirtual 101) 3 5 := ⟨by decide +kernel, rfl⟩
theorem d_B_close_5 : dc cd_B_close 5 (.ifCond .eq 10) 3 8 := ⟨by decide +kernel, rfl⟩
theorem d_B_close_8 : dc cd_B_close 8 (.iload_n 2) 1 9 := ⟨by decide +kernel, rfl⟩
theorem d_B_close_9 : dc cd_B_close 9 (.invokestatic 33) 3 12 := ⟨by decide +kernel, rfl⟩
theorem d_B_close_12 : dc cd_B_close 12 (.ifCond .ne 5) 3 15 := ⟨by decide +kernel, rfl⟩
theorem d_B_close_15 : dc cd_B_close 15 (.iconst (-1)) 1 16 := ⟨by decide +kernel, rfl⟩
theorem d_B_close_16 : dc cd_B_close 16 (.ireturn) 1 17 := ⟨by decide +kernel, rfl⟩
theorem d_B_close_17 : dc cd_B_close 17 (.aload_n 0) 1 18 := ⟨by decide +kernel, rfl⟩
theorem d_B_close_18 : dc cd_B_close 18 (.getfield 17) 3 21 := ⟨by decide +kernel, rfl⟩
theorem d_B_close_21 : dc cd_B_close 21 (.iload_n 1) 1 22 := ⟨by decide +kernel, rfl⟩
theorem d_B_close_22 : dc cd_B_close 22 (.aaload) 1 23 := ⟨by decide +kernel, rfl⟩
theorem d_B_close_23 : dc cd_B_close 23 (.getfield 89) 3 26 := ⟨by decide +kernel, rfl⟩
theorem d_B_close_26 : dc cd_B_close 26 (.iload_n 2) 1 27 := ⟨by decide +kernel, rfl⟩
theorem d_B_close_27 : dc cd_B_close 27 (.aaload) 1 28 := ⟨by decide +kernel, rfl⟩
theorem d_B_close_28 : dc cd_B_close 28 (.astore_n 3) 1 29 := ⟨by decide +kernel, rfl⟩
theorem d_B_close_29 : dc cd_B_close 29 (.aload_n 3) 1 30 := ⟨by decide +kernel, rfl⟩
theorem d_B_close_30 : dc cd_B_close 30 (.getfield 114) 3 33 := ⟨by decide +kernel, rfl⟩
theorem d_B_close_33 : dc cd_B_close 33 (.iconst 3) 1 34 := ⟨by decide +kernel, rfl⟩
theorem d_B_close_34 : dc cd_B_close 34 (.if_icmp .eq 6) 3 37 := ⟨by decide +kernel, rfl⟩
theorem d_B_close_37 : dc cd_B_close 37 (.bipush (-3)) 2 39 := ⟨by decide +kernel, rfl⟩
theorem d_B_close_39 : dc cd_B_close 39 (.ireturn) 1 40 := ⟨by decide +kernel, rfl⟩
theorem d_B_close_40 : dc cd_B_close 40 (.aload_n 3) 1 41 := ⟨by decide +kernel, rfl⟩
theorem d_B_close_41 : dc cd_B_close 41 (.iconst 4) 1 42 := ⟨by decide +kernel, rfl⟩
theorem d_B_close_42 : dc cd_B_close 42 (.aload_n 0) 1 43 := ⟨by decide +kernel, rfl⟩
theorem d_B_close_43 : dc cd_B_close 43 (.getfield 11) 3 46 := ⟨by decide +kernel, rfl⟩
end
section
theorem d_B_close_46 : dc cd_B_close 46 (.iload_n 2) 1 47 := ⟨by decide +kernel, rfl⟩
theorem d_B_close_47 : dc cd_B_close 47 (.aaload) 1 48 := ⟨by decide +kernel, rfl⟩
theorem d_B_close_48 : dc cd_B_close 48 (.getfield 37) 3 51 := ⟨by decide +kernel, rfl⟩
theorem d_B_close_51 : dc cd_B_close 51 (.invokevirtual 98) 3 54 := ⟨by decide +kernel, rfl⟩
theorem d_B_close_54 : dc cd_B_close 54 (.iconst 1) 1 55 := ⟨by decide +kernel, rfl⟩
theorem d_B_close_55 : dc cd_B_close 55 (.ireturn) 1 56 := ⟨by decide +kernel, rfl⟩
theorem d_B_shut_0 : dc cd_B_shut 0 (.aload_n 0) 1 1 := ⟨by decide +kernel, rfl⟩
theorem d_B_shut_1 : dc cd_B_shut 1 (.iload_n 1) 1 2 := ⟨by decide +kernel, rfl⟩
theorem d_B_shut_2 : dc cd_B_shut 2 (.invokevirtual 101) 3 5 := ⟨by decide +kernel, rfl⟩
theorem d_B_shut_5 : dc cd_B_shut 5 (.ifCond .eq 10) 3 8 := ⟨by decide +kernel, rfl⟩
theorem d_B_shut_8 : dc cd_B_shut 8 (.iload_n 2) 1 9 := ⟨by decide +kernel, rfl⟩
theorem d_B_shut_9 : dc cd_B_shut 9 (.invokestatic 33) 3 12 := ⟨by decide +kernel, rfl⟩
theorem d_B_shut_12 : dc cd_B_shut 12 (.ifCond .ne 5) 3 15 := ⟨by decide +kernel, rfl⟩
theorem d_B_shut_15 : dc cd_B_shut 15 (.iconst (-1)) 1 16 := ⟨by decide +kernel, rfl⟩
theorem d_B_shut_16 : dc cd_B_shut 16 (.ireturn) 1 17 := ⟨by decide +kernel, rfl⟩
theorem d_B_shut_17 : dc cd_B_shut 17 (.aload_n 0) 1 18 := ⟨by decide +kernel, rfl⟩
theorem d_B_shut_18 : dc cd_B_shut 18 (.iload_n 1) 1 19 := ⟨by decide +kernel, rfl⟩
theorem d_B_shut_19 : dc cd_B_shut 19 (.iload_n 2) 1 20 := ⟨by decide +kernel, rfl⟩
theorem d_B_shut_20 : dc cd_B_shut 20 (.iconst 3) 1 21 := ⟨by decide +kernel, rfl⟩
theorem d_B_shut_21 : dc cd_B_shut 21 (.iconst 4) 1 22 := ⟨by decide +kernel, rfl⟩
theorem d_B_shut_22 : dc cd_B_shut 22 (.iload_n 3) 1 23 := ⟨by decide +kernel, rfl⟩
theorem d_B_shut_23 : dc cd_B_shut 23 (.invokevirtual 104) 3 26 := ⟨by decide +kernel, rfl⟩
theorem d_B_shut_26 : dc cd_B_shut 26 (.istore 4) 2 28 := ⟨by decide +kernel, rfl⟩
theorem d_B_shut_28 : dc cd_B_shut 28 (.iload 4) 2 30 := ⟨by decide +kernel, rfl⟩
theorem d_B_shut_30 : dc cd_B_shut 30 (.ifCond .eq 6) 3 33 := ⟨by decide +kernel, rfl⟩
theorem d_B_shut_33 : dc cd_B_shut 33 (.iload 4) 2 35 := ⟨by decide +kernel, rfl⟩
theorem d_B_shut_35 : dc cd_B_shut 35 (.ireturn) 1 36 := ⟨by decide +kernel, rfl⟩
theorem d_B_shut_36 : dc cd_B_shut 36 (.aload_n 0) 1 37 := ⟨by decide +kernel, rfl⟩
theorem d_B_shut_37 : dc cd_B_shut 37 (.getfield 17) 3 40 := ⟨by decide +kernel, rfl⟩
theorem d_B_shut_40 : dc cd_B_shut 40 (.iload_n 1) 1 41 := ⟨by decide +kernel, rfl⟩
theorem d_B_shut_41 : dc cd_B_shut 41 (.aaload) 1 42 := ⟨by decide +kernel, rfl⟩
theorem d_B_shut_42 : dc cd_B_shut 42 (.getfield 89) 3 45 := ⟨by decide +kernel, rfl⟩
theorem d_B_shut_45 : dc cd_B_shut 45 (.iload_n 2) 1 46 := ⟨by decide +kernel, rfl⟩
theorem d_B_shut_46 : dc cd_B_shut 46 (.aaload) 1 47 := ⟨by decide +kernel, rfl⟩
theorem d_B_shut_47 : dc cd_B_shut 47 (.iconst 4) 1 48 := ⟨by decide +kernel, rfl⟩
theorem d_B_shut_48 : dc cd_B_shut 48 (.aload_n 0) 1 49 := ⟨by decide +kernel, rfl⟩
theorem d_B_shut_49 : dc cd_B_shut 49 (.getfield 11) 3 52 := ⟨by decide +kernel, rfl⟩
theorem d_B_shut_52 : dc cd_B_shut 52 (.iload_n 2) 1 53 := ⟨by decide +kernel, rfl⟩
theorem d_B_shut_53 : dc cd_B_shut 53 (.aaload) 1 54 := ⟨by decide +kernel, rfl⟩
theorem d_B_shut_54 : dc cd_B_shut 54 (.getfield 37) 3 57 := ⟨by decide +kernel, rfl⟩
theorem d_B_shut_57 : dc cd_B_shut 57 (.invokevirtual 98) 3 60 := ⟨by decide +kernel, rfl⟩
theorem d_B_shut_60 : dc cd_B_shut 60 (.iconst 1) 1 61 := ⟨by decide +kernel, rfl⟩
theorem d_B_shut_61 : dc cd_B_shut 61 (.ireturn) 1 62 := ⟨by decide +kernel, rfl⟩
theorem d_B_send_0 : dc cd_B_send 0 (.aload_n 0) 1 1 := ⟨by decide +kernel, rfl⟩
theorem d_B_send_1 : dc cd_B_send 1 (.iload_n 1) 1 2 := ⟨by decide +kernel, rfl⟩
theorem d_B_send_2 : dc cd_B_send 2 (.invokevirtual 101) 3 5 := ⟨by decide +kernel, rfl⟩
theorem d_B_send_5 : dc cd_B_send 5 (.ifCond .eq 25) 3 8 := ⟨by decide +kernel, rfl⟩
theorem d_B_send_8 : dc cd_B_send 8 (.iload_n 2) 1 9 := ⟨by decide +kernel, rfl⟩
theorem d_B_send_9 : dc cd_B_send 9 (.invokestatic 33) 3 12 := ⟨by decide +kernel, rfl⟩
theorem d_B_send_12 : dc cd_B_send 12 (.ifCond .eq 18) 3 15 := ⟨by decide +kernel, rfl⟩
theorem d_B_send_15 : dc cd_B_send 15 (.iload_n 3) 1 16 := ⟨by decide +kernel, rfl⟩
theorem d_B_send_16 : dc cd_B_send 16 (.invokestatic 117) 3 19 := ⟨by decide +kernel, rfl⟩
theorem d_B_send_19 : dc cd_B_send 19 (.ifCond .eq 11) 3 22 := ⟨by decide +kernel, rfl⟩
theorem d_B_send_22 : dc cd_B_send 22 (.iload 5) 2 24 := ⟨by decide +kernel, rfl⟩
theorem d_B_send_24 : dc cd_B_send 24 (.invokestatic 120) 3 27 := ⟨by decide +kernel, rfl⟩
theorem d_B_send_27 : dc cd_B_send 27 (.ifCond .ne 5) 3 30 := ⟨by decide +kernel, rfl⟩
theorem d_B_send_30 : dc cd_B_send 30 (.iconst (-1)) 1 31 := ⟨by decide +kernel, rfl⟩
theorem d_B_send_31 : dc cd_B_send 31 (.ireturn) 1 32 := ⟨by decide +kernel, rfl⟩
theorem d_B_send_32 : dc cd_B_send 32 (.iload 4) 2 34 := ⟨by decide +kernel, rfl⟩
theorem d_B_send_34 : dc cd_B_send 34 (.iconst 0) 1 35 := ⟨by decide +kernel, rfl⟩
theorem d_B_send_35 : dc cd_B_send 35 (.bipush 7) 2 37 := ⟨by decide +kernel, rfl⟩
theorem d_B_send_37 : dc cd_B_send 37 (.invokestatic 41) 3 40 := ⟨by decide +kernel, rfl⟩
theorem d_B_send_40 : dc cd_B_send 40 (.ifCond .eq 27) 3 43 := ⟨by decide +kernel, rfl⟩
theorem d_B_send_43 : dc cd_B_send 43 (.iload 6) 2 45 := ⟨by decide +kernel, rfl⟩
theorem d_B_send_45 : dc cd_B_send 45 (.iconst 1) 1 46 := ⟨by decide +kernel, rfl⟩
theorem d_B_send_46 : dc cd_B_send 46 (.sipush 1000) 3 49 := ⟨by decide +kernel, rfl⟩
theorem d_B_send_49 : dc cd_B_send 49 (.invokestatic 41) 3 52 := ⟨by decide +kernel, rfl⟩
theorem d_B_send_52 : dc cd_B_send 52 (.ifCond .eq 15) 3 55 := ⟨by decide +kernel, rfl⟩
theorem d_B_send_55 : dc cd_B_send 55 (.iload 7) 2 57 := ⟨by decide +kernel, rfl⟩
theorem d_B_send_57 : dc cd_B_send 57 (.iconst 1) 1 58 := ⟨by decide +kernel, rfl⟩
theorem d_B_send_58 : dc cd_B_send 58 (.sipush 200) 3 61 := ⟨by decide +kernel, rfl⟩
theorem d_B_send_61 : dc cd_B_send 61 (.invokestatic 41) 3 64 := ⟨by decide +kernel, rfl⟩
theorem d_B_send_64 : dc cd_B_send 64 (.ifCond .ne 6) 3 67 := ⟨by decide +kernel, rfl⟩
theorem d_B_send_67 : dc cd_B_send 67 (.bipush (-2)) 2 69 := ⟨by decide +kernel, rfl⟩
theorem d_B_send_69 : dc cd_B_send 69 (.ireturn) 1 70 := ⟨by decide +kernel, rfl⟩
theorem d_B_send_70 : dc cd_B_send 70 (.aload_n 0) 1 71 := ⟨by decide +kernel, rfl⟩
theorem d_B_send_71 : dc cd_B_send 71 (.getfield 17) 3 74 := ⟨by decide +kernel, rfl⟩
theorem d_B_send_74 : dc cd_B_send 74 (.iload_n 1) 1 75 := ⟨by decide +kernel, rfl⟩
theorem d_B_send_75 : dc cd_B_send 75 (.aaload) 1 76 := ⟨by decide +kernel, rfl⟩
theorem d_B_send_76 : dc cd_B_send 76 (.getfield 89) 3 79 := ⟨by decide +kernel, rfl⟩
theorem d_B_send_79 : dc cd_B_send 79 (.iload_n 2) 1 80 := ⟨by decide +kernel, rfl⟩
theorem d_B_send_80 : dc cd_B_send 80 (.aaload) 1 81 := ⟨by decide +kernel, rfl⟩
theorem d_B_send_81 : dc cd_B_send 81 (.getfield 114) 3 84 := ⟨by decide +kernel, rfl⟩
theorem d_B_send_84 : dc cd_B_send 84 (.iconst 3) 1 85 := ⟨by decide +kernel, rfl⟩
theorem d_B_send_85 : dc cd_B_send 85 (.if_icmp .ne 18) 3 88 := ⟨by decide +kernel, rfl⟩
theorem d_B_send_88 : dc cd_B_send 88 (.aload_n 0) 1 89 := ⟨by decide +kernel, rfl⟩
theorem d_B_send_89 : dc cd_B_send 89 (.iload_n 1) 1 90 := ⟨by decide +kernel, rfl⟩
theorem d_B_send_90 : dc cd_B_send 90 (.iload_n 2) 1 91 := ⟨by decide +kernel, rfl⟩
theorem d_B_send_91 : dc cd_B_send 91 (.iload 5) 2 93 := ⟨by decide +kernel, rfl⟩
theorem d_B_send_93 : dc cd_B_send 93 (.invokevirtual 123) 3 96 := ⟨by decide +kernel, rfl⟩
theorem d_B_send_96 : dc cd_B_send 96 (.iload_n 3) 1 97 := ⟨by decide +kernel, rfl⟩
theorem d_B_send_97 : dc cd_B_send 97 (.iaload) 1 98 := ⟨by decide +kernel, rfl⟩
theorem d_B_send_98 : dc cd_B_send 98 (.iload 6) 2 100 := ⟨by decide +kernel, rfl⟩
theorem d_B_send_100 : dc cd_B_send 100 (.if_icmp .ge 6) 3 103 := ⟨by decide +kernel, rfl⟩
theorem d_B_send_103 : dc cd_B_send 103 (.bipush (-3)) 2 105 := ⟨by decide +kernel, rfl⟩
theorem d_B_send_105 : dc cd_B_send 105 (.ireturn) 1 106 := ⟨by decide +kernel, rfl⟩
theorem d_B_send_106 : dc cd_B_send 106 (.aload_n 0) 1 107 := ⟨by decide +kernel, rfl⟩
theorem d_B_send_107 : dc cd_B_send 107 (.getfield 11) 3 110 := ⟨by decide +kernel, rfl⟩
theorem d_B_send_110 : dc cd_B_send 110 (.iload_n 2) 1 111 := ⟨by decide +kernel, rfl⟩
theorem d_B_send_111 : dc cd_B_send 111 (.aaload) 1 112 := ⟨by decide +kernel, rfl⟩
theorem d_B_send_112 : dc cd_B_send 112 (.getfield 45) 3 115 := ⟨by decide +kernel, rfl⟩
theorem d_B_send_115 : dc cd_B_send 115 (.astore 8) 2 117 := ⟨by decide +kernel, rfl⟩
theorem d_B_send_117 : dc cd_B_send 117 (.aload 8) 2 119 := ⟨by decide +kernel, rfl⟩
theorem d_B_send_119 : dc cd_B_send 119 (.getfield 59) 3 122 := ⟨by decide +kernel, rfl⟩
theorem d_B_send_122 : dc cd_B_send 122 (.ifCond .eq 6) 3 125 := ⟨by decide +kernel, rfl⟩
theorem d_B_send_125 : dc cd_B_send 125 (.bipush (-4)) 2 127 := ⟨by decide +kernel, rfl⟩
theorem d_B_send_127 : dc cd_B_send 127 (.ireturn) 1 128 := ⟨by decide +kernel, rfl⟩
theorem d_B_send_128 : dc cd_B_send 128 (.aload 8) 2 130 := ⟨by decide +kernel, rfl⟩
theorem d_B_send_130 : dc cd_B_send 130 (.getfield 77) 3 133 := ⟨by decide +kernel, rfl⟩
theorem d_B_send_133 : dc cd_B_send 133 (.iload 7) 2 135 := ⟨by decide +kernel, rfl⟩
theorem d_B_send_135 : dc cd_B_send 135 (.if_icmp .lt 6) 3 138 := ⟨by decide +kernel, rfl⟩
theorem d_B_send_138 : dc cd_B_send 138 (.bipush (-7)) 2 140 := ⟨by decide +kernel, rfl⟩
theorem d_B_send_140 : dc cd_B_send 140 (.ireturn) 1 141 := ⟨by decide +kernel, rfl⟩
theorem d_B_send_141 : dc cd_B_send 141 (.aload_n 0) 1 142 := ⟨by decide +kernel, rfl⟩
theorem d_B_send_142 : dc cd_B_send 142 (.getfield 127) 3 145 := ⟨by decide +kernel, rfl⟩
theorem d_B_send_145 : dc cd_B_send 145 (.bipush 60) 2 147 := ⟨by decide +kernel, rfl⟩
theorem d_B_send_147 : dc cd_B_send 147 (.if_icmp .lt 6) 3 150 := ⟨by decide +kernel, rfl⟩
theorem d_B_send_150 : dc cd_B_send 150 (.bipush (-10)) 2 152 := ⟨by decide +kernel, rfl⟩
theorem d_B_send_152 : dc cd_B_send 152 (.ireturn) 1 153 := ⟨by decide +kernel, rfl⟩
theorem d_B_send_153 : dc cd_B_send 153 (.aload_n 0) 1 154 := ⟨by decide +kernel, rfl⟩
theorem d_B_send_154 : dc cd_B_send 154 (.iload_n 1) 1 155 := ⟨by decide +kernel, rfl⟩
theorem d_B_send_155 : dc cd_B_send 155 (.iload_n 2) 1 156 := ⟨by decide +kernel, rfl⟩
theorem d_B_send_156 : dc cd_B_send 156 (.iload_n 3) 1 157 := ⟨by decide +kernel, rfl⟩
theorem d_B_send_157 : dc cd_B_send 157 (.iload 5) 2 159 := ⟨by decide +kernel, rfl⟩
theorem d_B_send_159 : dc cd_B_send 159 (.iload 6) 2 161 := ⟨by decide +kernel, rfl⟩
theorem d_B_send_161 : dc cd_B_send 161 (.invokevirtual 130) 3 164 := ⟨by decide +kernel, rfl⟩
theorem d_B_send_164 : dc cd_B_send 164 (.aload_n 0) 1 165 := ⟨by decide +kernel, rfl⟩
theorem d_B_send_165 : dc cd_B_send 165 (.iload_n 1) 1 166 := ⟨by decide +kernel, rfl⟩
theorem d_B_send_166 : dc cd_B_send 166 (.iload_n 2) 1 167 := ⟨by decide +kernel, rfl⟩
theorem d_B_send_167 : dc cd_B_send 167 (.iload_n 3) 1 168 := ⟨by decide +kernel, rfl⟩
theorem d_B_send_168 : dc cd_B_send 168 (.iload 4) 2 170 := ⟨by decide +kernel, rfl⟩
theorem d_B_send_170 : dc cd_B_send 170 (.iload 5) 2 172 := ⟨by decide +kernel, rfl⟩
theorem d_B_send_172 : dc cd_B_send 172 (.iload 6) 2 174 := ⟨by decide +kernel, rfl⟩
theorem d_B_send_174 : dc cd_B_send 174 (.iload 7) 2 176 := ⟨by decide +kernel, rfl⟩
theorem d_B_send_176 : dc cd_B_send 176 (.invokevirtual 134) 3 179 := ⟨by decide +kernel, rfl⟩
theorem d_B_send_179 : dc cd_B_send 179 (.aload_n 0) 1 180 := ⟨by decide +kernel, rfl⟩
theorem d_B_send_180 : dc cd_B_send 180 (.getfield 127) 3 183 := ⟨by decide +kernel, rfl⟩
theorem d_B_send_183 : dc cd_B_send 183 (.iconst 1) 1 184 := ⟨by decide +kernel, rfl⟩
theorem d_B_send_184 : dc cd_B_send 184 (.isub) 1 185 := ⟨by decide +kernel, rfl⟩
theorem d_B_send_185 : dc cd_B_send 185 (.ireturn) 1 186 := ⟨by decide +kernel, rfl⟩
theorem d_B_receive_0 : dc cd_B_receive 0 (.aload_n 0) 1 1 := ⟨by decide +kernel, rfl⟩
theorem d_B_receive_1 : dc cd_B_receive 1 (.iload_n 1) 1 2 := ⟨by decide +kernel, rfl⟩
theorem d_B_receive_2 : dc cd_B_receive 2 (.invokevirtual 138) 3 5 := ⟨by decide +kernel, rfl⟩
theorem d_B_receive_5 : dc cd_B_receive 5 (.ifCond .ne 5) 3 8 := ⟨by decide +kernel, rfl⟩
theorem d_B_receive_8 : dc cd_B_receive 8 (.iconst (-1)) 1 9 := ⟨by decide +kernel, rfl⟩
theorem d_B_receive_9 : dc cd_B_receive 9 (.ireturn) 1 10 := ⟨by decide +kernel, rfl⟩
theorem d_B_receive_10 : dc cd_B_receive 10 (.aload_n 0) 1 11 := ⟨by decide +kernel, rfl⟩
theorem d_B_receive_11 : dc cd_B_receive 11 (.getfield 23) 3 14 := ⟨by decide +kernel, rfl⟩
theorem d_B_receive_14 : dc cd_B_receive 14 (.iload_n 1) 1 15 := ⟨by decide +kernel, rfl⟩
theorem d_B_receive_15 : dc cd_B_receive 15 (.aaload) 1 16 := ⟨by decide +kernel, rfl⟩
theorem d_B_receive_16 : dc cd_B_receive 16 (.astore_n 3) 1 17 := ⟨by decide +kernel, rfl⟩
theorem d_B_receive_17 : dc cd_B_receive 17 (.iconst 1) 1 18 := ⟨by decide +kernel, rfl⟩
theorem d_B_receive_18 : dc cd_B_receive 18 (.aload_n 3) 1 19 := ⟨by decide +kernel, rfl⟩
theorem d_B_receive_19 : dc cd_B_receive 19 (.getfield 141) 3 22 := ⟨by decide +kernel, rfl⟩
theorem d_B_receive_22 : dc cd_B_receive 22 (.isub) 1 23 := ⟨by decide +kernel, rfl⟩
theorem d_B_receive_23 : dc cd_B_receive 23 (.istore 4) 2 25 := ⟨by decide +kernel, rfl⟩
theorem d_B_receive_25 : dc cd_B_receive 25 (.aload_n 0) 1 26 := ⟨by decide +kernel, rfl⟩
theorem d_B_receive_26 : dc cd_B_receive 26 (.getfield 17) 3 29 := ⟨by decide +kernel, rfl⟩
theorem d_B_receive_29 : dc cd_B_receive 29 (.aload_n 3) 1 30 := ⟨by decide +kernel, rfl⟩
theorem d_B_receive_30 : dc cd_B_receive 30 (.getfield 144) 3 33 := ⟨by decide +kernel, rfl⟩
theorem d_B_receive_33 : dc cd_B_receive 33 (.aaload) 1 34 := ⟨by decide +kernel, rfl⟩
theorem d_B_receive_34 : dc cd_B_receive 34 (.getfield 89) 3 37 := ⟨by decide +kernel, rfl⟩
theorem d_B_receive_37 : dc cd_B_receive 37 (.iload 4) 2 39 := ⟨by decide +kernel, rfl⟩
theorem d_B_receive_39 : dc cd_B_receive 39 (.aaload) 1 40 := ⟨by decide +kernel, rfl⟩
theorem d_B_receive_40 : dc cd_B_receive 40 (.astore 5) 2 42 := ⟨by decide +kernel, rfl⟩
theorem d_B_receive_42 : dc cd_B_receive 42 (.aload 5) 2 44 := ⟨by decide +kernel, rfl⟩
theorem d_B_receive_44 : dc cd_B_receive 44 (.getfield 114) 3 47 := ⟨by decide +kernel, rfl⟩
theorem d_B_receive_47 : dc cd_B_receive 47 (.iconst 3) 1 48 := ⟨by decide +kernel, rfl⟩
theorem d_B_receive_48 : dc cd_B_receive 48 (.if_icmp .ne 10) 3 51 := ⟨by decide +kernel, rfl⟩
theorem d_B_receive_51 : dc cd_B_receive 51 (.aload_n 3) 1 52 := ⟨by decide +kernel, rfl⟩
theorem d_B_receive_52 : dc cd_B_receive 52 (.getfield 147) 3 55 := ⟨by decide +kernel, rfl⟩
theorem d_B_receive_55 : dc cd_B_receive 55 (.ifCond .eq 6) 3 58 := ⟨by decide +kernel, rfl⟩
theorem d_B_receive_58 : dc cd_B_receive 58 (.bipush (-3)) 2 60 := ⟨by decide +kernel, rfl⟩
theorem d_B_receive_60 : dc cd_B_receive 60 (.ireturn) 1 61 := ⟨by decide +kernel, rfl⟩
theorem d_B_receive_61 : dc cd_B_receive 61 (.aload_n 0) 1 62 := ⟨by decide +kernel, rfl⟩
theorem d_B_receive_62 : dc cd_B_receive 62 (.getfield 11) 3 65 := ⟨by decide +kernel, rfl⟩
theorem d_B_receive_65 : dc cd_B_receive 65 (.iload 4) 2 67 := ⟨by decide +kernel, rfl⟩
theorem d_B_receive_67 : dc cd_B_receive 67 (.aaload) 1 68 := ⟨by decide +kernel, rfl⟩
theorem d_B_receive_68 : dc cd_B_receive 68 (.getfield 45) 3 71 := ⟨by decide +kernel, rfl⟩
theorem d_B_receive_71 : dc cd_B_receive 71 (.iload_n 2) 1 72 := ⟨by decide +kernel, rfl⟩
theorem d_B_receive_72 : dc cd_B_receive 72 (.invokevirtual 150) 3 75 := ⟨by decide +kernel, rfl⟩
theorem d_B_receive_75 : dc cd_B_receive 75 (.istore 6) 2 77 := ⟨by decide +kernel, rfl⟩
theorem d_B_receive_77 : dc cd_B_receive 77 (.iload 6) 2 79 := ⟨by decide +kernel, rfl⟩
theorem d_B_receive_79 : dc cd_B_receive 79 (.ifCond .eq 6) 3 82 := ⟨by decide +kernel, rfl⟩
theorem d_B_receive_82 : dc cd_B_receive 82 (.iload 6) 2 84 := ⟨by decide +kernel, rfl⟩
theorem d_B_receive_84 : dc cd_B_receive 84 (.ireturn) 1 85 := ⟨by decide +kernel, rfl⟩
theorem d_B_receive_85 : dc cd_B_receive 85 (.aload_n 3) 1 86 := ⟨by decide +kernel, rfl⟩
theorem d_B_receive_86 : dc cd_B_receive 86 (.iload_n 2) 1 87 := ⟨by decide +kernel, rfl⟩
theorem d_B_receive_87 : dc cd_B_receive 87 (.invokevirtual 153) 3 90 := ⟨by decide +kernel, rfl⟩
theorem d_B_receive_90 : dc cd_B_receive 90 (.ifCond .ne 6) 3 93 := ⟨by decide +kernel, rfl⟩
theorem d_B_receive_93 : dc cd_B_receive 93 (.bipush (-6)) 2 95 := ⟨by decide +kernel, rfl⟩
theorem d_B_receive_95 : dc cd_B_receive 95 (.ireturn) 1 96 := ⟨by decide +kernel, rfl⟩
theorem d_B_receive_96 : dc cd_B_receive 96 (.aload_n 0) 1 97 := ⟨by decide +kernel, rfl⟩
theorem d_B_receive_97 : dc cd_B_receive 97 (.getfield 11) 3 100 := ⟨by decide +kernel, rfl⟩
theorem d_B_receive_100 : dc cd_B_receive 100 (.iload 4) 2 102 := ⟨by decide +kernel, rfl⟩
theorem d_B_receive_102 : dc cd_B_receive 102 (.aaload) 1 103 := ⟨by decide +kernel, rfl⟩
theorem d_B_receive_103 : dc cd_B_receive 103 (.getfield 37) 3 106 := ⟨by decide +kernel, rfl⟩
theorem d_B_receive_106 : dc cd_B_receive 106 (.aload_n 3) 1 107 := ⟨by decide +kernel, rfl⟩
theorem d_B_receive_107 : dc cd_B_receive 107 (.getfield 156) 3 110 := ⟨by decide +kernel, rfl⟩
theorem d_B_receive_110 : dc cd_B_receive 110 (.if_icmp .lt 6) 3 113 := ⟨by decide +kernel, rfl⟩
theorem d_B_receive_113 : dc cd_B_receive 113 (.bipush (-7)) 2 115 := ⟨by decide +kernel, rfl⟩
theorem d_B_receive_115 : dc cd_B_receive 115 (.ireturn) 1 116 := ⟨by decide +kernel, rfl⟩
theorem d_B_receive_116 : dc cd_B_receive 116 (.aload_n 0) 1 117 := ⟨by decide +kernel, rfl⟩
theorem d_B_receive_117 : dc cd_B_receive 117 (.getfield 17) 3 120 := ⟨by decide +kernel, rfl⟩
theorem d_B_receive_120 : dc cd_B_receive 120 (.aload_n 3) 1 121 := ⟨by decide +kernel, rfl⟩
theorem d_B_receive_121 : dc cd_B_receive 121 (.getfield 144) 3 124 := ⟨by decide +kernel, rfl⟩
theorem d_B_receive_124 : dc cd_B_receive 124 (.aaload) 1 125 := ⟨by decide +kernel, rfl⟩
theorem d_B_receive_125 : dc cd_B_receive 125 (.getfield 86) 3 128 := ⟨by decide +kernel, rfl⟩
theorem d_B_receive_128 : dc cd_B_receive 128 (.ifCond .eq 14) 3 131 := ⟨by decide +kernel, rfl⟩
theorem d_B_receive_131 : dc cd_B_receive 131 (.aload_n 0) 1 132 := ⟨by decide +kernel, rfl⟩
theorem d_B_receive_132 : dc cd_B_receive 132 (.iload_n 1) 1 133 := ⟨by decide +kernel, rfl⟩
theorem d_B_receive_133 : dc cd_B_receive 133 (.invokevirtual 159) 3 136 := ⟨by decide +kernel, rfl⟩
theorem d_B_receive_136 : dc cd_B_receive 136 (.ifCond .ne 6) 3 139 := ⟨by decide +kernel, rfl⟩
theorem d_B_receive_139 : dc cd_B_receive 139 (.bipush (-8)) 2 141 := ⟨by decide +kernel, rfl⟩
theorem d_B_receive_141 : dc cd_B_receive 141 (.ireturn) 1 142 := ⟨by decide +kernel, rfl⟩
theorem d_B_receive_142 : dc cd_B_receive 142 (.aload_n 3) 1 143 := ⟨by decide +kernel, rfl⟩
theorem d_B_receive_143 : dc cd_B_receive 143 (.getfield 162) 3 146 := ⟨by decide +kernel, rfl⟩
theorem d_B_receive_146 : dc cd_B_receive 146 (.invokestatic 117) 3 149 := ⟨by decide +kernel, rfl⟩
theorem d_B_receive_149 : dc cd_B_receive 149 (.istore 7) 2 151 := ⟨by decide +kernel, rfl⟩
theorem d_B_receive_151 : dc cd_B_receive 151 (.iload 7) 2 153 := ⟨by decide +kernel, rfl⟩
theorem d_B_receive_153 : dc cd_B_receive 153 (.ifCond .eq 25) 3 156 := ⟨by decide +kernel, rfl⟩
theorem d_B_receive_156 : dc cd_B_receive 156 (.aload_n 0) 1 157 := ⟨by decide +kernel, rfl⟩
theorem d_B_receive_157 : dc cd_B_receive 157 (.aload_n 3) 1 158 := ⟨by decide +kernel, rfl⟩
theorem d_B_receive_158 : dc cd_B_receive 158 (.getfield 144) 3 161 := ⟨by decide +kernel, rfl⟩
theorem d_B_receive_161 : dc cd_B_receive 161 (.iload 4) 2 163 := ⟨by decide +kernel, rfl⟩
theorem d_B_receive_163 : dc cd_B_receive 163 (.aload_n 3) 1 164 := ⟨by decide +kernel, rfl⟩
theorem d_B_receive_164 : dc cd_B_receive 164 (.getfield 162) 3 167 := ⟨by decide +kernel, rfl⟩
theorem d_B_receive_167 : dc cd_B_receive 167 (.aload_n 3) 1 168 := ⟨by decide +kernel, rfl⟩
theorem d_B_receive_168 : dc cd_B_receive 168 (.getfield 165) 3 171 := ⟨by decide +kernel, rfl⟩
theorem d_B_receive_171 : dc cd_B_receive 171 (.aload_n 3) 1 172 := ⟨by decide +kernel, rfl⟩
theorem d_B_receive_172 : dc cd_B_receive 172 (.getfield 168) 3 175 := ⟨by decide +kernel, rfl⟩
theorem d_B_receive_175 : dc cd_B_receive 175 (.invokevirtual 171) 3 178 := ⟨by decide +kernel, rfl⟩
theorem d_B_receive_178 : dc cd_B_receive 178 (.aload 5) 2 180 := ⟨by decide +kernel, rfl⟩
theorem d_B_receive_180 : dc cd_B_receive 180 (.dup) 1 181 := ⟨by decide +kernel, rfl⟩
theorem d_B_receive_181 : dc cd_B_receive 181 (.getfield 174) 3 184 := ⟨by decide +kernel, rfl⟩
theorem d_B_receive_184 : dc cd_B_receive 184 (.iconst 1) 1 185 := ⟨by decide +kernel, rfl⟩
theorem d_B_receive_185 : dc cd_B_receive 185 (.iadd) 1 186 := ⟨by decide +kernel, rfl⟩
theorem d_B_receive_186 : dc cd_B_receive 186 (.putfield 174) 3 189 := ⟨by decide +kernel, rfl⟩
theorem d_B_receive_189 : dc cd_B_receive 189 (.aload_n 3) 1 190 := ⟨by decide +kernel, rfl⟩
theorem d_B_receive_190 : dc cd_B_receive 190 (.iload 7) 2 192 := ⟨by decide +kernel, rfl⟩
theorem d_B_receive_192 : dc cd_B_receive 192 (.ifCond .eq 7) 3 195 := ⟨by decide +kernel, rfl⟩
theorem d_B_receive_195 : dc cd_B_receive 195 (.iconst 1) 1 196 := ⟨by decide +kernel, rfl⟩
theorem d_B_receive_196 : dc cd_B_receive 196 (.goto 4) 3 199 := ⟨by decide +kernel, rfl⟩
theorem d_B_receive_199 : dc cd_B_receive 199 (.iconst 2) 1 200 := ⟨by decide +kernel, rfl⟩
theorem d_B_receive_200 : dc cd_B_receive 200 (.putfield 147) 3 203 := ⟨by decide +kernel, rfl⟩
theorem d_B_receive_203 : dc cd_B_receive 203 (.aload_n 3) 1 204 := ⟨by decide +kernel, rfl⟩
theorem d_B_receive_204 : dc cd_B_receive 204 (.aload_n 0) 1 205 := ⟨by decide +kernel, rfl⟩
theorem d_B_receive_205 : dc cd_B_receive 205 (.getfield 11) 3 208 := ⟨by decide +kernel, rfl⟩
theorem d_B_receive_208 : dc cd_B_receive 208 (.iload 4) 2 210 := ⟨by decide +kernel, rfl⟩
theorem d_B_receive_210 : dc cd_B_receive 210 (.aaload) 1 211 := ⟨by decide +kernel, rfl⟩
theorem d_B_receive_211 : dc cd_B_receive 211 (.getfield 37) 3 214 := ⟨by decide +kernel, rfl⟩
theorem d_B_receive_214 : dc cd_B_receive 214 (.putfield 177) 3 217 := ⟨by decide +kernel, rfl⟩
theorem d_B_receive_217 : dc cd_B_receive 217 (.iload 7) 2 219 := ⟨by decide +kernel, rfl⟩
theorem d_B_receive_219 : dc cd_B_receive 219 (.invokestatic 73) 3 222 := ⟨by decide +kernel, rfl⟩
theorem d_B_receive_222 : dc cd_B_receive 222 (.ireturn) 1 223 := ⟨by decide +kernel, rfl⟩
theorem d_B_acknowledge_0 : dc cd_B_acknowledge 0 (.aload_n 0) 1 1 := ⟨by decide +kernel, rfl⟩
theorem d_B_acknowledge_1 : dc cd_B_acknowledge 1 (.iload_n 1) 1 2 := ⟨by decide +kernel, rfl⟩
theorem d_B_acknowledge_2 : dc cd_B_acknowledge 2 (.invokevirtual 138) 3 5 := ⟨by decide +kernel, rfl⟩
theorem d_B_acknowledge_5 : dc cd_B_acknowledge 5 (.ifCond .ne 5) 3 8 := ⟨by decide +kernel, rfl⟩
theorem d_B_acknowledge_8 : dc cd_B_acknowledge 8 (.iconst (-1)) 1 9 := ⟨by decide +kernel, rfl⟩
theorem d_B_acknowledge_9 : dc cd_B_acknowledge 9 (.ireturn) 1 10 := ⟨by decide +kernel, rfl⟩
theorem d_B_acknowledge_10 : dc cd_B_acknowledge 10 (.aload_n 0) 1 11 := ⟨by decide +kernel, rfl⟩
theorem d_B_acknowledge_11 : dc cd_B_acknowledge 11 (.getfield 23) 3 14 := ⟨by decide +kernel, rfl⟩
theorem d_B_acknowledge_14 : dc cd_B_acknowledge 14 (.iload_n 1) 1 15 := ⟨by decide +kernel, rfl⟩
theorem d_B_acknowledge_15 : dc cd_B_acknowledge 15 (.aaload) 1 16 := ⟨by decide +kernel, rfl⟩
theorem d_B_acknowledge_16 : dc cd_B_acknowledge 16 (.astore_n 3) 1 17 := ⟨by decide +kernel, rfl⟩
theorem d_B_acknowledge_17 : dc cd_B_acknowledge 17 (.aload_n 0) 1 18 := ⟨by decide +kernel, rfl⟩
theorem d_B_acknowledge_18 : dc cd_B_acknowledge 18 (.aload_n 3) 1 19 := ⟨by decide +kernel, rfl⟩
theorem d_B_acknowledge_19 : dc cd_B_acknowledge 19 (.iload_n 2) 1 20 := ⟨by decide +kernel, rfl⟩
theorem d_B_acknowledge_20 : dc cd_B_acknowledge 20 (.invokevirtual 180) 3 23 := ⟨by decide +kernel, rfl⟩
theorem d_B_acknowledge_23 : dc cd_B_acknowledge 23 (.istore 4) 2 25 := ⟨by decide +kernel, rfl⟩
theorem d_B_acknowledge_25 : dc cd_B_acknowledge 25 (.iload 4) 2 27 := ⟨by decide +kernel, rfl⟩
theorem d_B_acknowledge_27 : dc cd_B_acknowledge 27 (.ifCond .eq 6) 3 30 := ⟨by decide +kernel, rfl⟩
theorem d_B_acknowledge_30 : dc cd_B_acknowledge 30 (.iload 4) 2 32 := ⟨by decide +kernel, rfl⟩
theorem d_B_acknowledge_32 : dc cd_B_acknowledge 32 (.ireturn) 1 33 := ⟨by decide +kernel, rfl⟩
theorem d_B_acknowledge_33 : dc cd_B_acknowledge 33 (.aload_n 3) 1 34 := ⟨by decide +kernel, rfl⟩
theorem d_B_acknowledge_34 : dc cd_B_acknowledge 34 (.iload_n 2) 1 35 := ⟨by decide +kernel, rfl⟩
theorem d_B_acknowledge_35 : dc cd_B_acknowledge 35 (.invokevirtual 184) 3 38 := ⟨by decide +kernel, rfl⟩
theorem d_B_acknowledge_38 : dc cd_B_acknowledge 38 (.ifCond .ne 6) 3 41 := ⟨by decide +kernel, rfl⟩
theorem d_B_acknowledge_41 : dc cd_B_acknowledge 41 (.bipush (-6)) 2 43 := ⟨by decide +kernel, rfl⟩
theorem d_B_acknowledge_43 : dc cd_B_acknowledge 43 (.ireturn) 1 44 := ⟨by decide +kernel, rfl⟩
theorem d_B_acknowledge_44 : dc cd_B_acknowledge 44 (.aload_n 0) 1 45 := ⟨by decide +kernel, rfl⟩
theorem d_B_acknowledge_45 : dc cd_B_acknowledge 45 (.getfield 17) 3 48 := ⟨by decide +kernel, rfl⟩
theorem d_B_acknowledge_48 : dc cd_B_acknowledge 48 (.aload_n 3) 1 49 := ⟨by decide +kernel, rfl⟩
theorem d_B_acknowledge_49 : dc cd_B_acknowledge 49 (.getfield 144) 3 52 := ⟨by decide +kernel, rfl⟩
theorem d_B_acknowledge_52 : dc cd_B_acknowledge 52 (.aaload) 1 53 := ⟨by decide +kernel, rfl⟩
theorem d_B_acknowledge_53 : dc cd_B_acknowledge 53 (.getfield 86) 3 56 := ⟨by decide +kernel, rfl⟩
theorem d_B_acknowledge_56 : dc cd_B_acknowledge 56 (.ifCond .eq 14) 3 59 := ⟨by decide +kernel, rfl⟩
theorem d_B_acknowledge_59 : dc cd_B_acknowledge 59 (.aload_n 0) 1 60 := ⟨by decide +kernel, rfl⟩
theorem d_B_acknowledge_60 : dc cd_B_acknowledge 60 (.iload_n 1) 1 61 := ⟨by decide +kernel, rfl⟩
theorem d_B_acknowledge_61 : dc cd_B_acknowledge 61 (.invokevirtual 187) 3 64 := ⟨by decide +kernel, rfl⟩
theorem d_B_acknowledge_64 : dc cd_B_acknowledge 64 (.ifCond .eq 6) 3 67 := ⟨by decide +kernel, rfl⟩
theorem d_B_acknowledge_67 : dc cd_B_acknowledge 67 (.bipush (-8)) 2 69 := ⟨by decide +kernel, rfl⟩
theorem d_B_acknowledge_69 : dc cd_B_acknowledge 69 (.ireturn) 1 70 := ⟨by decide +kernel, rfl⟩
theorem d_B_acknowledge_70 : dc cd_B_acknowledge 70 (.aload_n 0) 1 71 := ⟨by decide +kernel, rfl⟩
theorem d_B_acknowledge_71 : dc cd_B_acknowledge 71 (.aload_n 3) 1 72 := ⟨by decide +kernel, rfl⟩
theorem d_B_acknowledge_72 : dc cd_B_acknowledge 72 (.invokevirtual 190) 3 75 := ⟨by decide +kernel, rfl⟩
theorem d_B_acknowledge_75 : dc cd_B_acknowledge 75 (.aload_n 3) 1 76 := ⟨by decide +kernel, rfl⟩
theorem d_B_acknowledge_76 : dc cd_B_acknowledge 76 (.getfield 147) 3 79 := ⟨by decide +kernel, rfl⟩
theorem d_B_acknowledge_79 : dc cd_B_acknowledge 79 (.iconst 2) 1 80 := ⟨by decide +kernel, rfl⟩
theorem d_B_acknowledge_80 : dc cd_B_acknowledge 80 (.if_icmp .ne 8) 3 83 := ⟨by decide +kernel, rfl⟩
theorem d_B_acknowledge_83 : dc cd_B_acknowledge 83 (.aload_n 0) 1 84 := ⟨by decide +kernel, rfl⟩
theorem d_B_acknowledge_84 : dc cd_B_acknowledge 84 (.aload_n 3) 1 85 := ⟨by decide +kernel, rfl⟩
theorem d_B_acknowledge_85 : dc cd_B_acknowledge 85 (.invokevirtual 194) 3 88 := ⟨by decide +kernel, rfl⟩
theorem d_B_acknowledge_88 : dc cd_B_acknowledge 88 (.aload_n 3) 1 89 := ⟨by decide +kernel, rfl⟩
theorem d_B_acknowledge_89 : dc cd_B_acknowledge 89 (.getfield 147) 3 92 := ⟨by decide +kernel, rfl⟩
theorem d_B_acknowledge_92 : dc cd_B_acknowledge 92 (.iconst 1) 1 93 := ⟨by decide +kernel, rfl⟩
theorem d_B_acknowledge_93 : dc cd_B_acknowledge 93 (.if_icmp .ne 7) 3 96 := ⟨by decide +kernel, rfl⟩
theorem d_B_acknowledge_96 : dc cd_B_acknowledge 96 (.iconst 1) 1 97 := ⟨by decide +kernel, rfl⟩
theorem d_B_acknowledge_97 : dc cd_B_acknowledge 97 (.goto 4) 3 100 := ⟨by decide +kernel, rfl⟩
theorem d_B_acknowledge_100 : dc cd_B_acknowledge 100 (.iconst 0) 1 101 := ⟨by decide +kernel, rfl⟩
theorem d_B_acknowledge_101 : dc cd_B_acknowledge 101 (.invokestatic 73) 3 104 := ⟨by decide +kernel, rfl⟩
theorem d_B_acknowledge_104 : dc cd_B_acknowledge 104 (.ireturn) 1 105 := ⟨by decide +kernel, rfl⟩
theorem d_B_timeout_0 : dc cd_B_timeout 0 (.aload_n 0) 1 1 := ⟨by decide +kernel, rfl⟩
theorem d_B_timeout_1 : dc cd_B_timeout 1 (.iload_n 1) 1 2 := ⟨by decide +kernel, rfl⟩
theorem d_B_timeout_2 : dc cd_B_timeout 2 (.invokevirtual 138) 3 5 := ⟨by decide +kernel, rfl⟩
theorem d_B_timeout_5 : dc cd_B_timeout 5 (.ifCond .ne 5) 3 8 := ⟨by decide +kernel, rfl⟩
theorem d_B_timeout_8 : dc cd_B_timeout 8 (.iconst (-1)) 1 9 := ⟨by decide +kernel, rfl⟩
theorem d_B_timeout_9 : dc cd_B_timeout 9 (.ireturn) 1 10 := ⟨by decide +kernel, rfl⟩
theorem d_B_timeout_10 : dc cd_B_timeout 10 (.aload_n 0) 1 11 := ⟨by decide +kernel, rfl⟩
theorem d_B_timeout_11 : dc cd_B_timeout 11 (.getfield 23) 3 14 := ⟨by decide +kernel, rfl⟩
theorem d_B_timeout_14 : dc cd_B_timeout 14 (.iload_n 1) 1 15 := ⟨by decide +kernel, rfl⟩
theorem d_B_timeout_15 : dc cd_B_timeout 15 (.aaload) 1 16 := ⟨by decide +kernel, rfl⟩
theorem d_B_timeout_16 : dc cd_B_timeout 16 (.astore_n 3) 1 17 := ⟨by decide +kernel, rfl⟩
theorem d_B_timeout_17 : dc cd_B_timeout 17 (.aload_n 0) 1 18 := ⟨by decide +kernel, rfl⟩
theorem d_B_timeout_18 : dc cd_B_timeout 18 (.aload_n 3) 1 19 := ⟨by decide +kernel, rfl⟩
theorem d_B_timeout_19 : dc cd_B_timeout 19 (.iload_n 2) 1 20 := ⟨by decide +kernel, rfl⟩
theorem d_B_timeout_20 : dc cd_B_timeout 20 (.invokevirtual 180) 3 23 := ⟨by decide +kernel, rfl⟩
theorem d_B_timeout_23 : dc cd_B_timeout 23 (.istore 4) 2 25 := ⟨by decide +kernel, rfl⟩
theorem d_B_timeout_25 : dc cd_B_timeout 25 (.iload 4) 2 27 := ⟨by decide +kernel, rfl⟩
theorem d_B_timeout_27 : dc cd_B_timeout 27 (.ifCond .eq 6) 3 30 := ⟨by decide +kernel, rfl⟩
theorem d_B_timeout_30 : dc cd_B_timeout 30 (.iload 4) 2 32 := ⟨by decide +kernel, rfl⟩
theorem d_B_timeout_32 : dc cd_B_timeout 32 (.ireturn) 1 33 := ⟨by decide +kernel, rfl⟩
theorem d_B_timeout_33 : dc cd_B_timeout 33 (.aload_n 3) 1 34 := ⟨by decide +kernel, rfl⟩
theorem d_B_timeout_34 : dc cd_B_timeout 34 (.iload_n 2) 1 35 := ⟨by decide +kernel, rfl⟩
theorem d_B_timeout_35 : dc cd_B_timeout 35 (.invokevirtual 184) 3 38 := ⟨by decide +kernel, rfl⟩
theorem d_B_timeout_38 : dc cd_B_timeout 38 (.ifCond .eq 6) 3 41 := ⟨by decide +kernel, rfl⟩
theorem d_B_timeout_41 : dc cd_B_timeout 41 (.bipush (-6)) 2 43 := ⟨by decide +kernel, rfl⟩
theorem d_B_timeout_43 : dc cd_B_timeout 43 (.ireturn) 1 44 := ⟨by decide +kernel, rfl⟩
theorem d_B_timeout_44 : dc cd_B_timeout 44 (.iload_n 2) 1 45 := ⟨by decide +kernel, rfl⟩
theorem d_B_timeout_45 : dc cd_B_timeout 45 (.aload_n 3) 1 46 := ⟨by decide +kernel, rfl⟩
theorem d_B_timeout_46 : dc cd_B_timeout 46 (.getfield 156) 3 49 := ⟨by decide +kernel, rfl⟩
theorem d_B_timeout_49 : dc cd_B_timeout 49 (.if_icmp .ge 6) 3 52 := ⟨by decide +kernel, rfl⟩
theorem d_B_timeout_52 : dc cd_B_timeout 52 (.bipush (-7)) 2 54 := ⟨by decide +kernel, rfl⟩
theorem d_B_timeout_54 : dc cd_B_timeout 54 (.ireturn) 1 55 := ⟨by decide +kernel, rfl⟩
theorem d_B_timeout_55 : dc cd_B_timeout 55 (.aload_n 0) 1 56 := ⟨by decide +kernel, rfl⟩
theorem d_B_timeout_56 : dc cd_B_timeout 56 (.aload_n 3) 1 57 := ⟨by decide +kernel, rfl⟩
theorem d_B_timeout_57 : dc cd_B_timeout 57 (.invokevirtual 190) 3 60 := ⟨by decide +kernel, rfl⟩
theorem d_B_timeout_60 : dc cd_B_timeout 60 (.aload_n 0) 1 61 := ⟨by decide +kernel, rfl⟩
theorem d_B_timeout_61 : dc cd_B_timeout 61 (.aload_n 3) 1 62 := ⟨by decide +kernel, rfl⟩
theorem d_B_timeout_62 : dc cd_B_timeout 62 (.invokevirtual 194) 3 65 := ⟨by decide +kernel, rfl⟩
theorem d_B_timeout_65 : dc cd_B_timeout 65 (.aload_n 0) 1 66 := ⟨by decide +kernel, rfl⟩
theorem d_B_timeout_66 : dc cd_B_timeout 66 (.getfield 17) 3 69 := ⟨by decide +kernel, rfl⟩
theorem d_B_timeout_69 : dc cd_B_timeout 69 (.aload_n 3) 1 70 := ⟨by decide +kernel, rfl⟩
theorem d_B_timeout_70 : dc cd_B_timeout 70 (.getfield 144) 3 73 := ⟨by decide +kernel, rfl⟩
theorem d_B_timeout_73 : dc cd_B_timeout 73 (.aaload) 1 74 := ⟨by decide +kernel, rfl⟩
theorem d_B_timeout_74 : dc cd_B_timeout 74 (.getfield 89) 3 77 := ⟨by decide +kernel, rfl⟩
theorem d_B_timeout_77 : dc cd_B_timeout 77 (.aload_n 3) 1 78 := ⟨by decide +kernel, rfl⟩
theorem d_B_timeout_78 : dc cd_B_timeout 78 (.getfield 141) 3 81 := ⟨by decide +kernel, rfl⟩
theorem d_B_timeout_81 : dc cd_B_timeout 81 (.aaload) 1 82 := ⟨by decide +kernel, rfl⟩
theorem d_B_timeout_82 : dc cd_B_timeout 82 (.astore 5) 2 84 := ⟨by decide +kernel, rfl⟩
theorem d_B_timeout_84 : dc cd_B_timeout 84 (.aload_n 0) 1 85 := ⟨by decide +kernel, rfl⟩
theorem d_B_timeout_85 : dc cd_B_timeout 85 (.getfield 17) 3 88 := ⟨by decide +kernel, rfl⟩
theorem d_B_timeout_88 : dc cd_B_timeout 88 (.aload_n 3) 1 89 := ⟨by decide +kernel, rfl⟩
theorem d_B_timeout_89 : dc cd_B_timeout 89 (.getfield 144) 3 92 := ⟨by decide +kernel, rfl⟩
theorem d_B_timeout_92 : dc cd_B_timeout 92 (.aaload) 1 93 := ⟨by decide +kernel, rfl⟩
theorem d_B_timeout_93 : dc cd_B_timeout 93 (.getfield 86) 3 96 := ⟨by decide +kernel, rfl⟩
theorem d_B_timeout_96 : dc cd_B_timeout 96 (.ifCond .eq 30) 3 99 := ⟨by decide +kernel, rfl⟩
theorem d_B_timeout_99 : dc cd_B_timeout 99 (.aload 5) 2 101 := ⟨by decide +kernel, rfl⟩
theorem d_B_timeout_101 : dc cd_B_timeout 101 (.getfield 114) 3 104 := ⟨by decide +kernel, rfl⟩
theorem d_B_timeout_104 : dc cd_B_timeout 104 (.iconst 3) 1 105 := ⟨by decide +kernel, rfl⟩
theorem d_B_timeout_105 : dc cd_B_timeout 105 (.if_icmp .ne 21) 3 108 := ⟨by decide +kernel, rfl⟩
theorem d_B_timeout_108 : dc cd_B_timeout 108 (.aload 5) 2 110 := ⟨by decide +kernel, rfl⟩
theorem d_B_timeout_110 : dc cd_B_timeout 110 (.iconst 4) 1 111 := ⟨by decide +kernel, rfl⟩
theorem d_B_timeout_111 : dc cd_B_timeout 111 (.aload_n 0) 1 112 := ⟨by decide +kernel, rfl⟩
theorem d_B_timeout_112 : dc cd_B_timeout 112 (.getfield 11) 3 115 := ⟨by decide +kernel, rfl⟩
theorem d_B_timeout_115 : dc cd_B_timeout 115 (.aload_n 3) 1 116 := ⟨by decide +kernel, rfl⟩
theorem d_B_timeout_116 : dc cd_B_timeout 116 (.getfield 141) 3 119 := ⟨by decide +kernel, rfl⟩
theorem d_B_timeout_119 : dc cd_B_timeout 119 (.aaload) 1 120 := ⟨by decide +kernel, rfl⟩
theorem d_B_timeout_120 : dc cd_B_timeout 120 (.getfield 37) 3 123 := ⟨by decide +kernel, rfl⟩
theorem d_B_timeout_123 : dc cd_B_timeout 123 (.invokevirtual 98) 3 126 := ⟨by decide +kernel, rfl⟩
theorem d_B_timeout_126 : dc cd_B_timeout 126 (.aload_n 3) 1 127 := ⟨by decide +kernel, rfl⟩
theorem d_B_timeout_127 : dc cd_B_timeout 127 (.getfield 168) 3 130 := ⟨by decide +kernel, rfl⟩
theorem d_B_timeout_130 : dc cd_B_timeout 130 (.ireturn) 1 131 := ⟨by decide +kernel, rfl⟩
theorem d_B_end_0 : dc cd_B_end 0 (.aload_n 0) 1 1 := ⟨by decide +kernel, rfl⟩
theorem d_B_end_1 : dc cd_B_end 1 (.iload_n 1) 1 2 := ⟨by decide +kernel, rfl⟩
theorem d_B_end_2 : dc cd_B_end 2 (.invokevirtual 101) 3 5 := ⟨by decide +kernel, rfl⟩
theorem d_B_end_5 : dc cd_B_end 5 (.ifCond .eq 10) 3 8 := ⟨by decide +kernel, rfl⟩
theorem d_B_end_8 : dc cd_B_end 8 (.iload_n 2) 1 9 := ⟨by decide +kernel, rfl⟩
theorem d_B_end_9 : dc cd_B_end 9 (.invokestatic 33) 3 12 := ⟨by decide +kernel, rfl⟩
theorem d_B_end_12 : dc cd_B_end 12 (.ifCond .ne 5) 3 15 := ⟨by decide +kernel, rfl⟩
theorem d_B_end_15 : dc cd_B_end 15 (.iconst (-1)) 1 16 := ⟨by decide +kernel, rfl⟩
theorem d_B_end_16 : dc cd_B_end 16 (.ireturn) 1 17 := ⟨by decide +kernel, rfl⟩
theorem d_B_end_17 : dc cd_B_end 17 (.aload_n 0) 1 18 := ⟨by decide +kernel, rfl⟩
theorem d_B_end_18 : dc cd_B_end 18 (.getfield 17) 3 21 := ⟨by decide +kernel, rfl⟩
theorem d_B_end_21 : dc cd_B_end 21 (.iload_n 1) 1 22 := ⟨by decide +kernel, rfl⟩
theorem d_B_end_22 : dc cd_B_end 22 (.aaload) 1 23 := ⟨by decide +kernel, rfl⟩
theorem d_B_end_23 : dc cd_B_end 23 (.getfield 89) 3 26 := ⟨by decide +kernel, rfl⟩
theorem d_B_end_26 : dc cd_B_end 26 (.iload_n 2) 1 27 := ⟨by decide +kernel, rfl⟩
theorem d_B_end_27 : dc cd_B_end 27 (.aaload) 1 28 := ⟨by decide +kernel, rfl⟩
theorem d_B_end_28 : dc cd_B_end 28 (.astore 4) 2 30 := ⟨by decide +kernel, rfl⟩
theorem d_B_end_30 : dc cd_B_end 30 (.iload_n 3) 1 31 := ⟨by decide +kernel, rfl⟩
theorem d_B_end_31 : dc cd_B_end 31 (.tableswitch 90 0 6 #[41, 47, 53, 59, 65, 71, 77]) 41 72 := ⟨by decide +kernel, rfl⟩
theorem d_B_end_72 : dc cd_B_end 72 (.aload 4) 2 74 := ⟨by decide +kernel, rfl⟩
theorem d_B_end_74 : dc cd_B_end 74 (.getfield 114) 3 77 := ⟨by decide +kernel, rfl⟩
theorem d_B_end_77 : dc cd_B_end 77 (.ireturn) 1 78 := ⟨by decide +kernel, rfl⟩
theorem d_B_end_78 : dc cd_B_end 78 (.aload 4) 2 80 := ⟨by decide +kernel, rfl⟩
theorem d_B_end_80 : dc cd_B_end 80 (.getfield 93) 3 83 := ⟨by decide +kernel, rfl⟩
theorem d_B_end_83 : dc cd_B_end 83 (.ireturn) 1 84 := ⟨by decide +kernel, rfl⟩
theorem d_B_end_84 : dc cd_B_end 84 (.aload 4) 2 86 := ⟨by decide +kernel, rfl⟩
theorem d_B_end_86 : dc cd_B_end 86 (.getfield 111) 3 89 := ⟨by decide +kernel, rfl⟩
theorem d_B_end_89 : dc cd_B_end 89 (.ireturn) 1 90 := ⟨by decide +kernel, rfl⟩
theorem d_B_end_90 : dc cd_B_end 90 (.aload 4) 2 92 := ⟨by decide +kernel, rfl⟩
theorem d_B_end_92 : dc cd_B_end 92 (.getfield 197) 3 95 := ⟨by decide +kernel, rfl⟩
theorem d_B_end_95 : dc cd_B_end 95 (.ireturn) 1 96 := ⟨by decide +kernel, rfl⟩
theorem d_B_end_96 : dc cd_B_end 96 (.aload 4) 2 98 := ⟨by decide +kernel, rfl⟩
theorem d_B_end_98 : dc cd_B_end 98 (.getfield 200) 3 101 := ⟨by decide +kernel, rfl⟩
theorem d_B_end_101 : dc cd_B_end 101 (.ireturn) 1 102 := ⟨by decide +kernel, rfl⟩
theorem d_B_end_102 : dc cd_B_end 102 (.aload 4) 2 104 := ⟨by decide +kernel, rfl⟩
theorem d_B_end_104 : dc cd_B_end 104 (.getfield 174) 3 107 := ⟨by decide +kernel, rfl⟩
theorem d_B_end_107 : dc cd_B_end 107 (.ireturn) 1 108 := ⟨by decide +kernel, rfl⟩
theorem d_B_end_108 : dc cd_B_end 108 (.aload_n 0) 1 109 := ⟨by decide +kernel, rfl⟩
theorem d_B_end_109 : dc cd_B_end 109 (.getfield 17) 3 112 := ⟨by decide +kernel, rfl⟩
theorem d_B_end_112 : dc cd_B_end 112 (.iload_n 1) 1 113 := ⟨by decide +kernel, rfl⟩
theorem d_B_end_113 : dc cd_B_end 113 (.aaload) 1 114 := ⟨by decide +kernel, rfl⟩
theorem d_B_end_114 : dc cd_B_end 114 (.getfield 86) 3 117 := ⟨by decide +kernel, rfl⟩
theorem d_B_end_117 : dc cd_B_end 117 (.invokestatic 73) 3 120 := ⟨by decide +kernel, rfl⟩
theorem d_B_end_120 : dc cd_B_end 120 (.ireturn) 1 121 := ⟨by decide +kernel, rfl⟩
theorem d_B_end_121 : dc cd_B_end 121 (.bipush (-2)) 2 123 := ⟨by decide +kernel, rfl⟩
theorem d_B_end_123 : dc cd_B_end 123 (.ireturn) 1 124 := ⟨by decide +kernel, rfl⟩
theorem d_B_stepAt_0 : dc cd_B_stepAt 0 (.aload_n 0) 1 1 := ⟨by decide +kernel, rfl⟩
theorem d_B_stepAt_1 : dc cd_B_stepAt 1 (.iload_n 1) 1 2 := ⟨by decide +kernel, rfl⟩
theorem d_B_stepAt_2 : dc cd_B_stepAt 2 (.invokevirtual 101) 3 5 := ⟨by decide +kernel, rfl⟩
theorem d_B_stepAt_5 : dc cd_B_stepAt 5 (.ifCond .eq 10) 3 8 := ⟨by decide +kernel, rfl⟩
theorem d_B_stepAt_8 : dc cd_B_stepAt 8 (.iload_n 2) 1 9 := ⟨by decide +kernel, rfl⟩
theorem d_B_stepAt_9 : dc cd_B_stepAt 9 (.invokestatic 33) 3 12 := ⟨by decide +kernel, rfl⟩
theorem d_B_stepAt_12 : dc cd_B_stepAt 12 (.ifCond .ne 5) 3 15 := ⟨by decide +kernel, rfl⟩
theorem d_B_stepAt_15 : dc cd_B_stepAt 15 (.iconst (-1)) 1 16 := ⟨by decide +kernel, rfl⟩
theorem d_B_stepAt_16 : dc cd_B_stepAt 16 (.ireturn) 1 17 := ⟨by decide +kernel, rfl⟩
theorem d_B_stepAt_17 : dc cd_B_stepAt 17 (.iload_n 3) 1 18 := ⟨by decide +kernel, rfl⟩
theorem d_B_stepAt_18 : dc cd_B_stepAt 18 (.iconst 0) 1 19 := ⟨by decide +kernel, rfl⟩
theorem d_B_stepAt_19 : dc cd_B_stepAt 19 (.aload_n 0) 1 20 := ⟨by decide +kernel, rfl⟩
theorem d_B_stepAt_20 : dc cd_B_stepAt 20 (.getfield 11) 3 23 := ⟨by decide +kernel, rfl⟩
theorem d_B_stepAt_23 : dc cd_B_stepAt 23 (.iload_n 2) 1 24 := ⟨by decide +kernel, rfl⟩
theorem d_B_stepAt_24 : dc cd_B_stepAt 24 (.aaload) 1 25 := ⟨by decide +kernel, rfl⟩
theorem d_B_stepAt_25 : dc cd_B_stepAt 25 (.getfield 37) 3 28 := ⟨by decide +kernel, rfl⟩
theorem d_B_stepAt_28 : dc cd_B_stepAt 28 (.invokestatic 41) 3 31 := ⟨by decide +kernel, rfl⟩
theorem d_B_stepAt_31 : dc cd_B_stepAt 31 (.ifCond .ne 6) 3 34 := ⟨by decide +kernel, rfl⟩
theorem d_B_stepAt_34 : dc cd_B_stepAt 34 (.bipush (-2)) 2 36 := ⟨by decide +kernel, rfl⟩
theorem d_B_stepAt_36 : dc cd_B_stepAt 36 (.ireturn) 1 37 := ⟨by decide +kernel, rfl⟩
theorem d_B_stepAt_37 : dc cd_B_stepAt 37 (.aload_n 0) 1 38 := ⟨by decide +kernel, rfl⟩
theorem d_B_stepAt_38 : dc cd_B_stepAt 38 (.getfield 17) 3 41 := ⟨by decide +kernel, rfl⟩
theorem d_B_stepAt_41 : dc cd_B_stepAt 41 (.iload_n 1) 1 42 := ⟨by decide +kernel, rfl⟩
theorem d_B_stepAt_42 : dc cd_B_stepAt 42 (.aaload) 1 43 := ⟨by decide +kernel, rfl⟩
theorem d_B_stepAt_43 : dc cd_B_stepAt 43 (.getfield 89) 3 46 := ⟨by decide +kernel, rfl⟩
theorem d_B_stepAt_46 : dc cd_B_stepAt 46 (.iload_n 2) 1 47 := ⟨by decide +kernel, rfl⟩
theorem d_B_stepAt_47 : dc cd_B_stepAt 47 (.aaload) 1 48 := ⟨by decide +kernel, rfl⟩
theorem d_B_stepAt_48 : dc cd_B_stepAt 48 (.iload_n 3) 1 49 := ⟨by decide +kernel, rfl⟩
theorem d_B_stepAt_49 : dc cd_B_stepAt 49 (.invokevirtual 203) 3 52 := ⟨by decide +kernel, rfl⟩
theorem d_B_stepAt_52 : dc cd_B_stepAt 52 (.ireturn) 1 53 := ⟨by decide +kernel, rfl⟩
theorem d_B_message_0 : dc cd_B_message 0 (.aload_n 0) 1 1 := ⟨by decide +kernel, rfl⟩
theorem d_B_message_1 : dc cd_B_message 1 (.iload_n 1) 1 2 := ⟨by decide +kernel, rfl⟩
theorem d_B_message_2 : dc cd_B_message 2 (.invokevirtual 138) 3 5 := ⟨by decide +kernel, rfl⟩
theorem d_B_message_5 : dc cd_B_message 5 (.ifCond .ne 5) 3 8 := ⟨by decide +kernel, rfl⟩
theorem d_B_message_8 : dc cd_B_message 8 (.iconst (-1)) 1 9 := ⟨by decide +kernel, rfl⟩
theorem d_B_message_9 : dc cd_B_message 9 (.ireturn) 1 10 := ⟨by decide +kernel, rfl⟩
theorem d_B_message_10 : dc cd_B_message 10 (.aload_n 0) 1 11 := ⟨by decide +kernel, rfl⟩
theorem d_B_message_11 : dc cd_B_message 11 (.getfield 23) 3 14 := ⟨by decide +kernel, rfl⟩
theorem d_B_message_14 : dc cd_B_message 14 (.iload_n 1) 1 15 := ⟨by decide +kernel, rfl⟩
theorem d_B_message_15 : dc cd_B_message 15 (.aaload) 1 16 := ⟨by decide +kernel, rfl⟩
theorem d_B_message_16 : dc cd_B_message 16 (.astore_n 3) 1 17 := ⟨by decide +kernel, rfl⟩
theorem d_B_message_17 : dc cd_B_message 17 (.iload_n 2) 1 18 := ⟨by decide +kernel, rfl⟩
theorem d_B_message_18 : dc cd_B_message 18 (.tableswitch 119 0 10 #[58, 63, 68, 73, 78, 83, 88, 93, 98, 106, 111]) 58 76 := ⟨by decide +kernel, rfl⟩
theorem d_B_message_76 : dc cd_B_message 76 (.aload_n 3) 1 77 := ⟨by decide +kernel, rfl⟩
theorem d_B_message_77 : dc cd_B_message 77 (.getfield 144) 3 80 := ⟨by decide +kernel, rfl⟩
theorem d_B_message_80 : dc cd_B_message 80 (.ireturn) 1 81 := ⟨by decide +kernel, rfl⟩
theorem d_B_message_81 : dc cd_B_message 81 (.aload_n 3) 1 82 := ⟨by decide +kernel, rfl⟩
theorem d_B_message_82 : dc cd_B_message 82 (.getfield 141) 3 85 := ⟨by decide +kernel, rfl⟩
theorem d_B_message_85 : dc cd_B_message 85 (.ireturn) 1 86 := ⟨by decide +kernel, rfl⟩
theorem d_B_message_86 : dc cd_B_message 86 (.aload_n 3) 1 87 := ⟨by decide +kernel, rfl⟩
end
section
theorem d_B_message_87 : dc cd_B_message 87 (.getfield 206) 3 90 := ⟨by decide +kernel, rfl⟩
theorem d_B_message_90 : dc cd_B_message 90 (.ireturn) 1 91 := ⟨by decide +kernel, rfl⟩
theorem d_B_message_91 : dc cd_B_message 91 (.aload_n 3) 1 92 := ⟨by decide +kernel, rfl⟩
theorem d_B_message_92 : dc cd_B_message 92 (.getfield 168) 3 95 := ⟨by decide +kernel, rfl⟩
theorem d_B_message_95 : dc cd_B_message 95 (.ireturn) 1 96 := ⟨by decide +kernel, rfl⟩
theorem d_B_message_96 : dc cd_B_message 96 (.aload_n 3) 1 97 := ⟨by decide +kernel, rfl⟩
theorem d_B_message_97 : dc cd_B_message 97 (.getfield 165) 3 100 := ⟨by decide +kernel, rfl⟩
theorem d_B_message_100 : dc cd_B_message 100 (.ireturn) 1 101 := ⟨by decide +kernel, rfl⟩
theorem d_B_message_101 : dc cd_B_message 101 (.aload_n 3) 1 102 := ⟨by decide +kernel, rfl⟩
theorem d_B_message_102 : dc cd_B_message 102 (.getfield 209) 3 105 := ⟨by decide +kernel, rfl⟩
theorem d_B_message_105 : dc cd_B_message 105 (.ireturn) 1 106 := ⟨by decide +kernel, rfl⟩
theorem d_B_message_106 : dc cd_B_message 106 (.aload_n 3) 1 107 := ⟨by decide +kernel, rfl⟩
theorem d_B_message_107 : dc cd_B_message 107 (.getfield 162) 3 110 := ⟨by decide +kernel, rfl⟩
theorem d_B_message_110 : dc cd_B_message 110 (.ireturn) 1 111 := ⟨by decide +kernel, rfl⟩
theorem d_B_message_111 : dc cd_B_message 111 (.aload_n 3) 1 112 := ⟨by decide +kernel, rfl⟩
theorem d_B_message_112 : dc cd_B_message 112 (.getfield 156) 3 115 := ⟨by decide +kernel, rfl⟩
theorem d_B_message_115 : dc cd_B_message 115 (.ireturn) 1 116 := ⟨by decide +kernel, rfl⟩
theorem d_B_message_116 : dc cd_B_message 116 (.aload_n 3) 1 117 := ⟨by decide +kernel, rfl⟩
theorem d_B_message_117 : dc cd_B_message 117 (.getfield 212) 3 120 := ⟨by decide +kernel, rfl⟩
theorem d_B_message_120 : dc cd_B_message 120 (.invokestatic 73) 3 123 := ⟨by decide +kernel, rfl⟩
theorem d_B_message_123 : dc cd_B_message 123 (.ireturn) 1 124 := ⟨by decide +kernel, rfl⟩
theorem d_B_message_124 : dc cd_B_message 124 (.aload_n 3) 1 125 := ⟨by decide +kernel, rfl⟩
theorem d_B_message_125 : dc cd_B_message 125 (.getfield 147) 3 128 := ⟨by decide +kernel, rfl⟩
theorem d_B_message_128 : dc cd_B_message 128 (.ireturn) 1 129 := ⟨by decide +kernel, rfl⟩
theorem d_B_message_129 : dc cd_B_message 129 (.aload_n 3) 1 130 := ⟨by decide +kernel, rfl⟩
theorem d_B_message_130 : dc cd_B_message 130 (.getfield 215) 3 133 := ⟨by decide +kernel, rfl⟩
theorem d_B_message_133 : dc cd_B_message 133 (.invokestatic 73) 3 136 := ⟨by decide +kernel, rfl⟩
theorem d_B_message_136 : dc cd_B_message 136 (.ireturn) 1 137 := ⟨by decide +kernel, rfl⟩
theorem d_B_message_137 : dc cd_B_message 137 (.bipush (-2)) 2 139 := ⟨by decide +kernel, rfl⟩
theorem d_B_message_139 : dc cd_B_message 139 (.ireturn) 1 140 := ⟨by decide +kernel, rfl⟩
theorem d_B_balance_0 : dc cd_B_balance 0 (.iload_n 1) 1 1 := ⟨by decide +kernel, rfl⟩
theorem d_B_balance_1 : dc cd_B_balance 1 (.invokestatic 33) 3 4 := ⟨by decide +kernel, rfl⟩
theorem d_B_balance_4 : dc cd_B_balance 4 (.ifCond .eq 17) 3 7 := ⟨by decide +kernel, rfl⟩
theorem d_B_balance_7 : dc cd_B_balance 7 (.iload_n 2) 1 8 := ⟨by decide +kernel, rfl⟩
theorem d_B_balance_8 : dc cd_B_balance 8 (.invokestatic 117) 3 11 := ⟨by decide +kernel, rfl⟩
theorem d_B_balance_11 : dc cd_B_balance 11 (.ifCond .eq 10) 3 14 := ⟨by decide +kernel, rfl⟩
theorem d_B_balance_14 : dc cd_B_balance 14 (.iload_n 3) 1 15 := ⟨by decide +kernel, rfl⟩
theorem d_B_balance_15 : dc cd_B_balance 15 (.invokestatic 120) 3 18 := ⟨by decide +kernel, rfl⟩
theorem d_B_balance_18 : dc cd_B_balance 18 (.ifCond .ne 5) 3 21 := ⟨by decide +kernel, rfl⟩
theorem d_B_balance_21 : dc cd_B_balance 21 (.iconst (-1)) 1 22 := ⟨by decide +kernel, rfl⟩
theorem d_B_balance_22 : dc cd_B_balance 22 (.ireturn) 1 23 := ⟨by decide +kernel, rfl⟩
theorem d_B_balance_23 : dc cd_B_balance 23 (.iload_n 3) 1 24 := ⟨by decide +kernel, rfl⟩
theorem d_B_balance_24 : dc cd_B_balance 24 (.iload_n 1) 1 25 := ⟨by decide +kernel, rfl⟩
theorem d_B_balance_25 : dc cd_B_balance 25 (.if_icmp .ne 15) 3 28 := ⟨by decide +kernel, rfl⟩
theorem d_B_balance_28 : dc cd_B_balance 28 (.aload_n 0) 1 29 := ⟨by decide +kernel, rfl⟩
theorem d_B_balance_29 : dc cd_B_balance 29 (.getfield 11) 3 32 := ⟨by decide +kernel, rfl⟩
theorem d_B_balance_32 : dc cd_B_balance 32 (.iload_n 1) 1 33 := ⟨by decide +kernel, rfl⟩
theorem d_B_balance_33 : dc cd_B_balance 33 (.aaload) 1 34 := ⟨by decide +kernel, rfl⟩
theorem d_B_balance_34 : dc cd_B_balance 34 (.getfield 218) 3 37 := ⟨by decide +kernel, rfl⟩
theorem d_B_balance_37 : dc cd_B_balance 37 (.iload_n 2) 1 38 := ⟨by decide +kernel, rfl⟩
theorem d_B_balance_38 : dc cd_B_balance 38 (.iaload) 1 39 := ⟨by decide +kernel, rfl⟩
theorem d_B_balance_39 : dc cd_B_balance 39 (.ireturn) 1 40 := ⟨by decide +kernel, rfl⟩
theorem d_B_balance_40 : dc cd_B_balance 40 (.iconst 0) 1 41 := ⟨by decide +kernel, rfl⟩
theorem d_B_balance_41 : dc cd_B_balance 41 (.istore 4) 2 43 := ⟨by decide +kernel, rfl⟩
theorem d_B_balance_43 : dc cd_B_balance 43 (.iconst 0) 1 44 := ⟨by decide +kernel, rfl⟩
theorem d_B_balance_44 : dc cd_B_balance 44 (.istore 5) 2 46 := ⟨by decide +kernel, rfl⟩
theorem d_B_balance_46 : dc cd_B_balance 46 (.iload 5) 2 48 := ⟨by decide +kernel, rfl⟩
theorem d_B_balance_48 : dc cd_B_balance 48 (.aload_n 0) 1 49 := ⟨by decide +kernel, rfl⟩
theorem d_B_balance_49 : dc cd_B_balance 49 (.getfield 80) 3 52 := ⟨by decide +kernel, rfl⟩
theorem d_B_balance_52 : dc cd_B_balance 52 (.if_icmp .ge 31) 3 55 := ⟨by decide +kernel, rfl⟩
theorem d_B_balance_55 : dc cd_B_balance 55 (.iload 4) 2 57 := ⟨by decide +kernel, rfl⟩
theorem d_B_balance_57 : dc cd_B_balance 57 (.aload_n 0) 1 58 := ⟨by decide +kernel, rfl⟩
theorem d_B_balance_58 : dc cd_B_balance 58 (.getfield 17) 3 61 := ⟨by decide +kernel, rfl⟩
theorem d_B_balance_61 : dc cd_B_balance 61 (.iload 5) 2 63 := ⟨by decide +kernel, rfl⟩
theorem d_B_balance_63 : dc cd_B_balance 63 (.aaload) 1 64 := ⟨by decide +kernel, rfl⟩
theorem d_B_balance_64 : dc cd_B_balance 64 (.getfield 89) 3 67 := ⟨by decide +kernel, rfl⟩
theorem d_B_balance_67 : dc cd_B_balance 67 (.iload_n 1) 1 68 := ⟨by decide +kernel, rfl⟩
theorem d_B_balance_68 : dc cd_B_balance 68 (.aaload) 1 69 := ⟨by decide +kernel, rfl⟩
theorem d_B_balance_69 : dc cd_B_balance 69 (.getfield 222) 3 72 := ⟨by decide +kernel, rfl⟩
theorem d_B_balance_72 : dc cd_B_balance 72 (.iload_n 2) 1 73 := ⟨by decide +kernel, rfl⟩
theorem d_B_balance_73 : dc cd_B_balance 73 (.iaload) 1 74 := ⟨by decide +kernel, rfl⟩
theorem d_B_balance_74 : dc cd_B_balance 74 (.iadd) 1 75 := ⟨by decide +kernel, rfl⟩
theorem d_B_balance_75 : dc cd_B_balance 75 (.istore 4) 2 77 := ⟨by decide +kernel, rfl⟩
theorem d_B_balance_77 : dc cd_B_balance 77 (.iinc 5 1) 3 80 := ⟨by decide +kernel, rfl⟩
theorem d_B_balance_80 : dc cd_B_balance 80 (.goto (-34)) 3 83 := ⟨by decide +kernel, rfl⟩
theorem d_B_balance_83 : dc cd_B_balance 83 (.iload 4) 2 85 := ⟨by decide +kernel, rfl⟩
theorem d_B_balance_85 : dc cd_B_balance 85 (.ireturn) 1 86 := ⟨by decide +kernel, rfl⟩
theorem d_B_vouchers_0 : dc cd_B_vouchers 0 (.aload_n 0) 1 1 := ⟨by decide +kernel, rfl⟩
theorem d_B_vouchers_1 : dc cd_B_vouchers 1 (.iload_n 1) 1 2 := ⟨by decide +kernel, rfl⟩
theorem d_B_vouchers_2 : dc cd_B_vouchers 2 (.invokevirtual 101) 3 5 := ⟨by decide +kernel, rfl⟩
theorem d_B_vouchers_5 : dc cd_B_vouchers 5 (.ifCond .eq 17) 3 8 := ⟨by decide +kernel, rfl⟩
theorem d_B_vouchers_8 : dc cd_B_vouchers 8 (.iload_n 2) 1 9 := ⟨by decide +kernel, rfl⟩
theorem d_B_vouchers_9 : dc cd_B_vouchers 9 (.invokestatic 33) 3 12 := ⟨by decide +kernel, rfl⟩
theorem d_B_vouchers_12 : dc cd_B_vouchers 12 (.ifCond .eq 10) 3 15 := ⟨by decide +kernel, rfl⟩
theorem d_B_vouchers_15 : dc cd_B_vouchers 15 (.iload_n 3) 1 16 := ⟨by decide +kernel, rfl⟩
theorem d_B_vouchers_16 : dc cd_B_vouchers 16 (.invokestatic 117) 3 19 := ⟨by decide +kernel, rfl⟩
theorem d_B_vouchers_19 : dc cd_B_vouchers 19 (.ifCond .ne 5) 3 22 := ⟨by decide +kernel, rfl⟩
theorem d_B_vouchers_22 : dc cd_B_vouchers 22 (.iconst (-1)) 1 23 := ⟨by decide +kernel, rfl⟩
theorem d_B_vouchers_23 : dc cd_B_vouchers 23 (.ireturn) 1 24 := ⟨by decide +kernel, rfl⟩
theorem d_B_vouchers_24 : dc cd_B_vouchers 24 (.aload_n 0) 1 25 := ⟨by decide +kernel, rfl⟩
theorem d_B_vouchers_25 : dc cd_B_vouchers 25 (.getfield 17) 3 28 := ⟨by decide +kernel, rfl⟩
theorem d_B_vouchers_28 : dc cd_B_vouchers 28 (.iload_n 1) 1 29 := ⟨by decide +kernel, rfl⟩
theorem d_B_vouchers_29 : dc cd_B_vouchers 29 (.aaload) 1 30 := ⟨by decide +kernel, rfl⟩
theorem d_B_vouchers_30 : dc cd_B_vouchers 30 (.getfield 89) 3 33 := ⟨by decide +kernel, rfl⟩
theorem d_B_vouchers_33 : dc cd_B_vouchers 33 (.iload_n 2) 1 34 := ⟨by decide +kernel, rfl⟩
theorem d_B_vouchers_34 : dc cd_B_vouchers 34 (.aaload) 1 35 := ⟨by decide +kernel, rfl⟩
theorem d_B_vouchers_35 : dc cd_B_vouchers 35 (.getfield 222) 3 38 := ⟨by decide +kernel, rfl⟩
theorem d_B_vouchers_38 : dc cd_B_vouchers 38 (.iload_n 3) 1 39 := ⟨by decide +kernel, rfl⟩
theorem d_B_vouchers_39 : dc cd_B_vouchers 39 (.iaload) 1 40 := ⟨by decide +kernel, rfl⟩
theorem d_B_vouchers_40 : dc cd_B_vouchers 40 (.ireturn) 1 41 := ⟨by decide +kernel, rfl⟩
theorem d_B_sum_0 : dc cd_B_sum 0 (.iload_n 1) 1 1 := ⟨by decide +kernel, rfl⟩
theorem d_B_sum_1 : dc cd_B_sum 1 (.invokestatic 120) 3 4 := ⟨by decide +kernel, rfl⟩
theorem d_B_sum_4 : dc cd_B_sum 4 (.ifCond .ne 5) 3 7 := ⟨by decide +kernel, rfl⟩
theorem d_B_sum_7 : dc cd_B_sum 7 (.iconst (-1)) 1 8 := ⟨by decide +kernel, rfl⟩
theorem d_B_sum_8 : dc cd_B_sum 8 (.ireturn) 1 9 := ⟨by decide +kernel, rfl⟩
theorem d_B_sum_9 : dc cd_B_sum 9 (.iload_n 2) 1 10 := ⟨by decide +kernel, rfl⟩
theorem d_B_sum_10 : dc cd_B_sum 10 (.tableswitch 63 0 3 #[30, 43, 49, 57]) 30 40 := ⟨by decide +kernel, rfl⟩
theorem d_B_sum_40 : dc cd_B_sum 40 (.aload_n 0) 1 41 := ⟨by decide +kernel, rfl⟩
theorem d_B_sum_41 : dc cd_B_sum 41 (.getfield 11) 3 44 := ⟨by decide +kernel, rfl⟩
theorem d_B_sum_44 : dc cd_B_sum 44 (.iload_n 1) 1 45 := ⟨by decide +kernel, rfl⟩
theorem d_B_sum_45 : dc cd_B_sum 45 (.aaload) 1 46 := ⟨by decide +kernel, rfl⟩
theorem d_B_sum_46 : dc cd_B_sum 46 (.getfield 218) 3 49 := ⟨by decide +kernel, rfl⟩
theorem d_B_sum_49 : dc cd_B_sum 49 (.invokestatic 225) 3 52 := ⟨by decide +kernel, rfl⟩
theorem d_B_sum_52 : dc cd_B_sum 52 (.ireturn) 1 53 := ⟨by decide +kernel, rfl⟩
theorem d_B_sum_53 : dc cd_B_sum 53 (.aload_n 0) 1 54 := ⟨by decide +kernel, rfl⟩
theorem d_B_sum_54 : dc cd_B_sum 54 (.iload_n 1) 1 55 := ⟨by decide +kernel, rfl⟩
theorem d_B_sum_55 : dc cd_B_sum 55 (.invokevirtual 229) 3 58 := ⟨by decide +kernel, rfl⟩
theorem d_B_sum_58 : dc cd_B_sum 58 (.ireturn) 1 59 := ⟨by decide +kernel, rfl⟩
theorem d_B_sum_59 : dc cd_B_sum 59 (.aload_n 0) 1 60 := ⟨by decide +kernel, rfl⟩
theorem d_B_sum_60 : dc cd_B_sum 60 (.iconst 1) 1 61 := ⟨by decide +kernel, rfl⟩
theorem d_B_sum_61 : dc cd_B_sum 61 (.iload_n 1) 1 62 := ⟨by decide +kernel, rfl⟩
theorem d_B_sum_62 : dc cd_B_sum 62 (.isub) 1 63 := ⟨by decide +kernel, rfl⟩
theorem d_B_sum_63 : dc cd_B_sum 63 (.invokevirtual 232) 3 66 := ⟨by decide +kernel, rfl⟩
theorem d_B_sum_66 : dc cd_B_sum 66 (.ireturn) 1 67 := ⟨by decide +kernel, rfl⟩
theorem d_B_sum_67 : dc cd_B_sum 67 (.aload_n 0) 1 68 := ⟨by decide +kernel, rfl⟩
theorem d_B_sum_68 : dc cd_B_sum 68 (.iload_n 1) 1 69 := ⟨by decide +kernel, rfl⟩
theorem d_B_sum_69 : dc cd_B_sum 69 (.invokevirtual 235) 3 72 := ⟨by decide +kernel, rfl⟩
theorem d_B_sum_72 : dc cd_B_sum 72 (.ireturn) 1 73 := ⟨by decide +kernel, rfl⟩
theorem d_B_sum_73 : dc cd_B_sum 73 (.bipush (-2)) 2 75 := ⟨by decide +kernel, rfl⟩
theorem d_B_sum_75 : dc cd_B_sum 75 (.ireturn) 1 76 := ⟨by decide +kernel, rfl⟩
theorem d_B_count_0 : dc cd_B_count 0 (.iload_n 1) 1 1 := ⟨by decide +kernel, rfl⟩
theorem d_B_count_1 : dc cd_B_count 1 (.tableswitch 70 0 4 #[35, 45, 55, 60, 65]) 35 36 := ⟨by decide +kernel, rfl⟩
theorem d_B_count_36 : dc cd_B_count 36 (.aload_n 0) 1 37 := ⟨by decide +kernel, rfl⟩
theorem d_B_count_37 : dc cd_B_count 37 (.getfield 11) 3 40 := ⟨by decide +kernel, rfl⟩
theorem d_B_count_40 : dc cd_B_count 40 (.iconst 0) 1 41 := ⟨by decide +kernel, rfl⟩
theorem d_B_count_41 : dc cd_B_count 41 (.aaload) 1 42 := ⟨by decide +kernel, rfl⟩
theorem d_B_count_42 : dc cd_B_count 42 (.getfield 37) 3 45 := ⟨by decide +kernel, rfl⟩
theorem d_B_count_45 : dc cd_B_count 45 (.ireturn) 1 46 := ⟨by decide +kernel, rfl⟩
theorem d_B_count_46 : dc cd_B_count 46 (.aload_n 0) 1 47 := ⟨by decide +kernel, rfl⟩
theorem d_B_count_47 : dc cd_B_count 47 (.getfield 11) 3 50 := ⟨by decide +kernel, rfl⟩
theorem d_B_count_50 : dc cd_B_count 50 (.iconst 1) 1 51 := ⟨by decide +kernel, rfl⟩
theorem d_B_count_51 : dc cd_B_count 51 (.aaload) 1 52 := ⟨by decide +kernel, rfl⟩
theorem d_B_count_52 : dc cd_B_count 52 (.getfield 37) 3 55 := ⟨by decide +kernel, rfl⟩
theorem d_B_count_55 : dc cd_B_count 55 (.ireturn) 1 56 := ⟨by decide +kernel, rfl⟩
theorem d_B_count_56 : dc cd_B_count 56 (.aload_n 0) 1 57 := ⟨by decide +kernel, rfl⟩
theorem d_B_count_57 : dc cd_B_count 57 (.getfield 80) 3 60 := ⟨by decide +kernel, rfl⟩
theorem d_B_count_60 : dc cd_B_count 60 (.ireturn) 1 61 := ⟨by decide +kernel, rfl⟩
theorem d_B_count_61 : dc cd_B_count 61 (.aload_n 0) 1 62 := ⟨by decide +kernel, rfl⟩
theorem d_B_count_62 : dc cd_B_count 62 (.getfield 127) 3 65 := ⟨by decide +kernel, rfl⟩
theorem d_B_count_65 : dc cd_B_count 65 (.ireturn) 1 66 := ⟨by decide +kernel, rfl⟩
theorem d_B_count_66 : dc cd_B_count 66 (.aload_n 0) 1 67 := ⟨by decide +kernel, rfl⟩
theorem d_B_count_67 : dc cd_B_count 67 (.invokevirtual 238) 3 70 := ⟨by decide +kernel, rfl⟩
theorem d_B_count_70 : dc cd_B_count 70 (.ireturn) 1 71 := ⟨by decide +kernel, rfl⟩
theorem d_B_count_71 : dc cd_B_count 71 (.bipush (-2)) 2 73 := ⟨by decide +kernel, rfl⟩
theorem d_B_count_73 : dc cd_B_count 73 (.ireturn) 1 74 := ⟨by decide +kernel, rfl⟩
theorem d_B_clear_0 : dc cd_B_clear 0 (.aload_n 0) 1 1 := ⟨by decide +kernel, rfl⟩
theorem d_B_clear_1 : dc cd_B_clear 1 (.getfield 127) 3 4 := ⟨by decide +kernel, rfl⟩
theorem d_B_clear_4 : dc cd_B_clear 4 (.istore_n 1) 1 5 := ⟨by decide +kernel, rfl⟩
theorem d_B_clear_5 : dc cd_B_clear 5 (.aload_n 0) 1 6 := ⟨by decide +kernel, rfl⟩
theorem d_B_clear_6 : dc cd_B_clear 6 (.invokevirtual 30) 3 9 := ⟨by decide +kernel, rfl⟩
theorem d_B_clear_9 : dc cd_B_clear 9 (.iload_n 1) 1 10 := ⟨by decide +kernel, rfl⟩
theorem d_B_clear_10 : dc cd_B_clear 10 (.ireturn) 1 11 := ⟨by decide +kernel, rfl⟩
theorem d_B_isWithin_0 : dc cd_B_isWithin 0 (.iload_n 0) 1 1 := ⟨by decide +kernel, rfl⟩
theorem d_B_isWithin_1 : dc cd_B_isWithin 1 (.iload_n 1) 1 2 := ⟨by decide +kernel, rfl⟩
theorem d_B_isWithin_2 : dc cd_B_isWithin 2 (.if_icmp .lt 12) 3 5 := ⟨by decide +kernel, rfl⟩
theorem d_B_isWithin_5 : dc cd_B_isWithin 5 (.iload_n 0) 1 6 := ⟨by decide +kernel, rfl⟩
theorem d_B_isWithin_6 : dc cd_B_isWithin 6 (.iload_n 2) 1 7 := ⟨by decide +kernel, rfl⟩
theorem d_B_isWithin_7 : dc cd_B_isWithin 7 (.if_icmp .gt 7) 3 10 := ⟨by decide +kernel, rfl⟩
theorem d_B_isWithin_10 : dc cd_B_isWithin 10 (.iconst 1) 1 11 := ⟨by decide +kernel, rfl⟩
theorem d_B_isWithin_11 : dc cd_B_isWithin 11 (.goto 4) 3 14 := ⟨by decide +kernel, rfl⟩
theorem d_B_isWithin_14 : dc cd_B_isWithin 14 (.iconst 0) 1 15 := ⟨by decide +kernel, rfl⟩
theorem d_B_isWithin_15 : dc cd_B_isWithin 15 (.ireturn) 1 16 := ⟨by decide +kernel, rfl⟩
theorem d_B_isSide_0 : dc cd_B_isSide 0 (.iload_n 0) 1 1 := ⟨by decide +kernel, rfl⟩
theorem d_B_isSide_1 : dc cd_B_isSide 1 (.iconst 0) 1 2 := ⟨by decide +kernel, rfl⟩
theorem d_B_isSide_2 : dc cd_B_isSide 2 (.iconst 1) 1 3 := ⟨by decide +kernel, rfl⟩
theorem d_B_isSide_3 : dc cd_B_isSide 3 (.invokestatic 41) 3 6 := ⟨by decide +kernel, rfl⟩
theorem d_B_isSide_6 : dc cd_B_isSide 6 (.ireturn) 1 7 := ⟨by decide +kernel, rfl⟩
theorem d_B_isCoin_0 : dc cd_B_isCoin 0 (.iload_n 0) 1 1 := ⟨by decide +kernel, rfl⟩
theorem d_B_isCoin_1 : dc cd_B_isCoin 1 (.iconst 0) 1 2 := ⟨by decide +kernel, rfl⟩
theorem d_B_isCoin_2 : dc cd_B_isCoin 2 (.iconst 1) 1 3 := ⟨by decide +kernel, rfl⟩
theorem d_B_isCoin_3 : dc cd_B_isCoin 3 (.invokestatic 41) 3 6 := ⟨by decide +kernel, rfl⟩
theorem d_B_isCoin_6 : dc cd_B_isCoin 6 (.ireturn) 1 7 := ⟨by decide +kernel, rfl⟩
theorem d_B_isAccount_0 : dc cd_B_isAccount 0 (.iload_n 0) 1 1 := ⟨by decide +kernel, rfl⟩
theorem d_B_isAccount_1 : dc cd_B_isAccount 1 (.iconst 0) 1 2 := ⟨by decide +kernel, rfl⟩
theorem d_B_isAccount_2 : dc cd_B_isAccount 2 (.iconst 3) 1 3 := ⟨by decide +kernel, rfl⟩
theorem d_B_isAccount_3 : dc cd_B_isAccount 3 (.invokestatic 41) 3 6 := ⟨by decide +kernel, rfl⟩
theorem d_B_isAccount_6 : dc cd_B_isAccount 6 (.ireturn) 1 7 := ⟨by decide +kernel, rfl⟩
theorem d_B_isChannel_0 : dc cd_B_isChannel 0 (.iload_n 1) 1 1 := ⟨by decide +kernel, rfl⟩
theorem d_B_isChannel_1 : dc cd_B_isChannel 1 (.iconst 0) 1 2 := ⟨by decide +kernel, rfl⟩
theorem d_B_isChannel_2 : dc cd_B_isChannel 2 (.aload_n 0) 1 3 := ⟨by decide +kernel, rfl⟩
theorem d_B_isChannel_3 : dc cd_B_isChannel 3 (.getfield 80) 3 6 := ⟨by decide +kernel, rfl⟩
theorem d_B_isChannel_6 : dc cd_B_isChannel 6 (.iconst 1) 1 7 := ⟨by decide +kernel, rfl⟩
theorem d_B_isChannel_7 : dc cd_B_isChannel 7 (.isub) 1 8 := ⟨by decide +kernel, rfl⟩
theorem d_B_isChannel_8 : dc cd_B_isChannel 8 (.invokestatic 41) 3 11 := ⟨by decide +kernel, rfl⟩
theorem d_B_isChannel_11 : dc cd_B_isChannel 11 (.ireturn) 1 12 := ⟨by decide +kernel, rfl⟩
theorem d_B_isMessage_0 : dc cd_B_isMessage 0 (.iload_n 1) 1 1 := ⟨by decide +kernel, rfl⟩
theorem d_B_isMessage_1 : dc cd_B_isMessage 1 (.iconst 0) 1 2 := ⟨by decide +kernel, rfl⟩
theorem d_B_isMessage_2 : dc cd_B_isMessage 2 (.aload_n 0) 1 3 := ⟨by decide +kernel, rfl⟩
theorem d_B_isMessage_3 : dc cd_B_isMessage 3 (.getfield 127) 3 6 := ⟨by decide +kernel, rfl⟩
theorem d_B_isMessage_6 : dc cd_B_isMessage 6 (.iconst 1) 1 7 := ⟨by decide +kernel, rfl⟩
theorem d_B_isMessage_7 : dc cd_B_isMessage 7 (.isub) 1 8 := ⟨by decide +kernel, rfl⟩
theorem d_B_isMessage_8 : dc cd_B_isMessage 8 (.invokestatic 41) 3 11 := ⟨by decide +kernel, rfl⟩
theorem d_B_isMessage_11 : dc cd_B_isMessage 11 (.ireturn) 1 12 := ⟨by decide +kernel, rfl⟩
theorem d_B_oneIf_0 : dc cd_B_oneIf 0 (.iload_n 0) 1 1 := ⟨by decide +kernel, rfl⟩
theorem d_B_oneIf_1 : dc cd_B_oneIf 1 (.ifCond .eq 7) 3 4 := ⟨by decide +kernel, rfl⟩
theorem d_B_oneIf_4 : dc cd_B_oneIf 4 (.iconst 1) 1 5 := ⟨by decide +kernel, rfl⟩
theorem d_B_oneIf_5 : dc cd_B_oneIf 5 (.goto 4) 3 8 := ⟨by decide +kernel, rfl⟩
theorem d_B_oneIf_8 : dc cd_B_oneIf 8 (.iconst 0) 1 9 := ⟨by decide +kernel, rfl⟩
theorem d_B_oneIf_9 : dc cd_B_oneIf 9 (.ireturn) 1 10 := ⟨by decide +kernel, rfl⟩
theorem d_B_refusalOfStep_0 : dc cd_B_refusalOfStep 0 (.aload_n 0) 1 1 := ⟨by decide +kernel, rfl⟩
theorem d_B_refusalOfStep_1 : dc cd_B_refusalOfStep 1 (.getfield 17) 3 4 := ⟨by decide +kernel, rfl⟩
theorem d_B_refusalOfStep_4 : dc cd_B_refusalOfStep 4 (.iload_n 1) 1 5 := ⟨by decide +kernel, rfl⟩
theorem d_B_refusalOfStep_5 : dc cd_B_refusalOfStep 5 (.aaload) 1 6 := ⟨by decide +kernel, rfl⟩
theorem d_B_refusalOfStep_6 : dc cd_B_refusalOfStep 6 (.getfield 89) 3 9 := ⟨by decide +kernel, rfl⟩
theorem d_B_refusalOfStep_9 : dc cd_B_refusalOfStep 9 (.astore 6) 2 11 := ⟨by decide +kernel, rfl⟩
theorem d_B_refusalOfStep_11 : dc cd_B_refusalOfStep 11 (.aload 6) 2 13 := ⟨by decide +kernel, rfl⟩
theorem d_B_refusalOfStep_13 : dc cd_B_refusalOfStep 13 (.iload_n 2) 1 14 := ⟨by decide +kernel, rfl⟩
theorem d_B_refusalOfStep_14 : dc cd_B_refusalOfStep 14 (.aaload) 1 15 := ⟨by decide +kernel, rfl⟩
theorem d_B_refusalOfStep_15 : dc cd_B_refusalOfStep 15 (.getfield 114) 3 18 := ⟨by decide +kernel, rfl⟩
theorem d_B_refusalOfStep_18 : dc cd_B_refusalOfStep 18 (.iload_n 3) 1 19 := ⟨by decide +kernel, rfl⟩
theorem d_B_refusalOfStep_19 : dc cd_B_refusalOfStep 19 (.if_icmp .eq 6) 3 22 := ⟨by decide +kernel, rfl⟩
theorem d_B_refusalOfStep_22 : dc cd_B_refusalOfStep 22 (.bipush (-3)) 2 24 := ⟨by decide +kernel, rfl⟩
theorem d_B_refusalOfStep_24 : dc cd_B_refusalOfStep 24 (.ireturn) 1 25 := ⟨by decide +kernel, rfl⟩
theorem d_B_refusalOfStep_25 : dc cd_B_refusalOfStep 25 (.aload_n 0) 1 26 := ⟨by decide +kernel, rfl⟩
theorem d_B_refusalOfStep_26 : dc cd_B_refusalOfStep 26 (.getfield 11) 3 29 := ⟨by decide +kernel, rfl⟩
theorem d_B_refusalOfStep_29 : dc cd_B_refusalOfStep 29 (.iload_n 2) 1 30 := ⟨by decide +kernel, rfl⟩
theorem d_B_refusalOfStep_30 : dc cd_B_refusalOfStep 30 (.aaload) 1 31 := ⟨by decide +kernel, rfl⟩
theorem d_B_refusalOfStep_31 : dc cd_B_refusalOfStep 31 (.getfield 45) 3 34 := ⟨by decide +kernel, rfl⟩
theorem d_B_refusalOfStep_34 : dc cd_B_refusalOfStep 34 (.iload 5) 2 36 := ⟨by decide +kernel, rfl⟩
theorem d_B_refusalOfStep_36 : dc cd_B_refusalOfStep 36 (.invokevirtual 150) 3 39 := ⟨by decide +kernel, rfl⟩
theorem d_B_refusalOfStep_39 : dc cd_B_refusalOfStep 39 (.istore 7) 2 41 := ⟨by decide +kernel, rfl⟩
theorem d_B_refusalOfStep_41 : dc cd_B_refusalOfStep 41 (.iload 7) 2 43 := ⟨by decide +kernel, rfl⟩
theorem d_B_refusalOfStep_43 : dc cd_B_refusalOfStep 43 (.ifCond .eq 6) 3 46 := ⟨by decide +kernel, rfl⟩
theorem d_B_refusalOfStep_46 : dc cd_B_refusalOfStep 46 (.iload 7) 2 48 := ⟨by decide +kernel, rfl⟩
theorem d_B_refusalOfStep_48 : dc cd_B_refusalOfStep 48 (.ireturn) 1 49 := ⟨by decide +kernel, rfl⟩
theorem d_B_refusalOfStep_49 : dc cd_B_refusalOfStep 49 (.aload 6) 2 51 := ⟨by decide +kernel, rfl⟩
theorem d_B_refusalOfStep_51 : dc cd_B_refusalOfStep 51 (.iconst 1) 1 52 := ⟨by decide +kernel, rfl⟩
theorem d_B_refusalOfStep_52 : dc cd_B_refusalOfStep 52 (.iload_n 2) 1 53 := ⟨by decide +kernel, rfl⟩
theorem d_B_refusalOfStep_53 : dc cd_B_refusalOfStep 53 (.isub) 1 54 := ⟨by decide +kernel, rfl⟩
theorem d_B_refusalOfStep_54 : dc cd_B_refusalOfStep 54 (.aaload) 1 55 := ⟨by decide +kernel, rfl⟩
theorem d_B_refusalOfStep_55 : dc cd_B_refusalOfStep 55 (.iload 5) 2 57 := ⟨by decide +kernel, rfl⟩
theorem d_B_refusalOfStep_57 : dc cd_B_refusalOfStep 57 (.invokevirtual 203) 3 60 := ⟨by decide +kernel, rfl⟩
theorem d_B_refusalOfStep_60 : dc cd_B_refusalOfStep 60 (.iload 4) 2 62 := ⟨by decide +kernel, rfl⟩
theorem d_B_refusalOfStep_62 : dc cd_B_refusalOfStep 62 (.if_icmp .ne 7) 3 65 := ⟨by decide +kernel, rfl⟩
theorem d_B_refusalOfStep_65 : dc cd_B_refusalOfStep 65 (.iconst 0) 1 66 := ⟨by decide +kernel, rfl⟩
theorem d_B_refusalOfStep_66 : dc cd_B_refusalOfStep 66 (.goto 5) 3 69 := ⟨by decide +kernel, rfl⟩
theorem d_B_refusalOfStep_69 : dc cd_B_refusalOfStep 69 (.bipush (-6)) 2 71 := ⟨by decide +kernel, rfl⟩
theorem d_B_refusalOfStep_71 : dc cd_B_refusalOfStep 71 (.ireturn) 1 72 := ⟨by decide +kernel, rfl⟩
theorem d_B_refusalAtSender_0 : dc cd_B_refusalAtSender 0 (.aload_n 1) 1 1 := ⟨by decide +kernel, rfl⟩
theorem d_B_refusalAtSender_1 : dc cd_B_refusalAtSender 1 (.getfield 212) 3 4 := ⟨by decide +kernel, rfl⟩
theorem d_B_refusalAtSender_4 : dc cd_B_refusalAtSender 4 (.ifCond .ne 6) 3 7 := ⟨by decide +kernel, rfl⟩
theorem d_B_refusalAtSender_7 : dc cd_B_refusalAtSender 7 (.bipush (-3)) 2 9 := ⟨by decide +kernel, rfl⟩
theorem d_B_refusalAtSender_9 : dc cd_B_refusalAtSender 9 (.ireturn) 1 10 := ⟨by decide +kernel, rfl⟩
theorem d_B_refusalAtSender_10 : dc cd_B_refusalAtSender 10 (.aload_n 0) 1 11 := ⟨by decide +kernel, rfl⟩
theorem d_B_refusalAtSender_11 : dc cd_B_refusalAtSender 11 (.getfield 11) 3 14 := ⟨by decide +kernel, rfl⟩
theorem d_B_refusalAtSender_14 : dc cd_B_refusalAtSender 14 (.aload_n 1) 1 15 := ⟨by decide +kernel, rfl⟩
theorem d_B_refusalAtSender_15 : dc cd_B_refusalAtSender 15 (.getfield 141) 3 18 := ⟨by decide +kernel, rfl⟩
theorem d_B_refusalAtSender_18 : dc cd_B_refusalAtSender 18 (.aaload) 1 19 := ⟨by decide +kernel, rfl⟩
theorem d_B_refusalAtSender_19 : dc cd_B_refusalAtSender 19 (.getfield 45) 3 22 := ⟨by decide +kernel, rfl⟩
theorem d_B_refusalAtSender_22 : dc cd_B_refusalAtSender 22 (.iload_n 2) 1 23 := ⟨by decide +kernel, rfl⟩
theorem d_B_refusalAtSender_23 : dc cd_B_refusalAtSender 23 (.invokevirtual 150) 3 26 := ⟨by decide +kernel, rfl⟩
theorem d_B_refusalAtSender_26 : dc cd_B_refusalAtSender 26 (.ireturn) 1 27 := ⟨by decide +kernel, rfl⟩
theorem d_B_areAllBeforeReceived_0 : dc cd_B_areAllBeforeReceived 0 (.iconst 0) 1 1 := ⟨by decide +kernel, rfl⟩
theorem d_B_areAllBeforeReceived_1 : dc cd_B_areAllBeforeReceived 1 (.istore_n 2) 1 2 := ⟨by decide +kernel, rfl⟩
theorem d_B_areAllBeforeReceived_2 : dc cd_B_areAllBeforeReceived 2 (.iload_n 2) 1 3 := ⟨by decide +kernel, rfl⟩
theorem d_B_areAllBeforeReceived_3 : dc cd_B_areAllBeforeReceived 3 (.iload_n 1) 1 4 := ⟨by decide +kernel, rfl⟩
theorem d_B_areAllBeforeReceived_4 : dc cd_B_areAllBeforeReceived 4 (.if_icmp .ge 41) 3 7 := ⟨by decide +kernel, rfl⟩
theorem d_B_areAllBeforeReceived_7 : dc cd_B_areAllBeforeReceived 7 (.aload_n 0) 1 8 := ⟨by decide +kernel, rfl⟩
theorem d_B_areAllBeforeReceived_8 : dc cd_B_areAllBeforeReceived 8 (.getfield 23) 3 11 := ⟨by decide +kernel, rfl⟩
theorem d_B_areAllBeforeReceived_11 : dc cd_B_areAllBeforeReceived 11 (.iload_n 2) 1 12 := ⟨by decide +kernel, rfl⟩
theorem d_B_areAllBeforeReceived_12 : dc cd_B_areAllBeforeReceived 12 (.aaload) 1 13 := ⟨by decide +kernel, rfl⟩
theorem d_B_areAllBeforeReceived_13 : dc cd_B_areAllBeforeReceived 13 (.aload_n 0) 1 14 := ⟨by decide +kernel, rfl⟩
theorem d_B_areAllBeforeReceived_14 : dc cd_B_areAllBeforeReceived 14 (.getfield 23) 3 17 := ⟨by decide +kernel, rfl⟩
theorem d_B_areAllBeforeReceived_17 : dc cd_B_areAllBeforeReceived 17 (.iload_n 1) 1 18 := ⟨by decide +kernel, rfl⟩
theorem d_B_areAllBeforeReceived_18 : dc cd_B_areAllBeforeReceived 18 (.aaload) 1 19 := ⟨by decide +kernel, rfl⟩
theorem d_B_areAllBeforeReceived_19 : dc cd_B_areAllBeforeReceived 19 (.invokevirtual 242) 3 22 := ⟨by decide +kernel, rfl⟩
theorem d_B_areAllBeforeReceived_22 : dc cd_B_areAllBeforeReceived 22 (.ifCond .eq 17) 3 25 := ⟨by decide +kernel, rfl⟩
theorem d_B_areAllBeforeReceived_25 : dc cd_B_areAllBeforeReceived 25 (.aload_n 0) 1 26 := ⟨by decide +kernel, rfl⟩
theorem d_B_areAllBeforeReceived_26 : dc cd_B_areAllBeforeReceived 26 (.getfield 23) 3 29 := ⟨by decide +kernel, rfl⟩
theorem d_B_areAllBeforeReceived_29 : dc cd_B_areAllBeforeReceived 29 (.iload_n 2) 1 30 := ⟨by decide +kernel, rfl⟩
theorem d_B_areAllBeforeReceived_30 : dc cd_B_areAllBeforeReceived 30 (.aaload) 1 31 := ⟨by decide +kernel, rfl⟩
theorem d_B_areAllBeforeReceived_31 : dc cd_B_areAllBeforeReceived 31 (.getfield 147) 3 34 := ⟨by decide +kernel, rfl⟩
theorem d_B_areAllBeforeReceived_34 : dc cd_B_areAllBeforeReceived 34 (.ifCond .ne 5) 3 37 := ⟨by decide +kernel, rfl⟩
theorem d_B_areAllBeforeReceived_37 : dc cd_B_areAllBeforeReceived 37 (.iconst 0) 1 38 := ⟨by decide +kernel, rfl⟩
theorem d_B_areAllBeforeReceived_38 : dc cd_B_areAllBeforeReceived 38 (.ireturn) 1 39 := ⟨by decide +kernel, rfl⟩
theorem d_B_areAllBeforeReceived_39 : dc cd_B_areAllBeforeReceived 39 (.iinc 2 1) 3 42 := ⟨by decide +kernel, rfl⟩
theorem d_B_areAllBeforeReceived_42 : dc cd_B_areAllBeforeReceived 42 (.goto (-40)) 3 45 := ⟨by decide +kernel, rfl⟩
theorem d_B_areAllBeforeReceived_45 : dc cd_B_areAllBeforeReceived 45 (.iconst 1) 1 46 := ⟨by decide +kernel, rfl⟩
theorem d_B_areAllBeforeReceived_46 : dc cd_B_areAllBeforeReceived 46 (.ireturn) 1 47 := ⟨by decide +kernel, rfl⟩
theorem d_B_standsOneBefore_0 : dc cd_B_standsOneBefore 0 (.iconst 0) 1 1 := ⟨by decide +kernel, rfl⟩
theorem d_B_standsOneBefore_1 : dc cd_B_standsOneBefore 1 (.istore_n 2) 1 2 := ⟨by decide +kernel, rfl⟩
theorem d_B_standsOneBefore_2 : dc cd_B_standsOneBefore 2 (.iload_n 2) 1 3 := ⟨by decide +kernel, rfl⟩
theorem d_B_standsOneBefore_3 : dc cd_B_standsOneBefore 3 (.iload_n 1) 1 4 := ⟨by decide +kernel, rfl⟩
theorem d_B_standsOneBefore_4 : dc cd_B_standsOneBefore 4 (.if_icmp .ge 41) 3 7 := ⟨by decide +kernel, rfl⟩
theorem d_B_standsOneBefore_7 : dc cd_B_standsOneBefore 7 (.aload_n 0) 1 8 := ⟨by decide +kernel, rfl⟩
theorem d_B_standsOneBefore_8 : dc cd_B_standsOneBefore 8 (.getfield 23) 3 11 := ⟨by decide +kernel, rfl⟩
theorem d_B_standsOneBefore_11 : dc cd_B_standsOneBefore 11 (.iload_n 2) 1 12 := ⟨by decide +kernel, rfl⟩
theorem d_B_standsOneBefore_12 : dc cd_B_standsOneBefore 12 (.aaload) 1 13 := ⟨by decide +kernel, rfl⟩
theorem d_B_standsOneBefore_13 : dc cd_B_standsOneBefore 13 (.aload_n 0) 1 14 := ⟨by decide +kernel, rfl⟩
theorem d_B_standsOneBefore_14 : dc cd_B_standsOneBefore 14 (.getfield 23) 3 17 := ⟨by decide +kernel, rfl⟩
theorem d_B_standsOneBefore_17 : dc cd_B_standsOneBefore 17 (.iload_n 1) 1 18 := ⟨by decide +kernel, rfl⟩
theorem d_B_standsOneBefore_18 : dc cd_B_standsOneBefore 18 (.aaload) 1 19 := ⟨by decide +kernel, rfl⟩
theorem d_B_standsOneBefore_19 : dc cd_B_standsOneBefore 19 (.invokevirtual 242) 3 22 := ⟨by decide +kernel, rfl⟩
theorem d_B_standsOneBefore_22 : dc cd_B_standsOneBefore 22 (.ifCond .eq 17) 3 25 := ⟨by decide +kernel, rfl⟩
theorem d_B_standsOneBefore_25 : dc cd_B_standsOneBefore 25 (.aload_n 0) 1 26 := ⟨by decide +kernel, rfl⟩
theorem d_B_standsOneBefore_26 : dc cd_B_standsOneBefore 26 (.getfield 23) 3 29 := ⟨by decide +kernel, rfl⟩
theorem d_B_standsOneBefore_29 : dc cd_B_standsOneBefore 29 (.iload_n 2) 1 30 := ⟨by decide +kernel, rfl⟩
theorem d_B_standsOneBefore_30 : dc cd_B_standsOneBefore 30 (.aaload) 1 31 := ⟨by decide +kernel, rfl⟩
theorem d_B_standsOneBefore_31 : dc cd_B_standsOneBefore 31 (.getfield 212) 3 34 := ⟨by decide +kernel, rfl⟩
theorem d_B_standsOneBefore_34 : dc cd_B_standsOneBefore 34 (.ifCond .eq 5) 3 37 := ⟨by decide +kernel, rfl⟩
theorem d_B_standsOneBefore_37 : dc cd_B_standsOneBefore 37 (.iconst 1) 1 38 := ⟨by decide +kernel, rfl⟩
theorem d_B_standsOneBefore_38 : dc cd_B_standsOneBefore 38 (.ireturn) 1 39 := ⟨by decide +kernel, rfl⟩
theorem d_B_standsOneBefore_39 : dc cd_B_standsOneBefore 39 (.iinc 2 1) 3 42 := ⟨by decide +kernel, rfl⟩
theorem d_B_standsOneBefore_42 : dc cd_B_standsOneBefore 42 (.goto (-40)) 3 45 := ⟨by decide +kernel, rfl⟩
theorem d_B_standsOneBefore_45 : dc cd_B_standsOneBefore 45 (.iconst 0) 1 46 := ⟨by decide +kernel, rfl⟩
theorem d_B_standsOneBefore_46 : dc cd_B_standsOneBefore 46 (.ireturn) 1 47 := ⟨by decide +kernel, rfl⟩
theorem d_B_purse_0 : dc cd_B_purse 0 (.iload_n 3) 1 1 := ⟨by decide +kernel, rfl⟩
theorem d_B_purse_1 : dc cd_B_purse 1 (.iload_n 2) 1 2 := ⟨by decide +kernel, rfl⟩
theorem d_B_purse_2 : dc cd_B_purse 2 (.if_icmp .ne 15) 3 5 := ⟨by decide +kernel, rfl⟩
theorem d_B_purse_5 : dc cd_B_purse 5 (.aload_n 0) 1 6 := ⟨by decide +kernel, rfl⟩
theorem d_B_purse_6 : dc cd_B_purse 6 (.getfield 11) 3 9 := ⟨by decide +kernel, rfl⟩
theorem d_B_purse_9 : dc cd_B_purse 9 (.iload_n 2) 1 10 := ⟨by decide +kernel, rfl⟩
theorem d_B_purse_10 : dc cd_B_purse 10 (.aaload) 1 11 := ⟨by decide +kernel, rfl⟩
theorem d_B_purse_11 : dc cd_B_purse 11 (.getfield 218) 3 14 := ⟨by decide +kernel, rfl⟩
theorem d_B_purse_14 : dc cd_B_purse 14 (.goto 17) 3 17 := ⟨by decide +kernel, rfl⟩
theorem d_B_purse_17 : dc cd_B_purse 17 (.aload_n 0) 1 18 := ⟨by decide +kernel, rfl⟩
theorem d_B_purse_18 : dc cd_B_purse 18 (.getfield 17) 3 21 := ⟨by decide +kernel, rfl⟩
theorem d_B_purse_21 : dc cd_B_purse 21 (.iload_n 1) 1 22 := ⟨by decide +kernel, rfl⟩
theorem d_B_purse_22 : dc cd_B_purse 22 (.aaload) 1 23 := ⟨by decide +kernel, rfl⟩
theorem d_B_purse_23 : dc cd_B_purse 23 (.getfield 89) 3 26 := ⟨by decide +kernel, rfl⟩
theorem d_B_purse_26 : dc cd_B_purse 26 (.iload_n 2) 1 27 := ⟨by decide +kernel, rfl⟩
theorem d_B_purse_27 : dc cd_B_purse 27 (.aaload) 1 28 := ⟨by decide +kernel, rfl⟩
theorem d_B_purse_28 : dc cd_B_purse 28 (.getfield 222) 3 31 := ⟨by decide +kernel, rfl⟩
theorem d_B_purse_31 : dc cd_B_purse 31 (.areturn) 1 32 := ⟨by decide +kernel, rfl⟩
theorem d_B_takeIn_0 : dc cd_B_takeIn 0 (.aload_n 0) 1 1 := ⟨by decide +kernel, rfl⟩
theorem d_B_takeIn_1 : dc cd_B_takeIn 1 (.iload_n 1) 1 2 := ⟨by decide +kernel, rfl⟩
theorem d_B_takeIn_2 : dc cd_B_takeIn 2 (.iload_n 2) 1 3 := ⟨by decide +kernel, rfl⟩
theorem d_B_takeIn_3 : dc cd_B_takeIn 3 (.iload 4) 2 5 := ⟨by decide +kernel, rfl⟩
theorem d_B_takeIn_5 : dc cd_B_takeIn 5 (.invokevirtual 123) 3 8 := ⟨by decide +kernel, rfl⟩
theorem d_B_takeIn_8 : dc cd_B_takeIn 8 (.iload_n 3) 1 9 := ⟨by decide +kernel, rfl⟩
theorem d_B_takeIn_9 : dc cd_B_takeIn 9 (.dup2) 1 10 := ⟨by decide +kernel, rfl⟩
theorem d_B_takeIn_10 : dc cd_B_takeIn 10 (.iaload) 1 11 := ⟨by decide +kernel, rfl⟩
theorem d_B_takeIn_11 : dc cd_B_takeIn 11 (.iload 5) 2 13 := ⟨by decide +kernel, rfl⟩
theorem d_B_takeIn_13 : dc cd_B_takeIn 13 (.isub) 1 14 := ⟨by decide +kernel, rfl⟩
theorem d_B_takeIn_14 : dc cd_B_takeIn 14 (.iastore) 1 15 := ⟨by decide +kernel, rfl⟩
theorem d_B_takeIn_15 : dc cd_B_takeIn 15 (.iload 4) 2 17 := ⟨by decide +kernel, rfl⟩
theorem d_B_takeIn_17 : dc cd_B_takeIn 17 (.iload_n 2) 1 18 := ⟨by decide +kernel, rfl⟩
theorem d_B_takeIn_18 : dc cd_B_takeIn 18 (.if_icmp .ne 24) 3 21 := ⟨by decide +kernel, rfl⟩
theorem d_B_takeIn_21 : dc cd_B_takeIn 21 (.aload_n 0) 1 22 := ⟨by decide +kernel, rfl⟩
theorem d_B_takeIn_22 : dc cd_B_takeIn 22 (.getfield 17) 3 25 := ⟨by decide +kernel, rfl⟩
theorem d_B_takeIn_25 : dc cd_B_takeIn 25 (.iload_n 1) 1 26 := ⟨by decide +kernel, rfl⟩
theorem d_B_takeIn_26 : dc cd_B_takeIn 26 (.aaload) 1 27 := ⟨by decide +kernel, rfl⟩
theorem d_B_takeIn_27 : dc cd_B_takeIn 27 (.getfield 89) 3 30 := ⟨by decide +kernel, rfl⟩
theorem d_B_takeIn_30 : dc cd_B_takeIn 30 (.iload_n 2) 1 31 := ⟨by decide +kernel, rfl⟩
theorem d_B_takeIn_31 : dc cd_B_takeIn 31 (.aaload) 1 32 := ⟨by decide +kernel, rfl⟩
theorem d_B_takeIn_32 : dc cd_B_takeIn 32 (.dup) 1 33 := ⟨by decide +kernel, rfl⟩
theorem d_B_takeIn_33 : dc cd_B_takeIn 33 (.getfield 197) 3 36 := ⟨by decide +kernel, rfl⟩
theorem d_B_takeIn_36 : dc cd_B_takeIn 36 (.iload 5) 2 38 := ⟨by decide +kernel, rfl⟩
theorem d_B_takeIn_38 : dc cd_B_takeIn 38 (.iadd) 1 39 := ⟨by decide +kernel, rfl⟩
theorem d_B_takeIn_39 : dc cd_B_takeIn 39 (.putfield 197) 3 42 := ⟨by decide +kernel, rfl⟩
theorem d_B_takeIn_42 : dc cd_B_takeIn 42 (.return_) 1 43 := ⟨by decide +kernel, rfl⟩
theorem d_B_giveOut_0 : dc cd_B_giveOut 0 (.aload_n 0) 1 1 := ⟨by decide +kernel, rfl⟩
theorem d_B_giveOut_1 : dc cd_B_giveOut 1 (.iload_n 1) 1 2 := ⟨by decide +kernel, rfl⟩
theorem d_B_giveOut_2 : dc cd_B_giveOut 2 (.iload_n 2) 1 3 := ⟨by decide +kernel, rfl⟩
theorem d_B_giveOut_3 : dc cd_B_giveOut 3 (.iload 4) 2 5 := ⟨by decide +kernel, rfl⟩
theorem d_B_giveOut_5 : dc cd_B_giveOut 5 (.invokevirtual 123) 3 8 := ⟨by decide +kernel, rfl⟩
theorem d_B_giveOut_8 : dc cd_B_giveOut 8 (.iload_n 3) 1 9 := ⟨by decide +kernel, rfl⟩
theorem d_B_giveOut_9 : dc cd_B_giveOut 9 (.dup2) 1 10 := ⟨by decide +kernel, rfl⟩
theorem d_B_giveOut_10 : dc cd_B_giveOut 10 (.iaload) 1 11 := ⟨by decide +kernel, rfl⟩
theorem d_B_giveOut_11 : dc cd_B_giveOut 11 (.iload 5) 2 13 := ⟨by decide +kernel, rfl⟩
theorem d_B_giveOut_13 : dc cd_B_giveOut 13 (.iadd) 1 14 := ⟨by decide +kernel, rfl⟩
theorem d_B_giveOut_14 : dc cd_B_giveOut 14 (.iastore) 1 15 := ⟨by decide +kernel, rfl⟩
theorem d_B_giveOut_15 : dc cd_B_giveOut 15 (.iload 4) 2 17 := ⟨by decide +kernel, rfl⟩
theorem d_B_giveOut_17 : dc cd_B_giveOut 17 (.iload_n 2) 1 18 := ⟨by decide +kernel, rfl⟩
theorem d_B_giveOut_18 : dc cd_B_giveOut 18 (.if_icmp .ne 24) 3 21 := ⟨by decide +kernel, rfl⟩
theorem d_B_giveOut_21 : dc cd_B_giveOut 21 (.aload_n 0) 1 22 := ⟨by decide +kernel, rfl⟩
theorem d_B_giveOut_22 : dc cd_B_giveOut 22 (.getfield 17) 3 25 := ⟨by decide +kernel, rfl⟩
theorem d_B_giveOut_25 : dc cd_B_giveOut 25 (.iload_n 1) 1 26 := ⟨by decide +kernel, rfl⟩
theorem d_B_giveOut_26 : dc cd_B_giveOut 26 (.aaload) 1 27 := ⟨by decide +kernel, rfl⟩
theorem d_B_giveOut_27 : dc cd_B_giveOut 27 (.getfield 89) 3 30 := ⟨by decide +kernel, rfl⟩
theorem d_B_giveOut_30 : dc cd_B_giveOut 30 (.iload_n 2) 1 31 := ⟨by decide +kernel, rfl⟩
theorem d_B_giveOut_31 : dc cd_B_giveOut 31 (.aaload) 1 32 := ⟨by decide +kernel, rfl⟩
theorem d_B_giveOut_32 : dc cd_B_giveOut 32 (.dup) 1 33 := ⟨by decide +kernel, rfl⟩
theorem d_B_giveOut_33 : dc cd_B_giveOut 33 (.getfield 197) 3 36 := ⟨by decide +kernel, rfl⟩
theorem d_B_giveOut_36 : dc cd_B_giveOut 36 (.iload 5) 2 38 := ⟨by decide +kernel, rfl⟩
theorem d_B_giveOut_38 : dc cd_B_giveOut 38 (.isub) 1 39 := ⟨by decide +kernel, rfl⟩
theorem d_B_giveOut_39 : dc cd_B_giveOut 39 (.putfield 197) 3 42 := ⟨by decide +kernel, rfl⟩
theorem d_B_giveOut_42 : dc cd_B_giveOut 42 (.return_) 1 43 := ⟨by decide +kernel, rfl⟩
theorem d_B_write_0 : dc cd_B_write 0 (.aload_n 0) 1 1 := ⟨by decide +kernel, rfl⟩
theorem d_B_write_1 : dc cd_B_write 1 (.getfield 17) 3 4 := ⟨by decide +kernel, rfl⟩
theorem d_B_write_4 : dc cd_B_write 4 (.iload_n 1) 1 5 := ⟨by decide +kernel, rfl⟩
theorem d_B_write_5 : dc cd_B_write 5 (.aaload) 1 6 := ⟨by decide +kernel, rfl⟩
theorem d_B_write_6 : dc cd_B_write 6 (.getfield 89) 3 9 := ⟨by decide +kernel, rfl⟩
theorem d_B_write_9 : dc cd_B_write 9 (.iload_n 2) 1 10 := ⟨by decide +kernel, rfl⟩
theorem d_B_write_10 : dc cd_B_write 10 (.aaload) 1 11 := ⟨by decide +kernel, rfl⟩
theorem d_B_write_11 : dc cd_B_write 11 (.astore 8) 2 13 := ⟨by decide +kernel, rfl⟩
theorem d_B_write_13 : dc cd_B_write 13 (.aload_n 0) 1 14 := ⟨by decide +kernel, rfl⟩
theorem d_B_write_14 : dc cd_B_write 14 (.getfield 23) 3 17 := ⟨by decide +kernel, rfl⟩
theorem d_B_write_17 : dc cd_B_write 17 (.aload_n 0) 1 18 := ⟨by decide +kernel, rfl⟩
theorem d_B_write_18 : dc cd_B_write 18 (.getfield 127) 3 21 := ⟨by decide +kernel, rfl⟩
theorem d_B_write_21 : dc cd_B_write 21 (.aaload) 1 22 := ⟨by decide +kernel, rfl⟩
theorem d_B_write_22 : dc cd_B_write 22 (.astore 9) 2 24 := ⟨by decide +kernel, rfl⟩
theorem d_B_write_24 : dc cd_B_write 24 (.aload 9) 2 26 := ⟨by decide +kernel, rfl⟩
theorem d_B_write_26 : dc cd_B_write 26 (.iload_n 1) 1 27 := ⟨by decide +kernel, rfl⟩
theorem d_B_write_27 : dc cd_B_write 27 (.putfield 144) 3 30 := ⟨by decide +kernel, rfl⟩
theorem d_B_write_30 : dc cd_B_write 30 (.aload 9) 2 32 := ⟨by decide +kernel, rfl⟩
theorem d_B_write_32 : dc cd_B_write 32 (.iload_n 2) 1 33 := ⟨by decide +kernel, rfl⟩
theorem d_B_write_33 : dc cd_B_write 33 (.putfield 141) 3 36 := ⟨by decide +kernel, rfl⟩
theorem d_B_write_36 : dc cd_B_write 36 (.aload 9) 2 38 := ⟨by decide +kernel, rfl⟩
theorem d_B_write_38 : dc cd_B_write 38 (.aload 8) 2 40 := ⟨by decide +kernel, rfl⟩
theorem d_B_write_40 : dc cd_B_write 40 (.getfield 200) 3 43 := ⟨by decide +kernel, rfl⟩
theorem d_B_write_43 : dc cd_B_write 43 (.putfield 206) 3 46 := ⟨by decide +kernel, rfl⟩
theorem d_B_write_46 : dc cd_B_write 46 (.aload 9) 2 48 := ⟨by decide +kernel, rfl⟩
theorem d_B_write_48 : dc cd_B_write 48 (.iload_n 3) 1 49 := ⟨by decide +kernel, rfl⟩
theorem d_B_write_49 : dc cd_B_write 49 (.putfield 209) 3 52 := ⟨by decide +kernel, rfl⟩
theorem d_B_write_52 : dc cd_B_write 52 (.aload 9) 2 54 := ⟨by decide +kernel, rfl⟩
theorem d_B_write_54 : dc cd_B_write 54 (.iload 4) 2 56 := ⟨by decide +kernel, rfl⟩
theorem d_B_write_56 : dc cd_B_write 56 (.putfield 162) 3 59 := ⟨by decide +kernel, rfl⟩
theorem d_B_write_59 : dc cd_B_write 59 (.aload 9) 2 61 := ⟨by decide +kernel, rfl⟩
theorem d_B_write_61 : dc cd_B_write 61 (.iload 5) 2 63 := ⟨by decide +kernel, rfl⟩
theorem d_B_write_63 : dc cd_B_write 63 (.putfield 165) 3 66 := ⟨by decide +kernel, rfl⟩
theorem d_B_write_66 : dc cd_B_write 66 (.aload 9) 2 68 := ⟨by decide +kernel, rfl⟩
theorem d_B_write_68 : dc cd_B_write 68 (.iload 6) 2 70 := ⟨by decide +kernel, rfl⟩
theorem d_B_write_70 : dc cd_B_write 70 (.putfield 168) 3 73 := ⟨by decide +kernel, rfl⟩
theorem d_B_write_73 : dc cd_B_write 73 (.aload 9) 2 75 := ⟨by decide +kernel, rfl⟩
theorem d_B_write_75 : dc cd_B_write 75 (.iload 7) 2 77 := ⟨by decide +kernel, rfl⟩
theorem d_B_write_77 : dc cd_B_write 77 (.putfield 156) 3 80 := ⟨by decide +kernel, rfl⟩
theorem d_B_write_80 : dc cd_B_write 80 (.aload 9) 2 82 := ⟨by decide +kernel, rfl⟩
theorem d_B_write_82 : dc cd_B_write 82 (.aload_n 0) 1 83 := ⟨by decide +kernel, rfl⟩
theorem d_B_write_83 : dc cd_B_write 83 (.getfield 11) 3 86 := ⟨by decide +kernel, rfl⟩
theorem d_B_write_86 : dc cd_B_write 86 (.iload_n 2) 1 87 := ⟨by decide +kernel, rfl⟩
theorem d_B_write_87 : dc cd_B_write 87 (.aaload) 1 88 := ⟨by decide +kernel, rfl⟩
theorem d_B_write_88 : dc cd_B_write 88 (.getfield 37) 3 91 := ⟨by decide +kernel, rfl⟩
theorem d_B_write_91 : dc cd_B_write 91 (.invokevirtual 246) 3 94 := ⟨by decide +kernel, rfl⟩
theorem d_B_write_94 : dc cd_B_write 94 (.aload 8) 2 96 := ⟨by decide +kernel, rfl⟩
theorem d_B_write_96 : dc cd_B_write 96 (.dup) 1 97 := ⟨by decide +kernel, rfl⟩
theorem d_B_write_97 : dc cd_B_write 97 (.getfield 200) 3 100 := ⟨by decide +kernel, rfl⟩
theorem d_B_write_100 : dc cd_B_write 100 (.iconst 1) 1 101 := ⟨by decide +kernel, rfl⟩
theorem d_B_write_101 : dc cd_B_write 101 (.iadd) 1 102 := ⟨by decide +kernel, rfl⟩
theorem d_B_write_102 : dc cd_B_write 102 (.putfield 200) 3 105 := ⟨by decide +kernel, rfl⟩
theorem d_B_write_105 : dc cd_B_write 105 (.aload_n 0) 1 106 := ⟨by decide +kernel, rfl⟩
theorem d_B_write_106 : dc cd_B_write 106 (.dup) 1 107 := ⟨by decide +kernel, rfl⟩
theorem d_B_write_107 : dc cd_B_write 107 (.getfield 127) 3 110 := ⟨by decide +kernel, rfl⟩
theorem d_B_write_110 : dc cd_B_write 110 (.iconst 1) 1 111 := ⟨by decide +kernel, rfl⟩
theorem d_B_write_111 : dc cd_B_write 111 (.iadd) 1 112 := ⟨by decide +kernel, rfl⟩
theorem d_B_write_112 : dc cd_B_write 112 (.putfield 127) 3 115 := ⟨by decide +kernel, rfl⟩
theorem d_B_write_115 : dc cd_B_write 115 (.return_) 1 116 := ⟨by decide +kernel, rfl⟩
theorem d_B_finish_0 : dc cd_B_finish 0 (.aload_n 1) 1 1 := ⟨by decide +kernel, rfl⟩
theorem d_B_finish_1 : dc cd_B_finish 1 (.iconst 0) 1 2 := ⟨by decide +kernel, rfl⟩
theorem d_B_finish_2 : dc cd_B_finish 2 (.putfield 212) 3 5 := ⟨by decide +kernel, rfl⟩
theorem d_B_finish_5 : dc cd_B_finish 5 (.aload_n 1) 1 6 := ⟨by decide +kernel, rfl⟩
theorem d_B_finish_6 : dc cd_B_finish 6 (.aload_n 0) 1 7 := ⟨by decide +kernel, rfl⟩
theorem d_B_finish_7 : dc cd_B_finish 7 (.getfield 11) 3 10 := ⟨by decide +kernel, rfl⟩
theorem d_B_finish_10 : dc cd_B_finish 10 (.aload_n 1) 1 11 := ⟨by decide +kernel, rfl⟩
theorem d_B_finish_11 : dc cd_B_finish 11 (.getfield 141) 3 14 := ⟨by decide +kernel, rfl⟩
theorem d_B_finish_14 : dc cd_B_finish 14 (.aaload) 1 15 := ⟨by decide +kernel, rfl⟩
theorem d_B_finish_15 : dc cd_B_finish 15 (.getfield 37) 3 18 := ⟨by decide +kernel, rfl⟩
theorem d_B_finish_18 : dc cd_B_finish 18 (.putfield 250) 3 21 := ⟨by decide +kernel, rfl⟩
theorem d_B_finish_21 : dc cd_B_finish 21 (.return_) 1 22 := ⟨by decide +kernel, rfl⟩
theorem d_B_giveBack_0 : dc cd_B_giveBack 0 (.aload_n 0) 1 1 := ⟨by decide +kernel, rfl⟩
theorem d_B_giveBack_1 : dc cd_B_giveBack 1 (.aload_n 1) 1 2 := ⟨by decide +kernel, rfl⟩
theorem d_B_giveBack_2 : dc cd_B_giveBack 2 (.getfield 144) 3 5 := ⟨by decide +kernel, rfl⟩
theorem d_B_giveBack_5 : dc cd_B_giveBack 5 (.aload_n 1) 1 6 := ⟨by decide +kernel, rfl⟩
theorem d_B_giveBack_6 : dc cd_B_giveBack 6 (.getfield 141) 3 9 := ⟨by decide +kernel, rfl⟩
theorem d_B_giveBack_9 : dc cd_B_giveBack 9 (.aload_n 1) 1 10 := ⟨by decide +kernel, rfl⟩
theorem d_B_giveBack_10 : dc cd_B_giveBack 10 (.getfield 209) 3 13 := ⟨by decide +kernel, rfl⟩
theorem d_B_giveBack_13 : dc cd_B_giveBack 13 (.aload_n 1) 1 14 := ⟨by decide +kernel, rfl⟩
theorem d_B_giveBack_14 : dc cd_B_giveBack 14 (.getfield 165) 3 17 := ⟨by decide +kernel, rfl⟩
theorem d_B_giveBack_17 : dc cd_B_giveBack 17 (.aload_n 1) 1 18 := ⟨by decide +kernel, rfl⟩
theorem d_B_giveBack_18 : dc cd_B_giveBack 18 (.getfield 168) 3 21 := ⟨by decide +kernel, rfl⟩
theorem d_B_giveBack_21 : dc cd_B_giveBack 21 (.invokevirtual 171) 3 24 := ⟨by decide +kernel, rfl⟩
theorem d_B_giveBack_24 : dc cd_B_giveBack 24 (.aload_n 1) 1 25 := ⟨by decide +kernel, rfl⟩
theorem d_B_giveBack_25 : dc cd_B_giveBack 25 (.iconst 1) 1 26 := ⟨by decide +kernel, rfl⟩
theorem d_B_giveBack_26 : dc cd_B_giveBack 26 (.putfield 215) 3 29 := ⟨by decide +kernel, rfl⟩
theorem d_B_giveBack_29 : dc cd_B_giveBack 29 (.return_) 1 30 := ⟨by decide +kernel, rfl⟩
theorem d_B_greatestVersion_0 : dc cd_B_greatestVersion 0 (.iload_n 0) 1 1 := ⟨by decide +kernel, rfl⟩
theorem d_B_greatestVersion_1 : dc cd_B_greatestVersion 1 (.iconst 4) 1 2 := ⟨by decide +kernel, rfl⟩
theorem d_B_greatestVersion_2 : dc cd_B_greatestVersion 2 (.iand) 1 3 := ⟨by decide +kernel, rfl⟩
theorem d_B_greatestVersion_3 : dc cd_B_greatestVersion 3 (.ifCond .eq 5) 3 6 := ⟨by decide +kernel, rfl⟩
theorem d_B_greatestVersion_6 : dc cd_B_greatestVersion 6 (.iconst 3) 1 7 := ⟨by decide +kernel, rfl⟩
end
section
theorem d_B_greatestVersion_7 : dc cd_B_greatestVersion 7 (.ireturn) 1 8 := ⟨by decide +kernel, rfl⟩
theorem d_B_greatestVersion_8 : dc cd_B_greatestVersion 8 (.iload_n 0) 1 9 := ⟨by decide +kernel, rfl⟩
theorem d_B_greatestVersion_9 : dc cd_B_greatestVersion 9 (.iconst 2) 1 10 := ⟨by decide +kernel, rfl⟩
theorem d_B_greatestVersion_10 : dc cd_B_greatestVersion 10 (.iand) 1 11 := ⟨by decide +kernel, rfl⟩
theorem d_B_greatestVersion_11 : dc cd_B_greatestVersion 11 (.ifCond .eq 5) 3 14 := ⟨by decide +kernel, rfl⟩
theorem d_B_greatestVersion_14 : dc cd_B_greatestVersion 14 (.iconst 2) 1 15 := ⟨by decide +kernel, rfl⟩
theorem d_B_greatestVersion_15 : dc cd_B_greatestVersion 15 (.ireturn) 1 16 := ⟨by decide +kernel, rfl⟩
theorem d_B_greatestVersion_16 : dc cd_B_greatestVersion 16 (.iload_n 0) 1 17 := ⟨by decide +kernel, rfl⟩
theorem d_B_greatestVersion_17 : dc cd_B_greatestVersion 17 (.iconst 1) 1 18 := ⟨by decide +kernel, rfl⟩
theorem d_B_greatestVersion_18 : dc cd_B_greatestVersion 18 (.iand) 1 19 := ⟨by decide +kernel, rfl⟩
theorem d_B_greatestVersion_19 : dc cd_B_greatestVersion 19 (.ireturn) 1 20 := ⟨by decide +kernel, rfl⟩
theorem d_B_total_0 : dc cd_B_total 0 (.iconst 0) 1 1 := ⟨by decide +kernel, rfl⟩
theorem d_B_total_1 : dc cd_B_total 1 (.istore_n 1) 1 2 := ⟨by decide +kernel, rfl⟩
theorem d_B_total_2 : dc cd_B_total 2 (.iconst 0) 1 3 := ⟨by decide +kernel, rfl⟩
theorem d_B_total_3 : dc cd_B_total 3 (.istore_n 2) 1 4 := ⟨by decide +kernel, rfl⟩
theorem d_B_total_4 : dc cd_B_total 4 (.iload_n 2) 1 5 := ⟨by decide +kernel, rfl⟩
theorem d_B_total_5 : dc cd_B_total 5 (.aload_n 0) 1 6 := ⟨by decide +kernel, rfl⟩
theorem d_B_total_6 : dc cd_B_total 6 (.arraylength) 1 7 := ⟨by decide +kernel, rfl⟩
theorem d_B_total_7 : dc cd_B_total 7 (.if_icmp .ge 15) 3 10 := ⟨by decide +kernel, rfl⟩
theorem d_B_total_10 : dc cd_B_total 10 (.iload_n 1) 1 11 := ⟨by decide +kernel, rfl⟩
theorem d_B_total_11 : dc cd_B_total 11 (.aload_n 0) 1 12 := ⟨by decide +kernel, rfl⟩
theorem d_B_total_12 : dc cd_B_total 12 (.iload_n 2) 1 13 := ⟨by decide +kernel, rfl⟩
theorem d_B_total_13 : dc cd_B_total 13 (.iaload) 1 14 := ⟨by decide +kernel, rfl⟩
theorem d_B_total_14 : dc cd_B_total 14 (.iadd) 1 15 := ⟨by decide +kernel, rfl⟩
theorem d_B_total_15 : dc cd_B_total 15 (.istore_n 1) 1 16 := ⟨by decide +kernel, rfl⟩
theorem d_B_total_16 : dc cd_B_total 16 (.iinc 2 1) 3 19 := ⟨by decide +kernel, rfl⟩
theorem d_B_total_19 : dc cd_B_total 19 (.goto (-15)) 3 22 := ⟨by decide +kernel, rfl⟩
theorem d_B_total_22 : dc cd_B_total 22 (.iload_n 1) 1 23 := ⟨by decide +kernel, rfl⟩
theorem d_B_total_23 : dc cd_B_total 23 (.ireturn) 1 24 := ⟨by decide +kernel, rfl⟩
theorem d_B_allEscrows_0 : dc cd_B_allEscrows 0 (.iconst 0) 1 1 := ⟨by decide +kernel, rfl⟩
theorem d_B_allEscrows_1 : dc cd_B_allEscrows 1 (.istore_n 2) 1 2 := ⟨by decide +kernel, rfl⟩
theorem d_B_allEscrows_2 : dc cd_B_allEscrows 2 (.iconst 0) 1 3 := ⟨by decide +kernel, rfl⟩
theorem d_B_allEscrows_3 : dc cd_B_allEscrows 3 (.istore_n 3) 1 4 := ⟨by decide +kernel, rfl⟩
theorem d_B_allEscrows_4 : dc cd_B_allEscrows 4 (.iload_n 3) 1 5 := ⟨by decide +kernel, rfl⟩
theorem d_B_allEscrows_5 : dc cd_B_allEscrows 5 (.aload_n 0) 1 6 := ⟨by decide +kernel, rfl⟩
theorem d_B_allEscrows_6 : dc cd_B_allEscrows 6 (.getfield 80) 3 9 := ⟨by decide +kernel, rfl⟩
theorem d_B_allEscrows_9 : dc cd_B_allEscrows 9 (.if_icmp .ge 26) 3 12 := ⟨by decide +kernel, rfl⟩
theorem d_B_allEscrows_12 : dc cd_B_allEscrows 12 (.iload_n 2) 1 13 := ⟨by decide +kernel, rfl⟩
theorem d_B_allEscrows_13 : dc cd_B_allEscrows 13 (.aload_n 0) 1 14 := ⟨by decide +kernel, rfl⟩
theorem d_B_allEscrows_14 : dc cd_B_allEscrows 14 (.getfield 17) 3 17 := ⟨by decide +kernel, rfl⟩
theorem d_B_allEscrows_17 : dc cd_B_allEscrows 17 (.iload_n 3) 1 18 := ⟨by decide +kernel, rfl⟩
theorem d_B_allEscrows_18 : dc cd_B_allEscrows 18 (.aaload) 1 19 := ⟨by decide +kernel, rfl⟩
theorem d_B_allEscrows_19 : dc cd_B_allEscrows 19 (.getfield 89) 3 22 := ⟨by decide +kernel, rfl⟩
theorem d_B_allEscrows_22 : dc cd_B_allEscrows 22 (.iload_n 1) 1 23 := ⟨by decide +kernel, rfl⟩
theorem d_B_allEscrows_23 : dc cd_B_allEscrows 23 (.aaload) 1 24 := ⟨by decide +kernel, rfl⟩
theorem d_B_allEscrows_24 : dc cd_B_allEscrows 24 (.getfield 197) 3 27 := ⟨by decide +kernel, rfl⟩
theorem d_B_allEscrows_27 : dc cd_B_allEscrows 27 (.iadd) 1 28 := ⟨by decide +kernel, rfl⟩
theorem d_B_allEscrows_28 : dc cd_B_allEscrows 28 (.istore_n 2) 1 29 := ⟨by decide +kernel, rfl⟩
theorem d_B_allEscrows_29 : dc cd_B_allEscrows 29 (.iinc 3 1) 3 32 := ⟨by decide +kernel, rfl⟩
theorem d_B_allEscrows_32 : dc cd_B_allEscrows 32 (.goto (-28)) 3 35 := ⟨by decide +kernel, rfl⟩
theorem d_B_allEscrows_35 : dc cd_B_allEscrows 35 (.iload_n 2) 1 36 := ⟨by decide +kernel, rfl⟩
theorem d_B_allEscrows_36 : dc cd_B_allEscrows 36 (.ireturn) 1 37 := ⟨by decide +kernel, rfl⟩
theorem d_B_allVouchers_0 : dc cd_B_allVouchers 0 (.iconst 0) 1 1 := ⟨by decide +kernel, rfl⟩
theorem d_B_allVouchers_1 : dc cd_B_allVouchers 1 (.istore_n 2) 1 2 := ⟨by decide +kernel, rfl⟩
theorem d_B_allVouchers_2 : dc cd_B_allVouchers 2 (.iconst 0) 1 3 := ⟨by decide +kernel, rfl⟩
theorem d_B_allVouchers_3 : dc cd_B_allVouchers 3 (.istore_n 3) 1 4 := ⟨by decide +kernel, rfl⟩
theorem d_B_allVouchers_4 : dc cd_B_allVouchers 4 (.iload_n 3) 1 5 := ⟨by decide +kernel, rfl⟩
theorem d_B_allVouchers_5 : dc cd_B_allVouchers 5 (.aload_n 0) 1 6 := ⟨by decide +kernel, rfl⟩
theorem d_B_allVouchers_6 : dc cd_B_allVouchers 6 (.getfield 80) 3 9 := ⟨by decide +kernel, rfl⟩
theorem d_B_allVouchers_9 : dc cd_B_allVouchers 9 (.if_icmp .ge 29) 3 12 := ⟨by decide +kernel, rfl⟩
theorem d_B_allVouchers_12 : dc cd_B_allVouchers 12 (.iload_n 2) 1 13 := ⟨by decide +kernel, rfl⟩
theorem d_B_allVouchers_13 : dc cd_B_allVouchers 13 (.aload_n 0) 1 14 := ⟨by decide +kernel, rfl⟩
theorem d_B_allVouchers_14 : dc cd_B_allVouchers 14 (.getfield 17) 3 17 := ⟨by decide +kernel, rfl⟩
theorem d_B_allVouchers_17 : dc cd_B_allVouchers 17 (.iload_n 3) 1 18 := ⟨by decide +kernel, rfl⟩
theorem d_B_allVouchers_18 : dc cd_B_allVouchers 18 (.aaload) 1 19 := ⟨by decide +kernel, rfl⟩
theorem d_B_allVouchers_19 : dc cd_B_allVouchers 19 (.getfield 89) 3 22 := ⟨by decide +kernel, rfl⟩
theorem d_B_allVouchers_22 : dc cd_B_allVouchers 22 (.iload_n 1) 1 23 := ⟨by decide +kernel, rfl⟩
theorem d_B_allVouchers_23 : dc cd_B_allVouchers 23 (.aaload) 1 24 := ⟨by decide +kernel, rfl⟩
theorem d_B_allVouchers_24 : dc cd_B_allVouchers 24 (.getfield 222) 3 27 := ⟨by decide +kernel, rfl⟩
theorem d_B_allVouchers_27 : dc cd_B_allVouchers 27 (.invokestatic 225) 3 30 := ⟨by decide +kernel, rfl⟩
theorem d_B_allVouchers_30 : dc cd_B_allVouchers 30 (.iadd) 1 31 := ⟨by decide +kernel, rfl⟩
theorem d_B_allVouchers_31 : dc cd_B_allVouchers 31 (.istore_n 2) 1 32 := ⟨by decide +kernel, rfl⟩
theorem d_B_allVouchers_32 : dc cd_B_allVouchers 32 (.iinc 3 1) 3 35 := ⟨by decide +kernel, rfl⟩
theorem d_B_allVouchers_35 : dc cd_B_allVouchers 35 (.goto (-31)) 3 38 := ⟨by decide +kernel, rfl⟩
theorem d_B_allVouchers_38 : dc cd_B_allVouchers 38 (.iload_n 2) 1 39 := ⟨by decide +kernel, rfl⟩
theorem d_B_allVouchers_39 : dc cd_B_allVouchers 39 (.ireturn) 1 40 := ⟨by decide +kernel, rfl⟩
theorem d_B_onTheWay_0 : dc cd_B_onTheWay 0 (.iconst 0) 1 1 := ⟨by decide +kernel, rfl⟩
theorem d_B_onTheWay_1 : dc cd_B_onTheWay 1 (.istore_n 2) 1 2 := ⟨by decide +kernel, rfl⟩
theorem d_B_onTheWay_2 : dc cd_B_onTheWay 2 (.iconst 0) 1 3 := ⟨by decide +kernel, rfl⟩
theorem d_B_onTheWay_3 : dc cd_B_onTheWay 3 (.istore_n 3) 1 4 := ⟨by decide +kernel, rfl⟩
theorem d_B_onTheWay_4 : dc cd_B_onTheWay 4 (.iload_n 3) 1 5 := ⟨by decide +kernel, rfl⟩
theorem d_B_onTheWay_5 : dc cd_B_onTheWay 5 (.aload_n 0) 1 6 := ⟨by decide +kernel, rfl⟩
theorem d_B_onTheWay_6 : dc cd_B_onTheWay 6 (.getfield 127) 3 9 := ⟨by decide +kernel, rfl⟩
theorem d_B_onTheWay_9 : dc cd_B_onTheWay 9 (.if_icmp .ge 51) 3 12 := ⟨by decide +kernel, rfl⟩
theorem d_B_onTheWay_12 : dc cd_B_onTheWay 12 (.aload_n 0) 1 13 := ⟨by decide +kernel, rfl⟩
theorem d_B_onTheWay_13 : dc cd_B_onTheWay 13 (.getfield 23) 3 16 := ⟨by decide +kernel, rfl⟩
theorem d_B_onTheWay_16 : dc cd_B_onTheWay 16 (.iload_n 3) 1 17 := ⟨by decide +kernel, rfl⟩
theorem d_B_onTheWay_17 : dc cd_B_onTheWay 17 (.aaload) 1 18 := ⟨by decide +kernel, rfl⟩
theorem d_B_onTheWay_18 : dc cd_B_onTheWay 18 (.astore 4) 2 20 := ⟨by decide +kernel, rfl⟩
theorem d_B_onTheWay_20 : dc cd_B_onTheWay 20 (.aload 4) 2 22 := ⟨by decide +kernel, rfl⟩
theorem d_B_onTheWay_22 : dc cd_B_onTheWay 22 (.getfield 165) 3 25 := ⟨by decide +kernel, rfl⟩
theorem d_B_onTheWay_25 : dc cd_B_onTheWay 25 (.iload_n 1) 1 26 := ⟨by decide +kernel, rfl⟩
theorem d_B_onTheWay_26 : dc cd_B_onTheWay 26 (.if_icmp .ne 28) 3 29 := ⟨by decide +kernel, rfl⟩
theorem d_B_onTheWay_29 : dc cd_B_onTheWay 29 (.aload 4) 2 31 := ⟨by decide +kernel, rfl⟩
theorem d_B_onTheWay_31 : dc cd_B_onTheWay 31 (.getfield 147) 3 34 := ⟨by decide +kernel, rfl⟩
theorem d_B_onTheWay_34 : dc cd_B_onTheWay 34 (.iconst 1) 1 35 := ⟨by decide +kernel, rfl⟩
theorem d_B_onTheWay_35 : dc cd_B_onTheWay 35 (.if_icmp .eq 19) 3 38 := ⟨by decide +kernel, rfl⟩
theorem d_B_onTheWay_38 : dc cd_B_onTheWay 38 (.aload 4) 2 40 := ⟨by decide +kernel, rfl⟩
theorem d_B_onTheWay_40 : dc cd_B_onTheWay 40 (.getfield 215) 3 43 := ⟨by decide +kernel, rfl⟩
theorem d_B_onTheWay_43 : dc cd_B_onTheWay 43 (.ifCond .ne 11) 3 46 := ⟨by decide +kernel, rfl⟩
theorem d_B_onTheWay_46 : dc cd_B_onTheWay 46 (.iload_n 2) 1 47 := ⟨by decide +kernel, rfl⟩
theorem d_B_onTheWay_47 : dc cd_B_onTheWay 47 (.aload 4) 2 49 := ⟨by decide +kernel, rfl⟩
theorem d_B_onTheWay_49 : dc cd_B_onTheWay 49 (.getfield 168) 3 52 := ⟨by decide +kernel, rfl⟩
theorem d_B_onTheWay_52 : dc cd_B_onTheWay 52 (.iadd) 1 53 := ⟨by decide +kernel, rfl⟩
theorem d_B_onTheWay_53 : dc cd_B_onTheWay 53 (.istore_n 2) 1 54 := ⟨by decide +kernel, rfl⟩
theorem d_B_onTheWay_54 : dc cd_B_onTheWay 54 (.iinc 3 1) 3 57 := ⟨by decide +kernel, rfl⟩
theorem d_B_onTheWay_57 : dc cd_B_onTheWay 57 (.goto (-53)) 3 60 := ⟨by decide +kernel, rfl⟩
theorem d_B_onTheWay_60 : dc cd_B_onTheWay 60 (.iload_n 2) 1 61 := ⟨by decide +kernel, rfl⟩
theorem d_B_onTheWay_61 : dc cd_B_onTheWay 61 (.ireturn) 1 62 := ⟨by decide +kernel, rfl⟩
theorem d_B_howManyStand_0 : dc cd_B_howManyStand 0 (.iconst 0) 1 1 := ⟨by decide +kernel, rfl⟩
theorem d_B_howManyStand_1 : dc cd_B_howManyStand 1 (.istore_n 1) 1 2 := ⟨by decide +kernel, rfl⟩
theorem d_B_howManyStand_2 : dc cd_B_howManyStand 2 (.iconst 0) 1 3 := ⟨by decide +kernel, rfl⟩
theorem d_B_howManyStand_3 : dc cd_B_howManyStand 3 (.istore_n 2) 1 4 := ⟨by decide +kernel, rfl⟩
theorem d_B_howManyStand_4 : dc cd_B_howManyStand 4 (.iload_n 2) 1 5 := ⟨by decide +kernel, rfl⟩
theorem d_B_howManyStand_5 : dc cd_B_howManyStand 5 (.aload_n 0) 1 6 := ⟨by decide +kernel, rfl⟩
theorem d_B_howManyStand_6 : dc cd_B_howManyStand 6 (.getfield 127) 3 9 := ⟨by decide +kernel, rfl⟩
theorem d_B_howManyStand_9 : dc cd_B_howManyStand 9 (.if_icmp .ge 24) 3 12 := ⟨by decide +kernel, rfl⟩
theorem d_B_howManyStand_12 : dc cd_B_howManyStand 12 (.iload_n 1) 1 13 := ⟨by decide +kernel, rfl⟩
theorem d_B_howManyStand_13 : dc cd_B_howManyStand 13 (.aload_n 0) 1 14 := ⟨by decide +kernel, rfl⟩
theorem d_B_howManyStand_14 : dc cd_B_howManyStand 14 (.getfield 23) 3 17 := ⟨by decide +kernel, rfl⟩
theorem d_B_howManyStand_17 : dc cd_B_howManyStand 17 (.iload_n 2) 1 18 := ⟨by decide +kernel, rfl⟩
theorem d_B_howManyStand_18 : dc cd_B_howManyStand 18 (.aaload) 1 19 := ⟨by decide +kernel, rfl⟩
theorem d_B_howManyStand_19 : dc cd_B_howManyStand 19 (.getfield 212) 3 22 := ⟨by decide +kernel, rfl⟩
theorem d_B_howManyStand_22 : dc cd_B_howManyStand 22 (.invokestatic 73) 3 25 := ⟨by decide +kernel, rfl⟩
theorem d_B_howManyStand_25 : dc cd_B_howManyStand 25 (.iadd) 1 26 := ⟨by decide +kernel, rfl⟩
theorem d_B_howManyStand_26 : dc cd_B_howManyStand 26 (.istore_n 1) 1 27 := ⟨by decide +kernel, rfl⟩
theorem d_B_howManyStand_27 : dc cd_B_howManyStand 27 (.iinc 2 1) 3 30 := ⟨by decide +kernel, rfl⟩
theorem d_B_howManyStand_30 : dc cd_B_howManyStand 30 (.goto (-26)) 3 33 := ⟨by decide +kernel, rfl⟩
theorem d_B_howManyStand_33 : dc cd_B_howManyStand 33 (.iload_n 1) 1 34 := ⟨by decide +kernel, rfl⟩
theorem d_B_howManyStand_34 : dc cd_B_howManyStand 34 (.ireturn) 1 35 := ⟨by decide +kernel, rfl⟩
theorem d_B_beginAnew_0 : dc cd_B_beginAnew 0 (.iconst 0) 1 1 := ⟨by decide +kernel, rfl⟩
theorem d_B_beginAnew_1 : dc cd_B_beginAnew 1 (.istore_n 1) 1 2 := ⟨by decide +kernel, rfl⟩
theorem d_B_beginAnew_2 : dc cd_B_beginAnew 2 (.iload_n 1) 1 3 := ⟨by decide +kernel, rfl⟩
theorem d_B_beginAnew_3 : dc cd_B_beginAnew 3 (.iconst 2) 1 4 := ⟨by decide +kernel, rfl⟩
theorem d_B_beginAnew_4 : dc cd_B_beginAnew 4 (.if_icmp .ge 18) 3 7 := ⟨by decide +kernel, rfl⟩
theorem d_B_beginAnew_7 : dc cd_B_beginAnew 7 (.aload_n 0) 1 8 := ⟨by decide +kernel, rfl⟩
theorem d_B_beginAnew_8 : dc cd_B_beginAnew 8 (.getfield 11) 3 11 := ⟨by decide +kernel, rfl⟩
theorem d_B_beginAnew_11 : dc cd_B_beginAnew 11 (.iload_n 1) 1 12 := ⟨by decide +kernel, rfl⟩
theorem d_B_beginAnew_12 : dc cd_B_beginAnew 12 (.aaload) 1 13 := ⟨by decide +kernel, rfl⟩
theorem d_B_beginAnew_13 : dc cd_B_beginAnew 13 (.invokevirtual 253) 3 16 := ⟨by decide +kernel, rfl⟩
theorem d_B_beginAnew_16 : dc cd_B_beginAnew 16 (.iinc 1 1) 3 19 := ⟨by decide +kernel, rfl⟩
theorem d_B_beginAnew_19 : dc cd_B_beginAnew 19 (.goto (-17)) 3 22 := ⟨by decide +kernel, rfl⟩
theorem d_B_beginAnew_22 : dc cd_B_beginAnew 22 (.iconst 0) 1 23 := ⟨by decide +kernel, rfl⟩
theorem d_B_beginAnew_23 : dc cd_B_beginAnew 23 (.istore_n 1) 1 24 := ⟨by decide +kernel, rfl⟩
theorem d_B_beginAnew_24 : dc cd_B_beginAnew 24 (.iload_n 1) 1 25 := ⟨by decide +kernel, rfl⟩
theorem d_B_beginAnew_25 : dc cd_B_beginAnew 25 (.iconst 4) 1 26 := ⟨by decide +kernel, rfl⟩
theorem d_B_beginAnew_26 : dc cd_B_beginAnew 26 (.if_icmp .ge 37) 3 29 := ⟨by decide +kernel, rfl⟩
theorem d_B_beginAnew_29 : dc cd_B_beginAnew 29 (.aload_n 0) 1 30 := ⟨by decide +kernel, rfl⟩
theorem d_B_beginAnew_30 : dc cd_B_beginAnew 30 (.getfield 17) 3 33 := ⟨by decide +kernel, rfl⟩
theorem d_B_beginAnew_33 : dc cd_B_beginAnew 33 (.iload_n 1) 1 34 := ⟨by decide +kernel, rfl⟩
theorem d_B_beginAnew_34 : dc cd_B_beginAnew 34 (.aaload) 1 35 := ⟨by decide +kernel, rfl⟩
theorem d_B_beginAnew_35 : dc cd_B_beginAnew 35 (.getfield 89) 3 38 := ⟨by decide +kernel, rfl⟩
theorem d_B_beginAnew_38 : dc cd_B_beginAnew 38 (.iconst 0) 1 39 := ⟨by decide +kernel, rfl⟩
theorem d_B_beginAnew_39 : dc cd_B_beginAnew 39 (.aaload) 1 40 := ⟨by decide +kernel, rfl⟩
theorem d_B_beginAnew_40 : dc cd_B_beginAnew 40 (.invokevirtual 254) 3 43 := ⟨by decide +kernel, rfl⟩
theorem d_B_beginAnew_43 : dc cd_B_beginAnew 43 (.aload_n 0) 1 44 := ⟨by decide +kernel, rfl⟩
theorem d_B_beginAnew_44 : dc cd_B_beginAnew 44 (.getfield 17) 3 47 := ⟨by decide +kernel, rfl⟩
theorem d_B_beginAnew_47 : dc cd_B_beginAnew 47 (.iload_n 1) 1 48 := ⟨by decide +kernel, rfl⟩
theorem d_B_beginAnew_48 : dc cd_B_beginAnew 48 (.aaload) 1 49 := ⟨by decide +kernel, rfl⟩
theorem d_B_beginAnew_49 : dc cd_B_beginAnew 49 (.getfield 89) 3 52 := ⟨by decide +kernel, rfl⟩
theorem d_B_beginAnew_52 : dc cd_B_beginAnew 52 (.iconst 1) 1 53 := ⟨by decide +kernel, rfl⟩
theorem d_B_beginAnew_53 : dc cd_B_beginAnew 53 (.aaload) 1 54 := ⟨by decide +kernel, rfl⟩
theorem d_B_beginAnew_54 : dc cd_B_beginAnew 54 (.invokevirtual 254) 3 57 := ⟨by decide +kernel, rfl⟩
theorem d_B_beginAnew_57 : dc cd_B_beginAnew 57 (.iinc 1 1) 3 60 := ⟨by decide +kernel, rfl⟩
theorem d_B_beginAnew_60 : dc cd_B_beginAnew 60 (.goto (-36)) 3 63 := ⟨by decide +kernel, rfl⟩
theorem d_B_beginAnew_63 : dc cd_B_beginAnew 63 (.aload_n 0) 1 64 := ⟨by decide +kernel, rfl⟩
theorem d_B_beginAnew_64 : dc cd_B_beginAnew 64 (.iconst 0) 1 65 := ⟨by decide +kernel, rfl⟩
theorem d_B_beginAnew_65 : dc cd_B_beginAnew 65 (.putfield 80) 3 68 := ⟨by decide +kernel, rfl⟩
theorem d_B_beginAnew_68 : dc cd_B_beginAnew 68 (.aload_n 0) 1 69 := ⟨by decide +kernel, rfl⟩
theorem d_B_beginAnew_69 : dc cd_B_beginAnew 69 (.iconst 0) 1 70 := ⟨by decide +kernel, rfl⟩
theorem d_B_beginAnew_70 : dc cd_B_beginAnew 70 (.putfield 127) 3 73 := ⟨by decide +kernel, rfl⟩
theorem d_B_beginAnew_73 : dc cd_B_beginAnew 73 (.return_) 1 74 := ⟨by decide +kernel, rfl⟩
theorem d_R_new_0 : dc cd_R_new 0 (.aload_n 0) 1 1 := ⟨by decide +kernel, rfl⟩
theorem d_R_new_1 : dc cd_R_new 1 (.invokespecial 1) 3 4 := ⟨by decide +kernel, rfl⟩
theorem d_R_new_4 : dc cd_R_new 4 (.aload_n 0) 1 5 := ⟨by decide +kernel, rfl⟩
theorem d_R_new_5 : dc cd_R_new 5 (.iconst 2) 1 6 := ⟨by decide +kernel, rfl⟩
theorem d_R_new_6 : dc cd_R_new 6 (.newarray .int) 2 8 := ⟨by decide +kernel, rfl⟩
theorem d_R_new_8 : dc cd_R_new 8 (.putfield 7) 3 11 := ⟨by decide +kernel, rfl⟩
theorem d_R_new_11 : dc cd_R_new 11 (.aload_n 0) 1 12 := ⟨by decide +kernel, rfl⟩
theorem d_R_new_12 : dc cd_R_new 12 (.sipush 402) 3 15 := ⟨by decide +kernel, rfl⟩
theorem d_R_new_15 : dc cd_R_new 15 (.newarray .int) 2 17 := ⟨by decide +kernel, rfl⟩
theorem d_R_new_17 : dc cd_R_new 17 (.putfield 13) 3 20 := ⟨by decide +kernel, rfl⟩
theorem d_R_new_20 : dc cd_R_new 20 (.aload_n 0) 1 21 := ⟨by decide +kernel, rfl⟩
theorem d_R_new_21 : dc cd_R_new 21 (.iconst 2) 1 22 := ⟨by decide +kernel, rfl⟩
theorem d_R_new_22 : dc cd_R_new 22 (.newarray .boolean) 2 24 := ⟨by decide +kernel, rfl⟩
theorem d_R_new_24 : dc cd_R_new 24 (.putfield 16) 3 27 := ⟨by decide +kernel, rfl⟩
theorem d_R_new_27 : dc cd_R_new 27 (.aload_n 0) 1 28 := ⟨by decide +kernel, rfl⟩
theorem d_R_new_28 : dc cd_R_new 28 (.iconst 4) 1 29 := ⟨by decide +kernel, rfl⟩
theorem d_R_new_29 : dc cd_R_new 29 (.newarray .int) 2 31 := ⟨by decide +kernel, rfl⟩
theorem d_R_new_31 : dc cd_R_new 31 (.putfield 20) 3 34 := ⟨by decide +kernel, rfl⟩
theorem d_R_new_34 : dc cd_R_new 34 (.aload_n 0) 1 35 := ⟨by decide +kernel, rfl⟩
theorem d_R_new_35 : dc cd_R_new 35 (.iconst 4) 1 36 := ⟨by decide +kernel, rfl⟩
theorem d_R_new_36 : dc cd_R_new 36 (.newarray .boolean) 2 38 := ⟨by decide +kernel, rfl⟩
theorem d_R_new_38 : dc cd_R_new 38 (.putfield 23) 3 41 := ⟨by decide +kernel, rfl⟩
theorem d_R_new_41 : dc cd_R_new 41 (.aload_n 0) 1 42 := ⟨by decide +kernel, rfl⟩
theorem d_R_new_42 : dc cd_R_new 42 (.bipush 8) 2 44 := ⟨by decide +kernel, rfl⟩
theorem d_R_new_44 : dc cd_R_new 44 (.newarray .int) 2 46 := ⟨by decide +kernel, rfl⟩
theorem d_R_new_46 : dc cd_R_new 46 (.putfield 26) 3 49 := ⟨by decide +kernel, rfl⟩
theorem d_R_new_49 : dc cd_R_new 49 (.aload_n 0) 1 50 := ⟨by decide +kernel, rfl⟩
theorem d_R_new_50 : dc cd_R_new 50 (.bipush 8) 2 52 := ⟨by decide +kernel, rfl⟩
theorem d_R_new_52 : dc cd_R_new 52 (.newarray .int) 2 54 := ⟨by decide +kernel, rfl⟩
theorem d_R_new_54 : dc cd_R_new 54 (.putfield 29) 3 57 := ⟨by decide +kernel, rfl⟩
theorem d_R_new_57 : dc cd_R_new 57 (.aload_n 0) 1 58 := ⟨by decide +kernel, rfl⟩
theorem d_R_new_58 : dc cd_R_new 58 (.bipush 8) 2 60 := ⟨by decide +kernel, rfl⟩
theorem d_R_new_60 : dc cd_R_new 60 (.newarray .int) 2 62 := ⟨by decide +kernel, rfl⟩
theorem d_R_new_62 : dc cd_R_new 62 (.putfield 32) 3 65 := ⟨by decide +kernel, rfl⟩
theorem d_R_new_65 : dc cd_R_new 65 (.aload_n 0) 1 66 := ⟨by decide +kernel, rfl⟩
theorem d_R_new_66 : dc cd_R_new 66 (.bipush 8) 2 68 := ⟨by decide +kernel, rfl⟩
theorem d_R_new_68 : dc cd_R_new 68 (.newarray .int) 2 70 := ⟨by decide +kernel, rfl⟩
theorem d_R_new_70 : dc cd_R_new 70 (.putfield 35) 3 73 := ⟨by decide +kernel, rfl⟩
theorem d_R_new_73 : dc cd_R_new 73 (.aload_n 0) 1 74 := ⟨by decide +kernel, rfl⟩
theorem d_R_new_74 : dc cd_R_new 74 (.bipush 8) 2 76 := ⟨by decide +kernel, rfl⟩
theorem d_R_new_76 : dc cd_R_new 76 (.newarray .int) 2 78 := ⟨by decide +kernel, rfl⟩
theorem d_R_new_78 : dc cd_R_new 78 (.putfield 38) 3 81 := ⟨by decide +kernel, rfl⟩
theorem d_R_new_81 : dc cd_R_new 81 (.aload_n 0) 1 82 := ⟨by decide +kernel, rfl⟩
theorem d_R_new_82 : dc cd_R_new 82 (.bipush 8) 2 84 := ⟨by decide +kernel, rfl⟩
theorem d_R_new_84 : dc cd_R_new 84 (.newarray .int) 2 86 := ⟨by decide +kernel, rfl⟩
theorem d_R_new_86 : dc cd_R_new 86 (.putfield 41) 3 89 := ⟨by decide +kernel, rfl⟩
theorem d_R_new_89 : dc cd_R_new 89 (.aload_n 0) 1 90 := ⟨by decide +kernel, rfl⟩
theorem d_R_new_90 : dc cd_R_new 90 (.sipush 1608) 3 93 := ⟨by decide +kernel, rfl⟩
theorem d_R_new_93 : dc cd_R_new 93 (.newarray .int) 2 95 := ⟨by decide +kernel, rfl⟩
theorem d_R_new_95 : dc cd_R_new 95 (.putfield 44) 3 98 := ⟨by decide +kernel, rfl⟩
theorem d_R_new_98 : dc cd_R_new 98 (.aload_n 0) 1 99 := ⟨by decide +kernel, rfl⟩
theorem d_R_new_99 : dc cd_R_new 99 (.bipush 8) 2 101 := ⟨by decide +kernel, rfl⟩
theorem d_R_new_101 : dc cd_R_new 101 (.newarray .int) 2 103 := ⟨by decide +kernel, rfl⟩
theorem d_R_new_103 : dc cd_R_new 103 (.putfield 47) 3 106 := ⟨by decide +kernel, rfl⟩
theorem d_R_new_106 : dc cd_R_new 106 (.aload_n 0) 1 107 := ⟨by decide +kernel, rfl⟩
theorem d_R_new_107 : dc cd_R_new 107 (.bipush 32) 2 109 := ⟨by decide +kernel, rfl⟩
theorem d_R_new_109 : dc cd_R_new 109 (.newarray .int) 2 111 := ⟨by decide +kernel, rfl⟩
theorem d_R_new_111 : dc cd_R_new 111 (.putfield 50) 3 114 := ⟨by decide +kernel, rfl⟩
theorem d_R_new_114 : dc cd_R_new 114 (.aload_n 0) 1 115 := ⟨by decide +kernel, rfl⟩
theorem d_R_new_115 : dc cd_R_new 115 (.bipush 60) 2 117 := ⟨by decide +kernel, rfl⟩
theorem d_R_new_117 : dc cd_R_new 117 (.newarray .int) 2 119 := ⟨by decide +kernel, rfl⟩
theorem d_R_new_119 : dc cd_R_new 119 (.putfield 53) 3 122 := ⟨by decide +kernel, rfl⟩
theorem d_R_new_122 : dc cd_R_new 122 (.aload_n 0) 1 123 := ⟨by decide +kernel, rfl⟩
theorem d_R_new_123 : dc cd_R_new 123 (.bipush 60) 2 125 := ⟨by decide +kernel, rfl⟩
theorem d_R_new_125 : dc cd_R_new 125 (.newarray .int) 2 127 := ⟨by decide +kernel, rfl⟩
theorem d_R_new_127 : dc cd_R_new 127 (.putfield 56) 3 130 := ⟨by decide +kernel, rfl⟩
theorem d_R_new_130 : dc cd_R_new 130 (.aload_n 0) 1 131 := ⟨by decide +kernel, rfl⟩
theorem d_R_new_131 : dc cd_R_new 131 (.bipush 60) 2 133 := ⟨by decide +kernel, rfl⟩
theorem d_R_new_133 : dc cd_R_new 133 (.newarray .int) 2 135 := ⟨by decide +kernel, rfl⟩
theorem d_R_new_135 : dc cd_R_new 135 (.putfield 59) 3 138 := ⟨by decide +kernel, rfl⟩
theorem d_R_new_138 : dc cd_R_new 138 (.aload_n 0) 1 139 := ⟨by decide +kernel, rfl⟩
theorem d_R_new_139 : dc cd_R_new 139 (.bipush 60) 2 141 := ⟨by decide +kernel, rfl⟩
theorem d_R_new_141 : dc cd_R_new 141 (.newarray .int) 2 143 := ⟨by decide +kernel, rfl⟩
theorem d_R_new_143 : dc cd_R_new 143 (.putfield 62) 3 146 := ⟨by decide +kernel, rfl⟩
theorem d_R_new_146 : dc cd_R_new 146 (.aload_n 0) 1 147 := ⟨by decide +kernel, rfl⟩
theorem d_R_new_147 : dc cd_R_new 147 (.bipush 60) 2 149 := ⟨by decide +kernel, rfl⟩
theorem d_R_new_149 : dc cd_R_new 149 (.newarray .int) 2 151 := ⟨by decide +kernel, rfl⟩
theorem d_R_new_151 : dc cd_R_new 151 (.putfield 65) 3 154 := ⟨by decide +kernel, rfl⟩
theorem d_R_new_154 : dc cd_R_new 154 (.aload_n 0) 1 155 := ⟨by decide +kernel, rfl⟩
theorem d_R_new_155 : dc cd_R_new 155 (.bipush 60) 2 157 := ⟨by decide +kernel, rfl⟩
theorem d_R_new_157 : dc cd_R_new 157 (.newarray .int) 2 159 := ⟨by decide +kernel, rfl⟩
theorem d_R_new_159 : dc cd_R_new 159 (.putfield 68) 3 162 := ⟨by decide +kernel, rfl⟩
theorem d_R_new_162 : dc cd_R_new 162 (.aload_n 0) 1 163 := ⟨by decide +kernel, rfl⟩
theorem d_R_new_163 : dc cd_R_new 163 (.bipush 60) 2 165 := ⟨by decide +kernel, rfl⟩
theorem d_R_new_165 : dc cd_R_new 165 (.newarray .int) 2 167 := ⟨by decide +kernel, rfl⟩
theorem d_R_new_167 : dc cd_R_new 167 (.putfield 71) 3 170 := ⟨by decide +kernel, rfl⟩
theorem d_R_new_170 : dc cd_R_new 170 (.aload_n 0) 1 171 := ⟨by decide +kernel, rfl⟩
theorem d_R_new_171 : dc cd_R_new 171 (.bipush 60) 2 173 := ⟨by decide +kernel, rfl⟩
theorem d_R_new_173 : dc cd_R_new 173 (.newarray .int) 2 175 := ⟨by decide +kernel, rfl⟩
theorem d_R_new_175 : dc cd_R_new 175 (.putfield 74) 3 178 := ⟨by decide +kernel, rfl⟩
theorem d_R_new_178 : dc cd_R_new 178 (.aload_n 0) 1 179 := ⟨by decide +kernel, rfl⟩
theorem d_R_new_179 : dc cd_R_new 179 (.bipush 60) 2 181 := ⟨by decide +kernel, rfl⟩
theorem d_R_new_181 : dc cd_R_new 181 (.newarray .boolean) 2 183 := ⟨by decide +kernel, rfl⟩
theorem d_R_new_183 : dc cd_R_new 183 (.putfield 77) 3 186 := ⟨by decide +kernel, rfl⟩
theorem d_R_new_186 : dc cd_R_new 186 (.aload_n 0) 1 187 := ⟨by decide +kernel, rfl⟩
theorem d_R_new_187 : dc cd_R_new 187 (.bipush 60) 2 189 := ⟨by decide +kernel, rfl⟩
theorem d_R_new_189 : dc cd_R_new 189 (.newarray .int) 2 191 := ⟨by decide +kernel, rfl⟩
theorem d_R_new_191 : dc cd_R_new 191 (.putfield 80) 3 194 := ⟨by decide +kernel, rfl⟩
theorem d_R_new_194 : dc cd_R_new 194 (.aload_n 0) 1 195 := ⟨by decide +kernel, rfl⟩
theorem d_R_new_195 : dc cd_R_new 195 (.bipush 60) 2 197 := ⟨by decide +kernel, rfl⟩
theorem d_R_new_197 : dc cd_R_new 197 (.newarray .int) 2 199 := ⟨by decide +kernel, rfl⟩
theorem d_R_new_199 : dc cd_R_new 199 (.putfield 83) 3 202 := ⟨by decide +kernel, rfl⟩
theorem d_R_new_202 : dc cd_R_new 202 (.aload_n 0) 1 203 := ⟨by decide +kernel, rfl⟩
theorem d_R_new_203 : dc cd_R_new 203 (.bipush 60) 2 205 := ⟨by decide +kernel, rfl⟩
theorem d_R_new_205 : dc cd_R_new 205 (.newarray .int) 2 207 := ⟨by decide +kernel, rfl⟩
theorem d_R_new_207 : dc cd_R_new 207 (.putfield 86) 3 210 := ⟨by decide +kernel, rfl⟩
theorem d_R_new_210 : dc cd_R_new 210 (.aload_n 0) 1 211 := ⟨by decide +kernel, rfl⟩
theorem d_R_new_211 : dc cd_R_new 211 (.bipush 60) 2 213 := ⟨by decide +kernel, rfl⟩
theorem d_R_new_213 : dc cd_R_new 213 (.newarray .int) 2 215 := ⟨by decide +kernel, rfl⟩
theorem d_R_new_215 : dc cd_R_new 215 (.putfield 89) 3 218 := ⟨by decide +kernel, rfl⟩
theorem d_R_new_218 : dc cd_R_new 218 (.aload_n 0) 1 219 := ⟨by decide +kernel, rfl⟩
theorem d_R_new_219 : dc cd_R_new 219 (.bipush 60) 2 221 := ⟨by decide +kernel, rfl⟩
theorem d_R_new_221 : dc cd_R_new 221 (.newarray .boolean) 2 223 := ⟨by decide +kernel, rfl⟩
theorem d_R_new_223 : dc cd_R_new 223 (.putfield 92) 3 226 := ⟨by decide +kernel, rfl⟩
theorem d_R_new_226 : dc cd_R_new 226 (.aload_n 0) 1 227 := ⟨by decide +kernel, rfl⟩
theorem d_R_new_227 : dc cd_R_new 227 (.invokevirtual 95) 3 230 := ⟨by decide +kernel, rfl⟩
theorem d_R_new_230 : dc cd_R_new 230 (.return_) 1 231 := ⟨by decide +kernel, rfl⟩
theorem d_R_in_0 : dc cd_R_in 0 (.iload_n 0) 1 1 := ⟨by decide +kernel, rfl⟩
theorem d_R_in_1 : dc cd_R_in 1 (.iload_n 1) 1 2 := ⟨by decide +kernel, rfl⟩
theorem d_R_in_2 : dc cd_R_in 2 (.if_icmp .lt 12) 3 5 := ⟨by decide +kernel, rfl⟩
theorem d_R_in_5 : dc cd_R_in 5 (.iload_n 0) 1 6 := ⟨by decide +kernel, rfl⟩
theorem d_R_in_6 : dc cd_R_in 6 (.iload_n 2) 1 7 := ⟨by decide +kernel, rfl⟩
theorem d_R_in_7 : dc cd_R_in 7 (.if_icmp .gt 7) 3 10 := ⟨by decide +kernel, rfl⟩
theorem d_R_in_10 : dc cd_R_in 10 (.iconst 1) 1 11 := ⟨by decide +kernel, rfl⟩
theorem d_R_in_11 : dc cd_R_in 11 (.goto 4) 3 14 := ⟨by decide +kernel, rfl⟩
theorem d_R_in_14 : dc cd_R_in 14 (.iconst 0) 1 15 := ⟨by decide +kernel, rfl⟩
theorem d_R_in_15 : dc cd_R_in 15 (.ireturn) 1 16 := ⟨by decide +kernel, rfl⟩
theorem d_R_begin_0 : dc cd_R_begin 0 (.aload_n 0) 1 1 := ⟨by decide +kernel, rfl⟩
theorem d_R_begin_1 : dc cd_R_begin 1 (.iconst 0) 1 2 := ⟨by decide +kernel, rfl⟩
theorem d_R_begin_2 : dc cd_R_begin 2 (.putfield 98) 3 5 := ⟨by decide +kernel, rfl⟩
theorem d_R_begin_5 : dc cd_R_begin 5 (.aload_n 0) 1 6 := ⟨by decide +kernel, rfl⟩
theorem d_R_begin_6 : dc cd_R_begin 6 (.iconst 0) 1 7 := ⟨by decide +kernel, rfl⟩
theorem d_R_begin_7 : dc cd_R_begin 7 (.putfield 102) 3 10 := ⟨by decide +kernel, rfl⟩
theorem d_R_begin_10 : dc cd_R_begin 10 (.iconst 0) 1 11 := ⟨by decide +kernel, rfl⟩
theorem d_R_begin_11 : dc cd_R_begin 11 (.istore_n 1) 1 12 := ⟨by decide +kernel, rfl⟩
theorem d_R_begin_12 : dc cd_R_begin 12 (.iload_n 1) 1 13 := ⟨by decide +kernel, rfl⟩
theorem d_R_begin_13 : dc cd_R_begin 13 (.iconst 2) 1 14 := ⟨by decide +kernel, rfl⟩
theorem d_R_begin_14 : dc cd_R_begin 14 (.if_icmp .ge 47) 3 17 := ⟨by decide +kernel, rfl⟩
theorem d_R_begin_17 : dc cd_R_begin 17 (.aload_n 0) 1 18 := ⟨by decide +kernel, rfl⟩
theorem d_R_begin_18 : dc cd_R_begin 18 (.getfield 7) 3 21 := ⟨by decide +kernel, rfl⟩
theorem d_R_begin_21 : dc cd_R_begin 21 (.iload_n 1) 1 22 := ⟨by decide +kernel, rfl⟩
theorem d_R_begin_22 : dc cd_R_begin 22 (.iconst 0) 1 23 := ⟨by decide +kernel, rfl⟩
theorem d_R_begin_23 : dc cd_R_begin 23 (.iastore) 1 24 := ⟨by decide +kernel, rfl⟩
theorem d_R_begin_24 : dc cd_R_begin 24 (.aload_n 0) 1 25 := ⟨by decide +kernel, rfl⟩
theorem d_R_begin_25 : dc cd_R_begin 25 (.iload_n 1) 1 26 := ⟨by decide +kernel, rfl⟩
theorem d_R_begin_26 : dc cd_R_begin 26 (.invokevirtual 105) 3 29 := ⟨by decide +kernel, rfl⟩
theorem d_R_begin_29 : dc cd_R_begin 29 (.iconst 0) 1 30 := ⟨by decide +kernel, rfl⟩
theorem d_R_begin_30 : dc cd_R_begin 30 (.istore_n 2) 1 31 := ⟨by decide +kernel, rfl⟩
theorem d_R_begin_31 : dc cd_R_begin 31 (.iload_n 2) 1 32 := ⟨by decide +kernel, rfl⟩
theorem d_R_begin_32 : dc cd_R_begin 32 (.iconst 4) 1 33 := ⟨by decide +kernel, rfl⟩
theorem d_R_begin_33 : dc cd_R_begin 33 (.if_icmp .ge 22) 3 36 := ⟨by decide +kernel, rfl⟩
theorem d_R_begin_36 : dc cd_R_begin 36 (.aload_n 0) 1 37 := ⟨by decide +kernel, rfl⟩
theorem d_R_begin_37 : dc cd_R_begin 37 (.getfield 47) 3 40 := ⟨by decide +kernel, rfl⟩
theorem d_R_begin_40 : dc cd_R_begin 40 (.iconst 4) 1 41 := ⟨by decide +kernel, rfl⟩
theorem d_R_begin_41 : dc cd_R_begin 41 (.iload_n 1) 1 42 := ⟨by decide +kernel, rfl⟩
theorem d_R_begin_42 : dc cd_R_begin 42 (.imul) 1 43 := ⟨by decide +kernel, rfl⟩
theorem d_R_begin_43 : dc cd_R_begin 43 (.iload_n 2) 1 44 := ⟨by decide +kernel, rfl⟩
theorem d_R_begin_44 : dc cd_R_begin 44 (.iadd) 1 45 := ⟨by decide +kernel, rfl⟩
theorem d_R_begin_45 : dc cd_R_begin 45 (.sipush 1000) 3 48 := ⟨by decide +kernel, rfl⟩
theorem d_R_begin_48 : dc cd_R_begin 48 (.iastore) 1 49 := ⟨by decide +kernel, rfl⟩
theorem d_R_begin_49 : dc cd_R_begin 49 (.iinc 2 1) 3 52 := ⟨by decide +kernel, rfl⟩
theorem d_R_begin_52 : dc cd_R_begin 52 (.goto (-21)) 3 55 := ⟨by decide +kernel, rfl⟩
theorem d_R_begin_55 : dc cd_R_begin 55 (.iinc 1 1) 3 58 := ⟨by decide +kernel, rfl⟩
theorem d_R_begin_58 : dc cd_R_begin 58 (.goto (-46)) 3 61 := ⟨by decide +kernel, rfl⟩
theorem d_R_begin_61 : dc cd_R_begin 61 (.return_) 1 62 := ⟨by decide +kernel, rfl⟩
theorem d_R_forget_0 : dc cd_R_forget 0 (.aload_n 0) 1 1 := ⟨by decide +kernel, rfl⟩
theorem d_R_forget_1 : dc cd_R_forget 1 (.getfield 16) 3 4 := ⟨by decide +kernel, rfl⟩
theorem d_R_forget_4 : dc cd_R_forget 4 (.iload_n 1) 1 5 := ⟨by decide +kernel, rfl⟩
theorem d_R_forget_5 : dc cd_R_forget 5 (.iconst 0) 1 6 := ⟨by decide +kernel, rfl⟩
theorem d_R_forget_6 : dc cd_R_forget 6 (.bastore) 1 7 := ⟨by decide +kernel, rfl⟩
theorem d_R_forget_7 : dc cd_R_forget 7 (.iconst 0) 1 8 := ⟨by decide +kernel, rfl⟩
theorem d_R_forget_8 : dc cd_R_forget 8 (.istore_n 2) 1 9 := ⟨by decide +kernel, rfl⟩
theorem d_R_forget_9 : dc cd_R_forget 9 (.iload_n 2) 1 10 := ⟨by decide +kernel, rfl⟩
theorem d_R_forget_10 : dc cd_R_forget 10 (.sipush 200) 3 13 := ⟨by decide +kernel, rfl⟩
theorem d_R_forget_13 : dc cd_R_forget 13 (.if_icmp .gt 22) 3 16 := ⟨by decide +kernel, rfl⟩
theorem d_R_forget_16 : dc cd_R_forget 16 (.aload_n 0) 1 17 := ⟨by decide +kernel, rfl⟩
theorem d_R_forget_17 : dc cd_R_forget 17 (.getfield 13) 3 20 := ⟨by decide +kernel, rfl⟩
theorem d_R_forget_20 : dc cd_R_forget 20 (.sipush 201) 3 23 := ⟨by decide +kernel, rfl⟩
theorem d_R_forget_23 : dc cd_R_forget 23 (.iload_n 1) 1 24 := ⟨by decide +kernel, rfl⟩
theorem d_R_forget_24 : dc cd_R_forget 24 (.imul) 1 25 := ⟨by decide +kernel, rfl⟩
theorem d_R_forget_25 : dc cd_R_forget 25 (.iload_n 2) 1 26 := ⟨by decide +kernel, rfl⟩
theorem d_R_forget_26 : dc cd_R_forget 26 (.iadd) 1 27 := ⟨by decide +kernel, rfl⟩
theorem d_R_forget_27 : dc cd_R_forget 27 (.iconst (-1)) 1 28 := ⟨by decide +kernel, rfl⟩
theorem d_R_forget_28 : dc cd_R_forget 28 (.iastore) 1 29 := ⟨by decide +kernel, rfl⟩
theorem d_R_forget_29 : dc cd_R_forget 29 (.iinc 2 1) 3 32 := ⟨by decide +kernel, rfl⟩
theorem d_R_forget_32 : dc cd_R_forget 32 (.goto (-23)) 3 35 := ⟨by decide +kernel, rfl⟩
theorem d_R_forget_35 : dc cd_R_forget 35 (.return_) 1 36 := ⟨by decide +kernel, rfl⟩
theorem d_R_noSide_0 : dc cd_R_noSide 0 (.iload_n 0) 1 1 := ⟨by decide +kernel, rfl⟩
theorem d_R_noSide_1 : dc cd_R_noSide 1 (.ifCond .lt 8) 3 4 := ⟨by decide +kernel, rfl⟩
theorem d_R_noSide_4 : dc cd_R_noSide 4 (.iload_n 0) 1 5 := ⟨by decide +kernel, rfl⟩
theorem d_R_noSide_5 : dc cd_R_noSide 5 (.iconst 1) 1 6 := ⟨by decide +kernel, rfl⟩
theorem d_R_noSide_6 : dc cd_R_noSide 6 (.if_icmp .le 7) 3 9 := ⟨by decide +kernel, rfl⟩
theorem d_R_noSide_9 : dc cd_R_noSide 9 (.iconst 1) 1 10 := ⟨by decide +kernel, rfl⟩
theorem d_R_noSide_10 : dc cd_R_noSide 10 (.goto 4) 3 13 := ⟨by decide +kernel, rfl⟩
theorem d_R_noSide_13 : dc cd_R_noSide 13 (.iconst 0) 1 14 := ⟨by decide +kernel, rfl⟩
theorem d_R_noSide_14 : dc cd_R_noSide 14 (.ireturn) 1 15 := ⟨by decide +kernel, rfl⟩
theorem d_R_tick_0 : dc cd_R_tick 0 (.iload_n 1) 1 1 := ⟨by decide +kernel, rfl⟩
theorem d_R_tick_1 : dc cd_R_tick 1 (.invokestatic 109) 3 4 := ⟨by decide +kernel, rfl⟩
theorem d_R_tick_4 : dc cd_R_tick 4 (.ifCond .eq 5) 3 7 := ⟨by decide +kernel, rfl⟩
theorem d_R_tick_7 : dc cd_R_tick 7 (.iconst (-1)) 1 8 := ⟨by decide +kernel, rfl⟩
theorem d_R_tick_8 : dc cd_R_tick 8 (.ireturn) 1 9 := ⟨by decide +kernel, rfl⟩
theorem d_R_tick_9 : dc cd_R_tick 9 (.aload_n 0) 1 10 := ⟨by decide +kernel, rfl⟩
theorem d_R_tick_10 : dc cd_R_tick 10 (.getfield 7) 3 13 := ⟨by decide +kernel, rfl⟩
theorem d_R_tick_13 : dc cd_R_tick 13 (.iload_n 1) 1 14 := ⟨by decide +kernel, rfl⟩
theorem d_R_tick_14 : dc cd_R_tick 14 (.iaload) 1 15 := ⟨by decide +kernel, rfl⟩
theorem d_R_tick_15 : dc cd_R_tick 15 (.sipush 200) 3 18 := ⟨by decide +kernel, rfl⟩
theorem d_R_tick_18 : dc cd_R_tick 18 (.if_icmp .ne 6) 3 21 := ⟨by decide +kernel, rfl⟩
theorem d_R_tick_21 : dc cd_R_tick 21 (.bipush (-10)) 2 23 := ⟨by decide +kernel, rfl⟩
theorem d_R_tick_23 : dc cd_R_tick 23 (.ireturn) 1 24 := ⟨by decide +kernel, rfl⟩
theorem d_R_tick_24 : dc cd_R_tick 24 (.aload_n 0) 1 25 := ⟨by decide +kernel, rfl⟩
theorem d_R_tick_25 : dc cd_R_tick 25 (.getfield 7) 3 28 := ⟨by decide +kernel, rfl⟩
theorem d_R_tick_28 : dc cd_R_tick 28 (.iload_n 1) 1 29 := ⟨by decide +kernel, rfl⟩
theorem d_R_tick_29 : dc cd_R_tick 29 (.dup2) 1 30 := ⟨by decide +kernel, rfl⟩
theorem d_R_tick_30 : dc cd_R_tick 30 (.iaload) 1 31 := ⟨by decide +kernel, rfl⟩
theorem d_R_tick_31 : dc cd_R_tick 31 (.iconst 1) 1 32 := ⟨by decide +kernel, rfl⟩
theorem d_R_tick_32 : dc cd_R_tick 32 (.iadd) 1 33 := ⟨by decide +kernel, rfl⟩
theorem d_R_tick_33 : dc cd_R_tick 33 (.iastore) 1 34 := ⟨by decide +kernel, rfl⟩
theorem d_R_tick_34 : dc cd_R_tick 34 (.aload_n 0) 1 35 := ⟨by decide +kernel, rfl⟩
theorem d_R_tick_35 : dc cd_R_tick 35 (.getfield 7) 3 38 := ⟨by decide +kernel, rfl⟩
theorem d_R_tick_38 : dc cd_R_tick 38 (.iload_n 1) 1 39 := ⟨by decide +kernel, rfl⟩
theorem d_R_tick_39 : dc cd_R_tick 39 (.iaload) 1 40 := ⟨by decide +kernel, rfl⟩
theorem d_R_tick_40 : dc cd_R_tick 40 (.istore_n 2) 1 41 := ⟨by decide +kernel, rfl⟩
theorem d_R_tick_41 : dc cd_R_tick 41 (.iconst 0) 1 42 := ⟨by decide +kernel, rfl⟩
theorem d_R_tick_42 : dc cd_R_tick 42 (.istore_n 3) 1 43 := ⟨by decide +kernel, rfl⟩
theorem d_R_tick_43 : dc cd_R_tick 43 (.iload_n 3) 1 44 := ⟨by decide +kernel, rfl⟩
theorem d_R_tick_44 : dc cd_R_tick 44 (.aload_n 0) 1 45 := ⟨by decide +kernel, rfl⟩
theorem d_R_tick_45 : dc cd_R_tick 45 (.getfield 98) 3 48 := ⟨by decide +kernel, rfl⟩
theorem d_R_tick_48 : dc cd_R_tick 48 (.if_icmp .ge 35) 3 51 := ⟨by decide +kernel, rfl⟩
theorem d_R_tick_51 : dc cd_R_tick 51 (.aload_n 0) 1 52 := ⟨by decide +kernel, rfl⟩
theorem d_R_tick_52 : dc cd_R_tick 52 (.getfield 44) 3 55 := ⟨by decide +kernel, rfl⟩
theorem d_R_tick_55 : dc cd_R_tick 55 (.sipush 201) 3 58 := ⟨by decide +kernel, rfl⟩
theorem d_R_tick_58 : dc cd_R_tick 58 (.iconst 2) 1 59 := ⟨by decide +kernel, rfl⟩
theorem d_R_tick_59 : dc cd_R_tick 59 (.iload_n 3) 1 60 := ⟨by decide +kernel, rfl⟩
theorem d_R_tick_60 : dc cd_R_tick 60 (.imul) 1 61 := ⟨by decide +kernel, rfl⟩
theorem d_R_tick_61 : dc cd_R_tick 61 (.iload_n 1) 1 62 := ⟨by decide +kernel, rfl⟩
theorem d_R_tick_62 : dc cd_R_tick 62 (.iadd) 1 63 := ⟨by decide +kernel, rfl⟩
theorem d_R_tick_63 : dc cd_R_tick 63 (.imul) 1 64 := ⟨by decide +kernel, rfl⟩
theorem d_R_tick_64 : dc cd_R_tick 64 (.iload_n 2) 1 65 := ⟨by decide +kernel, rfl⟩
theorem d_R_tick_65 : dc cd_R_tick 65 (.iadd) 1 66 := ⟨by decide +kernel, rfl⟩
theorem d_R_tick_66 : dc cd_R_tick 66 (.aload_n 0) 1 67 := ⟨by decide +kernel, rfl⟩
theorem d_R_tick_67 : dc cd_R_tick 67 (.getfield 26) 3 70 := ⟨by decide +kernel, rfl⟩
theorem d_R_tick_70 : dc cd_R_tick 70 (.iconst 2) 1 71 := ⟨by decide +kernel, rfl⟩
theorem d_R_tick_71 : dc cd_R_tick 71 (.iload_n 3) 1 72 := ⟨by decide +kernel, rfl⟩
theorem d_R_tick_72 : dc cd_R_tick 72 (.imul) 1 73 := ⟨by decide +kernel, rfl⟩
theorem d_R_tick_73 : dc cd_R_tick 73 (.iload_n 1) 1 74 := ⟨by decide +kernel, rfl⟩
theorem d_R_tick_74 : dc cd_R_tick 74 (.iadd) 1 75 := ⟨by decide +kernel, rfl⟩
theorem d_R_tick_75 : dc cd_R_tick 75 (.iaload) 1 76 := ⟨by decide +kernel, rfl⟩
theorem d_R_tick_76 : dc cd_R_tick 76 (.iastore) 1 77 := ⟨by decide +kernel, rfl⟩
theorem d_R_tick_77 : dc cd_R_tick 77 (.iinc 3 1) 3 80 := ⟨by decide +kernel, rfl⟩
theorem d_R_tick_80 : dc cd_R_tick 80 (.goto (-37)) 3 83 := ⟨by decide +kernel, rfl⟩
theorem d_R_tick_83 : dc cd_R_tick 83 (.iload_n 2) 1 84 := ⟨by decide +kernel, rfl⟩
theorem d_R_tick_84 : dc cd_R_tick 84 (.ireturn) 1 85 := ⟨by decide +kernel, rfl⟩
theorem d_R_follow_0 : dc cd_R_follow 0 (.iload_n 1) 1 1 := ⟨by decide +kernel, rfl⟩
theorem d_R_follow_1 : dc cd_R_follow 1 (.invokestatic 109) 3 4 := ⟨by decide +kernel, rfl⟩
theorem d_R_follow_4 : dc cd_R_follow 4 (.ifCond .eq 5) 3 7 := ⟨by decide +kernel, rfl⟩
theorem d_R_follow_7 : dc cd_R_follow 7 (.iconst (-1)) 1 8 := ⟨by decide +kernel, rfl⟩
theorem d_R_follow_8 : dc cd_R_follow 8 (.ireturn) 1 9 := ⟨by decide +kernel, rfl⟩
theorem d_R_follow_9 : dc cd_R_follow 9 (.iload_n 2) 1 10 := ⟨by decide +kernel, rfl⟩
theorem d_R_follow_10 : dc cd_R_follow 10 (.iconst 1) 1 11 := ⟨by decide +kernel, rfl⟩
theorem d_R_follow_11 : dc cd_R_follow 11 (.aload_n 0) 1 12 := ⟨by decide +kernel, rfl⟩
theorem d_R_follow_12 : dc cd_R_follow 12 (.getfield 7) 3 15 := ⟨by decide +kernel, rfl⟩
theorem d_R_follow_15 : dc cd_R_follow 15 (.iconst 1) 1 16 := ⟨by decide +kernel, rfl⟩
theorem d_R_follow_16 : dc cd_R_follow 16 (.iload_n 1) 1 17 := ⟨by decide +kernel, rfl⟩
theorem d_R_follow_17 : dc cd_R_follow 17 (.isub) 1 18 := ⟨by decide +kernel, rfl⟩
theorem d_R_follow_18 : dc cd_R_follow 18 (.iaload) 1 19 := ⟨by decide +kernel, rfl⟩
theorem d_R_follow_19 : dc cd_R_follow 19 (.invokestatic 113) 3 22 := ⟨by decide +kernel, rfl⟩
theorem d_R_follow_22 : dc cd_R_follow 22 (.ifCond .eq 13) 3 25 := ⟨by decide +kernel, rfl⟩
theorem d_R_follow_25 : dc cd_R_follow 25 (.iload_n 3) 1 26 := ⟨by decide +kernel, rfl⟩
theorem d_R_follow_26 : dc cd_R_follow 26 (.iconst 0) 1 27 := ⟨by decide +kernel, rfl⟩
theorem d_R_follow_27 : dc cd_R_follow 27 (.bipush 9) 2 29 := ⟨by decide +kernel, rfl⟩
theorem d_R_follow_29 : dc cd_R_follow 29 (.invokestatic 113) 3 32 := ⟨by decide +kernel, rfl⟩
theorem d_R_follow_32 : dc cd_R_follow 32 (.ifCond .ne 6) 3 35 := ⟨by decide +kernel, rfl⟩
theorem d_R_follow_35 : dc cd_R_follow 35 (.bipush (-2)) 2 37 := ⟨by decide +kernel, rfl⟩
theorem d_R_follow_37 : dc cd_R_follow 37 (.ireturn) 1 38 := ⟨by decide +kernel, rfl⟩
theorem d_R_follow_38 : dc cd_R_follow 38 (.sipush 201) 3 41 := ⟨by decide +kernel, rfl⟩
theorem d_R_follow_41 : dc cd_R_follow 41 (.iload_n 1) 1 42 := ⟨by decide +kernel, rfl⟩
theorem d_R_follow_42 : dc cd_R_follow 42 (.imul) 1 43 := ⟨by decide +kernel, rfl⟩
theorem d_R_follow_43 : dc cd_R_follow 43 (.iload_n 2) 1 44 := ⟨by decide +kernel, rfl⟩
theorem d_R_follow_44 : dc cd_R_follow 44 (.iadd) 1 45 := ⟨by decide +kernel, rfl⟩
theorem d_R_follow_45 : dc cd_R_follow 45 (.istore 4) 2 47 := ⟨by decide +kernel, rfl⟩
theorem d_R_follow_47 : dc cd_R_follow 47 (.aload_n 0) 1 48 := ⟨by decide +kernel, rfl⟩
theorem d_R_follow_48 : dc cd_R_follow 48 (.getfield 13) 3 51 := ⟨by decide +kernel, rfl⟩
theorem d_R_follow_51 : dc cd_R_follow 51 (.iload 4) 2 53 := ⟨by decide +kernel, rfl⟩
theorem d_R_follow_53 : dc cd_R_follow 53 (.iaload) 1 54 := ⟨by decide +kernel, rfl⟩
theorem d_R_follow_54 : dc cd_R_follow 54 (.iload_n 3) 1 55 := ⟨by decide +kernel, rfl⟩
theorem d_R_follow_55 : dc cd_R_follow 55 (.if_icmp .ne 6) 3 58 := ⟨by decide +kernel, rfl⟩
theorem d_R_follow_58 : dc cd_R_follow 58 (.bipush (-3)) 2 60 := ⟨by decide +kernel, rfl⟩
theorem d_R_follow_60 : dc cd_R_follow 60 (.ireturn) 1 61 := ⟨by decide +kernel, rfl⟩
theorem d_R_follow_61 : dc cd_R_follow 61 (.aload_n 0) 1 62 := ⟨by decide +kernel, rfl⟩
theorem d_R_follow_62 : dc cd_R_follow 62 (.getfield 16) 3 65 := ⟨by decide +kernel, rfl⟩
theorem d_R_follow_65 : dc cd_R_follow 65 (.iload_n 1) 1 66 := ⟨by decide +kernel, rfl⟩
theorem d_R_follow_66 : dc cd_R_follow 66 (.baload) 1 67 := ⟨by decide +kernel, rfl⟩
theorem d_R_follow_67 : dc cd_R_follow 67 (.ifCond .eq 6) 3 70 := ⟨by decide +kernel, rfl⟩
theorem d_R_follow_70 : dc cd_R_follow 70 (.bipush (-4)) 2 72 := ⟨by decide +kernel, rfl⟩
theorem d_R_follow_72 : dc cd_R_follow 72 (.ireturn) 1 73 := ⟨by decide +kernel, rfl⟩
theorem d_R_follow_73 : dc cd_R_follow 73 (.aload_n 0) 1 74 := ⟨by decide +kernel, rfl⟩
theorem d_R_follow_74 : dc cd_R_follow 74 (.getfield 13) 3 77 := ⟨by decide +kernel, rfl⟩
theorem d_R_follow_77 : dc cd_R_follow 77 (.iload 4) 2 79 := ⟨by decide +kernel, rfl⟩
theorem d_R_follow_79 : dc cd_R_follow 79 (.iaload) 1 80 := ⟨by decide +kernel, rfl⟩
theorem d_R_follow_80 : dc cd_R_follow 80 (.ifCond .lt 12) 3 83 := ⟨by decide +kernel, rfl⟩
theorem d_R_follow_83 : dc cd_R_follow 83 (.aload_n 0) 1 84 := ⟨by decide +kernel, rfl⟩
theorem d_R_follow_84 : dc cd_R_follow 84 (.getfield 16) 3 87 := ⟨by decide +kernel, rfl⟩
theorem d_R_follow_87 : dc cd_R_follow 87 (.iload_n 1) 1 88 := ⟨by decide +kernel, rfl⟩
theorem d_R_follow_88 : dc cd_R_follow 88 (.iconst 1) 1 89 := ⟨by decide +kernel, rfl⟩
theorem d_R_follow_89 : dc cd_R_follow 89 (.bastore) 1 90 := ⟨by decide +kernel, rfl⟩
theorem d_R_follow_90 : dc cd_R_follow 90 (.iconst 2) 1 91 := ⟨by decide +kernel, rfl⟩
theorem d_R_follow_91 : dc cd_R_follow 91 (.ireturn) 1 92 := ⟨by decide +kernel, rfl⟩
theorem d_R_follow_92 : dc cd_R_follow 92 (.aload_n 0) 1 93 := ⟨by decide +kernel, rfl⟩
end
section
theorem d_R_follow_93 : dc cd_R_follow 93 (.getfield 13) 3 96 := ⟨by decide +kernel, rfl⟩
theorem d_R_follow_96 : dc cd_R_follow 96 (.iload 4) 2 98 := ⟨by decide +kernel, rfl⟩
theorem d_R_follow_98 : dc cd_R_follow 98 (.iload_n 3) 1 99 := ⟨by decide +kernel, rfl⟩
theorem d_R_follow_99 : dc cd_R_follow 99 (.iastore) 1 100 := ⟨by decide +kernel, rfl⟩
theorem d_R_follow_100 : dc cd_R_follow 100 (.iconst 1) 1 101 := ⟨by decide +kernel, rfl⟩
theorem d_R_follow_101 : dc cd_R_follow 101 (.ireturn) 1 102 := ⟨by decide +kernel, rfl⟩
theorem d_R_followedMany_0 : dc cd_R_followedMany 0 (.iconst 0) 1 1 := ⟨by decide +kernel, rfl⟩
theorem d_R_followedMany_1 : dc cd_R_followedMany 1 (.istore_n 2) 1 2 := ⟨by decide +kernel, rfl⟩
theorem d_R_followedMany_2 : dc cd_R_followedMany 2 (.iconst 1) 1 3 := ⟨by decide +kernel, rfl⟩
theorem d_R_followedMany_3 : dc cd_R_followedMany 3 (.istore_n 3) 1 4 := ⟨by decide +kernel, rfl⟩
theorem d_R_followedMany_4 : dc cd_R_followedMany 4 (.iload_n 3) 1 5 := ⟨by decide +kernel, rfl⟩
theorem d_R_followedMany_5 : dc cd_R_followedMany 5 (.sipush 200) 3 8 := ⟨by decide +kernel, rfl⟩
theorem d_R_followedMany_8 : dc cd_R_followedMany 8 (.if_icmp .gt 32) 3 11 := ⟨by decide +kernel, rfl⟩
theorem d_R_followedMany_11 : dc cd_R_followedMany 11 (.iload_n 2) 1 12 := ⟨by decide +kernel, rfl⟩
theorem d_R_followedMany_12 : dc cd_R_followedMany 12 (.aload_n 0) 1 13 := ⟨by decide +kernel, rfl⟩
theorem d_R_followedMany_13 : dc cd_R_followedMany 13 (.getfield 13) 3 16 := ⟨by decide +kernel, rfl⟩
theorem d_R_followedMany_16 : dc cd_R_followedMany 16 (.sipush 201) 3 19 := ⟨by decide +kernel, rfl⟩
theorem d_R_followedMany_19 : dc cd_R_followedMany 19 (.iload_n 1) 1 20 := ⟨by decide +kernel, rfl⟩
theorem d_R_followedMany_20 : dc cd_R_followedMany 20 (.imul) 1 21 := ⟨by decide +kernel, rfl⟩
theorem d_R_followedMany_21 : dc cd_R_followedMany 21 (.iload_n 3) 1 22 := ⟨by decide +kernel, rfl⟩
theorem d_R_followedMany_22 : dc cd_R_followedMany 22 (.iadd) 1 23 := ⟨by decide +kernel, rfl⟩
theorem d_R_followedMany_23 : dc cd_R_followedMany 23 (.iaload) 1 24 := ⟨by decide +kernel, rfl⟩
theorem d_R_followedMany_24 : dc cd_R_followedMany 24 (.ifCond .lt 7) 3 27 := ⟨by decide +kernel, rfl⟩
theorem d_R_followedMany_27 : dc cd_R_followedMany 27 (.iconst 1) 1 28 := ⟨by decide +kernel, rfl⟩
theorem d_R_followedMany_28 : dc cd_R_followedMany 28 (.goto 4) 3 31 := ⟨by decide +kernel, rfl⟩
theorem d_R_followedMany_31 : dc cd_R_followedMany 31 (.iconst 0) 1 32 := ⟨by decide +kernel, rfl⟩
theorem d_R_followedMany_32 : dc cd_R_followedMany 32 (.iadd) 1 33 := ⟨by decide +kernel, rfl⟩
theorem d_R_followedMany_33 : dc cd_R_followedMany 33 (.istore_n 2) 1 34 := ⟨by decide +kernel, rfl⟩
theorem d_R_followedMany_34 : dc cd_R_followedMany 34 (.iinc 3 1) 3 37 := ⟨by decide +kernel, rfl⟩
theorem d_R_followedMany_37 : dc cd_R_followedMany 37 (.goto (-33)) 3 40 := ⟨by decide +kernel, rfl⟩
theorem d_R_followedMany_40 : dc cd_R_followedMany 40 (.iload_n 2) 1 41 := ⟨by decide +kernel, rfl⟩
theorem d_R_followedMany_41 : dc cd_R_followedMany 41 (.ireturn) 1 42 := ⟨by decide +kernel, rfl⟩
theorem d_R_highest_0 : dc cd_R_highest 0 (.iconst 0) 1 1 := ⟨by decide +kernel, rfl⟩
theorem d_R_highest_1 : dc cd_R_highest 1 (.istore_n 2) 1 2 := ⟨by decide +kernel, rfl⟩
theorem d_R_highest_2 : dc cd_R_highest 2 (.iconst 1) 1 3 := ⟨by decide +kernel, rfl⟩
theorem d_R_highest_3 : dc cd_R_highest 3 (.istore_n 3) 1 4 := ⟨by decide +kernel, rfl⟩
theorem d_R_highest_4 : dc cd_R_highest 4 (.iload_n 3) 1 5 := ⟨by decide +kernel, rfl⟩
theorem d_R_highest_5 : dc cd_R_highest 5 (.sipush 200) 3 8 := ⟨by decide +kernel, rfl⟩
theorem d_R_highest_8 : dc cd_R_highest 8 (.if_icmp .gt 30) 3 11 := ⟨by decide +kernel, rfl⟩
theorem d_R_highest_11 : dc cd_R_highest 11 (.aload_n 0) 1 12 := ⟨by decide +kernel, rfl⟩
theorem d_R_highest_12 : dc cd_R_highest 12 (.getfield 13) 3 15 := ⟨by decide +kernel, rfl⟩
theorem d_R_highest_15 : dc cd_R_highest 15 (.sipush 201) 3 18 := ⟨by decide +kernel, rfl⟩
theorem d_R_highest_18 : dc cd_R_highest 18 (.iload_n 1) 1 19 := ⟨by decide +kernel, rfl⟩
theorem d_R_highest_19 : dc cd_R_highest 19 (.imul) 1 20 := ⟨by decide +kernel, rfl⟩
theorem d_R_highest_20 : dc cd_R_highest 20 (.iload_n 3) 1 21 := ⟨by decide +kernel, rfl⟩
theorem d_R_highest_21 : dc cd_R_highest 21 (.iadd) 1 22 := ⟨by decide +kernel, rfl⟩
theorem d_R_highest_22 : dc cd_R_highest 22 (.iaload) 1 23 := ⟨by decide +kernel, rfl⟩
theorem d_R_highest_23 : dc cd_R_highest 23 (.ifCond .lt 7) 3 26 := ⟨by decide +kernel, rfl⟩
theorem d_R_highest_26 : dc cd_R_highest 26 (.iload_n 3) 1 27 := ⟨by decide +kernel, rfl⟩
theorem d_R_highest_27 : dc cd_R_highest 27 (.goto 4) 3 30 := ⟨by decide +kernel, rfl⟩
theorem d_R_highest_30 : dc cd_R_highest 30 (.iload_n 2) 1 31 := ⟨by decide +kernel, rfl⟩
theorem d_R_highest_31 : dc cd_R_highest 31 (.istore_n 2) 1 32 := ⟨by decide +kernel, rfl⟩
theorem d_R_highest_32 : dc cd_R_highest 32 (.iinc 3 1) 3 35 := ⟨by decide +kernel, rfl⟩
theorem d_R_highest_35 : dc cd_R_highest 35 (.goto (-31)) 3 38 := ⟨by decide +kernel, rfl⟩
theorem d_R_highest_38 : dc cd_R_highest 38 (.iload_n 2) 1 39 := ⟨by decide +kernel, rfl⟩
theorem d_R_highest_39 : dc cd_R_highest 39 (.ireturn) 1 40 := ⟨by decide +kernel, rfl⟩
theorem d_R_renew_0 : dc cd_R_renew 0 (.iload_n 1) 1 1 := ⟨by decide +kernel, rfl⟩
theorem d_R_renew_1 : dc cd_R_renew 1 (.invokestatic 109) 3 4 := ⟨by decide +kernel, rfl⟩
theorem d_R_renew_4 : dc cd_R_renew 4 (.ifCond .eq 5) 3 7 := ⟨by decide +kernel, rfl⟩
theorem d_R_renew_7 : dc cd_R_renew 7 (.iconst (-1)) 1 8 := ⟨by decide +kernel, rfl⟩
theorem d_R_renew_8 : dc cd_R_renew 8 (.ireturn) 1 9 := ⟨by decide +kernel, rfl⟩
theorem d_R_renew_9 : dc cd_R_renew 9 (.aload_n 0) 1 10 := ⟨by decide +kernel, rfl⟩
theorem d_R_renew_10 : dc cd_R_renew 10 (.getfield 16) 3 13 := ⟨by decide +kernel, rfl⟩
theorem d_R_renew_13 : dc cd_R_renew 13 (.iload_n 1) 1 14 := ⟨by decide +kernel, rfl⟩
theorem d_R_renew_14 : dc cd_R_renew 14 (.baload) 1 15 := ⟨by decide +kernel, rfl⟩
theorem d_R_renew_15 : dc cd_R_renew 15 (.ifCond .ne 6) 3 18 := ⟨by decide +kernel, rfl⟩
theorem d_R_renew_18 : dc cd_R_renew 18 (.bipush (-3)) 2 20 := ⟨by decide +kernel, rfl⟩
theorem d_R_renew_20 : dc cd_R_renew 20 (.ireturn) 1 21 := ⟨by decide +kernel, rfl⟩
theorem d_R_renew_21 : dc cd_R_renew 21 (.aload_n 0) 1 22 := ⟨by decide +kernel, rfl⟩
theorem d_R_renew_22 : dc cd_R_renew 22 (.iload_n 1) 1 23 := ⟨by decide +kernel, rfl⟩
theorem d_R_renew_23 : dc cd_R_renew 23 (.invokevirtual 117) 3 26 := ⟨by decide +kernel, rfl⟩
theorem d_R_renew_26 : dc cd_R_renew 26 (.istore_n 2) 1 27 := ⟨by decide +kernel, rfl⟩
theorem d_R_renew_27 : dc cd_R_renew 27 (.aload_n 0) 1 28 := ⟨by decide +kernel, rfl⟩
theorem d_R_renew_28 : dc cd_R_renew 28 (.iload_n 1) 1 29 := ⟨by decide +kernel, rfl⟩
theorem d_R_renew_29 : dc cd_R_renew 29 (.invokevirtual 105) 3 32 := ⟨by decide +kernel, rfl⟩
theorem d_R_renew_32 : dc cd_R_renew 32 (.iload_n 2) 1 33 := ⟨by decide +kernel, rfl⟩
theorem d_R_renew_33 : dc cd_R_renew 33 (.ireturn) 1 34 := ⟨by decide +kernel, rfl⟩
theorem d_R_client_0 : dc cd_R_client 0 (.iload_n 1) 1 1 := ⟨by decide +kernel, rfl⟩
theorem d_R_client_1 : dc cd_R_client 1 (.invokestatic 109) 3 4 := ⟨by decide +kernel, rfl⟩
theorem d_R_client_4 : dc cd_R_client 4 (.ifCond .eq 5) 3 7 := ⟨by decide +kernel, rfl⟩
theorem d_R_client_7 : dc cd_R_client 7 (.iconst (-1)) 1 8 := ⟨by decide +kernel, rfl⟩
theorem d_R_client_8 : dc cd_R_client 8 (.ireturn) 1 9 := ⟨by decide +kernel, rfl⟩
theorem d_R_client_9 : dc cd_R_client 9 (.iload_n 2) 1 10 := ⟨by decide +kernel, rfl⟩
theorem d_R_client_10 : dc cd_R_client 10 (.tableswitch 53 0 2 #[26, 41, 47]) 26 36 := ⟨by decide +kernel, rfl⟩
theorem d_R_client_36 : dc cd_R_client 36 (.aload_n 0) 1 37 := ⟨by decide +kernel, rfl⟩
theorem d_R_client_37 : dc cd_R_client 37 (.getfield 16) 3 40 := ⟨by decide +kernel, rfl⟩
theorem d_R_client_40 : dc cd_R_client 40 (.iload_n 1) 1 41 := ⟨by decide +kernel, rfl⟩
theorem d_R_client_41 : dc cd_R_client 41 (.baload) 1 42 := ⟨by decide +kernel, rfl⟩
theorem d_R_client_42 : dc cd_R_client 42 (.ifCond .eq 7) 3 45 := ⟨by decide +kernel, rfl⟩
theorem d_R_client_45 : dc cd_R_client 45 (.iconst 1) 1 46 := ⟨by decide +kernel, rfl⟩
theorem d_R_client_46 : dc cd_R_client 46 (.goto 4) 3 49 := ⟨by decide +kernel, rfl⟩
theorem d_R_client_49 : dc cd_R_client 49 (.iconst 0) 1 50 := ⟨by decide +kernel, rfl⟩
theorem d_R_client_50 : dc cd_R_client 50 (.ireturn) 1 51 := ⟨by decide +kernel, rfl⟩
theorem d_R_client_51 : dc cd_R_client 51 (.aload_n 0) 1 52 := ⟨by decide +kernel, rfl⟩
theorem d_R_client_52 : dc cd_R_client 52 (.iload_n 1) 1 53 := ⟨by decide +kernel, rfl⟩
theorem d_R_client_53 : dc cd_R_client 53 (.invokevirtual 121) 3 56 := ⟨by decide +kernel, rfl⟩
theorem d_R_client_56 : dc cd_R_client 56 (.ireturn) 1 57 := ⟨by decide +kernel, rfl⟩
theorem d_R_client_57 : dc cd_R_client 57 (.aload_n 0) 1 58 := ⟨by decide +kernel, rfl⟩
theorem d_R_client_58 : dc cd_R_client 58 (.iload_n 1) 1 59 := ⟨by decide +kernel, rfl⟩
theorem d_R_client_59 : dc cd_R_client 59 (.invokevirtual 117) 3 62 := ⟨by decide +kernel, rfl⟩
theorem d_R_client_62 : dc cd_R_client 62 (.ireturn) 1 63 := ⟨by decide +kernel, rfl⟩
theorem d_R_client_63 : dc cd_R_client 63 (.bipush (-2)) 2 65 := ⟨by decide +kernel, rfl⟩
theorem d_R_client_65 : dc cd_R_client 65 (.ireturn) 1 66 := ⟨by decide +kernel, rfl⟩
theorem d_R_follows_0 : dc cd_R_follows 0 (.iload_n 1) 1 1 := ⟨by decide +kernel, rfl⟩
theorem d_R_follows_1 : dc cd_R_follows 1 (.invokestatic 109) 3 4 := ⟨by decide +kernel, rfl⟩
theorem d_R_follows_4 : dc cd_R_follows 4 (.ifCond .eq 5) 3 7 := ⟨by decide +kernel, rfl⟩
theorem d_R_follows_7 : dc cd_R_follows 7 (.iconst (-1)) 1 8 := ⟨by decide +kernel, rfl⟩
theorem d_R_follows_8 : dc cd_R_follows 8 (.ireturn) 1 9 := ⟨by decide +kernel, rfl⟩
theorem d_R_follows_9 : dc cd_R_follows 9 (.iload_n 2) 1 10 := ⟨by decide +kernel, rfl⟩
theorem d_R_follows_10 : dc cd_R_follows 10 (.iconst 1) 1 11 := ⟨by decide +kernel, rfl⟩
theorem d_R_follows_11 : dc cd_R_follows 11 (.sipush 200) 3 14 := ⟨by decide +kernel, rfl⟩
theorem d_R_follows_14 : dc cd_R_follows 14 (.invokestatic 113) 3 17 := ⟨by decide +kernel, rfl⟩
theorem d_R_follows_17 : dc cd_R_follows 17 (.ifCond .ne 6) 3 20 := ⟨by decide +kernel, rfl⟩
theorem d_R_follows_20 : dc cd_R_follows 20 (.bipush (-2)) 2 22 := ⟨by decide +kernel, rfl⟩
theorem d_R_follows_22 : dc cd_R_follows 22 (.ireturn) 1 23 := ⟨by decide +kernel, rfl⟩
theorem d_R_follows_23 : dc cd_R_follows 23 (.sipush 201) 3 26 := ⟨by decide +kernel, rfl⟩
theorem d_R_follows_26 : dc cd_R_follows 26 (.iload_n 1) 1 27 := ⟨by decide +kernel, rfl⟩
theorem d_R_follows_27 : dc cd_R_follows 27 (.imul) 1 28 := ⟨by decide +kernel, rfl⟩
theorem d_R_follows_28 : dc cd_R_follows 28 (.iload_n 2) 1 29 := ⟨by decide +kernel, rfl⟩
theorem d_R_follows_29 : dc cd_R_follows 29 (.iadd) 1 30 := ⟨by decide +kernel, rfl⟩
theorem d_R_follows_30 : dc cd_R_follows 30 (.istore_n 3) 1 31 := ⟨by decide +kernel, rfl⟩
theorem d_R_follows_31 : dc cd_R_follows 31 (.aload_n 0) 1 32 := ⟨by decide +kernel, rfl⟩
theorem d_R_follows_32 : dc cd_R_follows 32 (.getfield 13) 3 35 := ⟨by decide +kernel, rfl⟩
theorem d_R_follows_35 : dc cd_R_follows 35 (.iload_n 3) 1 36 := ⟨by decide +kernel, rfl⟩
theorem d_R_follows_36 : dc cd_R_follows 36 (.iaload) 1 37 := ⟨by decide +kernel, rfl⟩
theorem d_R_follows_37 : dc cd_R_follows 37 (.ifCond .ge 7) 3 40 := ⟨by decide +kernel, rfl⟩
theorem d_R_follows_40 : dc cd_R_follows 40 (.iconst 0) 1 41 := ⟨by decide +kernel, rfl⟩
theorem d_R_follows_41 : dc cd_R_follows 41 (.goto 17) 3 44 := ⟨by decide +kernel, rfl⟩
theorem d_R_follows_44 : dc cd_R_follows 44 (.aload_n 0) 1 45 := ⟨by decide +kernel, rfl⟩
theorem d_R_follows_45 : dc cd_R_follows 45 (.getfield 13) 3 48 := ⟨by decide +kernel, rfl⟩
theorem d_R_follows_48 : dc cd_R_follows 48 (.iload_n 3) 1 49 := ⟨by decide +kernel, rfl⟩
theorem d_R_follows_49 : dc cd_R_follows 49 (.iaload) 1 50 := ⟨by decide +kernel, rfl⟩
theorem d_R_follows_50 : dc cd_R_follows 50 (.ifCond .ne 7) 3 53 := ⟨by decide +kernel, rfl⟩
theorem d_R_follows_53 : dc cd_R_follows 53 (.iconst 1) 1 54 := ⟨by decide +kernel, rfl⟩
theorem d_R_follows_54 : dc cd_R_follows 54 (.goto 4) 3 57 := ⟨by decide +kernel, rfl⟩
theorem d_R_follows_57 : dc cd_R_follows 57 (.iconst 2) 1 58 := ⟨by decide +kernel, rfl⟩
theorem d_R_follows_58 : dc cd_R_follows 58 (.ireturn) 1 59 := ⟨by decide +kernel, rfl⟩
theorem d_R_unproved_0 : dc cd_R_unproved 0 (.aload_n 0) 1 1 := ⟨by decide +kernel, rfl⟩
theorem d_R_unproved_1 : dc cd_R_unproved 1 (.getfield 16) 3 4 := ⟨by decide +kernel, rfl⟩
theorem d_R_unproved_4 : dc cd_R_unproved 4 (.iload_n 1) 1 5 := ⟨by decide +kernel, rfl⟩
theorem d_R_unproved_5 : dc cd_R_unproved 5 (.baload) 1 6 := ⟨by decide +kernel, rfl⟩
theorem d_R_unproved_6 : dc cd_R_unproved 6 (.ifCond .eq 6) 3 9 := ⟨by decide +kernel, rfl⟩
theorem d_R_unproved_9 : dc cd_R_unproved 9 (.bipush (-4)) 2 11 := ⟨by decide +kernel, rfl⟩
theorem d_R_unproved_11 : dc cd_R_unproved 11 (.ireturn) 1 12 := ⟨by decide +kernel, rfl⟩
theorem d_R_unproved_12 : dc cd_R_unproved 12 (.iload_n 2) 1 13 := ⟨by decide +kernel, rfl⟩
theorem d_R_unproved_13 : dc cd_R_unproved 13 (.iconst 1) 1 14 := ⟨by decide +kernel, rfl⟩
theorem d_R_unproved_14 : dc cd_R_unproved 14 (.sipush 200) 3 17 := ⟨by decide +kernel, rfl⟩
theorem d_R_unproved_17 : dc cd_R_unproved 17 (.invokestatic 113) 3 20 := ⟨by decide +kernel, rfl⟩
theorem d_R_unproved_20 : dc cd_R_unproved 20 (.ifCond .eq 17) 3 23 := ⟨by decide +kernel, rfl⟩
theorem d_R_unproved_23 : dc cd_R_unproved 23 (.aload_n 0) 1 24 := ⟨by decide +kernel, rfl⟩
theorem d_R_unproved_24 : dc cd_R_unproved 24 (.iload_n 1) 1 25 := ⟨by decide +kernel, rfl⟩
theorem d_R_unproved_25 : dc cd_R_unproved 25 (.iload_n 2) 1 26 := ⟨by decide +kernel, rfl⟩
theorem d_R_unproved_26 : dc cd_R_unproved 26 (.invokevirtual 124) 3 29 := ⟨by decide +kernel, rfl⟩
theorem d_R_unproved_29 : dc cd_R_unproved 29 (.iconst 1) 1 30 := ⟨by decide +kernel, rfl⟩
theorem d_R_unproved_30 : dc cd_R_unproved 30 (.if_icmp .ne 7) 3 33 := ⟨by decide +kernel, rfl⟩
theorem d_R_unproved_33 : dc cd_R_unproved 33 (.iconst 0) 1 34 := ⟨by decide +kernel, rfl⟩
theorem d_R_unproved_34 : dc cd_R_unproved 34 (.goto 5) 3 37 := ⟨by decide +kernel, rfl⟩
theorem d_R_unproved_37 : dc cd_R_unproved 37 (.bipush (-5)) 2 39 := ⟨by decide +kernel, rfl⟩
theorem d_R_unproved_39 : dc cd_R_unproved 39 (.ireturn) 1 40 := ⟨by decide +kernel, rfl⟩
theorem d_R_stepOf_0 : dc cd_R_stepOf 0 (.aload_n 0) 1 1 := ⟨by decide +kernel, rfl⟩
theorem d_R_stepOf_1 : dc cd_R_stepOf 1 (.getfield 44) 3 4 := ⟨by decide +kernel, rfl⟩
theorem d_R_stepOf_4 : dc cd_R_stepOf 4 (.sipush 201) 3 7 := ⟨by decide +kernel, rfl⟩
theorem d_R_stepOf_7 : dc cd_R_stepOf 7 (.iconst 2) 1 8 := ⟨by decide +kernel, rfl⟩
theorem d_R_stepOf_8 : dc cd_R_stepOf 8 (.iload_n 1) 1 9 := ⟨by decide +kernel, rfl⟩
theorem d_R_stepOf_9 : dc cd_R_stepOf 9 (.imul) 1 10 := ⟨by decide +kernel, rfl⟩
theorem d_R_stepOf_10 : dc cd_R_stepOf 10 (.iload_n 2) 1 11 := ⟨by decide +kernel, rfl⟩
theorem d_R_stepOf_11 : dc cd_R_stepOf 11 (.iadd) 1 12 := ⟨by decide +kernel, rfl⟩
theorem d_R_stepOf_12 : dc cd_R_stepOf 12 (.imul) 1 13 := ⟨by decide +kernel, rfl⟩
theorem d_R_stepOf_13 : dc cd_R_stepOf 13 (.iload_n 3) 1 14 := ⟨by decide +kernel, rfl⟩
theorem d_R_stepOf_14 : dc cd_R_stepOf 14 (.iadd) 1 15 := ⟨by decide +kernel, rfl⟩
theorem d_R_stepOf_15 : dc cd_R_stepOf 15 (.iaload) 1 16 := ⟨by decide +kernel, rfl⟩
theorem d_R_stepOf_16 : dc cd_R_stepOf 16 (.ireturn) 1 17 := ⟨by decide +kernel, rfl⟩
theorem d_R_unprovedStep_0 : dc cd_R_unprovedStep 0 (.aload_n 0) 1 1 := ⟨by decide +kernel, rfl⟩
theorem d_R_unprovedStep_1 : dc cd_R_unprovedStep 1 (.iload_n 2) 1 2 := ⟨by decide +kernel, rfl⟩
theorem d_R_unprovedStep_2 : dc cd_R_unprovedStep 2 (.iload_n 3) 1 3 := ⟨by decide +kernel, rfl⟩
theorem d_R_unprovedStep_3 : dc cd_R_unprovedStep 3 (.invokevirtual 128) 3 6 := ⟨by decide +kernel, rfl⟩
theorem d_R_unprovedStep_6 : dc cd_R_unprovedStep 6 (.istore 5) 2 8 := ⟨by decide +kernel, rfl⟩
theorem d_R_unprovedStep_8 : dc cd_R_unprovedStep 8 (.iload 5) 2 10 := ⟨by decide +kernel, rfl⟩
theorem d_R_unprovedStep_10 : dc cd_R_unprovedStep 10 (.ifCond .eq 8) 3 13 := ⟨by decide +kernel, rfl⟩
theorem d_R_unprovedStep_13 : dc cd_R_unprovedStep 13 (.iload 5) 2 15 := ⟨by decide +kernel, rfl⟩
theorem d_R_unprovedStep_15 : dc cd_R_unprovedStep 15 (.goto 23) 3 18 := ⟨by decide +kernel, rfl⟩
theorem d_R_unprovedStep_18 : dc cd_R_unprovedStep 18 (.aload_n 0) 1 19 := ⟨by decide +kernel, rfl⟩
theorem d_R_unprovedStep_19 : dc cd_R_unprovedStep 19 (.iload_n 1) 1 20 := ⟨by decide +kernel, rfl⟩
theorem d_R_unprovedStep_20 : dc cd_R_unprovedStep 20 (.iconst 1) 1 21 := ⟨by decide +kernel, rfl⟩
theorem d_R_unprovedStep_21 : dc cd_R_unprovedStep 21 (.iload_n 2) 1 22 := ⟨by decide +kernel, rfl⟩
theorem d_R_unprovedStep_22 : dc cd_R_unprovedStep 22 (.isub) 1 23 := ⟨by decide +kernel, rfl⟩
theorem d_R_unprovedStep_23 : dc cd_R_unprovedStep 23 (.iload_n 3) 1 24 := ⟨by decide +kernel, rfl⟩
theorem d_R_unprovedStep_24 : dc cd_R_unprovedStep 24 (.invokevirtual 131) 3 27 := ⟨by decide +kernel, rfl⟩
theorem d_R_unprovedStep_27 : dc cd_R_unprovedStep 27 (.iload 4) 2 29 := ⟨by decide +kernel, rfl⟩
theorem d_R_unprovedStep_29 : dc cd_R_unprovedStep 29 (.if_icmp .ne 7) 3 32 := ⟨by decide +kernel, rfl⟩
theorem d_R_unprovedStep_32 : dc cd_R_unprovedStep 32 (.iconst 0) 1 33 := ⟨by decide +kernel, rfl⟩
theorem d_R_unprovedStep_33 : dc cd_R_unprovedStep 33 (.goto 5) 3 36 := ⟨by decide +kernel, rfl⟩
theorem d_R_unprovedStep_36 : dc cd_R_unprovedStep 36 (.bipush (-6)) 2 38 := ⟨by decide +kernel, rfl⟩
theorem d_R_unprovedStep_38 : dc cd_R_unprovedStep 38 (.ireturn) 1 39 := ⟨by decide +kernel, rfl⟩
theorem d_R_noChannel_0 : dc cd_R_noChannel 0 (.iload_n 1) 1 1 := ⟨by decide +kernel, rfl⟩
theorem d_R_noChannel_1 : dc cd_R_noChannel 1 (.iconst 0) 1 2 := ⟨by decide +kernel, rfl⟩
theorem d_R_noChannel_2 : dc cd_R_noChannel 2 (.aload_n 0) 1 3 := ⟨by decide +kernel, rfl⟩
theorem d_R_noChannel_3 : dc cd_R_noChannel 3 (.getfield 98) 3 6 := ⟨by decide +kernel, rfl⟩
theorem d_R_noChannel_6 : dc cd_R_noChannel 6 (.iconst 1) 1 7 := ⟨by decide +kernel, rfl⟩
theorem d_R_noChannel_7 : dc cd_R_noChannel 7 (.isub) 1 8 := ⟨by decide +kernel, rfl⟩
theorem d_R_noChannel_8 : dc cd_R_noChannel 8 (.invokestatic 113) 3 11 := ⟨by decide +kernel, rfl⟩
theorem d_R_noChannel_11 : dc cd_R_noChannel 11 (.ifCond .ne 7) 3 14 := ⟨by decide +kernel, rfl⟩
theorem d_R_noChannel_14 : dc cd_R_noChannel 14 (.iconst 1) 1 15 := ⟨by decide +kernel, rfl⟩
theorem d_R_noChannel_15 : dc cd_R_noChannel 15 (.goto 4) 3 18 := ⟨by decide +kernel, rfl⟩
theorem d_R_noChannel_18 : dc cd_R_noChannel 18 (.iconst 0) 1 19 := ⟨by decide +kernel, rfl⟩
theorem d_R_noChannel_19 : dc cd_R_noChannel 19 (.ireturn) 1 20 := ⟨by decide +kernel, rfl⟩
theorem d_R_init_0 : dc cd_R_init 0 (.iload_n 1) 1 1 := ⟨by decide +kernel, rfl⟩
theorem d_R_init_1 : dc cd_R_init 1 (.invokestatic 109) 3 4 := ⟨by decide +kernel, rfl⟩
theorem d_R_init_4 : dc cd_R_init 4 (.ifCond .eq 5) 3 7 := ⟨by decide +kernel, rfl⟩
theorem d_R_init_7 : dc cd_R_init 7 (.iconst (-1)) 1 8 := ⟨by decide +kernel, rfl⟩
theorem d_R_init_8 : dc cd_R_init 8 (.ireturn) 1 9 := ⟨by decide +kernel, rfl⟩
theorem d_R_init_9 : dc cd_R_init 9 (.iload_n 3) 1 10 := ⟨by decide +kernel, rfl⟩
theorem d_R_init_10 : dc cd_R_init 10 (.iconst 1) 1 11 := ⟨by decide +kernel, rfl⟩
theorem d_R_init_11 : dc cd_R_init 11 (.bipush 7) 2 13 := ⟨by decide +kernel, rfl⟩
theorem d_R_init_13 : dc cd_R_init 13 (.invokestatic 113) 3 16 := ⟨by decide +kernel, rfl⟩
theorem d_R_init_16 : dc cd_R_init 16 (.ifCond .ne 6) 3 19 := ⟨by decide +kernel, rfl⟩
theorem d_R_init_19 : dc cd_R_init 19 (.bipush (-2)) 2 21 := ⟨by decide +kernel, rfl⟩
theorem d_R_init_21 : dc cd_R_init 21 (.ireturn) 1 22 := ⟨by decide +kernel, rfl⟩
theorem d_R_init_22 : dc cd_R_init 22 (.aload_n 0) 1 23 := ⟨by decide +kernel, rfl⟩
theorem d_R_init_23 : dc cd_R_init 23 (.getfield 98) 3 26 := ⟨by decide +kernel, rfl⟩
theorem d_R_init_26 : dc cd_R_init 26 (.iconst 4) 1 27 := ⟨by decide +kernel, rfl⟩
theorem d_R_init_27 : dc cd_R_init 27 (.if_icmp .ne 6) 3 30 := ⟨by decide +kernel, rfl⟩
theorem d_R_init_30 : dc cd_R_init 30 (.bipush (-10)) 2 32 := ⟨by decide +kernel, rfl⟩
theorem d_R_init_32 : dc cd_R_init 32 (.ireturn) 1 33 := ⟨by decide +kernel, rfl⟩
theorem d_R_init_33 : dc cd_R_init 33 (.aload_n 0) 1 34 := ⟨by decide +kernel, rfl⟩
theorem d_R_init_34 : dc cd_R_init 34 (.getfield 98) 3 37 := ⟨by decide +kernel, rfl⟩
theorem d_R_init_37 : dc cd_R_init 37 (.istore 4) 2 39 := ⟨by decide +kernel, rfl⟩
theorem d_R_init_39 : dc cd_R_init 39 (.aload_n 0) 1 40 := ⟨by decide +kernel, rfl⟩
theorem d_R_init_40 : dc cd_R_init 40 (.getfield 20) 3 43 := ⟨by decide +kernel, rfl⟩
theorem d_R_init_43 : dc cd_R_init 43 (.iload 4) 2 45 := ⟨by decide +kernel, rfl⟩
theorem d_R_init_45 : dc cd_R_init 45 (.iload_n 1) 1 46 := ⟨by decide +kernel, rfl⟩
theorem d_R_init_46 : dc cd_R_init 46 (.iastore) 1 47 := ⟨by decide +kernel, rfl⟩
theorem d_R_init_47 : dc cd_R_init 47 (.aload_n 0) 1 48 := ⟨by decide +kernel, rfl⟩
theorem d_R_init_48 : dc cd_R_init 48 (.getfield 23) 3 51 := ⟨by decide +kernel, rfl⟩
theorem d_R_init_51 : dc cd_R_init 51 (.iload 4) 2 53 := ⟨by decide +kernel, rfl⟩
theorem d_R_init_53 : dc cd_R_init 53 (.iload_n 2) 1 54 := ⟨by decide +kernel, rfl⟩
theorem d_R_init_54 : dc cd_R_init 54 (.bastore) 1 55 := ⟨by decide +kernel, rfl⟩
theorem d_R_init_55 : dc cd_R_init 55 (.iconst 0) 1 56 := ⟨by decide +kernel, rfl⟩
theorem d_R_init_56 : dc cd_R_init 56 (.istore 5) 2 58 := ⟨by decide +kernel, rfl⟩
theorem d_R_init_58 : dc cd_R_init 58 (.iload 5) 2 60 := ⟨by decide +kernel, rfl⟩
theorem d_R_init_60 : dc cd_R_init 60 (.iconst 2) 1 61 := ⟨by decide +kernel, rfl⟩
theorem d_R_init_61 : dc cd_R_init 61 (.if_icmp .ge 146) 3 64 := ⟨by decide +kernel, rfl⟩
theorem d_R_init_64 : dc cd_R_init 64 (.iconst 2) 1 65 := ⟨by decide +kernel, rfl⟩
theorem d_R_init_65 : dc cd_R_init 65 (.iload 4) 2 67 := ⟨by decide +kernel, rfl⟩
theorem d_R_init_67 : dc cd_R_init 67 (.imul) 1 68 := ⟨by decide +kernel, rfl⟩
theorem d_R_init_68 : dc cd_R_init 68 (.iload 5) 2 70 := ⟨by decide +kernel, rfl⟩
theorem d_R_init_70 : dc cd_R_init 70 (.iadd) 1 71 := ⟨by decide +kernel, rfl⟩
theorem d_R_init_71 : dc cd_R_init 71 (.istore 6) 2 73 := ⟨by decide +kernel, rfl⟩
theorem d_R_init_73 : dc cd_R_init 73 (.aload_n 0) 1 74 := ⟨by decide +kernel, rfl⟩
theorem d_R_init_74 : dc cd_R_init 74 (.getfield 26) 3 77 := ⟨by decide +kernel, rfl⟩
theorem d_R_init_77 : dc cd_R_init 77 (.iload 6) 2 79 := ⟨by decide +kernel, rfl⟩
theorem d_R_init_79 : dc cd_R_init 79 (.iload 5) 2 81 := ⟨by decide +kernel, rfl⟩
theorem d_R_init_81 : dc cd_R_init 81 (.iload_n 1) 1 82 := ⟨by decide +kernel, rfl⟩
theorem d_R_init_82 : dc cd_R_init 82 (.if_icmp .ne 7) 3 85 := ⟨by decide +kernel, rfl⟩
theorem d_R_init_85 : dc cd_R_init 85 (.iconst 1) 1 86 := ⟨by decide +kernel, rfl⟩
theorem d_R_init_86 : dc cd_R_init 86 (.goto 4) 3 89 := ⟨by decide +kernel, rfl⟩
theorem d_R_init_89 : dc cd_R_init 89 (.iconst 0) 1 90 := ⟨by decide +kernel, rfl⟩
theorem d_R_init_90 : dc cd_R_init 90 (.iastore) 1 91 := ⟨by decide +kernel, rfl⟩
theorem d_R_init_91 : dc cd_R_init 91 (.aload_n 0) 1 92 := ⟨by decide +kernel, rfl⟩
theorem d_R_init_92 : dc cd_R_init 92 (.getfield 29) 3 95 := ⟨by decide +kernel, rfl⟩
theorem d_R_init_95 : dc cd_R_init 95 (.iload 6) 2 97 := ⟨by decide +kernel, rfl⟩
theorem d_R_init_97 : dc cd_R_init 97 (.iload 5) 2 99 := ⟨by decide +kernel, rfl⟩
theorem d_R_init_99 : dc cd_R_init 99 (.iload_n 1) 1 100 := ⟨by decide +kernel, rfl⟩
theorem d_R_init_100 : dc cd_R_init 100 (.if_icmp .ne 7) 3 103 := ⟨by decide +kernel, rfl⟩
theorem d_R_init_103 : dc cd_R_init 103 (.iload_n 3) 1 104 := ⟨by decide +kernel, rfl⟩
theorem d_R_init_104 : dc cd_R_init 104 (.goto 4) 3 107 := ⟨by decide +kernel, rfl⟩
theorem d_R_init_107 : dc cd_R_init 107 (.iconst 0) 1 108 := ⟨by decide +kernel, rfl⟩
theorem d_R_init_108 : dc cd_R_init 108 (.iastore) 1 109 := ⟨by decide +kernel, rfl⟩
theorem d_R_init_109 : dc cd_R_init 109 (.aload_n 0) 1 110 := ⟨by decide +kernel, rfl⟩
theorem d_R_init_110 : dc cd_R_init 110 (.getfield 32) 3 113 := ⟨by decide +kernel, rfl⟩
theorem d_R_init_113 : dc cd_R_init 113 (.iload 6) 2 115 := ⟨by decide +kernel, rfl⟩
theorem d_R_init_115 : dc cd_R_init 115 (.iconst 0) 1 116 := ⟨by decide +kernel, rfl⟩
theorem d_R_init_116 : dc cd_R_init 116 (.iastore) 1 117 := ⟨by decide +kernel, rfl⟩
theorem d_R_init_117 : dc cd_R_init 117 (.aload_n 0) 1 118 := ⟨by decide +kernel, rfl⟩
theorem d_R_init_118 : dc cd_R_init 118 (.getfield 35) 3 121 := ⟨by decide +kernel, rfl⟩
theorem d_R_init_121 : dc cd_R_init 121 (.iload 6) 2 123 := ⟨by decide +kernel, rfl⟩
theorem d_R_init_123 : dc cd_R_init 123 (.iconst 0) 1 124 := ⟨by decide +kernel, rfl⟩
theorem d_R_init_124 : dc cd_R_init 124 (.iastore) 1 125 := ⟨by decide +kernel, rfl⟩
theorem d_R_init_125 : dc cd_R_init 125 (.aload_n 0) 1 126 := ⟨by decide +kernel, rfl⟩
theorem d_R_init_126 : dc cd_R_init 126 (.getfield 38) 3 129 := ⟨by decide +kernel, rfl⟩
theorem d_R_init_129 : dc cd_R_init 129 (.iload 6) 2 131 := ⟨by decide +kernel, rfl⟩
theorem d_R_init_131 : dc cd_R_init 131 (.iconst 0) 1 132 := ⟨by decide +kernel, rfl⟩
theorem d_R_init_132 : dc cd_R_init 132 (.iastore) 1 133 := ⟨by decide +kernel, rfl⟩
theorem d_R_init_133 : dc cd_R_init 133 (.aload_n 0) 1 134 := ⟨by decide +kernel, rfl⟩
theorem d_R_init_134 : dc cd_R_init 134 (.getfield 41) 3 137 := ⟨by decide +kernel, rfl⟩
theorem d_R_init_137 : dc cd_R_init 137 (.iload 6) 2 139 := ⟨by decide +kernel, rfl⟩
theorem d_R_init_139 : dc cd_R_init 139 (.iconst 0) 1 140 := ⟨by decide +kernel, rfl⟩
theorem d_R_init_140 : dc cd_R_init 140 (.iastore) 1 141 := ⟨by decide +kernel, rfl⟩
theorem d_R_init_141 : dc cd_R_init 141 (.iconst 0) 1 142 := ⟨by decide +kernel, rfl⟩
theorem d_R_init_142 : dc cd_R_init 142 (.istore 7) 2 144 := ⟨by decide +kernel, rfl⟩
theorem d_R_init_144 : dc cd_R_init 144 (.iload 7) 2 146 := ⟨by decide +kernel, rfl⟩
theorem d_R_init_146 : dc cd_R_init 146 (.sipush 200) 3 149 := ⟨by decide +kernel, rfl⟩
theorem d_R_init_149 : dc cd_R_init 149 (.if_icmp .gt 24) 3 152 := ⟨by decide +kernel, rfl⟩
theorem d_R_init_152 : dc cd_R_init 152 (.aload_n 0) 1 153 := ⟨by decide +kernel, rfl⟩
theorem d_R_init_153 : dc cd_R_init 153 (.getfield 44) 3 156 := ⟨by decide +kernel, rfl⟩
theorem d_R_init_156 : dc cd_R_init 156 (.sipush 201) 3 159 := ⟨by decide +kernel, rfl⟩
theorem d_R_init_159 : dc cd_R_init 159 (.iload 6) 2 161 := ⟨by decide +kernel, rfl⟩
theorem d_R_init_161 : dc cd_R_init 161 (.imul) 1 162 := ⟨by decide +kernel, rfl⟩
theorem d_R_init_162 : dc cd_R_init 162 (.iload 7) 2 164 := ⟨by decide +kernel, rfl⟩
theorem d_R_init_164 : dc cd_R_init 164 (.iadd) 1 165 := ⟨by decide +kernel, rfl⟩
theorem d_R_init_165 : dc cd_R_init 165 (.iconst 0) 1 166 := ⟨by decide +kernel, rfl⟩
theorem d_R_init_166 : dc cd_R_init 166 (.iastore) 1 167 := ⟨by decide +kernel, rfl⟩
theorem d_R_init_167 : dc cd_R_init 167 (.iinc 7 1) 3 170 := ⟨by decide +kernel, rfl⟩
theorem d_R_init_170 : dc cd_R_init 170 (.goto (-26)) 3 173 := ⟨by decide +kernel, rfl⟩
theorem d_R_init_173 : dc cd_R_init 173 (.iconst 0) 1 174 := ⟨by decide +kernel, rfl⟩
theorem d_R_init_174 : dc cd_R_init 174 (.istore 7) 2 176 := ⟨by decide +kernel, rfl⟩
theorem d_R_init_176 : dc cd_R_init 176 (.iload 7) 2 178 := ⟨by decide +kernel, rfl⟩
theorem d_R_init_178 : dc cd_R_init 178 (.iconst 4) 1 179 := ⟨by decide +kernel, rfl⟩
theorem d_R_init_179 : dc cd_R_init 179 (.if_icmp .ge 22) 3 182 := ⟨by decide +kernel, rfl⟩
theorem d_R_init_182 : dc cd_R_init 182 (.aload_n 0) 1 183 := ⟨by decide +kernel, rfl⟩
theorem d_R_init_183 : dc cd_R_init 183 (.getfield 50) 3 186 := ⟨by decide +kernel, rfl⟩
theorem d_R_init_186 : dc cd_R_init 186 (.iconst 4) 1 187 := ⟨by decide +kernel, rfl⟩
theorem d_R_init_187 : dc cd_R_init 187 (.iload 6) 2 189 := ⟨by decide +kernel, rfl⟩
theorem d_R_init_189 : dc cd_R_init 189 (.imul) 1 190 := ⟨by decide +kernel, rfl⟩
theorem d_R_init_190 : dc cd_R_init 190 (.iload 7) 2 192 := ⟨by decide +kernel, rfl⟩
theorem d_R_init_192 : dc cd_R_init 192 (.iadd) 1 193 := ⟨by decide +kernel, rfl⟩
theorem d_R_init_193 : dc cd_R_init 193 (.iconst 0) 1 194 := ⟨by decide +kernel, rfl⟩
theorem d_R_init_194 : dc cd_R_init 194 (.iastore) 1 195 := ⟨by decide +kernel, rfl⟩
theorem d_R_init_195 : dc cd_R_init 195 (.iinc 7 1) 3 198 := ⟨by decide +kernel, rfl⟩
theorem d_R_init_198 : dc cd_R_init 198 (.goto (-22)) 3 201 := ⟨by decide +kernel, rfl⟩
theorem d_R_init_201 : dc cd_R_init 201 (.iinc 5 1) 3 204 := ⟨by decide +kernel, rfl⟩
theorem d_R_init_204 : dc cd_R_init 204 (.goto (-146)) 3 207 := ⟨by decide +kernel, rfl⟩
theorem d_R_init_207 : dc cd_R_init 207 (.aload_n 0) 1 208 := ⟨by decide +kernel, rfl⟩
theorem d_R_init_208 : dc cd_R_init 208 (.dup) 1 209 := ⟨by decide +kernel, rfl⟩
theorem d_R_init_209 : dc cd_R_init 209 (.getfield 98) 3 212 := ⟨by decide +kernel, rfl⟩
theorem d_R_init_212 : dc cd_R_init 212 (.iconst 1) 1 213 := ⟨by decide +kernel, rfl⟩
theorem d_R_init_213 : dc cd_R_init 213 (.iadd) 1 214 := ⟨by decide +kernel, rfl⟩
theorem d_R_init_214 : dc cd_R_init 214 (.putfield 98) 3 217 := ⟨by decide +kernel, rfl⟩
theorem d_R_init_217 : dc cd_R_init 217 (.iload 4) 2 219 := ⟨by decide +kernel, rfl⟩
theorem d_R_init_219 : dc cd_R_init 219 (.ireturn) 1 220 := ⟨by decide +kernel, rfl⟩
theorem d_R_greatestOf_0 : dc cd_R_greatestOf 0 (.iload_n 0) 1 1 := ⟨by decide +kernel, rfl⟩
theorem d_R_greatestOf_1 : dc cd_R_greatestOf 1 (.iconst 3) 1 2 := ⟨by decide +kernel, rfl⟩
theorem d_R_greatestOf_2 : dc cd_R_greatestOf 2 (.if_icmp .le 7) 3 5 := ⟨by decide +kernel, rfl⟩
theorem d_R_greatestOf_5 : dc cd_R_greatestOf 5 (.iconst 3) 1 6 := ⟨by decide +kernel, rfl⟩
theorem d_R_greatestOf_6 : dc cd_R_greatestOf 6 (.goto 13) 3 9 := ⟨by decide +kernel, rfl⟩
theorem d_R_greatestOf_9 : dc cd_R_greatestOf 9 (.iload_n 0) 1 10 := ⟨by decide +kernel, rfl⟩
theorem d_R_greatestOf_10 : dc cd_R_greatestOf 10 (.iconst 1) 1 11 := ⟨by decide +kernel, rfl⟩
theorem d_R_greatestOf_11 : dc cd_R_greatestOf 11 (.if_icmp .le 7) 3 14 := ⟨by decide +kernel, rfl⟩
theorem d_R_greatestOf_14 : dc cd_R_greatestOf 14 (.iconst 2) 1 15 := ⟨by decide +kernel, rfl⟩
theorem d_R_greatestOf_15 : dc cd_R_greatestOf 15 (.goto 4) 3 18 := ⟨by decide +kernel, rfl⟩
theorem d_R_greatestOf_18 : dc cd_R_greatestOf 18 (.iload_n 0) 1 19 := ⟨by decide +kernel, rfl⟩
theorem d_R_greatestOf_19 : dc cd_R_greatestOf 19 (.ireturn) 1 20 := ⟨by decide +kernel, rfl⟩
theorem d_R_meet_0 : dc cd_R_meet 0 (.aload_n 0) 1 1 := ⟨by decide +kernel, rfl⟩
theorem d_R_meet_1 : dc cd_R_meet 1 (.iload_n 1) 1 2 := ⟨by decide +kernel, rfl⟩
theorem d_R_meet_2 : dc cd_R_meet 2 (.invokevirtual 135) 3 5 := ⟨by decide +kernel, rfl⟩
theorem d_R_meet_5 : dc cd_R_meet 5 (.ifCond .eq 5) 3 8 := ⟨by decide +kernel, rfl⟩
theorem d_R_meet_8 : dc cd_R_meet 8 (.iconst (-1)) 1 9 := ⟨by decide +kernel, rfl⟩
theorem d_R_meet_9 : dc cd_R_meet 9 (.ireturn) 1 10 := ⟨by decide +kernel, rfl⟩
theorem d_R_meet_10 : dc cd_R_meet 10 (.iload_n 2) 1 11 := ⟨by decide +kernel, rfl⟩
theorem d_R_meet_11 : dc cd_R_meet 11 (.iconst 1) 1 12 := ⟨by decide +kernel, rfl⟩
theorem d_R_meet_12 : dc cd_R_meet 12 (.bipush 7) 2 14 := ⟨by decide +kernel, rfl⟩
theorem d_R_meet_14 : dc cd_R_meet 14 (.invokestatic 113) 3 17 := ⟨by decide +kernel, rfl⟩
theorem d_R_meet_17 : dc cd_R_meet 17 (.ifCond .ne 6) 3 20 := ⟨by decide +kernel, rfl⟩
theorem d_R_meet_20 : dc cd_R_meet 20 (.bipush (-2)) 2 22 := ⟨by decide +kernel, rfl⟩
theorem d_R_meet_22 : dc cd_R_meet 22 (.ireturn) 1 23 := ⟨by decide +kernel, rfl⟩
theorem d_R_meet_23 : dc cd_R_meet 23 (.iconst 1) 1 24 := ⟨by decide +kernel, rfl⟩
theorem d_R_meet_24 : dc cd_R_meet 24 (.aload_n 0) 1 25 := ⟨by decide +kernel, rfl⟩
theorem d_R_meet_25 : dc cd_R_meet 25 (.getfield 20) 3 28 := ⟨by decide +kernel, rfl⟩
theorem d_R_meet_28 : dc cd_R_meet 28 (.iload_n 1) 1 29 := ⟨by decide +kernel, rfl⟩
theorem d_R_meet_29 : dc cd_R_meet 29 (.iaload) 1 30 := ⟨by decide +kernel, rfl⟩
theorem d_R_meet_30 : dc cd_R_meet 30 (.isub) 1 31 := ⟨by decide +kernel, rfl⟩
theorem d_R_meet_31 : dc cd_R_meet 31 (.istore 4) 2 33 := ⟨by decide +kernel, rfl⟩
theorem d_R_meet_33 : dc cd_R_meet 33 (.iconst 2) 1 34 := ⟨by decide +kernel, rfl⟩
theorem d_R_meet_34 : dc cd_R_meet 34 (.iload_n 1) 1 35 := ⟨by decide +kernel, rfl⟩
theorem d_R_meet_35 : dc cd_R_meet 35 (.imul) 1 36 := ⟨by decide +kernel, rfl⟩
theorem d_R_meet_36 : dc cd_R_meet 36 (.iload 4) 2 38 := ⟨by decide +kernel, rfl⟩
theorem d_R_meet_38 : dc cd_R_meet 38 (.iadd) 1 39 := ⟨by decide +kernel, rfl⟩
theorem d_R_meet_39 : dc cd_R_meet 39 (.istore 5) 2 41 := ⟨by decide +kernel, rfl⟩
theorem d_R_meet_41 : dc cd_R_meet 41 (.aload_n 0) 1 42 := ⟨by decide +kernel, rfl⟩
theorem d_R_meet_42 : dc cd_R_meet 42 (.getfield 26) 3 45 := ⟨by decide +kernel, rfl⟩
theorem d_R_meet_45 : dc cd_R_meet 45 (.iload 5) 2 47 := ⟨by decide +kernel, rfl⟩
theorem d_R_meet_47 : dc cd_R_meet 47 (.iaload) 1 48 := ⟨by decide +kernel, rfl⟩
theorem d_R_meet_48 : dc cd_R_meet 48 (.ifCond .eq 6) 3 51 := ⟨by decide +kernel, rfl⟩
theorem d_R_meet_51 : dc cd_R_meet 51 (.bipush (-3)) 2 53 := ⟨by decide +kernel, rfl⟩
theorem d_R_meet_53 : dc cd_R_meet 53 (.ireturn) 1 54 := ⟨by decide +kernel, rfl⟩
theorem d_R_meet_54 : dc cd_R_meet 54 (.aload_n 0) 1 55 := ⟨by decide +kernel, rfl⟩
theorem d_R_meet_55 : dc cd_R_meet 55 (.iload_n 1) 1 56 := ⟨by decide +kernel, rfl⟩
theorem d_R_meet_56 : dc cd_R_meet 56 (.iload 4) 2 58 := ⟨by decide +kernel, rfl⟩
theorem d_R_meet_58 : dc cd_R_meet 58 (.iload_n 3) 1 59 := ⟨by decide +kernel, rfl⟩
theorem d_R_meet_59 : dc cd_R_meet 59 (.iconst 1) 1 60 := ⟨by decide +kernel, rfl⟩
theorem d_R_meet_60 : dc cd_R_meet 60 (.invokevirtual 138) 3 63 := ⟨by decide +kernel, rfl⟩
theorem d_R_meet_63 : dc cd_R_meet 63 (.istore 6) 2 65 := ⟨by decide +kernel, rfl⟩
theorem d_R_meet_65 : dc cd_R_meet 65 (.iload 6) 2 67 := ⟨by decide +kernel, rfl⟩
theorem d_R_meet_67 : dc cd_R_meet 67 (.ifCond .eq 6) 3 70 := ⟨by decide +kernel, rfl⟩
theorem d_R_meet_70 : dc cd_R_meet 70 (.iload 6) 2 72 := ⟨by decide +kernel, rfl⟩
theorem d_R_meet_72 : dc cd_R_meet 72 (.ireturn) 1 73 := ⟨by decide +kernel, rfl⟩
theorem d_R_meet_73 : dc cd_R_meet 73 (.iload_n 2) 1 74 := ⟨by decide +kernel, rfl⟩
theorem d_R_meet_74 : dc cd_R_meet 74 (.aload_n 0) 1 75 := ⟨by decide +kernel, rfl⟩
theorem d_R_meet_75 : dc cd_R_meet 75 (.getfield 29) 3 78 := ⟨by decide +kernel, rfl⟩
theorem d_R_meet_78 : dc cd_R_meet 78 (.iconst 2) 1 79 := ⟨by decide +kernel, rfl⟩
theorem d_R_meet_79 : dc cd_R_meet 79 (.iload_n 1) 1 80 := ⟨by decide +kernel, rfl⟩
theorem d_R_meet_80 : dc cd_R_meet 80 (.imul) 1 81 := ⟨by decide +kernel, rfl⟩
theorem d_R_meet_81 : dc cd_R_meet 81 (.iconst 1) 1 82 := ⟨by decide +kernel, rfl⟩
theorem d_R_meet_82 : dc cd_R_meet 82 (.iadd) 1 83 := ⟨by decide +kernel, rfl⟩
theorem d_R_meet_83 : dc cd_R_meet 83 (.iload 4) 2 85 := ⟨by decide +kernel, rfl⟩
theorem d_R_meet_85 : dc cd_R_meet 85 (.isub) 1 86 := ⟨by decide +kernel, rfl⟩
theorem d_R_meet_86 : dc cd_R_meet 86 (.iaload) 1 87 := ⟨by decide +kernel, rfl⟩
theorem d_R_meet_87 : dc cd_R_meet 87 (.iand) 1 88 := ⟨by decide +kernel, rfl⟩
theorem d_R_meet_88 : dc cd_R_meet 88 (.invokestatic 142) 3 91 := ⟨by decide +kernel, rfl⟩
theorem d_R_meet_91 : dc cd_R_meet 91 (.istore 7) 2 93 := ⟨by decide +kernel, rfl⟩
theorem d_R_meet_93 : dc cd_R_meet 93 (.iload 7) 2 95 := ⟨by decide +kernel, rfl⟩
theorem d_R_meet_95 : dc cd_R_meet 95 (.ifCond .ne 6) 3 98 := ⟨by decide +kernel, rfl⟩
theorem d_R_meet_98 : dc cd_R_meet 98 (.bipush (-9)) 2 100 := ⟨by decide +kernel, rfl⟩
theorem d_R_meet_100 : dc cd_R_meet 100 (.ireturn) 1 101 := ⟨by decide +kernel, rfl⟩
theorem d_R_meet_101 : dc cd_R_meet 101 (.aload_n 0) 1 102 := ⟨by decide +kernel, rfl⟩
theorem d_R_meet_102 : dc cd_R_meet 102 (.getfield 26) 3 105 := ⟨by decide +kernel, rfl⟩
theorem d_R_meet_105 : dc cd_R_meet 105 (.iload 5) 2 107 := ⟨by decide +kernel, rfl⟩
theorem d_R_meet_107 : dc cd_R_meet 107 (.iconst 2) 1 108 := ⟨by decide +kernel, rfl⟩
theorem d_R_meet_108 : dc cd_R_meet 108 (.iastore) 1 109 := ⟨by decide +kernel, rfl⟩
theorem d_R_meet_109 : dc cd_R_meet 109 (.aload_n 0) 1 110 := ⟨by decide +kernel, rfl⟩
theorem d_R_meet_110 : dc cd_R_meet 110 (.getfield 29) 3 113 := ⟨by decide +kernel, rfl⟩
theorem d_R_meet_113 : dc cd_R_meet 113 (.iload 5) 2 115 := ⟨by decide +kernel, rfl⟩
theorem d_R_meet_115 : dc cd_R_meet 115 (.iload_n 2) 1 116 := ⟨by decide +kernel, rfl⟩
theorem d_R_meet_116 : dc cd_R_meet 116 (.iastore) 1 117 := ⟨by decide +kernel, rfl⟩
theorem d_R_meet_117 : dc cd_R_meet 117 (.aload_n 0) 1 118 := ⟨by decide +kernel, rfl⟩
theorem d_R_meet_118 : dc cd_R_meet 118 (.getfield 32) 3 121 := ⟨by decide +kernel, rfl⟩
theorem d_R_meet_121 : dc cd_R_meet 121 (.iload 5) 2 123 := ⟨by decide +kernel, rfl⟩
theorem d_R_meet_123 : dc cd_R_meet 123 (.iload 7) 2 125 := ⟨by decide +kernel, rfl⟩
theorem d_R_meet_125 : dc cd_R_meet 125 (.iastore) 1 126 := ⟨by decide +kernel, rfl⟩
theorem d_R_meet_126 : dc cd_R_meet 126 (.iload 7) 2 128 := ⟨by decide +kernel, rfl⟩
theorem d_R_meet_128 : dc cd_R_meet 128 (.ireturn) 1 129 := ⟨by decide +kernel, rfl⟩
theorem d_R_agree_0 : dc cd_R_agree 0 (.aload_n 0) 1 1 := ⟨by decide +kernel, rfl⟩
theorem d_R_agree_1 : dc cd_R_agree 1 (.iload_n 1) 1 2 := ⟨by decide +kernel, rfl⟩
theorem d_R_agree_2 : dc cd_R_agree 2 (.invokevirtual 135) 3 5 := ⟨by decide +kernel, rfl⟩
theorem d_R_agree_5 : dc cd_R_agree 5 (.ifCond .eq 5) 3 8 := ⟨by decide +kernel, rfl⟩
theorem d_R_agree_8 : dc cd_R_agree 8 (.iconst (-1)) 1 9 := ⟨by decide +kernel, rfl⟩
theorem d_R_agree_9 : dc cd_R_agree 9 (.ireturn) 1 10 := ⟨by decide +kernel, rfl⟩
theorem d_R_agree_10 : dc cd_R_agree 10 (.aload_n 0) 1 11 := ⟨by decide +kernel, rfl⟩
theorem d_R_agree_11 : dc cd_R_agree 11 (.getfield 20) 3 14 := ⟨by decide +kernel, rfl⟩
theorem d_R_agree_14 : dc cd_R_agree 14 (.iload_n 1) 1 15 := ⟨by decide +kernel, rfl⟩
theorem d_R_agree_15 : dc cd_R_agree 15 (.iaload) 1 16 := ⟨by decide +kernel, rfl⟩
theorem d_R_agree_16 : dc cd_R_agree 16 (.istore_n 3) 1 17 := ⟨by decide +kernel, rfl⟩
theorem d_R_agree_17 : dc cd_R_agree 17 (.iconst 2) 1 18 := ⟨by decide +kernel, rfl⟩
theorem d_R_agree_18 : dc cd_R_agree 18 (.iload_n 1) 1 19 := ⟨by decide +kernel, rfl⟩
theorem d_R_agree_19 : dc cd_R_agree 19 (.imul) 1 20 := ⟨by decide +kernel, rfl⟩
theorem d_R_agree_20 : dc cd_R_agree 20 (.iload_n 3) 1 21 := ⟨by decide +kernel, rfl⟩
theorem d_R_agree_21 : dc cd_R_agree 21 (.iadd) 1 22 := ⟨by decide +kernel, rfl⟩
theorem d_R_agree_22 : dc cd_R_agree 22 (.istore 4) 2 24 := ⟨by decide +kernel, rfl⟩
theorem d_R_agree_24 : dc cd_R_agree 24 (.aload_n 0) 1 25 := ⟨by decide +kernel, rfl⟩
theorem d_R_agree_25 : dc cd_R_agree 25 (.getfield 26) 3 28 := ⟨by decide +kernel, rfl⟩
theorem d_R_agree_28 : dc cd_R_agree 28 (.iload 4) 2 30 := ⟨by decide +kernel, rfl⟩
theorem d_R_agree_30 : dc cd_R_agree 30 (.iaload) 1 31 := ⟨by decide +kernel, rfl⟩
theorem d_R_agree_31 : dc cd_R_agree 31 (.iconst 1) 1 32 := ⟨by decide +kernel, rfl⟩
theorem d_R_agree_32 : dc cd_R_agree 32 (.if_icmp .eq 6) 3 35 := ⟨by decide +kernel, rfl⟩
theorem d_R_agree_35 : dc cd_R_agree 35 (.bipush (-3)) 2 37 := ⟨by decide +kernel, rfl⟩
theorem d_R_agree_37 : dc cd_R_agree 37 (.ireturn) 1 38 := ⟨by decide +kernel, rfl⟩
theorem d_R_agree_38 : dc cd_R_agree 38 (.aload_n 0) 1 39 := ⟨by decide +kernel, rfl⟩
theorem d_R_agree_39 : dc cd_R_agree 39 (.iload_n 1) 1 40 := ⟨by decide +kernel, rfl⟩
theorem d_R_agree_40 : dc cd_R_agree 40 (.iload_n 3) 1 41 := ⟨by decide +kernel, rfl⟩
theorem d_R_agree_41 : dc cd_R_agree 41 (.iload_n 2) 1 42 := ⟨by decide +kernel, rfl⟩
theorem d_R_agree_42 : dc cd_R_agree 42 (.iconst 2) 1 43 := ⟨by decide +kernel, rfl⟩
theorem d_R_agree_43 : dc cd_R_agree 43 (.invokevirtual 138) 3 46 := ⟨by decide +kernel, rfl⟩
theorem d_R_agree_46 : dc cd_R_agree 46 (.istore 5) 2 48 := ⟨by decide +kernel, rfl⟩
theorem d_R_agree_48 : dc cd_R_agree 48 (.iload 5) 2 50 := ⟨by decide +kernel, rfl⟩
theorem d_R_agree_50 : dc cd_R_agree 50 (.ifCond .eq 6) 3 53 := ⟨by decide +kernel, rfl⟩
theorem d_R_agree_53 : dc cd_R_agree 53 (.iload 5) 2 55 := ⟨by decide +kernel, rfl⟩
theorem d_R_agree_55 : dc cd_R_agree 55 (.ireturn) 1 56 := ⟨by decide +kernel, rfl⟩
theorem d_R_agree_56 : dc cd_R_agree 56 (.aload_n 0) 1 57 := ⟨by decide +kernel, rfl⟩
theorem d_R_agree_57 : dc cd_R_agree 57 (.getfield 26) 3 60 := ⟨by decide +kernel, rfl⟩
theorem d_R_agree_60 : dc cd_R_agree 60 (.iload 4) 2 62 := ⟨by decide +kernel, rfl⟩
theorem d_R_agree_62 : dc cd_R_agree 62 (.iconst 3) 1 63 := ⟨by decide +kernel, rfl⟩
theorem d_R_agree_63 : dc cd_R_agree 63 (.iastore) 1 64 := ⟨by decide +kernel, rfl⟩
theorem d_R_agree_64 : dc cd_R_agree 64 (.aload_n 0) 1 65 := ⟨by decide +kernel, rfl⟩
theorem d_R_agree_65 : dc cd_R_agree 65 (.getfield 32) 3 68 := ⟨by decide +kernel, rfl⟩
theorem d_R_agree_68 : dc cd_R_agree 68 (.iload 4) 2 70 := ⟨by decide +kernel, rfl⟩
theorem d_R_agree_70 : dc cd_R_agree 70 (.aload_n 0) 1 71 := ⟨by decide +kernel, rfl⟩
theorem d_R_agree_71 : dc cd_R_agree 71 (.getfield 32) 3 74 := ⟨by decide +kernel, rfl⟩
theorem d_R_agree_74 : dc cd_R_agree 74 (.iconst 2) 1 75 := ⟨by decide +kernel, rfl⟩
theorem d_R_agree_75 : dc cd_R_agree 75 (.iload_n 1) 1 76 := ⟨by decide +kernel, rfl⟩
theorem d_R_agree_76 : dc cd_R_agree 76 (.imul) 1 77 := ⟨by decide +kernel, rfl⟩
theorem d_R_agree_77 : dc cd_R_agree 77 (.iconst 1) 1 78 := ⟨by decide +kernel, rfl⟩
theorem d_R_agree_78 : dc cd_R_agree 78 (.iadd) 1 79 := ⟨by decide +kernel, rfl⟩
theorem d_R_agree_79 : dc cd_R_agree 79 (.iload_n 3) 1 80 := ⟨by decide +kernel, rfl⟩
theorem d_R_agree_80 : dc cd_R_agree 80 (.isub) 1 81 := ⟨by decide +kernel, rfl⟩
theorem d_R_agree_81 : dc cd_R_agree 81 (.iaload) 1 82 := ⟨by decide +kernel, rfl⟩
theorem d_R_agree_82 : dc cd_R_agree 82 (.iastore) 1 83 := ⟨by decide +kernel, rfl⟩
theorem d_R_agree_83 : dc cd_R_agree 83 (.aload_n 0) 1 84 := ⟨by decide +kernel, rfl⟩
theorem d_R_agree_84 : dc cd_R_agree 84 (.getfield 32) 3 87 := ⟨by decide +kernel, rfl⟩
theorem d_R_agree_87 : dc cd_R_agree 87 (.iload 4) 2 89 := ⟨by decide +kernel, rfl⟩
theorem d_R_agree_89 : dc cd_R_agree 89 (.iaload) 1 90 := ⟨by decide +kernel, rfl⟩
end
section
theorem d_R_agree_90 : dc cd_R_agree 90 (.ireturn) 1 91 := ⟨by decide +kernel, rfl⟩
theorem d_R_confirm_0 : dc cd_R_confirm 0 (.aload_n 0) 1 1 := ⟨by decide +kernel, rfl⟩
theorem d_R_confirm_1 : dc cd_R_confirm 1 (.iload_n 1) 1 2 := ⟨by decide +kernel, rfl⟩
theorem d_R_confirm_2 : dc cd_R_confirm 2 (.invokevirtual 135) 3 5 := ⟨by decide +kernel, rfl⟩
theorem d_R_confirm_5 : dc cd_R_confirm 5 (.ifCond .eq 5) 3 8 := ⟨by decide +kernel, rfl⟩
theorem d_R_confirm_8 : dc cd_R_confirm 8 (.iconst (-1)) 1 9 := ⟨by decide +kernel, rfl⟩
theorem d_R_confirm_9 : dc cd_R_confirm 9 (.ireturn) 1 10 := ⟨by decide +kernel, rfl⟩
theorem d_R_confirm_10 : dc cd_R_confirm 10 (.iconst 1) 1 11 := ⟨by decide +kernel, rfl⟩
theorem d_R_confirm_11 : dc cd_R_confirm 11 (.aload_n 0) 1 12 := ⟨by decide +kernel, rfl⟩
theorem d_R_confirm_12 : dc cd_R_confirm 12 (.getfield 20) 3 15 := ⟨by decide +kernel, rfl⟩
theorem d_R_confirm_15 : dc cd_R_confirm 15 (.iload_n 1) 1 16 := ⟨by decide +kernel, rfl⟩
theorem d_R_confirm_16 : dc cd_R_confirm 16 (.iaload) 1 17 := ⟨by decide +kernel, rfl⟩
theorem d_R_confirm_17 : dc cd_R_confirm 17 (.isub) 1 18 := ⟨by decide +kernel, rfl⟩
theorem d_R_confirm_18 : dc cd_R_confirm 18 (.istore_n 3) 1 19 := ⟨by decide +kernel, rfl⟩
theorem d_R_confirm_19 : dc cd_R_confirm 19 (.iconst 2) 1 20 := ⟨by decide +kernel, rfl⟩
theorem d_R_confirm_20 : dc cd_R_confirm 20 (.iload_n 1) 1 21 := ⟨by decide +kernel, rfl⟩
theorem d_R_confirm_21 : dc cd_R_confirm 21 (.imul) 1 22 := ⟨by decide +kernel, rfl⟩
theorem d_R_confirm_22 : dc cd_R_confirm 22 (.iload_n 3) 1 23 := ⟨by decide +kernel, rfl⟩
theorem d_R_confirm_23 : dc cd_R_confirm 23 (.iadd) 1 24 := ⟨by decide +kernel, rfl⟩
theorem d_R_confirm_24 : dc cd_R_confirm 24 (.istore 4) 2 26 := ⟨by decide +kernel, rfl⟩
theorem d_R_confirm_26 : dc cd_R_confirm 26 (.aload_n 0) 1 27 := ⟨by decide +kernel, rfl⟩
theorem d_R_confirm_27 : dc cd_R_confirm 27 (.getfield 26) 3 30 := ⟨by decide +kernel, rfl⟩
theorem d_R_confirm_30 : dc cd_R_confirm 30 (.iload 4) 2 32 := ⟨by decide +kernel, rfl⟩
theorem d_R_confirm_32 : dc cd_R_confirm 32 (.iaload) 1 33 := ⟨by decide +kernel, rfl⟩
theorem d_R_confirm_33 : dc cd_R_confirm 33 (.iconst 2) 1 34 := ⟨by decide +kernel, rfl⟩
theorem d_R_confirm_34 : dc cd_R_confirm 34 (.if_icmp .eq 6) 3 37 := ⟨by decide +kernel, rfl⟩
theorem d_R_confirm_37 : dc cd_R_confirm 37 (.bipush (-3)) 2 39 := ⟨by decide +kernel, rfl⟩
theorem d_R_confirm_39 : dc cd_R_confirm 39 (.ireturn) 1 40 := ⟨by decide +kernel, rfl⟩
theorem d_R_confirm_40 : dc cd_R_confirm 40 (.aload_n 0) 1 41 := ⟨by decide +kernel, rfl⟩
theorem d_R_confirm_41 : dc cd_R_confirm 41 (.iload_n 1) 1 42 := ⟨by decide +kernel, rfl⟩
theorem d_R_confirm_42 : dc cd_R_confirm 42 (.iload_n 3) 1 43 := ⟨by decide +kernel, rfl⟩
theorem d_R_confirm_43 : dc cd_R_confirm 43 (.iload_n 2) 1 44 := ⟨by decide +kernel, rfl⟩
theorem d_R_confirm_44 : dc cd_R_confirm 44 (.iconst 3) 1 45 := ⟨by decide +kernel, rfl⟩
theorem d_R_confirm_45 : dc cd_R_confirm 45 (.invokevirtual 138) 3 48 := ⟨by decide +kernel, rfl⟩
theorem d_R_confirm_48 : dc cd_R_confirm 48 (.istore 5) 2 50 := ⟨by decide +kernel, rfl⟩
theorem d_R_confirm_50 : dc cd_R_confirm 50 (.iload 5) 2 52 := ⟨by decide +kernel, rfl⟩
theorem d_R_confirm_52 : dc cd_R_confirm 52 (.ifCond .eq 6) 3 55 := ⟨by decide +kernel, rfl⟩
theorem d_R_confirm_55 : dc cd_R_confirm 55 (.iload 5) 2 57 := ⟨by decide +kernel, rfl⟩
theorem d_R_confirm_57 : dc cd_R_confirm 57 (.ireturn) 1 58 := ⟨by decide +kernel, rfl⟩
theorem d_R_confirm_58 : dc cd_R_confirm 58 (.aload_n 0) 1 59 := ⟨by decide +kernel, rfl⟩
theorem d_R_confirm_59 : dc cd_R_confirm 59 (.getfield 26) 3 62 := ⟨by decide +kernel, rfl⟩
theorem d_R_confirm_62 : dc cd_R_confirm 62 (.iload 4) 2 64 := ⟨by decide +kernel, rfl⟩
theorem d_R_confirm_64 : dc cd_R_confirm 64 (.iconst 3) 1 65 := ⟨by decide +kernel, rfl⟩
theorem d_R_confirm_65 : dc cd_R_confirm 65 (.iastore) 1 66 := ⟨by decide +kernel, rfl⟩
theorem d_R_confirm_66 : dc cd_R_confirm 66 (.aload_n 0) 1 67 := ⟨by decide +kernel, rfl⟩
theorem d_R_confirm_67 : dc cd_R_confirm 67 (.getfield 32) 3 70 := ⟨by decide +kernel, rfl⟩
theorem d_R_confirm_70 : dc cd_R_confirm 70 (.iload 4) 2 72 := ⟨by decide +kernel, rfl⟩
theorem d_R_confirm_72 : dc cd_R_confirm 72 (.iaload) 1 73 := ⟨by decide +kernel, rfl⟩
theorem d_R_confirm_73 : dc cd_R_confirm 73 (.ireturn) 1 74 := ⟨by decide +kernel, rfl⟩
theorem d_R_close_0 : dc cd_R_close 0 (.aload_n 0) 1 1 := ⟨by decide +kernel, rfl⟩
theorem d_R_close_1 : dc cd_R_close 1 (.iload_n 1) 1 2 := ⟨by decide +kernel, rfl⟩
theorem d_R_close_2 : dc cd_R_close 2 (.invokevirtual 135) 3 5 := ⟨by decide +kernel, rfl⟩
theorem d_R_close_5 : dc cd_R_close 5 (.ifCond .ne 10) 3 8 := ⟨by decide +kernel, rfl⟩
theorem d_R_close_8 : dc cd_R_close 8 (.iload_n 2) 1 9 := ⟨by decide +kernel, rfl⟩
theorem d_R_close_9 : dc cd_R_close 9 (.invokestatic 109) 3 12 := ⟨by decide +kernel, rfl⟩
theorem d_R_close_12 : dc cd_R_close 12 (.ifCond .eq 5) 3 15 := ⟨by decide +kernel, rfl⟩
theorem d_R_close_15 : dc cd_R_close 15 (.iconst (-1)) 1 16 := ⟨by decide +kernel, rfl⟩
theorem d_R_close_16 : dc cd_R_close 16 (.ireturn) 1 17 := ⟨by decide +kernel, rfl⟩
theorem d_R_close_17 : dc cd_R_close 17 (.iconst 2) 1 18 := ⟨by decide +kernel, rfl⟩
theorem d_R_close_18 : dc cd_R_close 18 (.iload_n 1) 1 19 := ⟨by decide +kernel, rfl⟩
theorem d_R_close_19 : dc cd_R_close 19 (.imul) 1 20 := ⟨by decide +kernel, rfl⟩
theorem d_R_close_20 : dc cd_R_close 20 (.iload_n 2) 1 21 := ⟨by decide +kernel, rfl⟩
theorem d_R_close_21 : dc cd_R_close 21 (.iadd) 1 22 := ⟨by decide +kernel, rfl⟩
theorem d_R_close_22 : dc cd_R_close 22 (.istore_n 3) 1 23 := ⟨by decide +kernel, rfl⟩
theorem d_R_close_23 : dc cd_R_close 23 (.aload_n 0) 1 24 := ⟨by decide +kernel, rfl⟩
theorem d_R_close_24 : dc cd_R_close 24 (.getfield 26) 3 27 := ⟨by decide +kernel, rfl⟩
theorem d_R_close_27 : dc cd_R_close 27 (.iload_n 3) 1 28 := ⟨by decide +kernel, rfl⟩
theorem d_R_close_28 : dc cd_R_close 28 (.iaload) 1 29 := ⟨by decide +kernel, rfl⟩
theorem d_R_close_29 : dc cd_R_close 29 (.iconst 3) 1 30 := ⟨by decide +kernel, rfl⟩
theorem d_R_close_30 : dc cd_R_close 30 (.if_icmp .eq 6) 3 33 := ⟨by decide +kernel, rfl⟩
theorem d_R_close_33 : dc cd_R_close 33 (.bipush (-3)) 2 35 := ⟨by decide +kernel, rfl⟩
theorem d_R_close_35 : dc cd_R_close 35 (.ireturn) 1 36 := ⟨by decide +kernel, rfl⟩
theorem d_R_close_36 : dc cd_R_close 36 (.aload_n 0) 1 37 := ⟨by decide +kernel, rfl⟩
theorem d_R_close_37 : dc cd_R_close 37 (.getfield 26) 3 40 := ⟨by decide +kernel, rfl⟩
theorem d_R_close_40 : dc cd_R_close 40 (.iload_n 3) 1 41 := ⟨by decide +kernel, rfl⟩
theorem d_R_close_41 : dc cd_R_close 41 (.iconst 4) 1 42 := ⟨by decide +kernel, rfl⟩
theorem d_R_close_42 : dc cd_R_close 42 (.iastore) 1 43 := ⟨by decide +kernel, rfl⟩
theorem d_R_close_43 : dc cd_R_close 43 (.iconst 1) 1 44 := ⟨by decide +kernel, rfl⟩
theorem d_R_close_44 : dc cd_R_close 44 (.ireturn) 1 45 := ⟨by decide +kernel, rfl⟩
theorem d_R_shut_0 : dc cd_R_shut 0 (.aload_n 0) 1 1 := ⟨by decide +kernel, rfl⟩
theorem d_R_shut_1 : dc cd_R_shut 1 (.iload_n 1) 1 2 := ⟨by decide +kernel, rfl⟩
theorem d_R_shut_2 : dc cd_R_shut 2 (.invokevirtual 135) 3 5 := ⟨by decide +kernel, rfl⟩
theorem d_R_shut_5 : dc cd_R_shut 5 (.ifCond .ne 10) 3 8 := ⟨by decide +kernel, rfl⟩
theorem d_R_shut_8 : dc cd_R_shut 8 (.iload_n 2) 1 9 := ⟨by decide +kernel, rfl⟩
theorem d_R_shut_9 : dc cd_R_shut 9 (.invokestatic 109) 3 12 := ⟨by decide +kernel, rfl⟩
theorem d_R_shut_12 : dc cd_R_shut 12 (.ifCond .eq 5) 3 15 := ⟨by decide +kernel, rfl⟩
theorem d_R_shut_15 : dc cd_R_shut 15 (.iconst (-1)) 1 16 := ⟨by decide +kernel, rfl⟩
theorem d_R_shut_16 : dc cd_R_shut 16 (.ireturn) 1 17 := ⟨by decide +kernel, rfl⟩
theorem d_R_shut_17 : dc cd_R_shut 17 (.iconst 2) 1 18 := ⟨by decide +kernel, rfl⟩
theorem d_R_shut_18 : dc cd_R_shut 18 (.iload_n 1) 1 19 := ⟨by decide +kernel, rfl⟩
theorem d_R_shut_19 : dc cd_R_shut 19 (.imul) 1 20 := ⟨by decide +kernel, rfl⟩
theorem d_R_shut_20 : dc cd_R_shut 20 (.iload_n 2) 1 21 := ⟨by decide +kernel, rfl⟩
theorem d_R_shut_21 : dc cd_R_shut 21 (.iadd) 1 22 := ⟨by decide +kernel, rfl⟩
theorem d_R_shut_22 : dc cd_R_shut 22 (.istore 4) 2 24 := ⟨by decide +kernel, rfl⟩
theorem d_R_shut_24 : dc cd_R_shut 24 (.aload_n 0) 1 25 := ⟨by decide +kernel, rfl⟩
theorem d_R_shut_25 : dc cd_R_shut 25 (.getfield 26) 3 28 := ⟨by decide +kernel, rfl⟩
theorem d_R_shut_28 : dc cd_R_shut 28 (.iload 4) 2 30 := ⟨by decide +kernel, rfl⟩
theorem d_R_shut_30 : dc cd_R_shut 30 (.iaload) 1 31 := ⟨by decide +kernel, rfl⟩
theorem d_R_shut_31 : dc cd_R_shut 31 (.iconst 3) 1 32 := ⟨by decide +kernel, rfl⟩
theorem d_R_shut_32 : dc cd_R_shut 32 (.if_icmp .eq 6) 3 35 := ⟨by decide +kernel, rfl⟩
theorem d_R_shut_35 : dc cd_R_shut 35 (.bipush (-3)) 2 37 := ⟨by decide +kernel, rfl⟩
theorem d_R_shut_37 : dc cd_R_shut 37 (.ireturn) 1 38 := ⟨by decide +kernel, rfl⟩
theorem d_R_shut_38 : dc cd_R_shut 38 (.aload_n 0) 1 39 := ⟨by decide +kernel, rfl⟩
theorem d_R_shut_39 : dc cd_R_shut 39 (.iload_n 1) 1 40 := ⟨by decide +kernel, rfl⟩
theorem d_R_shut_40 : dc cd_R_shut 40 (.iload_n 2) 1 41 := ⟨by decide +kernel, rfl⟩
theorem d_R_shut_41 : dc cd_R_shut 41 (.iload_n 3) 1 42 := ⟨by decide +kernel, rfl⟩
theorem d_R_shut_42 : dc cd_R_shut 42 (.iconst 4) 1 43 := ⟨by decide +kernel, rfl⟩
theorem d_R_shut_43 : dc cd_R_shut 43 (.invokevirtual 138) 3 46 := ⟨by decide +kernel, rfl⟩
theorem d_R_shut_46 : dc cd_R_shut 46 (.istore 5) 2 48 := ⟨by decide +kernel, rfl⟩
theorem d_R_shut_48 : dc cd_R_shut 48 (.iload 5) 2 50 := ⟨by decide +kernel, rfl⟩
theorem d_R_shut_50 : dc cd_R_shut 50 (.ifCond .eq 6) 3 53 := ⟨by decide +kernel, rfl⟩
theorem d_R_shut_53 : dc cd_R_shut 53 (.iload 5) 2 55 := ⟨by decide +kernel, rfl⟩
theorem d_R_shut_55 : dc cd_R_shut 55 (.ireturn) 1 56 := ⟨by decide +kernel, rfl⟩
theorem d_R_shut_56 : dc cd_R_shut 56 (.aload_n 0) 1 57 := ⟨by decide +kernel, rfl⟩
theorem d_R_shut_57 : dc cd_R_shut 57 (.getfield 26) 3 60 := ⟨by decide +kernel, rfl⟩
theorem d_R_shut_60 : dc cd_R_shut 60 (.iload 4) 2 62 := ⟨by decide +kernel, rfl⟩
theorem d_R_shut_62 : dc cd_R_shut 62 (.iconst 4) 1 63 := ⟨by decide +kernel, rfl⟩
theorem d_R_shut_63 : dc cd_R_shut 63 (.iastore) 1 64 := ⟨by decide +kernel, rfl⟩
theorem d_R_shut_64 : dc cd_R_shut 64 (.iconst 1) 1 65 := ⟨by decide +kernel, rfl⟩
theorem d_R_shut_65 : dc cd_R_shut 65 (.ireturn) 1 66 := ⟨by decide +kernel, rfl⟩
theorem d_R_has_0 : dc cd_R_has 0 (.iload_n 1) 1 1 := ⟨by decide +kernel, rfl⟩
theorem d_R_has_1 : dc cd_R_has 1 (.iconst 2) 1 2 := ⟨by decide +kernel, rfl⟩
theorem d_R_has_2 : dc cd_R_has 2 (.irem) 1 3 := ⟨by decide +kernel, rfl⟩
theorem d_R_has_3 : dc cd_R_has 3 (.istore 4) 2 5 := ⟨by decide +kernel, rfl⟩
theorem d_R_has_5 : dc cd_R_has 5 (.iload_n 3) 1 6 := ⟨by decide +kernel, rfl⟩
theorem d_R_has_6 : dc cd_R_has 6 (.iload 4) 2 8 := ⟨by decide +kernel, rfl⟩
theorem d_R_has_8 : dc cd_R_has 8 (.if_icmp .ne 17) 3 11 := ⟨by decide +kernel, rfl⟩
theorem d_R_has_11 : dc cd_R_has 11 (.aload_n 0) 1 12 := ⟨by decide +kernel, rfl⟩
theorem d_R_has_12 : dc cd_R_has 12 (.getfield 47) 3 15 := ⟨by decide +kernel, rfl⟩
theorem d_R_has_15 : dc cd_R_has 15 (.iconst 4) 1 16 := ⟨by decide +kernel, rfl⟩
theorem d_R_has_16 : dc cd_R_has 16 (.iload 4) 2 18 := ⟨by decide +kernel, rfl⟩
theorem d_R_has_18 : dc cd_R_has 18 (.imul) 1 19 := ⟨by decide +kernel, rfl⟩
theorem d_R_has_19 : dc cd_R_has 19 (.iload_n 2) 1 20 := ⟨by decide +kernel, rfl⟩
theorem d_R_has_20 : dc cd_R_has 20 (.iadd) 1 21 := ⟨by decide +kernel, rfl⟩
theorem d_R_has_21 : dc cd_R_has 21 (.iaload) 1 22 := ⟨by decide +kernel, rfl⟩
theorem d_R_has_22 : dc cd_R_has 22 (.goto 13) 3 25 := ⟨by decide +kernel, rfl⟩
theorem d_R_has_25 : dc cd_R_has 25 (.aload_n 0) 1 26 := ⟨by decide +kernel, rfl⟩
theorem d_R_has_26 : dc cd_R_has 26 (.getfield 50) 3 29 := ⟨by decide +kernel, rfl⟩
theorem d_R_has_29 : dc cd_R_has 29 (.iconst 4) 1 30 := ⟨by decide +kernel, rfl⟩
theorem d_R_has_30 : dc cd_R_has 30 (.iload_n 1) 1 31 := ⟨by decide +kernel, rfl⟩
theorem d_R_has_31 : dc cd_R_has 31 (.imul) 1 32 := ⟨by decide +kernel, rfl⟩
theorem d_R_has_32 : dc cd_R_has 32 (.iload_n 2) 1 33 := ⟨by decide +kernel, rfl⟩
theorem d_R_has_33 : dc cd_R_has 33 (.iadd) 1 34 := ⟨by decide +kernel, rfl⟩
theorem d_R_has_34 : dc cd_R_has 34 (.iaload) 1 35 := ⟨by decide +kernel, rfl⟩
theorem d_R_has_35 : dc cd_R_has 35 (.ireturn) 1 36 := ⟨by decide +kernel, rfl⟩
theorem d_R_give_0 : dc cd_R_give 0 (.iload_n 1) 1 1 := ⟨by decide +kernel, rfl⟩
theorem d_R_give_1 : dc cd_R_give 1 (.iconst 2) 1 2 := ⟨by decide +kernel, rfl⟩
theorem d_R_give_2 : dc cd_R_give 2 (.irem) 1 3 := ⟨by decide +kernel, rfl⟩
theorem d_R_give_3 : dc cd_R_give 3 (.istore 5) 2 5 := ⟨by decide +kernel, rfl⟩
theorem d_R_give_5 : dc cd_R_give 5 (.aload_n 0) 1 6 := ⟨by decide +kernel, rfl⟩
theorem d_R_give_6 : dc cd_R_give 6 (.getfield 47) 3 9 := ⟨by decide +kernel, rfl⟩
theorem d_R_give_9 : dc cd_R_give 9 (.iconst 4) 1 10 := ⟨by decide +kernel, rfl⟩
theorem d_R_give_10 : dc cd_R_give 10 (.iload 5) 2 12 := ⟨by decide +kernel, rfl⟩
theorem d_R_give_12 : dc cd_R_give 12 (.imul) 1 13 := ⟨by decide +kernel, rfl⟩
theorem d_R_give_13 : dc cd_R_give 13 (.iload_n 2) 1 14 := ⟨by decide +kernel, rfl⟩
theorem d_R_give_14 : dc cd_R_give 14 (.iadd) 1 15 := ⟨by decide +kernel, rfl⟩
theorem d_R_give_15 : dc cd_R_give 15 (.dup2) 1 16 := ⟨by decide +kernel, rfl⟩
theorem d_R_give_16 : dc cd_R_give 16 (.iaload) 1 17 := ⟨by decide +kernel, rfl⟩
theorem d_R_give_17 : dc cd_R_give 17 (.iload_n 3) 1 18 := ⟨by decide +kernel, rfl⟩
theorem d_R_give_18 : dc cd_R_give 18 (.iload 5) 2 20 := ⟨by decide +kernel, rfl⟩
theorem d_R_give_20 : dc cd_R_give 20 (.if_icmp .ne 8) 3 23 := ⟨by decide +kernel, rfl⟩
theorem d_R_give_23 : dc cd_R_give 23 (.iload 4) 2 25 := ⟨by decide +kernel, rfl⟩
theorem d_R_give_25 : dc cd_R_give 25 (.goto 4) 3 28 := ⟨by decide +kernel, rfl⟩
theorem d_R_give_28 : dc cd_R_give 28 (.iconst 0) 1 29 := ⟨by decide +kernel, rfl⟩
theorem d_R_give_29 : dc cd_R_give 29 (.iadd) 1 30 := ⟨by decide +kernel, rfl⟩
theorem d_R_give_30 : dc cd_R_give 30 (.iastore) 1 31 := ⟨by decide +kernel, rfl⟩
theorem d_R_give_31 : dc cd_R_give 31 (.aload_n 0) 1 32 := ⟨by decide +kernel, rfl⟩
theorem d_R_give_32 : dc cd_R_give 32 (.getfield 50) 3 35 := ⟨by decide +kernel, rfl⟩
theorem d_R_give_35 : dc cd_R_give 35 (.iconst 4) 1 36 := ⟨by decide +kernel, rfl⟩
theorem d_R_give_36 : dc cd_R_give 36 (.iload_n 1) 1 37 := ⟨by decide +kernel, rfl⟩
theorem d_R_give_37 : dc cd_R_give 37 (.imul) 1 38 := ⟨by decide +kernel, rfl⟩
theorem d_R_give_38 : dc cd_R_give 38 (.iload_n 2) 1 39 := ⟨by decide +kernel, rfl⟩
theorem d_R_give_39 : dc cd_R_give 39 (.iadd) 1 40 := ⟨by decide +kernel, rfl⟩
theorem d_R_give_40 : dc cd_R_give 40 (.dup2) 1 41 := ⟨by decide +kernel, rfl⟩
theorem d_R_give_41 : dc cd_R_give 41 (.iaload) 1 42 := ⟨by decide +kernel, rfl⟩
theorem d_R_give_42 : dc cd_R_give 42 (.iload_n 3) 1 43 := ⟨by decide +kernel, rfl⟩
theorem d_R_give_43 : dc cd_R_give 43 (.iload 5) 2 45 := ⟨by decide +kernel, rfl⟩
theorem d_R_give_45 : dc cd_R_give 45 (.if_icmp .ne 7) 3 48 := ⟨by decide +kernel, rfl⟩
theorem d_R_give_48 : dc cd_R_give 48 (.iconst 0) 1 49 := ⟨by decide +kernel, rfl⟩
theorem d_R_give_49 : dc cd_R_give 49 (.goto 5) 3 52 := ⟨by decide +kernel, rfl⟩
theorem d_R_give_52 : dc cd_R_give 52 (.iload 4) 2 54 := ⟨by decide +kernel, rfl⟩
theorem d_R_give_54 : dc cd_R_give 54 (.iadd) 1 55 := ⟨by decide +kernel, rfl⟩
theorem d_R_give_55 : dc cd_R_give 55 (.iastore) 1 56 := ⟨by decide +kernel, rfl⟩
theorem d_R_give_56 : dc cd_R_give 56 (.aload_n 0) 1 57 := ⟨by decide +kernel, rfl⟩
theorem d_R_give_57 : dc cd_R_give 57 (.getfield 35) 3 60 := ⟨by decide +kernel, rfl⟩
theorem d_R_give_60 : dc cd_R_give 60 (.iload_n 1) 1 61 := ⟨by decide +kernel, rfl⟩
theorem d_R_give_61 : dc cd_R_give 61 (.dup2) 1 62 := ⟨by decide +kernel, rfl⟩
theorem d_R_give_62 : dc cd_R_give 62 (.iaload) 1 63 := ⟨by decide +kernel, rfl⟩
theorem d_R_give_63 : dc cd_R_give 63 (.iload_n 3) 1 64 := ⟨by decide +kernel, rfl⟩
theorem d_R_give_64 : dc cd_R_give 64 (.iload 5) 2 66 := ⟨by decide +kernel, rfl⟩
theorem d_R_give_66 : dc cd_R_give 66 (.if_icmp .ne 8) 3 69 := ⟨by decide +kernel, rfl⟩
theorem d_R_give_69 : dc cd_R_give 69 (.iload 4) 2 71 := ⟨by decide +kernel, rfl⟩
theorem d_R_give_71 : dc cd_R_give 71 (.goto 4) 3 74 := ⟨by decide +kernel, rfl⟩
theorem d_R_give_74 : dc cd_R_give 74 (.iconst 0) 1 75 := ⟨by decide +kernel, rfl⟩
theorem d_R_give_75 : dc cd_R_give 75 (.isub) 1 76 := ⟨by decide +kernel, rfl⟩
theorem d_R_give_76 : dc cd_R_give 76 (.iastore) 1 77 := ⟨by decide +kernel, rfl⟩
theorem d_R_give_77 : dc cd_R_give 77 (.return_) 1 78 := ⟨by decide +kernel, rfl⟩
theorem d_R_send_0 : dc cd_R_send 0 (.aload_n 0) 1 1 := ⟨by decide +kernel, rfl⟩
theorem d_R_send_1 : dc cd_R_send 1 (.iload_n 1) 1 2 := ⟨by decide +kernel, rfl⟩
theorem d_R_send_2 : dc cd_R_send 2 (.invokevirtual 135) 3 5 := ⟨by decide +kernel, rfl⟩
theorem d_R_send_5 : dc cd_R_send 5 (.ifCond .ne 29) 3 8 := ⟨by decide +kernel, rfl⟩
theorem d_R_send_8 : dc cd_R_send 8 (.iload_n 2) 1 9 := ⟨by decide +kernel, rfl⟩
theorem d_R_send_9 : dc cd_R_send 9 (.invokestatic 109) 3 12 := ⟨by decide +kernel, rfl⟩
theorem d_R_send_12 : dc cd_R_send 12 (.ifCond .ne 22) 3 15 := ⟨by decide +kernel, rfl⟩
theorem d_R_send_15 : dc cd_R_send 15 (.iload_n 3) 1 16 := ⟨by decide +kernel, rfl⟩
theorem d_R_send_16 : dc cd_R_send 16 (.iconst 0) 1 17 := ⟨by decide +kernel, rfl⟩
theorem d_R_send_17 : dc cd_R_send 17 (.iconst 3) 1 18 := ⟨by decide +kernel, rfl⟩
theorem d_R_send_18 : dc cd_R_send 18 (.invokestatic 113) 3 21 := ⟨by decide +kernel, rfl⟩
theorem d_R_send_21 : dc cd_R_send 21 (.ifCond .eq 13) 3 24 := ⟨by decide +kernel, rfl⟩
theorem d_R_send_24 : dc cd_R_send 24 (.iload 5) 2 26 := ⟨by decide +kernel, rfl⟩
theorem d_R_send_26 : dc cd_R_send 26 (.iconst 0) 1 27 := ⟨by decide +kernel, rfl⟩
theorem d_R_send_27 : dc cd_R_send 27 (.iconst 1) 1 28 := ⟨by decide +kernel, rfl⟩
theorem d_R_send_28 : dc cd_R_send 28 (.invokestatic 113) 3 31 := ⟨by decide +kernel, rfl⟩
theorem d_R_send_31 : dc cd_R_send 31 (.ifCond .ne 5) 3 34 := ⟨by decide +kernel, rfl⟩
theorem d_R_send_34 : dc cd_R_send 34 (.iconst (-1)) 1 35 := ⟨by decide +kernel, rfl⟩
theorem d_R_send_35 : dc cd_R_send 35 (.ireturn) 1 36 := ⟨by decide +kernel, rfl⟩
theorem d_R_send_36 : dc cd_R_send 36 (.iload 4) 2 38 := ⟨by decide +kernel, rfl⟩
theorem d_R_send_38 : dc cd_R_send 38 (.iconst 0) 1 39 := ⟨by decide +kernel, rfl⟩
theorem d_R_send_39 : dc cd_R_send 39 (.bipush 7) 2 41 := ⟨by decide +kernel, rfl⟩
theorem d_R_send_41 : dc cd_R_send 41 (.invokestatic 113) 3 44 := ⟨by decide +kernel, rfl⟩
theorem d_R_send_44 : dc cd_R_send 44 (.ifCond .eq 27) 3 47 := ⟨by decide +kernel, rfl⟩
theorem d_R_send_47 : dc cd_R_send 47 (.iload 6) 2 49 := ⟨by decide +kernel, rfl⟩
theorem d_R_send_49 : dc cd_R_send 49 (.iconst 1) 1 50 := ⟨by decide +kernel, rfl⟩
theorem d_R_send_50 : dc cd_R_send 50 (.sipush 1000) 3 53 := ⟨by decide +kernel, rfl⟩
theorem d_R_send_53 : dc cd_R_send 53 (.invokestatic 113) 3 56 := ⟨by decide +kernel, rfl⟩
theorem d_R_send_56 : dc cd_R_send 56 (.ifCond .eq 15) 3 59 := ⟨by decide +kernel, rfl⟩
theorem d_R_send_59 : dc cd_R_send 59 (.iload 7) 2 61 := ⟨by decide +kernel, rfl⟩
theorem d_R_send_61 : dc cd_R_send 61 (.iconst 1) 1 62 := ⟨by decide +kernel, rfl⟩
theorem d_R_send_62 : dc cd_R_send 62 (.sipush 200) 3 65 := ⟨by decide +kernel, rfl⟩
theorem d_R_send_65 : dc cd_R_send 65 (.invokestatic 113) 3 68 := ⟨by decide +kernel, rfl⟩
theorem d_R_send_68 : dc cd_R_send 68 (.ifCond .ne 6) 3 71 := ⟨by decide +kernel, rfl⟩
theorem d_R_send_71 : dc cd_R_send 71 (.bipush (-2)) 2 73 := ⟨by decide +kernel, rfl⟩
theorem d_R_send_73 : dc cd_R_send 73 (.ireturn) 1 74 := ⟨by decide +kernel, rfl⟩
theorem d_R_send_74 : dc cd_R_send 74 (.iconst 2) 1 75 := ⟨by decide +kernel, rfl⟩
theorem d_R_send_75 : dc cd_R_send 75 (.iload_n 1) 1 76 := ⟨by decide +kernel, rfl⟩
theorem d_R_send_76 : dc cd_R_send 76 (.imul) 1 77 := ⟨by decide +kernel, rfl⟩
theorem d_R_send_77 : dc cd_R_send 77 (.iload_n 2) 1 78 := ⟨by decide +kernel, rfl⟩
theorem d_R_send_78 : dc cd_R_send 78 (.iadd) 1 79 := ⟨by decide +kernel, rfl⟩
theorem d_R_send_79 : dc cd_R_send 79 (.istore 8) 2 81 := ⟨by decide +kernel, rfl⟩
theorem d_R_send_81 : dc cd_R_send 81 (.aload_n 0) 1 82 := ⟨by decide +kernel, rfl⟩
theorem d_R_send_82 : dc cd_R_send 82 (.getfield 26) 3 85 := ⟨by decide +kernel, rfl⟩
theorem d_R_send_85 : dc cd_R_send 85 (.iload 8) 2 87 := ⟨by decide +kernel, rfl⟩
theorem d_R_send_87 : dc cd_R_send 87 (.iaload) 1 88 := ⟨by decide +kernel, rfl⟩
theorem d_R_send_88 : dc cd_R_send 88 (.iconst 3) 1 89 := ⟨by decide +kernel, rfl⟩
theorem d_R_send_89 : dc cd_R_send 89 (.if_icmp .ne 17) 3 92 := ⟨by decide +kernel, rfl⟩
theorem d_R_send_92 : dc cd_R_send 92 (.aload_n 0) 1 93 := ⟨by decide +kernel, rfl⟩
theorem d_R_send_93 : dc cd_R_send 93 (.iload 8) 2 95 := ⟨by decide +kernel, rfl⟩
theorem d_R_send_95 : dc cd_R_send 95 (.iload_n 3) 1 96 := ⟨by decide +kernel, rfl⟩
theorem d_R_send_96 : dc cd_R_send 96 (.iload 5) 2 98 := ⟨by decide +kernel, rfl⟩
theorem d_R_send_98 : dc cd_R_send 98 (.invokevirtual 145) 3 101 := ⟨by decide +kernel, rfl⟩
theorem d_R_send_101 : dc cd_R_send 101 (.iload 6) 2 103 := ⟨by decide +kernel, rfl⟩
theorem d_R_send_103 : dc cd_R_send 103 (.if_icmp .ge 6) 3 106 := ⟨by decide +kernel, rfl⟩
theorem d_R_send_106 : dc cd_R_send 106 (.bipush (-3)) 2 108 := ⟨by decide +kernel, rfl⟩
theorem d_R_send_108 : dc cd_R_send 108 (.ireturn) 1 109 := ⟨by decide +kernel, rfl⟩
theorem d_R_send_109 : dc cd_R_send 109 (.aload_n 0) 1 110 := ⟨by decide +kernel, rfl⟩
theorem d_R_send_110 : dc cd_R_send 110 (.getfield 16) 3 113 := ⟨by decide +kernel, rfl⟩
theorem d_R_send_113 : dc cd_R_send 113 (.iload_n 2) 1 114 := ⟨by decide +kernel, rfl⟩
theorem d_R_send_114 : dc cd_R_send 114 (.baload) 1 115 := ⟨by decide +kernel, rfl⟩
theorem d_R_send_115 : dc cd_R_send 115 (.ifCond .eq 6) 3 118 := ⟨by decide +kernel, rfl⟩
theorem d_R_send_118 : dc cd_R_send 118 (.bipush (-4)) 2 120 := ⟨by decide +kernel, rfl⟩
theorem d_R_send_120 : dc cd_R_send 120 (.ireturn) 1 121 := ⟨by decide +kernel, rfl⟩
theorem d_R_send_121 : dc cd_R_send 121 (.aload_n 0) 1 122 := ⟨by decide +kernel, rfl⟩
theorem d_R_send_122 : dc cd_R_send 122 (.iload_n 2) 1 123 := ⟨by decide +kernel, rfl⟩
theorem d_R_send_123 : dc cd_R_send 123 (.invokevirtual 121) 3 126 := ⟨by decide +kernel, rfl⟩
theorem d_R_send_126 : dc cd_R_send 126 (.iload 7) 2 128 := ⟨by decide +kernel, rfl⟩
theorem d_R_send_128 : dc cd_R_send 128 (.if_icmp .lt 6) 3 131 := ⟨by decide +kernel, rfl⟩
theorem d_R_send_131 : dc cd_R_send 131 (.bipush (-7)) 2 133 := ⟨by decide +kernel, rfl⟩
theorem d_R_send_133 : dc cd_R_send 133 (.ireturn) 1 134 := ⟨by decide +kernel, rfl⟩
theorem d_R_send_134 : dc cd_R_send 134 (.aload_n 0) 1 135 := ⟨by decide +kernel, rfl⟩
theorem d_R_send_135 : dc cd_R_send 135 (.getfield 102) 3 138 := ⟨by decide +kernel, rfl⟩
theorem d_R_send_138 : dc cd_R_send 138 (.bipush 60) 2 140 := ⟨by decide +kernel, rfl⟩
theorem d_R_send_140 : dc cd_R_send 140 (.if_icmp .ne 6) 3 143 := ⟨by decide +kernel, rfl⟩
theorem d_R_send_143 : dc cd_R_send 143 (.bipush (-10)) 2 145 := ⟨by decide +kernel, rfl⟩
theorem d_R_send_145 : dc cd_R_send 145 (.ireturn) 1 146 := ⟨by decide +kernel, rfl⟩
theorem d_R_send_146 : dc cd_R_send 146 (.aload_n 0) 1 147 := ⟨by decide +kernel, rfl⟩
theorem d_R_send_147 : dc cd_R_send 147 (.getfield 102) 3 150 := ⟨by decide +kernel, rfl⟩
theorem d_R_send_150 : dc cd_R_send 150 (.istore 9) 2 152 := ⟨by decide +kernel, rfl⟩
theorem d_R_send_152 : dc cd_R_send 152 (.aload_n 0) 1 153 := ⟨by decide +kernel, rfl⟩
theorem d_R_send_153 : dc cd_R_send 153 (.iload 8) 2 155 := ⟨by decide +kernel, rfl⟩
theorem d_R_send_155 : dc cd_R_send 155 (.iload_n 3) 1 156 := ⟨by decide +kernel, rfl⟩
theorem d_R_send_156 : dc cd_R_send 156 (.iload 5) 2 158 := ⟨by decide +kernel, rfl⟩
theorem d_R_send_158 : dc cd_R_send 158 (.iload 6) 2 160 := ⟨by decide +kernel, rfl⟩
theorem d_R_send_160 : dc cd_R_send 160 (.ineg) 1 161 := ⟨by decide +kernel, rfl⟩
theorem d_R_send_161 : dc cd_R_send 161 (.invokevirtual 148) 3 164 := ⟨by decide +kernel, rfl⟩
theorem d_R_send_164 : dc cd_R_send 164 (.aload_n 0) 1 165 := ⟨by decide +kernel, rfl⟩
theorem d_R_send_165 : dc cd_R_send 165 (.getfield 53) 3 168 := ⟨by decide +kernel, rfl⟩
theorem d_R_send_168 : dc cd_R_send 168 (.iload 9) 2 170 := ⟨by decide +kernel, rfl⟩
theorem d_R_send_170 : dc cd_R_send 170 (.iload_n 1) 1 171 := ⟨by decide +kernel, rfl⟩
theorem d_R_send_171 : dc cd_R_send 171 (.iastore) 1 172 := ⟨by decide +kernel, rfl⟩
theorem d_R_send_172 : dc cd_R_send 172 (.aload_n 0) 1 173 := ⟨by decide +kernel, rfl⟩
theorem d_R_send_173 : dc cd_R_send 173 (.getfield 56) 3 176 := ⟨by decide +kernel, rfl⟩
theorem d_R_send_176 : dc cd_R_send 176 (.iload 9) 2 178 := ⟨by decide +kernel, rfl⟩
theorem d_R_send_178 : dc cd_R_send 178 (.iload_n 2) 1 179 := ⟨by decide +kernel, rfl⟩
theorem d_R_send_179 : dc cd_R_send 179 (.iastore) 1 180 := ⟨by decide +kernel, rfl⟩
theorem d_R_send_180 : dc cd_R_send 180 (.aload_n 0) 1 181 := ⟨by decide +kernel, rfl⟩
theorem d_R_send_181 : dc cd_R_send 181 (.getfield 59) 3 184 := ⟨by decide +kernel, rfl⟩
theorem d_R_send_184 : dc cd_R_send 184 (.iload 9) 2 186 := ⟨by decide +kernel, rfl⟩
theorem d_R_send_186 : dc cd_R_send 186 (.aload_n 0) 1 187 := ⟨by decide +kernel, rfl⟩
theorem d_R_send_187 : dc cd_R_send 187 (.getfield 38) 3 190 := ⟨by decide +kernel, rfl⟩
theorem d_R_send_190 : dc cd_R_send 190 (.iload 8) 2 192 := ⟨by decide +kernel, rfl⟩
theorem d_R_send_192 : dc cd_R_send 192 (.iaload) 1 193 := ⟨by decide +kernel, rfl⟩
theorem d_R_send_193 : dc cd_R_send 193 (.iastore) 1 194 := ⟨by decide +kernel, rfl⟩
theorem d_R_send_194 : dc cd_R_send 194 (.aload_n 0) 1 195 := ⟨by decide +kernel, rfl⟩
theorem d_R_send_195 : dc cd_R_send 195 (.getfield 62) 3 198 := ⟨by decide +kernel, rfl⟩
theorem d_R_send_198 : dc cd_R_send 198 (.iload 9) 2 200 := ⟨by decide +kernel, rfl⟩
theorem d_R_send_200 : dc cd_R_send 200 (.iload 6) 2 202 := ⟨by decide +kernel, rfl⟩
theorem d_R_send_202 : dc cd_R_send 202 (.iastore) 1 203 := ⟨by decide +kernel, rfl⟩
theorem d_R_send_203 : dc cd_R_send 203 (.aload_n 0) 1 204 := ⟨by decide +kernel, rfl⟩
theorem d_R_send_204 : dc cd_R_send 204 (.getfield 65) 3 207 := ⟨by decide +kernel, rfl⟩
theorem d_R_send_207 : dc cd_R_send 207 (.iload 9) 2 209 := ⟨by decide +kernel, rfl⟩
theorem d_R_send_209 : dc cd_R_send 209 (.iload 5) 2 211 := ⟨by decide +kernel, rfl⟩
theorem d_R_send_211 : dc cd_R_send 211 (.iastore) 1 212 := ⟨by decide +kernel, rfl⟩
theorem d_R_send_212 : dc cd_R_send 212 (.aload_n 0) 1 213 := ⟨by decide +kernel, rfl⟩
theorem d_R_send_213 : dc cd_R_send 213 (.getfield 68) 3 216 := ⟨by decide +kernel, rfl⟩
theorem d_R_send_216 : dc cd_R_send 216 (.iload 9) 2 218 := ⟨by decide +kernel, rfl⟩
theorem d_R_send_218 : dc cd_R_send 218 (.iload_n 3) 1 219 := ⟨by decide +kernel, rfl⟩
theorem d_R_send_219 : dc cd_R_send 219 (.iastore) 1 220 := ⟨by decide +kernel, rfl⟩
theorem d_R_send_220 : dc cd_R_send 220 (.aload_n 0) 1 221 := ⟨by decide +kernel, rfl⟩
theorem d_R_send_221 : dc cd_R_send 221 (.getfield 71) 3 224 := ⟨by decide +kernel, rfl⟩
theorem d_R_send_224 : dc cd_R_send 224 (.iload 9) 2 226 := ⟨by decide +kernel, rfl⟩
theorem d_R_send_226 : dc cd_R_send 226 (.iload 4) 2 228 := ⟨by decide +kernel, rfl⟩
theorem d_R_send_228 : dc cd_R_send 228 (.iastore) 1 229 := ⟨by decide +kernel, rfl⟩
theorem d_R_send_229 : dc cd_R_send 229 (.aload_n 0) 1 230 := ⟨by decide +kernel, rfl⟩
theorem d_R_send_230 : dc cd_R_send 230 (.getfield 74) 3 233 := ⟨by decide +kernel, rfl⟩
theorem d_R_send_233 : dc cd_R_send 233 (.iload 9) 2 235 := ⟨by decide +kernel, rfl⟩
theorem d_R_send_235 : dc cd_R_send 235 (.iload 7) 2 237 := ⟨by decide +kernel, rfl⟩
theorem d_R_send_237 : dc cd_R_send 237 (.iastore) 1 238 := ⟨by decide +kernel, rfl⟩
theorem d_R_send_238 : dc cd_R_send 238 (.aload_n 0) 1 239 := ⟨by decide +kernel, rfl⟩
theorem d_R_send_239 : dc cd_R_send 239 (.getfield 77) 3 242 := ⟨by decide +kernel, rfl⟩
theorem d_R_send_242 : dc cd_R_send 242 (.iload 9) 2 244 := ⟨by decide +kernel, rfl⟩
theorem d_R_send_244 : dc cd_R_send 244 (.iconst 1) 1 245 := ⟨by decide +kernel, rfl⟩
theorem d_R_send_245 : dc cd_R_send 245 (.bastore) 1 246 := ⟨by decide +kernel, rfl⟩
theorem d_R_send_246 : dc cd_R_send 246 (.aload_n 0) 1 247 := ⟨by decide +kernel, rfl⟩
theorem d_R_send_247 : dc cd_R_send 247 (.getfield 80) 3 250 := ⟨by decide +kernel, rfl⟩
theorem d_R_send_250 : dc cd_R_send 250 (.iload 9) 2 252 := ⟨by decide +kernel, rfl⟩
theorem d_R_send_252 : dc cd_R_send 252 (.aload_n 0) 1 253 := ⟨by decide +kernel, rfl⟩
theorem d_R_send_253 : dc cd_R_send 253 (.getfield 7) 3 256 := ⟨by decide +kernel, rfl⟩
theorem d_R_send_256 : dc cd_R_send 256 (.iload_n 2) 1 257 := ⟨by decide +kernel, rfl⟩
theorem d_R_send_257 : dc cd_R_send 257 (.iaload) 1 258 := ⟨by decide +kernel, rfl⟩
theorem d_R_send_258 : dc cd_R_send 258 (.iconst 1) 1 259 := ⟨by decide +kernel, rfl⟩
theorem d_R_send_259 : dc cd_R_send 259 (.iadd) 1 260 := ⟨by decide +kernel, rfl⟩
theorem d_R_send_260 : dc cd_R_send 260 (.iastore) 1 261 := ⟨by decide +kernel, rfl⟩
theorem d_R_send_261 : dc cd_R_send 261 (.aload_n 0) 1 262 := ⟨by decide +kernel, rfl⟩
theorem d_R_send_262 : dc cd_R_send 262 (.getfield 83) 3 265 := ⟨by decide +kernel, rfl⟩
theorem d_R_send_265 : dc cd_R_send 265 (.iload 9) 2 267 := ⟨by decide +kernel, rfl⟩
theorem d_R_send_267 : dc cd_R_send 267 (.sipush 202) 3 270 := ⟨by decide +kernel, rfl⟩
theorem d_R_send_270 : dc cd_R_send 270 (.iastore) 1 271 := ⟨by decide +kernel, rfl⟩
theorem d_R_send_271 : dc cd_R_send 271 (.aload_n 0) 1 272 := ⟨by decide +kernel, rfl⟩
theorem d_R_send_272 : dc cd_R_send 272 (.getfield 86) 3 275 := ⟨by decide +kernel, rfl⟩
theorem d_R_send_275 : dc cd_R_send 275 (.iload 9) 2 277 := ⟨by decide +kernel, rfl⟩
theorem d_R_send_277 : dc cd_R_send 277 (.iconst 0) 1 278 := ⟨by decide +kernel, rfl⟩
theorem d_R_send_278 : dc cd_R_send 278 (.iastore) 1 279 := ⟨by decide +kernel, rfl⟩
theorem d_R_send_279 : dc cd_R_send 279 (.aload_n 0) 1 280 := ⟨by decide +kernel, rfl⟩
theorem d_R_send_280 : dc cd_R_send 280 (.getfield 89) 3 283 := ⟨by decide +kernel, rfl⟩
theorem d_R_send_283 : dc cd_R_send 283 (.iload 9) 2 285 := ⟨by decide +kernel, rfl⟩
theorem d_R_send_285 : dc cd_R_send 285 (.sipush 202) 3 288 := ⟨by decide +kernel, rfl⟩
theorem d_R_send_288 : dc cd_R_send 288 (.iastore) 1 289 := ⟨by decide +kernel, rfl⟩
theorem d_R_send_289 : dc cd_R_send 289 (.aload_n 0) 1 290 := ⟨by decide +kernel, rfl⟩
theorem d_R_send_290 : dc cd_R_send 290 (.getfield 92) 3 293 := ⟨by decide +kernel, rfl⟩
theorem d_R_send_293 : dc cd_R_send 293 (.iload 9) 2 295 := ⟨by decide +kernel, rfl⟩
theorem d_R_send_295 : dc cd_R_send 295 (.iconst 0) 1 296 := ⟨by decide +kernel, rfl⟩
theorem d_R_send_296 : dc cd_R_send 296 (.bastore) 1 297 := ⟨by decide +kernel, rfl⟩
theorem d_R_send_297 : dc cd_R_send 297 (.aload_n 0) 1 298 := ⟨by decide +kernel, rfl⟩
theorem d_R_send_298 : dc cd_R_send 298 (.getfield 38) 3 301 := ⟨by decide +kernel, rfl⟩
theorem d_R_send_301 : dc cd_R_send 301 (.iload 8) 2 303 := ⟨by decide +kernel, rfl⟩
theorem d_R_send_303 : dc cd_R_send 303 (.dup2) 1 304 := ⟨by decide +kernel, rfl⟩
theorem d_R_send_304 : dc cd_R_send 304 (.iaload) 1 305 := ⟨by decide +kernel, rfl⟩
theorem d_R_send_305 : dc cd_R_send 305 (.iconst 1) 1 306 := ⟨by decide +kernel, rfl⟩
theorem d_R_send_306 : dc cd_R_send 306 (.iadd) 1 307 := ⟨by decide +kernel, rfl⟩
theorem d_R_send_307 : dc cd_R_send 307 (.iastore) 1 308 := ⟨by decide +kernel, rfl⟩
theorem d_R_send_308 : dc cd_R_send 308 (.aload_n 0) 1 309 := ⟨by decide +kernel, rfl⟩
theorem d_R_send_309 : dc cd_R_send 309 (.dup) 1 310 := ⟨by decide +kernel, rfl⟩
theorem d_R_send_310 : dc cd_R_send 310 (.getfield 102) 3 313 := ⟨by decide +kernel, rfl⟩
theorem d_R_send_313 : dc cd_R_send 313 (.iconst 1) 1 314 := ⟨by decide +kernel, rfl⟩
theorem d_R_send_314 : dc cd_R_send 314 (.iadd) 1 315 := ⟨by decide +kernel, rfl⟩
theorem d_R_send_315 : dc cd_R_send 315 (.putfield 102) 3 318 := ⟨by decide +kernel, rfl⟩
theorem d_R_send_318 : dc cd_R_send 318 (.iload 9) 2 320 := ⟨by decide +kernel, rfl⟩
theorem d_R_send_320 : dc cd_R_send 320 (.ireturn) 1 321 := ⟨by decide +kernel, rfl⟩
theorem d_R_noMessage_0 : dc cd_R_noMessage 0 (.iload_n 1) 1 1 := ⟨by decide +kernel, rfl⟩
theorem d_R_noMessage_1 : dc cd_R_noMessage 1 (.iconst 0) 1 2 := ⟨by decide +kernel, rfl⟩
theorem d_R_noMessage_2 : dc cd_R_noMessage 2 (.aload_n 0) 1 3 := ⟨by decide +kernel, rfl⟩
theorem d_R_noMessage_3 : dc cd_R_noMessage 3 (.getfield 102) 3 6 := ⟨by decide +kernel, rfl⟩
theorem d_R_noMessage_6 : dc cd_R_noMessage 6 (.iconst 1) 1 7 := ⟨by decide +kernel, rfl⟩
theorem d_R_noMessage_7 : dc cd_R_noMessage 7 (.isub) 1 8 := ⟨by decide +kernel, rfl⟩
theorem d_R_noMessage_8 : dc cd_R_noMessage 8 (.invokestatic 113) 3 11 := ⟨by decide +kernel, rfl⟩
theorem d_R_noMessage_11 : dc cd_R_noMessage 11 (.ifCond .ne 7) 3 14 := ⟨by decide +kernel, rfl⟩
theorem d_R_noMessage_14 : dc cd_R_noMessage 14 (.iconst 1) 1 15 := ⟨by decide +kernel, rfl⟩
theorem d_R_noMessage_15 : dc cd_R_noMessage 15 (.goto 4) 3 18 := ⟨by decide +kernel, rfl⟩
theorem d_R_noMessage_18 : dc cd_R_noMessage 18 (.iconst 0) 1 19 := ⟨by decide +kernel, rfl⟩
theorem d_R_noMessage_19 : dc cd_R_noMessage 19 (.ireturn) 1 20 := ⟨by decide +kernel, rfl⟩
theorem d_R_isBehind_0 : dc cd_R_isBehind 0 (.iconst 0) 1 1 := ⟨by decide +kernel, rfl⟩
theorem d_R_isBehind_1 : dc cd_R_isBehind 1 (.istore_n 3) 1 2 := ⟨by decide +kernel, rfl⟩
theorem d_R_isBehind_2 : dc cd_R_isBehind 2 (.iconst 0) 1 3 := ⟨by decide +kernel, rfl⟩
theorem d_R_isBehind_3 : dc cd_R_isBehind 3 (.istore 4) 2 5 := ⟨by decide +kernel, rfl⟩
theorem d_R_isBehind_5 : dc cd_R_isBehind 5 (.iload 4) 2 7 := ⟨by decide +kernel, rfl⟩
theorem d_R_isBehind_7 : dc cd_R_isBehind 7 (.iload_n 1) 1 8 := ⟨by decide +kernel, rfl⟩
theorem d_R_isBehind_8 : dc cd_R_isBehind 8 (.if_icmp .ge 90) 3 11 := ⟨by decide +kernel, rfl⟩
theorem d_R_isBehind_11 : dc cd_R_isBehind 11 (.aload_n 0) 1 12 := ⟨by decide +kernel, rfl⟩
theorem d_R_isBehind_12 : dc cd_R_isBehind 12 (.getfield 53) 3 15 := ⟨by decide +kernel, rfl⟩
theorem d_R_isBehind_15 : dc cd_R_isBehind 15 (.iload 4) 2 17 := ⟨by decide +kernel, rfl⟩
theorem d_R_isBehind_17 : dc cd_R_isBehind 17 (.iaload) 1 18 := ⟨by decide +kernel, rfl⟩
theorem d_R_isBehind_18 : dc cd_R_isBehind 18 (.aload_n 0) 1 19 := ⟨by decide +kernel, rfl⟩
theorem d_R_isBehind_19 : dc cd_R_isBehind 19 (.getfield 53) 3 22 := ⟨by decide +kernel, rfl⟩
theorem d_R_isBehind_22 : dc cd_R_isBehind 22 (.iload_n 1) 1 23 := ⟨by decide +kernel, rfl⟩
theorem d_R_isBehind_23 : dc cd_R_isBehind 23 (.iaload) 1 24 := ⟨by decide +kernel, rfl⟩
theorem d_R_isBehind_24 : dc cd_R_isBehind 24 (.if_icmp .ne 23) 3 27 := ⟨by decide +kernel, rfl⟩
theorem d_R_isBehind_27 : dc cd_R_isBehind 27 (.aload_n 0) 1 28 := ⟨by decide +kernel, rfl⟩
theorem d_R_isBehind_28 : dc cd_R_isBehind 28 (.getfield 56) 3 31 := ⟨by decide +kernel, rfl⟩
theorem d_R_isBehind_31 : dc cd_R_isBehind 31 (.iload 4) 2 33 := ⟨by decide +kernel, rfl⟩
theorem d_R_isBehind_33 : dc cd_R_isBehind 33 (.iaload) 1 34 := ⟨by decide +kernel, rfl⟩
theorem d_R_isBehind_34 : dc cd_R_isBehind 34 (.aload_n 0) 1 35 := ⟨by decide +kernel, rfl⟩
theorem d_R_isBehind_35 : dc cd_R_isBehind 35 (.getfield 56) 3 38 := ⟨by decide +kernel, rfl⟩
theorem d_R_isBehind_38 : dc cd_R_isBehind 38 (.iload_n 1) 1 39 := ⟨by decide +kernel, rfl⟩
theorem d_R_isBehind_39 : dc cd_R_isBehind 39 (.iaload) 1 40 := ⟨by decide +kernel, rfl⟩
theorem d_R_isBehind_40 : dc cd_R_isBehind 40 (.if_icmp .ne 7) 3 43 := ⟨by decide +kernel, rfl⟩
theorem d_R_isBehind_43 : dc cd_R_isBehind 43 (.iconst 1) 1 44 := ⟨by decide +kernel, rfl⟩
theorem d_R_isBehind_44 : dc cd_R_isBehind 44 (.goto 4) 3 47 := ⟨by decide +kernel, rfl⟩
theorem d_R_isBehind_47 : dc cd_R_isBehind 47 (.iconst 0) 1 48 := ⟨by decide +kernel, rfl⟩
theorem d_R_isBehind_48 : dc cd_R_isBehind 48 (.istore 5) 2 50 := ⟨by decide +kernel, rfl⟩
theorem d_R_isBehind_50 : dc cd_R_isBehind 50 (.iload_n 3) 1 51 := ⟨by decide +kernel, rfl⟩
theorem d_R_isBehind_51 : dc cd_R_isBehind 51 (.ifCond .ne 35) 3 54 := ⟨by decide +kernel, rfl⟩
theorem d_R_isBehind_54 : dc cd_R_isBehind 54 (.iload 5) 2 56 := ⟨by decide +kernel, rfl⟩
theorem d_R_isBehind_56 : dc cd_R_isBehind 56 (.ifCond .eq 34) 3 59 := ⟨by decide +kernel, rfl⟩
theorem d_R_isBehind_59 : dc cd_R_isBehind 59 (.iload_n 2) 1 60 := ⟨by decide +kernel, rfl⟩
theorem d_R_isBehind_60 : dc cd_R_isBehind 60 (.ifCond .eq 16) 3 63 := ⟨by decide +kernel, rfl⟩
theorem d_R_isBehind_63 : dc cd_R_isBehind 63 (.aload_n 0) 1 64 := ⟨by decide +kernel, rfl⟩
theorem d_R_isBehind_64 : dc cd_R_isBehind 64 (.getfield 77) 3 67 := ⟨by decide +kernel, rfl⟩
theorem d_R_isBehind_67 : dc cd_R_isBehind 67 (.iload 4) 2 69 := ⟨by decide +kernel, rfl⟩
theorem d_R_isBehind_69 : dc cd_R_isBehind 69 (.baload) 1 70 := ⟨by decide +kernel, rfl⟩
theorem d_R_isBehind_70 : dc cd_R_isBehind 70 (.ifCond .eq 20) 3 73 := ⟨by decide +kernel, rfl⟩
theorem d_R_isBehind_73 : dc cd_R_isBehind 73 (.goto 13) 3 76 := ⟨by decide +kernel, rfl⟩
theorem d_R_isBehind_76 : dc cd_R_isBehind 76 (.aload_n 0) 1 77 := ⟨by decide +kernel, rfl⟩
theorem d_R_isBehind_77 : dc cd_R_isBehind 77 (.getfield 86) 3 80 := ⟨by decide +kernel, rfl⟩
theorem d_R_isBehind_80 : dc cd_R_isBehind 80 (.iload 4) 2 82 := ⟨by decide +kernel, rfl⟩
theorem d_R_isBehind_82 : dc cd_R_isBehind 82 (.iaload) 1 83 := ⟨by decide +kernel, rfl⟩
theorem d_R_isBehind_83 : dc cd_R_isBehind 83 (.ifCond .ne 7) 3 86 := ⟨by decide +kernel, rfl⟩
theorem d_R_isBehind_86 : dc cd_R_isBehind 86 (.iconst 1) 1 87 := ⟨by decide +kernel, rfl⟩
theorem d_R_isBehind_87 : dc cd_R_isBehind 87 (.goto 4) 3 90 := ⟨by decide +kernel, rfl⟩
theorem d_R_isBehind_90 : dc cd_R_isBehind 90 (.iconst 0) 1 91 := ⟨by decide +kernel, rfl⟩
theorem d_R_isBehind_91 : dc cd_R_isBehind 91 (.istore_n 3) 1 92 := ⟨by decide +kernel, rfl⟩
theorem d_R_isBehind_92 : dc cd_R_isBehind 92 (.iinc 4 1) 3 95 := ⟨by decide +kernel, rfl⟩
theorem d_R_isBehind_95 : dc cd_R_isBehind 95 (.goto (-90)) 3 98 := ⟨by decide +kernel, rfl⟩
theorem d_R_isBehind_98 : dc cd_R_isBehind 98 (.iload_n 3) 1 99 := ⟨by decide +kernel, rfl⟩
theorem d_R_isBehind_99 : dc cd_R_isBehind 99 (.ireturn) 1 100 := ⟨by decide +kernel, rfl⟩
theorem d_R_receive_0 : dc cd_R_receive 0 (.aload_n 0) 1 1 := ⟨by decide +kernel, rfl⟩
theorem d_R_receive_1 : dc cd_R_receive 1 (.iload_n 1) 1 2 := ⟨by decide +kernel, rfl⟩
theorem d_R_receive_2 : dc cd_R_receive 2 (.invokevirtual 152) 3 5 := ⟨by decide +kernel, rfl⟩
theorem d_R_receive_5 : dc cd_R_receive 5 (.ifCond .eq 5) 3 8 := ⟨by decide +kernel, rfl⟩
theorem d_R_receive_8 : dc cd_R_receive 8 (.iconst (-1)) 1 9 := ⟨by decide +kernel, rfl⟩
theorem d_R_receive_9 : dc cd_R_receive 9 (.ireturn) 1 10 := ⟨by decide +kernel, rfl⟩
theorem d_R_receive_10 : dc cd_R_receive 10 (.iconst 1) 1 11 := ⟨by decide +kernel, rfl⟩
theorem d_R_receive_11 : dc cd_R_receive 11 (.aload_n 0) 1 12 := ⟨by decide +kernel, rfl⟩
theorem d_R_receive_12 : dc cd_R_receive 12 (.getfield 56) 3 15 := ⟨by decide +kernel, rfl⟩
theorem d_R_receive_15 : dc cd_R_receive 15 (.iload_n 1) 1 16 := ⟨by decide +kernel, rfl⟩
theorem d_R_receive_16 : dc cd_R_receive 16 (.iaload) 1 17 := ⟨by decide +kernel, rfl⟩
theorem d_R_receive_17 : dc cd_R_receive 17 (.isub) 1 18 := ⟨by decide +kernel, rfl⟩
theorem d_R_receive_18 : dc cd_R_receive 18 (.istore_n 3) 1 19 := ⟨by decide +kernel, rfl⟩
theorem d_R_receive_19 : dc cd_R_receive 19 (.iconst 2) 1 20 := ⟨by decide +kernel, rfl⟩
theorem d_R_receive_20 : dc cd_R_receive 20 (.aload_n 0) 1 21 := ⟨by decide +kernel, rfl⟩
theorem d_R_receive_21 : dc cd_R_receive 21 (.getfield 53) 3 24 := ⟨by decide +kernel, rfl⟩
theorem d_R_receive_24 : dc cd_R_receive 24 (.iload_n 1) 1 25 := ⟨by decide +kernel, rfl⟩
theorem d_R_receive_25 : dc cd_R_receive 25 (.iaload) 1 26 := ⟨by decide +kernel, rfl⟩
theorem d_R_receive_26 : dc cd_R_receive 26 (.imul) 1 27 := ⟨by decide +kernel, rfl⟩
theorem d_R_receive_27 : dc cd_R_receive 27 (.iload_n 3) 1 28 := ⟨by decide +kernel, rfl⟩
theorem d_R_receive_28 : dc cd_R_receive 28 (.iadd) 1 29 := ⟨by decide +kernel, rfl⟩
theorem d_R_receive_29 : dc cd_R_receive 29 (.istore 4) 2 31 := ⟨by decide +kernel, rfl⟩
theorem d_R_receive_31 : dc cd_R_receive 31 (.aload_n 0) 1 32 := ⟨by decide +kernel, rfl⟩
theorem d_R_receive_32 : dc cd_R_receive 32 (.getfield 26) 3 35 := ⟨by decide +kernel, rfl⟩
theorem d_R_receive_35 : dc cd_R_receive 35 (.iload 4) 2 37 := ⟨by decide +kernel, rfl⟩
theorem d_R_receive_37 : dc cd_R_receive 37 (.iaload) 1 38 := ⟨by decide +kernel, rfl⟩
theorem d_R_receive_38 : dc cd_R_receive 38 (.iconst 3) 1 39 := ⟨by decide +kernel, rfl⟩
theorem d_R_receive_39 : dc cd_R_receive 39 (.if_icmp .ne 12) 3 42 := ⟨by decide +kernel, rfl⟩
theorem d_R_receive_42 : dc cd_R_receive 42 (.aload_n 0) 1 43 := ⟨by decide +kernel, rfl⟩
theorem d_R_receive_43 : dc cd_R_receive 43 (.getfield 86) 3 46 := ⟨by decide +kernel, rfl⟩
theorem d_R_receive_46 : dc cd_R_receive 46 (.iload_n 1) 1 47 := ⟨by decide +kernel, rfl⟩
theorem d_R_receive_47 : dc cd_R_receive 47 (.iaload) 1 48 := ⟨by decide +kernel, rfl⟩
theorem d_R_receive_48 : dc cd_R_receive 48 (.ifCond .eq 6) 3 51 := ⟨by decide +kernel, rfl⟩
theorem d_R_receive_51 : dc cd_R_receive 51 (.bipush (-3)) 2 53 := ⟨by decide +kernel, rfl⟩
theorem d_R_receive_53 : dc cd_R_receive 53 (.ireturn) 1 54 := ⟨by decide +kernel, rfl⟩
theorem d_R_receive_54 : dc cd_R_receive 54 (.aload_n 0) 1 55 := ⟨by decide +kernel, rfl⟩
end
section
theorem d_R_receive_55 : dc cd_R_receive 55 (.iload_n 3) 1 56 := ⟨by decide +kernel, rfl⟩
theorem d_R_receive_56 : dc cd_R_receive 56 (.iload_n 2) 1 57 := ⟨by decide +kernel, rfl⟩
theorem d_R_receive_57 : dc cd_R_receive 57 (.invokevirtual 128) 3 60 := ⟨by decide +kernel, rfl⟩
theorem d_R_receive_60 : dc cd_R_receive 60 (.istore 5) 2 62 := ⟨by decide +kernel, rfl⟩
theorem d_R_receive_62 : dc cd_R_receive 62 (.iload 5) 2 64 := ⟨by decide +kernel, rfl⟩
theorem d_R_receive_64 : dc cd_R_receive 64 (.ifCond .eq 6) 3 67 := ⟨by decide +kernel, rfl⟩
theorem d_R_receive_67 : dc cd_R_receive 67 (.iload 5) 2 69 := ⟨by decide +kernel, rfl⟩
theorem d_R_receive_69 : dc cd_R_receive 69 (.ireturn) 1 70 := ⟨by decide +kernel, rfl⟩
theorem d_R_receive_70 : dc cd_R_receive 70 (.iload_n 2) 1 71 := ⟨by decide +kernel, rfl⟩
theorem d_R_receive_71 : dc cd_R_receive 71 (.aload_n 0) 1 72 := ⟨by decide +kernel, rfl⟩
theorem d_R_receive_72 : dc cd_R_receive 72 (.getfield 80) 3 75 := ⟨by decide +kernel, rfl⟩
theorem d_R_receive_75 : dc cd_R_receive 75 (.iload_n 1) 1 76 := ⟨by decide +kernel, rfl⟩
theorem d_R_receive_76 : dc cd_R_receive 76 (.iaload) 1 77 := ⟨by decide +kernel, rfl⟩
theorem d_R_receive_77 : dc cd_R_receive 77 (.if_icmp .lt 13) 3 80 := ⟨by decide +kernel, rfl⟩
theorem d_R_receive_80 : dc cd_R_receive 80 (.iload_n 2) 1 81 := ⟨by decide +kernel, rfl⟩
theorem d_R_receive_81 : dc cd_R_receive 81 (.aload_n 0) 1 82 := ⟨by decide +kernel, rfl⟩
theorem d_R_receive_82 : dc cd_R_receive 82 (.getfield 83) 3 85 := ⟨by decide +kernel, rfl⟩
theorem d_R_receive_85 : dc cd_R_receive 85 (.iload_n 1) 1 86 := ⟨by decide +kernel, rfl⟩
theorem d_R_receive_86 : dc cd_R_receive 86 (.iaload) 1 87 := ⟨by decide +kernel, rfl⟩
theorem d_R_receive_87 : dc cd_R_receive 87 (.if_icmp .lt 6) 3 90 := ⟨by decide +kernel, rfl⟩
theorem d_R_receive_90 : dc cd_R_receive 90 (.bipush (-6)) 2 92 := ⟨by decide +kernel, rfl⟩
theorem d_R_receive_92 : dc cd_R_receive 92 (.ireturn) 1 93 := ⟨by decide +kernel, rfl⟩
theorem d_R_receive_93 : dc cd_R_receive 93 (.aload_n 0) 1 94 := ⟨by decide +kernel, rfl⟩
theorem d_R_receive_94 : dc cd_R_receive 94 (.getfield 7) 3 97 := ⟨by decide +kernel, rfl⟩
theorem d_R_receive_97 : dc cd_R_receive 97 (.iload_n 3) 1 98 := ⟨by decide +kernel, rfl⟩
theorem d_R_receive_98 : dc cd_R_receive 98 (.iaload) 1 99 := ⟨by decide +kernel, rfl⟩
theorem d_R_receive_99 : dc cd_R_receive 99 (.aload_n 0) 1 100 := ⟨by decide +kernel, rfl⟩
theorem d_R_receive_100 : dc cd_R_receive 100 (.getfield 74) 3 103 := ⟨by decide +kernel, rfl⟩
theorem d_R_receive_103 : dc cd_R_receive 103 (.iload_n 1) 1 104 := ⟨by decide +kernel, rfl⟩
theorem d_R_receive_104 : dc cd_R_receive 104 (.iaload) 1 105 := ⟨by decide +kernel, rfl⟩
theorem d_R_receive_105 : dc cd_R_receive 105 (.if_icmp .lt 6) 3 108 := ⟨by decide +kernel, rfl⟩
theorem d_R_receive_108 : dc cd_R_receive 108 (.bipush (-7)) 2 110 := ⟨by decide +kernel, rfl⟩
theorem d_R_receive_110 : dc cd_R_receive 110 (.ireturn) 1 111 := ⟨by decide +kernel, rfl⟩
theorem d_R_receive_111 : dc cd_R_receive 111 (.aload_n 0) 1 112 := ⟨by decide +kernel, rfl⟩
theorem d_R_receive_112 : dc cd_R_receive 112 (.getfield 23) 3 115 := ⟨by decide +kernel, rfl⟩
theorem d_R_receive_115 : dc cd_R_receive 115 (.aload_n 0) 1 116 := ⟨by decide +kernel, rfl⟩
theorem d_R_receive_116 : dc cd_R_receive 116 (.getfield 53) 3 119 := ⟨by decide +kernel, rfl⟩
theorem d_R_receive_119 : dc cd_R_receive 119 (.iload_n 1) 1 120 := ⟨by decide +kernel, rfl⟩
theorem d_R_receive_120 : dc cd_R_receive 120 (.iaload) 1 121 := ⟨by decide +kernel, rfl⟩
theorem d_R_receive_121 : dc cd_R_receive 121 (.baload) 1 122 := ⟨by decide +kernel, rfl⟩
theorem d_R_receive_122 : dc cd_R_receive 122 (.ifCond .eq 15) 3 125 := ⟨by decide +kernel, rfl⟩
theorem d_R_receive_125 : dc cd_R_receive 125 (.aload_n 0) 1 126 := ⟨by decide +kernel, rfl⟩
theorem d_R_receive_126 : dc cd_R_receive 126 (.iload_n 1) 1 127 := ⟨by decide +kernel, rfl⟩
theorem d_R_receive_127 : dc cd_R_receive 127 (.iconst 0) 1 128 := ⟨by decide +kernel, rfl⟩
theorem d_R_receive_128 : dc cd_R_receive 128 (.invokevirtual 155) 3 131 := ⟨by decide +kernel, rfl⟩
theorem d_R_receive_131 : dc cd_R_receive 131 (.ifCond .eq 6) 3 134 := ⟨by decide +kernel, rfl⟩
theorem d_R_receive_134 : dc cd_R_receive 134 (.bipush (-8)) 2 136 := ⟨by decide +kernel, rfl⟩
theorem d_R_receive_136 : dc cd_R_receive 136 (.ireturn) 1 137 := ⟨by decide +kernel, rfl⟩
theorem d_R_receive_137 : dc cd_R_receive 137 (.aload_n 0) 1 138 := ⟨by decide +kernel, rfl⟩
theorem d_R_receive_138 : dc cd_R_receive 138 (.getfield 71) 3 141 := ⟨by decide +kernel, rfl⟩
theorem d_R_receive_141 : dc cd_R_receive 141 (.iload_n 1) 1 142 := ⟨by decide +kernel, rfl⟩
theorem d_R_receive_142 : dc cd_R_receive 142 (.iaload) 1 143 := ⟨by decide +kernel, rfl⟩
theorem d_R_receive_143 : dc cd_R_receive 143 (.iconst 4) 1 144 := ⟨by decide +kernel, rfl⟩
theorem d_R_receive_144 : dc cd_R_receive 144 (.if_icmp .ge 7) 3 147 := ⟨by decide +kernel, rfl⟩
theorem d_R_receive_147 : dc cd_R_receive 147 (.iconst 1) 1 148 := ⟨by decide +kernel, rfl⟩
theorem d_R_receive_148 : dc cd_R_receive 148 (.goto 4) 3 151 := ⟨by decide +kernel, rfl⟩
theorem d_R_receive_151 : dc cd_R_receive 151 (.iconst 0) 1 152 := ⟨by decide +kernel, rfl⟩
theorem d_R_receive_152 : dc cd_R_receive 152 (.istore 6) 2 154 := ⟨by decide +kernel, rfl⟩
theorem d_R_receive_154 : dc cd_R_receive 154 (.iload 6) 2 156 := ⟨by decide +kernel, rfl⟩
theorem d_R_receive_156 : dc cd_R_receive 156 (.ifCond .eq 27) 3 159 := ⟨by decide +kernel, rfl⟩
theorem d_R_receive_159 : dc cd_R_receive 159 (.aload_n 0) 1 160 := ⟨by decide +kernel, rfl⟩
theorem d_R_receive_160 : dc cd_R_receive 160 (.iload 4) 2 162 := ⟨by decide +kernel, rfl⟩
theorem d_R_receive_162 : dc cd_R_receive 162 (.aload_n 0) 1 163 := ⟨by decide +kernel, rfl⟩
theorem d_R_receive_163 : dc cd_R_receive 163 (.getfield 71) 3 166 := ⟨by decide +kernel, rfl⟩
theorem d_R_receive_166 : dc cd_R_receive 166 (.iload_n 1) 1 167 := ⟨by decide +kernel, rfl⟩
theorem d_R_receive_167 : dc cd_R_receive 167 (.iaload) 1 168 := ⟨by decide +kernel, rfl⟩
theorem d_R_receive_168 : dc cd_R_receive 168 (.aload_n 0) 1 169 := ⟨by decide +kernel, rfl⟩
theorem d_R_receive_169 : dc cd_R_receive 169 (.getfield 65) 3 172 := ⟨by decide +kernel, rfl⟩
theorem d_R_receive_172 : dc cd_R_receive 172 (.iload_n 1) 1 173 := ⟨by decide +kernel, rfl⟩
theorem d_R_receive_173 : dc cd_R_receive 173 (.iaload) 1 174 := ⟨by decide +kernel, rfl⟩
theorem d_R_receive_174 : dc cd_R_receive 174 (.aload_n 0) 1 175 := ⟨by decide +kernel, rfl⟩
theorem d_R_receive_175 : dc cd_R_receive 175 (.getfield 62) 3 178 := ⟨by decide +kernel, rfl⟩
theorem d_R_receive_178 : dc cd_R_receive 178 (.iload_n 1) 1 179 := ⟨by decide +kernel, rfl⟩
theorem d_R_receive_179 : dc cd_R_receive 179 (.iaload) 1 180 := ⟨by decide +kernel, rfl⟩
theorem d_R_receive_180 : dc cd_R_receive 180 (.invokevirtual 148) 3 183 := ⟨by decide +kernel, rfl⟩
theorem d_R_receive_183 : dc cd_R_receive 183 (.aload_n 0) 1 184 := ⟨by decide +kernel, rfl⟩
theorem d_R_receive_184 : dc cd_R_receive 184 (.getfield 86) 3 187 := ⟨by decide +kernel, rfl⟩
theorem d_R_receive_187 : dc cd_R_receive 187 (.iload_n 1) 1 188 := ⟨by decide +kernel, rfl⟩
theorem d_R_receive_188 : dc cd_R_receive 188 (.iload 6) 2 190 := ⟨by decide +kernel, rfl⟩
theorem d_R_receive_190 : dc cd_R_receive 190 (.ifCond .eq 7) 3 193 := ⟨by decide +kernel, rfl⟩
theorem d_R_receive_193 : dc cd_R_receive 193 (.iconst 1) 1 194 := ⟨by decide +kernel, rfl⟩
theorem d_R_receive_194 : dc cd_R_receive 194 (.goto 4) 3 197 := ⟨by decide +kernel, rfl⟩
theorem d_R_receive_197 : dc cd_R_receive 197 (.iconst 2) 1 198 := ⟨by decide +kernel, rfl⟩
theorem d_R_receive_198 : dc cd_R_receive 198 (.iastore) 1 199 := ⟨by decide +kernel, rfl⟩
theorem d_R_receive_199 : dc cd_R_receive 199 (.aload_n 0) 1 200 := ⟨by decide +kernel, rfl⟩
theorem d_R_receive_200 : dc cd_R_receive 200 (.getfield 89) 3 203 := ⟨by decide +kernel, rfl⟩
theorem d_R_receive_203 : dc cd_R_receive 203 (.iload_n 1) 1 204 := ⟨by decide +kernel, rfl⟩
theorem d_R_receive_204 : dc cd_R_receive 204 (.aload_n 0) 1 205 := ⟨by decide +kernel, rfl⟩
theorem d_R_receive_205 : dc cd_R_receive 205 (.getfield 7) 3 208 := ⟨by decide +kernel, rfl⟩
theorem d_R_receive_208 : dc cd_R_receive 208 (.iload_n 3) 1 209 := ⟨by decide +kernel, rfl⟩
theorem d_R_receive_209 : dc cd_R_receive 209 (.iaload) 1 210 := ⟨by decide +kernel, rfl⟩
theorem d_R_receive_210 : dc cd_R_receive 210 (.iconst 1) 1 211 := ⟨by decide +kernel, rfl⟩
theorem d_R_receive_211 : dc cd_R_receive 211 (.iadd) 1 212 := ⟨by decide +kernel, rfl⟩
theorem d_R_receive_212 : dc cd_R_receive 212 (.iastore) 1 213 := ⟨by decide +kernel, rfl⟩
theorem d_R_receive_213 : dc cd_R_receive 213 (.aload_n 0) 1 214 := ⟨by decide +kernel, rfl⟩
theorem d_R_receive_214 : dc cd_R_receive 214 (.getfield 41) 3 217 := ⟨by decide +kernel, rfl⟩
theorem d_R_receive_217 : dc cd_R_receive 217 (.iload 4) 2 219 := ⟨by decide +kernel, rfl⟩
theorem d_R_receive_219 : dc cd_R_receive 219 (.dup2) 1 220 := ⟨by decide +kernel, rfl⟩
theorem d_R_receive_220 : dc cd_R_receive 220 (.iaload) 1 221 := ⟨by decide +kernel, rfl⟩
theorem d_R_receive_221 : dc cd_R_receive 221 (.iconst 1) 1 222 := ⟨by decide +kernel, rfl⟩
theorem d_R_receive_222 : dc cd_R_receive 222 (.iadd) 1 223 := ⟨by decide +kernel, rfl⟩
theorem d_R_receive_223 : dc cd_R_receive 223 (.iastore) 1 224 := ⟨by decide +kernel, rfl⟩
theorem d_R_receive_224 : dc cd_R_receive 224 (.iload 6) 2 226 := ⟨by decide +kernel, rfl⟩
theorem d_R_receive_226 : dc cd_R_receive 226 (.ifCond .eq 7) 3 229 := ⟨by decide +kernel, rfl⟩
theorem d_R_receive_229 : dc cd_R_receive 229 (.iconst 1) 1 230 := ⟨by decide +kernel, rfl⟩
theorem d_R_receive_230 : dc cd_R_receive 230 (.goto 4) 3 233 := ⟨by decide +kernel, rfl⟩
theorem d_R_receive_233 : dc cd_R_receive 233 (.iconst 0) 1 234 := ⟨by decide +kernel, rfl⟩
theorem d_R_receive_234 : dc cd_R_receive 234 (.ireturn) 1 235 := ⟨by decide +kernel, rfl⟩
theorem d_R_finish_0 : dc cd_R_finish 0 (.aload_n 0) 1 1 := ⟨by decide +kernel, rfl⟩
theorem d_R_finish_1 : dc cd_R_finish 1 (.getfield 56) 3 4 := ⟨by decide +kernel, rfl⟩
theorem d_R_finish_4 : dc cd_R_finish 4 (.iload_n 1) 1 5 := ⟨by decide +kernel, rfl⟩
theorem d_R_finish_5 : dc cd_R_finish 5 (.iaload) 1 6 := ⟨by decide +kernel, rfl⟩
theorem d_R_finish_6 : dc cd_R_finish 6 (.istore_n 3) 1 7 := ⟨by decide +kernel, rfl⟩
theorem d_R_finish_7 : dc cd_R_finish 7 (.aload_n 0) 1 8 := ⟨by decide +kernel, rfl⟩
theorem d_R_finish_8 : dc cd_R_finish 8 (.getfield 77) 3 11 := ⟨by decide +kernel, rfl⟩
theorem d_R_finish_11 : dc cd_R_finish 11 (.iload_n 1) 1 12 := ⟨by decide +kernel, rfl⟩
theorem d_R_finish_12 : dc cd_R_finish 12 (.iconst 0) 1 13 := ⟨by decide +kernel, rfl⟩
theorem d_R_finish_13 : dc cd_R_finish 13 (.bastore) 1 14 := ⟨by decide +kernel, rfl⟩
theorem d_R_finish_14 : dc cd_R_finish 14 (.aload_n 0) 1 15 := ⟨by decide +kernel, rfl⟩
theorem d_R_finish_15 : dc cd_R_finish 15 (.getfield 83) 3 18 := ⟨by decide +kernel, rfl⟩
theorem d_R_finish_18 : dc cd_R_finish 18 (.iload_n 1) 1 19 := ⟨by decide +kernel, rfl⟩
theorem d_R_finish_19 : dc cd_R_finish 19 (.aload_n 0) 1 20 := ⟨by decide +kernel, rfl⟩
theorem d_R_finish_20 : dc cd_R_finish 20 (.getfield 7) 3 23 := ⟨by decide +kernel, rfl⟩
theorem d_R_finish_23 : dc cd_R_finish 23 (.iload_n 3) 1 24 := ⟨by decide +kernel, rfl⟩
theorem d_R_finish_24 : dc cd_R_finish 24 (.iaload) 1 25 := ⟨by decide +kernel, rfl⟩
theorem d_R_finish_25 : dc cd_R_finish 25 (.iconst 1) 1 26 := ⟨by decide +kernel, rfl⟩
theorem d_R_finish_26 : dc cd_R_finish 26 (.iadd) 1 27 := ⟨by decide +kernel, rfl⟩
theorem d_R_finish_27 : dc cd_R_finish 27 (.iastore) 1 28 := ⟨by decide +kernel, rfl⟩
theorem d_R_finish_28 : dc cd_R_finish 28 (.iload_n 2) 1 29 := ⟨by decide +kernel, rfl⟩
theorem d_R_finish_29 : dc cd_R_finish 29 (.ifCond .eq 42) 3 32 := ⟨by decide +kernel, rfl⟩
theorem d_R_finish_32 : dc cd_R_finish 32 (.aload_n 0) 1 33 := ⟨by decide +kernel, rfl⟩
theorem d_R_finish_33 : dc cd_R_finish 33 (.iconst 2) 1 34 := ⟨by decide +kernel, rfl⟩
theorem d_R_finish_34 : dc cd_R_finish 34 (.aload_n 0) 1 35 := ⟨by decide +kernel, rfl⟩
theorem d_R_finish_35 : dc cd_R_finish 35 (.getfield 53) 3 38 := ⟨by decide +kernel, rfl⟩
theorem d_R_finish_38 : dc cd_R_finish 38 (.iload_n 1) 1 39 := ⟨by decide +kernel, rfl⟩
theorem d_R_finish_39 : dc cd_R_finish 39 (.iaload) 1 40 := ⟨by decide +kernel, rfl⟩
theorem d_R_finish_40 : dc cd_R_finish 40 (.imul) 1 41 := ⟨by decide +kernel, rfl⟩
theorem d_R_finish_41 : dc cd_R_finish 41 (.iload_n 3) 1 42 := ⟨by decide +kernel, rfl⟩
theorem d_R_finish_42 : dc cd_R_finish 42 (.iadd) 1 43 := ⟨by decide +kernel, rfl⟩
theorem d_R_finish_43 : dc cd_R_finish 43 (.aload_n 0) 1 44 := ⟨by decide +kernel, rfl⟩
theorem d_R_finish_44 : dc cd_R_finish 44 (.getfield 68) 3 47 := ⟨by decide +kernel, rfl⟩
theorem d_R_finish_47 : dc cd_R_finish 47 (.iload_n 1) 1 48 := ⟨by decide +kernel, rfl⟩
theorem d_R_finish_48 : dc cd_R_finish 48 (.iaload) 1 49 := ⟨by decide +kernel, rfl⟩
theorem d_R_finish_49 : dc cd_R_finish 49 (.aload_n 0) 1 50 := ⟨by decide +kernel, rfl⟩
theorem d_R_finish_50 : dc cd_R_finish 50 (.getfield 65) 3 53 := ⟨by decide +kernel, rfl⟩
theorem d_R_finish_53 : dc cd_R_finish 53 (.iload_n 1) 1 54 := ⟨by decide +kernel, rfl⟩
theorem d_R_finish_54 : dc cd_R_finish 54 (.iaload) 1 55 := ⟨by decide +kernel, rfl⟩
theorem d_R_finish_55 : dc cd_R_finish 55 (.aload_n 0) 1 56 := ⟨by decide +kernel, rfl⟩
theorem d_R_finish_56 : dc cd_R_finish 56 (.getfield 62) 3 59 := ⟨by decide +kernel, rfl⟩
theorem d_R_finish_59 : dc cd_R_finish 59 (.iload_n 1) 1 60 := ⟨by decide +kernel, rfl⟩
theorem d_R_finish_60 : dc cd_R_finish 60 (.iaload) 1 61 := ⟨by decide +kernel, rfl⟩
theorem d_R_finish_61 : dc cd_R_finish 61 (.invokevirtual 148) 3 64 := ⟨by decide +kernel, rfl⟩
theorem d_R_finish_64 : dc cd_R_finish 64 (.aload_n 0) 1 65 := ⟨by decide +kernel, rfl⟩
theorem d_R_finish_65 : dc cd_R_finish 65 (.getfield 92) 3 68 := ⟨by decide +kernel, rfl⟩
theorem d_R_finish_68 : dc cd_R_finish 68 (.iload_n 1) 1 69 := ⟨by decide +kernel, rfl⟩
theorem d_R_finish_69 : dc cd_R_finish 69 (.iconst 1) 1 70 := ⟨by decide +kernel, rfl⟩
theorem d_R_finish_70 : dc cd_R_finish 70 (.bastore) 1 71 := ⟨by decide +kernel, rfl⟩
theorem d_R_finish_71 : dc cd_R_finish 71 (.return_) 1 72 := ⟨by decide +kernel, rfl⟩
theorem d_R_acknowledge_0 : dc cd_R_acknowledge 0 (.aload_n 0) 1 1 := ⟨by decide +kernel, rfl⟩
theorem d_R_acknowledge_1 : dc cd_R_acknowledge 1 (.iload_n 1) 1 2 := ⟨by decide +kernel, rfl⟩
theorem d_R_acknowledge_2 : dc cd_R_acknowledge 2 (.invokevirtual 152) 3 5 := ⟨by decide +kernel, rfl⟩
theorem d_R_acknowledge_5 : dc cd_R_acknowledge 5 (.ifCond .eq 5) 3 8 := ⟨by decide +kernel, rfl⟩
theorem d_R_acknowledge_8 : dc cd_R_acknowledge 8 (.iconst (-1)) 1 9 := ⟨by decide +kernel, rfl⟩
theorem d_R_acknowledge_9 : dc cd_R_acknowledge 9 (.ireturn) 1 10 := ⟨by decide +kernel, rfl⟩
theorem d_R_acknowledge_10 : dc cd_R_acknowledge 10 (.aload_n 0) 1 11 := ⟨by decide +kernel, rfl⟩
theorem d_R_acknowledge_11 : dc cd_R_acknowledge 11 (.getfield 77) 3 14 := ⟨by decide +kernel, rfl⟩
theorem d_R_acknowledge_14 : dc cd_R_acknowledge 14 (.iload_n 1) 1 15 := ⟨by decide +kernel, rfl⟩
theorem d_R_acknowledge_15 : dc cd_R_acknowledge 15 (.baload) 1 16 := ⟨by decide +kernel, rfl⟩
theorem d_R_acknowledge_16 : dc cd_R_acknowledge 16 (.ifCond .ne 6) 3 19 := ⟨by decide +kernel, rfl⟩
theorem d_R_acknowledge_19 : dc cd_R_acknowledge 19 (.bipush (-3)) 2 21 := ⟨by decide +kernel, rfl⟩
theorem d_R_acknowledge_21 : dc cd_R_acknowledge 21 (.ireturn) 1 22 := ⟨by decide +kernel, rfl⟩
theorem d_R_acknowledge_22 : dc cd_R_acknowledge 22 (.aload_n 0) 1 23 := ⟨by decide +kernel, rfl⟩
theorem d_R_acknowledge_23 : dc cd_R_acknowledge 23 (.aload_n 0) 1 24 := ⟨by decide +kernel, rfl⟩
theorem d_R_acknowledge_24 : dc cd_R_acknowledge 24 (.getfield 56) 3 27 := ⟨by decide +kernel, rfl⟩
theorem d_R_acknowledge_27 : dc cd_R_acknowledge 27 (.iload_n 1) 1 28 := ⟨by decide +kernel, rfl⟩
theorem d_R_acknowledge_28 : dc cd_R_acknowledge 28 (.iaload) 1 29 := ⟨by decide +kernel, rfl⟩
theorem d_R_acknowledge_29 : dc cd_R_acknowledge 29 (.iload_n 2) 1 30 := ⟨by decide +kernel, rfl⟩
theorem d_R_acknowledge_30 : dc cd_R_acknowledge 30 (.invokevirtual 128) 3 33 := ⟨by decide +kernel, rfl⟩
theorem d_R_acknowledge_33 : dc cd_R_acknowledge 33 (.istore_n 3) 1 34 := ⟨by decide +kernel, rfl⟩
theorem d_R_acknowledge_34 : dc cd_R_acknowledge 34 (.iload_n 3) 1 35 := ⟨by decide +kernel, rfl⟩
theorem d_R_acknowledge_35 : dc cd_R_acknowledge 35 (.ifCond .eq 5) 3 38 := ⟨by decide +kernel, rfl⟩
theorem d_R_acknowledge_38 : dc cd_R_acknowledge 38 (.iload_n 3) 1 39 := ⟨by decide +kernel, rfl⟩
theorem d_R_acknowledge_39 : dc cd_R_acknowledge 39 (.ireturn) 1 40 := ⟨by decide +kernel, rfl⟩
theorem d_R_acknowledge_40 : dc cd_R_acknowledge 40 (.iload_n 2) 1 41 := ⟨by decide +kernel, rfl⟩
theorem d_R_acknowledge_41 : dc cd_R_acknowledge 41 (.aload_n 0) 1 42 := ⟨by decide +kernel, rfl⟩
theorem d_R_acknowledge_42 : dc cd_R_acknowledge 42 (.getfield 89) 3 45 := ⟨by decide +kernel, rfl⟩
theorem d_R_acknowledge_45 : dc cd_R_acknowledge 45 (.iload_n 1) 1 46 := ⟨by decide +kernel, rfl⟩
theorem d_R_acknowledge_46 : dc cd_R_acknowledge 46 (.iaload) 1 47 := ⟨by decide +kernel, rfl⟩
theorem d_R_acknowledge_47 : dc cd_R_acknowledge 47 (.if_icmp .ge 6) 3 50 := ⟨by decide +kernel, rfl⟩
theorem d_R_acknowledge_50 : dc cd_R_acknowledge 50 (.bipush (-6)) 2 52 := ⟨by decide +kernel, rfl⟩
theorem d_R_acknowledge_52 : dc cd_R_acknowledge 52 (.ireturn) 1 53 := ⟨by decide +kernel, rfl⟩
theorem d_R_acknowledge_53 : dc cd_R_acknowledge 53 (.aload_n 0) 1 54 := ⟨by decide +kernel, rfl⟩
theorem d_R_acknowledge_54 : dc cd_R_acknowledge 54 (.getfield 23) 3 57 := ⟨by decide +kernel, rfl⟩
theorem d_R_acknowledge_57 : dc cd_R_acknowledge 57 (.aload_n 0) 1 58 := ⟨by decide +kernel, rfl⟩
theorem d_R_acknowledge_58 : dc cd_R_acknowledge 58 (.getfield 53) 3 61 := ⟨by decide +kernel, rfl⟩
theorem d_R_acknowledge_61 : dc cd_R_acknowledge 61 (.iload_n 1) 1 62 := ⟨by decide +kernel, rfl⟩
theorem d_R_acknowledge_62 : dc cd_R_acknowledge 62 (.iaload) 1 63 := ⟨by decide +kernel, rfl⟩
theorem d_R_acknowledge_63 : dc cd_R_acknowledge 63 (.baload) 1 64 := ⟨by decide +kernel, rfl⟩
theorem d_R_acknowledge_64 : dc cd_R_acknowledge 64 (.ifCond .eq 15) 3 67 := ⟨by decide +kernel, rfl⟩
theorem d_R_acknowledge_67 : dc cd_R_acknowledge 67 (.aload_n 0) 1 68 := ⟨by decide +kernel, rfl⟩
theorem d_R_acknowledge_68 : dc cd_R_acknowledge 68 (.iload_n 1) 1 69 := ⟨by decide +kernel, rfl⟩
theorem d_R_acknowledge_69 : dc cd_R_acknowledge 69 (.iconst 1) 1 70 := ⟨by decide +kernel, rfl⟩
theorem d_R_acknowledge_70 : dc cd_R_acknowledge 70 (.invokevirtual 155) 3 73 := ⟨by decide +kernel, rfl⟩
theorem d_R_acknowledge_73 : dc cd_R_acknowledge 73 (.ifCond .eq 6) 3 76 := ⟨by decide +kernel, rfl⟩
theorem d_R_acknowledge_76 : dc cd_R_acknowledge 76 (.bipush (-8)) 2 78 := ⟨by decide +kernel, rfl⟩
theorem d_R_acknowledge_78 : dc cd_R_acknowledge 78 (.ireturn) 1 79 := ⟨by decide +kernel, rfl⟩
theorem d_R_acknowledge_79 : dc cd_R_acknowledge 79 (.aload_n 0) 1 80 := ⟨by decide +kernel, rfl⟩
theorem d_R_acknowledge_80 : dc cd_R_acknowledge 80 (.iload_n 1) 1 81 := ⟨by decide +kernel, rfl⟩
theorem d_R_acknowledge_81 : dc cd_R_acknowledge 81 (.aload_n 0) 1 82 := ⟨by decide +kernel, rfl⟩
theorem d_R_acknowledge_82 : dc cd_R_acknowledge 82 (.getfield 86) 3 85 := ⟨by decide +kernel, rfl⟩
theorem d_R_acknowledge_85 : dc cd_R_acknowledge 85 (.iload_n 1) 1 86 := ⟨by decide +kernel, rfl⟩
theorem d_R_acknowledge_86 : dc cd_R_acknowledge 86 (.iaload) 1 87 := ⟨by decide +kernel, rfl⟩
theorem d_R_acknowledge_87 : dc cd_R_acknowledge 87 (.iconst 2) 1 88 := ⟨by decide +kernel, rfl⟩
theorem d_R_acknowledge_88 : dc cd_R_acknowledge 88 (.if_icmp .ne 7) 3 91 := ⟨by decide +kernel, rfl⟩
theorem d_R_acknowledge_91 : dc cd_R_acknowledge 91 (.iconst 1) 1 92 := ⟨by decide +kernel, rfl⟩
theorem d_R_acknowledge_92 : dc cd_R_acknowledge 92 (.goto 4) 3 95 := ⟨by decide +kernel, rfl⟩
theorem d_R_acknowledge_95 : dc cd_R_acknowledge 95 (.iconst 0) 1 96 := ⟨by decide +kernel, rfl⟩
theorem d_R_acknowledge_96 : dc cd_R_acknowledge 96 (.invokevirtual 159) 3 99 := ⟨by decide +kernel, rfl⟩
theorem d_R_acknowledge_99 : dc cd_R_acknowledge 99 (.aload_n 0) 1 100 := ⟨by decide +kernel, rfl⟩
theorem d_R_acknowledge_100 : dc cd_R_acknowledge 100 (.getfield 86) 3 103 := ⟨by decide +kernel, rfl⟩
theorem d_R_acknowledge_103 : dc cd_R_acknowledge 103 (.iload_n 1) 1 104 := ⟨by decide +kernel, rfl⟩
theorem d_R_acknowledge_104 : dc cd_R_acknowledge 104 (.iaload) 1 105 := ⟨by decide +kernel, rfl⟩
theorem d_R_acknowledge_105 : dc cd_R_acknowledge 105 (.iconst 1) 1 106 := ⟨by decide +kernel, rfl⟩
theorem d_R_acknowledge_106 : dc cd_R_acknowledge 106 (.if_icmp .ne 7) 3 109 := ⟨by decide +kernel, rfl⟩
theorem d_R_acknowledge_109 : dc cd_R_acknowledge 109 (.iconst 1) 1 110 := ⟨by decide +kernel, rfl⟩
theorem d_R_acknowledge_110 : dc cd_R_acknowledge 110 (.goto 4) 3 113 := ⟨by decide +kernel, rfl⟩
theorem d_R_acknowledge_113 : dc cd_R_acknowledge 113 (.iconst 0) 1 114 := ⟨by decide +kernel, rfl⟩
theorem d_R_acknowledge_114 : dc cd_R_acknowledge 114 (.ireturn) 1 115 := ⟨by decide +kernel, rfl⟩
theorem d_R_timeout_0 : dc cd_R_timeout 0 (.aload_n 0) 1 1 := ⟨by decide +kernel, rfl⟩
theorem d_R_timeout_1 : dc cd_R_timeout 1 (.iload_n 1) 1 2 := ⟨by decide +kernel, rfl⟩
theorem d_R_timeout_2 : dc cd_R_timeout 2 (.invokevirtual 152) 3 5 := ⟨by decide +kernel, rfl⟩
theorem d_R_timeout_5 : dc cd_R_timeout 5 (.ifCond .eq 5) 3 8 := ⟨by decide +kernel, rfl⟩
theorem d_R_timeout_8 : dc cd_R_timeout 8 (.iconst (-1)) 1 9 := ⟨by decide +kernel, rfl⟩
theorem d_R_timeout_9 : dc cd_R_timeout 9 (.ireturn) 1 10 := ⟨by decide +kernel, rfl⟩
theorem d_R_timeout_10 : dc cd_R_timeout 10 (.aload_n 0) 1 11 := ⟨by decide +kernel, rfl⟩
theorem d_R_timeout_11 : dc cd_R_timeout 11 (.getfield 77) 3 14 := ⟨by decide +kernel, rfl⟩
theorem d_R_timeout_14 : dc cd_R_timeout 14 (.iload_n 1) 1 15 := ⟨by decide +kernel, rfl⟩
theorem d_R_timeout_15 : dc cd_R_timeout 15 (.baload) 1 16 := ⟨by decide +kernel, rfl⟩
theorem d_R_timeout_16 : dc cd_R_timeout 16 (.ifCond .ne 6) 3 19 := ⟨by decide +kernel, rfl⟩
theorem d_R_timeout_19 : dc cd_R_timeout 19 (.bipush (-3)) 2 21 := ⟨by decide +kernel, rfl⟩
theorem d_R_timeout_21 : dc cd_R_timeout 21 (.ireturn) 1 22 := ⟨by decide +kernel, rfl⟩
theorem d_R_timeout_22 : dc cd_R_timeout 22 (.aload_n 0) 1 23 := ⟨by decide +kernel, rfl⟩
theorem d_R_timeout_23 : dc cd_R_timeout 23 (.aload_n 0) 1 24 := ⟨by decide +kernel, rfl⟩
theorem d_R_timeout_24 : dc cd_R_timeout 24 (.getfield 56) 3 27 := ⟨by decide +kernel, rfl⟩
theorem d_R_timeout_27 : dc cd_R_timeout 27 (.iload_n 1) 1 28 := ⟨by decide +kernel, rfl⟩
theorem d_R_timeout_28 : dc cd_R_timeout 28 (.iaload) 1 29 := ⟨by decide +kernel, rfl⟩
theorem d_R_timeout_29 : dc cd_R_timeout 29 (.iload_n 2) 1 30 := ⟨by decide +kernel, rfl⟩
theorem d_R_timeout_30 : dc cd_R_timeout 30 (.invokevirtual 128) 3 33 := ⟨by decide +kernel, rfl⟩
theorem d_R_timeout_33 : dc cd_R_timeout 33 (.istore_n 3) 1 34 := ⟨by decide +kernel, rfl⟩
theorem d_R_timeout_34 : dc cd_R_timeout 34 (.iload_n 3) 1 35 := ⟨by decide +kernel, rfl⟩
theorem d_R_timeout_35 : dc cd_R_timeout 35 (.ifCond .eq 5) 3 38 := ⟨by decide +kernel, rfl⟩
theorem d_R_timeout_38 : dc cd_R_timeout 38 (.iload_n 3) 1 39 := ⟨by decide +kernel, rfl⟩
theorem d_R_timeout_39 : dc cd_R_timeout 39 (.ireturn) 1 40 := ⟨by decide +kernel, rfl⟩
theorem d_R_timeout_40 : dc cd_R_timeout 40 (.iload_n 2) 1 41 := ⟨by decide +kernel, rfl⟩
theorem d_R_timeout_41 : dc cd_R_timeout 41 (.aload_n 0) 1 42 := ⟨by decide +kernel, rfl⟩
theorem d_R_timeout_42 : dc cd_R_timeout 42 (.getfield 89) 3 45 := ⟨by decide +kernel, rfl⟩
theorem d_R_timeout_45 : dc cd_R_timeout 45 (.iload_n 1) 1 46 := ⟨by decide +kernel, rfl⟩
theorem d_R_timeout_46 : dc cd_R_timeout 46 (.iaload) 1 47 := ⟨by decide +kernel, rfl⟩
theorem d_R_timeout_47 : dc cd_R_timeout 47 (.if_icmp .lt 6) 3 50 := ⟨by decide +kernel, rfl⟩
theorem d_R_timeout_50 : dc cd_R_timeout 50 (.bipush (-6)) 2 52 := ⟨by decide +kernel, rfl⟩
theorem d_R_timeout_52 : dc cd_R_timeout 52 (.ireturn) 1 53 := ⟨by decide +kernel, rfl⟩
theorem d_R_timeout_53 : dc cd_R_timeout 53 (.iload_n 2) 1 54 := ⟨by decide +kernel, rfl⟩
theorem d_R_timeout_54 : dc cd_R_timeout 54 (.aload_n 0) 1 55 := ⟨by decide +kernel, rfl⟩
theorem d_R_timeout_55 : dc cd_R_timeout 55 (.getfield 74) 3 58 := ⟨by decide +kernel, rfl⟩
theorem d_R_timeout_58 : dc cd_R_timeout 58 (.iload_n 1) 1 59 := ⟨by decide +kernel, rfl⟩
theorem d_R_timeout_59 : dc cd_R_timeout 59 (.iaload) 1 60 := ⟨by decide +kernel, rfl⟩
theorem d_R_timeout_60 : dc cd_R_timeout 60 (.if_icmp .ge 6) 3 63 := ⟨by decide +kernel, rfl⟩
theorem d_R_timeout_63 : dc cd_R_timeout 63 (.bipush (-7)) 2 65 := ⟨by decide +kernel, rfl⟩
theorem d_R_timeout_65 : dc cd_R_timeout 65 (.ireturn) 1 66 := ⟨by decide +kernel, rfl⟩
theorem d_R_timeout_66 : dc cd_R_timeout 66 (.aload_n 0) 1 67 := ⟨by decide +kernel, rfl⟩
theorem d_R_timeout_67 : dc cd_R_timeout 67 (.iload_n 1) 1 68 := ⟨by decide +kernel, rfl⟩
theorem d_R_timeout_68 : dc cd_R_timeout 68 (.iconst 1) 1 69 := ⟨by decide +kernel, rfl⟩
theorem d_R_timeout_69 : dc cd_R_timeout 69 (.invokevirtual 159) 3 72 := ⟨by decide +kernel, rfl⟩
theorem d_R_timeout_72 : dc cd_R_timeout 72 (.iconst 2) 1 73 := ⟨by decide +kernel, rfl⟩
theorem d_R_timeout_73 : dc cd_R_timeout 73 (.aload_n 0) 1 74 := ⟨by decide +kernel, rfl⟩
theorem d_R_timeout_74 : dc cd_R_timeout 74 (.getfield 53) 3 77 := ⟨by decide +kernel, rfl⟩
theorem d_R_timeout_77 : dc cd_R_timeout 77 (.iload_n 1) 1 78 := ⟨by decide +kernel, rfl⟩
theorem d_R_timeout_78 : dc cd_R_timeout 78 (.iaload) 1 79 := ⟨by decide +kernel, rfl⟩
theorem d_R_timeout_79 : dc cd_R_timeout 79 (.imul) 1 80 := ⟨by decide +kernel, rfl⟩
theorem d_R_timeout_80 : dc cd_R_timeout 80 (.aload_n 0) 1 81 := ⟨by decide +kernel, rfl⟩
theorem d_R_timeout_81 : dc cd_R_timeout 81 (.getfield 56) 3 84 := ⟨by decide +kernel, rfl⟩
theorem d_R_timeout_84 : dc cd_R_timeout 84 (.iload_n 1) 1 85 := ⟨by decide +kernel, rfl⟩
theorem d_R_timeout_85 : dc cd_R_timeout 85 (.iaload) 1 86 := ⟨by decide +kernel, rfl⟩
theorem d_R_timeout_86 : dc cd_R_timeout 86 (.iadd) 1 87 := ⟨by decide +kernel, rfl⟩
theorem d_R_timeout_87 : dc cd_R_timeout 87 (.istore 4) 2 89 := ⟨by decide +kernel, rfl⟩
theorem d_R_timeout_89 : dc cd_R_timeout 89 (.aload_n 0) 1 90 := ⟨by decide +kernel, rfl⟩
theorem d_R_timeout_90 : dc cd_R_timeout 90 (.getfield 26) 3 93 := ⟨by decide +kernel, rfl⟩
theorem d_R_timeout_93 : dc cd_R_timeout 93 (.iload 4) 2 95 := ⟨by decide +kernel, rfl⟩
theorem d_R_timeout_95 : dc cd_R_timeout 95 (.aload_n 0) 1 96 := ⟨by decide +kernel, rfl⟩
theorem d_R_timeout_96 : dc cd_R_timeout 96 (.getfield 23) 3 99 := ⟨by decide +kernel, rfl⟩
theorem d_R_timeout_99 : dc cd_R_timeout 99 (.aload_n 0) 1 100 := ⟨by decide +kernel, rfl⟩
theorem d_R_timeout_100 : dc cd_R_timeout 100 (.getfield 53) 3 103 := ⟨by decide +kernel, rfl⟩
theorem d_R_timeout_103 : dc cd_R_timeout 103 (.iload_n 1) 1 104 := ⟨by decide +kernel, rfl⟩
theorem d_R_timeout_104 : dc cd_R_timeout 104 (.iaload) 1 105 := ⟨by decide +kernel, rfl⟩
theorem d_R_timeout_105 : dc cd_R_timeout 105 (.baload) 1 106 := ⟨by decide +kernel, rfl⟩
theorem d_R_timeout_106 : dc cd_R_timeout 106 (.ifCond .eq 18) 3 109 := ⟨by decide +kernel, rfl⟩
theorem d_R_timeout_109 : dc cd_R_timeout 109 (.aload_n 0) 1 110 := ⟨by decide +kernel, rfl⟩
theorem d_R_timeout_110 : dc cd_R_timeout 110 (.getfield 26) 3 113 := ⟨by decide +kernel, rfl⟩
theorem d_R_timeout_113 : dc cd_R_timeout 113 (.iload 4) 2 115 := ⟨by decide +kernel, rfl⟩
theorem d_R_timeout_115 : dc cd_R_timeout 115 (.iaload) 1 116 := ⟨by decide +kernel, rfl⟩
theorem d_R_timeout_116 : dc cd_R_timeout 116 (.iconst 3) 1 117 := ⟨by decide +kernel, rfl⟩
theorem d_R_timeout_117 : dc cd_R_timeout 117 (.if_icmp .ne 7) 3 120 := ⟨by decide +kernel, rfl⟩
theorem d_R_timeout_120 : dc cd_R_timeout 120 (.iconst 4) 1 121 := ⟨by decide +kernel, rfl⟩
theorem d_R_timeout_121 : dc cd_R_timeout 121 (.goto 10) 3 124 := ⟨by decide +kernel, rfl⟩
theorem d_R_timeout_124 : dc cd_R_timeout 124 (.aload_n 0) 1 125 := ⟨by decide +kernel, rfl⟩
theorem d_R_timeout_125 : dc cd_R_timeout 125 (.getfield 26) 3 128 := ⟨by decide +kernel, rfl⟩
theorem d_R_timeout_128 : dc cd_R_timeout 128 (.iload 4) 2 130 := ⟨by decide +kernel, rfl⟩
theorem d_R_timeout_130 : dc cd_R_timeout 130 (.iaload) 1 131 := ⟨by decide +kernel, rfl⟩
theorem d_R_timeout_131 : dc cd_R_timeout 131 (.iastore) 1 132 := ⟨by decide +kernel, rfl⟩
theorem d_R_timeout_132 : dc cd_R_timeout 132 (.aload_n 0) 1 133 := ⟨by decide +kernel, rfl⟩
theorem d_R_timeout_133 : dc cd_R_timeout 133 (.getfield 62) 3 136 := ⟨by decide +kernel, rfl⟩
theorem d_R_timeout_136 : dc cd_R_timeout 136 (.iload_n 1) 1 137 := ⟨by decide +kernel, rfl⟩
theorem d_R_timeout_137 : dc cd_R_timeout 137 (.iaload) 1 138 := ⟨by decide +kernel, rfl⟩
theorem d_R_timeout_138 : dc cd_R_timeout 138 (.ireturn) 1 139 := ⟨by decide +kernel, rfl⟩
theorem d_R_end_0 : dc cd_R_end 0 (.aload_n 0) 1 1 := ⟨by decide +kernel, rfl⟩
theorem d_R_end_1 : dc cd_R_end 1 (.iload_n 1) 1 2 := ⟨by decide +kernel, rfl⟩
theorem d_R_end_2 : dc cd_R_end 2 (.invokevirtual 135) 3 5 := ⟨by decide +kernel, rfl⟩
theorem d_R_end_5 : dc cd_R_end 5 (.ifCond .ne 10) 3 8 := ⟨by decide +kernel, rfl⟩
theorem d_R_end_8 : dc cd_R_end 8 (.iload_n 2) 1 9 := ⟨by decide +kernel, rfl⟩
theorem d_R_end_9 : dc cd_R_end 9 (.invokestatic 109) 3 12 := ⟨by decide +kernel, rfl⟩
theorem d_R_end_12 : dc cd_R_end 12 (.ifCond .eq 5) 3 15 := ⟨by decide +kernel, rfl⟩
theorem d_R_end_15 : dc cd_R_end 15 (.iconst (-1)) 1 16 := ⟨by decide +kernel, rfl⟩
theorem d_R_end_16 : dc cd_R_end 16 (.ireturn) 1 17 := ⟨by decide +kernel, rfl⟩
theorem d_R_end_17 : dc cd_R_end 17 (.iconst 2) 1 18 := ⟨by decide +kernel, rfl⟩
theorem d_R_end_18 : dc cd_R_end 18 (.iload_n 1) 1 19 := ⟨by decide +kernel, rfl⟩
theorem d_R_end_19 : dc cd_R_end 19 (.imul) 1 20 := ⟨by decide +kernel, rfl⟩
theorem d_R_end_20 : dc cd_R_end 20 (.iload_n 2) 1 21 := ⟨by decide +kernel, rfl⟩
theorem d_R_end_21 : dc cd_R_end 21 (.iadd) 1 22 := ⟨by decide +kernel, rfl⟩
theorem d_R_end_22 : dc cd_R_end 22 (.istore 4) 2 24 := ⟨by decide +kernel, rfl⟩
theorem d_R_end_24 : dc cd_R_end 24 (.iload_n 3) 1 25 := ⟨by decide +kernel, rfl⟩
theorem d_R_end_25 : dc cd_R_end 25 (.tableswitch 106 0 6 #[43, 51, 59, 67, 75, 83, 91]) 43 68 := ⟨by decide +kernel, rfl⟩
theorem d_R_end_68 : dc cd_R_end 68 (.aload_n 0) 1 69 := ⟨by decide +kernel, rfl⟩
theorem d_R_end_69 : dc cd_R_end 69 (.getfield 26) 3 72 := ⟨by decide +kernel, rfl⟩
theorem d_R_end_72 : dc cd_R_end 72 (.iload 4) 2 74 := ⟨by decide +kernel, rfl⟩
theorem d_R_end_74 : dc cd_R_end 74 (.iaload) 1 75 := ⟨by decide +kernel, rfl⟩
theorem d_R_end_75 : dc cd_R_end 75 (.ireturn) 1 76 := ⟨by decide +kernel, rfl⟩
theorem d_R_end_76 : dc cd_R_end 76 (.aload_n 0) 1 77 := ⟨by decide +kernel, rfl⟩
theorem d_R_end_77 : dc cd_R_end 77 (.getfield 29) 3 80 := ⟨by decide +kernel, rfl⟩
theorem d_R_end_80 : dc cd_R_end 80 (.iload 4) 2 82 := ⟨by decide +kernel, rfl⟩
theorem d_R_end_82 : dc cd_R_end 82 (.iaload) 1 83 := ⟨by decide +kernel, rfl⟩
theorem d_R_end_83 : dc cd_R_end 83 (.ireturn) 1 84 := ⟨by decide +kernel, rfl⟩
theorem d_R_end_84 : dc cd_R_end 84 (.aload_n 0) 1 85 := ⟨by decide +kernel, rfl⟩
theorem d_R_end_85 : dc cd_R_end 85 (.getfield 32) 3 88 := ⟨by decide +kernel, rfl⟩
theorem d_R_end_88 : dc cd_R_end 88 (.iload 4) 2 90 := ⟨by decide +kernel, rfl⟩
theorem d_R_end_90 : dc cd_R_end 90 (.iaload) 1 91 := ⟨by decide +kernel, rfl⟩
theorem d_R_end_91 : dc cd_R_end 91 (.ireturn) 1 92 := ⟨by decide +kernel, rfl⟩
theorem d_R_end_92 : dc cd_R_end 92 (.aload_n 0) 1 93 := ⟨by decide +kernel, rfl⟩
theorem d_R_end_93 : dc cd_R_end 93 (.getfield 35) 3 96 := ⟨by decide +kernel, rfl⟩
theorem d_R_end_96 : dc cd_R_end 96 (.iload 4) 2 98 := ⟨by decide +kernel, rfl⟩
theorem d_R_end_98 : dc cd_R_end 98 (.iaload) 1 99 := ⟨by decide +kernel, rfl⟩
theorem d_R_end_99 : dc cd_R_end 99 (.ireturn) 1 100 := ⟨by decide +kernel, rfl⟩
theorem d_R_end_100 : dc cd_R_end 100 (.aload_n 0) 1 101 := ⟨by decide +kernel, rfl⟩
theorem d_R_end_101 : dc cd_R_end 101 (.getfield 38) 3 104 := ⟨by decide +kernel, rfl⟩
theorem d_R_end_104 : dc cd_R_end 104 (.iload 4) 2 106 := ⟨by decide +kernel, rfl⟩
theorem d_R_end_106 : dc cd_R_end 106 (.iaload) 1 107 := ⟨by decide +kernel, rfl⟩
theorem d_R_end_107 : dc cd_R_end 107 (.ireturn) 1 108 := ⟨by decide +kernel, rfl⟩
theorem d_R_end_108 : dc cd_R_end 108 (.aload_n 0) 1 109 := ⟨by decide +kernel, rfl⟩
theorem d_R_end_109 : dc cd_R_end 109 (.getfield 41) 3 112 := ⟨by decide +kernel, rfl⟩
theorem d_R_end_112 : dc cd_R_end 112 (.iload 4) 2 114 := ⟨by decide +kernel, rfl⟩
theorem d_R_end_114 : dc cd_R_end 114 (.iaload) 1 115 := ⟨by decide +kernel, rfl⟩
theorem d_R_end_115 : dc cd_R_end 115 (.ireturn) 1 116 := ⟨by decide +kernel, rfl⟩
theorem d_R_end_116 : dc cd_R_end 116 (.aload_n 0) 1 117 := ⟨by decide +kernel, rfl⟩
theorem d_R_end_117 : dc cd_R_end 117 (.getfield 23) 3 120 := ⟨by decide +kernel, rfl⟩
theorem d_R_end_120 : dc cd_R_end 120 (.iload_n 1) 1 121 := ⟨by decide +kernel, rfl⟩
theorem d_R_end_121 : dc cd_R_end 121 (.baload) 1 122 := ⟨by decide +kernel, rfl⟩
theorem d_R_end_122 : dc cd_R_end 122 (.ifCond .eq 7) 3 125 := ⟨by decide +kernel, rfl⟩
theorem d_R_end_125 : dc cd_R_end 125 (.iconst 1) 1 126 := ⟨by decide +kernel, rfl⟩
theorem d_R_end_126 : dc cd_R_end 126 (.goto 4) 3 129 := ⟨by decide +kernel, rfl⟩
theorem d_R_end_129 : dc cd_R_end 129 (.iconst 0) 1 130 := ⟨by decide +kernel, rfl⟩
theorem d_R_end_130 : dc cd_R_end 130 (.ireturn) 1 131 := ⟨by decide +kernel, rfl⟩
theorem d_R_end_131 : dc cd_R_end 131 (.bipush (-2)) 2 133 := ⟨by decide +kernel, rfl⟩
theorem d_R_end_133 : dc cd_R_end 133 (.ireturn) 1 134 := ⟨by decide +kernel, rfl⟩
theorem d_R_stepAt_0 : dc cd_R_stepAt 0 (.aload_n 0) 1 1 := ⟨by decide +kernel, rfl⟩
theorem d_R_stepAt_1 : dc cd_R_stepAt 1 (.iload_n 1) 1 2 := ⟨by decide +kernel, rfl⟩
theorem d_R_stepAt_2 : dc cd_R_stepAt 2 (.invokevirtual 135) 3 5 := ⟨by decide +kernel, rfl⟩
theorem d_R_stepAt_5 : dc cd_R_stepAt 5 (.ifCond .ne 10) 3 8 := ⟨by decide +kernel, rfl⟩
theorem d_R_stepAt_8 : dc cd_R_stepAt 8 (.iload_n 2) 1 9 := ⟨by decide +kernel, rfl⟩
theorem d_R_stepAt_9 : dc cd_R_stepAt 9 (.invokestatic 109) 3 12 := ⟨by decide +kernel, rfl⟩
theorem d_R_stepAt_12 : dc cd_R_stepAt 12 (.ifCond .eq 5) 3 15 := ⟨by decide +kernel, rfl⟩
theorem d_R_stepAt_15 : dc cd_R_stepAt 15 (.iconst (-1)) 1 16 := ⟨by decide +kernel, rfl⟩
theorem d_R_stepAt_16 : dc cd_R_stepAt 16 (.ireturn) 1 17 := ⟨by decide +kernel, rfl⟩
theorem d_R_stepAt_17 : dc cd_R_stepAt 17 (.iload_n 3) 1 18 := ⟨by decide +kernel, rfl⟩
theorem d_R_stepAt_18 : dc cd_R_stepAt 18 (.iconst 0) 1 19 := ⟨by decide +kernel, rfl⟩
theorem d_R_stepAt_19 : dc cd_R_stepAt 19 (.aload_n 0) 1 20 := ⟨by decide +kernel, rfl⟩
theorem d_R_stepAt_20 : dc cd_R_stepAt 20 (.getfield 7) 3 23 := ⟨by decide +kernel, rfl⟩
theorem d_R_stepAt_23 : dc cd_R_stepAt 23 (.iload_n 2) 1 24 := ⟨by decide +kernel, rfl⟩
theorem d_R_stepAt_24 : dc cd_R_stepAt 24 (.iaload) 1 25 := ⟨by decide +kernel, rfl⟩
theorem d_R_stepAt_25 : dc cd_R_stepAt 25 (.invokestatic 113) 3 28 := ⟨by decide +kernel, rfl⟩
theorem d_R_stepAt_28 : dc cd_R_stepAt 28 (.ifCond .eq 13) 3 31 := ⟨by decide +kernel, rfl⟩
theorem d_R_stepAt_31 : dc cd_R_stepAt 31 (.aload_n 0) 1 32 := ⟨by decide +kernel, rfl⟩
theorem d_R_stepAt_32 : dc cd_R_stepAt 32 (.iload_n 1) 1 33 := ⟨by decide +kernel, rfl⟩
theorem d_R_stepAt_33 : dc cd_R_stepAt 33 (.iload_n 2) 1 34 := ⟨by decide +kernel, rfl⟩
theorem d_R_stepAt_34 : dc cd_R_stepAt 34 (.iload_n 3) 1 35 := ⟨by decide +kernel, rfl⟩
theorem d_R_stepAt_35 : dc cd_R_stepAt 35 (.invokevirtual 131) 3 38 := ⟨by decide +kernel, rfl⟩
theorem d_R_stepAt_38 : dc cd_R_stepAt 38 (.goto 5) 3 41 := ⟨by decide +kernel, rfl⟩
theorem d_R_stepAt_41 : dc cd_R_stepAt 41 (.bipush (-2)) 2 43 := ⟨by decide +kernel, rfl⟩
theorem d_R_stepAt_43 : dc cd_R_stepAt 43 (.ireturn) 1 44 := ⟨by decide +kernel, rfl⟩
theorem d_R_message_0 : dc cd_R_message 0 (.aload_n 0) 1 1 := ⟨by decide +kernel, rfl⟩
theorem d_R_message_1 : dc cd_R_message 1 (.iload_n 1) 1 2 := ⟨by decide +kernel, rfl⟩
theorem d_R_message_2 : dc cd_R_message 2 (.invokevirtual 152) 3 5 := ⟨by decide +kernel, rfl⟩
theorem d_R_message_5 : dc cd_R_message 5 (.ifCond .eq 5) 3 8 := ⟨by decide +kernel, rfl⟩
theorem d_R_message_8 : dc cd_R_message 8 (.iconst (-1)) 1 9 := ⟨by decide +kernel, rfl⟩
theorem d_R_message_9 : dc cd_R_message 9 (.ireturn) 1 10 := ⟨by decide +kernel, rfl⟩
theorem d_R_message_10 : dc cd_R_message 10 (.iload_n 2) 1 11 := ⟨by decide +kernel, rfl⟩
theorem d_R_message_11 : dc cd_R_message 11 (.tableswitch 150 0 10 #[57, 64, 71, 78, 85, 92, 99, 106, 113, 128, 135]) 57 68 := ⟨by decide +kernel, rfl⟩
theorem d_R_message_68 : dc cd_R_message 68 (.aload_n 0) 1 69 := ⟨by decide +kernel, rfl⟩
theorem d_R_message_69 : dc cd_R_message 69 (.getfield 53) 3 72 := ⟨by decide +kernel, rfl⟩
theorem d_R_message_72 : dc cd_R_message 72 (.iload_n 1) 1 73 := ⟨by decide +kernel, rfl⟩
theorem d_R_message_73 : dc cd_R_message 73 (.iaload) 1 74 := ⟨by decide +kernel, rfl⟩
theorem d_R_message_74 : dc cd_R_message 74 (.ireturn) 1 75 := ⟨by decide +kernel, rfl⟩
theorem d_R_message_75 : dc cd_R_message 75 (.aload_n 0) 1 76 := ⟨by decide +kernel, rfl⟩
theorem d_R_message_76 : dc cd_R_message 76 (.getfield 56) 3 79 := ⟨by decide +kernel, rfl⟩
theorem d_R_message_79 : dc cd_R_message 79 (.iload_n 1) 1 80 := ⟨by decide +kernel, rfl⟩
theorem d_R_message_80 : dc cd_R_message 80 (.iaload) 1 81 := ⟨by decide +kernel, rfl⟩
theorem d_R_message_81 : dc cd_R_message 81 (.ireturn) 1 82 := ⟨by decide +kernel, rfl⟩
theorem d_R_message_82 : dc cd_R_message 82 (.aload_n 0) 1 83 := ⟨by decide +kernel, rfl⟩
theorem d_R_message_83 : dc cd_R_message 83 (.getfield 59) 3 86 := ⟨by decide +kernel, rfl⟩
theorem d_R_message_86 : dc cd_R_message 86 (.iload_n 1) 1 87 := ⟨by decide +kernel, rfl⟩
theorem d_R_message_87 : dc cd_R_message 87 (.iaload) 1 88 := ⟨by decide +kernel, rfl⟩
theorem d_R_message_88 : dc cd_R_message 88 (.ireturn) 1 89 := ⟨by decide +kernel, rfl⟩
theorem d_R_message_89 : dc cd_R_message 89 (.aload_n 0) 1 90 := ⟨by decide +kernel, rfl⟩
theorem d_R_message_90 : dc cd_R_message 90 (.getfield 62) 3 93 := ⟨by decide +kernel, rfl⟩
theorem d_R_message_93 : dc cd_R_message 93 (.iload_n 1) 1 94 := ⟨by decide +kernel, rfl⟩
theorem d_R_message_94 : dc cd_R_message 94 (.iaload) 1 95 := ⟨by decide +kernel, rfl⟩
theorem d_R_message_95 : dc cd_R_message 95 (.ireturn) 1 96 := ⟨by decide +kernel, rfl⟩
theorem d_R_message_96 : dc cd_R_message 96 (.aload_n 0) 1 97 := ⟨by decide +kernel, rfl⟩
theorem d_R_message_97 : dc cd_R_message 97 (.getfield 65) 3 100 := ⟨by decide +kernel, rfl⟩
theorem d_R_message_100 : dc cd_R_message 100 (.iload_n 1) 1 101 := ⟨by decide +kernel, rfl⟩
theorem d_R_message_101 : dc cd_R_message 101 (.iaload) 1 102 := ⟨by decide +kernel, rfl⟩
theorem d_R_message_102 : dc cd_R_message 102 (.ireturn) 1 103 := ⟨by decide +kernel, rfl⟩
theorem d_R_message_103 : dc cd_R_message 103 (.aload_n 0) 1 104 := ⟨by decide +kernel, rfl⟩
theorem d_R_message_104 : dc cd_R_message 104 (.getfield 68) 3 107 := ⟨by decide +kernel, rfl⟩
theorem d_R_message_107 : dc cd_R_message 107 (.iload_n 1) 1 108 := ⟨by decide +kernel, rfl⟩
theorem d_R_message_108 : dc cd_R_message 108 (.iaload) 1 109 := ⟨by decide +kernel, rfl⟩
theorem d_R_message_109 : dc cd_R_message 109 (.ireturn) 1 110 := ⟨by decide +kernel, rfl⟩
theorem d_R_message_110 : dc cd_R_message 110 (.aload_n 0) 1 111 := ⟨by decide +kernel, rfl⟩
theorem d_R_message_111 : dc cd_R_message 111 (.getfield 71) 3 114 := ⟨by decide +kernel, rfl⟩
theorem d_R_message_114 : dc cd_R_message 114 (.iload_n 1) 1 115 := ⟨by decide +kernel, rfl⟩
theorem d_R_message_115 : dc cd_R_message 115 (.iaload) 1 116 := ⟨by decide +kernel, rfl⟩
theorem d_R_message_116 : dc cd_R_message 116 (.ireturn) 1 117 := ⟨by decide +kernel, rfl⟩
theorem d_R_message_117 : dc cd_R_message 117 (.aload_n 0) 1 118 := ⟨by decide +kernel, rfl⟩
theorem d_R_message_118 : dc cd_R_message 118 (.getfield 74) 3 121 := ⟨by decide +kernel, rfl⟩
theorem d_R_message_121 : dc cd_R_message 121 (.iload_n 1) 1 122 := ⟨by decide +kernel, rfl⟩
theorem d_R_message_122 : dc cd_R_message 122 (.iaload) 1 123 := ⟨by decide +kernel, rfl⟩
theorem d_R_message_123 : dc cd_R_message 123 (.ireturn) 1 124 := ⟨by decide +kernel, rfl⟩
theorem d_R_message_124 : dc cd_R_message 124 (.aload_n 0) 1 125 := ⟨by decide +kernel, rfl⟩
theorem d_R_message_125 : dc cd_R_message 125 (.getfield 77) 3 128 := ⟨by decide +kernel, rfl⟩
theorem d_R_message_128 : dc cd_R_message 128 (.iload_n 1) 1 129 := ⟨by decide +kernel, rfl⟩
theorem d_R_message_129 : dc cd_R_message 129 (.baload) 1 130 := ⟨by decide +kernel, rfl⟩
theorem d_R_message_130 : dc cd_R_message 130 (.ifCond .eq 7) 3 133 := ⟨by decide +kernel, rfl⟩
theorem d_R_message_133 : dc cd_R_message 133 (.iconst 1) 1 134 := ⟨by decide +kernel, rfl⟩
theorem d_R_message_134 : dc cd_R_message 134 (.goto 4) 3 137 := ⟨by decide +kernel, rfl⟩
theorem d_R_message_137 : dc cd_R_message 137 (.iconst 0) 1 138 := ⟨by decide +kernel, rfl⟩
theorem d_R_message_138 : dc cd_R_message 138 (.ireturn) 1 139 := ⟨by decide +kernel, rfl⟩
theorem d_R_message_139 : dc cd_R_message 139 (.aload_n 0) 1 140 := ⟨by decide +kernel, rfl⟩
theorem d_R_message_140 : dc cd_R_message 140 (.getfield 86) 3 143 := ⟨by decide +kernel, rfl⟩
theorem d_R_message_143 : dc cd_R_message 143 (.iload_n 1) 1 144 := ⟨by decide +kernel, rfl⟩
theorem d_R_message_144 : dc cd_R_message 144 (.iaload) 1 145 := ⟨by decide +kernel, rfl⟩
theorem d_R_message_145 : dc cd_R_message 145 (.ireturn) 1 146 := ⟨by decide +kernel, rfl⟩
theorem d_R_message_146 : dc cd_R_message 146 (.aload_n 0) 1 147 := ⟨by decide +kernel, rfl⟩
theorem d_R_message_147 : dc cd_R_message 147 (.getfield 92) 3 150 := ⟨by decide +kernel, rfl⟩
theorem d_R_message_150 : dc cd_R_message 150 (.iload_n 1) 1 151 := ⟨by decide +kernel, rfl⟩
theorem d_R_message_151 : dc cd_R_message 151 (.baload) 1 152 := ⟨by decide +kernel, rfl⟩
theorem d_R_message_152 : dc cd_R_message 152 (.ifCond .eq 7) 3 155 := ⟨by decide +kernel, rfl⟩
theorem d_R_message_155 : dc cd_R_message 155 (.iconst 1) 1 156 := ⟨by decide +kernel, rfl⟩
theorem d_R_message_156 : dc cd_R_message 156 (.goto 4) 3 159 := ⟨by decide +kernel, rfl⟩
theorem d_R_message_159 : dc cd_R_message 159 (.iconst 0) 1 160 := ⟨by decide +kernel, rfl⟩
theorem d_R_message_160 : dc cd_R_message 160 (.ireturn) 1 161 := ⟨by decide +kernel, rfl⟩
theorem d_R_message_161 : dc cd_R_message 161 (.bipush (-2)) 2 163 := ⟨by decide +kernel, rfl⟩
theorem d_R_message_163 : dc cd_R_message 163 (.ireturn) 1 164 := ⟨by decide +kernel, rfl⟩
theorem d_R_balance_0 : dc cd_R_balance 0 (.iload_n 1) 1 1 := ⟨by decide +kernel, rfl⟩
theorem d_R_balance_1 : dc cd_R_balance 1 (.invokestatic 109) 3 4 := ⟨by decide +kernel, rfl⟩
theorem d_R_balance_4 : dc cd_R_balance 4 (.ifCond .ne 21) 3 7 := ⟨by decide +kernel, rfl⟩
theorem d_R_balance_7 : dc cd_R_balance 7 (.iload_n 2) 1 8 := ⟨by decide +kernel, rfl⟩
theorem d_R_balance_8 : dc cd_R_balance 8 (.iconst 0) 1 9 := ⟨by decide +kernel, rfl⟩
theorem d_R_balance_9 : dc cd_R_balance 9 (.iconst 3) 1 10 := ⟨by decide +kernel, rfl⟩
theorem d_R_balance_10 : dc cd_R_balance 10 (.invokestatic 113) 3 13 := ⟨by decide +kernel, rfl⟩
theorem d_R_balance_13 : dc cd_R_balance 13 (.ifCond .eq 12) 3 16 := ⟨by decide +kernel, rfl⟩
theorem d_R_balance_16 : dc cd_R_balance 16 (.iload_n 3) 1 17 := ⟨by decide +kernel, rfl⟩
theorem d_R_balance_17 : dc cd_R_balance 17 (.iconst 0) 1 18 := ⟨by decide +kernel, rfl⟩
end
section
theorem d_R_balance_18 : dc cd_R_balance 18 (.iconst 1) 1 19 := ⟨by decide +kernel, rfl⟩
theorem d_R_balance_19 : dc cd_R_balance 19 (.invokestatic 113) 3 22 := ⟨by decide +kernel, rfl⟩
theorem d_R_balance_22 : dc cd_R_balance 22 (.ifCond .ne 5) 3 25 := ⟨by decide +kernel, rfl⟩
theorem d_R_balance_25 : dc cd_R_balance 25 (.iconst (-1)) 1 26 := ⟨by decide +kernel, rfl⟩
theorem d_R_balance_26 : dc cd_R_balance 26 (.ireturn) 1 27 := ⟨by decide +kernel, rfl⟩
theorem d_R_balance_27 : dc cd_R_balance 27 (.iload_n 3) 1 28 := ⟨by decide +kernel, rfl⟩
theorem d_R_balance_28 : dc cd_R_balance 28 (.iload_n 1) 1 29 := ⟨by decide +kernel, rfl⟩
theorem d_R_balance_29 : dc cd_R_balance 29 (.if_icmp .ne 16) 3 32 := ⟨by decide +kernel, rfl⟩
theorem d_R_balance_32 : dc cd_R_balance 32 (.aload_n 0) 1 33 := ⟨by decide +kernel, rfl⟩
theorem d_R_balance_33 : dc cd_R_balance 33 (.getfield 47) 3 36 := ⟨by decide +kernel, rfl⟩
theorem d_R_balance_36 : dc cd_R_balance 36 (.iconst 4) 1 37 := ⟨by decide +kernel, rfl⟩
theorem d_R_balance_37 : dc cd_R_balance 37 (.iload_n 1) 1 38 := ⟨by decide +kernel, rfl⟩
theorem d_R_balance_38 : dc cd_R_balance 38 (.imul) 1 39 := ⟨by decide +kernel, rfl⟩
theorem d_R_balance_39 : dc cd_R_balance 39 (.iload_n 2) 1 40 := ⟨by decide +kernel, rfl⟩
theorem d_R_balance_40 : dc cd_R_balance 40 (.iadd) 1 41 := ⟨by decide +kernel, rfl⟩
theorem d_R_balance_41 : dc cd_R_balance 41 (.iaload) 1 42 := ⟨by decide +kernel, rfl⟩
theorem d_R_balance_42 : dc cd_R_balance 42 (.goto 4) 3 45 := ⟨by decide +kernel, rfl⟩
theorem d_R_balance_45 : dc cd_R_balance 45 (.iconst 0) 1 46 := ⟨by decide +kernel, rfl⟩
theorem d_R_balance_46 : dc cd_R_balance 46 (.istore 4) 2 48 := ⟨by decide +kernel, rfl⟩
theorem d_R_balance_48 : dc cd_R_balance 48 (.iconst 0) 1 49 := ⟨by decide +kernel, rfl⟩
theorem d_R_balance_49 : dc cd_R_balance 49 (.istore 5) 2 51 := ⟨by decide +kernel, rfl⟩
theorem d_R_balance_51 : dc cd_R_balance 51 (.iload 5) 2 53 := ⟨by decide +kernel, rfl⟩
theorem d_R_balance_53 : dc cd_R_balance 53 (.aload_n 0) 1 54 := ⟨by decide +kernel, rfl⟩
theorem d_R_balance_54 : dc cd_R_balance 54 (.getfield 98) 3 57 := ⟨by decide +kernel, rfl⟩
theorem d_R_balance_57 : dc cd_R_balance 57 (.if_icmp .ge 38) 3 60 := ⟨by decide +kernel, rfl⟩
theorem d_R_balance_60 : dc cd_R_balance 60 (.iload 4) 2 62 := ⟨by decide +kernel, rfl⟩
theorem d_R_balance_62 : dc cd_R_balance 62 (.iload_n 3) 1 63 := ⟨by decide +kernel, rfl⟩
theorem d_R_balance_63 : dc cd_R_balance 63 (.iload_n 1) 1 64 := ⟨by decide +kernel, rfl⟩
theorem d_R_balance_64 : dc cd_R_balance 64 (.if_icmp .ne 7) 3 67 := ⟨by decide +kernel, rfl⟩
theorem d_R_balance_67 : dc cd_R_balance 67 (.iconst 0) 1 68 := ⟨by decide +kernel, rfl⟩
theorem d_R_balance_68 : dc cd_R_balance 68 (.goto 18) 3 71 := ⟨by decide +kernel, rfl⟩
theorem d_R_balance_71 : dc cd_R_balance 71 (.aload_n 0) 1 72 := ⟨by decide +kernel, rfl⟩
theorem d_R_balance_72 : dc cd_R_balance 72 (.getfield 50) 3 75 := ⟨by decide +kernel, rfl⟩
theorem d_R_balance_75 : dc cd_R_balance 75 (.iconst 4) 1 76 := ⟨by decide +kernel, rfl⟩
theorem d_R_balance_76 : dc cd_R_balance 76 (.iconst 2) 1 77 := ⟨by decide +kernel, rfl⟩
theorem d_R_balance_77 : dc cd_R_balance 77 (.iload 5) 2 79 := ⟨by decide +kernel, rfl⟩
theorem d_R_balance_79 : dc cd_R_balance 79 (.imul) 1 80 := ⟨by decide +kernel, rfl⟩
theorem d_R_balance_80 : dc cd_R_balance 80 (.iload_n 1) 1 81 := ⟨by decide +kernel, rfl⟩
theorem d_R_balance_81 : dc cd_R_balance 81 (.iadd) 1 82 := ⟨by decide +kernel, rfl⟩
theorem d_R_balance_82 : dc cd_R_balance 82 (.imul) 1 83 := ⟨by decide +kernel, rfl⟩
theorem d_R_balance_83 : dc cd_R_balance 83 (.iload_n 2) 1 84 := ⟨by decide +kernel, rfl⟩
theorem d_R_balance_84 : dc cd_R_balance 84 (.iadd) 1 85 := ⟨by decide +kernel, rfl⟩
theorem d_R_balance_85 : dc cd_R_balance 85 (.iaload) 1 86 := ⟨by decide +kernel, rfl⟩
theorem d_R_balance_86 : dc cd_R_balance 86 (.iadd) 1 87 := ⟨by decide +kernel, rfl⟩
theorem d_R_balance_87 : dc cd_R_balance 87 (.istore 4) 2 89 := ⟨by decide +kernel, rfl⟩
theorem d_R_balance_89 : dc cd_R_balance 89 (.iinc 5 1) 3 92 := ⟨by decide +kernel, rfl⟩
theorem d_R_balance_92 : dc cd_R_balance 92 (.goto (-41)) 3 95 := ⟨by decide +kernel, rfl⟩
theorem d_R_balance_95 : dc cd_R_balance 95 (.iload 4) 2 97 := ⟨by decide +kernel, rfl⟩
theorem d_R_balance_97 : dc cd_R_balance 97 (.ireturn) 1 98 := ⟨by decide +kernel, rfl⟩
theorem d_R_vouchers_0 : dc cd_R_vouchers 0 (.aload_n 0) 1 1 := ⟨by decide +kernel, rfl⟩
theorem d_R_vouchers_1 : dc cd_R_vouchers 1 (.iload_n 1) 1 2 := ⟨by decide +kernel, rfl⟩
theorem d_R_vouchers_2 : dc cd_R_vouchers 2 (.invokevirtual 135) 3 5 := ⟨by decide +kernel, rfl⟩
theorem d_R_vouchers_5 : dc cd_R_vouchers 5 (.ifCond .ne 19) 3 8 := ⟨by decide +kernel, rfl⟩
theorem d_R_vouchers_8 : dc cd_R_vouchers 8 (.iload_n 2) 1 9 := ⟨by decide +kernel, rfl⟩
theorem d_R_vouchers_9 : dc cd_R_vouchers 9 (.invokestatic 109) 3 12 := ⟨by decide +kernel, rfl⟩
theorem d_R_vouchers_12 : dc cd_R_vouchers 12 (.ifCond .ne 12) 3 15 := ⟨by decide +kernel, rfl⟩
theorem d_R_vouchers_15 : dc cd_R_vouchers 15 (.iload_n 3) 1 16 := ⟨by decide +kernel, rfl⟩
theorem d_R_vouchers_16 : dc cd_R_vouchers 16 (.iconst 0) 1 17 := ⟨by decide +kernel, rfl⟩
theorem d_R_vouchers_17 : dc cd_R_vouchers 17 (.iconst 3) 1 18 := ⟨by decide +kernel, rfl⟩
theorem d_R_vouchers_18 : dc cd_R_vouchers 18 (.invokestatic 113) 3 21 := ⟨by decide +kernel, rfl⟩
theorem d_R_vouchers_21 : dc cd_R_vouchers 21 (.ifCond .ne 7) 3 24 := ⟨by decide +kernel, rfl⟩
theorem d_R_vouchers_24 : dc cd_R_vouchers 24 (.iconst (-1)) 1 25 := ⟨by decide +kernel, rfl⟩
theorem d_R_vouchers_25 : dc cd_R_vouchers 25 (.goto 17) 3 28 := ⟨by decide +kernel, rfl⟩
theorem d_R_vouchers_28 : dc cd_R_vouchers 28 (.aload_n 0) 1 29 := ⟨by decide +kernel, rfl⟩
theorem d_R_vouchers_29 : dc cd_R_vouchers 29 (.getfield 50) 3 32 := ⟨by decide +kernel, rfl⟩
theorem d_R_vouchers_32 : dc cd_R_vouchers 32 (.iconst 4) 1 33 := ⟨by decide +kernel, rfl⟩
theorem d_R_vouchers_33 : dc cd_R_vouchers 33 (.iconst 2) 1 34 := ⟨by decide +kernel, rfl⟩
theorem d_R_vouchers_34 : dc cd_R_vouchers 34 (.iload_n 1) 1 35 := ⟨by decide +kernel, rfl⟩
theorem d_R_vouchers_35 : dc cd_R_vouchers 35 (.imul) 1 36 := ⟨by decide +kernel, rfl⟩
theorem d_R_vouchers_36 : dc cd_R_vouchers 36 (.iload_n 2) 1 37 := ⟨by decide +kernel, rfl⟩
theorem d_R_vouchers_37 : dc cd_R_vouchers 37 (.iadd) 1 38 := ⟨by decide +kernel, rfl⟩
theorem d_R_vouchers_38 : dc cd_R_vouchers 38 (.imul) 1 39 := ⟨by decide +kernel, rfl⟩
theorem d_R_vouchers_39 : dc cd_R_vouchers 39 (.iload_n 3) 1 40 := ⟨by decide +kernel, rfl⟩
theorem d_R_vouchers_40 : dc cd_R_vouchers 40 (.iadd) 1 41 := ⟨by decide +kernel, rfl⟩
theorem d_R_vouchers_41 : dc cd_R_vouchers 41 (.iaload) 1 42 := ⟨by decide +kernel, rfl⟩
theorem d_R_vouchers_42 : dc cd_R_vouchers 42 (.ireturn) 1 43 := ⟨by decide +kernel, rfl⟩
theorem d_R_held_0 : dc cd_R_held 0 (.iconst 0) 1 1 := ⟨by decide +kernel, rfl⟩
theorem d_R_held_1 : dc cd_R_held 1 (.istore_n 3) 1 2 := ⟨by decide +kernel, rfl⟩
theorem d_R_held_2 : dc cd_R_held 2 (.iconst 0) 1 3 := ⟨by decide +kernel, rfl⟩
theorem d_R_held_3 : dc cd_R_held 3 (.istore 4) 2 5 := ⟨by decide +kernel, rfl⟩
theorem d_R_held_5 : dc cd_R_held 5 (.iload 4) 2 7 := ⟨by decide +kernel, rfl⟩
theorem d_R_held_7 : dc cd_R_held 7 (.iconst 4) 1 8 := ⟨by decide +kernel, rfl⟩
theorem d_R_held_8 : dc cd_R_held 8 (.if_icmp .ge 20) 3 11 := ⟨by decide +kernel, rfl⟩
theorem d_R_held_11 : dc cd_R_held 11 (.iload_n 3) 1 12 := ⟨by decide +kernel, rfl⟩
theorem d_R_held_12 : dc cd_R_held 12 (.aload_n 0) 1 13 := ⟨by decide +kernel, rfl⟩
theorem d_R_held_13 : dc cd_R_held 13 (.iload_n 1) 1 14 := ⟨by decide +kernel, rfl⟩
theorem d_R_held_14 : dc cd_R_held 14 (.iload 4) 2 16 := ⟨by decide +kernel, rfl⟩
theorem d_R_held_16 : dc cd_R_held 16 (.iload_n 2) 1 17 := ⟨by decide +kernel, rfl⟩
theorem d_R_held_17 : dc cd_R_held 17 (.invokevirtual 163) 3 20 := ⟨by decide +kernel, rfl⟩
theorem d_R_held_20 : dc cd_R_held 20 (.iadd) 1 21 := ⟨by decide +kernel, rfl⟩
theorem d_R_held_21 : dc cd_R_held 21 (.istore_n 3) 1 22 := ⟨by decide +kernel, rfl⟩
theorem d_R_held_22 : dc cd_R_held 22 (.iinc 4 1) 3 25 := ⟨by decide +kernel, rfl⟩
theorem d_R_held_25 : dc cd_R_held 25 (.goto (-20)) 3 28 := ⟨by decide +kernel, rfl⟩
theorem d_R_held_28 : dc cd_R_held 28 (.iload_n 3) 1 29 := ⟨by decide +kernel, rfl⟩
theorem d_R_held_29 : dc cd_R_held 29 (.ireturn) 1 30 := ⟨by decide +kernel, rfl⟩
theorem d_R_sum_0 : dc cd_R_sum 0 (.iload_n 1) 1 1 := ⟨by decide +kernel, rfl⟩
theorem d_R_sum_1 : dc cd_R_sum 1 (.iconst 0) 1 2 := ⟨by decide +kernel, rfl⟩
theorem d_R_sum_2 : dc cd_R_sum 2 (.iconst 1) 1 3 := ⟨by decide +kernel, rfl⟩
theorem d_R_sum_3 : dc cd_R_sum 3 (.invokestatic 113) 3 6 := ⟨by decide +kernel, rfl⟩
theorem d_R_sum_6 : dc cd_R_sum 6 (.ifCond .ne 5) 3 9 := ⟨by decide +kernel, rfl⟩
theorem d_R_sum_9 : dc cd_R_sum 9 (.iconst (-1)) 1 10 := ⟨by decide +kernel, rfl⟩
theorem d_R_sum_10 : dc cd_R_sum 10 (.ireturn) 1 11 := ⟨by decide +kernel, rfl⟩
theorem d_R_sum_11 : dc cd_R_sum 11 (.iconst 0) 1 12 := ⟨by decide +kernel, rfl⟩
theorem d_R_sum_12 : dc cd_R_sum 12 (.istore_n 3) 1 13 := ⟨by decide +kernel, rfl⟩
theorem d_R_sum_13 : dc cd_R_sum 13 (.iload_n 2) 1 14 := ⟨by decide +kernel, rfl⟩
theorem d_R_sum_14 : dc cd_R_sum 14 (.tableswitch 146 0 3 #[30, 37, 71, 80]) 30 44 := ⟨by decide +kernel, rfl⟩
theorem d_R_sum_44 : dc cd_R_sum 44 (.aload_n 0) 1 45 := ⟨by decide +kernel, rfl⟩
theorem d_R_sum_45 : dc cd_R_sum 45 (.iload_n 1) 1 46 := ⟨by decide +kernel, rfl⟩
theorem d_R_sum_46 : dc cd_R_sum 46 (.iload_n 1) 1 47 := ⟨by decide +kernel, rfl⟩
theorem d_R_sum_47 : dc cd_R_sum 47 (.invokevirtual 166) 3 50 := ⟨by decide +kernel, rfl⟩
theorem d_R_sum_50 : dc cd_R_sum 50 (.ireturn) 1 51 := ⟨by decide +kernel, rfl⟩
theorem d_R_sum_51 : dc cd_R_sum 51 (.iconst 0) 1 52 := ⟨by decide +kernel, rfl⟩
theorem d_R_sum_52 : dc cd_R_sum 52 (.istore 4) 2 54 := ⟨by decide +kernel, rfl⟩
theorem d_R_sum_54 : dc cd_R_sum 54 (.iload 4) 2 56 := ⟨by decide +kernel, rfl⟩
theorem d_R_sum_56 : dc cd_R_sum 56 (.aload_n 0) 1 57 := ⟨by decide +kernel, rfl⟩
theorem d_R_sum_57 : dc cd_R_sum 57 (.getfield 98) 3 60 := ⟨by decide +kernel, rfl⟩
theorem d_R_sum_60 : dc cd_R_sum 60 (.if_icmp .ge 23) 3 63 := ⟨by decide +kernel, rfl⟩
theorem d_R_sum_63 : dc cd_R_sum 63 (.iload_n 3) 1 64 := ⟨by decide +kernel, rfl⟩
theorem d_R_sum_64 : dc cd_R_sum 64 (.aload_n 0) 1 65 := ⟨by decide +kernel, rfl⟩
theorem d_R_sum_65 : dc cd_R_sum 65 (.getfield 35) 3 68 := ⟨by decide +kernel, rfl⟩
theorem d_R_sum_68 : dc cd_R_sum 68 (.iconst 2) 1 69 := ⟨by decide +kernel, rfl⟩
theorem d_R_sum_69 : dc cd_R_sum 69 (.iload 4) 2 71 := ⟨by decide +kernel, rfl⟩
theorem d_R_sum_71 : dc cd_R_sum 71 (.imul) 1 72 := ⟨by decide +kernel, rfl⟩
theorem d_R_sum_72 : dc cd_R_sum 72 (.iload_n 1) 1 73 := ⟨by decide +kernel, rfl⟩
theorem d_R_sum_73 : dc cd_R_sum 73 (.iadd) 1 74 := ⟨by decide +kernel, rfl⟩
theorem d_R_sum_74 : dc cd_R_sum 74 (.iaload) 1 75 := ⟨by decide +kernel, rfl⟩
theorem d_R_sum_75 : dc cd_R_sum 75 (.iadd) 1 76 := ⟨by decide +kernel, rfl⟩
theorem d_R_sum_76 : dc cd_R_sum 76 (.istore_n 3) 1 77 := ⟨by decide +kernel, rfl⟩
theorem d_R_sum_77 : dc cd_R_sum 77 (.iinc 4 1) 3 80 := ⟨by decide +kernel, rfl⟩
theorem d_R_sum_80 : dc cd_R_sum 80 (.goto (-26)) 3 83 := ⟨by decide +kernel, rfl⟩
theorem d_R_sum_83 : dc cd_R_sum 83 (.iload_n 3) 1 84 := ⟨by decide +kernel, rfl⟩
theorem d_R_sum_84 : dc cd_R_sum 84 (.ireturn) 1 85 := ⟨by decide +kernel, rfl⟩
theorem d_R_sum_85 : dc cd_R_sum 85 (.aload_n 0) 1 86 := ⟨by decide +kernel, rfl⟩
theorem d_R_sum_86 : dc cd_R_sum 86 (.iconst 1) 1 87 := ⟨by decide +kernel, rfl⟩
theorem d_R_sum_87 : dc cd_R_sum 87 (.iload_n 1) 1 88 := ⟨by decide +kernel, rfl⟩
theorem d_R_sum_88 : dc cd_R_sum 88 (.isub) 1 89 := ⟨by decide +kernel, rfl⟩
theorem d_R_sum_89 : dc cd_R_sum 89 (.iload_n 1) 1 90 := ⟨by decide +kernel, rfl⟩
theorem d_R_sum_90 : dc cd_R_sum 90 (.invokevirtual 166) 3 93 := ⟨by decide +kernel, rfl⟩
theorem d_R_sum_93 : dc cd_R_sum 93 (.ireturn) 1 94 := ⟨by decide +kernel, rfl⟩
theorem d_R_sum_94 : dc cd_R_sum 94 (.iconst 0) 1 95 := ⟨by decide +kernel, rfl⟩
theorem d_R_sum_95 : dc cd_R_sum 95 (.istore 4) 2 97 := ⟨by decide +kernel, rfl⟩
theorem d_R_sum_97 : dc cd_R_sum 97 (.iload 4) 2 99 := ⟨by decide +kernel, rfl⟩
theorem d_R_sum_99 : dc cd_R_sum 99 (.aload_n 0) 1 100 := ⟨by decide +kernel, rfl⟩
theorem d_R_sum_100 : dc cd_R_sum 100 (.getfield 102) 3 103 := ⟨by decide +kernel, rfl⟩
theorem d_R_sum_103 : dc cd_R_sum 103 (.if_icmp .ge 55) 3 106 := ⟨by decide +kernel, rfl⟩
theorem d_R_sum_106 : dc cd_R_sum 106 (.iload_n 3) 1 107 := ⟨by decide +kernel, rfl⟩
theorem d_R_sum_107 : dc cd_R_sum 107 (.aload_n 0) 1 108 := ⟨by decide +kernel, rfl⟩
theorem d_R_sum_108 : dc cd_R_sum 108 (.getfield 65) 3 111 := ⟨by decide +kernel, rfl⟩
theorem d_R_sum_111 : dc cd_R_sum 111 (.iload 4) 2 113 := ⟨by decide +kernel, rfl⟩
theorem d_R_sum_113 : dc cd_R_sum 113 (.iaload) 1 114 := ⟨by decide +kernel, rfl⟩
theorem d_R_sum_114 : dc cd_R_sum 114 (.iload_n 1) 1 115 := ⟨by decide +kernel, rfl⟩
theorem d_R_sum_115 : dc cd_R_sum 115 (.if_icmp .ne 34) 3 118 := ⟨by decide +kernel, rfl⟩
theorem d_R_sum_118 : dc cd_R_sum 118 (.aload_n 0) 1 119 := ⟨by decide +kernel, rfl⟩
theorem d_R_sum_119 : dc cd_R_sum 119 (.getfield 86) 3 122 := ⟨by decide +kernel, rfl⟩
theorem d_R_sum_122 : dc cd_R_sum 122 (.iload 4) 2 124 := ⟨by decide +kernel, rfl⟩
theorem d_R_sum_124 : dc cd_R_sum 124 (.iaload) 1 125 := ⟨by decide +kernel, rfl⟩
theorem d_R_sum_125 : dc cd_R_sum 125 (.iconst 1) 1 126 := ⟨by decide +kernel, rfl⟩
theorem d_R_sum_126 : dc cd_R_sum 126 (.if_icmp .eq 23) 3 129 := ⟨by decide +kernel, rfl⟩
theorem d_R_sum_129 : dc cd_R_sum 129 (.aload_n 0) 1 130 := ⟨by decide +kernel, rfl⟩
theorem d_R_sum_130 : dc cd_R_sum 130 (.getfield 92) 3 133 := ⟨by decide +kernel, rfl⟩
theorem d_R_sum_133 : dc cd_R_sum 133 (.iload 4) 2 135 := ⟨by decide +kernel, rfl⟩
theorem d_R_sum_135 : dc cd_R_sum 135 (.baload) 1 136 := ⟨by decide +kernel, rfl⟩
theorem d_R_sum_136 : dc cd_R_sum 136 (.ifCond .ne 13) 3 139 := ⟨by decide +kernel, rfl⟩
theorem d_R_sum_139 : dc cd_R_sum 139 (.aload_n 0) 1 140 := ⟨by decide +kernel, rfl⟩
theorem d_R_sum_140 : dc cd_R_sum 140 (.getfield 62) 3 143 := ⟨by decide +kernel, rfl⟩
theorem d_R_sum_143 : dc cd_R_sum 143 (.iload 4) 2 145 := ⟨by decide +kernel, rfl⟩
theorem d_R_sum_145 : dc cd_R_sum 145 (.iaload) 1 146 := ⟨by decide +kernel, rfl⟩
theorem d_R_sum_146 : dc cd_R_sum 146 (.goto 4) 3 149 := ⟨by decide +kernel, rfl⟩
theorem d_R_sum_149 : dc cd_R_sum 149 (.iconst 0) 1 150 := ⟨by decide +kernel, rfl⟩
theorem d_R_sum_150 : dc cd_R_sum 150 (.iadd) 1 151 := ⟨by decide +kernel, rfl⟩
theorem d_R_sum_151 : dc cd_R_sum 151 (.istore_n 3) 1 152 := ⟨by decide +kernel, rfl⟩
theorem d_R_sum_152 : dc cd_R_sum 152 (.iinc 4 1) 3 155 := ⟨by decide +kernel, rfl⟩
theorem d_R_sum_155 : dc cd_R_sum 155 (.goto (-58)) 3 158 := ⟨by decide +kernel, rfl⟩
theorem d_R_sum_158 : dc cd_R_sum 158 (.iload_n 3) 1 159 := ⟨by decide +kernel, rfl⟩
theorem d_R_sum_159 : dc cd_R_sum 159 (.ireturn) 1 160 := ⟨by decide +kernel, rfl⟩
theorem d_R_sum_160 : dc cd_R_sum 160 (.bipush (-2)) 2 162 := ⟨by decide +kernel, rfl⟩
theorem d_R_sum_162 : dc cd_R_sum 162 (.ireturn) 1 163 := ⟨by decide +kernel, rfl⟩
theorem d_R_count_0 : dc cd_R_count 0 (.iconst 0) 1 1 := ⟨by decide +kernel, rfl⟩
theorem d_R_count_1 : dc cd_R_count 1 (.istore_n 2) 1 2 := ⟨by decide +kernel, rfl⟩
theorem d_R_count_2 : dc cd_R_count 2 (.iconst 0) 1 3 := ⟨by decide +kernel, rfl⟩
theorem d_R_count_3 : dc cd_R_count 3 (.istore_n 3) 1 4 := ⟨by decide +kernel, rfl⟩
theorem d_R_count_4 : dc cd_R_count 4 (.iload_n 3) 1 5 := ⟨by decide +kernel, rfl⟩
theorem d_R_count_5 : dc cd_R_count 5 (.aload_n 0) 1 6 := ⟨by decide +kernel, rfl⟩
theorem d_R_count_6 : dc cd_R_count 6 (.getfield 102) 3 9 := ⟨by decide +kernel, rfl⟩
theorem d_R_count_9 : dc cd_R_count 9 (.if_icmp .ge 26) 3 12 := ⟨by decide +kernel, rfl⟩
theorem d_R_count_12 : dc cd_R_count 12 (.iload_n 2) 1 13 := ⟨by decide +kernel, rfl⟩
theorem d_R_count_13 : dc cd_R_count 13 (.aload_n 0) 1 14 := ⟨by decide +kernel, rfl⟩
theorem d_R_count_14 : dc cd_R_count 14 (.getfield 77) 3 17 := ⟨by decide +kernel, rfl⟩
theorem d_R_count_17 : dc cd_R_count 17 (.iload_n 3) 1 18 := ⟨by decide +kernel, rfl⟩
theorem d_R_count_18 : dc cd_R_count 18 (.baload) 1 19 := ⟨by decide +kernel, rfl⟩
theorem d_R_count_19 : dc cd_R_count 19 (.ifCond .eq 7) 3 22 := ⟨by decide +kernel, rfl⟩
theorem d_R_count_22 : dc cd_R_count 22 (.iconst 1) 1 23 := ⟨by decide +kernel, rfl⟩
theorem d_R_count_23 : dc cd_R_count 23 (.goto 4) 3 26 := ⟨by decide +kernel, rfl⟩
theorem d_R_count_26 : dc cd_R_count 26 (.iconst 0) 1 27 := ⟨by decide +kernel, rfl⟩
theorem d_R_count_27 : dc cd_R_count 27 (.iadd) 1 28 := ⟨by decide +kernel, rfl⟩
theorem d_R_count_28 : dc cd_R_count 28 (.istore_n 2) 1 29 := ⟨by decide +kernel, rfl⟩
theorem d_R_count_29 : dc cd_R_count 29 (.iinc 3 1) 3 32 := ⟨by decide +kernel, rfl⟩
theorem d_R_count_32 : dc cd_R_count 32 (.goto (-28)) 3 35 := ⟨by decide +kernel, rfl⟩
theorem d_R_count_35 : dc cd_R_count 35 (.iload_n 1) 1 36 := ⟨by decide +kernel, rfl⟩
theorem d_R_count_36 : dc cd_R_count 36 (.tableswitch 62 0 4 #[36, 43, 50, 55, 60]) 36 72 := ⟨by decide +kernel, rfl⟩
theorem d_R_count_72 : dc cd_R_count 72 (.aload_n 0) 1 73 := ⟨by decide +kernel, rfl⟩
theorem d_R_count_73 : dc cd_R_count 73 (.getfield 7) 3 76 := ⟨by decide +kernel, rfl⟩
theorem d_R_count_76 : dc cd_R_count 76 (.iconst 0) 1 77 := ⟨by decide +kernel, rfl⟩
theorem d_R_count_77 : dc cd_R_count 77 (.iaload) 1 78 := ⟨by decide +kernel, rfl⟩
theorem d_R_count_78 : dc cd_R_count 78 (.ireturn) 1 79 := ⟨by decide +kernel, rfl⟩
theorem d_R_count_79 : dc cd_R_count 79 (.aload_n 0) 1 80 := ⟨by decide +kernel, rfl⟩
theorem d_R_count_80 : dc cd_R_count 80 (.getfield 7) 3 83 := ⟨by decide +kernel, rfl⟩
theorem d_R_count_83 : dc cd_R_count 83 (.iconst 1) 1 84 := ⟨by decide +kernel, rfl⟩
theorem d_R_count_84 : dc cd_R_count 84 (.iaload) 1 85 := ⟨by decide +kernel, rfl⟩
theorem d_R_count_85 : dc cd_R_count 85 (.ireturn) 1 86 := ⟨by decide +kernel, rfl⟩
theorem d_R_count_86 : dc cd_R_count 86 (.aload_n 0) 1 87 := ⟨by decide +kernel, rfl⟩
theorem d_R_count_87 : dc cd_R_count 87 (.getfield 98) 3 90 := ⟨by decide +kernel, rfl⟩
theorem d_R_count_90 : dc cd_R_count 90 (.ireturn) 1 91 := ⟨by decide +kernel, rfl⟩
theorem d_R_count_91 : dc cd_R_count 91 (.aload_n 0) 1 92 := ⟨by decide +kernel, rfl⟩
theorem d_R_count_92 : dc cd_R_count 92 (.getfield 102) 3 95 := ⟨by decide +kernel, rfl⟩
theorem d_R_count_95 : dc cd_R_count 95 (.ireturn) 1 96 := ⟨by decide +kernel, rfl⟩
theorem d_R_count_96 : dc cd_R_count 96 (.iload_n 2) 1 97 := ⟨by decide +kernel, rfl⟩
theorem d_R_count_97 : dc cd_R_count 97 (.ireturn) 1 98 := ⟨by decide +kernel, rfl⟩
theorem d_R_count_98 : dc cd_R_count 98 (.bipush (-2)) 2 100 := ⟨by decide +kernel, rfl⟩
theorem d_R_count_100 : dc cd_R_count 100 (.ireturn) 1 101 := ⟨by decide +kernel, rfl⟩
theorem d_R_clear_0 : dc cd_R_clear 0 (.aload_n 0) 1 1 := ⟨by decide +kernel, rfl⟩
theorem d_R_clear_1 : dc cd_R_clear 1 (.getfield 102) 3 4 := ⟨by decide +kernel, rfl⟩
theorem d_R_clear_4 : dc cd_R_clear 4 (.istore_n 1) 1 5 := ⟨by decide +kernel, rfl⟩
theorem d_R_clear_5 : dc cd_R_clear 5 (.aload_n 0) 1 6 := ⟨by decide +kernel, rfl⟩
theorem d_R_clear_6 : dc cd_R_clear 6 (.invokevirtual 95) 3 9 := ⟨by decide +kernel, rfl⟩
theorem d_R_clear_9 : dc cd_R_clear 9 (.iload_n 1) 1 10 := ⟨by decide +kernel, rfl⟩
theorem d_R_clear_10 : dc cd_R_clear 10 (.ireturn) 1 11 := ⟨by decide +kernel, rfl⟩
theorem d_Ch_new_0 : dc cd_Ch_new 0 (.aload_n 0) 1 1 := ⟨by decide +kernel, rfl⟩
theorem d_Ch_new_1 : dc cd_Ch_new 1 (.invokespecial 1) 3 4 := ⟨by decide +kernel, rfl⟩
theorem d_Ch_new_4 : dc cd_Ch_new 4 (.aload_n 0) 1 5 := ⟨by decide +kernel, rfl⟩
theorem d_Ch_new_5 : dc cd_Ch_new 5 (.iconst 2) 1 6 := ⟨by decide +kernel, rfl⟩
theorem d_Ch_new_6 : dc cd_Ch_new 6 (.anewarray 7) 3 9 := ⟨by decide +kernel, rfl⟩
theorem d_Ch_new_9 : dc cd_Ch_new 9 (.dup) 1 10 := ⟨by decide +kernel, rfl⟩
theorem d_Ch_new_10 : dc cd_Ch_new 10 (.iconst 0) 1 11 := ⟨by decide +kernel, rfl⟩
theorem d_Ch_new_11 : dc cd_Ch_new 11 (.new 7) 3 14 := ⟨by decide +kernel, rfl⟩
theorem d_Ch_new_14 : dc cd_Ch_new 14 (.dup) 1 15 := ⟨by decide +kernel, rfl⟩
theorem d_Ch_new_15 : dc cd_Ch_new 15 (.invokespecial 9) 3 18 := ⟨by decide +kernel, rfl⟩
theorem d_Ch_new_18 : dc cd_Ch_new 18 (.aastore) 1 19 := ⟨by decide +kernel, rfl⟩
theorem d_Ch_new_19 : dc cd_Ch_new 19 (.dup) 1 20 := ⟨by decide +kernel, rfl⟩
theorem d_Ch_new_20 : dc cd_Ch_new 20 (.iconst 1) 1 21 := ⟨by decide +kernel, rfl⟩
theorem d_Ch_new_21 : dc cd_Ch_new 21 (.new 7) 3 24 := ⟨by decide +kernel, rfl⟩
theorem d_Ch_new_24 : dc cd_Ch_new 24 (.dup) 1 25 := ⟨by decide +kernel, rfl⟩
theorem d_Ch_new_25 : dc cd_Ch_new 25 (.invokespecial 9) 3 28 := ⟨by decide +kernel, rfl⟩
theorem d_Ch_new_28 : dc cd_Ch_new 28 (.aastore) 1 29 := ⟨by decide +kernel, rfl⟩
theorem d_Ch_new_29 : dc cd_Ch_new 29 (.putfield 10) 3 32 := ⟨by decide +kernel, rfl⟩
theorem d_Ch_new_32 : dc cd_Ch_new 32 (.return_) 1 33 := ⟨by decide +kernel, rfl⟩
theorem d_Cl_new_0 : dc cd_Cl_new 0 (.aload_n 0) 1 1 := ⟨by decide +kernel, rfl⟩
theorem d_Cl_new_1 : dc cd_Cl_new 1 (.invokespecial 3) 3 4 := ⟨by decide +kernel, rfl⟩
theorem d_Cl_new_4 : dc cd_Cl_new 4 (.aload_n 0) 1 5 := ⟨by decide +kernel, rfl⟩
theorem d_Cl_new_5 : dc cd_Cl_new 5 (.sipush 201) 3 8 := ⟨by decide +kernel, rfl⟩
theorem d_Cl_new_8 : dc cd_Cl_new 8 (.newarray .int) 2 10 := ⟨by decide +kernel, rfl⟩
theorem d_Cl_new_10 : dc cd_Cl_new 10 (.putfield 9) 3 13 := ⟨by decide +kernel, rfl⟩
theorem d_Cl_new_13 : dc cd_Cl_new 13 (.return_) 1 14 := ⟨by decide +kernel, rfl⟩
theorem d_Cl_howFollowed_0 : dc cd_Cl_howFollowed 0 (.iload_n 1) 1 1 := ⟨by decide +kernel, rfl⟩
theorem d_Cl_howFollowed_1 : dc cd_Cl_howFollowed 1 (.iconst 1) 1 2 := ⟨by decide +kernel, rfl⟩
theorem d_Cl_howFollowed_2 : dc cd_Cl_howFollowed 2 (.sipush 200) 3 5 := ⟨by decide +kernel, rfl⟩
theorem d_Cl_howFollowed_5 : dc cd_Cl_howFollowed 5 (.invokestatic 15) 3 8 := ⟨by decide +kernel, rfl⟩
theorem d_Cl_howFollowed_8 : dc cd_Cl_howFollowed 8 (.ifCond .eq 12) 3 11 := ⟨by decide +kernel, rfl⟩
theorem d_Cl_howFollowed_11 : dc cd_Cl_howFollowed 11 (.aload_n 0) 1 12 := ⟨by decide +kernel, rfl⟩
theorem d_Cl_howFollowed_12 : dc cd_Cl_howFollowed 12 (.getfield 9) 3 15 := ⟨by decide +kernel, rfl⟩
theorem d_Cl_howFollowed_15 : dc cd_Cl_howFollowed 15 (.iload_n 1) 1 16 := ⟨by decide +kernel, rfl⟩
theorem d_Cl_howFollowed_16 : dc cd_Cl_howFollowed 16 (.iaload) 1 17 := ⟨by decide +kernel, rfl⟩
theorem d_Cl_howFollowed_17 : dc cd_Cl_howFollowed 17 (.ifCond .ne 5) 3 20 := ⟨by decide +kernel, rfl⟩
theorem d_Cl_howFollowed_20 : dc cd_Cl_howFollowed 20 (.iconst 0) 1 21 := ⟨by decide +kernel, rfl⟩
theorem d_Cl_howFollowed_21 : dc cd_Cl_howFollowed 21 (.ireturn) 1 22 := ⟨by decide +kernel, rfl⟩
theorem d_Cl_howFollowed_22 : dc cd_Cl_howFollowed 22 (.aload_n 0) 1 23 := ⟨by decide +kernel, rfl⟩
theorem d_Cl_howFollowed_23 : dc cd_Cl_howFollowed 23 (.iload_n 1) 1 24 := ⟨by decide +kernel, rfl⟩
theorem d_Cl_howFollowed_24 : dc cd_Cl_howFollowed 24 (.iconst 0) 1 25 := ⟨by decide +kernel, rfl⟩
theorem d_Cl_howFollowed_25 : dc cd_Cl_howFollowed 25 (.invokevirtual 19) 3 28 := ⟨by decide +kernel, rfl⟩
theorem d_Cl_howFollowed_28 : dc cd_Cl_howFollowed 28 (.ifCond .eq 7) 3 31 := ⟨by decide +kernel, rfl⟩
theorem d_Cl_howFollowed_31 : dc cd_Cl_howFollowed 31 (.iconst 1) 1 32 := ⟨by decide +kernel, rfl⟩
theorem d_Cl_howFollowed_32 : dc cd_Cl_howFollowed 32 (.goto 4) 3 35 := ⟨by decide +kernel, rfl⟩
theorem d_Cl_howFollowed_35 : dc cd_Cl_howFollowed 35 (.iconst 2) 1 36 := ⟨by decide +kernel, rfl⟩
theorem d_Cl_howFollowed_36 : dc cd_Cl_howFollowed 36 (.ireturn) 1 37 := ⟨by decide +kernel, rfl⟩
theorem d_Cl_isToldMark_0 : dc cd_Cl_isToldMark 0 (.iload_n 1) 1 1 := ⟨by decide +kernel, rfl⟩
theorem d_Cl_isToldMark_1 : dc cd_Cl_isToldMark 1 (.iconst 1) 1 2 := ⟨by decide +kernel, rfl⟩
theorem d_Cl_isToldMark_2 : dc cd_Cl_isToldMark 2 (.sipush 200) 3 5 := ⟨by decide +kernel, rfl⟩
theorem d_Cl_isToldMark_5 : dc cd_Cl_isToldMark 5 (.invokestatic 15) 3 8 := ⟨by decide +kernel, rfl⟩
theorem d_Cl_isToldMark_8 : dc cd_Cl_isToldMark 8 (.ifCond .eq 19) 3 11 := ⟨by decide +kernel, rfl⟩
theorem d_Cl_isToldMark_11 : dc cd_Cl_isToldMark 11 (.aload_n 0) 1 12 := ⟨by decide +kernel, rfl⟩
theorem d_Cl_isToldMark_12 : dc cd_Cl_isToldMark 12 (.getfield 9) 3 15 := ⟨by decide +kernel, rfl⟩
theorem d_Cl_isToldMark_15 : dc cd_Cl_isToldMark 15 (.iload_n 1) 1 16 := ⟨by decide +kernel, rfl⟩
theorem d_Cl_isToldMark_16 : dc cd_Cl_isToldMark 16 (.iaload) 1 17 := ⟨by decide +kernel, rfl⟩
theorem d_Cl_isToldMark_17 : dc cd_Cl_isToldMark 17 (.iload_n 2) 1 18 := ⟨by decide +kernel, rfl⟩
theorem d_Cl_isToldMark_18 : dc cd_Cl_isToldMark 18 (.iconst 1) 1 19 := ⟨by decide +kernel, rfl⟩
theorem d_Cl_isToldMark_19 : dc cd_Cl_isToldMark 19 (.iadd) 1 20 := ⟨by decide +kernel, rfl⟩
theorem d_Cl_isToldMark_20 : dc cd_Cl_isToldMark 20 (.if_icmp .ne 7) 3 23 := ⟨by decide +kernel, rfl⟩
theorem d_Cl_isToldMark_23 : dc cd_Cl_isToldMark 23 (.iconst 1) 1 24 := ⟨by decide +kernel, rfl⟩
theorem d_Cl_isToldMark_24 : dc cd_Cl_isToldMark 24 (.goto 4) 3 27 := ⟨by decide +kernel, rfl⟩
theorem d_Cl_isToldMark_27 : dc cd_Cl_isToldMark 27 (.iconst 0) 1 28 := ⟨by decide +kernel, rfl⟩
theorem d_Cl_isToldMark_28 : dc cd_Cl_isToldMark 28 (.ireturn) 1 29 := ⟨by decide +kernel, rfl⟩
theorem d_Cl_add_0 : dc cd_Cl_add 0 (.iload_n 1) 1 1 := ⟨by decide +kernel, rfl⟩
theorem d_Cl_add_1 : dc cd_Cl_add 1 (.iconst 1) 1 2 := ⟨by decide +kernel, rfl⟩
theorem d_Cl_add_2 : dc cd_Cl_add 2 (.sipush 200) 3 5 := ⟨by decide +kernel, rfl⟩
theorem d_Cl_add_5 : dc cd_Cl_add 5 (.invokestatic 15) 3 8 := ⟨by decide +kernel, rfl⟩
theorem d_Cl_add_8 : dc cd_Cl_add 8 (.ifCond .eq 34) 3 11 := ⟨by decide +kernel, rfl⟩
theorem d_Cl_add_11 : dc cd_Cl_add 11 (.aload_n 0) 1 12 := ⟨by decide +kernel, rfl⟩
theorem d_Cl_add_12 : dc cd_Cl_add 12 (.getfield 9) 3 15 := ⟨by decide +kernel, rfl⟩
theorem d_Cl_add_15 : dc cd_Cl_add 15 (.iload_n 1) 1 16 := ⟨by decide +kernel, rfl⟩
theorem d_Cl_add_16 : dc cd_Cl_add 16 (.iload_n 2) 1 17 := ⟨by decide +kernel, rfl⟩
theorem d_Cl_add_17 : dc cd_Cl_add 17 (.iconst 1) 1 18 := ⟨by decide +kernel, rfl⟩
theorem d_Cl_add_18 : dc cd_Cl_add 18 (.iadd) 1 19 := ⟨by decide +kernel, rfl⟩
theorem d_Cl_add_19 : dc cd_Cl_add 19 (.iastore) 1 20 := ⟨by decide +kernel, rfl⟩
theorem d_Cl_add_20 : dc cd_Cl_add 20 (.aload_n 0) 1 21 := ⟨by decide +kernel, rfl⟩
theorem d_Cl_add_21 : dc cd_Cl_add 21 (.aload_n 0) 1 22 := ⟨by decide +kernel, rfl⟩
theorem d_Cl_add_22 : dc cd_Cl_add 22 (.getfield 23) 3 25 := ⟨by decide +kernel, rfl⟩
theorem d_Cl_add_25 : dc cd_Cl_add 25 (.iload_n 1) 1 26 := ⟨by decide +kernel, rfl⟩
theorem d_Cl_add_26 : dc cd_Cl_add 26 (.invokestatic 27) 3 29 := ⟨by decide +kernel, rfl⟩
theorem d_Cl_add_29 : dc cd_Cl_add 29 (.putfield 23) 3 32 := ⟨by decide +kernel, rfl⟩
theorem d_Cl_add_32 : dc cd_Cl_add 32 (.aload_n 0) 1 33 := ⟨by decide +kernel, rfl⟩
theorem d_Cl_add_33 : dc cd_Cl_add 33 (.dup) 1 34 := ⟨by decide +kernel, rfl⟩
theorem d_Cl_add_34 : dc cd_Cl_add 34 (.getfield 33) 3 37 := ⟨by decide +kernel, rfl⟩
theorem d_Cl_add_37 : dc cd_Cl_add 37 (.iconst 1) 1 38 := ⟨by decide +kernel, rfl⟩
theorem d_Cl_add_38 : dc cd_Cl_add 38 (.iadd) 1 39 := ⟨by decide +kernel, rfl⟩
theorem d_Cl_add_39 : dc cd_Cl_add 39 (.putfield 33) 3 42 := ⟨by decide +kernel, rfl⟩
theorem d_Cl_add_42 : dc cd_Cl_add 42 (.return_) 1 43 := ⟨by decide +kernel, rfl⟩
theorem d_Cl_refusal_0 : dc cd_Cl_refusal 0 (.aload_n 0) 1 1 := ⟨by decide +kernel, rfl⟩
theorem d_Cl_refusal_1 : dc cd_Cl_refusal 1 (.getfield 36) 3 4 := ⟨by decide +kernel, rfl⟩
theorem d_Cl_refusal_4 : dc cd_Cl_refusal 4 (.ifCond .eq 6) 3 7 := ⟨by decide +kernel, rfl⟩
theorem d_Cl_refusal_7 : dc cd_Cl_refusal 7 (.bipush (-4)) 2 9 := ⟨by decide +kernel, rfl⟩
theorem d_Cl_refusal_9 : dc cd_Cl_refusal 9 (.ireturn) 1 10 := ⟨by decide +kernel, rfl⟩
theorem d_Cl_refusal_10 : dc cd_Cl_refusal 10 (.aload_n 0) 1 11 := ⟨by decide +kernel, rfl⟩
theorem d_Cl_refusal_11 : dc cd_Cl_refusal 11 (.iload_n 1) 1 12 := ⟨by decide +kernel, rfl⟩
theorem d_Cl_refusal_12 : dc cd_Cl_refusal 12 (.invokevirtual 40) 3 15 := ⟨by decide +kernel, rfl⟩
theorem d_Cl_refusal_15 : dc cd_Cl_refusal 15 (.iconst 1) 1 16 := ⟨by decide +kernel, rfl⟩
theorem d_Cl_refusal_16 : dc cd_Cl_refusal 16 (.if_icmp .ne 7) 3 19 := ⟨by decide +kernel, rfl⟩
theorem d_Cl_refusal_19 : dc cd_Cl_refusal 19 (.iconst 0) 1 20 := ⟨by decide +kernel, rfl⟩
theorem d_Cl_refusal_20 : dc cd_Cl_refusal 20 (.goto 5) 3 23 := ⟨by decide +kernel, rfl⟩
theorem d_Cl_refusal_23 : dc cd_Cl_refusal 23 (.bipush (-5)) 2 25 := ⟨by decide +kernel, rfl⟩
theorem d_Cl_refusal_25 : dc cd_Cl_refusal 25 (.ireturn) 1 26 := ⟨by decide +kernel, rfl⟩
theorem d_Cl_forgetAll_0 : dc cd_Cl_forgetAll 0 (.aload_n 0) 1 1 := ⟨by decide +kernel, rfl⟩
theorem d_Cl_forgetAll_1 : dc cd_Cl_forgetAll 1 (.getfield 9) 3 4 := ⟨by decide +kernel, rfl⟩
theorem d_Cl_forgetAll_4 : dc cd_Cl_forgetAll 4 (.iconst 0) 1 5 := ⟨by decide +kernel, rfl⟩
theorem d_Cl_forgetAll_5 : dc cd_Cl_forgetAll 5 (.invokestatic 44) 3 8 := ⟨by decide +kernel, rfl⟩
theorem d_Cl_forgetAll_8 : dc cd_Cl_forgetAll 8 (.aload_n 0) 1 9 := ⟨by decide +kernel, rfl⟩
theorem d_Cl_forgetAll_9 : dc cd_Cl_forgetAll 9 (.iconst 0) 1 10 := ⟨by decide +kernel, rfl⟩
theorem d_Cl_forgetAll_10 : dc cd_Cl_forgetAll 10 (.putfield 36) 3 13 := ⟨by decide +kernel, rfl⟩
theorem d_Cl_forgetAll_13 : dc cd_Cl_forgetAll 13 (.aload_n 0) 1 14 := ⟨by decide +kernel, rfl⟩
theorem d_Cl_forgetAll_14 : dc cd_Cl_forgetAll 14 (.iconst 0) 1 15 := ⟨by decide +kernel, rfl⟩
theorem d_Cl_forgetAll_15 : dc cd_Cl_forgetAll 15 (.putfield 23) 3 18 := ⟨by decide +kernel, rfl⟩
theorem d_Cl_forgetAll_18 : dc cd_Cl_forgetAll 18 (.aload_n 0) 1 19 := ⟨by decide +kernel, rfl⟩
theorem d_Cl_forgetAll_19 : dc cd_Cl_forgetAll 19 (.iconst 0) 1 20 := ⟨by decide +kernel, rfl⟩
theorem d_Cl_forgetAll_20 : dc cd_Cl_forgetAll 20 (.putfield 33) 3 23 := ⟨by decide +kernel, rfl⟩
theorem d_Cl_forgetAll_23 : dc cd_Cl_forgetAll 23 (.return_) 1 24 := ⟨by decide +kernel, rfl⟩
theorem d_En_new_0 : dc cd_En_new 0 (.aload_n 0) 1 1 := ⟨by decide +kernel, rfl⟩
theorem d_En_new_1 : dc cd_En_new 1 (.invokespecial 3) 3 4 := ⟨by decide +kernel, rfl⟩
theorem d_En_new_4 : dc cd_En_new 4 (.aload_n 0) 1 5 := ⟨by decide +kernel, rfl⟩
theorem d_En_new_5 : dc cd_En_new 5 (.iconst 5) 1 6 := ⟨by decide +kernel, rfl⟩
theorem d_En_new_6 : dc cd_En_new 6 (.newarray .int) 2 8 := ⟨by decide +kernel, rfl⟩
theorem d_En_new_8 : dc cd_En_new 8 (.putfield 9) 3 11 := ⟨by decide +kernel, rfl⟩
theorem d_En_new_11 : dc cd_En_new 11 (.aload_n 0) 1 12 := ⟨by decide +kernel, rfl⟩
theorem d_En_new_12 : dc cd_En_new 12 (.iconst 4) 1 13 := ⟨by decide +kernel, rfl⟩
theorem d_En_new_13 : dc cd_En_new 13 (.newarray .int) 2 15 := ⟨by decide +kernel, rfl⟩
theorem d_En_new_15 : dc cd_En_new 15 (.putfield 15) 3 18 := ⟨by decide +kernel, rfl⟩
theorem d_En_new_18 : dc cd_En_new 18 (.return_) 1 19 := ⟨by decide +kernel, rfl⟩
theorem d_En_comeTo_0 : dc cd_En_comeTo 0 (.iload_n 1) 1 1 := ⟨by decide +kernel, rfl⟩
theorem d_En_comeTo_1 : dc cd_En_comeTo 1 (.iconst 1) 1 2 := ⟨by decide +kernel, rfl⟩
theorem d_En_comeTo_2 : dc cd_En_comeTo 2 (.iconst 4) 1 3 := ⟨by decide +kernel, rfl⟩
theorem d_En_comeTo_3 : dc cd_En_comeTo 3 (.invokestatic 18) 3 6 := ⟨by decide +kernel, rfl⟩
theorem d_En_comeTo_6 : dc cd_En_comeTo 6 (.ifCond .eq 15) 3 9 := ⟨by decide +kernel, rfl⟩
theorem d_En_comeTo_9 : dc cd_En_comeTo 9 (.aload_n 0) 1 10 := ⟨by decide +kernel, rfl⟩
theorem d_En_comeTo_10 : dc cd_En_comeTo 10 (.iload_n 1) 1 11 := ⟨by decide +kernel, rfl⟩
theorem d_En_comeTo_11 : dc cd_En_comeTo 11 (.putfield 22) 3 14 := ⟨by decide +kernel, rfl⟩
theorem d_En_comeTo_14 : dc cd_En_comeTo 14 (.aload_n 0) 1 15 := ⟨by decide +kernel, rfl⟩
theorem d_En_comeTo_15 : dc cd_En_comeTo 15 (.getfield 9) 3 18 := ⟨by decide +kernel, rfl⟩
theorem d_En_comeTo_18 : dc cd_En_comeTo 18 (.iload_n 1) 1 19 := ⟨by decide +kernel, rfl⟩
theorem d_En_comeTo_19 : dc cd_En_comeTo 19 (.iload_n 2) 1 20 := ⟨by decide +kernel, rfl⟩
theorem d_En_comeTo_20 : dc cd_En_comeTo 20 (.iastore) 1 21 := ⟨by decide +kernel, rfl⟩
theorem d_En_comeTo_21 : dc cd_En_comeTo 21 (.return_) 1 22 := ⟨by decide +kernel, rfl⟩
theorem d_En_stepIn_0 : dc cd_En_stepIn 0 (.iconst 4) 1 1 := ⟨by decide +kernel, rfl⟩
theorem d_En_stepIn_1 : dc cd_En_stepIn 1 (.istore_n 2) 1 2 := ⟨by decide +kernel, rfl⟩
theorem d_En_stepIn_2 : dc cd_En_stepIn 2 (.iload_n 2) 1 3 := ⟨by decide +kernel, rfl⟩
theorem d_En_stepIn_3 : dc cd_En_stepIn 3 (.ifCond .le 21) 3 6 := ⟨by decide +kernel, rfl⟩
theorem d_En_stepIn_6 : dc cd_En_stepIn 6 (.aload_n 0) 1 7 := ⟨by decide +kernel, rfl⟩
theorem d_En_stepIn_7 : dc cd_En_stepIn 7 (.getfield 9) 3 10 := ⟨by decide +kernel, rfl⟩
theorem d_En_stepIn_10 : dc cd_En_stepIn 10 (.iload_n 2) 1 11 := ⟨by decide +kernel, rfl⟩
theorem d_En_stepIn_11 : dc cd_En_stepIn 11 (.iaload) 1 12 := ⟨by decide +kernel, rfl⟩
theorem d_En_stepIn_12 : dc cd_En_stepIn 12 (.iload_n 1) 1 13 := ⟨by decide +kernel, rfl⟩
theorem d_En_stepIn_13 : dc cd_En_stepIn 13 (.if_icmp .ge 5) 3 16 := ⟨by decide +kernel, rfl⟩
theorem d_En_stepIn_16 : dc cd_En_stepIn 16 (.iload_n 2) 1 17 := ⟨by decide +kernel, rfl⟩
theorem d_En_stepIn_17 : dc cd_En_stepIn 17 (.ireturn) 1 18 := ⟨by decide +kernel, rfl⟩
theorem d_En_stepIn_18 : dc cd_En_stepIn 18 (.iinc 2 (-1)) 3 21 := ⟨by decide +kernel, rfl⟩
theorem d_En_stepIn_21 : dc cd_En_stepIn 21 (.goto (-19)) 3 24 := ⟨by decide +kernel, rfl⟩
theorem d_En_stepIn_24 : dc cd_En_stepIn 24 (.iconst 0) 1 25 := ⟨by decide +kernel, rfl⟩
theorem d_En_stepIn_25 : dc cd_En_stepIn 25 (.ireturn) 1 26 := ⟨by decide +kernel, rfl⟩
theorem d_En_beginAnew_0 : dc cd_En_beginAnew 0 (.aload_n 0) 1 1 := ⟨by decide +kernel, rfl⟩
theorem d_En_beginAnew_1 : dc cd_En_beginAnew 1 (.getfield 9) 3 4 := ⟨by decide +kernel, rfl⟩
theorem d_En_beginAnew_4 : dc cd_En_beginAnew 4 (.sipush 201) 3 7 := ⟨by decide +kernel, rfl⟩
theorem d_En_beginAnew_7 : dc cd_En_beginAnew 7 (.invokestatic 26) 3 10 := ⟨by decide +kernel, rfl⟩
theorem d_En_beginAnew_10 : dc cd_En_beginAnew 10 (.aload_n 0) 1 11 := ⟨by decide +kernel, rfl⟩
theorem d_En_beginAnew_11 : dc cd_En_beginAnew 11 (.getfield 15) 3 14 := ⟨by decide +kernel, rfl⟩
theorem d_En_beginAnew_14 : dc cd_En_beginAnew 14 (.iconst 0) 1 15 := ⟨by decide +kernel, rfl⟩
theorem d_En_beginAnew_15 : dc cd_En_beginAnew 15 (.invokestatic 26) 3 18 := ⟨by decide +kernel, rfl⟩
theorem d_En_beginAnew_18 : dc cd_En_beginAnew 18 (.aload_n 0) 1 19 := ⟨by decide +kernel, rfl⟩
theorem d_En_beginAnew_19 : dc cd_En_beginAnew 19 (.iconst 0) 1 20 := ⟨by decide +kernel, rfl⟩
theorem d_En_beginAnew_20 : dc cd_En_beginAnew 20 (.putfield 22) 3 23 := ⟨by decide +kernel, rfl⟩
theorem d_En_beginAnew_23 : dc cd_En_beginAnew 23 (.aload_n 0) 1 24 := ⟨by decide +kernel, rfl⟩
theorem d_En_beginAnew_24 : dc cd_En_beginAnew 24 (.iconst 0) 1 25 := ⟨by decide +kernel, rfl⟩
theorem d_En_beginAnew_25 : dc cd_En_beginAnew 25 (.putfield 32) 3 28 := ⟨by decide +kernel, rfl⟩
theorem d_En_beginAnew_28 : dc cd_En_beginAnew 28 (.aload_n 0) 1 29 := ⟨by decide +kernel, rfl⟩
theorem d_En_beginAnew_29 : dc cd_En_beginAnew 29 (.iconst 0) 1 30 := ⟨by decide +kernel, rfl⟩
theorem d_En_beginAnew_30 : dc cd_En_beginAnew 30 (.putfield 35) 3 33 := ⟨by decide +kernel, rfl⟩
theorem d_En_beginAnew_33 : dc cd_En_beginAnew 33 (.aload_n 0) 1 34 := ⟨by decide +kernel, rfl⟩
theorem d_En_beginAnew_34 : dc cd_En_beginAnew 34 (.iconst 0) 1 35 := ⟨by decide +kernel, rfl⟩
theorem d_En_beginAnew_35 : dc cd_En_beginAnew 35 (.putfield 38) 3 38 := ⟨by decide +kernel, rfl⟩
theorem d_En_beginAnew_38 : dc cd_En_beginAnew 38 (.aload_n 0) 1 39 := ⟨by decide +kernel, rfl⟩
theorem d_En_beginAnew_39 : dc cd_En_beginAnew 39 (.iconst 0) 1 40 := ⟨by decide +kernel, rfl⟩
theorem d_En_beginAnew_40 : dc cd_En_beginAnew 40 (.putfield 41) 3 43 := ⟨by decide +kernel, rfl⟩
theorem d_En_beginAnew_43 : dc cd_En_beginAnew 43 (.aload_n 0) 1 44 := ⟨by decide +kernel, rfl⟩
theorem d_En_beginAnew_44 : dc cd_En_beginAnew 44 (.iconst 0) 1 45 := ⟨by decide +kernel, rfl⟩
theorem d_En_beginAnew_45 : dc cd_En_beginAnew 45 (.putfield 44) 3 48 := ⟨by decide +kernel, rfl⟩
theorem d_En_beginAnew_48 : dc cd_En_beginAnew 48 (.return_) 1 49 := ⟨by decide +kernel, rfl⟩
theorem d_Le_new_0 : dc cd_Le_new 0 (.aload_n 0) 1 1 := ⟨by decide +kernel, rfl⟩
theorem d_Le_new_1 : dc cd_Le_new 1 (.invokespecial 3) 3 4 := ⟨by decide +kernel, rfl⟩
theorem d_Le_new_4 : dc cd_Le_new 4 (.aload_n 0) 1 5 := ⟨by decide +kernel, rfl⟩
theorem d_Le_new_5 : dc cd_Le_new 5 (.iconst 4) 1 6 := ⟨by decide +kernel, rfl⟩
theorem d_Le_new_6 : dc cd_Le_new 6 (.newarray .int) 2 8 := ⟨by decide +kernel, rfl⟩
theorem d_Le_new_8 : dc cd_Le_new 8 (.putfield 9) 3 11 := ⟨by decide +kernel, rfl⟩
theorem d_Le_new_11 : dc cd_Le_new 11 (.aload_n 0) 1 12 := ⟨by decide +kernel, rfl⟩
theorem d_Le_new_12 : dc cd_Le_new 12 (.new 15) 3 15 := ⟨by decide +kernel, rfl⟩
theorem d_Le_new_15 : dc cd_Le_new 15 (.dup) 1 16 := ⟨by decide +kernel, rfl⟩
theorem d_Le_new_16 : dc cd_Le_new 16 (.invokespecial 17) 3 19 := ⟨by decide +kernel, rfl⟩
theorem d_Le_new_19 : dc cd_Le_new 19 (.putfield 18) 3 22 := ⟨by decide +kernel, rfl⟩
theorem d_Le_new_22 : dc cd_Le_new 22 (.return_) 1 23 := ⟨by decide +kernel, rfl⟩
theorem d_Le_beginAnew_0 : dc cd_Le_beginAnew 0 (.aload_n 0) 1 1 := ⟨by decide +kernel, rfl⟩
theorem d_Le_beginAnew_1 : dc cd_Le_beginAnew 1 (.getfield 9) 3 4 := ⟨by decide +kernel, rfl⟩
theorem d_Le_beginAnew_4 : dc cd_Le_beginAnew 4 (.sipush 1000) 3 7 := ⟨by decide +kernel, rfl⟩
theorem d_Le_beginAnew_7 : dc cd_Le_beginAnew 7 (.invokestatic 22) 3 10 := ⟨by decide +kernel, rfl⟩
theorem d_Le_beginAnew_10 : dc cd_Le_beginAnew 10 (.aload_n 0) 1 11 := ⟨by decide +kernel, rfl⟩
theorem d_Le_beginAnew_11 : dc cd_Le_beginAnew 11 (.getfield 18) 3 14 := ⟨by decide +kernel, rfl⟩
theorem d_Le_beginAnew_14 : dc cd_Le_beginAnew 14 (.invokevirtual 28) 3 17 := ⟨by decide +kernel, rfl⟩
theorem d_Le_beginAnew_17 : dc cd_Le_beginAnew 17 (.aload_n 0) 1 18 := ⟨by decide +kernel, rfl⟩
theorem d_Le_beginAnew_18 : dc cd_Le_beginAnew 18 (.iconst 0) 1 19 := ⟨by decide +kernel, rfl⟩
theorem d_Le_beginAnew_19 : dc cd_Le_beginAnew 19 (.putfield 31) 3 22 := ⟨by decide +kernel, rfl⟩
theorem d_Le_beginAnew_22 : dc cd_Le_beginAnew 22 (.return_) 1 23 := ⟨by decide +kernel, rfl⟩
theorem d_Me_new_0 : dc cd_Me_new 0 (.aload_n 0) 1 1 := ⟨by decide +kernel, rfl⟩
theorem d_Me_new_1 : dc cd_Me_new 1 (.invokespecial 3) 3 4 := ⟨by decide +kernel, rfl⟩
theorem d_Me_new_4 : dc cd_Me_new 4 (.return_) 1 5 := ⟨by decide +kernel, rfl⟩
theorem d_Me_beginToStand_0 : dc cd_Me_beginToStand 0 (.aload_n 0) 1 1 := ⟨by decide +kernel, rfl⟩
theorem d_Me_beginToStand_1 : dc cd_Me_beginToStand 1 (.iconst 1) 1 2 := ⟨by decide +kernel, rfl⟩
theorem d_Me_beginToStand_2 : dc cd_Me_beginToStand 2 (.putfield 9) 3 5 := ⟨by decide +kernel, rfl⟩
theorem d_Me_beginToStand_5 : dc cd_Me_beginToStand 5 (.aload_n 0) 1 6 := ⟨by decide +kernel, rfl⟩
theorem d_Me_beginToStand_6 : dc cd_Me_beginToStand 6 (.iconst 0) 1 7 := ⟨by decide +kernel, rfl⟩
theorem d_Me_beginToStand_7 : dc cd_Me_beginToStand 7 (.putfield 15) 3 10 := ⟨by decide +kernel, rfl⟩
theorem d_Me_beginToStand_10 : dc cd_Me_beginToStand 10 (.aload_n 0) 1 11 := ⟨by decide +kernel, rfl⟩
theorem d_Me_beginToStand_11 : dc cd_Me_beginToStand 11 (.iconst 0) 1 12 := ⟨by decide +kernel, rfl⟩
theorem d_Me_beginToStand_12 : dc cd_Me_beginToStand 12 (.putfield 18) 3 15 := ⟨by decide +kernel, rfl⟩
theorem d_Me_beginToStand_15 : dc cd_Me_beginToStand 15 (.aload_n 0) 1 16 := ⟨by decide +kernel, rfl⟩
theorem d_Me_beginToStand_16 : dc cd_Me_beginToStand 16 (.iload_n 1) 1 17 := ⟨by decide +kernel, rfl⟩
theorem d_Me_beginToStand_17 : dc cd_Me_beginToStand 17 (.putfield 22) 3 20 := ⟨by decide +kernel, rfl⟩
theorem d_Me_beginToStand_20 : dc cd_Me_beginToStand 20 (.aload_n 0) 1 21 := ⟨by decide +kernel, rfl⟩
theorem d_Me_beginToStand_21 : dc cd_Me_beginToStand 21 (.sipush 201) 3 24 := ⟨by decide +kernel, rfl⟩
theorem d_Me_beginToStand_24 : dc cd_Me_beginToStand 24 (.putfield 25) 3 27 := ⟨by decide +kernel, rfl⟩
theorem d_Me_beginToStand_27 : dc cd_Me_beginToStand 27 (.aload_n 0) 1 28 := ⟨by decide +kernel, rfl⟩
theorem d_Me_beginToStand_28 : dc cd_Me_beginToStand 28 (.sipush 201) 3 31 := ⟨by decide +kernel, rfl⟩
theorem d_Me_beginToStand_31 : dc cd_Me_beginToStand 31 (.putfield 28) 3 34 := ⟨by decide +kernel, rfl⟩
theorem d_Me_beginToStand_34 : dc cd_Me_beginToStand 34 (.return_) 1 35 := ⟨by decide +kernel, rfl⟩
theorem d_Me_isOfSameEnd_0 : dc cd_Me_isOfSameEnd 0 (.aload_n 0) 1 1 := ⟨by decide +kernel, rfl⟩
theorem d_Me_isOfSameEnd_1 : dc cd_Me_isOfSameEnd 1 (.getfield 31) 3 4 := ⟨by decide +kernel, rfl⟩
theorem d_Me_isOfSameEnd_4 : dc cd_Me_isOfSameEnd 4 (.aload_n 1) 1 5 := ⟨by decide +kernel, rfl⟩
theorem d_Me_isOfSameEnd_5 : dc cd_Me_isOfSameEnd 5 (.getfield 31) 3 8 := ⟨by decide +kernel, rfl⟩
theorem d_Me_isOfSameEnd_8 : dc cd_Me_isOfSameEnd 8 (.if_icmp .ne 18) 3 11 := ⟨by decide +kernel, rfl⟩
theorem d_Me_isOfSameEnd_11 : dc cd_Me_isOfSameEnd 11 (.aload_n 0) 1 12 := ⟨by decide +kernel, rfl⟩
theorem d_Me_isOfSameEnd_12 : dc cd_Me_isOfSameEnd 12 (.getfield 34) 3 15 := ⟨by decide +kernel, rfl⟩
theorem d_Me_isOfSameEnd_15 : dc cd_Me_isOfSameEnd 15 (.aload_n 1) 1 16 := ⟨by decide +kernel, rfl⟩
theorem d_Me_isOfSameEnd_16 : dc cd_Me_isOfSameEnd 16 (.getfield 34) 3 19 := ⟨by decide +kernel, rfl⟩
theorem d_Me_isOfSameEnd_19 : dc cd_Me_isOfSameEnd 19 (.if_icmp .ne 7) 3 22 := ⟨by decide +kernel, rfl⟩
theorem d_Me_isOfSameEnd_22 : dc cd_Me_isOfSameEnd 22 (.iconst 1) 1 23 := ⟨by decide +kernel, rfl⟩
theorem d_Me_isOfSameEnd_23 : dc cd_Me_isOfSameEnd 23 (.goto 4) 3 26 := ⟨by decide +kernel, rfl⟩
theorem d_Me_isOfSameEnd_26 : dc cd_Me_isOfSameEnd 26 (.iconst 0) 1 27 := ⟨by decide +kernel, rfl⟩
theorem d_Me_isOfSameEnd_27 : dc cd_Me_isOfSameEnd 27 (.ireturn) 1 28 := ⟨by decide +kernel, rfl⟩
theorem d_Me_standsIn_0 : dc cd_Me_standsIn 0 (.aload_n 0) 1 1 := ⟨by decide +kernel, rfl⟩
theorem d_Me_standsIn_1 : dc cd_Me_standsIn 1 (.getfield 22) 3 4 := ⟨by decide +kernel, rfl⟩
theorem d_Me_standsIn_4 : dc cd_Me_standsIn 4 (.iload_n 1) 1 5 := ⟨by decide +kernel, rfl⟩
theorem d_Me_standsIn_5 : dc cd_Me_standsIn 5 (.if_icmp .ge 15) 3 8 := ⟨by decide +kernel, rfl⟩
theorem d_Me_standsIn_8 : dc cd_Me_standsIn 8 (.iload_n 1) 1 9 := ⟨by decide +kernel, rfl⟩
theorem d_Me_standsIn_9 : dc cd_Me_standsIn 9 (.aload_n 0) 1 10 := ⟨by decide +kernel, rfl⟩
theorem d_Me_standsIn_10 : dc cd_Me_standsIn 10 (.getfield 25) 3 13 := ⟨by decide +kernel, rfl⟩
theorem d_Me_standsIn_13 : dc cd_Me_standsIn 13 (.if_icmp .gt 7) 3 16 := ⟨by decide +kernel, rfl⟩
theorem d_Me_standsIn_16 : dc cd_Me_standsIn 16 (.iconst 1) 1 17 := ⟨by decide +kernel, rfl⟩
end
section
theorem d_Me_standsIn_17 : dc cd_Me_standsIn 17 (.goto 4) 3 20 := ⟨by decide +kernel, rfl⟩
theorem d_Me_standsIn_20 : dc cd_Me_standsIn 20 (.iconst 0) 1 21 := ⟨by decide +kernel, rfl⟩
theorem d_Me_standsIn_21 : dc cd_Me_standsIn 21 (.ireturn) 1 22 := ⟨by decide +kernel, rfl⟩
theorem d_Me_isReceivedIn_0 : dc cd_Me_isReceivedIn 0 (.aload_n 0) 1 1 := ⟨by decide +kernel, rfl⟩
theorem d_Me_isReceivedIn_1 : dc cd_Me_isReceivedIn 1 (.getfield 28) 3 4 := ⟨by decide +kernel, rfl⟩
theorem d_Me_isReceivedIn_4 : dc cd_Me_isReceivedIn 4 (.iload_n 1) 1 5 := ⟨by decide +kernel, rfl⟩
theorem d_Me_isReceivedIn_5 : dc cd_Me_isReceivedIn 5 (.if_icmp .ge 7) 3 8 := ⟨by decide +kernel, rfl⟩
theorem d_Me_isReceivedIn_8 : dc cd_Me_isReceivedIn 8 (.iconst 1) 1 9 := ⟨by decide +kernel, rfl⟩
theorem d_Me_isReceivedIn_9 : dc cd_Me_isReceivedIn 9 (.goto 4) 3 12 := ⟨by decide +kernel, rfl⟩
theorem d_Me_isReceivedIn_12 : dc cd_Me_isReceivedIn 12 (.iconst 0) 1 13 := ⟨by decide +kernel, rfl⟩
theorem d_Me_isReceivedIn_13 : dc cd_Me_isReceivedIn 13 (.ireturn) 1 14 := ⟨by decide +kernel, rfl⟩
theorem d_law_law_0 : dc code 0 (.new 7) 3 3 := ⟨by decide +kernel, rfl⟩
theorem d_law_law_3 : dc code 3 (.dup) 1 4 := ⟨by decide +kernel, rfl⟩
theorem d_law_law_4 : dc code 4 (.invokespecial 9) 3 7 := ⟨by decide +kernel, rfl⟩
theorem d_law_law_7 : dc code 7 (.astore_n 1) 1 8 := ⟨by decide +kernel, rfl⟩
theorem d_law_law_8 : dc code 8 (.new 10) 3 11 := ⟨by decide +kernel, rfl⟩
theorem d_law_law_11 : dc code 11 (.dup) 1 12 := ⟨by decide +kernel, rfl⟩
theorem d_law_law_12 : dc code 12 (.invokespecial 12) 3 15 := ⟨by decide +kernel, rfl⟩
theorem d_law_law_15 : dc code 15 (.astore_n 2) 1 16 := ⟨by decide +kernel, rfl⟩
theorem d_law_law_16 : dc code 16 (.iconst 0) 1 17 := ⟨by decide +kernel, rfl⟩
theorem d_law_law_17 : dc code 17 (.istore_n 3) 1 18 := ⟨by decide +kernel, rfl⟩
theorem d_law_law_18 : dc code 18 (.iload_n 3) 1 19 := ⟨by decide +kernel, rfl⟩
theorem d_law_law_19 : dc code 19 (.aload_n 0) 1 20 := ⟨by decide +kernel, rfl⟩
theorem d_law_law_20 : dc code 20 (.arraylength) 1 21 := ⟨by decide +kernel, rfl⟩
theorem d_law_law_21 : dc code 21 (.bipush 8) 2 23 := ⟨by decide +kernel, rfl⟩
theorem d_law_law_23 : dc code 23 (.isub) 1 24 := ⟨by decide +kernel, rfl⟩
theorem d_law_law_24 : dc code 24 (.if_icmp .gt 981) 3 27 := ⟨by decide +kernel, rfl⟩
theorem d_law_law_27 : dc code 27 (.aload_n 0) 1 28 := ⟨by decide +kernel, rfl⟩
theorem d_law_law_28 : dc code 28 (.iload_n 3) 1 29 := ⟨by decide +kernel, rfl⟩
theorem d_law_law_29 : dc code 29 (.iaload) 1 30 := ⟨by decide +kernel, rfl⟩
theorem d_law_law_30 : dc code 30 (.bipush 31) 2 32 := ⟨by decide +kernel, rfl⟩
theorem d_law_law_32 : dc code 32 (.iand) 1 33 := ⟨by decide +kernel, rfl⟩
theorem d_law_law_33 : dc code 33 (.tableswitch 966 0 22 #[107, 130, 173, 196, 229, 262, 321, 364, 397, 430, 463, 506, 593, 626, 659, 692, 735, 778, 811, 854, 897, 930, 953]) 107 140 := ⟨by decide +kernel, rfl⟩
theorem d_law_law_140 : dc code 140 (.aload_n 1) 1 141 := ⟨by decide +kernel, rfl⟩
theorem d_law_law_141 : dc code 141 (.aload_n 0) 1 142 := ⟨by decide +kernel, rfl⟩
theorem d_law_law_142 : dc code 142 (.iload_n 3) 1 143 := ⟨by decide +kernel, rfl⟩
theorem d_law_law_143 : dc code 143 (.iconst 1) 1 144 := ⟨by decide +kernel, rfl⟩
theorem d_law_law_144 : dc code 144 (.iadd) 1 145 := ⟨by decide +kernel, rfl⟩
theorem d_law_law_145 : dc code 145 (.iaload) 1 146 := ⟨by decide +kernel, rfl⟩
theorem d_law_law_146 : dc code 146 (.invokevirtual 13) 3 149 := ⟨by decide +kernel, rfl⟩
theorem d_law_law_149 : dc code 149 (.aload_n 2) 1 150 := ⟨by decide +kernel, rfl⟩
theorem d_law_law_150 : dc code 150 (.aload_n 0) 1 151 := ⟨by decide +kernel, rfl⟩
theorem d_law_law_151 : dc code 151 (.iload_n 3) 1 152 := ⟨by decide +kernel, rfl⟩
theorem d_law_law_152 : dc code 152 (.iconst 1) 1 153 := ⟨by decide +kernel, rfl⟩
theorem d_law_law_153 : dc code 153 (.iadd) 1 154 := ⟨by decide +kernel, rfl⟩
theorem d_law_law_154 : dc code 154 (.iaload) 1 155 := ⟨by decide +kernel, rfl⟩
theorem d_law_law_155 : dc code 155 (.invokevirtual 17) 3 158 := ⟨by decide +kernel, rfl⟩
theorem d_law_law_158 : dc code 158 (.if_icmp .eq 841) 3 161 := ⟨by decide +kernel, rfl⟩
theorem d_law_law_161 : dc code 161 (.iconst 0) 1 162 := ⟨by decide +kernel, rfl⟩
theorem d_law_law_162 : dc code 162 (.ireturn) 1 163 := ⟨by decide +kernel, rfl⟩
theorem d_law_law_163 : dc code 163 (.aload_n 1) 1 164 := ⟨by decide +kernel, rfl⟩
theorem d_law_law_164 : dc code 164 (.aload_n 0) 1 165 := ⟨by decide +kernel, rfl⟩
theorem d_law_law_165 : dc code 165 (.iload_n 3) 1 166 := ⟨by decide +kernel, rfl⟩
theorem d_law_law_166 : dc code 166 (.iconst 1) 1 167 := ⟨by decide +kernel, rfl⟩
theorem d_law_law_167 : dc code 167 (.iadd) 1 168 := ⟨by decide +kernel, rfl⟩
theorem d_law_law_168 : dc code 168 (.iaload) 1 169 := ⟨by decide +kernel, rfl⟩
theorem d_law_law_169 : dc code 169 (.aload_n 0) 1 170 := ⟨by decide +kernel, rfl⟩
theorem d_law_law_170 : dc code 170 (.iload_n 3) 1 171 := ⟨by decide +kernel, rfl⟩
theorem d_law_law_171 : dc code 171 (.iconst 2) 1 172 := ⟨by decide +kernel, rfl⟩
theorem d_law_law_172 : dc code 172 (.iadd) 1 173 := ⟨by decide +kernel, rfl⟩
theorem d_law_law_173 : dc code 173 (.iaload) 1 174 := ⟨by decide +kernel, rfl⟩
theorem d_law_law_174 : dc code 174 (.aload_n 0) 1 175 := ⟨by decide +kernel, rfl⟩
theorem d_law_law_175 : dc code 175 (.iload_n 3) 1 176 := ⟨by decide +kernel, rfl⟩
theorem d_law_law_176 : dc code 176 (.iconst 3) 1 177 := ⟨by decide +kernel, rfl⟩
theorem d_law_law_177 : dc code 177 (.iadd) 1 178 := ⟨by decide +kernel, rfl⟩
theorem d_law_law_178 : dc code 178 (.iaload) 1 179 := ⟨by decide +kernel, rfl⟩
theorem d_law_law_179 : dc code 179 (.invokevirtual 18) 3 182 := ⟨by decide +kernel, rfl⟩
theorem d_law_law_182 : dc code 182 (.aload_n 2) 1 183 := ⟨by decide +kernel, rfl⟩
theorem d_law_law_183 : dc code 183 (.aload_n 0) 1 184 := ⟨by decide +kernel, rfl⟩
theorem d_law_law_184 : dc code 184 (.iload_n 3) 1 185 := ⟨by decide +kernel, rfl⟩
theorem d_law_law_185 : dc code 185 (.iconst 1) 1 186 := ⟨by decide +kernel, rfl⟩
theorem d_law_law_186 : dc code 186 (.iadd) 1 187 := ⟨by decide +kernel, rfl⟩
theorem d_law_law_187 : dc code 187 (.iaload) 1 188 := ⟨by decide +kernel, rfl⟩
theorem d_law_law_188 : dc code 188 (.aload_n 0) 1 189 := ⟨by decide +kernel, rfl⟩
theorem d_law_law_189 : dc code 189 (.iload_n 3) 1 190 := ⟨by decide +kernel, rfl⟩
theorem d_law_law_190 : dc code 190 (.iconst 2) 1 191 := ⟨by decide +kernel, rfl⟩
theorem d_law_law_191 : dc code 191 (.iadd) 1 192 := ⟨by decide +kernel, rfl⟩
theorem d_law_law_192 : dc code 192 (.iaload) 1 193 := ⟨by decide +kernel, rfl⟩
theorem d_law_law_193 : dc code 193 (.aload_n 0) 1 194 := ⟨by decide +kernel, rfl⟩
theorem d_law_law_194 : dc code 194 (.iload_n 3) 1 195 := ⟨by decide +kernel, rfl⟩
theorem d_law_law_195 : dc code 195 (.iconst 3) 1 196 := ⟨by decide +kernel, rfl⟩
theorem d_law_law_196 : dc code 196 (.iadd) 1 197 := ⟨by decide +kernel, rfl⟩
theorem d_law_law_197 : dc code 197 (.iaload) 1 198 := ⟨by decide +kernel, rfl⟩
theorem d_law_law_198 : dc code 198 (.invokevirtual 22) 3 201 := ⟨by decide +kernel, rfl⟩
theorem d_law_law_201 : dc code 201 (.if_icmp .eq 798) 3 204 := ⟨by decide +kernel, rfl⟩
theorem d_law_law_204 : dc code 204 (.iconst 0) 1 205 := ⟨by decide +kernel, rfl⟩
theorem d_law_law_205 : dc code 205 (.ireturn) 1 206 := ⟨by decide +kernel, rfl⟩
theorem d_law_law_206 : dc code 206 (.aload_n 1) 1 207 := ⟨by decide +kernel, rfl⟩
theorem d_law_law_207 : dc code 207 (.aload_n 0) 1 208 := ⟨by decide +kernel, rfl⟩
theorem d_law_law_208 : dc code 208 (.iload_n 3) 1 209 := ⟨by decide +kernel, rfl⟩
theorem d_law_law_209 : dc code 209 (.iconst 1) 1 210 := ⟨by decide +kernel, rfl⟩
theorem d_law_law_210 : dc code 210 (.iadd) 1 211 := ⟨by decide +kernel, rfl⟩
theorem d_law_law_211 : dc code 211 (.iaload) 1 212 := ⟨by decide +kernel, rfl⟩
theorem d_law_law_212 : dc code 212 (.invokevirtual 23) 3 215 := ⟨by decide +kernel, rfl⟩
theorem d_law_law_215 : dc code 215 (.aload_n 2) 1 216 := ⟨by decide +kernel, rfl⟩
theorem d_law_law_216 : dc code 216 (.aload_n 0) 1 217 := ⟨by decide +kernel, rfl⟩
theorem d_law_law_217 : dc code 217 (.iload_n 3) 1 218 := ⟨by decide +kernel, rfl⟩
theorem d_law_law_218 : dc code 218 (.iconst 1) 1 219 := ⟨by decide +kernel, rfl⟩
theorem d_law_law_219 : dc code 219 (.iadd) 1 220 := ⟨by decide +kernel, rfl⟩
theorem d_law_law_220 : dc code 220 (.iaload) 1 221 := ⟨by decide +kernel, rfl⟩
theorem d_law_law_221 : dc code 221 (.invokevirtual 26) 3 224 := ⟨by decide +kernel, rfl⟩
theorem d_law_law_224 : dc code 224 (.if_icmp .eq 775) 3 227 := ⟨by decide +kernel, rfl⟩
theorem d_law_law_227 : dc code 227 (.iconst 0) 1 228 := ⟨by decide +kernel, rfl⟩
theorem d_law_law_228 : dc code 228 (.ireturn) 1 229 := ⟨by decide +kernel, rfl⟩
theorem d_law_law_229 : dc code 229 (.aload_n 1) 1 230 := ⟨by decide +kernel, rfl⟩
theorem d_law_law_230 : dc code 230 (.aload_n 0) 1 231 := ⟨by decide +kernel, rfl⟩
theorem d_law_law_231 : dc code 231 (.iload_n 3) 1 232 := ⟨by decide +kernel, rfl⟩
theorem d_law_law_232 : dc code 232 (.iconst 1) 1 233 := ⟨by decide +kernel, rfl⟩
theorem d_law_law_233 : dc code 233 (.iadd) 1 234 := ⟨by decide +kernel, rfl⟩
theorem d_law_law_234 : dc code 234 (.iaload) 1 235 := ⟨by decide +kernel, rfl⟩
theorem d_law_law_235 : dc code 235 (.aload_n 0) 1 236 := ⟨by decide +kernel, rfl⟩
theorem d_law_law_236 : dc code 236 (.iload_n 3) 1 237 := ⟨by decide +kernel, rfl⟩
theorem d_law_law_237 : dc code 237 (.iconst 2) 1 238 := ⟨by decide +kernel, rfl⟩
theorem d_law_law_238 : dc code 238 (.iadd) 1 239 := ⟨by decide +kernel, rfl⟩
theorem d_law_law_239 : dc code 239 (.iaload) 1 240 := ⟨by decide +kernel, rfl⟩
theorem d_law_law_240 : dc code 240 (.invokevirtual 27) 3 243 := ⟨by decide +kernel, rfl⟩
theorem d_law_law_243 : dc code 243 (.aload_n 2) 1 244 := ⟨by decide +kernel, rfl⟩
theorem d_law_law_244 : dc code 244 (.aload_n 0) 1 245 := ⟨by decide +kernel, rfl⟩
theorem d_law_law_245 : dc code 245 (.iload_n 3) 1 246 := ⟨by decide +kernel, rfl⟩
theorem d_law_law_246 : dc code 246 (.iconst 1) 1 247 := ⟨by decide +kernel, rfl⟩
theorem d_law_law_247 : dc code 247 (.iadd) 1 248 := ⟨by decide +kernel, rfl⟩
theorem d_law_law_248 : dc code 248 (.iaload) 1 249 := ⟨by decide +kernel, rfl⟩
theorem d_law_law_249 : dc code 249 (.aload_n 0) 1 250 := ⟨by decide +kernel, rfl⟩
theorem d_law_law_250 : dc code 250 (.iload_n 3) 1 251 := ⟨by decide +kernel, rfl⟩
theorem d_law_law_251 : dc code 251 (.iconst 2) 1 252 := ⟨by decide +kernel, rfl⟩
theorem d_law_law_252 : dc code 252 (.iadd) 1 253 := ⟨by decide +kernel, rfl⟩
theorem d_law_law_253 : dc code 253 (.iaload) 1 254 := ⟨by decide +kernel, rfl⟩
theorem d_law_law_254 : dc code 254 (.invokevirtual 31) 3 257 := ⟨by decide +kernel, rfl⟩
theorem d_law_law_257 : dc code 257 (.if_icmp .eq 742) 3 260 := ⟨by decide +kernel, rfl⟩
theorem d_law_law_260 : dc code 260 (.iconst 0) 1 261 := ⟨by decide +kernel, rfl⟩
theorem d_law_law_261 : dc code 261 (.ireturn) 1 262 := ⟨by decide +kernel, rfl⟩
theorem d_law_law_262 : dc code 262 (.aload_n 1) 1 263 := ⟨by decide +kernel, rfl⟩
theorem d_law_law_263 : dc code 263 (.aload_n 0) 1 264 := ⟨by decide +kernel, rfl⟩
theorem d_law_law_264 : dc code 264 (.iload_n 3) 1 265 := ⟨by decide +kernel, rfl⟩
theorem d_law_law_265 : dc code 265 (.iconst 1) 1 266 := ⟨by decide +kernel, rfl⟩
theorem d_law_law_266 : dc code 266 (.iadd) 1 267 := ⟨by decide +kernel, rfl⟩
theorem d_law_law_267 : dc code 267 (.iaload) 1 268 := ⟨by decide +kernel, rfl⟩
theorem d_law_law_268 : dc code 268 (.aload_n 0) 1 269 := ⟨by decide +kernel, rfl⟩
theorem d_law_law_269 : dc code 269 (.iload_n 3) 1 270 := ⟨by decide +kernel, rfl⟩
theorem d_law_law_270 : dc code 270 (.iconst 2) 1 271 := ⟨by decide +kernel, rfl⟩
theorem d_law_law_271 : dc code 271 (.iadd) 1 272 := ⟨by decide +kernel, rfl⟩
theorem d_law_law_272 : dc code 272 (.iaload) 1 273 := ⟨by decide +kernel, rfl⟩
theorem d_law_law_273 : dc code 273 (.invokevirtual 32) 3 276 := ⟨by decide +kernel, rfl⟩
theorem d_law_law_276 : dc code 276 (.aload_n 2) 1 277 := ⟨by decide +kernel, rfl⟩
theorem d_law_law_277 : dc code 277 (.aload_n 0) 1 278 := ⟨by decide +kernel, rfl⟩
theorem d_law_law_278 : dc code 278 (.iload_n 3) 1 279 := ⟨by decide +kernel, rfl⟩
theorem d_law_law_279 : dc code 279 (.iconst 1) 1 280 := ⟨by decide +kernel, rfl⟩
theorem d_law_law_280 : dc code 280 (.iadd) 1 281 := ⟨by decide +kernel, rfl⟩
theorem d_law_law_281 : dc code 281 (.iaload) 1 282 := ⟨by decide +kernel, rfl⟩
theorem d_law_law_282 : dc code 282 (.aload_n 0) 1 283 := ⟨by decide +kernel, rfl⟩
theorem d_law_law_283 : dc code 283 (.iload_n 3) 1 284 := ⟨by decide +kernel, rfl⟩
theorem d_law_law_284 : dc code 284 (.iconst 2) 1 285 := ⟨by decide +kernel, rfl⟩
theorem d_law_law_285 : dc code 285 (.iadd) 1 286 := ⟨by decide +kernel, rfl⟩
theorem d_law_law_286 : dc code 286 (.iaload) 1 287 := ⟨by decide +kernel, rfl⟩
theorem d_law_law_287 : dc code 287 (.invokevirtual 35) 3 290 := ⟨by decide +kernel, rfl⟩
theorem d_law_law_290 : dc code 290 (.if_icmp .eq 709) 3 293 := ⟨by decide +kernel, rfl⟩
theorem d_law_law_293 : dc code 293 (.iconst 0) 1 294 := ⟨by decide +kernel, rfl⟩
theorem d_law_law_294 : dc code 294 (.ireturn) 1 295 := ⟨by decide +kernel, rfl⟩
theorem d_law_law_295 : dc code 295 (.aload_n 1) 1 296 := ⟨by decide +kernel, rfl⟩
theorem d_law_law_296 : dc code 296 (.aload_n 0) 1 297 := ⟨by decide +kernel, rfl⟩
theorem d_law_law_297 : dc code 297 (.iload_n 3) 1 298 := ⟨by decide +kernel, rfl⟩
theorem d_law_law_298 : dc code 298 (.iconst 1) 1 299 := ⟨by decide +kernel, rfl⟩
theorem d_law_law_299 : dc code 299 (.iadd) 1 300 := ⟨by decide +kernel, rfl⟩
theorem d_law_law_300 : dc code 300 (.iaload) 1 301 := ⟨by decide +kernel, rfl⟩
theorem d_law_law_301 : dc code 301 (.aload_n 0) 1 302 := ⟨by decide +kernel, rfl⟩
theorem d_law_law_302 : dc code 302 (.iload_n 3) 1 303 := ⟨by decide +kernel, rfl⟩
theorem d_law_law_303 : dc code 303 (.iconst 2) 1 304 := ⟨by decide +kernel, rfl⟩
theorem d_law_law_304 : dc code 304 (.iadd) 1 305 := ⟨by decide +kernel, rfl⟩
theorem d_law_law_305 : dc code 305 (.iaload) 1 306 := ⟨by decide +kernel, rfl⟩
theorem d_law_law_306 : dc code 306 (.ifCond .eq 7) 3 309 := ⟨by decide +kernel, rfl⟩
theorem d_law_law_309 : dc code 309 (.iconst 1) 1 310 := ⟨by decide +kernel, rfl⟩
theorem d_law_law_310 : dc code 310 (.goto 4) 3 313 := ⟨by decide +kernel, rfl⟩
theorem d_law_law_313 : dc code 313 (.iconst 0) 1 314 := ⟨by decide +kernel, rfl⟩
theorem d_law_law_314 : dc code 314 (.aload_n 0) 1 315 := ⟨by decide +kernel, rfl⟩
theorem d_law_law_315 : dc code 315 (.iload_n 3) 1 316 := ⟨by decide +kernel, rfl⟩
theorem d_law_law_316 : dc code 316 (.iconst 3) 1 317 := ⟨by decide +kernel, rfl⟩
theorem d_law_law_317 : dc code 317 (.iadd) 1 318 := ⟨by decide +kernel, rfl⟩
theorem d_law_law_318 : dc code 318 (.iaload) 1 319 := ⟨by decide +kernel, rfl⟩
theorem d_law_law_319 : dc code 319 (.invokevirtual 36) 3 322 := ⟨by decide +kernel, rfl⟩
theorem d_law_law_322 : dc code 322 (.aload_n 2) 1 323 := ⟨by decide +kernel, rfl⟩
theorem d_law_law_323 : dc code 323 (.aload_n 0) 1 324 := ⟨by decide +kernel, rfl⟩
theorem d_law_law_324 : dc code 324 (.iload_n 3) 1 325 := ⟨by decide +kernel, rfl⟩
theorem d_law_law_325 : dc code 325 (.iconst 1) 1 326 := ⟨by decide +kernel, rfl⟩
theorem d_law_law_326 : dc code 326 (.iadd) 1 327 := ⟨by decide +kernel, rfl⟩
theorem d_law_law_327 : dc code 327 (.iaload) 1 328 := ⟨by decide +kernel, rfl⟩
theorem d_law_law_328 : dc code 328 (.aload_n 0) 1 329 := ⟨by decide +kernel, rfl⟩
theorem d_law_law_329 : dc code 329 (.iload_n 3) 1 330 := ⟨by decide +kernel, rfl⟩
theorem d_law_law_330 : dc code 330 (.iconst 2) 1 331 := ⟨by decide +kernel, rfl⟩
theorem d_law_law_331 : dc code 331 (.iadd) 1 332 := ⟨by decide +kernel, rfl⟩
theorem d_law_law_332 : dc code 332 (.iaload) 1 333 := ⟨by decide +kernel, rfl⟩
theorem d_law_law_333 : dc code 333 (.ifCond .eq 7) 3 336 := ⟨by decide +kernel, rfl⟩
theorem d_law_law_336 : dc code 336 (.iconst 1) 1 337 := ⟨by decide +kernel, rfl⟩
theorem d_law_law_337 : dc code 337 (.goto 4) 3 340 := ⟨by decide +kernel, rfl⟩
theorem d_law_law_340 : dc code 340 (.iconst 0) 1 341 := ⟨by decide +kernel, rfl⟩
theorem d_law_law_341 : dc code 341 (.aload_n 0) 1 342 := ⟨by decide +kernel, rfl⟩
theorem d_law_law_342 : dc code 342 (.iload_n 3) 1 343 := ⟨by decide +kernel, rfl⟩
theorem d_law_law_343 : dc code 343 (.iconst 3) 1 344 := ⟨by decide +kernel, rfl⟩
theorem d_law_law_344 : dc code 344 (.iadd) 1 345 := ⟨by decide +kernel, rfl⟩
theorem d_law_law_345 : dc code 345 (.iaload) 1 346 := ⟨by decide +kernel, rfl⟩
theorem d_law_law_346 : dc code 346 (.invokevirtual 40) 3 349 := ⟨by decide +kernel, rfl⟩
theorem d_law_law_349 : dc code 349 (.if_icmp .eq 650) 3 352 := ⟨by decide +kernel, rfl⟩
theorem d_law_law_352 : dc code 352 (.iconst 0) 1 353 := ⟨by decide +kernel, rfl⟩
theorem d_law_law_353 : dc code 353 (.ireturn) 1 354 := ⟨by decide +kernel, rfl⟩
theorem d_law_law_354 : dc code 354 (.aload_n 1) 1 355 := ⟨by decide +kernel, rfl⟩
theorem d_law_law_355 : dc code 355 (.aload_n 0) 1 356 := ⟨by decide +kernel, rfl⟩
theorem d_law_law_356 : dc code 356 (.iload_n 3) 1 357 := ⟨by decide +kernel, rfl⟩
theorem d_law_law_357 : dc code 357 (.iconst 1) 1 358 := ⟨by decide +kernel, rfl⟩
theorem d_law_law_358 : dc code 358 (.iadd) 1 359 := ⟨by decide +kernel, rfl⟩
theorem d_law_law_359 : dc code 359 (.iaload) 1 360 := ⟨by decide +kernel, rfl⟩
theorem d_law_law_360 : dc code 360 (.aload_n 0) 1 361 := ⟨by decide +kernel, rfl⟩
theorem d_law_law_361 : dc code 361 (.iload_n 3) 1 362 := ⟨by decide +kernel, rfl⟩
theorem d_law_law_362 : dc code 362 (.iconst 2) 1 363 := ⟨by decide +kernel, rfl⟩
theorem d_law_law_363 : dc code 363 (.iadd) 1 364 := ⟨by decide +kernel, rfl⟩
theorem d_law_law_364 : dc code 364 (.iaload) 1 365 := ⟨by decide +kernel, rfl⟩
theorem d_law_law_365 : dc code 365 (.aload_n 0) 1 366 := ⟨by decide +kernel, rfl⟩
theorem d_law_law_366 : dc code 366 (.iload_n 3) 1 367 := ⟨by decide +kernel, rfl⟩
theorem d_law_law_367 : dc code 367 (.iconst 3) 1 368 := ⟨by decide +kernel, rfl⟩
theorem d_law_law_368 : dc code 368 (.iadd) 1 369 := ⟨by decide +kernel, rfl⟩
theorem d_law_law_369 : dc code 369 (.iaload) 1 370 := ⟨by decide +kernel, rfl⟩
theorem d_law_law_370 : dc code 370 (.invokevirtual 41) 3 373 := ⟨by decide +kernel, rfl⟩
theorem d_law_law_373 : dc code 373 (.aload_n 2) 1 374 := ⟨by decide +kernel, rfl⟩
theorem d_law_law_374 : dc code 374 (.aload_n 0) 1 375 := ⟨by decide +kernel, rfl⟩
theorem d_law_law_375 : dc code 375 (.iload_n 3) 1 376 := ⟨by decide +kernel, rfl⟩
theorem d_law_law_376 : dc code 376 (.iconst 1) 1 377 := ⟨by decide +kernel, rfl⟩
theorem d_law_law_377 : dc code 377 (.iadd) 1 378 := ⟨by decide +kernel, rfl⟩
theorem d_law_law_378 : dc code 378 (.iaload) 1 379 := ⟨by decide +kernel, rfl⟩
theorem d_law_law_379 : dc code 379 (.aload_n 0) 1 380 := ⟨by decide +kernel, rfl⟩
theorem d_law_law_380 : dc code 380 (.iload_n 3) 1 381 := ⟨by decide +kernel, rfl⟩
theorem d_law_law_381 : dc code 381 (.iconst 2) 1 382 := ⟨by decide +kernel, rfl⟩
theorem d_law_law_382 : dc code 382 (.iadd) 1 383 := ⟨by decide +kernel, rfl⟩
theorem d_law_law_383 : dc code 383 (.iaload) 1 384 := ⟨by decide +kernel, rfl⟩
theorem d_law_law_384 : dc code 384 (.aload_n 0) 1 385 := ⟨by decide +kernel, rfl⟩
theorem d_law_law_385 : dc code 385 (.iload_n 3) 1 386 := ⟨by decide +kernel, rfl⟩
theorem d_law_law_386 : dc code 386 (.iconst 3) 1 387 := ⟨by decide +kernel, rfl⟩
theorem d_law_law_387 : dc code 387 (.iadd) 1 388 := ⟨by decide +kernel, rfl⟩
theorem d_law_law_388 : dc code 388 (.iaload) 1 389 := ⟨by decide +kernel, rfl⟩
theorem d_law_law_389 : dc code 389 (.invokevirtual 44) 3 392 := ⟨by decide +kernel, rfl⟩
theorem d_law_law_392 : dc code 392 (.if_icmp .eq 607) 3 395 := ⟨by decide +kernel, rfl⟩
theorem d_law_law_395 : dc code 395 (.iconst 0) 1 396 := ⟨by decide +kernel, rfl⟩
theorem d_law_law_396 : dc code 396 (.ireturn) 1 397 := ⟨by decide +kernel, rfl⟩
theorem d_law_law_397 : dc code 397 (.aload_n 1) 1 398 := ⟨by decide +kernel, rfl⟩
theorem d_law_law_398 : dc code 398 (.aload_n 0) 1 399 := ⟨by decide +kernel, rfl⟩
theorem d_law_law_399 : dc code 399 (.iload_n 3) 1 400 := ⟨by decide +kernel, rfl⟩
theorem d_law_law_400 : dc code 400 (.iconst 1) 1 401 := ⟨by decide +kernel, rfl⟩
theorem d_law_law_401 : dc code 401 (.iadd) 1 402 := ⟨by decide +kernel, rfl⟩
theorem d_law_law_402 : dc code 402 (.iaload) 1 403 := ⟨by decide +kernel, rfl⟩
theorem d_law_law_403 : dc code 403 (.aload_n 0) 1 404 := ⟨by decide +kernel, rfl⟩
theorem d_law_law_404 : dc code 404 (.iload_n 3) 1 405 := ⟨by decide +kernel, rfl⟩
theorem d_law_law_405 : dc code 405 (.iconst 2) 1 406 := ⟨by decide +kernel, rfl⟩
theorem d_law_law_406 : dc code 406 (.iadd) 1 407 := ⟨by decide +kernel, rfl⟩
theorem d_law_law_407 : dc code 407 (.iaload) 1 408 := ⟨by decide +kernel, rfl⟩
theorem d_law_law_408 : dc code 408 (.invokevirtual 45) 3 411 := ⟨by decide +kernel, rfl⟩
theorem d_law_law_411 : dc code 411 (.aload_n 2) 1 412 := ⟨by decide +kernel, rfl⟩
theorem d_law_law_412 : dc code 412 (.aload_n 0) 1 413 := ⟨by decide +kernel, rfl⟩
theorem d_law_law_413 : dc code 413 (.iload_n 3) 1 414 := ⟨by decide +kernel, rfl⟩
theorem d_law_law_414 : dc code 414 (.iconst 1) 1 415 := ⟨by decide +kernel, rfl⟩
theorem d_law_law_415 : dc code 415 (.iadd) 1 416 := ⟨by decide +kernel, rfl⟩
theorem d_law_law_416 : dc code 416 (.iaload) 1 417 := ⟨by decide +kernel, rfl⟩
theorem d_law_law_417 : dc code 417 (.aload_n 0) 1 418 := ⟨by decide +kernel, rfl⟩
theorem d_law_law_418 : dc code 418 (.iload_n 3) 1 419 := ⟨by decide +kernel, rfl⟩
theorem d_law_law_419 : dc code 419 (.iconst 2) 1 420 := ⟨by decide +kernel, rfl⟩
theorem d_law_law_420 : dc code 420 (.iadd) 1 421 := ⟨by decide +kernel, rfl⟩
theorem d_law_law_421 : dc code 421 (.iaload) 1 422 := ⟨by decide +kernel, rfl⟩
theorem d_law_law_422 : dc code 422 (.invokevirtual 48) 3 425 := ⟨by decide +kernel, rfl⟩
theorem d_law_law_425 : dc code 425 (.if_icmp .eq 574) 3 428 := ⟨by decide +kernel, rfl⟩
theorem d_law_law_428 : dc code 428 (.iconst 0) 1 429 := ⟨by decide +kernel, rfl⟩
theorem d_law_law_429 : dc code 429 (.ireturn) 1 430 := ⟨by decide +kernel, rfl⟩
theorem d_law_law_430 : dc code 430 (.aload_n 1) 1 431 := ⟨by decide +kernel, rfl⟩
theorem d_law_law_431 : dc code 431 (.aload_n 0) 1 432 := ⟨by decide +kernel, rfl⟩
theorem d_law_law_432 : dc code 432 (.iload_n 3) 1 433 := ⟨by decide +kernel, rfl⟩
theorem d_law_law_433 : dc code 433 (.iconst 1) 1 434 := ⟨by decide +kernel, rfl⟩
theorem d_law_law_434 : dc code 434 (.iadd) 1 435 := ⟨by decide +kernel, rfl⟩
theorem d_law_law_435 : dc code 435 (.iaload) 1 436 := ⟨by decide +kernel, rfl⟩
theorem d_law_law_436 : dc code 436 (.aload_n 0) 1 437 := ⟨by decide +kernel, rfl⟩
theorem d_law_law_437 : dc code 437 (.iload_n 3) 1 438 := ⟨by decide +kernel, rfl⟩
theorem d_law_law_438 : dc code 438 (.iconst 2) 1 439 := ⟨by decide +kernel, rfl⟩
theorem d_law_law_439 : dc code 439 (.iadd) 1 440 := ⟨by decide +kernel, rfl⟩
theorem d_law_law_440 : dc code 440 (.iaload) 1 441 := ⟨by decide +kernel, rfl⟩
theorem d_law_law_441 : dc code 441 (.invokevirtual 49) 3 444 := ⟨by decide +kernel, rfl⟩
theorem d_law_law_444 : dc code 444 (.aload_n 2) 1 445 := ⟨by decide +kernel, rfl⟩
theorem d_law_law_445 : dc code 445 (.aload_n 0) 1 446 := ⟨by decide +kernel, rfl⟩
theorem d_law_law_446 : dc code 446 (.iload_n 3) 1 447 := ⟨by decide +kernel, rfl⟩
theorem d_law_law_447 : dc code 447 (.iconst 1) 1 448 := ⟨by decide +kernel, rfl⟩
theorem d_law_law_448 : dc code 448 (.iadd) 1 449 := ⟨by decide +kernel, rfl⟩
theorem d_law_law_449 : dc code 449 (.iaload) 1 450 := ⟨by decide +kernel, rfl⟩
theorem d_law_law_450 : dc code 450 (.aload_n 0) 1 451 := ⟨by decide +kernel, rfl⟩
theorem d_law_law_451 : dc code 451 (.iload_n 3) 1 452 := ⟨by decide +kernel, rfl⟩
theorem d_law_law_452 : dc code 452 (.iconst 2) 1 453 := ⟨by decide +kernel, rfl⟩
theorem d_law_law_453 : dc code 453 (.iadd) 1 454 := ⟨by decide +kernel, rfl⟩
theorem d_law_law_454 : dc code 454 (.iaload) 1 455 := ⟨by decide +kernel, rfl⟩
theorem d_law_law_455 : dc code 455 (.invokevirtual 52) 3 458 := ⟨by decide +kernel, rfl⟩
theorem d_law_law_458 : dc code 458 (.if_icmp .eq 541) 3 461 := ⟨by decide +kernel, rfl⟩
theorem d_law_law_461 : dc code 461 (.iconst 0) 1 462 := ⟨by decide +kernel, rfl⟩
theorem d_law_law_462 : dc code 462 (.ireturn) 1 463 := ⟨by decide +kernel, rfl⟩
theorem d_law_law_463 : dc code 463 (.aload_n 1) 1 464 := ⟨by decide +kernel, rfl⟩
theorem d_law_law_464 : dc code 464 (.aload_n 0) 1 465 := ⟨by decide +kernel, rfl⟩
theorem d_law_law_465 : dc code 465 (.iload_n 3) 1 466 := ⟨by decide +kernel, rfl⟩
theorem d_law_law_466 : dc code 466 (.iconst 1) 1 467 := ⟨by decide +kernel, rfl⟩
theorem d_law_law_467 : dc code 467 (.iadd) 1 468 := ⟨by decide +kernel, rfl⟩
theorem d_law_law_468 : dc code 468 (.iaload) 1 469 := ⟨by decide +kernel, rfl⟩
theorem d_law_law_469 : dc code 469 (.aload_n 0) 1 470 := ⟨by decide +kernel, rfl⟩
theorem d_law_law_470 : dc code 470 (.iload_n 3) 1 471 := ⟨by decide +kernel, rfl⟩
theorem d_law_law_471 : dc code 471 (.iconst 2) 1 472 := ⟨by decide +kernel, rfl⟩
theorem d_law_law_472 : dc code 472 (.iadd) 1 473 := ⟨by decide +kernel, rfl⟩
theorem d_law_law_473 : dc code 473 (.iaload) 1 474 := ⟨by decide +kernel, rfl⟩
theorem d_law_law_474 : dc code 474 (.invokevirtual 53) 3 477 := ⟨by decide +kernel, rfl⟩
theorem d_law_law_477 : dc code 477 (.aload_n 2) 1 478 := ⟨by decide +kernel, rfl⟩
theorem d_law_law_478 : dc code 478 (.aload_n 0) 1 479 := ⟨by decide +kernel, rfl⟩
theorem d_law_law_479 : dc code 479 (.iload_n 3) 1 480 := ⟨by decide +kernel, rfl⟩
theorem d_law_law_480 : dc code 480 (.iconst 1) 1 481 := ⟨by decide +kernel, rfl⟩
theorem d_law_law_481 : dc code 481 (.iadd) 1 482 := ⟨by decide +kernel, rfl⟩
theorem d_law_law_482 : dc code 482 (.iaload) 1 483 := ⟨by decide +kernel, rfl⟩
theorem d_law_law_483 : dc code 483 (.aload_n 0) 1 484 := ⟨by decide +kernel, rfl⟩
theorem d_law_law_484 : dc code 484 (.iload_n 3) 1 485 := ⟨by decide +kernel, rfl⟩
theorem d_law_law_485 : dc code 485 (.iconst 2) 1 486 := ⟨by decide +kernel, rfl⟩
theorem d_law_law_486 : dc code 486 (.iadd) 1 487 := ⟨by decide +kernel, rfl⟩
theorem d_law_law_487 : dc code 487 (.iaload) 1 488 := ⟨by decide +kernel, rfl⟩
theorem d_law_law_488 : dc code 488 (.invokevirtual 56) 3 491 := ⟨by decide +kernel, rfl⟩
theorem d_law_law_491 : dc code 491 (.if_icmp .eq 508) 3 494 := ⟨by decide +kernel, rfl⟩
theorem d_law_law_494 : dc code 494 (.iconst 0) 1 495 := ⟨by decide +kernel, rfl⟩
theorem d_law_law_495 : dc code 495 (.ireturn) 1 496 := ⟨by decide +kernel, rfl⟩
theorem d_law_law_496 : dc code 496 (.aload_n 1) 1 497 := ⟨by decide +kernel, rfl⟩
theorem d_law_law_497 : dc code 497 (.aload_n 0) 1 498 := ⟨by decide +kernel, rfl⟩
theorem d_law_law_498 : dc code 498 (.iload_n 3) 1 499 := ⟨by decide +kernel, rfl⟩
theorem d_law_law_499 : dc code 499 (.iconst 1) 1 500 := ⟨by decide +kernel, rfl⟩
theorem d_law_law_500 : dc code 500 (.iadd) 1 501 := ⟨by decide +kernel, rfl⟩
theorem d_law_law_501 : dc code 501 (.iaload) 1 502 := ⟨by decide +kernel, rfl⟩
theorem d_law_law_502 : dc code 502 (.aload_n 0) 1 503 := ⟨by decide +kernel, rfl⟩
theorem d_law_law_503 : dc code 503 (.iload_n 3) 1 504 := ⟨by decide +kernel, rfl⟩
theorem d_law_law_504 : dc code 504 (.iconst 2) 1 505 := ⟨by decide +kernel, rfl⟩
theorem d_law_law_505 : dc code 505 (.iadd) 1 506 := ⟨by decide +kernel, rfl⟩
theorem d_law_law_506 : dc code 506 (.iaload) 1 507 := ⟨by decide +kernel, rfl⟩
theorem d_law_law_507 : dc code 507 (.aload_n 0) 1 508 := ⟨by decide +kernel, rfl⟩
theorem d_law_law_508 : dc code 508 (.iload_n 3) 1 509 := ⟨by decide +kernel, rfl⟩
theorem d_law_law_509 : dc code 509 (.iconst 3) 1 510 := ⟨by decide +kernel, rfl⟩
theorem d_law_law_510 : dc code 510 (.iadd) 1 511 := ⟨by decide +kernel, rfl⟩
theorem d_law_law_511 : dc code 511 (.iaload) 1 512 := ⟨by decide +kernel, rfl⟩
theorem d_law_law_512 : dc code 512 (.invokevirtual 57) 3 515 := ⟨by decide +kernel, rfl⟩
theorem d_law_law_515 : dc code 515 (.aload_n 2) 1 516 := ⟨by decide +kernel, rfl⟩
theorem d_law_law_516 : dc code 516 (.aload_n 0) 1 517 := ⟨by decide +kernel, rfl⟩
theorem d_law_law_517 : dc code 517 (.iload_n 3) 1 518 := ⟨by decide +kernel, rfl⟩
theorem d_law_law_518 : dc code 518 (.iconst 1) 1 519 := ⟨by decide +kernel, rfl⟩
theorem d_law_law_519 : dc code 519 (.iadd) 1 520 := ⟨by decide +kernel, rfl⟩
theorem d_law_law_520 : dc code 520 (.iaload) 1 521 := ⟨by decide +kernel, rfl⟩
theorem d_law_law_521 : dc code 521 (.aload_n 0) 1 522 := ⟨by decide +kernel, rfl⟩
theorem d_law_law_522 : dc code 522 (.iload_n 3) 1 523 := ⟨by decide +kernel, rfl⟩
theorem d_law_law_523 : dc code 523 (.iconst 2) 1 524 := ⟨by decide +kernel, rfl⟩
theorem d_law_law_524 : dc code 524 (.iadd) 1 525 := ⟨by decide +kernel, rfl⟩
theorem d_law_law_525 : dc code 525 (.iaload) 1 526 := ⟨by decide +kernel, rfl⟩
theorem d_law_law_526 : dc code 526 (.aload_n 0) 1 527 := ⟨by decide +kernel, rfl⟩
theorem d_law_law_527 : dc code 527 (.iload_n 3) 1 528 := ⟨by decide +kernel, rfl⟩
theorem d_law_law_528 : dc code 528 (.iconst 3) 1 529 := ⟨by decide +kernel, rfl⟩
theorem d_law_law_529 : dc code 529 (.iadd) 1 530 := ⟨by decide +kernel, rfl⟩
theorem d_law_law_530 : dc code 530 (.iaload) 1 531 := ⟨by decide +kernel, rfl⟩
theorem d_law_law_531 : dc code 531 (.invokevirtual 60) 3 534 := ⟨by decide +kernel, rfl⟩
theorem d_law_law_534 : dc code 534 (.if_icmp .eq 465) 3 537 := ⟨by decide +kernel, rfl⟩
theorem d_law_law_537 : dc code 537 (.iconst 0) 1 538 := ⟨by decide +kernel, rfl⟩
theorem d_law_law_538 : dc code 538 (.ireturn) 1 539 := ⟨by decide +kernel, rfl⟩
theorem d_law_law_539 : dc code 539 (.aload_n 1) 1 540 := ⟨by decide +kernel, rfl⟩
theorem d_law_law_540 : dc code 540 (.aload_n 0) 1 541 := ⟨by decide +kernel, rfl⟩
theorem d_law_law_541 : dc code 541 (.iload_n 3) 1 542 := ⟨by decide +kernel, rfl⟩
theorem d_law_law_542 : dc code 542 (.iconst 1) 1 543 := ⟨by decide +kernel, rfl⟩
theorem d_law_law_543 : dc code 543 (.iadd) 1 544 := ⟨by decide +kernel, rfl⟩
theorem d_law_law_544 : dc code 544 (.iaload) 1 545 := ⟨by decide +kernel, rfl⟩
theorem d_law_law_545 : dc code 545 (.aload_n 0) 1 546 := ⟨by decide +kernel, rfl⟩
theorem d_law_law_546 : dc code 546 (.iload_n 3) 1 547 := ⟨by decide +kernel, rfl⟩
theorem d_law_law_547 : dc code 547 (.iconst 2) 1 548 := ⟨by decide +kernel, rfl⟩
theorem d_law_law_548 : dc code 548 (.iadd) 1 549 := ⟨by decide +kernel, rfl⟩
theorem d_law_law_549 : dc code 549 (.iaload) 1 550 := ⟨by decide +kernel, rfl⟩
theorem d_law_law_550 : dc code 550 (.aload_n 0) 1 551 := ⟨by decide +kernel, rfl⟩
theorem d_law_law_551 : dc code 551 (.iload_n 3) 1 552 := ⟨by decide +kernel, rfl⟩
theorem d_law_law_552 : dc code 552 (.iconst 3) 1 553 := ⟨by decide +kernel, rfl⟩
theorem d_law_law_553 : dc code 553 (.iadd) 1 554 := ⟨by decide +kernel, rfl⟩
theorem d_law_law_554 : dc code 554 (.iaload) 1 555 := ⟨by decide +kernel, rfl⟩
theorem d_law_law_555 : dc code 555 (.aload_n 0) 1 556 := ⟨by decide +kernel, rfl⟩
theorem d_law_law_556 : dc code 556 (.iload_n 3) 1 557 := ⟨by decide +kernel, rfl⟩
theorem d_law_law_557 : dc code 557 (.iconst 4) 1 558 := ⟨by decide +kernel, rfl⟩
theorem d_law_law_558 : dc code 558 (.iadd) 1 559 := ⟨by decide +kernel, rfl⟩
theorem d_law_law_559 : dc code 559 (.iaload) 1 560 := ⟨by decide +kernel, rfl⟩
theorem d_law_law_560 : dc code 560 (.aload_n 0) 1 561 := ⟨by decide +kernel, rfl⟩
theorem d_law_law_561 : dc code 561 (.iload_n 3) 1 562 := ⟨by decide +kernel, rfl⟩
theorem d_law_law_562 : dc code 562 (.iconst 5) 1 563 := ⟨by decide +kernel, rfl⟩
theorem d_law_law_563 : dc code 563 (.iadd) 1 564 := ⟨by decide +kernel, rfl⟩
theorem d_law_law_564 : dc code 564 (.iaload) 1 565 := ⟨by decide +kernel, rfl⟩
theorem d_law_law_565 : dc code 565 (.aload_n 0) 1 566 := ⟨by decide +kernel, rfl⟩
theorem d_law_law_566 : dc code 566 (.iload_n 3) 1 567 := ⟨by decide +kernel, rfl⟩
theorem d_law_law_567 : dc code 567 (.bipush 6) 2 569 := ⟨by decide +kernel, rfl⟩
theorem d_law_law_569 : dc code 569 (.iadd) 1 570 := ⟨by decide +kernel, rfl⟩
theorem d_law_law_570 : dc code 570 (.iaload) 1 571 := ⟨by decide +kernel, rfl⟩
theorem d_law_law_571 : dc code 571 (.aload_n 0) 1 572 := ⟨by decide +kernel, rfl⟩
theorem d_law_law_572 : dc code 572 (.iload_n 3) 1 573 := ⟨by decide +kernel, rfl⟩
theorem d_law_law_573 : dc code 573 (.bipush 7) 2 575 := ⟨by decide +kernel, rfl⟩
theorem d_law_law_575 : dc code 575 (.iadd) 1 576 := ⟨by decide +kernel, rfl⟩
theorem d_law_law_576 : dc code 576 (.iaload) 1 577 := ⟨by decide +kernel, rfl⟩
theorem d_law_law_577 : dc code 577 (.invokevirtual 61) 3 580 := ⟨by decide +kernel, rfl⟩
theorem d_law_law_580 : dc code 580 (.aload_n 2) 1 581 := ⟨by decide +kernel, rfl⟩
theorem d_law_law_581 : dc code 581 (.aload_n 0) 1 582 := ⟨by decide +kernel, rfl⟩
theorem d_law_law_582 : dc code 582 (.iload_n 3) 1 583 := ⟨by decide +kernel, rfl⟩
theorem d_law_law_583 : dc code 583 (.iconst 1) 1 584 := ⟨by decide +kernel, rfl⟩
theorem d_law_law_584 : dc code 584 (.iadd) 1 585 := ⟨by decide +kernel, rfl⟩
theorem d_law_law_585 : dc code 585 (.iaload) 1 586 := ⟨by decide +kernel, rfl⟩
theorem d_law_law_586 : dc code 586 (.aload_n 0) 1 587 := ⟨by decide +kernel, rfl⟩
theorem d_law_law_587 : dc code 587 (.iload_n 3) 1 588 := ⟨by decide +kernel, rfl⟩
theorem d_law_law_588 : dc code 588 (.iconst 2) 1 589 := ⟨by decide +kernel, rfl⟩
theorem d_law_law_589 : dc code 589 (.iadd) 1 590 := ⟨by decide +kernel, rfl⟩
theorem d_law_law_590 : dc code 590 (.iaload) 1 591 := ⟨by decide +kernel, rfl⟩
theorem d_law_law_591 : dc code 591 (.aload_n 0) 1 592 := ⟨by decide +kernel, rfl⟩
theorem d_law_law_592 : dc code 592 (.iload_n 3) 1 593 := ⟨by decide +kernel, rfl⟩
theorem d_law_law_593 : dc code 593 (.iconst 3) 1 594 := ⟨by decide +kernel, rfl⟩
theorem d_law_law_594 : dc code 594 (.iadd) 1 595 := ⟨by decide +kernel, rfl⟩
theorem d_law_law_595 : dc code 595 (.iaload) 1 596 := ⟨by decide +kernel, rfl⟩
theorem d_law_law_596 : dc code 596 (.aload_n 0) 1 597 := ⟨by decide +kernel, rfl⟩
theorem d_law_law_597 : dc code 597 (.iload_n 3) 1 598 := ⟨by decide +kernel, rfl⟩
theorem d_law_law_598 : dc code 598 (.iconst 4) 1 599 := ⟨by decide +kernel, rfl⟩
theorem d_law_law_599 : dc code 599 (.iadd) 1 600 := ⟨by decide +kernel, rfl⟩
theorem d_law_law_600 : dc code 600 (.iaload) 1 601 := ⟨by decide +kernel, rfl⟩
theorem d_law_law_601 : dc code 601 (.aload_n 0) 1 602 := ⟨by decide +kernel, rfl⟩
theorem d_law_law_602 : dc code 602 (.iload_n 3) 1 603 := ⟨by decide +kernel, rfl⟩
theorem d_law_law_603 : dc code 603 (.iconst 5) 1 604 := ⟨by decide +kernel, rfl⟩
theorem d_law_law_604 : dc code 604 (.iadd) 1 605 := ⟨by decide +kernel, rfl⟩
theorem d_law_law_605 : dc code 605 (.iaload) 1 606 := ⟨by decide +kernel, rfl⟩
theorem d_law_law_606 : dc code 606 (.aload_n 0) 1 607 := ⟨by decide +kernel, rfl⟩
theorem d_law_law_607 : dc code 607 (.iload_n 3) 1 608 := ⟨by decide +kernel, rfl⟩
theorem d_law_law_608 : dc code 608 (.bipush 6) 2 610 := ⟨by decide +kernel, rfl⟩
theorem d_law_law_610 : dc code 610 (.iadd) 1 611 := ⟨by decide +kernel, rfl⟩
theorem d_law_law_611 : dc code 611 (.iaload) 1 612 := ⟨by decide +kernel, rfl⟩
theorem d_law_law_612 : dc code 612 (.aload_n 0) 1 613 := ⟨by decide +kernel, rfl⟩
theorem d_law_law_613 : dc code 613 (.iload_n 3) 1 614 := ⟨by decide +kernel, rfl⟩
theorem d_law_law_614 : dc code 614 (.bipush 7) 2 616 := ⟨by decide +kernel, rfl⟩
theorem d_law_law_616 : dc code 616 (.iadd) 1 617 := ⟨by decide +kernel, rfl⟩
theorem d_law_law_617 : dc code 617 (.iaload) 1 618 := ⟨by decide +kernel, rfl⟩
theorem d_law_law_618 : dc code 618 (.invokevirtual 65) 3 621 := ⟨by decide +kernel, rfl⟩
theorem d_law_law_621 : dc code 621 (.if_icmp .eq 378) 3 624 := ⟨by decide +kernel, rfl⟩
theorem d_law_law_624 : dc code 624 (.iconst 0) 1 625 := ⟨by decide +kernel, rfl⟩
theorem d_law_law_625 : dc code 625 (.ireturn) 1 626 := ⟨by decide +kernel, rfl⟩
theorem d_law_law_626 : dc code 626 (.aload_n 1) 1 627 := ⟨by decide +kernel, rfl⟩
theorem d_law_law_627 : dc code 627 (.aload_n 0) 1 628 := ⟨by decide +kernel, rfl⟩
theorem d_law_law_628 : dc code 628 (.iload_n 3) 1 629 := ⟨by decide +kernel, rfl⟩
theorem d_law_law_629 : dc code 629 (.iconst 1) 1 630 := ⟨by decide +kernel, rfl⟩
theorem d_law_law_630 : dc code 630 (.iadd) 1 631 := ⟨by decide +kernel, rfl⟩
theorem d_law_law_631 : dc code 631 (.iaload) 1 632 := ⟨by decide +kernel, rfl⟩
theorem d_law_law_632 : dc code 632 (.aload_n 0) 1 633 := ⟨by decide +kernel, rfl⟩
theorem d_law_law_633 : dc code 633 (.iload_n 3) 1 634 := ⟨by decide +kernel, rfl⟩
theorem d_law_law_634 : dc code 634 (.iconst 2) 1 635 := ⟨by decide +kernel, rfl⟩
theorem d_law_law_635 : dc code 635 (.iadd) 1 636 := ⟨by decide +kernel, rfl⟩
theorem d_law_law_636 : dc code 636 (.iaload) 1 637 := ⟨by decide +kernel, rfl⟩
theorem d_law_law_637 : dc code 637 (.invokevirtual 66) 3 640 := ⟨by decide +kernel, rfl⟩
theorem d_law_law_640 : dc code 640 (.aload_n 2) 1 641 := ⟨by decide +kernel, rfl⟩
theorem d_law_law_641 : dc code 641 (.aload_n 0) 1 642 := ⟨by decide +kernel, rfl⟩
theorem d_law_law_642 : dc code 642 (.iload_n 3) 1 643 := ⟨by decide +kernel, rfl⟩
theorem d_law_law_643 : dc code 643 (.iconst 1) 1 644 := ⟨by decide +kernel, rfl⟩
theorem d_law_law_644 : dc code 644 (.iadd) 1 645 := ⟨by decide +kernel, rfl⟩
theorem d_law_law_645 : dc code 645 (.iaload) 1 646 := ⟨by decide +kernel, rfl⟩
theorem d_law_law_646 : dc code 646 (.aload_n 0) 1 647 := ⟨by decide +kernel, rfl⟩
theorem d_law_law_647 : dc code 647 (.iload_n 3) 1 648 := ⟨by decide +kernel, rfl⟩
theorem d_law_law_648 : dc code 648 (.iconst 2) 1 649 := ⟨by decide +kernel, rfl⟩
theorem d_law_law_649 : dc code 649 (.iadd) 1 650 := ⟨by decide +kernel, rfl⟩
theorem d_law_law_650 : dc code 650 (.iaload) 1 651 := ⟨by decide +kernel, rfl⟩
theorem d_law_law_651 : dc code 651 (.invokevirtual 69) 3 654 := ⟨by decide +kernel, rfl⟩
theorem d_law_law_654 : dc code 654 (.if_icmp .eq 345) 3 657 := ⟨by decide +kernel, rfl⟩
theorem d_law_law_657 : dc code 657 (.iconst 0) 1 658 := ⟨by decide +kernel, rfl⟩
theorem d_law_law_658 : dc code 658 (.ireturn) 1 659 := ⟨by decide +kernel, rfl⟩
theorem d_law_law_659 : dc code 659 (.aload_n 1) 1 660 := ⟨by decide +kernel, rfl⟩
theorem d_law_law_660 : dc code 660 (.aload_n 0) 1 661 := ⟨by decide +kernel, rfl⟩
theorem d_law_law_661 : dc code 661 (.iload_n 3) 1 662 := ⟨by decide +kernel, rfl⟩
theorem d_law_law_662 : dc code 662 (.iconst 1) 1 663 := ⟨by decide +kernel, rfl⟩
theorem d_law_law_663 : dc code 663 (.iadd) 1 664 := ⟨by decide +kernel, rfl⟩
theorem d_law_law_664 : dc code 664 (.iaload) 1 665 := ⟨by decide +kernel, rfl⟩
theorem d_law_law_665 : dc code 665 (.aload_n 0) 1 666 := ⟨by decide +kernel, rfl⟩
theorem d_law_law_666 : dc code 666 (.iload_n 3) 1 667 := ⟨by decide +kernel, rfl⟩
theorem d_law_law_667 : dc code 667 (.iconst 2) 1 668 := ⟨by decide +kernel, rfl⟩
theorem d_law_law_668 : dc code 668 (.iadd) 1 669 := ⟨by decide +kernel, rfl⟩
theorem d_law_law_669 : dc code 669 (.iaload) 1 670 := ⟨by decide +kernel, rfl⟩
theorem d_law_law_670 : dc code 670 (.invokevirtual 70) 3 673 := ⟨by decide +kernel, rfl⟩
theorem d_law_law_673 : dc code 673 (.aload_n 2) 1 674 := ⟨by decide +kernel, rfl⟩
theorem d_law_law_674 : dc code 674 (.aload_n 0) 1 675 := ⟨by decide +kernel, rfl⟩
theorem d_law_law_675 : dc code 675 (.iload_n 3) 1 676 := ⟨by decide +kernel, rfl⟩
theorem d_law_law_676 : dc code 676 (.iconst 1) 1 677 := ⟨by decide +kernel, rfl⟩
theorem d_law_law_677 : dc code 677 (.iadd) 1 678 := ⟨by decide +kernel, rfl⟩
theorem d_law_law_678 : dc code 678 (.iaload) 1 679 := ⟨by decide +kernel, rfl⟩
end
section
theorem d_law_law_679 : dc code 679 (.aload_n 0) 1 680 := ⟨by decide +kernel, rfl⟩
theorem d_law_law_680 : dc code 680 (.iload_n 3) 1 681 := ⟨by decide +kernel, rfl⟩
theorem d_law_law_681 : dc code 681 (.iconst 2) 1 682 := ⟨by decide +kernel, rfl⟩
theorem d_law_law_682 : dc code 682 (.iadd) 1 683 := ⟨by decide +kernel, rfl⟩
theorem d_law_law_683 : dc code 683 (.iaload) 1 684 := ⟨by decide +kernel, rfl⟩
theorem d_law_law_684 : dc code 684 (.invokevirtual 73) 3 687 := ⟨by decide +kernel, rfl⟩
theorem d_law_law_687 : dc code 687 (.if_icmp .eq 312) 3 690 := ⟨by decide +kernel, rfl⟩
theorem d_law_law_690 : dc code 690 (.iconst 0) 1 691 := ⟨by decide +kernel, rfl⟩
theorem d_law_law_691 : dc code 691 (.ireturn) 1 692 := ⟨by decide +kernel, rfl⟩
theorem d_law_law_692 : dc code 692 (.aload_n 1) 1 693 := ⟨by decide +kernel, rfl⟩
theorem d_law_law_693 : dc code 693 (.aload_n 0) 1 694 := ⟨by decide +kernel, rfl⟩
theorem d_law_law_694 : dc code 694 (.iload_n 3) 1 695 := ⟨by decide +kernel, rfl⟩
theorem d_law_law_695 : dc code 695 (.iconst 1) 1 696 := ⟨by decide +kernel, rfl⟩
theorem d_law_law_696 : dc code 696 (.iadd) 1 697 := ⟨by decide +kernel, rfl⟩
theorem d_law_law_697 : dc code 697 (.iaload) 1 698 := ⟨by decide +kernel, rfl⟩
theorem d_law_law_698 : dc code 698 (.aload_n 0) 1 699 := ⟨by decide +kernel, rfl⟩
theorem d_law_law_699 : dc code 699 (.iload_n 3) 1 700 := ⟨by decide +kernel, rfl⟩
theorem d_law_law_700 : dc code 700 (.iconst 2) 1 701 := ⟨by decide +kernel, rfl⟩
theorem d_law_law_701 : dc code 701 (.iadd) 1 702 := ⟨by decide +kernel, rfl⟩
theorem d_law_law_702 : dc code 702 (.iaload) 1 703 := ⟨by decide +kernel, rfl⟩
theorem d_law_law_703 : dc code 703 (.invokevirtual 74) 3 706 := ⟨by decide +kernel, rfl⟩
theorem d_law_law_706 : dc code 706 (.aload_n 2) 1 707 := ⟨by decide +kernel, rfl⟩
theorem d_law_law_707 : dc code 707 (.aload_n 0) 1 708 := ⟨by decide +kernel, rfl⟩
theorem d_law_law_708 : dc code 708 (.iload_n 3) 1 709 := ⟨by decide +kernel, rfl⟩
theorem d_law_law_709 : dc code 709 (.iconst 1) 1 710 := ⟨by decide +kernel, rfl⟩
theorem d_law_law_710 : dc code 710 (.iadd) 1 711 := ⟨by decide +kernel, rfl⟩
theorem d_law_law_711 : dc code 711 (.iaload) 1 712 := ⟨by decide +kernel, rfl⟩
theorem d_law_law_712 : dc code 712 (.aload_n 0) 1 713 := ⟨by decide +kernel, rfl⟩
theorem d_law_law_713 : dc code 713 (.iload_n 3) 1 714 := ⟨by decide +kernel, rfl⟩
theorem d_law_law_714 : dc code 714 (.iconst 2) 1 715 := ⟨by decide +kernel, rfl⟩
theorem d_law_law_715 : dc code 715 (.iadd) 1 716 := ⟨by decide +kernel, rfl⟩
theorem d_law_law_716 : dc code 716 (.iaload) 1 717 := ⟨by decide +kernel, rfl⟩
theorem d_law_law_717 : dc code 717 (.invokevirtual 77) 3 720 := ⟨by decide +kernel, rfl⟩
theorem d_law_law_720 : dc code 720 (.if_icmp .eq 279) 3 723 := ⟨by decide +kernel, rfl⟩
theorem d_law_law_723 : dc code 723 (.iconst 0) 1 724 := ⟨by decide +kernel, rfl⟩
theorem d_law_law_724 : dc code 724 (.ireturn) 1 725 := ⟨by decide +kernel, rfl⟩
theorem d_law_law_725 : dc code 725 (.aload_n 1) 1 726 := ⟨by decide +kernel, rfl⟩
theorem d_law_law_726 : dc code 726 (.aload_n 0) 1 727 := ⟨by decide +kernel, rfl⟩
theorem d_law_law_727 : dc code 727 (.iload_n 3) 1 728 := ⟨by decide +kernel, rfl⟩
theorem d_law_law_728 : dc code 728 (.iconst 1) 1 729 := ⟨by decide +kernel, rfl⟩
theorem d_law_law_729 : dc code 729 (.iadd) 1 730 := ⟨by decide +kernel, rfl⟩
theorem d_law_law_730 : dc code 730 (.iaload) 1 731 := ⟨by decide +kernel, rfl⟩
theorem d_law_law_731 : dc code 731 (.aload_n 0) 1 732 := ⟨by decide +kernel, rfl⟩
theorem d_law_law_732 : dc code 732 (.iload_n 3) 1 733 := ⟨by decide +kernel, rfl⟩
theorem d_law_law_733 : dc code 733 (.iconst 2) 1 734 := ⟨by decide +kernel, rfl⟩
theorem d_law_law_734 : dc code 734 (.iadd) 1 735 := ⟨by decide +kernel, rfl⟩
theorem d_law_law_735 : dc code 735 (.iaload) 1 736 := ⟨by decide +kernel, rfl⟩
theorem d_law_law_736 : dc code 736 (.aload_n 0) 1 737 := ⟨by decide +kernel, rfl⟩
theorem d_law_law_737 : dc code 737 (.iload_n 3) 1 738 := ⟨by decide +kernel, rfl⟩
theorem d_law_law_738 : dc code 738 (.iconst 3) 1 739 := ⟨by decide +kernel, rfl⟩
theorem d_law_law_739 : dc code 739 (.iadd) 1 740 := ⟨by decide +kernel, rfl⟩
theorem d_law_law_740 : dc code 740 (.iaload) 1 741 := ⟨by decide +kernel, rfl⟩
theorem d_law_law_741 : dc code 741 (.invokevirtual 78) 3 744 := ⟨by decide +kernel, rfl⟩
theorem d_law_law_744 : dc code 744 (.aload_n 2) 1 745 := ⟨by decide +kernel, rfl⟩
theorem d_law_law_745 : dc code 745 (.aload_n 0) 1 746 := ⟨by decide +kernel, rfl⟩
theorem d_law_law_746 : dc code 746 (.iload_n 3) 1 747 := ⟨by decide +kernel, rfl⟩
theorem d_law_law_747 : dc code 747 (.iconst 1) 1 748 := ⟨by decide +kernel, rfl⟩
theorem d_law_law_748 : dc code 748 (.iadd) 1 749 := ⟨by decide +kernel, rfl⟩
theorem d_law_law_749 : dc code 749 (.iaload) 1 750 := ⟨by decide +kernel, rfl⟩
theorem d_law_law_750 : dc code 750 (.aload_n 0) 1 751 := ⟨by decide +kernel, rfl⟩
theorem d_law_law_751 : dc code 751 (.iload_n 3) 1 752 := ⟨by decide +kernel, rfl⟩
theorem d_law_law_752 : dc code 752 (.iconst 2) 1 753 := ⟨by decide +kernel, rfl⟩
theorem d_law_law_753 : dc code 753 (.iadd) 1 754 := ⟨by decide +kernel, rfl⟩
theorem d_law_law_754 : dc code 754 (.iaload) 1 755 := ⟨by decide +kernel, rfl⟩
theorem d_law_law_755 : dc code 755 (.aload_n 0) 1 756 := ⟨by decide +kernel, rfl⟩
theorem d_law_law_756 : dc code 756 (.iload_n 3) 1 757 := ⟨by decide +kernel, rfl⟩
theorem d_law_law_757 : dc code 757 (.iconst 3) 1 758 := ⟨by decide +kernel, rfl⟩
theorem d_law_law_758 : dc code 758 (.iadd) 1 759 := ⟨by decide +kernel, rfl⟩
theorem d_law_law_759 : dc code 759 (.iaload) 1 760 := ⟨by decide +kernel, rfl⟩
theorem d_law_law_760 : dc code 760 (.invokevirtual 81) 3 763 := ⟨by decide +kernel, rfl⟩
theorem d_law_law_763 : dc code 763 (.if_icmp .eq 236) 3 766 := ⟨by decide +kernel, rfl⟩
theorem d_law_law_766 : dc code 766 (.iconst 0) 1 767 := ⟨by decide +kernel, rfl⟩
theorem d_law_law_767 : dc code 767 (.ireturn) 1 768 := ⟨by decide +kernel, rfl⟩
theorem d_law_law_768 : dc code 768 (.aload_n 1) 1 769 := ⟨by decide +kernel, rfl⟩
theorem d_law_law_769 : dc code 769 (.aload_n 0) 1 770 := ⟨by decide +kernel, rfl⟩
theorem d_law_law_770 : dc code 770 (.iload_n 3) 1 771 := ⟨by decide +kernel, rfl⟩
theorem d_law_law_771 : dc code 771 (.iconst 1) 1 772 := ⟨by decide +kernel, rfl⟩
theorem d_law_law_772 : dc code 772 (.iadd) 1 773 := ⟨by decide +kernel, rfl⟩
theorem d_law_law_773 : dc code 773 (.iaload) 1 774 := ⟨by decide +kernel, rfl⟩
theorem d_law_law_774 : dc code 774 (.aload_n 0) 1 775 := ⟨by decide +kernel, rfl⟩
theorem d_law_law_775 : dc code 775 (.iload_n 3) 1 776 := ⟨by decide +kernel, rfl⟩
theorem d_law_law_776 : dc code 776 (.iconst 2) 1 777 := ⟨by decide +kernel, rfl⟩
theorem d_law_law_777 : dc code 777 (.iadd) 1 778 := ⟨by decide +kernel, rfl⟩
theorem d_law_law_778 : dc code 778 (.iaload) 1 779 := ⟨by decide +kernel, rfl⟩
theorem d_law_law_779 : dc code 779 (.aload_n 0) 1 780 := ⟨by decide +kernel, rfl⟩
theorem d_law_law_780 : dc code 780 (.iload_n 3) 1 781 := ⟨by decide +kernel, rfl⟩
theorem d_law_law_781 : dc code 781 (.iconst 3) 1 782 := ⟨by decide +kernel, rfl⟩
theorem d_law_law_782 : dc code 782 (.iadd) 1 783 := ⟨by decide +kernel, rfl⟩
theorem d_law_law_783 : dc code 783 (.iaload) 1 784 := ⟨by decide +kernel, rfl⟩
theorem d_law_law_784 : dc code 784 (.invokevirtual 82) 3 787 := ⟨by decide +kernel, rfl⟩
theorem d_law_law_787 : dc code 787 (.aload_n 2) 1 788 := ⟨by decide +kernel, rfl⟩
theorem d_law_law_788 : dc code 788 (.aload_n 0) 1 789 := ⟨by decide +kernel, rfl⟩
theorem d_law_law_789 : dc code 789 (.iload_n 3) 1 790 := ⟨by decide +kernel, rfl⟩
theorem d_law_law_790 : dc code 790 (.iconst 1) 1 791 := ⟨by decide +kernel, rfl⟩
theorem d_law_law_791 : dc code 791 (.iadd) 1 792 := ⟨by decide +kernel, rfl⟩
theorem d_law_law_792 : dc code 792 (.iaload) 1 793 := ⟨by decide +kernel, rfl⟩
theorem d_law_law_793 : dc code 793 (.aload_n 0) 1 794 := ⟨by decide +kernel, rfl⟩
theorem d_law_law_794 : dc code 794 (.iload_n 3) 1 795 := ⟨by decide +kernel, rfl⟩
theorem d_law_law_795 : dc code 795 (.iconst 2) 1 796 := ⟨by decide +kernel, rfl⟩
theorem d_law_law_796 : dc code 796 (.iadd) 1 797 := ⟨by decide +kernel, rfl⟩
theorem d_law_law_797 : dc code 797 (.iaload) 1 798 := ⟨by decide +kernel, rfl⟩
theorem d_law_law_798 : dc code 798 (.aload_n 0) 1 799 := ⟨by decide +kernel, rfl⟩
theorem d_law_law_799 : dc code 799 (.iload_n 3) 1 800 := ⟨by decide +kernel, rfl⟩
theorem d_law_law_800 : dc code 800 (.iconst 3) 1 801 := ⟨by decide +kernel, rfl⟩
theorem d_law_law_801 : dc code 801 (.iadd) 1 802 := ⟨by decide +kernel, rfl⟩
theorem d_law_law_802 : dc code 802 (.iaload) 1 803 := ⟨by decide +kernel, rfl⟩
theorem d_law_law_803 : dc code 803 (.invokevirtual 85) 3 806 := ⟨by decide +kernel, rfl⟩
theorem d_law_law_806 : dc code 806 (.if_icmp .eq 193) 3 809 := ⟨by decide +kernel, rfl⟩
theorem d_law_law_809 : dc code 809 (.iconst 0) 1 810 := ⟨by decide +kernel, rfl⟩
theorem d_law_law_810 : dc code 810 (.ireturn) 1 811 := ⟨by decide +kernel, rfl⟩
theorem d_law_law_811 : dc code 811 (.aload_n 1) 1 812 := ⟨by decide +kernel, rfl⟩
theorem d_law_law_812 : dc code 812 (.aload_n 0) 1 813 := ⟨by decide +kernel, rfl⟩
theorem d_law_law_813 : dc code 813 (.iload_n 3) 1 814 := ⟨by decide +kernel, rfl⟩
theorem d_law_law_814 : dc code 814 (.iconst 1) 1 815 := ⟨by decide +kernel, rfl⟩
theorem d_law_law_815 : dc code 815 (.iadd) 1 816 := ⟨by decide +kernel, rfl⟩
theorem d_law_law_816 : dc code 816 (.iaload) 1 817 := ⟨by decide +kernel, rfl⟩
theorem d_law_law_817 : dc code 817 (.aload_n 0) 1 818 := ⟨by decide +kernel, rfl⟩
theorem d_law_law_818 : dc code 818 (.iload_n 3) 1 819 := ⟨by decide +kernel, rfl⟩
theorem d_law_law_819 : dc code 819 (.iconst 2) 1 820 := ⟨by decide +kernel, rfl⟩
theorem d_law_law_820 : dc code 820 (.iadd) 1 821 := ⟨by decide +kernel, rfl⟩
theorem d_law_law_821 : dc code 821 (.iaload) 1 822 := ⟨by decide +kernel, rfl⟩
theorem d_law_law_822 : dc code 822 (.invokevirtual 86) 3 825 := ⟨by decide +kernel, rfl⟩
theorem d_law_law_825 : dc code 825 (.aload_n 2) 1 826 := ⟨by decide +kernel, rfl⟩
theorem d_law_law_826 : dc code 826 (.aload_n 0) 1 827 := ⟨by decide +kernel, rfl⟩
theorem d_law_law_827 : dc code 827 (.iload_n 3) 1 828 := ⟨by decide +kernel, rfl⟩
theorem d_law_law_828 : dc code 828 (.iconst 1) 1 829 := ⟨by decide +kernel, rfl⟩
theorem d_law_law_829 : dc code 829 (.iadd) 1 830 := ⟨by decide +kernel, rfl⟩
theorem d_law_law_830 : dc code 830 (.iaload) 1 831 := ⟨by decide +kernel, rfl⟩
theorem d_law_law_831 : dc code 831 (.aload_n 0) 1 832 := ⟨by decide +kernel, rfl⟩
theorem d_law_law_832 : dc code 832 (.iload_n 3) 1 833 := ⟨by decide +kernel, rfl⟩
theorem d_law_law_833 : dc code 833 (.iconst 2) 1 834 := ⟨by decide +kernel, rfl⟩
theorem d_law_law_834 : dc code 834 (.iadd) 1 835 := ⟨by decide +kernel, rfl⟩
theorem d_law_law_835 : dc code 835 (.iaload) 1 836 := ⟨by decide +kernel, rfl⟩
theorem d_law_law_836 : dc code 836 (.invokevirtual 89) 3 839 := ⟨by decide +kernel, rfl⟩
theorem d_law_law_839 : dc code 839 (.if_icmp .eq 160) 3 842 := ⟨by decide +kernel, rfl⟩
theorem d_law_law_842 : dc code 842 (.iconst 0) 1 843 := ⟨by decide +kernel, rfl⟩
theorem d_law_law_843 : dc code 843 (.ireturn) 1 844 := ⟨by decide +kernel, rfl⟩
theorem d_law_law_844 : dc code 844 (.aload_n 1) 1 845 := ⟨by decide +kernel, rfl⟩
theorem d_law_law_845 : dc code 845 (.aload_n 0) 1 846 := ⟨by decide +kernel, rfl⟩
theorem d_law_law_846 : dc code 846 (.iload_n 3) 1 847 := ⟨by decide +kernel, rfl⟩
theorem d_law_law_847 : dc code 847 (.iconst 1) 1 848 := ⟨by decide +kernel, rfl⟩
theorem d_law_law_848 : dc code 848 (.iadd) 1 849 := ⟨by decide +kernel, rfl⟩
theorem d_law_law_849 : dc code 849 (.iaload) 1 850 := ⟨by decide +kernel, rfl⟩
theorem d_law_law_850 : dc code 850 (.aload_n 0) 1 851 := ⟨by decide +kernel, rfl⟩
theorem d_law_law_851 : dc code 851 (.iload_n 3) 1 852 := ⟨by decide +kernel, rfl⟩
theorem d_law_law_852 : dc code 852 (.iconst 2) 1 853 := ⟨by decide +kernel, rfl⟩
theorem d_law_law_853 : dc code 853 (.iadd) 1 854 := ⟨by decide +kernel, rfl⟩
theorem d_law_law_854 : dc code 854 (.iaload) 1 855 := ⟨by decide +kernel, rfl⟩
theorem d_law_law_855 : dc code 855 (.aload_n 0) 1 856 := ⟨by decide +kernel, rfl⟩
theorem d_law_law_856 : dc code 856 (.iload_n 3) 1 857 := ⟨by decide +kernel, rfl⟩
theorem d_law_law_857 : dc code 857 (.iconst 3) 1 858 := ⟨by decide +kernel, rfl⟩
theorem d_law_law_858 : dc code 858 (.iadd) 1 859 := ⟨by decide +kernel, rfl⟩
theorem d_law_law_859 : dc code 859 (.iaload) 1 860 := ⟨by decide +kernel, rfl⟩
theorem d_law_law_860 : dc code 860 (.invokevirtual 90) 3 863 := ⟨by decide +kernel, rfl⟩
theorem d_law_law_863 : dc code 863 (.aload_n 2) 1 864 := ⟨by decide +kernel, rfl⟩
theorem d_law_law_864 : dc code 864 (.aload_n 0) 1 865 := ⟨by decide +kernel, rfl⟩
theorem d_law_law_865 : dc code 865 (.iload_n 3) 1 866 := ⟨by decide +kernel, rfl⟩
theorem d_law_law_866 : dc code 866 (.iconst 1) 1 867 := ⟨by decide +kernel, rfl⟩
theorem d_law_law_867 : dc code 867 (.iadd) 1 868 := ⟨by decide +kernel, rfl⟩
theorem d_law_law_868 : dc code 868 (.iaload) 1 869 := ⟨by decide +kernel, rfl⟩
theorem d_law_law_869 : dc code 869 (.aload_n 0) 1 870 := ⟨by decide +kernel, rfl⟩
theorem d_law_law_870 : dc code 870 (.iload_n 3) 1 871 := ⟨by decide +kernel, rfl⟩
theorem d_law_law_871 : dc code 871 (.iconst 2) 1 872 := ⟨by decide +kernel, rfl⟩
theorem d_law_law_872 : dc code 872 (.iadd) 1 873 := ⟨by decide +kernel, rfl⟩
theorem d_law_law_873 : dc code 873 (.iaload) 1 874 := ⟨by decide +kernel, rfl⟩
theorem d_law_law_874 : dc code 874 (.aload_n 0) 1 875 := ⟨by decide +kernel, rfl⟩
theorem d_law_law_875 : dc code 875 (.iload_n 3) 1 876 := ⟨by decide +kernel, rfl⟩
theorem d_law_law_876 : dc code 876 (.iconst 3) 1 877 := ⟨by decide +kernel, rfl⟩
theorem d_law_law_877 : dc code 877 (.iadd) 1 878 := ⟨by decide +kernel, rfl⟩
theorem d_law_law_878 : dc code 878 (.iaload) 1 879 := ⟨by decide +kernel, rfl⟩
theorem d_law_law_879 : dc code 879 (.invokevirtual 93) 3 882 := ⟨by decide +kernel, rfl⟩
theorem d_law_law_882 : dc code 882 (.if_icmp .eq 117) 3 885 := ⟨by decide +kernel, rfl⟩
theorem d_law_law_885 : dc code 885 (.iconst 0) 1 886 := ⟨by decide +kernel, rfl⟩
theorem d_law_law_886 : dc code 886 (.ireturn) 1 887 := ⟨by decide +kernel, rfl⟩
theorem d_law_law_887 : dc code 887 (.aload_n 1) 1 888 := ⟨by decide +kernel, rfl⟩
theorem d_law_law_888 : dc code 888 (.aload_n 0) 1 889 := ⟨by decide +kernel, rfl⟩
theorem d_law_law_889 : dc code 889 (.iload_n 3) 1 890 := ⟨by decide +kernel, rfl⟩
theorem d_law_law_890 : dc code 890 (.iconst 1) 1 891 := ⟨by decide +kernel, rfl⟩
theorem d_law_law_891 : dc code 891 (.iadd) 1 892 := ⟨by decide +kernel, rfl⟩
theorem d_law_law_892 : dc code 892 (.iaload) 1 893 := ⟨by decide +kernel, rfl⟩
theorem d_law_law_893 : dc code 893 (.aload_n 0) 1 894 := ⟨by decide +kernel, rfl⟩
theorem d_law_law_894 : dc code 894 (.iload_n 3) 1 895 := ⟨by decide +kernel, rfl⟩
theorem d_law_law_895 : dc code 895 (.iconst 2) 1 896 := ⟨by decide +kernel, rfl⟩
theorem d_law_law_896 : dc code 896 (.iadd) 1 897 := ⟨by decide +kernel, rfl⟩
theorem d_law_law_897 : dc code 897 (.iaload) 1 898 := ⟨by decide +kernel, rfl⟩
theorem d_law_law_898 : dc code 898 (.aload_n 0) 1 899 := ⟨by decide +kernel, rfl⟩
theorem d_law_law_899 : dc code 899 (.iload_n 3) 1 900 := ⟨by decide +kernel, rfl⟩
theorem d_law_law_900 : dc code 900 (.iconst 3) 1 901 := ⟨by decide +kernel, rfl⟩
theorem d_law_law_901 : dc code 901 (.iadd) 1 902 := ⟨by decide +kernel, rfl⟩
theorem d_law_law_902 : dc code 902 (.iaload) 1 903 := ⟨by decide +kernel, rfl⟩
theorem d_law_law_903 : dc code 903 (.invokevirtual 94) 3 906 := ⟨by decide +kernel, rfl⟩
theorem d_law_law_906 : dc code 906 (.aload_n 2) 1 907 := ⟨by decide +kernel, rfl⟩
theorem d_law_law_907 : dc code 907 (.aload_n 0) 1 908 := ⟨by decide +kernel, rfl⟩
theorem d_law_law_908 : dc code 908 (.iload_n 3) 1 909 := ⟨by decide +kernel, rfl⟩
theorem d_law_law_909 : dc code 909 (.iconst 1) 1 910 := ⟨by decide +kernel, rfl⟩
theorem d_law_law_910 : dc code 910 (.iadd) 1 911 := ⟨by decide +kernel, rfl⟩
theorem d_law_law_911 : dc code 911 (.iaload) 1 912 := ⟨by decide +kernel, rfl⟩
theorem d_law_law_912 : dc code 912 (.aload_n 0) 1 913 := ⟨by decide +kernel, rfl⟩
theorem d_law_law_913 : dc code 913 (.iload_n 3) 1 914 := ⟨by decide +kernel, rfl⟩
theorem d_law_law_914 : dc code 914 (.iconst 2) 1 915 := ⟨by decide +kernel, rfl⟩
theorem d_law_law_915 : dc code 915 (.iadd) 1 916 := ⟨by decide +kernel, rfl⟩
theorem d_law_law_916 : dc code 916 (.iaload) 1 917 := ⟨by decide +kernel, rfl⟩
theorem d_law_law_917 : dc code 917 (.aload_n 0) 1 918 := ⟨by decide +kernel, rfl⟩
theorem d_law_law_918 : dc code 918 (.iload_n 3) 1 919 := ⟨by decide +kernel, rfl⟩
theorem d_law_law_919 : dc code 919 (.iconst 3) 1 920 := ⟨by decide +kernel, rfl⟩
theorem d_law_law_920 : dc code 920 (.iadd) 1 921 := ⟨by decide +kernel, rfl⟩
theorem d_law_law_921 : dc code 921 (.iaload) 1 922 := ⟨by decide +kernel, rfl⟩
theorem d_law_law_922 : dc code 922 (.invokevirtual 97) 3 925 := ⟨by decide +kernel, rfl⟩
theorem d_law_law_925 : dc code 925 (.if_icmp .eq 74) 3 928 := ⟨by decide +kernel, rfl⟩
theorem d_law_law_928 : dc code 928 (.iconst 0) 1 929 := ⟨by decide +kernel, rfl⟩
theorem d_law_law_929 : dc code 929 (.ireturn) 1 930 := ⟨by decide +kernel, rfl⟩
theorem d_law_law_930 : dc code 930 (.aload_n 1) 1 931 := ⟨by decide +kernel, rfl⟩
theorem d_law_law_931 : dc code 931 (.aload_n 0) 1 932 := ⟨by decide +kernel, rfl⟩
theorem d_law_law_932 : dc code 932 (.iload_n 3) 1 933 := ⟨by decide +kernel, rfl⟩
theorem d_law_law_933 : dc code 933 (.iconst 1) 1 934 := ⟨by decide +kernel, rfl⟩
theorem d_law_law_934 : dc code 934 (.iadd) 1 935 := ⟨by decide +kernel, rfl⟩
theorem d_law_law_935 : dc code 935 (.iaload) 1 936 := ⟨by decide +kernel, rfl⟩
theorem d_law_law_936 : dc code 936 (.aload_n 0) 1 937 := ⟨by decide +kernel, rfl⟩
theorem d_law_law_937 : dc code 937 (.iload_n 3) 1 938 := ⟨by decide +kernel, rfl⟩
theorem d_law_law_938 : dc code 938 (.iconst 2) 1 939 := ⟨by decide +kernel, rfl⟩
theorem d_law_law_939 : dc code 939 (.iadd) 1 940 := ⟨by decide +kernel, rfl⟩
theorem d_law_law_940 : dc code 940 (.iaload) 1 941 := ⟨by decide +kernel, rfl⟩
theorem d_law_law_941 : dc code 941 (.invokevirtual 98) 3 944 := ⟨by decide +kernel, rfl⟩
theorem d_law_law_944 : dc code 944 (.aload_n 2) 1 945 := ⟨by decide +kernel, rfl⟩
theorem d_law_law_945 : dc code 945 (.aload_n 0) 1 946 := ⟨by decide +kernel, rfl⟩
theorem d_law_law_946 : dc code 946 (.iload_n 3) 1 947 := ⟨by decide +kernel, rfl⟩
theorem d_law_law_947 : dc code 947 (.iconst 1) 1 948 := ⟨by decide +kernel, rfl⟩
theorem d_law_law_948 : dc code 948 (.iadd) 1 949 := ⟨by decide +kernel, rfl⟩
theorem d_law_law_949 : dc code 949 (.iaload) 1 950 := ⟨by decide +kernel, rfl⟩
theorem d_law_law_950 : dc code 950 (.aload_n 0) 1 951 := ⟨by decide +kernel, rfl⟩
theorem d_law_law_951 : dc code 951 (.iload_n 3) 1 952 := ⟨by decide +kernel, rfl⟩
theorem d_law_law_952 : dc code 952 (.iconst 2) 1 953 := ⟨by decide +kernel, rfl⟩
theorem d_law_law_953 : dc code 953 (.iadd) 1 954 := ⟨by decide +kernel, rfl⟩
theorem d_law_law_954 : dc code 954 (.iaload) 1 955 := ⟨by decide +kernel, rfl⟩
theorem d_law_law_955 : dc code 955 (.invokevirtual 101) 3 958 := ⟨by decide +kernel, rfl⟩
theorem d_law_law_958 : dc code 958 (.if_icmp .eq 41) 3 961 := ⟨by decide +kernel, rfl⟩
theorem d_law_law_961 : dc code 961 (.iconst 0) 1 962 := ⟨by decide +kernel, rfl⟩
theorem d_law_law_962 : dc code 962 (.ireturn) 1 963 := ⟨by decide +kernel, rfl⟩
theorem d_law_law_963 : dc code 963 (.aload_n 1) 1 964 := ⟨by decide +kernel, rfl⟩
theorem d_law_law_964 : dc code 964 (.aload_n 0) 1 965 := ⟨by decide +kernel, rfl⟩
theorem d_law_law_965 : dc code 965 (.iload_n 3) 1 966 := ⟨by decide +kernel, rfl⟩
theorem d_law_law_966 : dc code 966 (.iconst 1) 1 967 := ⟨by decide +kernel, rfl⟩
theorem d_law_law_967 : dc code 967 (.iadd) 1 968 := ⟨by decide +kernel, rfl⟩
theorem d_law_law_968 : dc code 968 (.iaload) 1 969 := ⟨by decide +kernel, rfl⟩
theorem d_law_law_969 : dc code 969 (.invokevirtual 102) 3 972 := ⟨by decide +kernel, rfl⟩
theorem d_law_law_972 : dc code 972 (.aload_n 2) 1 973 := ⟨by decide +kernel, rfl⟩
theorem d_law_law_973 : dc code 973 (.aload_n 0) 1 974 := ⟨by decide +kernel, rfl⟩
theorem d_law_law_974 : dc code 974 (.iload_n 3) 1 975 := ⟨by decide +kernel, rfl⟩
theorem d_law_law_975 : dc code 975 (.iconst 1) 1 976 := ⟨by decide +kernel, rfl⟩
theorem d_law_law_976 : dc code 976 (.iadd) 1 977 := ⟨by decide +kernel, rfl⟩
theorem d_law_law_977 : dc code 977 (.iaload) 1 978 := ⟨by decide +kernel, rfl⟩
theorem d_law_law_978 : dc code 978 (.invokevirtual 105) 3 981 := ⟨by decide +kernel, rfl⟩
theorem d_law_law_981 : dc code 981 (.if_icmp .eq 18) 3 984 := ⟨by decide +kernel, rfl⟩
theorem d_law_law_984 : dc code 984 (.iconst 0) 1 985 := ⟨by decide +kernel, rfl⟩
theorem d_law_law_985 : dc code 985 (.ireturn) 1 986 := ⟨by decide +kernel, rfl⟩
theorem d_law_law_986 : dc code 986 (.aload_n 1) 1 987 := ⟨by decide +kernel, rfl⟩
theorem d_law_law_987 : dc code 987 (.invokevirtual 106) 3 990 := ⟨by decide +kernel, rfl⟩
theorem d_law_law_990 : dc code 990 (.aload_n 2) 1 991 := ⟨by decide +kernel, rfl⟩
theorem d_law_law_991 : dc code 991 (.invokevirtual 110) 3 994 := ⟨by decide +kernel, rfl⟩
theorem d_law_law_994 : dc code 994 (.if_icmp .eq 5) 3 997 := ⟨by decide +kernel, rfl⟩
theorem d_law_law_997 : dc code 997 (.iconst 0) 1 998 := ⟨by decide +kernel, rfl⟩
theorem d_law_law_998 : dc code 998 (.ireturn) 1 999 := ⟨by decide +kernel, rfl⟩
theorem d_law_law_999 : dc code 999 (.iinc 3 8) 3 1002 := ⟨by decide +kernel, rfl⟩
theorem d_law_law_1002 : dc code 1002 (.goto (-984)) 3 1005 := ⟨by decide +kernel, rfl⟩
theorem d_law_law_1005 : dc code 1005 (.iconst 1) 1 1006 := ⟨by decide +kernel, rfl⟩
theorem d_law_law_1006 : dc code 1006 (.ireturn) 1 1007 := ⟨by decide +kernel, rfl⟩
theorem d_Ma_max_0 : dc cd_Ma_max 0 (.iload_n 0) 1 1 := ⟨by decide +kernel, rfl⟩
theorem d_Ma_max_1 : dc cd_Ma_max 1 (.iload_n 1) 1 2 := ⟨by decide +kernel, rfl⟩
theorem d_Ma_max_2 : dc cd_Ma_max 2 (.if_icmp .lt 7) 3 5 := ⟨by decide +kernel, rfl⟩
theorem d_Ma_max_5 : dc cd_Ma_max 5 (.iload_n 0) 1 6 := ⟨by decide +kernel, rfl⟩
theorem d_Ma_max_6 : dc cd_Ma_max 6 (.goto 4) 3 9 := ⟨by decide +kernel, rfl⟩
theorem d_Ma_max_9 : dc cd_Ma_max 9 (.iload_n 1) 1 10 := ⟨by decide +kernel, rfl⟩
theorem d_Ma_max_10 : dc cd_Ma_max 10 (.ireturn) 1 11 := ⟨by decide +kernel, rfl⟩
theorem d_Ar_fill_0 : dc cd_Ar_fill 0 (.iconst 0) 1 1 := ⟨by decide +kernel, rfl⟩
theorem d_Ar_fill_1 : dc cd_Ar_fill 1 (.istore_n 2) 1 2 := ⟨by decide +kernel, rfl⟩
theorem d_Ar_fill_2 : dc cd_Ar_fill 2 (.aload_n 0) 1 3 := ⟨by decide +kernel, rfl⟩
theorem d_Ar_fill_3 : dc cd_Ar_fill 3 (.arraylength) 1 4 := ⟨by decide +kernel, rfl⟩
theorem d_Ar_fill_4 : dc cd_Ar_fill 4 (.istore_n 3) 1 5 := ⟨by decide +kernel, rfl⟩
theorem d_Ar_fill_5 : dc cd_Ar_fill 5 (.iload_n 2) 1 6 := ⟨by decide +kernel, rfl⟩
theorem d_Ar_fill_6 : dc cd_Ar_fill 6 (.iload_n 3) 1 7 := ⟨by decide +kernel, rfl⟩
theorem d_Ar_fill_7 : dc cd_Ar_fill 7 (.if_icmp .ge 13) 3 10 := ⟨by decide +kernel, rfl⟩
theorem d_Ar_fill_10 : dc cd_Ar_fill 10 (.aload_n 0) 1 11 := ⟨by decide +kernel, rfl⟩
theorem d_Ar_fill_11 : dc cd_Ar_fill 11 (.iload_n 2) 1 12 := ⟨by decide +kernel, rfl⟩
theorem d_Ar_fill_12 : dc cd_Ar_fill 12 (.iload_n 1) 1 13 := ⟨by decide +kernel, rfl⟩
theorem d_Ar_fill_13 : dc cd_Ar_fill 13 (.iastore) 1 14 := ⟨by decide +kernel, rfl⟩
theorem d_Ar_fill_14 : dc cd_Ar_fill 14 (.iinc 2 1) 3 17 := ⟨by decide +kernel, rfl⟩
theorem d_Ar_fill_17 : dc cd_Ar_fill 17 (.goto (-12)) 3 20 := ⟨by decide +kernel, rfl⟩
theorem d_Ar_fill_20 : dc cd_Ar_fill 20 (.return_) 1 21 := ⟨by decide +kernel, rfl⟩
end
section
/-! the tables' words hold in every later state, for any arguments -/
def wk_ : Cond → Bool
  | .fieldLinkNest .. => true
  | .methodLinkNest .. => true
  | .arrayOver (.object _) => true
  | w => goodWord w
def tb_ : List Cond := lw_tbl.filter wk_
theorem tb_in {w : Cond} (h : w ∈ lw_tbl) (hw : wk_ w = true) : w ∈ tb_ := List.mem_filter.mpr ⟨h, hw⟩
theorem tb_u {C : String} {T : u_T} {N : Nat} (h : ∀ w ∈ u_ws C T N, w ∈ lw_tbl) : ∀ w ∈ u_ws C T N, w ∈ tb_ := by
  intro w hw
  refine tb_in (h w hw) ?_
  obtain ⟨k, -, rfl⟩ := List.mem_map.mp hw
  unfold u_lay
  split <;> rfl
def tt_ (U : State) : Prop := ∀ w ∈ tb_, ∀ A : Array Value, w.before A U = true
theorem wk_warm {w : Cond} (h : wk_ w = true) {s U : State} (hW : s.WarmedH U.vm) {A B : Array Value} (hb : w.before A s = true) : w.before B U = true := by
  have gd : goodWord w = true → w.before B U = true := fun h => word_at hW (good_of_word h) hb
  cases w with
  | fieldLinkNest a i b n d h => exact va_Nw.use rfl (va_Nw.warmF hW (va_Nw.of rfl hb))
  | methodLinkNest a i x h => exact va_Nw.use rfl (va_Nw.warmM hW (va_Nw.of rfl hb))
  | arrayOver t =>
    cases t with
    | object C => exact va_AO.use (va_AO.moved hW.alike (va_AO.of hb))
    | _ => exact gd h
  | _ => exact gd h
theorem tt_warm {s U : State} (hW : s.WarmedH U.vm) (h : tt_ s) : tt_ U := fun w hw A => wk_warm (List.mem_filter.mp hw).2 hW (h w hw #[])
theorem tt_of {s : State} {A : Array Value} (h : ∀ w ∈ lw_tbl, w.before A s = true) : tt_ s := fun w hw B => wk_warm (List.mem_filter.mp hw).2 (State.WarmedH.refl s) (h w (List.mem_filter.mp hw).1)
abbrev ty6 (t6 : Nat → ClassId) : List (ClassId × FieldType) := [(t6 0, .int), (t6 1, .boolean), (t6 2, .object R_Le), (t6 3, .object R_Ch), (t6 4, .object R_Me), (t6 5, .object R_En)]
def kk_ (D : va_G) (t6 : Nat → ClassId) (U : State) : Prop := tt_ U ∧ va_K D classes (ty6 t6) U
theorem kk_warm {D : va_G} {t6 : Nat → ClassId} {s U : State} (hW : s.WarmedH U.vm) (h : kk_ D t6 s) : kk_ D t6 U := ⟨tt_warm hW h.1, va_K.moved hW.alike h.2⟩
/-! the memory: kind, number, slot; where a cell lies, and what it holds -/
abbrev Mem : Type := Nat → Nat → Nat → Int32
def u3 (M : Mem) (k i j : Nat) (v : Int32) : Mem := fun a b c => if a = k ∧ b = i ∧ c = j then v else M a b c
def of_ (kd i : Nat) : Nat := match kd with
  | 0 => 0
  | 1 => 4 + 4 * i
  | 2 => 5 + 4 * i
  | 3 => 6 + 4 * i
  | 4 => 7 + 4 * i
  | 5 => 12 + 8 * i
  | 6 => 14 + 8 * (i / 2) + 3 * (i % 2)
  | 7 => 15 + 8 * (i / 2) + 3 * (i % 2)
  | 8 => 16 + 8 * (i / 2) + 3 * (i % 2)
  | 9 => 44 + i
  | 10 => 1
  | 11 => 2
  | 12 => 3
  | 13 => 13 + 8 * i
  | 20 => 104
  | _ => 105 + i
def nk_ (kd : Nat) : Nat := match kd with
  | 0 => 1
  | 1 => 2
  | 2 => 2
  | 3 => 2
  | 4 => 2
  | 5 => 4
  | 6 => 8
  | 7 => 8
  | 8 => 8
  | 9 => 60
  | 10 => 1
  | 11 => 1
  | 12 => 1
  | 13 => 4
  | 20 => 1
  | 21 => 28
  | _ => 0
def ad (b kd i : Nat) : Nat := b + of_ kd i
def vv (n kd i : Nat) : Prop := i < nk_ kd ∧ of_ kd i < n
def iv_ (o : Nat) : Nat × Nat := (((List.range 22).flatMap (fun kd => (List.range (nk_ kd)).map (fun i => (kd, i)))).find? (fun q => of_ q.1 q.2 == o)).getD (0, 0)
theorem iv_ok : ∀ kd, kd < 22 → ∀ i, i < nk_ kd → iv_ (of_ kd i) = (kd, i) := by decide +kernel
theorem nk_22 {kd : Nat} (h : 22 ≤ kd) : nk_ kd = 0 := by
  unfold nk_
  split <;> first | omega | rfl
theorem ad_inj {b n kd i kd2 i2 : Nat} (h : vv n kd i) (h2 : vv n kd2 i2) (e : ad b kd i = ad b kd2 i2) : kd = kd2 ∧ i = i2 := by
  have l1 : kd < 22 := by
    rcases Nat.lt_or_ge kd 22 with q | q
    · exact q
    · exact absurd h.1 (by rw [nk_22 q]; omega)
  have l2 : kd2 < 22 := by
    rcases Nat.lt_or_ge kd2 22 with q | q
    · exact q
    · exact absurd h2.1 (by rw [nk_22 q]; omega)
  have e1 : of_ kd i = of_ kd2 i2 := by unfold ad at e; omega
  have e2 := iv_ok kd l1 i h.1
  rw [e1, iv_ok kd2 l2 i2 h2.1] at e2
  exact ⟨(congrArg Prod.fst e2).symm, (congrArg Prod.snd e2).symm⟩
def wl_ (b n : Nat) : List Nat := (List.range n).map (fun k => b + k)
theorem wl_in {b n kd i : Nat} (h : vv n kd i) : ad b kd i ∈ wl_ b n := List.mem_map.mpr ⟨of_ kd i, List.mem_range.mpr h.2, rfl⟩
theorem wl_D (b n : Nat) (f : Nat → va_E) : va_D (fun q => b ≤ q) ([] ++ va_pl (wl_ b n) f) := by
  have key : ∀ (k : Nat) (q : Nat × va_E), ([] ++ va_pl (wl_ b n) f)[k]? = some q → q.1 = b + k := by
    intro k q hk
    rw [List.nil_append] at hk
    unfold va_pl wl_ at hk
    rw [List.map_map, List.getElem?_map] at hk
    cases hr : (List.range n)[k]? with
    | none => rw [hr] at hk; cases hk
    | some z =>
      rw [hr] at hk
      have hz : z = k := by
        have h2 := List.getElem?_eq_some_iff.mp hr
        obtain ⟨h3, h4⟩ := h2
        rw [List.getElem_range] at h4
        exact h4.symm
      subst hz
      cases hk
      rfl
  refine ⟨fun i j p q hi hj e => ?_, fun k q hk => ?_⟩
  · have := key i p hi
    have := key j q hj
    omega
  · have := key k q hk
    show b ≤ q.1
    omega
/-- of the reference's 28 arrays: the class by its number, and the length -/
def ra_c (a : Nat) : Nat := match a with
  | 2 => 1
  | 4 => 1
  | 22 => 1
  | 27 => 1
  | _ => 0
def ra_n (a : Nat) : Nat := match a with
  | 0 => 2
  | 1 => 402
  | 2 => 2
  | 3 => 4
  | 4 => 4
  | 5 => 8
  | 6 => 8
  | 7 => 8
  | 8 => 8
  | 9 => 8
  | 10 => 8
  | 11 => 1608
  | 12 => 8
  | 13 => 32
  | _ => 60
def cm_ (t6 : Nat → ClassId) (b kd i : Nat) (m : Nat → Int32) : va_E := match kd with
  | 0 => .inr (5, [.ref (ad b 10 0), .ref (ad b 11 0), .ref (ad b 12 0), .int (m 3), .int (m 4)])
  | 1 => .inr (3, [.ref (ad b 2 i), .ref (ad b 3 i), .int (m 2)])
  | 2 => .inl (t6 0, 4, .inl m)
  | 3 => .inr (1, [.ref (ad b 4 i), .int (m 1), .int (m 2), .int (m 3)])
  | 4 => .inl (t6 0, 201, .inl m)
  | 5 => .inr (0, [.ref (ad b 13 i), .int (m 1), .int (m 2)])
  | 6 => .inr (2, [.ref (ad b 7 i), .ref (ad b 8 i), .int (m 2), .int (m 3), .int (m 4), .int (m 5), .int (m 6), .int (m 7)])
  | 7 => .inl (t6 0, 5, .inl m)
  | 8 => .inl (t6 0, 4, .inl m)
  | 9 => .inr (4, [.int (m 0), .int (m 1), .int (m 2), .int (m 3), .int (m 4), .int (m 5), .int (m 6), .int (m 7), .int (m 8), .int (m 9), .int (m 10), .int (m 11), .int (m 12), .int (m 13)])
  | 10 => .inl (t6 2, 2, .inr (.inr (.inr (.inr (fun j => some (ad b 1 j))))))
  | 11 => .inl (t6 3, 4, .inr (.inr (.inr (.inr (fun j => some (ad b 5 j))))))
  | 12 => .inl (t6 4, 60, .inr (.inr (.inr (.inr (fun j => some (ad b 9 j))))))
  | 13 => .inl (t6 5, 2, .inr (.inr (.inr (.inr (fun j => some (ad b 6 (2 * i + j)))))))
  | 20 => .inr (6, [.ref (ad b 21 0), .ref (ad b 21 1), .ref (ad b 21 2), .int (m 3), .ref (ad b 21 3), .ref (ad b 21 4), .ref (ad b 21 5), .ref (ad b 21 6), .ref (ad b 21 7), .ref (ad b 21 8), .ref (ad b 21 9), .ref (ad b 21 10), .ref (ad b 21 11), .ref (ad b 21 12), .ref (ad b 21 13), .int (m 15), .ref (ad b 21 14), .ref (ad b 21 15), .ref (ad b 21 16), .ref (ad b 21 17), .ref (ad b 21 18), .ref (ad b 21 19), .ref (ad b 21 20), .ref (ad b 21 21), .ref (ad b 21 22), .ref (ad b 21 23), .ref (ad b 21 24), .ref (ad b 21 25), .ref (ad b 21 26), .ref (ad b 21 27)])
  | _ => .inl (t6 (ra_c i), ra_n i, .inl m)
def ft_ (t6 : Nat → ClassId) (b n : Nat) (M : Mem) (f : Nat → va_E) : Prop := ∀ kd i, vv n kd i → f (ad b kd i) = cm_ t6 b kd i (M kd i)
def wo (D : va_G) (t6 : Nat → ClassId) (b n : Nat) (M : Mem) (H : Heap) : Prop := ∃ f : Nat → va_E, va_P D classes ([] ++ va_pl (wl_ b n) f) H ∧ ft_ t6 b n M f
theorem u3_at (M : Mem) (k i j : Nat) (v : Int32) : u3 M k i j v k i = upd (M k i) j v := by
  funext c
  simp [u3, upd]
theorem ft_put {t6 : Nat → ClassId} {b n : Nat} {M : Mem} {f : Nat → va_E} {kd i j : Nat} {v : Int32} {x : va_E} (h : ft_ t6 b n M f) (hv : vv n kd i) (hx : x = cm_ t6 b kd i (upd (M kd i) j v)) : ft_ t6 b n (u3 M kd i j v) (va_up f (ad b kd i) x) := by
  intro k2 i2 h2
  by_cases e : k2 = kd ∧ i2 = i
  · obtain ⟨rfl, rfl⟩ := e
    rw [va_up_self, hx, u3_at]
  · rw [va_up_ne _ _ (fun q => e (ad_inj h2 hv q)), h k2 i2 h2]
    congr 1
    funext c
    unfold u3
    rw [if_neg (fun q => e ⟨q.1, q.2.1⟩)]
/-! the machine's frame in a method: the context, the locals, the judgement -/
def cx (p : Program) (s : State) (m : MethodId) (meth : Method) (c : Code) (cc : ByteArray) (nL : Nat) (own : String) (ret : Option FieldType) (D : va_G) (t6 : Nat → ClassId) : Prop :=
  p.tables.exec = Jvm.exec ∧ c.code = cc ∧ c.maxLocals = nL ∧ s.vm.findClass own = some m.cls ∧ meth.sig.returnType = ret ∧ meth.locks = false ∧ kk_ D t6 s
def hs (ls : Array Slot) (nL : Nat) (L : List (Option Value)) : Prop := ls.size = nL ∧ lv_wf ls ∧ ∀ (i : Nat) (v : Value), L[i]? = some (some v) → v.category = 1 ∧ ls[i]? = some (.val v)
def lf_ (L : List (Option Value)) : List (Nat × Value) := (List.range L.length).filterMap (fun i => match L[i]? with | some (some v) => some (i, v) | _ => none)
theorem lf_in {L : List (Option Value)} {i : Nat} {v : Value} (h : L[i]? = some (some v)) : (i, v) ∈ lf_ L := by
  refine List.mem_filterMap.mpr ⟨i, List.mem_range.mpr (List.getElem?_eq_some_iff.mp h).1, ?_⟩
  rw [h]
theorem lf_of {L : List (Option Value)} {q : Nat × Value} (h : q ∈ lf_ L) : L[q.1]? = some (some q.2) := by
  obtain ⟨i, -, hi⟩ := List.mem_filterMap.mp h
  split at hi
  next v e => cases hi; exact e
  next => cases hi
theorem hs_to {ls : Array Slot} {nL : Nat} {L : List (Option Value)} (h : hs ls nL L) : lv_has ls nL (lf_ L) := ⟨h.1, h.2.1, fun q hq => (h.2.2 q.1 q.2 (lf_of hq)).2⟩
theorem hs_store {ls ls2 : Array Slot} {nL : Nat} {L : List (Option Value)} {i : Nat} {v : Value} (h : hs ls nL L) (hc : v.category = 1) (h2 : lv_has ls2 nL ((i, v) :: (lf_ L).filter (fun q => !(q.1 == i) && !(q.1 + 1 == i && q.2.category == 2)))) : hs ls2 nL (L.set i (some v)) := by
  refine ⟨h2.1, h2.2.1, fun j w hj => ?_⟩
  by_cases e : j = i
  · subst e
    have hl : j < L.length := by
      have := (List.getElem?_eq_some_iff.mp hj).1
      rwa [List.length_set] at this
    rw [List.getElem?_set_self hl] at hj
    cases hj
    exact ⟨hc, h2.2.2 (j, v) List.mem_cons_self⟩
  · rw [List.getElem?_set_ne (Ne.symm e)] at hj
    have hw := (h.2.2 j w hj).1
    refine ⟨hw, h2.2.2 (j, w) (List.mem_cons_of_mem _ (List.mem_filter.mpr ⟨lf_in hj, ?_⟩))⟩
    simp [e, hw]
def St (p : Program) (l : Launch) (e : Env) (R : Room) (s : State) (m : MethodId) (args : Array Value) (below : List Frame) (meth : Method) (c : Code) (D : va_G) (t6 : Nat → ClassId) (b n nL : Nat) (Q : State → Prop) (M : Mem) (pc : Nat) (L : List (Option Value)) (st : List Value) : Prop :=
  ∀ (H : Heap) (locs : List Loc) (ls : Array Slot), wo D t6 b n M H → va_S (fun q => b ≤ q) s.heap H locs → hs ls nL L → W p l e R s m args below meth c H locs 0 0 Q (F0 m pc ls st)
end
section
section
variable {p : Program} {l : Launch} {e : Env} {R : Room} {s : State} {m : MethodId} {args : Array Value} {below : List Frame} {meth : Method} {c : Code} {D : va_G} {t6 : Nat → ClassId} {b n nL : Nat} {Q : State → Prop} {M : Mem} {pc pc2 : Nat} {L : List (Option Value)} {st : List Value} {cc : ByteArray} {own : String} {ret : Option FieldType}

theorem sr_iconst (G : cx p s m meth c cc nL own ret D t6) {z : Int} {v : Int32} (hv : Int32.ofInt z = v) (hd : dc cc pc (.iconst z) 1 pc2) (k : St p l e R s m args below meth c D t6 b n nL Q M pc2 L (.int v :: st)) : St p l e R s m args below meth c D t6 b n nL Q M pc L st := by
  intro H locs ls hw hS hl
  obtain ⟨hx, hb, hml, hown, hr, hlk, hk⟩ := G
  obtain ⟨hd, rfl⟩ := hd
  exact lv_iconst hx hb hd hv (k H locs ls hw hS hl)
theorem sr_bipush (G : cx p s m meth c cc nL own ret D t6) {z : Int} {v : Int32} (hv : (Int8.ofInt z).toInt32 = v) (hd : dc cc pc (.bipush z) 2 pc2) (k : St p l e R s m args below meth c D t6 b n nL Q M pc2 L (.int v :: st)) : St p l e R s m args below meth c D t6 b n nL Q M pc L st := by
  intro H locs ls hw hS hl
  obtain ⟨hx, hb, hml, hown, hr, hlk, hk⟩ := G
  obtain ⟨hd, rfl⟩ := hd
  exact lv_bipush hx hb hd hv (k H locs ls hw hS hl)
theorem sr_sipush (G : cx p s m meth c cc nL own ret D t6) {z : Int} {v : Int32} (hv : (Int16.ofInt z).toInt32 = v) (hd : dc cc pc (.sipush z) 3 pc2) (k : St p l e R s m args below meth c D t6 b n nL Q M pc2 L (.int v :: st)) : St p l e R s m args below meth c D t6 b n nL Q M pc L st := by
  intro H locs ls hw hS hl
  obtain ⟨hx, hb, hml, hown, hr, hlk, hk⟩ := G
  obtain ⟨hd, rfl⟩ := hd
  exact lv_sipush hx hb hd hv (k H locs ls hw hS hl)
theorem sr_iload_n (G : cx p s m meth c cc nL own ret D t6) {i : Fin 4} {x : Int32} (hi : L[(i : Nat)]? = some (some (.int x))) (hd : dc cc pc (.iload_n i) 1 pc2) (k : St p l e R s m args below meth c D t6 b n nL Q M pc2 L (.int x :: st)) : St p l e R s m args below meth c D t6 b n nL Q M pc L st := by
  intro H locs ls hw hS hl
  obtain ⟨hx, hb, hml, hown, hr, hlk, hk⟩ := G
  obtain ⟨hd, rfl⟩ := hd
  exact lv_iload_n hx hb hd rfl (hl.2.2 _ _ hi).2 (k H locs ls hw hS hl)
theorem sr_iload (G : cx p s m meth c cc nL own ret D t6) {i : Nat} {x : Int32} (hi : L[i]? = some (some (.int x))) (hd : dc cc pc (.iload i) 2 pc2) (k : St p l e R s m args below meth c D t6 b n nL Q M pc2 L (.int x :: st)) : St p l e R s m args below meth c D t6 b n nL Q M pc L st := by
  intro H locs ls hw hS hl
  obtain ⟨hx, hb, hml, hown, hr, hlk, hk⟩ := G
  obtain ⟨hd, rfl⟩ := hd
  exact lv_iload hx hb hd (hl.2.2 _ _ hi).2 (k H locs ls hw hS hl)
theorem sr_aload_n (G : cx p s m meth c cc nL own ret D t6) {i : Fin 4} {x : Nat} (hi : L[(i : Nat)]? = some (some (.ref x))) (hd : dc cc pc (.aload_n i) 1 pc2) (k : St p l e R s m args below meth c D t6 b n nL Q M pc2 L (.ref x :: st)) : St p l e R s m args below meth c D t6 b n nL Q M pc L st := by
  intro H locs ls hw hS hl
  obtain ⟨hx, hb, hml, hown, hr, hlk, hk⟩ := G
  obtain ⟨hd, rfl⟩ := hd
  exact lv_aload_n hx hb hd rfl (hl.2.2 _ _ hi).2 (k H locs ls hw hS hl)
theorem sr_aload (G : cx p s m meth c cc nL own ret D t6) {i : Nat} {x : Nat} (hi : L[i]? = some (some (.ref x))) (hd : dc cc pc (.aload i) 2 pc2) (k : St p l e R s m args below meth c D t6 b n nL Q M pc2 L (.ref x :: st)) : St p l e R s m args below meth c D t6 b n nL Q M pc L st := by
  intro H locs ls hw hS hl
  obtain ⟨hx, hb, hml, hown, hr, hlk, hk⟩ := G
  obtain ⟨hd, rfl⟩ := hd
  exact lv_aload hx hb hd (hl.2.2 _ _ hi).2 (k H locs ls hw hS hl)
theorem sr_istore_n (G : cx p s m meth c cc nL own ret D t6) {i : Fin 4} {x : Int32} (hn : (i : Nat) < nL) (hd : dc cc pc (.istore_n i) 1 pc2) (k : St p l e R s m args below meth c D t6 b n nL Q M pc2 (L.set (i : Nat) (some (.int x))) st) : St p l e R s m args below meth c D t6 b n nL Q M pc L (.int x :: st) := by
  intro H locs ls hw hS hl
  obtain ⟨hx, hb, hml, hown, hr, hlk, hk⟩ := G
  obtain ⟨hd, rfl⟩ := hd
  exact lv_istore_n hx hb hd rfl (hs_to hl) hn rfl (fun ls2 h2 => k H locs ls2 hw hS (hs_store hl rfl h2))
theorem sr_istore (G : cx p s m meth c cc nL own ret D t6) {i : Nat} {x : Int32} (hn : i < nL) (hd : dc cc pc (.istore i) 2 pc2) (k : St p l e R s m args below meth c D t6 b n nL Q M pc2 (L.set i (some (.int x))) st) : St p l e R s m args below meth c D t6 b n nL Q M pc L (.int x :: st) := by
  intro H locs ls hw hS hl
  obtain ⟨hx, hb, hml, hown, hr, hlk, hk⟩ := G
  obtain ⟨hd, rfl⟩ := hd
  exact lv_istore hx hb hd (hs_to hl) hn rfl (fun ls2 h2 => k H locs ls2 hw hS (hs_store hl rfl h2))
theorem sr_astore_n (G : cx p s m meth c cc nL own ret D t6) {i : Fin 4} {x : Nat} (hn : (i : Nat) < nL) (hd : dc cc pc (.astore_n i) 1 pc2) (k : St p l e R s m args below meth c D t6 b n nL Q M pc2 (L.set (i : Nat) (some (.ref x))) st) : St p l e R s m args below meth c D t6 b n nL Q M pc L (.ref x :: st) := by
  intro H locs ls hw hS hl
  obtain ⟨hx, hb, hml, hown, hr, hlk, hk⟩ := G
  obtain ⟨hd, rfl⟩ := hd
  exact lv_astore_n hx hb hd rfl (hs_to hl) hn rfl (fun ls2 h2 => k H locs ls2 hw hS (hs_store hl rfl h2))
theorem sr_astore (G : cx p s m meth c cc nL own ret D t6) {i : Nat} {x : Nat} (hn : i < nL) (hd : dc cc pc (.astore i) 2 pc2) (k : St p l e R s m args below meth c D t6 b n nL Q M pc2 (L.set i (some (.ref x))) st) : St p l e R s m args below meth c D t6 b n nL Q M pc L (.ref x :: st) := by
  intro H locs ls hw hS hl
  obtain ⟨hx, hb, hml, hown, hr, hlk, hk⟩ := G
  obtain ⟨hd, rfl⟩ := hd
  exact lv_astore hx hb hd (hs_to hl) hn rfl (fun ls2 h2 => k H locs ls2 hw hS (hs_store hl rfl h2))
theorem sr_iinc (G : cx p s m meth c cc nL own ret D t6) {i : Nat} {z : Int} {x v : Int32} (hi : L[i]? = some (some (.int x))) (hv : x + Int32.ofInt z = v) (hn : i < nL) (hd : dc cc pc (.iinc i z) 3 pc2) (k : St p l e R s m args below meth c D t6 b n nL Q M pc2 (L.set i (some (.int v))) st) : St p l e R s m args below meth c D t6 b n nL Q M pc L st := by
  intro H locs ls hw hS hl
  obtain ⟨hx, hb, hml, hown, hr, hlk, hk⟩ := G
  obtain ⟨hd, rfl⟩ := hd
  obtain ⟨k9, hk9⟩ := List.getElem?_of_mem (lf_in hi)
  exact lv_iinc hx hb hd (hs_to hl) hk9 hv hn rfl (fun ls2 h2 => k H locs ls2 hw hS (hs_store hl rfl h2))
theorem sr_iadd (G : cx p s m meth c cc nL own ret D t6) {x y : Int32} (hd : dc cc pc (.iadd) 1 pc2) (k : St p l e R s m args below meth c D t6 b n nL Q M pc2 L (.int (x + y) :: st)) : St p l e R s m args below meth c D t6 b n nL Q M pc L (.int y :: .int x :: st) := by
  intro H locs ls hw hS hl
  obtain ⟨hx, hb, hml, hown, hr, hlk, hk⟩ := G
  obtain ⟨hd, rfl⟩ := hd
  exact lv_iadd hx hb hd (k H locs ls hw hS hl)
theorem sr_isub (G : cx p s m meth c cc nL own ret D t6) {x y : Int32} (hd : dc cc pc (.isub) 1 pc2) (k : St p l e R s m args below meth c D t6 b n nL Q M pc2 L (.int (x - y) :: st)) : St p l e R s m args below meth c D t6 b n nL Q M pc L (.int y :: .int x :: st) := by
  intro H locs ls hw hS hl
  obtain ⟨hx, hb, hml, hown, hr, hlk, hk⟩ := G
  obtain ⟨hd, rfl⟩ := hd
  exact lv_isub hx hb hd (k H locs ls hw hS hl)
theorem sr_imul (G : cx p s m meth c cc nL own ret D t6) {x y : Int32} (hd : dc cc pc (.imul) 1 pc2) (k : St p l e R s m args below meth c D t6 b n nL Q M pc2 L (.int (x * y) :: st)) : St p l e R s m args below meth c D t6 b n nL Q M pc L (.int y :: .int x :: st) := by
  intro H locs ls hw hS hl
  obtain ⟨hx, hb, hml, hown, hr, hlk, hk⟩ := G
  obtain ⟨hd, rfl⟩ := hd
  exact lv_imul hx hb hd (k H locs ls hw hS hl)
theorem sr_iand (G : cx p s m meth c cc nL own ret D t6) {x y : Int32} (hd : dc cc pc (.iand) 1 pc2) (k : St p l e R s m args below meth c D t6 b n nL Q M pc2 L (.int (x &&& y) :: st)) : St p l e R s m args below meth c D t6 b n nL Q M pc L (.int y :: .int x :: st) := by
  intro H locs ls hw hS hl
  obtain ⟨hx, hb, hml, hown, hr, hlk, hk⟩ := G
  obtain ⟨hd, rfl⟩ := hd
  exact lv_iand hx hb hd (k H locs ls hw hS hl)
theorem sr_irem (G : cx p s m meth c cc nL own ret D t6) {x y : Int32} (hne : ¬ y = 0) (hd : dc cc pc (.irem) 1 pc2) (k : St p l e R s m args below meth c D t6 b n nL Q M pc2 L (.int (x - x / y * y) :: st)) : St p l e R s m args below meth c D t6 b n nL Q M pc L (.int y :: .int x :: st) := by
  intro H locs ls hw hS hl
  obtain ⟨hx, hb, hml, hown, hr, hlk, hk⟩ := G
  obtain ⟨hd, rfl⟩ := hd
  exact lv_irem hx hb hd hne (k H locs ls hw hS hl)
theorem sr_ineg (G : cx p s m meth c cc nL own ret D t6) {x : Int32} (hd : dc cc pc (.ineg) 1 pc2) (k : St p l e R s m args below meth c D t6 b n nL Q M pc2 L (.int (-x) :: st)) : St p l e R s m args below meth c D t6 b n nL Q M pc L (.int x :: st) := by
  intro H locs ls hw hS hl
  obtain ⟨hx, hb, hml, hown, hr, hlk, hk⟩ := G
  obtain ⟨hd, rfl⟩ := hd
  exact lv_ineg hx hb hd (k H locs ls hw hS hl)
theorem sr_dup (G : cx p s m meth c cc nL own ret D t6) {va : Value} (hva : va.category = 1) (hd : dc cc pc (.dup) 1 pc2) (k : St p l e R s m args below meth c D t6 b n nL Q M pc2 L (va :: va :: st)) : St p l e R s m args below meth c D t6 b n nL Q M pc L (va :: st) := by
  intro H locs ls hw hS hl
  obtain ⟨hx, hb, hml, hown, hr, hlk, hk⟩ := G
  obtain ⟨hd, rfl⟩ := hd
  exact lv_dup hx hb hd hva (k H locs ls hw hS hl)
theorem sr_dup2 (G : cx p s m meth c cc nL own ret D t6) {va vb : Value} (hva : va.category = 1) (hvb : vb.category = 1) (hd : dc cc pc (.dup2) 1 pc2) (k : St p l e R s m args below meth c D t6 b n nL Q M pc2 L (va :: vb :: va :: vb :: st)) : St p l e R s m args below meth c D t6 b n nL Q M pc L (va :: vb :: st) := by
  intro H locs ls hw hS hl
  obtain ⟨hx, hb, hml, hown, hr, hlk, hk⟩ := G
  obtain ⟨hd, rfl⟩ := hd
  exact lv_dup2_11 hx hb hd hva hvb (k H locs ls hw hS hl)
theorem sr_if_eq (G : cx p s m meth c cc nL own ret D t6) {x : Int32} {off : Int} (tgt : Nat) (hd : dc cc pc (.ifCond .eq off) 3 pc2) (ht : (pc : Int) + off = (tgt : Int)) (kt : x = 0 → St p l e R s m args below meth c D t6 b n nL Q M tgt L st) (kf : ¬ x = 0 → St p l e R s m args below meth c D t6 b n nL Q M pc2 L st) : St p l e R s m args below meth c D t6 b n nL Q M pc L (.int x :: st) := by
  intro H locs ls hw hS hl
  obtain ⟨hx, hb, hml, hown, hr, hlk, hk⟩ := G
  obtain ⟨hd, rfl⟩ := hd
  exact lv_if_eq hx hb hd ht (fun h => kt h H locs ls hw hS hl) (fun h => kf h H locs ls hw hS hl)
theorem sr_if_ne (G : cx p s m meth c cc nL own ret D t6) {x : Int32} {off : Int} (tgt : Nat) (hd : dc cc pc (.ifCond .ne off) 3 pc2) (ht : (pc : Int) + off = (tgt : Int)) (kt : ¬ x = 0 → St p l e R s m args below meth c D t6 b n nL Q M tgt L st) (kf : x = 0 → St p l e R s m args below meth c D t6 b n nL Q M pc2 L st) : St p l e R s m args below meth c D t6 b n nL Q M pc L (.int x :: st) := by
  intro H locs ls hw hS hl
  obtain ⟨hx, hb, hml, hown, hr, hlk, hk⟩ := G
  obtain ⟨hd, rfl⟩ := hd
  exact lv_if_ne hx hb hd ht (fun h => kt h H locs ls hw hS hl) (fun h => kf h H locs ls hw hS hl)
theorem sr_if_lt (G : cx p s m meth c cc nL own ret D t6) {x : Int32} {off : Int} (tgt : Nat) (hd : dc cc pc (.ifCond .lt off) 3 pc2) (ht : (pc : Int) + off = (tgt : Int)) (kt : x < 0 → St p l e R s m args below meth c D t6 b n nL Q M tgt L st) (kf : ¬ x < 0 → St p l e R s m args below meth c D t6 b n nL Q M pc2 L st) : St p l e R s m args below meth c D t6 b n nL Q M pc L (.int x :: st) := by
  intro H locs ls hw hS hl
  obtain ⟨hx, hb, hml, hown, hr, hlk, hk⟩ := G
  obtain ⟨hd, rfl⟩ := hd
  exact lv_if_lt hx hb hd ht (fun h => kt h H locs ls hw hS hl) (fun h => kf h H locs ls hw hS hl)
theorem sr_if_ge (G : cx p s m meth c cc nL own ret D t6) {x : Int32} {off : Int} (tgt : Nat) (hd : dc cc pc (.ifCond .ge off) 3 pc2) (ht : (pc : Int) + off = (tgt : Int)) (kt : 0 ≤ x → St p l e R s m args below meth c D t6 b n nL Q M tgt L st) (kf : ¬ 0 ≤ x → St p l e R s m args below meth c D t6 b n nL Q M pc2 L st) : St p l e R s m args below meth c D t6 b n nL Q M pc L (.int x :: st) := by
  intro H locs ls hw hS hl
  obtain ⟨hx, hb, hml, hown, hr, hlk, hk⟩ := G
  obtain ⟨hd, rfl⟩ := hd
  exact lv_if_ge hx hb hd ht (fun h => kt h H locs ls hw hS hl) (fun h => kf h H locs ls hw hS hl)
theorem sr_if_gt (G : cx p s m meth c cc nL own ret D t6) {x : Int32} {off : Int} (tgt : Nat) (hd : dc cc pc (.ifCond .gt off) 3 pc2) (ht : (pc : Int) + off = (tgt : Int)) (kt : 0 < x → St p l e R s m args below meth c D t6 b n nL Q M tgt L st) (kf : ¬ 0 < x → St p l e R s m args below meth c D t6 b n nL Q M pc2 L st) : St p l e R s m args below meth c D t6 b n nL Q M pc L (.int x :: st) := by
  intro H locs ls hw hS hl
  obtain ⟨hx, hb, hml, hown, hr, hlk, hk⟩ := G
  obtain ⟨hd, rfl⟩ := hd
  exact lv_if_gt hx hb hd ht (fun h => kt h H locs ls hw hS hl) (fun h => kf h H locs ls hw hS hl)
theorem sr_if_le (G : cx p s m meth c cc nL own ret D t6) {x : Int32} {off : Int} (tgt : Nat) (hd : dc cc pc (.ifCond .le off) 3 pc2) (ht : (pc : Int) + off = (tgt : Int)) (kt : x ≤ 0 → St p l e R s m args below meth c D t6 b n nL Q M tgt L st) (kf : ¬ x ≤ 0 → St p l e R s m args below meth c D t6 b n nL Q M pc2 L st) : St p l e R s m args below meth c D t6 b n nL Q M pc L (.int x :: st) := by
  intro H locs ls hw hS hl
  obtain ⟨hx, hb, hml, hown, hr, hlk, hk⟩ := G
  obtain ⟨hd, rfl⟩ := hd
  exact lv_if_le hx hb hd ht (fun h => kt h H locs ls hw hS hl) (fun h => kf h H locs ls hw hS hl)
theorem sr_icmp_eq (G : cx p s m meth c cc nL own ret D t6) {x y : Int32} {off : Int} (tgt : Nat) (hd : dc cc pc (.if_icmp .eq off) 3 pc2) (ht : (pc : Int) + off = (tgt : Int)) (kt : x = y → St p l e R s m args below meth c D t6 b n nL Q M tgt L st) (kf : ¬ x = y → St p l e R s m args below meth c D t6 b n nL Q M pc2 L st) : St p l e R s m args below meth c D t6 b n nL Q M pc L (.int y :: .int x :: st) := by
  intro H locs ls hw hS hl
  obtain ⟨hx, hb, hml, hown, hr, hlk, hk⟩ := G
  obtain ⟨hd, rfl⟩ := hd
  exact lv_icmp_eq hx hb hd ht (fun h => kt h H locs ls hw hS hl) (fun h => kf h H locs ls hw hS hl)
theorem sr_icmp_ne (G : cx p s m meth c cc nL own ret D t6) {x y : Int32} {off : Int} (tgt : Nat) (hd : dc cc pc (.if_icmp .ne off) 3 pc2) (ht : (pc : Int) + off = (tgt : Int)) (kt : ¬ x = y → St p l e R s m args below meth c D t6 b n nL Q M tgt L st) (kf : x = y → St p l e R s m args below meth c D t6 b n nL Q M pc2 L st) : St p l e R s m args below meth c D t6 b n nL Q M pc L (.int y :: .int x :: st) := by
  intro H locs ls hw hS hl
  obtain ⟨hx, hb, hml, hown, hr, hlk, hk⟩ := G
  obtain ⟨hd, rfl⟩ := hd
  exact lv_icmp_ne hx hb hd ht (fun h => kt h H locs ls hw hS hl) (fun h => kf h H locs ls hw hS hl)
theorem sr_icmp_lt (G : cx p s m meth c cc nL own ret D t6) {x y : Int32} {off : Int} (tgt : Nat) (hd : dc cc pc (.if_icmp .lt off) 3 pc2) (ht : (pc : Int) + off = (tgt : Int)) (kt : x < y → St p l e R s m args below meth c D t6 b n nL Q M tgt L st) (kf : ¬ x < y → St p l e R s m args below meth c D t6 b n nL Q M pc2 L st) : St p l e R s m args below meth c D t6 b n nL Q M pc L (.int y :: .int x :: st) := by
  intro H locs ls hw hS hl
  obtain ⟨hx, hb, hml, hown, hr, hlk, hk⟩ := G
  obtain ⟨hd, rfl⟩ := hd
  exact lv_icmp_lt hx hb hd ht (fun h => kt h H locs ls hw hS hl) (fun h => kf h H locs ls hw hS hl)
theorem sr_icmp_ge (G : cx p s m meth c cc nL own ret D t6) {x y : Int32} {off : Int} (tgt : Nat) (hd : dc cc pc (.if_icmp .ge off) 3 pc2) (ht : (pc : Int) + off = (tgt : Int)) (kt : y ≤ x → St p l e R s m args below meth c D t6 b n nL Q M tgt L st) (kf : ¬ y ≤ x → St p l e R s m args below meth c D t6 b n nL Q M pc2 L st) : St p l e R s m args below meth c D t6 b n nL Q M pc L (.int y :: .int x :: st) := by
  intro H locs ls hw hS hl
  obtain ⟨hx, hb, hml, hown, hr, hlk, hk⟩ := G
  obtain ⟨hd, rfl⟩ := hd
  exact lv_icmp_ge hx hb hd ht (fun h => kt h H locs ls hw hS hl) (fun h => kf h H locs ls hw hS hl)
theorem sr_icmp_gt (G : cx p s m meth c cc nL own ret D t6) {x y : Int32} {off : Int} (tgt : Nat) (hd : dc cc pc (.if_icmp .gt off) 3 pc2) (ht : (pc : Int) + off = (tgt : Int)) (kt : y < x → St p l e R s m args below meth c D t6 b n nL Q M tgt L st) (kf : ¬ y < x → St p l e R s m args below meth c D t6 b n nL Q M pc2 L st) : St p l e R s m args below meth c D t6 b n nL Q M pc L (.int y :: .int x :: st) := by
  intro H locs ls hw hS hl
  obtain ⟨hx, hb, hml, hown, hr, hlk, hk⟩ := G
  obtain ⟨hd, rfl⟩ := hd
  exact lv_icmp_gt hx hb hd ht (fun h => kt h H locs ls hw hS hl) (fun h => kf h H locs ls hw hS hl)
theorem sr_icmp_le (G : cx p s m meth c cc nL own ret D t6) {x y : Int32} {off : Int} (tgt : Nat) (hd : dc cc pc (.if_icmp .le off) 3 pc2) (ht : (pc : Int) + off = (tgt : Int)) (kt : x ≤ y → St p l e R s m args below meth c D t6 b n nL Q M tgt L st) (kf : ¬ x ≤ y → St p l e R s m args below meth c D t6 b n nL Q M pc2 L st) : St p l e R s m args below meth c D t6 b n nL Q M pc L (.int y :: .int x :: st) := by
  intro H locs ls hw hS hl
  obtain ⟨hx, hb, hml, hown, hr, hlk, hk⟩ := G
  obtain ⟨hd, rfl⟩ := hd
  exact lv_icmp_le hx hb hd ht (fun h => kt h H locs ls hw hS hl) (fun h => kf h H locs ls hw hS hl)
theorem sr_goto (G : cx p s m meth c cc nL own ret D t6) {off : Int} (tgt : Nat) (hd : dc cc pc (.goto off) 3 pc2) (ht : (pc : Int) + off = (tgt : Int)) (k : St p l e R s m args below meth c D t6 b n nL Q M tgt L st) : St p l e R s m args below meth c D t6 b n nL Q M pc L st := by
  intro H locs ls hw hS hl
  obtain ⟨hx, hb, hml, hown, hr, hlk, hk⟩ := G
  obtain ⟨hd, rfl⟩ := hd
  exact lv_goto hx hb hd ht (k H locs ls hw hS hl)
theorem sr_tabOut (G : cx p s m meth c cc nL own ret D t6) {dflt lo hi : Int} {offs : Array Int} {len : Nat} {x : Int32} (tgt : Nat) (hd : dc cc pc (.tableswitch dflt lo hi offs) len pc2) (h : x.toInt < lo ∨ hi < x.toInt) (ht : (pc : Int) + dflt = (tgt : Int)) (k : St p l e R s m args below meth c D t6 b n nL Q M tgt L st) : St p l e R s m args below meth c D t6 b n nL Q M pc L (.int x :: st) := by
  intro H locs ls hw hS hl
  obtain ⟨hx, hb, hml, hown, hr, hlk, hk⟩ := G
  obtain ⟨hd, rfl⟩ := hd
  exact lv_tableOut hx hb hd h ht (k H locs ls hw hS hl)
theorem sr_tabIn (G : cx p s m meth c cc nL own ret D t6) {dflt lo hi : Int} {offs : Array Int} {len : Nat} {x : Int32} {off : Int} (tgt : Nat) (hd : dc cc pc (.tableswitch dflt lo hi offs) len pc2) (h1 : ¬ x.toInt < lo) (h2 : ¬ hi < x.toInt) (ho : offs[(x.toInt - lo).toNat]? = some off) (ht : (pc : Int) + off = (tgt : Int)) (k : St p l e R s m args below meth c D t6 b n nL Q M tgt L st) : St p l e R s m args below meth c D t6 b n nL Q M pc L (.int x :: st) := by
  intro H locs ls hw hS hl
  obtain ⟨hx, hb, hml, hown, hr, hlk, hk⟩ := G
  obtain ⟨hd, rfl⟩ := hd
  exact lv_tableIn hx hb hd h1 h2 ho ht (k H locs ls hw hS hl)
theorem sr_get (G : cx p s m meth c cc nL own ret D t6) {kd i ci : Nat} {fs : List Value} (hv : vv n kd i) (hc : cm_ t6 b kd i (M kd i) = .inr (ci, fs)) {C : String} {T : u_T} {N : Nat} (hu : ∀ w ∈ u_ws C T N, w ∈ lw_tbl) (hq : classes[ci]? = some (C, T, N)) (j : Nat) (hj : j < N) {index : Nat} (hlk : Cond.fieldLink own index C (T j).2.1 (T j).2.2.1 ∈ lw_tbl) (hsame : (T j).1 = C) {v : Value} (hf : fs[j]? = some v) (hd : dc cc pc (.getfield index) 3 pc2) (k : St p l e R s m args below meth c D t6 b n nL Q M pc2 L (v :: st)) : St p l e R s m args below meth c D t6 b n nL Q M pc L (.ref (ad b kd i) :: st) := by
  intro H locs ls hw hS hl
  obtain ⟨hx, hb, hml, hown, hr, hlk9, hk⟩ := G
  obtain ⟨hd, rfl⟩ := hd
  obtain ⟨f, hP, hF⟩ := id hw
  obtain ⟨q, hq0⟩ := va_pl_get (X := []) (f := f) (wl_in (b := b) hv)
  rw [hF kd i hv, hc] at hq0
  exact va_get hx hb (fun w h => hk.1 w h _) (tb_u hu) hown hk.2 hP q hq0 hq j hj (hk.1 _ (tb_in hlk rfl) _) (fun x h => by rw [hsame] at h; exact h) hf hd (k H locs ls hw hS hl)
theorem sr_put (G : cx p s m meth c cc nL own ret D t6) {kd i ci : Nat} {fs : List Value} (hv : vv n kd i) (hc : cm_ t6 b kd i (M kd i) = .inr (ci, fs)) {C : String} {T : u_T} {N : Nat} (hu : ∀ w ∈ u_ws C T N, w ∈ lw_tbl) (hq : classes[ci]? = some (C, T, N)) (j : Nat) (hj : j < N) (ty0 : Nat → FieldType) (hty : ∀ k, k < N → parseFieldDescriptor (T k).2.2.1 = some (ty0 k)) (hnm : ∀ a, a < N → ∀ b, b < N → a ≠ b → (T a).2.1 ≠ (T b).2.1) {index : Nat} (hlk : Cond.fieldLink own index C (T j).2.1 (T j).2.2.1 ∈ lw_tbl) (hsame : (T j).1 = C) (hfin : (T j).2.2.2 = false) {ty : FieldType} {v : Int32} (hd0 : parseFieldDescriptor (T j).2.2.1 = some ty) (hn : narrow ty (.int v) = .int v) (hfit : fits ty (.int v) = true) (hlen : j < fs.length) (hnew : cm_ t6 b kd i (upd (M kd i) j v) = .inr (ci, fs.set j (.int v))) (hd : dc cc pc (.putfield index) 3 pc2) (k : St p l e R s m args below meth c D t6 b n nL Q (u3 M kd i j v) pc2 L st) : St p l e R s m args below meth c D t6 b n nL Q M pc L (.int v :: .ref (ad b kd i) :: st) := by
  intro H locs ls hw hS hl
  obtain ⟨hx, hb, hml, hown, hr, hlk9, hk⟩ := G
  obtain ⟨hd, rfl⟩ := hd
  obtain ⟨f, hP, hF⟩ := id hw
  obtain ⟨q, hq0⟩ := va_pl_get (X := []) (f := f) (wl_in (b := b) hv)
  have hq1 := hq0
  rw [hF kd i hv, hc] at hq1
  refine va_put hx hb (fun w h => hk.1 w h _) (tb_u hu) ty0 hty hnm hown hk.2 hP (wl_D b n f) hS q hq1 hq j hj (hk.1 _ (tb_in hlk rfl) _) (fun x h => by rw [hsame] at h; exact h) hfin hd0 hn hfit hlen hd (fun H1 locs1 hP1 _ hS1 => ?_)
  rw [va_pl_set (wl_D b n f) (wl_in (b := b) hv) hq0] at hP1
  exact k H1 locs1 ls ⟨_, hP1, ft_put hF hv hnew.symm⟩ hS1 hl
theorem sr_getN (G : cx p s m meth c cc nL own ret D t6) {kd i ci : Nat} {fs : List Value} (hv : vv n kd i) (hc : cm_ t6 b kd i (M kd i) = .inr (ci, fs)) {C : String} {T : u_T} {N : Nat} (hu : ∀ w ∈ u_ws C T N, w ∈ lw_tbl) (hq : classes[ci]? = some (C, T, N)) (j : Nat) (hj : j < N) {index : Nat} {host : String} (hlk : Cond.fieldLinkNest own index C (T j).2.1 (T j).2.2.1 host ∈ lw_tbl) (hsame : (T j).1 = C) {v : Value} (hf : fs[j]? = some v) (hd : dc cc pc (.getfield index) 3 pc2) (k : St p l e R s m args below meth c D t6 b n nL Q M pc2 L (v :: st)) : St p l e R s m args below meth c D t6 b n nL Q M pc L (.ref (ad b kd i) :: st) := by
  intro H locs ls hw hS hl
  obtain ⟨hx, hb, hml, hown, hr, hlk9, hk⟩ := G
  obtain ⟨hd, rfl⟩ := hd
  obtain ⟨f, hP, hF⟩ := id hw
  obtain ⟨q, hq0⟩ := va_pl_get (X := []) (f := f) (wl_in (b := b) hv)
  rw [hF kd i hv, hc] at hq0
  exact va_getN hx hb (fun w h => hk.1 w h _) (tb_u hu) hown hk.2 hP q hq0 hq j hj (hk.1 _ (tb_in hlk rfl) _) (fun x h => by rw [hsame] at h; exact h) hf hd (k H locs ls hw hS hl)
theorem sr_putN (G : cx p s m meth c cc nL own ret D t6) {kd i ci : Nat} {fs : List Value} (hv : vv n kd i) (hc : cm_ t6 b kd i (M kd i) = .inr (ci, fs)) {C : String} {T : u_T} {N : Nat} (hu : ∀ w ∈ u_ws C T N, w ∈ lw_tbl) (hq : classes[ci]? = some (C, T, N)) (j : Nat) (hj : j < N) (ty0 : Nat → FieldType) (hty : ∀ k, k < N → parseFieldDescriptor (T k).2.2.1 = some (ty0 k)) (hnm : ∀ a, a < N → ∀ b, b < N → a ≠ b → (T a).2.1 ≠ (T b).2.1) {index : Nat} {host : String} (hlk : Cond.fieldLinkNest own index C (T j).2.1 (T j).2.2.1 host ∈ lw_tbl) (hsame : (T j).1 = C) (hfin : (T j).2.2.2 = false) {ty : FieldType} {v : Int32} (hd0 : parseFieldDescriptor (T j).2.2.1 = some ty) (hn : narrow ty (.int v) = .int v) (hfit : fits ty (.int v) = true) (hlen : j < fs.length) (hnew : cm_ t6 b kd i (upd (M kd i) j v) = .inr (ci, fs.set j (.int v))) (hd : dc cc pc (.putfield index) 3 pc2) (k : St p l e R s m args below meth c D t6 b n nL Q (u3 M kd i j v) pc2 L st) : St p l e R s m args below meth c D t6 b n nL Q M pc L (.int v :: .ref (ad b kd i) :: st) := by
  intro H locs ls hw hS hl
  obtain ⟨hx, hb, hml, hown, hr, hlk9, hk⟩ := G
  obtain ⟨hd, rfl⟩ := hd
  obtain ⟨f, hP, hF⟩ := id hw
  obtain ⟨q, hq0⟩ := va_pl_get (X := []) (f := f) (wl_in (b := b) hv)
  have hq1 := hq0
  rw [hF kd i hv, hc] at hq1
  refine va_putN hx hb (fun w h => hk.1 w h _) (tb_u hu) ty0 hty hnm hown hk.2 hP (wl_D b n f) hS q hq1 hq j hj (hk.1 _ (tb_in hlk rfl) _) (fun x h => by rw [hsame] at h; exact h) hfin hd0 hn hfit hlen hd (fun H1 locs1 hP1 _ hS1 => ?_)
  rw [va_pl_set (wl_D b n f) (wl_in (b := b) hv) hq0] at hP1
  exact k H1 locs1 ls ⟨_, hP1, ft_put hF hv hnew.symm⟩ hS1 hl
theorem sr_iald (G : cx p s m meth c cc nL own ret D t6) {kd i len : Nat} (hv : vv n kd i) (hc : cm_ t6 b kd i (M kd i) = .inl (t6 0, len, .inl (M kd i))) {x : Int32} (hin : vp_in x len) (hd : dc cc pc (.iaload) 1 pc2) (k : St p l e R s m args below meth c D t6 b n nL Q M pc2 L (.int (M kd i x.toNatClampNeg) :: st)) : St p l e R s m args below meth c D t6 b n nL Q M pc L (.int x :: .ref (ad b kd i) :: st) := by
  intro H locs ls hw hS hl
  obtain ⟨hx, hb, hml, hown, hr, hlk9, hk⟩ := G
  obtain ⟨hd, rfl⟩ := hd
  obtain ⟨f, hP, hF⟩ := id hw
  obtain ⟨q, hq0⟩ := va_pl_get (X := []) (f := f) (wl_in (b := b) hv)
  rw [hF kd i hv, hc] at hq0
  exact va_iald hx hb hk.2 hP q 0 hq0 rfl hin hd (k H locs ls hw hS hl)
theorem sr_iast (G : cx p s m meth c cc nL own ret D t6) {kd i len : Nat} (hv : vv n kd i) (hc : ∀ mm : Nat → Int32, cm_ t6 b kd i mm = .inl (t6 0, len, .inl mm)) {x v : Int32} (hin : vp_in x len) (hd : dc cc pc (.iastore) 1 pc2) (k : St p l e R s m args below meth c D t6 b n nL Q (u3 M kd i x.toNatClampNeg v) pc2 L st) : St p l e R s m args below meth c D t6 b n nL Q M pc L (.int v :: .int x :: .ref (ad b kd i) :: st) := by
  intro H locs ls hw hS hl
  obtain ⟨hx, hb, hml, hown, hr, hlk9, hk⟩ := G
  obtain ⟨hd, rfl⟩ := hd
  obtain ⟨f, hP, hF⟩ := id hw
  obtain ⟨q, hq0⟩ := va_pl_get (X := []) (f := f) (wl_in (b := b) hv)
  have hq1 := hq0
  rw [hF kd i hv, hc] at hq1
  refine va_iast hx hb hk.2 hP (wl_D b n f) hS q 0 hq1 rfl hin hd (fun H1 locs1 hP1 _ hS1 => ?_)
  rw [va_pl_set (wl_D b n f) (wl_in (b := b) hv) hq0] at hP1
  exact k H1 locs1 ls ⟨_, hP1, ft_put hF hv (hc _).symm⟩ hS1 hl
theorem sr_zald (G : cx p s m meth c cc nL own ret D t6) {kd i len : Nat} (hv : vv n kd i) (hc : cm_ t6 b kd i (M kd i) = .inl (t6 1, len, .inl (M kd i))) {x : Int32} (hin : vp_in x len) (hd : dc cc pc (.baload) 1 pc2) (k : St p l e R s m args below meth c D t6 b n nL Q M pc2 L (.int (M kd i x.toNatClampNeg) :: st)) : St p l e R s m args below meth c D t6 b n nL Q M pc L (.int x :: .ref (ad b kd i) :: st) := by
  intro H locs ls hw hS hl
  obtain ⟨hx, hb, hml, hown, hr, hlk9, hk⟩ := G
  obtain ⟨hd, rfl⟩ := hd
  obtain ⟨f, hP, hF⟩ := id hw
  obtain ⟨q, hq0⟩ := va_pl_get (X := []) (f := f) (wl_in (b := b) hv)
  rw [hF kd i hv, hc] at hq0
  exact va_zald hx hb hk.2 hP q 1 hq0 rfl hin hd (k H locs ls hw hS hl)
theorem sr_zast (G : cx p s m meth c cc nL own ret D t6) {kd i len : Nat} (hv : vv n kd i) (hc : ∀ mm : Nat → Int32, cm_ t6 b kd i mm = .inl (t6 1, len, .inl mm)) {x v : Int32} (hnb : vp_nar .boolean v = v) (hin : vp_in x len) (hd : dc cc pc (.bastore) 1 pc2) (k : St p l e R s m args below meth c D t6 b n nL Q (u3 M kd i x.toNatClampNeg v) pc2 L st) : St p l e R s m args below meth c D t6 b n nL Q M pc L (.int v :: .int x :: .ref (ad b kd i) :: st) := by
  intro H locs ls hw hS hl
  obtain ⟨hx, hb, hml, hown, hr, hlk9, hk⟩ := G
  obtain ⟨hd, rfl⟩ := hd
  obtain ⟨f, hP, hF⟩ := id hw
  obtain ⟨q, hq0⟩ := va_pl_get (X := []) (f := f) (wl_in (b := b) hv)
  have hq1 := hq0
  rw [hF kd i hv, hc] at hq1
  refine va_zast hx hb hk.2 hP (wl_D b n f) hS q 1 hq1 rfl hin hd (fun H1 locs1 hP1 _ hS1 => ?_)
  rw [va_pl_set (wl_D b n f) (wl_in (b := b) hv) hq0] at hP1
  rw [hnb] at hP1
  exact k H1 locs1 ls ⟨_, hP1, ft_put hF hv (hc _).symm⟩ hS1 hl
theorem sr_aald (G : cx p s m meth c cc nL own ret D t6) {kd i len tx : Nat} {C : String} {g : Nat → Nat} (hv : vv n kd i) (hc : cm_ t6 b kd i (M kd i) = .inl (t6 tx, len, .inr (.inr (.inr (.inr (fun j => some (g j))))))) (ht : (ty6 t6)[tx]? = some (t6 tx, .object C)) {x : Int32} (hin : vp_in x len) (hd : dc cc pc (.aaload) 1 pc2) (k : St p l e R s m args below meth c D t6 b n nL Q M pc2 L (.ref (g x.toNatClampNeg) :: st)) : St p l e R s m args below meth c D t6 b n nL Q M pc L (.int x :: .ref (ad b kd i) :: st) := by
  intro H locs ls hw hS hl
  obtain ⟨hx, hb, hml, hown, hr, hlk9, hk⟩ := G
  obtain ⟨hd, rfl⟩ := hd
  obtain ⟨f, hP, hF⟩ := id hw
  obtain ⟨q, hq0⟩ := va_pl_get (X := []) (f := f) (wl_in (b := b) hv)
  rw [hF kd i hv, hc] at hq0
  exact va_aldq hx hb hk.2 hP q tx hq0 ht hin hd (k H locs ls hw hS hl)
theorem sr_alen (G : cx p s m meth c cc nL own ret D t6) {kd i len tx : Nat} {ty : FieldType} {z : (Nat → Int32) ⊕ (Nat → Int64) ⊕ (Nat → UInt32) ⊕ (Nat → UInt64) ⊕ (Nat → Option Nat)} (hv : vv n kd i) (hc : cm_ t6 b kd i (M kd i) = .inl (t6 tx, len, z)) (ht : (ty6 t6)[tx]? = some (t6 tx, ty)) {v : Int32} (hl9 : Int32.ofNat len = v) (hd : dc cc pc (.arraylength) 1 pc2) (k : St p l e R s m args below meth c D t6 b n nL Q M pc2 L (.int v :: st)) : St p l e R s m args below meth c D t6 b n nL Q M pc L (.ref (ad b kd i) :: st) := by
  intro H locs ls hw hS hl
  obtain ⟨hx, hb, hml, hown, hr, hlk9, hk⟩ := G
  obtain ⟨hd, rfl⟩ := hd
  obtain ⟨f, hP, hF⟩ := id hw
  obtain ⟨q, hq0⟩ := va_pl_get (X := []) (f := f) (wl_in (b := b) hv)
  rw [hF kd i hv, hc] at hq0
  exact va_alen hx hb hk.2 hP q tx hq0 ht hl9 hd (k H locs ls hw hS hl)
end
def pw_ (D : va_G) (t6 : Nat → ClassId) (b n : Nat) (M : Mem) (av : List Value) : Array Value → State → Prop := va_Pc av (fun U => kk_ D t6 U ∧ wo D t6 b n M U.heap)
theorem pw_blind {D : va_G} {t6 : Nat → ClassId} {b n : Nat} {M : Mem} {av : List Value} : FrameBlind (pw_ D t6 b n M av) := by
  intro a U g mk q
  obtain ⟨q0, qk, qw⟩ := q
  exact ⟨q0, kk_warm (s := U) (U := U.calling g mk a) (State.WarmedH.refl U) qk, qw⟩
abbrev qi_ (D : va_G) (t6 : Nat → ClassId) (b n : Nat) (r : Int32) (M2 : Mem) : Array Value → State → Outcome → State → Prop := va_Qi (fun (r1 : Int32) (N : Mem) => r1 = r ∧ N = M2) (fun N t => wo D t6 b n N t.heap) (fun q => b ≤ q)
abbrev qv_ (D : va_G) (t6 : Nat → ClassId) (b n : Nat) (M2 : Mem) : Array Value → State → Outcome → State → Prop := va_Qv (fun (N : Mem) => N = M2) (fun N t => wo D t6 b n N t.heap) (fun q => b ≤ q)
abbrev qr_ (D : va_G) (t6 : Nat → ClassId) (b n : Nat) (r : Nat) (M2 : Mem) : Array Value → State → Outcome → State → Prop := va_Qr (fun (N : Mem) => N = M2) (fun N a t => a = r ∧ wo D t6 b n N t.heap) (fun q => b ≤ q)
/-- the contract of a method that answers an int: its answer and the memory behind it -/
def CI (l : Launch) (D : va_G) (t6 : Nat → ClassId) (b n : Nat) (y : MethodName) (cc : ByteArray) (nL : Nat) (ty : FieldType) (rm : Room) (av : List Value) (M : Mem) (r : Int32) (M2 : Mem) : Prop := Met l y [.code y cc nL (some ty)] rm (pw_ D t6 b n M av) (qi_ D t6 b n r M2) 0 0 (fun q => b ≤ q)
def CV (l : Launch) (D : va_G) (t6 : Nat → ClassId) (b n : Nat) (y : MethodName) (cc : ByteArray) (nL : Nat) (rm : Room) (av : List Value) (M M2 : Mem) : Prop := Met l y [.code y cc nL none] rm (pw_ D t6 b n M av) (qv_ D t6 b n M2) 0 0 (fun q => b ≤ q)
def CA (l : Launch) (D : va_G) (t6 : Nat → ClassId) (b n : Nat) (y : MethodName) (cc : ByteArray) (nL : Nat) (ty : FieldType) (rm : Room) (av : List Value) (M : Mem) (r : Nat) (M2 : Mem) : Prop := Met l y [.code y cc nL (some ty)] rm (pw_ D t6 b n M av) (qr_ D t6 b n r M2) 0 0 (fun q => b ≤ q)
def rk (f lo : Nat) : Room := { frames := f, cells := 0, slots := 0, locals := lo }
theorem hs_entry {av : List Value} {nL : Nat} (hc : ∀ v ∈ av, v.category = 1) (hle : av.length ≤ nL) : hs ((lg_sl av ++ List.replicate (nL - (lg_sl av).length) Slot.unset).toArray) nL (av.map some ++ List.replicate (nL - av.length) none) := by
  have hsl : (lg_sl av).length = av.length := by
    clear hle
    induction av with
    | nil => rfl
    | cons v vs ih =>
      have h1 := hc v List.mem_cons_self
      have h2 := ih (fun w hw => hc w (List.mem_cons_of_mem _ hw))
      unfold lg_sl at h2 ⊢
      rw [List.flatMap_cons, List.length_append, h2, if_neg (by omega)]
      simp
      omega
  have h := lv_entry av (n := nL) (by rw [hsl]; exact hle)
  refine ⟨h.1, h.2.1, fun i v hi => ?_⟩
  have key : ∀ (vs : List Value) (k i : Nat) (v : Value), (∀ w ∈ vs, w.category = 1) → vs[i]? = some v → (k + i, v) ∈ lv_args k vs := by
    intro vs
    induction vs with
    | nil => intro k i v _ h; simp at h
    | cons w ws ih =>
      intro k i v hw h
      unfold lv_args
      rw [if_neg (by rw [hw w List.mem_cons_self]; omega)]
      cases i with
      | zero => simp at h; subst h; simp
      | succ i =>
        rw [List.getElem?_cons_succ] at h
        have := ih (k + 1) i v (fun z hz => hw z (List.mem_cons_of_mem _ hz)) h
        rw [show k + 1 + i = k + (i + 1) by omega] at this
        exact List.mem_cons_of_mem _ this
  have hav : av[i]? = some v := by
    by_cases hlt : i < av.length
    · rw [List.getElem?_append_left (by simpa using hlt), List.getElem?_map] at hi
      cases ha : av[i]? with
      | none => rw [ha] at hi; cases hi
      | some w => rw [ha] at hi; cases hi; rfl
    · rw [List.getElem?_append_right (by simpa using hlt)] at hi
      have := List.mem_of_getElem? hi
      simp at this
  refine ⟨hc v (List.mem_of_getElem? hav), ?_⟩
  have := h.2.2 (0 + i, v) (key av 0 i v hc hav)
  simpa using this
theorem en_i {l : Launch} {D : va_G} {t6 : Nat → ClassId} {b n : Nat} {y : MethodName} {cc : ByteArray} {nL : Nat} {ty : FieldType} {rm : Room} {av : List Value} {M : Mem} {r : Int32} {M2 : Mem} (hy : plainName y.cls = true) (hc : ∀ v ∈ av, v.category = 1) (hle : av.length ≤ nL)
    (body : ∀ (p : Program) (e : Env) (s : State) (m : MethodId) (below : List Frame) (meth : Method) (c : Code), cx p s m meth c cc nL y.cls (some ty) D t6 → St p l e rm s m av.toArray below meth c D t6 b n nL (MQ below (qi_ D t6 b n r M2) av.toArray s 0 0 (fun q => b ≤ q)) M 0 (av.map some ++ List.replicate (nL - av.length) none) []) : CI l D t6 b n y cc nL ty rm av M r M2 := by
  refine Met.ofW (cc := cc) (maxL := nL) (ret := some ty) hy rfl ?_
  intro p e s m args below meth c s₁ B hml hv
  obtain ⟨rfl, hk, hw⟩ := hv
  have G : cx p s m meth c cc nL y.cls (some ty) D t6 := ⟨B.exec, B.bytes, hml, findClass_of_methodNamed B.named, B.returns, B.notSynchronized, hk⟩
  rw [lg_entry_eq]
  exact body p e s m below meth c G s.heap [] _ hw va_S.rf (hs_entry hc hle)
theorem en_v {l : Launch} {D : va_G} {t6 : Nat → ClassId} {b n : Nat} {y : MethodName} {cc : ByteArray} {nL : Nat} {rm : Room} {av : List Value} {M : Mem} {M2 : Mem} (hy : plainName y.cls = true) (hc : ∀ v ∈ av, v.category = 1) (hle : av.length ≤ nL)
    (body : ∀ (p : Program) (e : Env) (s : State) (m : MethodId) (below : List Frame) (meth : Method) (c : Code), cx p s m meth c cc nL y.cls (none) D t6 → St p l e rm s m av.toArray below meth c D t6 b n nL (MQ below (qv_ D t6 b n M2) av.toArray s 0 0 (fun q => b ≤ q)) M 0 (av.map some ++ List.replicate (nL - av.length) none) []) : CV l D t6 b n y cc nL rm av M M2 := by
  refine Met.ofW (cc := cc) (maxL := nL) (ret := none) hy rfl ?_
  intro p e s m args below meth c s₁ B hml hv
  obtain ⟨rfl, hk, hw⟩ := hv
  have G : cx p s m meth c cc nL y.cls (none) D t6 := ⟨B.exec, B.bytes, hml, findClass_of_methodNamed B.named, B.returns, B.notSynchronized, hk⟩
  rw [lg_entry_eq]
  exact body p e s m below meth c G s.heap [] _ hw va_S.rf (hs_entry hc hle)
theorem en_a {l : Launch} {D : va_G} {t6 : Nat → ClassId} {b n : Nat} {y : MethodName} {cc : ByteArray} {nL : Nat} {ty : FieldType} {rm : Room} {av : List Value} {M : Mem} {r : Nat} {M2 : Mem} (hy : plainName y.cls = true) (hc : ∀ v ∈ av, v.category = 1) (hle : av.length ≤ nL)
    (body : ∀ (p : Program) (e : Env) (s : State) (m : MethodId) (below : List Frame) (meth : Method) (c : Code), cx p s m meth c cc nL y.cls (some ty) D t6 → St p l e rm s m av.toArray below meth c D t6 b n nL (MQ below (qr_ D t6 b n r M2) av.toArray s 0 0 (fun q => b ≤ q)) M 0 (av.map some ++ List.replicate (nL - av.length) none) []) : CA l D t6 b n y cc nL ty rm av M r M2 := by
  refine Met.ofW (cc := cc) (maxL := nL) (ret := some ty) hy rfl ?_
  intro p e s m args below meth c s₁ B hml hv
  obtain ⟨rfl, hk, hw⟩ := hv
  have G : cx p s m meth c cc nL y.cls (some ty) D t6 := ⟨B.exec, B.bytes, hml, findClass_of_methodNamed B.named, B.returns, B.notSynchronized, hk⟩
  rw [lg_entry_eq]
  exact body p e s m below meth c G s.heap [] _ hw va_S.rf (hs_entry hc hle)
section
variable {p : Program} {l : Launch} {e : Env} {R : Room} {s : State} {m : MethodId} {args : Array Value} {below : List Frame} {meth : Method} {c : Code} {D : va_G} {t6 : Nat → ClassId} {b n nL : Nat} {Q : State → Prop} {M : Mem} {pc pc2 : Nat} {L : List (Option Value)} {st : List Value} {cc : ByteArray} {own : String} {ret : Option FieldType}

theorem sr_iret (G : cx p s m meth c cc nL own (some .int) D t6) {r1 r : Int32} {M2 : Mem} (hd : dc cc pc (.ireturn) 1 pc2) (h : r1 = r ∧ M = M2) : St p l e R s m args below meth c D t6 b n nL (MQ below (qi_ D t6 b n r M2) args s 0 0 (fun q => b ≤ q)) M pc L [.int r1] := by
  intro H locs ls hw hS hl
  obtain ⟨hx, hb, hml, hown, hr, hlk, hk⟩ := G
  exact W.iret hx hb hr (fun t ht hW => ⟨⟨r1, M, rfl, h, (show wo D t6 b n M t.heap by rw [ht]; exact hw)⟩, hS.F ht⟩) hS.2.2 hd.1 hlk
theorem sr_zret (G : cx p s m meth c cc nL own (some .boolean) D t6) {r1 r : Int32} {M2 : Mem} (hnb : narrow .boolean (.int r1) = .int r1) (hd : dc cc pc (.ireturn) 1 pc2) (h : r1 = r ∧ M = M2) : St p l e R s m args below meth c D t6 b n nL (MQ below (qi_ D t6 b n r M2) args s 0 0 (fun q => b ≤ q)) M pc L [.int r1] := by
  intro H locs ls hw hS hl
  obtain ⟨hx, hb, hml, hown, hr, hlk, hk⟩ := G
  exact W.zret hx hb hr hnb (fun t ht hW => ⟨⟨r1, M, rfl, h, (show wo D t6 b n M t.heap by rw [ht]; exact hw)⟩, hS.F ht⟩) hS.2.2 hd.1 hlk
theorem sr_vret (G : cx p s m meth c cc nL own none D t6) {M2 : Mem} (hd : dc cc pc (.return_) 1 pc2) (h : M = M2) : St p l e R s m args below meth c D t6 b n nL (MQ below (qv_ D t6 b n M2) args s 0 0 (fun q => b ≤ q)) M pc L [] := by
  intro H locs ls hw hS hl
  obtain ⟨hx, hb, hml, hown, hr, hlk, hk⟩ := G
  exact W.vret hx hb hr (fun t ht hW => ⟨⟨M, rfl, h, (show wo D t6 b n M t.heap by rw [ht]; exact hw)⟩, hS.F ht⟩) hS.2.2 hd.1 hlk
theorem sr_aret {t0 : FieldType} (G : cx p s m meth c cc nL own (some (.array t0)) D t6) {r1 r : Nat} {M2 : Mem} (hd : dc cc pc (.areturn) 1 pc2) (h : r1 = r ∧ M = M2) : St p l e R s m args below meth c D t6 b n nL (MQ below (qr_ D t6 b n r M2) args s 0 0 (fun q => b ≤ q)) M pc L [.ref r1] := by
  intro H locs ls hw hS hl
  obtain ⟨hx, hb, hml, hown, hr, hlk, hk⟩ := G
  exact W.aret hx hb hr (Or.inr ⟨_, rfl⟩) (Or.inr ⟨_, rfl⟩) (fun t ht hW => ⟨⟨M, r1, rfl, h.2, h.1, by rw [ht]; exact hw⟩, hS.F ht⟩) hS.2.2 hd.1 hlk
theorem gd_code {y : MethodName} {cc : ByteArray} {nL : Nat} {r : Option FieldType} (h : Cond.code y cc nL r ∈ lw_tbl) : GoodIn tb_ [.code y cc nL r] := by
  intro w hw
  rw [List.mem_singleton] at hw
  subst hw
  exact ⟨tb_in h rfl, Or.inl rfl⟩
theorem wo_recv {H : Heap} {kd i ci : Nat} {fs : List Value} {q : vw_C} (hk : kk_ D t6 s) (hw : wo D t6 b n M H) (hv : vv n kd i) (hc : cm_ t6 b kd i (M kd i) = .inr (ci, fs)) (hq : classes[ci]? = some q) : ∃ cell : Cell, H[ad b kd i]? = some cell ∧ cell.vm.isStatics = false ∧ s.vm.findClass q.1 = some cell.cls := by
  obtain ⟨f, hP, hF⟩ := hw
  obtain ⟨z, hz⟩ := va_pl_get (X := []) (f := f) (wl_in (b := b) hv)
  rw [hF kd i hv, hc] at hz
  exact va_recv hk.2 hP hq hz
abbrev yy_ (y : MethodName) (k : Nat) : Prop := y.cls ≠ "java/lang/invoke/MethodHandle" ∧ y.cls ≠ "java/lang/invoke/VarHandle" ∧ (parseMethodDescriptor y.desc).map (fun d => d.parameters.length) = some k
abbrev rr_ (rm R : Room) (nL2 : Nat) : Prop := rm.cells = 0 ∧ rm.slots = 0 ∧ rm.frames + 1 ≤ R.frames ∧ 8 + (nL2 + 11) + rm.locals ≤ R.locals
theorem sr_csi (G : cx p s m meth c cc nL own ret D t6) {y : MethodName} {cc2 : ByteArray} {nL2 k9 : Nat} {rm : Room} {As rest stk : List Value} {ty2 : FieldType} {r : Int32} {M2 : Mem} (hst : Cond.static y ∈ lw_tbl) (hM : CI l D t6 b n y cc2 nL2 ty2 rm As M r M2) {index : Nat} (hco : Cond.code y cc2 nL2 (some ty2) ∈ lw_tbl) (hlk : Cond.methodLink own index y ∈ lw_tbl) (hini : Cond.initialized y.cls ∈ lw_tbl) (hy : yy_ y k9) (hin1 : As.length = k9) (hrr : rr_ rm R nL2) (hrest : (rest.map fun v => v.category).sum ≤ 8) (hstk : stk = As.reverse ++ rest) (hd : dc cc pc (.invokestatic index) 3 pc2) (k : St p l e R s m args below meth c D t6 b n nL Q M2 pc2 L (.int r :: rest)) : St p l e R s m args below meth c D t6 b n nL Q M pc L stk := by
  intro H locs ls hw hS hl
  obtain ⟨hx, hb, hml, hown, hr, hlk9, hk⟩ := G
  obtain ⟨hd, rfl⟩ := hd
  subst hstk
  subst hin1
  have hts : ∀ w ∈ tb_, w.before args s = true := fun w h => hk.1 w h _
  refine va_calli (va_runS (As := As) (rest := rest) (g := F0 m pc ls _) ⟨hx, hb, hml, hown, hts⟩ hM (⟨callB_of As.length hts (gd_code hco) rfl hrr.1 hrr.2.1 (hts _ (tb_in hini rfl)) (hts _ (tb_in hlk rfl)) hy ⟨hrr.2.2.1, hrr.2.2.2⟩, hts _ (tb_in hst rfl)⟩) ⟨pw_blind, fun U hU hW => ⟨rfl, kk_warm hW hk, by rw [hU]; exact hw⟩⟩ rfl rfl hl.1 rfl (lv_room hrest) hd ⟨Nat.zero_le _, Nat.zero_le _⟩) hS (fun q _ h => h) (fun q h => h) (fun r1 u t H1 locs1 ht _ hp hB _ _ hS1 => ?_)
  obtain ⟨rfl, rfl⟩ := hp
  exact k H1 locs1 ls (by rw [← ht]; exact hB) hS1 hl
theorem sr_csv (G : cx p s m meth c cc nL own ret D t6) {y : MethodName} {cc2 : ByteArray} {nL2 k9 : Nat} {rm : Room} {As rest stk : List Value} {M2 : Mem} (hst : Cond.static y ∈ lw_tbl) (hM : CV l D t6 b n y cc2 nL2 rm As M M2) {index : Nat} (hco : Cond.code y cc2 nL2 none ∈ lw_tbl) (hlk : Cond.methodLink own index y ∈ lw_tbl) (hini : Cond.initialized y.cls ∈ lw_tbl) (hy : yy_ y k9) (hin1 : As.length = k9) (hrr : rr_ rm R nL2) (hrest : (rest.map fun v => v.category).sum ≤ 8) (hstk : stk = As.reverse ++ rest) (hd : dc cc pc (.invokestatic index) 3 pc2) (k : St p l e R s m args below meth c D t6 b n nL Q M2 pc2 L rest) : St p l e R s m args below meth c D t6 b n nL Q M pc L stk := by
  intro H locs ls hw hS hl
  obtain ⟨hx, hb, hml, hown, hr, hlk9, hk⟩ := G
  obtain ⟨hd, rfl⟩ := hd
  subst hstk
  subst hin1
  have hts : ∀ w ∈ tb_, w.before args s = true := fun w h => hk.1 w h _
  refine va_callv (va_runS (As := As) (rest := rest) (g := F0 m pc ls _) ⟨hx, hb, hml, hown, hts⟩ hM (⟨callB_of As.length hts (gd_code hco) rfl hrr.1 hrr.2.1 (hts _ (tb_in hini rfl)) (hts _ (tb_in hlk rfl)) hy ⟨hrr.2.2.1, hrr.2.2.2⟩, hts _ (tb_in hst rfl)⟩) ⟨pw_blind, fun U hU hW => ⟨rfl, kk_warm hW hk, by rw [hU]; exact hw⟩⟩ rfl rfl hl.1 rfl (lv_room hrest) hd ⟨Nat.zero_le _, Nat.zero_le _⟩) hS (fun q _ h => h) (fun q h => h) (fun u t H1 locs1 ht _ hp hB _ _ hS1 => ?_)
  subst hp
  exact k H1 locs1 ls (by rw [← ht]; exact hB) hS1 hl
theorem sr_csa (G : cx p s m meth c cc nL own ret D t6) {y : MethodName} {cc2 : ByteArray} {nL2 k9 : Nat} {rm : Room} {As rest stk : List Value} {ty2 : FieldType} {r : Nat} {M2 : Mem} (hst : Cond.static y ∈ lw_tbl) (hM : CA l D t6 b n y cc2 nL2 ty2 rm As M r M2) {index : Nat} (hco : Cond.code y cc2 nL2 (some ty2) ∈ lw_tbl) (hlk : Cond.methodLink own index y ∈ lw_tbl) (hini : Cond.initialized y.cls ∈ lw_tbl) (hy : yy_ y k9) (hin1 : As.length = k9) (hrr : rr_ rm R nL2) (hrest : (rest.map fun v => v.category).sum ≤ 8) (hstk : stk = As.reverse ++ rest) (hd : dc cc pc (.invokestatic index) 3 pc2) (k : St p l e R s m args below meth c D t6 b n nL Q M2 pc2 L (.ref r :: rest)) : St p l e R s m args below meth c D t6 b n nL Q M pc L stk := by
  intro H locs ls hw hS hl
  obtain ⟨hx, hb, hml, hown, hr, hlk9, hk⟩ := G
  obtain ⟨hd, rfl⟩ := hd
  subst hstk
  subst hin1
  have hts : ∀ w ∈ tb_, w.before args s = true := fun w h => hk.1 w h _
  refine va_callr (va_runS (As := As) (rest := rest) (g := F0 m pc ls _) ⟨hx, hb, hml, hown, hts⟩ hM (⟨callB_of As.length hts (gd_code hco) rfl hrr.1 hrr.2.1 (hts _ (tb_in hini rfl)) (hts _ (tb_in hlk rfl)) hy ⟨hrr.2.2.1, hrr.2.2.2⟩, hts _ (tb_in hst rfl)⟩) ⟨pw_blind, fun U hU hW => ⟨rfl, kk_warm hW hk, by rw [hU]; exact hw⟩⟩ rfl rfl hl.1 rfl (lv_room hrest) hd ⟨Nat.zero_le _, Nat.zero_le _⟩) hS (fun q _ h => h) (fun q h => h) (fun u a1 t H1 locs1 ht _ hp hB _ _ hS1 => ?_)
  subst hp
  obtain ⟨rfl, hB⟩ := hB
  exact k H1 locs1 ls (by rw [← ht]; exact hB) hS1 hl
theorem sr_csNi (G : cx p s m meth c cc nL own ret D t6) {y : MethodName} {cc2 : ByteArray} {nL2 k9 : Nat} {rm : Room} {As rest stk : List Value} {ty2 : FieldType} {r : Int32} {M2 : Mem} (hst : Cond.static y ∈ lw_tbl) (hM : CI l D t6 b n y cc2 nL2 ty2 rm As M r M2) {index : Nat} (hco : Cond.code y cc2 nL2 (some ty2) ∈ lw_tbl) {host : String} (hlk : Cond.methodLinkNest own index y host ∈ lw_tbl) (hini : Cond.initialized y.cls ∈ lw_tbl) (hy : yy_ y k9) (hin1 : As.length = k9) (hrr : rr_ rm R nL2) (hrest : (rest.map fun v => v.category).sum ≤ 8) (hstk : stk = As.reverse ++ rest) (hd : dc cc pc (.invokestatic index) 3 pc2) (k : St p l e R s m args below meth c D t6 b n nL Q M2 pc2 L (.int r :: rest)) : St p l e R s m args below meth c D t6 b n nL Q M pc L stk := by
  intro H locs ls hw hS hl
  obtain ⟨hx, hb, hml, hown, hr, hlk9, hk⟩ := G
  obtain ⟨hd, rfl⟩ := hd
  subst hstk
  subst hin1
  have hts : ∀ w ∈ tb_, w.before args s = true := fun w h => hk.1 w h _
  refine va_calli (va_runSN (As := As) (rest := rest) (g := F0 m pc ls _) ⟨hx, hb, hml, hown, hts⟩ hM (⟨va_cnB As.length hts (gd_code hco) rfl hrr.1 hrr.2.1 (hk.1 _ (tb_in hlk rfl) _) (hts _ (tb_in hini rfl)) hy ⟨hrr.2.2.1, hrr.2.2.2⟩, hts _ (tb_in hst rfl), trivial⟩) ⟨pw_blind, fun U hU hW => ⟨rfl, kk_warm hW hk, by rw [hU]; exact hw⟩⟩ rfl rfl hl.1 rfl (lv_room hrest) hd ⟨Nat.zero_le _, Nat.zero_le _⟩) hS (fun q _ h => h) (fun q h => h) (fun r1 u t H1 locs1 ht _ hp hB _ _ hS1 => ?_)
  obtain ⟨rfl, rfl⟩ := hp
  exact k H1 locs1 ls (by rw [← ht]; exact hB) hS1 hl
theorem sr_csNv (G : cx p s m meth c cc nL own ret D t6) {y : MethodName} {cc2 : ByteArray} {nL2 k9 : Nat} {rm : Room} {As rest stk : List Value} {M2 : Mem} (hst : Cond.static y ∈ lw_tbl) (hM : CV l D t6 b n y cc2 nL2 rm As M M2) {index : Nat} (hco : Cond.code y cc2 nL2 none ∈ lw_tbl) {host : String} (hlk : Cond.methodLinkNest own index y host ∈ lw_tbl) (hini : Cond.initialized y.cls ∈ lw_tbl) (hy : yy_ y k9) (hin1 : As.length = k9) (hrr : rr_ rm R nL2) (hrest : (rest.map fun v => v.category).sum ≤ 8) (hstk : stk = As.reverse ++ rest) (hd : dc cc pc (.invokestatic index) 3 pc2) (k : St p l e R s m args below meth c D t6 b n nL Q M2 pc2 L rest) : St p l e R s m args below meth c D t6 b n nL Q M pc L stk := by
  intro H locs ls hw hS hl
  obtain ⟨hx, hb, hml, hown, hr, hlk9, hk⟩ := G
  obtain ⟨hd, rfl⟩ := hd
  subst hstk
  subst hin1
  have hts : ∀ w ∈ tb_, w.before args s = true := fun w h => hk.1 w h _
  refine va_callv (va_runSN (As := As) (rest := rest) (g := F0 m pc ls _) ⟨hx, hb, hml, hown, hts⟩ hM (⟨va_cnB As.length hts (gd_code hco) rfl hrr.1 hrr.2.1 (hk.1 _ (tb_in hlk rfl) _) (hts _ (tb_in hini rfl)) hy ⟨hrr.2.2.1, hrr.2.2.2⟩, hts _ (tb_in hst rfl), trivial⟩) ⟨pw_blind, fun U hU hW => ⟨rfl, kk_warm hW hk, by rw [hU]; exact hw⟩⟩ rfl rfl hl.1 rfl (lv_room hrest) hd ⟨Nat.zero_le _, Nat.zero_le _⟩) hS (fun q _ h => h) (fun q h => h) (fun u t H1 locs1 ht _ hp hB _ _ hS1 => ?_)
  subst hp
  exact k H1 locs1 ls (by rw [← ht]; exact hB) hS1 hl
theorem sr_csNa (G : cx p s m meth c cc nL own ret D t6) {y : MethodName} {cc2 : ByteArray} {nL2 k9 : Nat} {rm : Room} {As rest stk : List Value} {ty2 : FieldType} {r : Nat} {M2 : Mem} (hst : Cond.static y ∈ lw_tbl) (hM : CA l D t6 b n y cc2 nL2 ty2 rm As M r M2) {index : Nat} (hco : Cond.code y cc2 nL2 (some ty2) ∈ lw_tbl) {host : String} (hlk : Cond.methodLinkNest own index y host ∈ lw_tbl) (hini : Cond.initialized y.cls ∈ lw_tbl) (hy : yy_ y k9) (hin1 : As.length = k9) (hrr : rr_ rm R nL2) (hrest : (rest.map fun v => v.category).sum ≤ 8) (hstk : stk = As.reverse ++ rest) (hd : dc cc pc (.invokestatic index) 3 pc2) (k : St p l e R s m args below meth c D t6 b n nL Q M2 pc2 L (.ref r :: rest)) : St p l e R s m args below meth c D t6 b n nL Q M pc L stk := by
  intro H locs ls hw hS hl
  obtain ⟨hx, hb, hml, hown, hr, hlk9, hk⟩ := G
  obtain ⟨hd, rfl⟩ := hd
  subst hstk
  subst hin1
  have hts : ∀ w ∈ tb_, w.before args s = true := fun w h => hk.1 w h _
  refine va_callr (va_runSN (As := As) (rest := rest) (g := F0 m pc ls _) ⟨hx, hb, hml, hown, hts⟩ hM (⟨va_cnB As.length hts (gd_code hco) rfl hrr.1 hrr.2.1 (hk.1 _ (tb_in hlk rfl) _) (hts _ (tb_in hini rfl)) hy ⟨hrr.2.2.1, hrr.2.2.2⟩, hts _ (tb_in hst rfl), trivial⟩) ⟨pw_blind, fun U hU hW => ⟨rfl, kk_warm hW hk, by rw [hU]; exact hw⟩⟩ rfl rfl hl.1 rfl (lv_room hrest) hd ⟨Nat.zero_le _, Nat.zero_le _⟩) hS (fun q _ h => h) (fun q h => h) (fun u a1 t H1 locs1 ht _ hp hB _ _ hS1 => ?_)
  subst hp
  obtain ⟨rfl, hB⟩ := hB
  exact k H1 locs1 ls (by rw [← ht]; exact hB) hS1 hl
theorem sr_cvi (G : cx p s m meth c cc nL own ret D t6) {y : MethodName} {cc2 : ByteArray} {nL2 k9 : Nat} {rm : Room} {As rest stk : List Value} {ty2 : FieldType} {r : Int32} {M2 : Mem} {kd i ci : Nat} {fs : List Value} {T : u_T} {N : Nat} (hv : vv n kd i) (hc : cm_ t6 b kd i (M kd i) = .inr (ci, fs)) (hq : classes[ci]? = some (y.cls, T, N)) (hin : Cond.instanceMethod y ∈ lw_tbl) (hse : Cond.selects y.cls y y ∈ lw_tbl) (hM : CI l D t6 b n y cc2 nL2 ty2 rm (.ref (ad b kd i) :: As) M r M2) {index : Nat} (hco : Cond.code y cc2 nL2 (some ty2) ∈ lw_tbl) (hlk : Cond.methodLink own index y ∈ lw_tbl) (hini : Cond.initialized y.cls ∈ lw_tbl) (hy : yy_ y k9) (hin1 : As.length = k9) (hrr : rr_ rm R nL2) (hrest : (rest.map fun v => v.category).sum ≤ 8) (hstk : stk = As.reverse ++ .ref (ad b kd i) :: rest) (hd : dc cc pc (.invokevirtual index) 3 pc2) (k : St p l e R s m args below meth c D t6 b n nL Q M2 pc2 L (.int r :: rest)) : St p l e R s m args below meth c D t6 b n nL Q M pc L stk := by
  intro H locs ls hw hS hl
  obtain ⟨hx, hb, hml, hown, hr, hlk9, hk⟩ := G
  obtain ⟨hd, rfl⟩ := hd
  subst hstk
  subst hin1
  have hts : ∀ w ∈ tb_, w.before args s = true := fun w h => hk.1 w h _
  refine va_calli (va_runV (As := As) (rest := rest) (g := F0 m pc ls _) ⟨hx, hb, hml, hown, hts⟩ hM (⟨callB_of As.length hts (gd_code hco) rfl hrr.1 hrr.2.1 (hts _ (tb_in hini rfl)) (hts _ (tb_in hlk rfl)) hy ⟨hrr.2.2.1, hrr.2.2.2⟩, hts _ (tb_in hin rfl), hts _ (tb_in hse rfl)⟩) ⟨pw_blind, wo_recv hk hw hv hc hq, fun U hU hW => ⟨rfl, kk_warm hW hk, by rw [hU]; exact hw⟩⟩ rfl rfl hl.1 rfl (lv_room hrest) hd ⟨Nat.zero_le _, Nat.zero_le _⟩) hS (fun q _ h => h) (fun q h => h) (fun r1 u t H1 locs1 ht _ hp hB _ _ hS1 => ?_)
  obtain ⟨rfl, rfl⟩ := hp
  exact k H1 locs1 ls (by rw [← ht]; exact hB) hS1 hl
theorem sr_cvv (G : cx p s m meth c cc nL own ret D t6) {y : MethodName} {cc2 : ByteArray} {nL2 k9 : Nat} {rm : Room} {As rest stk : List Value} {M2 : Mem} {kd i ci : Nat} {fs : List Value} {T : u_T} {N : Nat} (hv : vv n kd i) (hc : cm_ t6 b kd i (M kd i) = .inr (ci, fs)) (hq : classes[ci]? = some (y.cls, T, N)) (hin : Cond.instanceMethod y ∈ lw_tbl) (hse : Cond.selects y.cls y y ∈ lw_tbl) (hM : CV l D t6 b n y cc2 nL2 rm (.ref (ad b kd i) :: As) M M2) {index : Nat} (hco : Cond.code y cc2 nL2 none ∈ lw_tbl) (hlk : Cond.methodLink own index y ∈ lw_tbl) (hini : Cond.initialized y.cls ∈ lw_tbl) (hy : yy_ y k9) (hin1 : As.length = k9) (hrr : rr_ rm R nL2) (hrest : (rest.map fun v => v.category).sum ≤ 8) (hstk : stk = As.reverse ++ .ref (ad b kd i) :: rest) (hd : dc cc pc (.invokevirtual index) 3 pc2) (k : St p l e R s m args below meth c D t6 b n nL Q M2 pc2 L rest) : St p l e R s m args below meth c D t6 b n nL Q M pc L stk := by
  intro H locs ls hw hS hl
  obtain ⟨hx, hb, hml, hown, hr, hlk9, hk⟩ := G
  obtain ⟨hd, rfl⟩ := hd
  subst hstk
  subst hin1
  have hts : ∀ w ∈ tb_, w.before args s = true := fun w h => hk.1 w h _
  refine va_callv (va_runV (As := As) (rest := rest) (g := F0 m pc ls _) ⟨hx, hb, hml, hown, hts⟩ hM (⟨callB_of As.length hts (gd_code hco) rfl hrr.1 hrr.2.1 (hts _ (tb_in hini rfl)) (hts _ (tb_in hlk rfl)) hy ⟨hrr.2.2.1, hrr.2.2.2⟩, hts _ (tb_in hin rfl), hts _ (tb_in hse rfl)⟩) ⟨pw_blind, wo_recv hk hw hv hc hq, fun U hU hW => ⟨rfl, kk_warm hW hk, by rw [hU]; exact hw⟩⟩ rfl rfl hl.1 rfl (lv_room hrest) hd ⟨Nat.zero_le _, Nat.zero_le _⟩) hS (fun q _ h => h) (fun q h => h) (fun u t H1 locs1 ht _ hp hB _ _ hS1 => ?_)
  subst hp
  exact k H1 locs1 ls (by rw [← ht]; exact hB) hS1 hl
theorem sr_cva (G : cx p s m meth c cc nL own ret D t6) {y : MethodName} {cc2 : ByteArray} {nL2 k9 : Nat} {rm : Room} {As rest stk : List Value} {ty2 : FieldType} {r : Nat} {M2 : Mem} {kd i ci : Nat} {fs : List Value} {T : u_T} {N : Nat} (hv : vv n kd i) (hc : cm_ t6 b kd i (M kd i) = .inr (ci, fs)) (hq : classes[ci]? = some (y.cls, T, N)) (hin : Cond.instanceMethod y ∈ lw_tbl) (hse : Cond.selects y.cls y y ∈ lw_tbl) (hM : CA l D t6 b n y cc2 nL2 ty2 rm (.ref (ad b kd i) :: As) M r M2) {index : Nat} (hco : Cond.code y cc2 nL2 (some ty2) ∈ lw_tbl) (hlk : Cond.methodLink own index y ∈ lw_tbl) (hini : Cond.initialized y.cls ∈ lw_tbl) (hy : yy_ y k9) (hin1 : As.length = k9) (hrr : rr_ rm R nL2) (hrest : (rest.map fun v => v.category).sum ≤ 8) (hstk : stk = As.reverse ++ .ref (ad b kd i) :: rest) (hd : dc cc pc (.invokevirtual index) 3 pc2) (k : St p l e R s m args below meth c D t6 b n nL Q M2 pc2 L (.ref r :: rest)) : St p l e R s m args below meth c D t6 b n nL Q M pc L stk := by
  intro H locs ls hw hS hl
  obtain ⟨hx, hb, hml, hown, hr, hlk9, hk⟩ := G
  obtain ⟨hd, rfl⟩ := hd
  subst hstk
  subst hin1
  have hts : ∀ w ∈ tb_, w.before args s = true := fun w h => hk.1 w h _
  refine va_callr (va_runV (As := As) (rest := rest) (g := F0 m pc ls _) ⟨hx, hb, hml, hown, hts⟩ hM (⟨callB_of As.length hts (gd_code hco) rfl hrr.1 hrr.2.1 (hts _ (tb_in hini rfl)) (hts _ (tb_in hlk rfl)) hy ⟨hrr.2.2.1, hrr.2.2.2⟩, hts _ (tb_in hin rfl), hts _ (tb_in hse rfl)⟩) ⟨pw_blind, wo_recv hk hw hv hc hq, fun U hU hW => ⟨rfl, kk_warm hW hk, by rw [hU]; exact hw⟩⟩ rfl rfl hl.1 rfl (lv_room hrest) hd ⟨Nat.zero_le _, Nat.zero_le _⟩) hS (fun q _ h => h) (fun q h => h) (fun u a1 t H1 locs1 ht _ hp hB _ _ hS1 => ?_)
  subst hp
  obtain ⟨rfl, hB⟩ := hB
  exact k H1 locs1 ls (by rw [← ht]; exact hB) hS1 hl
theorem sr_cvNi (G : cx p s m meth c cc nL own ret D t6) {y : MethodName} {cc2 : ByteArray} {nL2 k9 : Nat} {rm : Room} {As rest stk : List Value} {ty2 : FieldType} {r : Int32} {M2 : Mem} {kd i ci : Nat} {fs : List Value} {T : u_T} {N : Nat} (hv : vv n kd i) (hc : cm_ t6 b kd i (M kd i) = .inr (ci, fs)) (hq : classes[ci]? = some (y.cls, T, N)) (hin : Cond.instanceMethod y ∈ lw_tbl) (hse : Cond.selects y.cls y y ∈ lw_tbl) (hM : CI l D t6 b n y cc2 nL2 ty2 rm (.ref (ad b kd i) :: As) M r M2) {index : Nat} (hco : Cond.code y cc2 nL2 (some ty2) ∈ lw_tbl) {host : String} (hlk : Cond.methodLinkNest own index y host ∈ lw_tbl) (hini : Cond.initialized y.cls ∈ lw_tbl) (hy : yy_ y k9) (hin1 : As.length = k9) (hrr : rr_ rm R nL2) (hrest : (rest.map fun v => v.category).sum ≤ 8) (hstk : stk = As.reverse ++ .ref (ad b kd i) :: rest) (hd : dc cc pc (.invokevirtual index) 3 pc2) (k : St p l e R s m args below meth c D t6 b n nL Q M2 pc2 L (.int r :: rest)) : St p l e R s m args below meth c D t6 b n nL Q M pc L stk := by
  intro H locs ls hw hS hl
  obtain ⟨hx, hb, hml, hown, hr, hlk9, hk⟩ := G
  obtain ⟨hd, rfl⟩ := hd
  subst hstk
  subst hin1
  have hts : ∀ w ∈ tb_, w.before args s = true := fun w h => hk.1 w h _
  refine va_calli (va_runVN (As := As) (rest := rest) (g := F0 m pc ls _) ⟨hx, hb, hml, hown, hts⟩ hM (⟨va_cnB As.length hts (gd_code hco) rfl hrr.1 hrr.2.1 (hk.1 _ (tb_in hlk rfl) _) (hts _ (tb_in hini rfl)) hy ⟨hrr.2.2.1, hrr.2.2.2⟩, hts _ (tb_in hin rfl), hts _ (tb_in hse rfl)⟩) ⟨pw_blind, wo_recv hk hw hv hc hq, fun U hU hW => ⟨rfl, kk_warm hW hk, by rw [hU]; exact hw⟩⟩ rfl rfl hl.1 rfl (lv_room hrest) hd ⟨Nat.zero_le _, Nat.zero_le _⟩) hS (fun q _ h => h) (fun q h => h) (fun r1 u t H1 locs1 ht _ hp hB _ _ hS1 => ?_)
  obtain ⟨rfl, rfl⟩ := hp
  exact k H1 locs1 ls (by rw [← ht]; exact hB) hS1 hl
theorem sr_cvNv (G : cx p s m meth c cc nL own ret D t6) {y : MethodName} {cc2 : ByteArray} {nL2 k9 : Nat} {rm : Room} {As rest stk : List Value} {M2 : Mem} {kd i ci : Nat} {fs : List Value} {T : u_T} {N : Nat} (hv : vv n kd i) (hc : cm_ t6 b kd i (M kd i) = .inr (ci, fs)) (hq : classes[ci]? = some (y.cls, T, N)) (hin : Cond.instanceMethod y ∈ lw_tbl) (hse : Cond.selects y.cls y y ∈ lw_tbl) (hM : CV l D t6 b n y cc2 nL2 rm (.ref (ad b kd i) :: As) M M2) {index : Nat} (hco : Cond.code y cc2 nL2 none ∈ lw_tbl) {host : String} (hlk : Cond.methodLinkNest own index y host ∈ lw_tbl) (hini : Cond.initialized y.cls ∈ lw_tbl) (hy : yy_ y k9) (hin1 : As.length = k9) (hrr : rr_ rm R nL2) (hrest : (rest.map fun v => v.category).sum ≤ 8) (hstk : stk = As.reverse ++ .ref (ad b kd i) :: rest) (hd : dc cc pc (.invokevirtual index) 3 pc2) (k : St p l e R s m args below meth c D t6 b n nL Q M2 pc2 L rest) : St p l e R s m args below meth c D t6 b n nL Q M pc L stk := by
  intro H locs ls hw hS hl
  obtain ⟨hx, hb, hml, hown, hr, hlk9, hk⟩ := G
  obtain ⟨hd, rfl⟩ := hd
  subst hstk
  subst hin1
  have hts : ∀ w ∈ tb_, w.before args s = true := fun w h => hk.1 w h _
  refine va_callv (va_runVN (As := As) (rest := rest) (g := F0 m pc ls _) ⟨hx, hb, hml, hown, hts⟩ hM (⟨va_cnB As.length hts (gd_code hco) rfl hrr.1 hrr.2.1 (hk.1 _ (tb_in hlk rfl) _) (hts _ (tb_in hini rfl)) hy ⟨hrr.2.2.1, hrr.2.2.2⟩, hts _ (tb_in hin rfl), hts _ (tb_in hse rfl)⟩) ⟨pw_blind, wo_recv hk hw hv hc hq, fun U hU hW => ⟨rfl, kk_warm hW hk, by rw [hU]; exact hw⟩⟩ rfl rfl hl.1 rfl (lv_room hrest) hd ⟨Nat.zero_le _, Nat.zero_le _⟩) hS (fun q _ h => h) (fun q h => h) (fun u t H1 locs1 ht _ hp hB _ _ hS1 => ?_)
  subst hp
  exact k H1 locs1 ls (by rw [← ht]; exact hB) hS1 hl
theorem sr_cvNa (G : cx p s m meth c cc nL own ret D t6) {y : MethodName} {cc2 : ByteArray} {nL2 k9 : Nat} {rm : Room} {As rest stk : List Value} {ty2 : FieldType} {r : Nat} {M2 : Mem} {kd i ci : Nat} {fs : List Value} {T : u_T} {N : Nat} (hv : vv n kd i) (hc : cm_ t6 b kd i (M kd i) = .inr (ci, fs)) (hq : classes[ci]? = some (y.cls, T, N)) (hin : Cond.instanceMethod y ∈ lw_tbl) (hse : Cond.selects y.cls y y ∈ lw_tbl) (hM : CA l D t6 b n y cc2 nL2 ty2 rm (.ref (ad b kd i) :: As) M r M2) {index : Nat} (hco : Cond.code y cc2 nL2 (some ty2) ∈ lw_tbl) {host : String} (hlk : Cond.methodLinkNest own index y host ∈ lw_tbl) (hini : Cond.initialized y.cls ∈ lw_tbl) (hy : yy_ y k9) (hin1 : As.length = k9) (hrr : rr_ rm R nL2) (hrest : (rest.map fun v => v.category).sum ≤ 8) (hstk : stk = As.reverse ++ .ref (ad b kd i) :: rest) (hd : dc cc pc (.invokevirtual index) 3 pc2) (k : St p l e R s m args below meth c D t6 b n nL Q M2 pc2 L (.ref r :: rest)) : St p l e R s m args below meth c D t6 b n nL Q M pc L stk := by
  intro H locs ls hw hS hl
  obtain ⟨hx, hb, hml, hown, hr, hlk9, hk⟩ := G
  obtain ⟨hd, rfl⟩ := hd
  subst hstk
  subst hin1
  have hts : ∀ w ∈ tb_, w.before args s = true := fun w h => hk.1 w h _
  refine va_callr (va_runVN (As := As) (rest := rest) (g := F0 m pc ls _) ⟨hx, hb, hml, hown, hts⟩ hM (⟨va_cnB As.length hts (gd_code hco) rfl hrr.1 hrr.2.1 (hk.1 _ (tb_in hlk rfl) _) (hts _ (tb_in hini rfl)) hy ⟨hrr.2.2.1, hrr.2.2.2⟩, hts _ (tb_in hin rfl), hts _ (tb_in hse rfl)⟩) ⟨pw_blind, wo_recv hk hw hv hc hq, fun U hU hW => ⟨rfl, kk_warm hW hk, by rw [hU]; exact hw⟩⟩ rfl rfl hl.1 rfl (lv_room hrest) hd ⟨Nat.zero_le _, Nat.zero_le _⟩) hS (fun q _ h => h) (fun q h => h) (fun u a1 t H1 locs1 ht _ hp hB _ _ hS1 => ?_)
  subst hp
  obtain ⟨rfl, hB⟩ := hB
  exact k H1 locs1 ls (by rw [← ht]; exact hB) hS1 hl
end
end
section
/-! places and indices -/
abbrev ix (x : Int32) : Nat := x.toNatClampNeg
theorem of_lt : ∀ kd, kd < 20 → ∀ i, i < nk_ kd → of_ kd i < 104 := by decide +kernel
theorem vv_0 {n : Nat} (hn : 104 ≤ n) : vv n 0 0 := ⟨by decide, Nat.lt_of_lt_of_le (by decide) hn⟩
theorem vv_1 {n i : Nat} (hn : 104 ≤ n) (h : i < 2) : vv n 1 i := ⟨h, Nat.lt_of_lt_of_le (of_lt 1 (by decide) i h) hn⟩
theorem vv_2 {n i : Nat} (hn : 104 ≤ n) (h : i < 2) : vv n 2 i := ⟨h, Nat.lt_of_lt_of_le (of_lt 2 (by decide) i h) hn⟩
theorem vv_3 {n i : Nat} (hn : 104 ≤ n) (h : i < 2) : vv n 3 i := ⟨h, Nat.lt_of_lt_of_le (of_lt 3 (by decide) i h) hn⟩
theorem vv_4 {n i : Nat} (hn : 104 ≤ n) (h : i < 2) : vv n 4 i := ⟨h, Nat.lt_of_lt_of_le (of_lt 4 (by decide) i h) hn⟩
theorem vv_5 {n i : Nat} (hn : 104 ≤ n) (h : i < 4) : vv n 5 i := ⟨h, Nat.lt_of_lt_of_le (of_lt 5 (by decide) i h) hn⟩
theorem vv_6 {n i : Nat} (hn : 104 ≤ n) (h : i < 8) : vv n 6 i := ⟨h, Nat.lt_of_lt_of_le (of_lt 6 (by decide) i h) hn⟩
theorem vv_7 {n i : Nat} (hn : 104 ≤ n) (h : i < 8) : vv n 7 i := ⟨h, Nat.lt_of_lt_of_le (of_lt 7 (by decide) i h) hn⟩
theorem vv_8 {n i : Nat} (hn : 104 ≤ n) (h : i < 8) : vv n 8 i := ⟨h, Nat.lt_of_lt_of_le (of_lt 8 (by decide) i h) hn⟩
theorem vv_9 {n i : Nat} (hn : 104 ≤ n) (h : i < 60) : vv n 9 i := ⟨h, Nat.lt_of_lt_of_le (of_lt 9 (by decide) i h) hn⟩
theorem vv_10 {n : Nat} (hn : 104 ≤ n) : vv n 10 0 := ⟨by decide, Nat.lt_of_lt_of_le (by decide) hn⟩
theorem vv_11 {n : Nat} (hn : 104 ≤ n) : vv n 11 0 := ⟨by decide, Nat.lt_of_lt_of_le (by decide) hn⟩
theorem vv_12 {n : Nat} (hn : 104 ≤ n) : vv n 12 0 := ⟨by decide, Nat.lt_of_lt_of_le (by decide) hn⟩
theorem vv_13 {n i : Nat} (hn : 104 ≤ n) (h : i < 4) : vv n 13 i := ⟨h, Nat.lt_of_lt_of_le (of_lt 13 (by decide) i h) hn⟩
theorem vv_20 {n : Nat} (hn : 133 ≤ n) : vv n 20 0 := ⟨by decide, Nat.lt_of_lt_of_le (by decide) hn⟩
theorem vv_21 {n i : Nat} (hn : 133 ≤ n) (h : i < 28) : vv n 21 i := ⟨h, Nat.lt_of_lt_of_le (by show 105 + i < 133; omega) hn⟩
theorem ix_lt {x : Int32} {k : Nat} (h : vp_in x k) : x.toNatClampNeg < k := Nat.not_le.mp fun q => h (Or.inr q)
theorem in_rg {x z : Int32} {k : Nat} (hz : z.toInt = (k : Int) - 1) (h0 : ¬ x < 0) (h1 : ¬ z < x) : vp_in x k := by
  rw [vp_in_iff]
  rw [Int32.lt_iff_toInt_lt] at h0 h1
  have : (0 : Int32).toInt = 0 := by decide
  omega
theorem yy_B_new : yy_ y_B_new 0 := by decide +kernel
theorem yy_Le_new : yy_ y_Le_new 0 := by decide +kernel
theorem yy_Cl_new : yy_ y_Cl_new 0 := by decide +kernel
theorem yy_Ch_new : yy_ y_Ch_new 0 := by decide +kernel
theorem yy_En_new : yy_ y_En_new 0 := by decide +kernel
theorem yy_Me_new : yy_ y_Me_new 0 := by decide +kernel
theorem yy_B_beginAnew : yy_ y_B_beginAnew 0 := by decide +kernel
theorem yy_Le_beginAnew : yy_ y_Le_beginAnew 0 := by decide +kernel
theorem yy_Ar_fill : yy_ y_Ar_fill 2 := by decide +kernel
theorem yy_Cl_forgetAll : yy_ y_Cl_forgetAll 0 := by decide +kernel
theorem yy_En_beginAnew : yy_ y_En_beginAnew 0 := by decide +kernel
theorem yy_B_tick : yy_ y_B_tick 1 := by decide +kernel
theorem yy_B_isSide : yy_ y_B_isSide 1 := by decide +kernel
theorem yy_B_isWithin : yy_ y_B_isWithin 3 := by decide +kernel
theorem yy_B_follow : yy_ y_B_follow 3 := by decide +kernel
theorem yy_Cl_howFollowed : yy_ y_Cl_howFollowed 1 := by decide +kernel
theorem yy_Cl_isToldMark : yy_ y_Cl_isToldMark 2 := by decide +kernel
theorem yy_Cl_add : yy_ y_Cl_add 2 := by decide +kernel
theorem yy_Ma_max : yy_ y_Ma_max 2 := by decide +kernel
theorem yy_B_renew : yy_ y_B_renew 1 := by decide +kernel
theorem yy_B_client : yy_ y_B_client 2 := by decide +kernel
theorem yy_B_oneIf : yy_ y_B_oneIf 1 := by decide +kernel
theorem yy_B_follows : yy_ y_B_follows 2 := by decide +kernel
theorem yy_B_init : yy_ y_B_init 3 := by decide +kernel
theorem yy_En_comeTo : yy_ y_En_comeTo 2 := by decide +kernel
theorem yy_B_meet : yy_ y_B_meet 3 := by decide +kernel
theorem yy_B_isChannel : yy_ y_B_isChannel 1 := by decide +kernel
theorem yy_B_refusalOfStep : yy_ y_B_refusalOfStep 5 := by decide +kernel
theorem yy_Cl_refusal : yy_ y_Cl_refusal 1 := by decide +kernel
theorem yy_En_stepIn : yy_ y_En_stepIn 1 := by decide +kernel
theorem yy_B_greatestVersion : yy_ y_B_greatestVersion 1 := by decide +kernel
theorem yy_B_agree : yy_ y_B_agree 2 := by decide +kernel
theorem yy_B_confirm : yy_ y_B_confirm 2 := by decide +kernel
theorem yy_B_close : yy_ y_B_close 2 := by decide +kernel
theorem yy_B_shut : yy_ y_B_shut 3 := by decide +kernel
theorem yy_B_send : yy_ y_B_send 7 := by decide +kernel
theorem yy_B_isAccount : yy_ y_B_isAccount 1 := by decide +kernel
theorem yy_B_isCoin : yy_ y_B_isCoin 1 := by decide +kernel
theorem yy_B_purse : yy_ y_B_purse 3 := by decide +kernel
theorem yy_B_takeIn : yy_ y_B_takeIn 5 := by decide +kernel
theorem yy_B_write : yy_ y_B_write 7 := by decide +kernel
theorem yy_Me_beginToStand : yy_ y_Me_beginToStand 1 := by decide +kernel
theorem yy_B_receive : yy_ y_B_receive 2 := by decide +kernel
theorem yy_B_isMessage : yy_ y_B_isMessage 1 := by decide +kernel
theorem yy_Me_standsIn : yy_ y_Me_standsIn 1 := by decide +kernel
theorem yy_B_areAllBeforeReceived : yy_ y_B_areAllBeforeReceived 1 := by decide +kernel
theorem yy_Me_isOfSameEnd : yy_ y_Me_isOfSameEnd 1 := by decide +kernel
theorem yy_B_giveOut : yy_ y_B_giveOut 5 := by decide +kernel
theorem yy_B_acknowledge : yy_ y_B_acknowledge 2 := by decide +kernel
theorem yy_B_refusalAtSender : yy_ y_B_refusalAtSender 2 := by decide +kernel
theorem yy_Me_isReceivedIn : yy_ y_Me_isReceivedIn 1 := by decide +kernel
theorem yy_B_standsOneBefore : yy_ y_B_standsOneBefore 1 := by decide +kernel
theorem yy_B_finish : yy_ y_B_finish 1 := by decide +kernel
theorem yy_B_giveBack : yy_ y_B_giveBack 1 := by decide +kernel
theorem yy_B_timeout : yy_ y_B_timeout 2 := by decide +kernel
theorem yy_B_end : yy_ y_B_end 3 := by decide +kernel
theorem yy_B_stepAt : yy_ y_B_stepAt 3 := by decide +kernel
theorem yy_B_message : yy_ y_B_message 2 := by decide +kernel
theorem yy_B_balance : yy_ y_B_balance 3 := by decide +kernel
theorem yy_B_vouchers : yy_ y_B_vouchers 3 := by decide +kernel
theorem yy_B_sum : yy_ y_B_sum 2 := by decide +kernel
theorem yy_B_total : yy_ y_B_total 1 := by decide +kernel
theorem yy_B_allEscrows : yy_ y_B_allEscrows 1 := by decide +kernel
theorem yy_B_allVouchers : yy_ y_B_allVouchers 1 := by decide +kernel
theorem yy_B_onTheWay : yy_ y_B_onTheWay 1 := by decide +kernel
theorem yy_B_count : yy_ y_B_count 1 := by decide +kernel
theorem yy_B_howManyStand : yy_ y_B_howManyStand 0 := by decide +kernel
theorem yy_B_clear : yy_ y_B_clear 0 := by decide +kernel
theorem yy_R_new : yy_ y_R_new 0 := by decide +kernel
theorem yy_R_begin : yy_ y_R_begin 0 := by decide +kernel
theorem yy_R_forget : yy_ y_R_forget 1 := by decide +kernel
theorem yy_R_tick : yy_ y_R_tick 1 := by decide +kernel
theorem yy_R_noSide : yy_ y_R_noSide 1 := by decide +kernel
theorem yy_R_follow : yy_ y_R_follow 3 := by decide +kernel
theorem yy_R_in : yy_ y_R_in 3 := by decide +kernel
theorem yy_R_renew : yy_ y_R_renew 1 := by decide +kernel
theorem yy_R_followedMany : yy_ y_R_followedMany 1 := by decide +kernel
theorem yy_R_client : yy_ y_R_client 2 := by decide +kernel
theorem yy_R_highest : yy_ y_R_highest 1 := by decide +kernel
theorem yy_R_follows : yy_ y_R_follows 2 := by decide +kernel
theorem yy_R_init : yy_ y_R_init 3 := by decide +kernel
theorem yy_R_meet : yy_ y_R_meet 3 := by decide +kernel
theorem yy_R_noChannel : yy_ y_R_noChannel 1 := by decide +kernel
theorem yy_R_unprovedStep : yy_ y_R_unprovedStep 4 := by decide +kernel
theorem yy_R_unproved : yy_ y_R_unproved 2 := by decide +kernel
theorem yy_R_stepOf : yy_ y_R_stepOf 3 := by decide +kernel
theorem yy_R_greatestOf : yy_ y_R_greatestOf 1 := by decide +kernel
theorem yy_R_agree : yy_ y_R_agree 2 := by decide +kernel
theorem yy_R_confirm : yy_ y_R_confirm 2 := by decide +kernel
theorem yy_R_close : yy_ y_R_close 2 := by decide +kernel
theorem yy_R_shut : yy_ y_R_shut 3 := by decide +kernel
theorem yy_R_send : yy_ y_R_send 7 := by decide +kernel
theorem yy_R_has : yy_ y_R_has 3 := by decide +kernel
theorem yy_R_give : yy_ y_R_give 4 := by decide +kernel
theorem yy_R_receive : yy_ y_R_receive 2 := by decide +kernel
theorem yy_R_noMessage : yy_ y_R_noMessage 1 := by decide +kernel
theorem yy_R_isBehind : yy_ y_R_isBehind 2 := by decide +kernel
theorem yy_R_acknowledge : yy_ y_R_acknowledge 2 := by decide +kernel
theorem yy_R_finish : yy_ y_R_finish 2 := by decide +kernel
theorem yy_R_timeout : yy_ y_R_timeout 2 := by decide +kernel
theorem yy_R_end : yy_ y_R_end 3 := by decide +kernel
theorem yy_R_stepAt : yy_ y_R_stepAt 3 := by decide +kernel
theorem yy_R_message : yy_ y_R_message 2 := by decide +kernel
theorem yy_R_balance : yy_ y_R_balance 3 := by decide +kernel
theorem yy_R_vouchers : yy_ y_R_vouchers 3 := by decide +kernel
theorem yy_R_sum : yy_ y_R_sum 2 := by decide +kernel
theorem yy_R_held : yy_ y_R_held 2 := by decide +kernel
theorem yy_R_count : yy_ y_R_count 1 := by decide +kernel
theorem yy_R_clear : yy_ y_R_clear 0 := by decide +kernel
end
section
def f_B_isWithin (x1 : Int32) (x2 : Int32) (x3 : Int32) : Int32 := (if x1 < x2 then 0 else (if x3 < x1 then 0 else 1))
set_option maxHeartbeats 4000000 in
set_option maxRecDepth 100000 in
theorem c_B_isWithin {l : Launch} {D : va_G} {t6 : Nat → ClassId} {b n : Nat} {M : Mem} {x1 : Int32} {x2 : Int32} {x3 : Int32} : CI l D t6 b n y_B_isWithin cd_B_isWithin 3 .boolean (rk 0 0) [.int x1, .int x2, .int x3] M (f_B_isWithin x1 x2 x3) M := by
  refine en_i (by decide) (by simp [Value.category]) (Nat.le_of_ble_eq_true rfl) (fun p e s m below meth c G => ?_)
  refine sr_iload_n G rfl d_B_isWithin_0 ?_
  refine sr_iload_n G rfl d_B_isWithin_1 ?_
  refine sr_icmp_lt G 14 d_B_isWithin_2 rfl (fun h2 => ?_) (fun h2 => ?_)
  · skip
    refine sr_iconst G (v := 0) (by decide) d_B_isWithin_14 ?_
    refine sr_zret G (by decide) d_B_isWithin_15 ?_
    unfold f_B_isWithin
    rw [if_pos h2]
    exact ⟨rfl, rfl⟩
  · skip
    refine sr_iload_n G rfl d_B_isWithin_5 ?_
    refine sr_iload_n G rfl d_B_isWithin_6 ?_
    refine sr_icmp_gt G 14 d_B_isWithin_7 rfl (fun h7 => ?_) (fun h7 => ?_)
    · skip
      refine sr_iconst G (v := 0) (by decide) d_B_isWithin_14 ?_
      refine sr_zret G (by decide) d_B_isWithin_15 ?_
      unfold f_B_isWithin
      rw [if_neg h2, if_pos h7]
      exact ⟨rfl, rfl⟩
    · skip
      refine sr_iconst G (v := 1) (by decide) d_B_isWithin_10 ?_
      refine sr_goto G 15 d_B_isWithin_11 rfl ?_
      refine sr_zret G (by decide) d_B_isWithin_15 ?_
      unfold f_B_isWithin
      rw [if_neg h2, if_neg h7]
      exact ⟨rfl, rfl⟩
theorem nb_isWithin (x1 x2 x3 : Int32) : narrow .boolean (.int (f_B_isWithin x1 x2 x3)) = .int (f_B_isWithin x1 x2 x3) := by
  unfold f_B_isWithin
  split
  · decide
  · split <;> decide
def f_B_isSide (x1 : Int32) : Int32 := (f_B_isWithin x1 0 1)
set_option maxHeartbeats 4000000 in
set_option maxRecDepth 100000 in
theorem c_B_isSide {l : Launch} {D : va_G} {t6 : Nat → ClassId} {b n : Nat} {M : Mem} {x1 : Int32} : CI l D t6 b n y_B_isSide cd_B_isSide 1 .boolean (rk 1 22) [.int x1] M (f_B_isSide x1) M := by
  refine en_i (by decide) (by simp [Value.category]) (Nat.le_of_ble_eq_true rfl) (fun p e s m below meth c G => ?_)
  refine sr_iload_n G rfl d_B_isSide_0 ?_
  refine sr_iconst G (v := 0) (by decide) d_B_isSide_1 ?_
  refine sr_iconst G (v := 1) (by decide) d_B_isSide_2 ?_
  refine sr_csi G ks_B_isWithin (c_B_isWithin) kc_B_isWithin km_B_41 kn_B yy_B_isWithin rfl ⟨rfl, rfl, by decide, by decide⟩ (Nat.le_of_ble_eq_true rfl) rfl d_B_isSide_3 ?_
  refine sr_zret G (nb_isWithin _ _ _) d_B_isSide_6 ?_
  unfold f_B_isSide
  exact ⟨rfl, rfl⟩
def f_B_isCoin (x1 : Int32) : Int32 := (f_B_isWithin x1 0 1)
set_option maxHeartbeats 4000000 in
set_option maxRecDepth 100000 in
theorem c_B_isCoin {l : Launch} {D : va_G} {t6 : Nat → ClassId} {b n : Nat} {M : Mem} {x1 : Int32} : CI l D t6 b n y_B_isCoin cd_B_isCoin 1 .boolean (rk 1 22) [.int x1] M (f_B_isCoin x1) M := by
  refine en_i (by decide) (by simp [Value.category]) (Nat.le_of_ble_eq_true rfl) (fun p e s m below meth c G => ?_)
  refine sr_iload_n G rfl d_B_isCoin_0 ?_
  refine sr_iconst G (v := 0) (by decide) d_B_isCoin_1 ?_
  refine sr_iconst G (v := 1) (by decide) d_B_isCoin_2 ?_
  refine sr_csi G ks_B_isWithin (c_B_isWithin) kc_B_isWithin km_B_41 kn_B yy_B_isWithin rfl ⟨rfl, rfl, by decide, by decide⟩ (Nat.le_of_ble_eq_true rfl) rfl d_B_isCoin_3 ?_
  refine sr_zret G (nb_isWithin _ _ _) d_B_isCoin_6 ?_
  unfold f_B_isCoin
  exact ⟨rfl, rfl⟩
def f_B_isAccount (x1 : Int32) : Int32 := (f_B_isWithin x1 0 3)
set_option maxHeartbeats 4000000 in
set_option maxRecDepth 100000 in
theorem c_B_isAccount {l : Launch} {D : va_G} {t6 : Nat → ClassId} {b n : Nat} {M : Mem} {x1 : Int32} : CI l D t6 b n y_B_isAccount cd_B_isAccount 1 .boolean (rk 1 22) [.int x1] M (f_B_isAccount x1) M := by
  refine en_i (by decide) (by simp [Value.category]) (Nat.le_of_ble_eq_true rfl) (fun p e s m below meth c G => ?_)
  refine sr_iload_n G rfl d_B_isAccount_0 ?_
  refine sr_iconst G (v := 0) (by decide) d_B_isAccount_1 ?_
  refine sr_iconst G (v := 3) (by decide) d_B_isAccount_2 ?_
  refine sr_csi G ks_B_isWithin (c_B_isWithin) kc_B_isWithin km_B_41 kn_B yy_B_isWithin rfl ⟨rfl, rfl, by decide, by decide⟩ (Nat.le_of_ble_eq_true rfl) rfl d_B_isAccount_3 ?_
  refine sr_zret G (nb_isWithin _ _ _) d_B_isAccount_6 ?_
  unfold f_B_isAccount
  exact ⟨rfl, rfl⟩
def f_B_isChannel (M : Mem) (x1 : Int32) : Int32 := (f_B_isWithin x1 0 ((M 0 0 3) - 1))
set_option maxHeartbeats 4000000 in
set_option maxRecDepth 100000 in
theorem c_B_isChannel {l : Launch} {D : va_G} {t6 : Nat → ClassId} {b n : Nat} (hn : 104 ≤ n) {M : Mem} {x1 : Int32} : CI l D t6 b n y_B_isChannel cd_B_isChannel 2 .boolean (rk 1 22) [.ref (ad b 0 0), .int x1] M (f_B_isChannel M x1) M := by
  refine en_i (by decide) (by simp [Value.category]) (Nat.le_of_ble_eq_true rfl) (fun p e s m below meth c G => ?_)
  refine sr_iload_n G rfl d_B_isChannel_0 ?_
  refine sr_iconst G (v := 0) (by decide) d_B_isChannel_1 ?_
  refine sr_aload_n G rfl d_B_isChannel_2 ?_
  refine sr_get G (vv_0 hn) rfl ku_B rfl 3 (by decide) kf_B_80 rfl rfl d_B_isChannel_3 ?_
  refine sr_iconst G (v := 1) (by decide) d_B_isChannel_6 ?_
  refine sr_isub G d_B_isChannel_7 ?_
  refine sr_csi G ks_B_isWithin (c_B_isWithin) kc_B_isWithin km_B_41 kn_B yy_B_isWithin rfl ⟨rfl, rfl, by decide, by decide⟩ (Nat.le_of_ble_eq_true rfl) rfl d_B_isChannel_8 ?_
  refine sr_zret G (nb_isWithin _ _ _) d_B_isChannel_11 ?_
  unfold f_B_isChannel
  exact ⟨rfl, rfl⟩
def f_B_isMessage (M : Mem) (x1 : Int32) : Int32 := (f_B_isWithin x1 0 ((M 0 0 4) - 1))
set_option maxHeartbeats 4000000 in
set_option maxRecDepth 100000 in
theorem c_B_isMessage {l : Launch} {D : va_G} {t6 : Nat → ClassId} {b n : Nat} (hn : 104 ≤ n) {M : Mem} {x1 : Int32} : CI l D t6 b n y_B_isMessage cd_B_isMessage 2 .boolean (rk 1 22) [.ref (ad b 0 0), .int x1] M (f_B_isMessage M x1) M := by
  refine en_i (by decide) (by simp [Value.category]) (Nat.le_of_ble_eq_true rfl) (fun p e s m below meth c G => ?_)
  refine sr_iload_n G rfl d_B_isMessage_0 ?_
  refine sr_iconst G (v := 0) (by decide) d_B_isMessage_1 ?_
  refine sr_aload_n G rfl d_B_isMessage_2 ?_
  refine sr_get G (vv_0 hn) rfl ku_B rfl 4 (by decide) kf_B_127 rfl rfl d_B_isMessage_3 ?_
  refine sr_iconst G (v := 1) (by decide) d_B_isMessage_6 ?_
  refine sr_isub G d_B_isMessage_7 ?_
  refine sr_csi G ks_B_isWithin (c_B_isWithin) kc_B_isWithin km_B_41 kn_B yy_B_isWithin rfl ⟨rfl, rfl, by decide, by decide⟩ (Nat.le_of_ble_eq_true rfl) rfl d_B_isMessage_8 ?_
  refine sr_zret G (nb_isWithin _ _ _) d_B_isMessage_11 ?_
  unfold f_B_isMessage
  exact ⟨rfl, rfl⟩
def f_B_oneIf (x1 : Int32) : Int32 := (if x1 = 0 then 0 else 1)
set_option maxHeartbeats 4000000 in
set_option maxRecDepth 100000 in
theorem c_B_oneIf {l : Launch} {D : va_G} {t6 : Nat → ClassId} {b n : Nat} {M : Mem} {x1 : Int32} : CI l D t6 b n y_B_oneIf cd_B_oneIf 1 .int (rk 0 0) [.int x1] M (f_B_oneIf x1) M := by
  refine en_i (by decide) (by simp [Value.category]) (Nat.le_of_ble_eq_true rfl) (fun p e s m below meth c G => ?_)
  refine sr_iload_n G rfl d_B_oneIf_0 ?_
  refine sr_if_eq G 8 d_B_oneIf_1 rfl (fun h1 => ?_) (fun h1 => ?_)
  · skip
    refine sr_iconst G (v := 0) (by decide) d_B_oneIf_8 ?_
    refine sr_iret G d_B_oneIf_9 ?_
    unfold f_B_oneIf
    rw [if_pos h1]
    exact ⟨rfl, rfl⟩
  · skip
    refine sr_iconst G (v := 1) (by decide) d_B_oneIf_4 ?_
    refine sr_goto G 9 d_B_oneIf_5 rfl ?_
    refine sr_iret G d_B_oneIf_9 ?_
    unfold f_B_oneIf
    rw [if_neg h1]
    exact ⟨rfl, rfl⟩
end
section
theorem in_wi {x lo hi : Int32} {k : Nat} (hlo : 0 ≤ lo.toInt) (hhi : hi.toInt < (k : Int)) (h : ¬ f_B_isWithin x lo hi = 0) : vp_in x k := by
  unfold f_B_isWithin at h
  rw [vp_in_iff]
  by_cases h1 : x < lo
  · rw [if_pos h1] at h; exact absurd rfl h
  · by_cases h2 : hi < x
    · rw [if_neg h1, if_pos h2] at h; exact absurd rfl h
    · rw [Int32.lt_iff_toInt_lt] at h1 h2
      omega
theorem in_1 {x : Int32} (h : vp_in x 2) : vp_in (1 - x) 2 := by
  obtain ⟨j, hj, rfl⟩ := vp_in_of h (by decide)
  rcases (show j = 0 ∨ j = 1 by omega) with rfl | rfl <;> (unfold vp_in; decide)
/-- what the class keeps of its numbers that are used as indices -/
def ci_ (M : Mem) : Prop := (∃ k, k ≤ 4 ∧ M 0 0 3 = nI k) ∧ (∃ k, k ≤ 60 ∧ M 0 0 4 = nI k) ∧ (∀ c, c < 4 → vp_in (M 5 c 2) 2) ∧ ∀ i, i < 60 → vp_in (M 9 i 0) 4 ∧ vp_in (M 9 i 1) 2 ∧ vp_in (M 9 i 3) 4
theorem in_ch {M : Mem} {x : Int32} (hI : ci_ M) (h : ¬ f_B_isChannel M x = 0) : vp_in x 4 := by
  obtain ⟨⟨k, hk, e⟩, -⟩ := hI
  unfold f_B_isChannel at h
  refine in_wi (by decide) ?_ h
  rw [e, show (1 : Int32) = nI 1 from rfl, pk_sub_toInt (by omega) (by omega)]
  omega
theorem in_ms {M : Mem} {x : Int32} (hI : ci_ M) (h : ¬ f_B_isMessage M x = 0) : vp_in x 60 := by
  obtain ⟨-, ⟨k, hk, e⟩, -⟩ := hI
  unfold f_B_isMessage at h
  refine in_wi (by decide) ?_ h
  rw [e, show (1 : Int32) = nI 1 from rfl, pk_sub_toInt (by omega) (by omega)]
  omega
theorem ci_u3 {M : Mem} (h : ci_ M) {kd i j : Nat} (v : Int32) (h0 : ¬ (kd = 0 ∧ (j = 3 ∨ j = 4))) (h5 : ¬ (kd = 5 ∧ j = 2)) (h9 : ¬ (kd = 9 ∧ (j = 0 ∨ j = 1 ∨ j = 3))) : ci_ (u3 M kd i j v) := by
  obtain ⟨a, b, c, d⟩ := h
  have e : ∀ {x y z : Nat}, ¬ (x = kd ∧ z = j) → u3 M kd i j v x y z = M x y z := fun q => if_neg (fun w => q ⟨w.1, w.2.2⟩)
  refine ⟨?_, ?_, fun k hk => ?_, fun k hk => ⟨?_, ?_, ?_⟩⟩
  · rw [e (fun q => h0 ⟨q.1.symm, Or.inl q.2.symm⟩)]; exact a
  · rw [e (fun q => h0 ⟨q.1.symm, Or.inr q.2.symm⟩)]; exact b
  · rw [e (fun q => h5 ⟨q.1.symm, q.2.symm⟩)]; exact c k hk
  · rw [e (fun q => h9 ⟨q.1.symm, Or.inl q.2.symm⟩)]; exact (d k hk).1
  · rw [e (fun q => h9 ⟨q.1.symm, Or.inr (Or.inl q.2.symm)⟩)]; exact (d k hk).2.1
  · rw [e (fun q => h9 ⟨q.1.symm, Or.inr (Or.inr q.2.symm)⟩)]; exact (d k hk).2.2
theorem ci_cl {M : Mem} (h : ci_ M) : M 0 0 3 = nI (Int32.toNatClampNeg (M 0 0 3)) ∧ Int32.toNatClampNeg (M 0 0 3) ≤ 4 := by
  obtain ⟨⟨k, hk, e⟩, -⟩ := h
  have : Int32.toNatClampNeg (M 0 0 3) = k := by rw [e]; exact nI_clamp (by omega)
  rw [this]
  exact ⟨e, hk⟩
theorem ci_ml {M : Mem} (h : ci_ M) : M 0 0 4 = nI (Int32.toNatClampNeg (M 0 0 4)) ∧ Int32.toNatClampNeg (M 0 0 4) ≤ 60 := by
  obtain ⟨-, ⟨k, hk, e⟩, -⟩ := h
  have : Int32.toNatClampNeg (M 0 0 4) = k := by rw [e]; exact nI_clamp (by omega)
  rw [this]
  exact ⟨e, hk⟩
theorem in_nI {x : Int32} {k : Nat} (h : vp_in x k) (hk : k < 2 ^ 31) : x = nI (Int32.toNatClampNeg x) ∧ Int32.toNatClampNeg x < k := by
  obtain ⟨j, hj, rfl⟩ := vp_in_of h hk
  have : Int32.toNatClampNeg (nI j) = j := nI_clamp (by omega)
  rw [this]
  exact ⟨rfl, hj⟩
/-- a loop's number, step by step -/
def fd_ (g : Nat → Int32 → Int32) (a0 : Int32) : Nat → Int32
  | 0 => a0
  | k + 1 => g k (fd_ g a0 k)
/-- a row is filled -/
def fl_ (M : Mem) (kd i len : Nat) (v : Int32) : Mem := fun a b c => if a = kd ∧ b = i ∧ c < len then v else M a b c
theorem fl_0 (M : Mem) (kd i : Nat) (v : Int32) : M = fl_ M kd i 0 v := by
  funext a b c
  unfold fl_
  rw [if_neg (by omega)]
theorem fl_s (M : Mem) (kd i j : Nat) (v : Int32) : u3 (fl_ M kd i j v) kd i j v = fl_ M kd i (j + 1) v := by
  funext a b c
  unfold fl_ u3
  by_cases h : a = kd ∧ b = i ∧ c = j
  · rw [if_pos h, if_pos ⟨h.1, h.2.1, by omega⟩]
  · rw [if_neg h]
    show (if a = kd ∧ b = i ∧ c < j then v else M a b c) = _
    by_cases h2 : a = kd ∧ b = i ∧ c < j
    · rw [if_pos h2, if_pos ⟨h2.1, h2.2.1, by omega⟩]
    · rw [if_neg h2, if_neg (fun q => h2 ⟨q.1, q.2.1, by have : ¬ c = j := fun z => h ⟨q.1, q.2.1, z⟩; omega⟩)]
section
variable {p : Program} {l : Launch} {e : Env} {R : Room} {s : State} {m : MethodId} {args : Array Value} {below : List Frame} {meth : Method} {c : Code} {D : va_G} {t6 : Nat → ClassId} {b n nL : Nat} {Q : State → Prop} {M : Mem} {pc : Nat} {L : List (Option Value)} {st : List Value}
/-- a loop that counts up: the memory and the locals at its head, by the count -/
theorem sr_loop (len : Nat) (Mf : Nat → Mem) (Lf : Nat → List (Option Value)) (I : Nat → Prop) (j0 : Nat) (hj : j0 ≤ len) (hI : I j0) (hM : M = Mf j0) (hL : L = Lf j0)
    (step : ∀ j, j0 ≤ j → j < len → I j → (I (j + 1) → St p l e R s m args below meth c D t6 b n nL Q (Mf (j + 1)) pc (Lf (j + 1)) st) → St p l e R s m args below meth c D t6 b n nL Q (Mf j) pc (Lf j) st)
    (exit : I len → St p l e R s m args below meth c D t6 b n nL Q (Mf len) pc (Lf len) st) : St p l e R s m args below meth c D t6 b n nL Q M pc L st := by
  have key : ∀ (k j : Nat), len - j < k → j0 ≤ j → j ≤ len → I j → St p l e R s m args below meth c D t6 b n nL Q (Mf j) pc (Lf j) st := by
    intro k
    induction k with
    | zero => intro j h; omega
    | succ k ih =>
      intro j h h0 h1 hj2
      by_cases hlt : j < len
      · exact step j h0 hlt hj2 (fun h3 => ih (j + 1) (by omega) (by omega) hlt h3)
      · have : j = len := by omega
        subst this
        exact exit hj2
  subst hM; subst hL
  exact key (len - j0 + 1) j0 (by omega) (Nat.le_refl _) hj hI
def f_Ma_max (x y : Int32) : Int32 := if x < y then y else x
theorem sr_max {cc : ByteArray} {own : String} {ret : Option FieldType} {pc2 : Nat} (G : cx p s m meth c cc nL own ret D t6) {x y : Int32} {index : Nat} (hlk : Cond.methodLink own index y_Ma_max ∈ lw_tbl) (hfr : 1 ≤ R.frames) (hlo : (st.map fun v => v.category).sum + 13 ≤ R.locals) (hd : dc cc pc (.invokestatic index) 3 pc2) (k : St p l e R s m args below meth c D t6 b n nL Q M pc2 L (.int (f_Ma_max x y) :: st)) : St p l e R s m args below meth c D t6 b n nL Q M pc L (.int y :: .int x :: st) := by
  intro H locs ls hw hS hl
  obtain ⟨hx, hb, hml, hown, hr, hlk9, hk⟩ := G
  obtain ⟨hd, rfl⟩ := hd
  exact va_mmax hx hb (by rw [hml, hl.1]) hown (hk.1 _ (tb_in hlk rfl) _) (hk.1 _ (tb_in ks_Ma_max rfl) _) (hk.1 _ (tb_in kn_Ma rfl) _) (hk.1 _ (tb_in kc_Ma_max rfl) _) hfr hlo (Nat.zero_le _) (Nat.zero_le _) hd (k H locs ls hw hS hl)
theorem sr_dropL (i : Nat) (k : St p l e R s m args below meth c D t6 b n nL Q M pc (L.set i none) st) : St p l e R s m args below meth c D t6 b n nL Q M pc L st := by
  intro H locs ls hw hS hl
  refine k H locs ls hw hS ⟨hl.1, hl.2.1, fun q v hq => hl.2.2 q v ?_⟩
  by_cases e : q = i
  · subst e
    by_cases hlt : q < L.length
    · rw [List.getElem?_set_self hlt] at hq; cases hq
    · rw [List.getElem?_eq_none (by rw [List.length_set]; omega)] at hq; cases hq
  · rwa [List.getElem?_set_ne (Ne.symm e)] at hq
theorem sr_eqM {M2 : Mem} (h : M = M2) (k : St p l e R s m args below meth c D t6 b n nL Q M2 pc L st) : St p l e R s m args below meth c D t6 b n nL Q M pc L st := h ▸ k
theorem sr_eqL {L2 : List (Option Value)} (h : L = L2) (k : St p l e R s m args below meth c D t6 b n nL Q M pc L2 st) : St p l e R s m args below meth c D t6 b n nL Q M pc L st := h ▸ k
theorem sr_eqT {x y : Int32} (h : x = y) (k : St p l e R s m args below meth c D t6 b n nL Q M pc L (.int y :: st)) : St p l e R s m args below meth c D t6 b n nL Q M pc L (.int x :: st) := h ▸ k
end
set_option maxHeartbeats 4000000 in
set_option maxRecDepth 100000 in
theorem c_Ar_fill {l : Launch} {D : va_G} {t6 : Nat → ClassId} {b n : Nat} {M : Mem} {kd i len : Nat} {v : Int32} (hv : vv n kd i) (hc : ∀ mm : Nat → Int32, cm_ t6 b kd i mm = .inl (t6 0, len, .inl mm)) (hlen : len < 2 ^ 31) : CV l D t6 b n y_Ar_fill cd_Ar_fill 4 (rk 0 0) [.ref (ad b kd i), .int v] M (fl_ M kd i len v) := by
  refine en_v (by decide) (by simp [Value.category]) (Nat.le_of_ble_eq_true rfl) (fun p e s m below meth c G => ?_)
  refine sr_iconst G (v := nI 0) (by decide) d_Ar_fill_0 ?_
  refine sr_istore_n G (by decide) d_Ar_fill_1 ?_
  refine sr_aload_n G rfl d_Ar_fill_2 ?_
  refine sr_alen G (tx := 0) hv (hc _) rfl (v := nI len) rfl d_Ar_fill_3 ?_
  refine sr_istore_n G (by decide) d_Ar_fill_4 ?_
  refine sr_loop len (fun j => fl_ M kd i j v) (fun j => [some (.ref (ad b kd i)), some (.int v), some (.int (nI j)), some (.int (nI len))]) (fun _ => True) 0 (Nat.zero_le _) trivial (fl_0 M kd i v) rfl (fun j _ hj _ ih => ?_) (fun _ => ?_)
  · refine sr_iload_n G rfl d_Ar_fill_5 ?_
    refine sr_iload_n G rfl d_Ar_fill_6 ?_
    refine sr_icmp_ge G 20 d_Ar_fill_7 rfl (fun h => absurd h (nI_ge hj hlen)) (fun _ => ?_)
    refine sr_aload_n G rfl d_Ar_fill_10 ?_
    refine sr_iload_n G rfl d_Ar_fill_11 ?_
    refine sr_iload_n G rfl d_Ar_fill_12 ?_
    refine sr_iast G hv hc (vp_in_nI hj hlen) d_Ar_fill_13 ?_
    refine sr_iinc G (v := nI (j + 1)) rfl (nI_1 j) (by decide) d_Ar_fill_14 ?_
    refine sr_goto G 5 d_Ar_fill_17 rfl ?_
    refine sr_eqM ?_ (ih trivial)
    rw [nI_clamp (by omega)]
    exact fl_s M kd i j v
  · refine sr_iload_n G rfl d_Ar_fill_5 ?_
    refine sr_iload_n G rfl d_Ar_fill_6 ?_
    refine sr_icmp_ge G 20 d_Ar_fill_7 rfl (fun _ => ?_) (fun h => absurd (nI_le (Nat.le_refl len) hlen) h)
    exact sr_vret G d_Ar_fill_20 rfl
end
section
def f_Cl_isToldMark (M : Mem) (z : Nat) (x1 : Int32) (x2 : Int32) : Int32 := (if (f_B_isWithin x1 1 200) = 0 then 0 else (if (M 4 z (Int32.toNatClampNeg x1)) = (x2 + 1) then 1 else 0))
set_option maxHeartbeats 4000000 in
set_option maxRecDepth 100000 in
theorem c_Cl_isToldMark {l : Launch} {D : va_G} {t6 : Nat → ClassId} {b n : Nat} (hn : 104 ≤ n) {M : Mem} {z : Nat} {x1 : Int32} {x2 : Int32} (hz : z < 2) : CI l D t6 b n y_Cl_isToldMark cd_Cl_isToldMark 3 .boolean (rk 1 22) [.ref (ad b 3 z), .int x1, .int x2] M (f_Cl_isToldMark M z x1 x2) M := by
  refine en_i (by decide) (by simp [Value.category]) (Nat.le_of_ble_eq_true rfl) (fun p e s m below meth c G => ?_)
  refine sr_iload_n G rfl d_Cl_isToldMark_0 ?_
  refine sr_iconst G (v := 1) (by decide) d_Cl_isToldMark_1 ?_
  refine sr_sipush G (v := 200) (by decide) d_Cl_isToldMark_2 ?_
  refine sr_csNi G ks_B_isWithin (c_B_isWithin) kc_B_isWithin km_Cl_15 kn_B yy_B_isWithin rfl ⟨rfl, rfl, by decide, by decide⟩ (Nat.le_of_ble_eq_true rfl) rfl d_Cl_isToldMark_5 ?_
  refine sr_if_eq G 27 d_Cl_isToldMark_8 rfl (fun h8 => ?_) (fun h8 => ?_)
  · skip
    refine sr_iconst G (v := 0) (by decide) d_Cl_isToldMark_27 ?_
    refine sr_zret G (by decide) d_Cl_isToldMark_28 ?_
    unfold f_Cl_isToldMark
    rw [if_pos h8]
    exact ⟨rfl, rfl⟩
  · skip
    have v8 : vp_in x1 201 := in_wi (lo := 1) (hi := 200) (by decide) (by decide) h8
    have i8 := ix_lt v8
    refine sr_aload_n G rfl d_Cl_isToldMark_11 ?_
    refine sr_get G (vv_3 hn (by omega)) rfl ku_Cl rfl 0 (by decide) kf_Cl_9 rfl rfl d_Cl_isToldMark_12 ?_
    refine sr_iload_n G rfl d_Cl_isToldMark_15 ?_
    refine sr_iald G (vv_4 hn (by omega)) rfl (by assumption) d_Cl_isToldMark_16 ?_
    refine sr_iload_n G rfl d_Cl_isToldMark_17 ?_
    refine sr_iconst G (v := 1) (by decide) d_Cl_isToldMark_18 ?_
    refine sr_iadd G d_Cl_isToldMark_19 ?_
    refine sr_icmp_ne G 27 d_Cl_isToldMark_20 rfl (fun h20 => ?_) (fun h20 => ?_)
    · skip
      refine sr_iconst G (v := 0) (by decide) d_Cl_isToldMark_27 ?_
      refine sr_zret G (by decide) d_Cl_isToldMark_28 ?_
      unfold f_Cl_isToldMark
      rw [if_neg h8, if_neg h20]
      exact ⟨rfl, rfl⟩
    · skip
      refine sr_iconst G (v := 1) (by decide) d_Cl_isToldMark_23 ?_
      refine sr_goto G 28 d_Cl_isToldMark_24 rfl ?_
      refine sr_zret G (by decide) d_Cl_isToldMark_28 ?_
      unfold f_Cl_isToldMark
      rw [if_neg h8, if_pos h20]
      exact ⟨rfl, rfl⟩
def f_Cl_howFollowed (M : Mem) (z : Nat) (x1 : Int32) : Int32 := (if (f_B_isWithin x1 1 200) = 0 then 0 else (if (M 4 z (Int32.toNatClampNeg x1)) = 0 then 0 else (if (f_Cl_isToldMark M z x1 0) = 0 then 2 else 1)))
set_option maxHeartbeats 4000000 in
set_option maxRecDepth 100000 in
theorem c_Cl_howFollowed {l : Launch} {D : va_G} {t6 : Nat → ClassId} {b n : Nat} (hn : 104 ≤ n) {M : Mem} {z : Nat} {x1 : Int32} (hz : z < 2) : CI l D t6 b n y_Cl_howFollowed cd_Cl_howFollowed 2 .int (rk 2 44) [.ref (ad b 3 z), .int x1] M (f_Cl_howFollowed M z x1) M := by
  refine en_i (by decide) (by simp [Value.category]) (Nat.le_of_ble_eq_true rfl) (fun p e s m below meth c G => ?_)
  refine sr_iload_n G rfl d_Cl_howFollowed_0 ?_
  refine sr_iconst G (v := 1) (by decide) d_Cl_howFollowed_1 ?_
  refine sr_sipush G (v := 200) (by decide) d_Cl_howFollowed_2 ?_
  refine sr_csNi G ks_B_isWithin (c_B_isWithin) kc_B_isWithin km_Cl_15 kn_B yy_B_isWithin rfl ⟨rfl, rfl, by decide, by decide⟩ (Nat.le_of_ble_eq_true rfl) rfl d_Cl_howFollowed_5 ?_
  refine sr_if_eq G 20 d_Cl_howFollowed_8 rfl (fun h8 => ?_) (fun h8 => ?_)
  · skip
    refine sr_iconst G (v := 0) (by decide) d_Cl_howFollowed_20 ?_
    refine sr_iret G d_Cl_howFollowed_21 ?_
    unfold f_Cl_howFollowed
    rw [if_pos h8]
    exact ⟨rfl, rfl⟩
  · skip
    have v8 : vp_in x1 201 := in_wi (lo := 1) (hi := 200) (by decide) (by decide) h8
    have i8 := ix_lt v8
    refine sr_aload_n G rfl d_Cl_howFollowed_11 ?_
    refine sr_get G (vv_3 hn (by omega)) rfl ku_Cl rfl 0 (by decide) kf_Cl_9 rfl rfl d_Cl_howFollowed_12 ?_
    refine sr_iload_n G rfl d_Cl_howFollowed_15 ?_
    refine sr_iald G (vv_4 hn (by omega)) rfl (by assumption) d_Cl_howFollowed_16 ?_
    refine sr_if_ne G 22 d_Cl_howFollowed_17 rfl (fun h17 => ?_) (fun h17 => ?_)
    · skip
      refine sr_aload_n G rfl d_Cl_howFollowed_22 ?_
      refine sr_iload_n G rfl d_Cl_howFollowed_23 ?_
      refine sr_iconst G (v := 0) (by decide) d_Cl_howFollowed_24 ?_
      refine sr_cvi G (vv_3 hn (by omega)) rfl rfl ki_Cl_isToldMark kx_Cl_isToldMark (c_Cl_isToldMark hn (by first | assumption | omega | decide)) kc_Cl_isToldMark km_Cl_19 kn_Cl yy_Cl_isToldMark rfl ⟨rfl, rfl, by decide, by decide⟩ (Nat.le_of_ble_eq_true rfl) rfl d_Cl_howFollowed_25 ?_
      refine sr_if_eq G 35 d_Cl_howFollowed_28 rfl (fun h28 => ?_) (fun h28 => ?_)
      · skip
        refine sr_iconst G (v := 2) (by decide) d_Cl_howFollowed_35 ?_
        refine sr_iret G d_Cl_howFollowed_36 ?_
        unfold f_Cl_howFollowed
        rw [if_neg h8, if_neg h17, if_pos h28]
        exact ⟨rfl, rfl⟩
      · skip
        refine sr_iconst G (v := 1) (by decide) d_Cl_howFollowed_31 ?_
        refine sr_goto G 36 d_Cl_howFollowed_32 rfl ?_
        refine sr_iret G d_Cl_howFollowed_36 ?_
        unfold f_Cl_howFollowed
        rw [if_neg h8, if_neg h17, if_neg h28]
        exact ⟨rfl, rfl⟩
    · skip
      refine sr_iconst G (v := 0) (by decide) d_Cl_howFollowed_20 ?_
      refine sr_iret G d_Cl_howFollowed_21 ?_
      unfold f_Cl_howFollowed
      rw [if_neg h8, if_pos h17]
      exact ⟨rfl, rfl⟩
def f_Cl_add (M : Mem) (z : Nat) (x1 : Int32) (x2 : Int32) : Mem := (if (f_B_isWithin x1 1 200) = 0 then M else (u3 (u3 (u3 M 4 z (Int32.toNatClampNeg x1) (x2 + 1)) 3 z 2 (f_Ma_max ((u3 M 4 z (Int32.toNatClampNeg x1) (x2 + 1)) 3 z 2) x1)) 3 z 3 (((u3 (u3 M 4 z (Int32.toNatClampNeg x1) (x2 + 1)) 3 z 2 (f_Ma_max ((u3 M 4 z (Int32.toNatClampNeg x1) (x2 + 1)) 3 z 2) x1)) 3 z 3) + 1)))
set_option maxHeartbeats 4000000 in
set_option maxRecDepth 100000 in
theorem c_Cl_add {l : Launch} {D : va_G} {t6 : Nat → ClassId} {b n : Nat} (hn : 104 ≤ n) {M : Mem} {z : Nat} {x1 : Int32} {x2 : Int32} (hz : z < 2) : CV l D t6 b n y_Cl_add cd_Cl_add 3  (rk 1 22) [.ref (ad b 3 z), .int x1, .int x2] M (f_Cl_add M z x1 x2) := by
  refine en_v (by decide) (by simp [Value.category]) (Nat.le_of_ble_eq_true rfl) (fun p e s m below meth c G => ?_)
  refine sr_iload_n G rfl d_Cl_add_0 ?_
  refine sr_iconst G (v := 1) (by decide) d_Cl_add_1 ?_
  refine sr_sipush G (v := 200) (by decide) d_Cl_add_2 ?_
  refine sr_csNi G ks_B_isWithin (c_B_isWithin) kc_B_isWithin km_Cl_15 kn_B yy_B_isWithin rfl ⟨rfl, rfl, by decide, by decide⟩ (Nat.le_of_ble_eq_true rfl) rfl d_Cl_add_5 ?_
  refine sr_if_eq G 42 d_Cl_add_8 rfl (fun h8 => ?_) (fun h8 => ?_)
  · skip
    refine sr_vret G d_Cl_add_42 ?_
    unfold f_Cl_add
    rw [if_pos h8]
    try rfl
  · skip
    have v8 : vp_in x1 201 := in_wi (lo := 1) (hi := 200) (by decide) (by decide) h8
    have i8 := ix_lt v8
    refine sr_aload_n G rfl d_Cl_add_11 ?_
    refine sr_get G (vv_3 hn (by omega)) rfl ku_Cl rfl 0 (by decide) kf_Cl_9 rfl rfl d_Cl_add_12 ?_
    refine sr_iload_n G rfl d_Cl_add_15 ?_
    refine sr_iload_n G rfl d_Cl_add_16 ?_
    refine sr_iconst G (v := 1) (by decide) d_Cl_add_17 ?_
    refine sr_iadd G d_Cl_add_18 ?_
    refine sr_iast G (vv_4 hn (by omega)) (fun _ => rfl) (by assumption) d_Cl_add_19 ?_
    refine sr_aload_n G rfl d_Cl_add_20 ?_
    refine sr_aload_n G rfl d_Cl_add_21 ?_
    refine sr_get G (vv_3 hn (by omega)) rfl ku_Cl rfl 2 (by decide) kf_Cl_23 rfl rfl d_Cl_add_22 ?_
    refine sr_iload_n G rfl d_Cl_add_25 ?_
    refine sr_max G km_Cl_27 (by decide) (Nat.le_of_ble_eq_true rfl) d_Cl_add_26 ?_
    refine sr_put G (vv_3 hn (by omega)) rfl ku_Cl rfl 2 (by decide) t_Cl ty_Cl nm_Cl kf_Cl_23 rfl rfl (ty := .int) (by decide +kernel) rfl rfl (Nat.le_of_ble_eq_true rfl) rfl d_Cl_add_29 ?_
    refine sr_aload_n G rfl d_Cl_add_32 ?_
    refine sr_dup G rfl d_Cl_add_33 ?_
    refine sr_get G (vv_3 hn (by omega)) rfl ku_Cl rfl 3 (by decide) kf_Cl_33 rfl rfl d_Cl_add_34 ?_
    refine sr_iconst G (v := 1) (by decide) d_Cl_add_37 ?_
    refine sr_iadd G d_Cl_add_38 ?_
    refine sr_put G (vv_3 hn (by omega)) rfl ku_Cl rfl 3 (by decide) t_Cl ty_Cl nm_Cl kf_Cl_33 rfl rfl (ty := .int) (by decide +kernel) rfl rfl (Nat.le_of_ble_eq_true rfl) rfl d_Cl_add_39 ?_
    refine sr_vret G d_Cl_add_42 ?_
    unfold f_Cl_add
    rw [if_neg h8]
    try rfl
def f_Cl_refusal (M : Mem) (z : Nat) (x1 : Int32) : Int32 := (if (M 3 z 1) = 0 then (if (f_Cl_howFollowed M z x1) = 1 then 0 else (-5)) else (-4))
set_option maxHeartbeats 4000000 in
set_option maxRecDepth 100000 in
theorem c_Cl_refusal {l : Launch} {D : va_G} {t6 : Nat → ClassId} {b n : Nat} (hn : 104 ≤ n) {M : Mem} {z : Nat} {x1 : Int32} (hz : z < 2) : CI l D t6 b n y_Cl_refusal cd_Cl_refusal 2 .int (rk 3 65) [.ref (ad b 3 z), .int x1] M (f_Cl_refusal M z x1) M := by
  refine en_i (by decide) (by simp [Value.category]) (Nat.le_of_ble_eq_true rfl) (fun p e s m below meth c G => ?_)
  refine sr_aload_n G rfl d_Cl_refusal_0 ?_
  refine sr_get G (vv_3 hn (by omega)) rfl ku_Cl rfl 1 (by decide) kf_Cl_36 rfl rfl d_Cl_refusal_1 ?_
  refine sr_if_eq G 10 d_Cl_refusal_4 rfl (fun h4 => ?_) (fun h4 => ?_)
  · skip
    refine sr_aload_n G rfl d_Cl_refusal_10 ?_
    refine sr_iload_n G rfl d_Cl_refusal_11 ?_
    refine sr_cvi G (vv_3 hn (by omega)) rfl rfl ki_Cl_howFollowed kx_Cl_howFollowed (c_Cl_howFollowed hn (by first | assumption | omega | decide)) kc_Cl_howFollowed km_Cl_40 kn_Cl yy_Cl_howFollowed rfl ⟨rfl, rfl, by decide, by decide⟩ (Nat.le_of_ble_eq_true rfl) rfl d_Cl_refusal_12 ?_
    refine sr_iconst G (v := 1) (by decide) d_Cl_refusal_15 ?_
    refine sr_icmp_ne G 23 d_Cl_refusal_16 rfl (fun h16 => ?_) (fun h16 => ?_)
    · skip
      refine sr_bipush G (v := (-5)) (by decide) d_Cl_refusal_23 ?_
      refine sr_iret G d_Cl_refusal_25 ?_
      unfold f_Cl_refusal
      rw [if_pos h4, if_neg h16]
      exact ⟨rfl, rfl⟩
    · skip
      refine sr_iconst G (v := 0) (by decide) d_Cl_refusal_19 ?_
      refine sr_goto G 25 d_Cl_refusal_20 rfl ?_
      refine sr_iret G d_Cl_refusal_25 ?_
      unfold f_Cl_refusal
      rw [if_pos h4, if_pos h16]
      exact ⟨rfl, rfl⟩
  · skip
    refine sr_bipush G (v := (-4)) (by decide) d_Cl_refusal_7 ?_
    refine sr_iret G d_Cl_refusal_9 ?_
    unfold f_Cl_refusal
    rw [if_neg h4]
    exact ⟨rfl, rfl⟩
def f_Cl_forgetAll (M : Mem) (z : Nat) : Mem := (u3 (u3 (u3 (fl_ M 4 z 201 0) 3 z 1 0) 3 z 2 0) 3 z 3 0)
set_option maxHeartbeats 4000000 in
set_option maxRecDepth 100000 in
theorem c_Cl_forgetAll {l : Launch} {D : va_G} {t6 : Nat → ClassId} {b n : Nat} (hn : 104 ≤ n) {M : Mem} {z : Nat} (hz : z < 2) : CV l D t6 b n y_Cl_forgetAll cd_Cl_forgetAll 1  (rk 1 23) [.ref (ad b 3 z)] M (f_Cl_forgetAll M z) := by
  refine en_v (by decide) (by simp [Value.category]) (Nat.le_of_ble_eq_true rfl) (fun p e s m below meth c G => ?_)
  refine sr_aload_n G rfl d_Cl_forgetAll_0 ?_
  refine sr_get G (vv_3 hn (by omega)) rfl ku_Cl rfl 0 (by decide) kf_Cl_9 rfl rfl d_Cl_forgetAll_1 ?_
  refine sr_iconst G (v := 0) (by decide) d_Cl_forgetAll_4 ?_
  refine sr_csv G ks_Ar_fill (c_Ar_fill (kd := 4) (len := 201) (vv_4 hn (by omega)) (fun _ => rfl) (by decide)) kc_Ar_fill km_Cl_44 kn_Ar yy_Ar_fill rfl ⟨rfl, rfl, by decide, by decide⟩ (Nat.le_of_ble_eq_true rfl) rfl d_Cl_forgetAll_5 ?_
  refine sr_aload_n G rfl d_Cl_forgetAll_8 ?_
  refine sr_iconst G (v := 0) (by decide) d_Cl_forgetAll_9 ?_
  refine sr_put G (vv_3 hn (by omega)) rfl ku_Cl rfl 1 (by decide) t_Cl ty_Cl nm_Cl kf_Cl_36 rfl rfl (ty := .boolean) (by decide +kernel) (by decide) rfl (Nat.le_of_ble_eq_true rfl) rfl d_Cl_forgetAll_10 ?_
  refine sr_aload_n G rfl d_Cl_forgetAll_13 ?_
  refine sr_iconst G (v := 0) (by decide) d_Cl_forgetAll_14 ?_
  refine sr_put G (vv_3 hn (by omega)) rfl ku_Cl rfl 2 (by decide) t_Cl ty_Cl nm_Cl kf_Cl_23 rfl rfl (ty := .int) (by decide +kernel) rfl rfl (Nat.le_of_ble_eq_true rfl) rfl d_Cl_forgetAll_15 ?_
  refine sr_aload_n G rfl d_Cl_forgetAll_18 ?_
  refine sr_iconst G (v := 0) (by decide) d_Cl_forgetAll_19 ?_
  refine sr_put G (vv_3 hn (by omega)) rfl ku_Cl rfl 3 (by decide) t_Cl ty_Cl nm_Cl kf_Cl_33 rfl rfl (ty := .int) (by decide +kernel) rfl rfl (Nat.le_of_ble_eq_true rfl) rfl d_Cl_forgetAll_20 ?_
  refine sr_vret G d_Cl_forgetAll_23 ?_
  unfold f_Cl_forgetAll
  rfl
def f_Le_beginAnew (M : Mem) (z : Nat) : Mem := (u3 (f_Cl_forgetAll (fl_ M 2 z 4 1000) z) 1 z 2 0)
set_option maxHeartbeats 4000000 in
set_option maxRecDepth 100000 in
theorem c_Le_beginAnew {l : Launch} {D : va_G} {t6 : Nat → ClassId} {b n : Nat} (hn : 104 ≤ n) {M : Mem} {z : Nat} (hz : z < 2) : CV l D t6 b n y_Le_beginAnew cd_Le_beginAnew 1  (rk 2 43) [.ref (ad b 1 z)] M (f_Le_beginAnew M z) := by
  refine en_v (by decide) (by simp [Value.category]) (Nat.le_of_ble_eq_true rfl) (fun p e s m below meth c G => ?_)
  refine sr_aload_n G rfl d_Le_beginAnew_0 ?_
  refine sr_get G (vv_1 hn (by omega)) rfl ku_Le rfl 0 (by decide) kf_Le_9 rfl rfl d_Le_beginAnew_1 ?_
  refine sr_sipush G (v := 1000) (by decide) d_Le_beginAnew_4 ?_
  refine sr_csv G ks_Ar_fill (c_Ar_fill (kd := 2) (len := 4) (vv_2 hn (by omega)) (fun _ => rfl) (by decide)) kc_Ar_fill km_Le_22 kn_Ar yy_Ar_fill rfl ⟨rfl, rfl, by decide, by decide⟩ (Nat.le_of_ble_eq_true rfl) rfl d_Le_beginAnew_7 ?_
  refine sr_aload_n G rfl d_Le_beginAnew_10 ?_
  refine sr_get G (vv_1 hn (by omega)) rfl ku_Le rfl 1 (by decide) kf_Le_18 rfl rfl d_Le_beginAnew_11 ?_
  refine sr_cvNv G (vv_3 hn (by omega)) rfl rfl ki_Cl_forgetAll kx_Cl_forgetAll (c_Cl_forgetAll hn (by first | assumption | omega | decide)) kc_Cl_forgetAll km_Le_28 kn_Cl yy_Cl_forgetAll rfl ⟨rfl, rfl, by decide, by decide⟩ (Nat.le_of_ble_eq_true rfl) rfl d_Le_beginAnew_14 ?_
  refine sr_aload_n G rfl d_Le_beginAnew_17 ?_
  refine sr_iconst G (v := 0) (by decide) d_Le_beginAnew_18 ?_
  refine sr_put G (vv_1 hn (by omega)) rfl ku_Le rfl 2 (by decide) t_Le ty_Le nm_Le kf_Le_31 rfl rfl (ty := .int) (by decide +kernel) rfl rfl (Nat.le_of_ble_eq_true rfl) rfl d_Le_beginAnew_19 ?_
  refine sr_vret G d_Le_beginAnew_22 ?_
  unfold f_Le_beginAnew
  rfl
def f_En_comeTo (M : Mem) (z : Nat) (x1 : Int32) (x2 : Int32) : Mem := (if (f_B_isWithin x1 1 4) = 0 then M else (u3 (u3 M 6 z 2 x1) 7 z (Int32.toNatClampNeg x1) x2))
set_option maxHeartbeats 4000000 in
set_option maxRecDepth 100000 in
theorem c_En_comeTo {l : Launch} {D : va_G} {t6 : Nat → ClassId} {b n : Nat} (hn : 104 ≤ n) {M : Mem} {z : Nat} {x1 : Int32} {x2 : Int32} (hz : z < 8) : CV l D t6 b n y_En_comeTo cd_En_comeTo 3  (rk 1 22) [.ref (ad b 6 z), .int x1, .int x2] M (f_En_comeTo M z x1 x2) := by
  refine en_v (by decide) (by simp [Value.category]) (Nat.le_of_ble_eq_true rfl) (fun p e s m below meth c G => ?_)
  refine sr_iload_n G rfl d_En_comeTo_0 ?_
  refine sr_iconst G (v := 1) (by decide) d_En_comeTo_1 ?_
  refine sr_iconst G (v := 4) (by decide) d_En_comeTo_2 ?_
  refine sr_csNi G ks_B_isWithin (c_B_isWithin) kc_B_isWithin km_En_18 kn_B yy_B_isWithin rfl ⟨rfl, rfl, by decide, by decide⟩ (Nat.le_of_ble_eq_true rfl) rfl d_En_comeTo_3 ?_
  refine sr_if_eq G 21 d_En_comeTo_6 rfl (fun h6 => ?_) (fun h6 => ?_)
  · skip
    refine sr_vret G d_En_comeTo_21 ?_
    unfold f_En_comeTo
    rw [if_pos h6]
    try rfl
  · skip
    have v6 : vp_in x1 5 := in_wi (lo := 1) (hi := 4) (by decide) (by decide) h6
    have i6 := ix_lt v6
    refine sr_aload_n G rfl d_En_comeTo_9 ?_
    refine sr_iload_n G rfl d_En_comeTo_10 ?_
    refine sr_put G (vv_6 hn (by omega)) rfl ku_En rfl 2 (by decide) t_En ty_En nm_En kf_En_22 rfl rfl (ty := .int) (by decide +kernel) rfl rfl (Nat.le_of_ble_eq_true rfl) rfl d_En_comeTo_11 ?_
    refine sr_aload_n G rfl d_En_comeTo_14 ?_
    refine sr_get G (vv_6 hn (by omega)) rfl ku_En rfl 0 (by decide) kf_En_9 rfl rfl d_En_comeTo_15 ?_
    refine sr_iload_n G rfl d_En_comeTo_18 ?_
    refine sr_iload_n G rfl d_En_comeTo_19 ?_
    refine sr_iast G (vv_7 hn (by omega)) (fun _ => rfl) (by assumption) d_En_comeTo_20 ?_
    refine sr_vret G d_En_comeTo_21 ?_
    unfold f_En_comeTo
    rw [if_neg h6]
    try rfl
def f_En_stepIn (M : Mem) (z : Nat) (x1 : Int32) : Int32 := (if x1 ≤ (M 7 z (Int32.toNatClampNeg 4)) then (if x1 ≤ (M 7 z (Int32.toNatClampNeg 3)) then (if x1 ≤ (M 7 z (Int32.toNatClampNeg 2)) then (if x1 ≤ (M 7 z (Int32.toNatClampNeg 1)) then 0 else 1) else 2) else 3) else 4)
set_option maxHeartbeats 4000000 in
set_option maxRecDepth 100000 in
theorem c_En_stepIn {l : Launch} {D : va_G} {t6 : Nat → ClassId} {b n : Nat} (hn : 104 ≤ n) {M : Mem} {z : Nat} {x1 : Int32} (hz : z < 8) : CI l D t6 b n y_En_stepIn cd_En_stepIn 3 .int (rk 0 0) [.ref (ad b 6 z), .int x1] M (f_En_stepIn M z x1) M := by
  refine en_i (by decide) (by simp [Value.category]) (Nat.le_of_ble_eq_true rfl) (fun p e s m below meth c G => ?_)
  refine sr_iconst G (v := 4) (by decide) d_En_stepIn_0 ?_
  refine sr_istore_n G (by decide) d_En_stepIn_1 ?_
  refine sr_iload_n G rfl d_En_stepIn_2 ?_
  refine sr_if_le G 24 d_En_stepIn_3 rfl (fun h => absurd h (by decide)) (fun _ => ?_)
  refine sr_aload_n G rfl d_En_stepIn_6 ?_
  refine sr_get G (vv_6 hn (by omega)) rfl ku_En rfl 0 (by decide) kf_En_9 rfl rfl d_En_stepIn_7 ?_
  refine sr_iload_n G rfl d_En_stepIn_10 ?_
  refine sr_iald G (vv_7 hn (by omega)) rfl (by unfold vp_in; decide) d_En_stepIn_11 ?_
  refine sr_iload_n G rfl d_En_stepIn_12 ?_
  refine sr_icmp_ge G 18 d_En_stepIn_13 rfl (fun h13 => ?_) (fun h13 => ?_)
  · skip
    refine sr_iinc G (v := 3) rfl (by decide) (by decide) d_En_stepIn_18 ?_
    refine sr_goto G 2 d_En_stepIn_21 rfl ?_
    refine sr_iload_n G rfl d_En_stepIn_2 ?_
    refine sr_if_le G 24 d_En_stepIn_3 rfl (fun h => absurd h (by decide)) (fun _ => ?_)
    refine sr_aload_n G rfl d_En_stepIn_6 ?_
    refine sr_get G (vv_6 hn (by omega)) rfl ku_En rfl 0 (by decide) kf_En_9 rfl rfl d_En_stepIn_7 ?_
    refine sr_iload_n G rfl d_En_stepIn_10 ?_
    refine sr_iald G (vv_7 hn (by omega)) rfl (by unfold vp_in; decide) d_En_stepIn_11 ?_
    refine sr_iload_n G rfl d_En_stepIn_12 ?_
    refine sr_icmp_ge G 18 d_En_stepIn_13 rfl (fun h13_2 => ?_) (fun h13_2 => ?_)
    · skip
      refine sr_iinc G (v := 2) rfl (by decide) (by decide) d_En_stepIn_18 ?_
      refine sr_goto G 2 d_En_stepIn_21 rfl ?_
      refine sr_iload_n G rfl d_En_stepIn_2 ?_
      refine sr_if_le G 24 d_En_stepIn_3 rfl (fun h => absurd h (by decide)) (fun _ => ?_)
      refine sr_aload_n G rfl d_En_stepIn_6 ?_
      refine sr_get G (vv_6 hn (by omega)) rfl ku_En rfl 0 (by decide) kf_En_9 rfl rfl d_En_stepIn_7 ?_
      refine sr_iload_n G rfl d_En_stepIn_10 ?_
      refine sr_iald G (vv_7 hn (by omega)) rfl (by unfold vp_in; decide) d_En_stepIn_11 ?_
      refine sr_iload_n G rfl d_En_stepIn_12 ?_
      refine sr_icmp_ge G 18 d_En_stepIn_13 rfl (fun h13_3 => ?_) (fun h13_3 => ?_)
      · skip
        refine sr_iinc G (v := 1) rfl (by decide) (by decide) d_En_stepIn_18 ?_
        refine sr_goto G 2 d_En_stepIn_21 rfl ?_
        refine sr_iload_n G rfl d_En_stepIn_2 ?_
        refine sr_if_le G 24 d_En_stepIn_3 rfl (fun h => absurd h (by decide)) (fun _ => ?_)
        refine sr_aload_n G rfl d_En_stepIn_6 ?_
        refine sr_get G (vv_6 hn (by omega)) rfl ku_En rfl 0 (by decide) kf_En_9 rfl rfl d_En_stepIn_7 ?_
        refine sr_iload_n G rfl d_En_stepIn_10 ?_
        refine sr_iald G (vv_7 hn (by omega)) rfl (by unfold vp_in; decide) d_En_stepIn_11 ?_
        refine sr_iload_n G rfl d_En_stepIn_12 ?_
        refine sr_icmp_ge G 18 d_En_stepIn_13 rfl (fun h13_4 => ?_) (fun h13_4 => ?_)
        · skip
          refine sr_iinc G (v := 0) rfl (by decide) (by decide) d_En_stepIn_18 ?_
          refine sr_goto G 2 d_En_stepIn_21 rfl ?_
          refine sr_iload_n G rfl d_En_stepIn_2 ?_
          refine sr_if_le G 24 d_En_stepIn_3 rfl (fun _ => ?_) (fun h => absurd (by decide) h)
          refine sr_iconst G (v := 0) (by decide) d_En_stepIn_24 ?_
          refine sr_iret G d_En_stepIn_25 ?_
          unfold f_En_stepIn
          rw [if_pos h13, if_pos h13_2, if_pos h13_3, if_pos h13_4]
          exact ⟨rfl, rfl⟩
        · skip
          refine sr_iload_n G rfl d_En_stepIn_16 ?_
          refine sr_iret G d_En_stepIn_17 ?_
          unfold f_En_stepIn
          rw [if_pos h13, if_pos h13_2, if_pos h13_3, if_neg h13_4]
          exact ⟨rfl, rfl⟩
      · skip
        refine sr_iload_n G rfl d_En_stepIn_16 ?_
        refine sr_iret G d_En_stepIn_17 ?_
        unfold f_En_stepIn
        rw [if_pos h13, if_pos h13_2, if_neg h13_3]
        exact ⟨rfl, rfl⟩
    · skip
      refine sr_iload_n G rfl d_En_stepIn_16 ?_
      refine sr_iret G d_En_stepIn_17 ?_
      unfold f_En_stepIn
      rw [if_pos h13, if_neg h13_2]
      exact ⟨rfl, rfl⟩
  · skip
    refine sr_iload_n G rfl d_En_stepIn_16 ?_
    refine sr_iret G d_En_stepIn_17 ?_
    unfold f_En_stepIn
    rw [if_neg h13]
    exact ⟨rfl, rfl⟩
def f_En_beginAnew (M : Mem) (z : Nat) : Mem := (u3 (u3 (u3 (u3 (u3 (u3 (fl_ (fl_ M 7 z 5 201) 8 z 4 0) 6 z 2 0) 6 z 3 0) 6 z 4 0) 6 z 5 0) 6 z 6 0) 6 z 7 0)
set_option maxHeartbeats 4000000 in
set_option maxRecDepth 100000 in
theorem c_En_beginAnew {l : Launch} {D : va_G} {t6 : Nat → ClassId} {b n : Nat} (hn : 104 ≤ n) {M : Mem} {z : Nat} (hz : z < 8) : CV l D t6 b n y_En_beginAnew cd_En_beginAnew 1  (rk 1 23) [.ref (ad b 6 z)] M (f_En_beginAnew M z) := by
  refine en_v (by decide) (by simp [Value.category]) (Nat.le_of_ble_eq_true rfl) (fun p e s m below meth c G => ?_)
  refine sr_aload_n G rfl d_En_beginAnew_0 ?_
  refine sr_get G (vv_6 hn (by omega)) rfl ku_En rfl 0 (by decide) kf_En_9 rfl rfl d_En_beginAnew_1 ?_
  refine sr_sipush G (v := 201) (by decide) d_En_beginAnew_4 ?_
  refine sr_csv G ks_Ar_fill (c_Ar_fill (kd := 7) (len := 5) (vv_7 hn (by omega)) (fun _ => rfl) (by decide)) kc_Ar_fill km_En_26 kn_Ar yy_Ar_fill rfl ⟨rfl, rfl, by decide, by decide⟩ (Nat.le_of_ble_eq_true rfl) rfl d_En_beginAnew_7 ?_
  refine sr_aload_n G rfl d_En_beginAnew_10 ?_
  refine sr_get G (vv_6 hn (by omega)) rfl ku_En rfl 1 (by decide) kf_En_15 rfl rfl d_En_beginAnew_11 ?_
  refine sr_iconst G (v := 0) (by decide) d_En_beginAnew_14 ?_
  refine sr_csv G ks_Ar_fill (c_Ar_fill (kd := 8) (len := 4) (vv_8 hn (by omega)) (fun _ => rfl) (by decide)) kc_Ar_fill km_En_26 kn_Ar yy_Ar_fill rfl ⟨rfl, rfl, by decide, by decide⟩ (Nat.le_of_ble_eq_true rfl) rfl d_En_beginAnew_15 ?_
  refine sr_aload_n G rfl d_En_beginAnew_18 ?_
  refine sr_iconst G (v := 0) (by decide) d_En_beginAnew_19 ?_
  refine sr_put G (vv_6 hn (by omega)) rfl ku_En rfl 2 (by decide) t_En ty_En nm_En kf_En_22 rfl rfl (ty := .int) (by decide +kernel) rfl rfl (Nat.le_of_ble_eq_true rfl) rfl d_En_beginAnew_20 ?_
  refine sr_aload_n G rfl d_En_beginAnew_23 ?_
  refine sr_iconst G (v := 0) (by decide) d_En_beginAnew_24 ?_
  refine sr_put G (vv_6 hn (by omega)) rfl ku_En rfl 3 (by decide) t_En ty_En nm_En kf_En_32 rfl rfl (ty := .int) (by decide +kernel) rfl rfl (Nat.le_of_ble_eq_true rfl) rfl d_En_beginAnew_25 ?_
  refine sr_aload_n G rfl d_En_beginAnew_28 ?_
  refine sr_iconst G (v := 0) (by decide) d_En_beginAnew_29 ?_
  refine sr_put G (vv_6 hn (by omega)) rfl ku_En rfl 4 (by decide) t_En ty_En nm_En kf_En_35 rfl rfl (ty := .int) (by decide +kernel) rfl rfl (Nat.le_of_ble_eq_true rfl) rfl d_En_beginAnew_30 ?_
  refine sr_aload_n G rfl d_En_beginAnew_33 ?_
  refine sr_iconst G (v := 0) (by decide) d_En_beginAnew_34 ?_
  refine sr_put G (vv_6 hn (by omega)) rfl ku_En rfl 5 (by decide) t_En ty_En nm_En kf_En_38 rfl rfl (ty := .int) (by decide +kernel) rfl rfl (Nat.le_of_ble_eq_true rfl) rfl d_En_beginAnew_35 ?_
  refine sr_aload_n G rfl d_En_beginAnew_38 ?_
  refine sr_iconst G (v := 0) (by decide) d_En_beginAnew_39 ?_
  refine sr_put G (vv_6 hn (by omega)) rfl ku_En rfl 6 (by decide) t_En ty_En nm_En kf_En_41 rfl rfl (ty := .int) (by decide +kernel) rfl rfl (Nat.le_of_ble_eq_true rfl) rfl d_En_beginAnew_40 ?_
  refine sr_aload_n G rfl d_En_beginAnew_43 ?_
  refine sr_iconst G (v := 0) (by decide) d_En_beginAnew_44 ?_
  refine sr_put G (vv_6 hn (by omega)) rfl ku_En rfl 7 (by decide) t_En ty_En nm_En kf_En_44 rfl rfl (ty := .int) (by decide +kernel) rfl rfl (Nat.le_of_ble_eq_true rfl) rfl d_En_beginAnew_45 ?_
  refine sr_vret G d_En_beginAnew_48 ?_
  unfold f_En_beginAnew
  rfl
def f_Me_beginToStand (M : Mem) (z : Nat) (x1 : Int32) : Mem := (u3 (u3 (u3 (u3 (u3 (u3 M 9 z 8 1) 9 z 9 0) 9 z 10 0) 9 z 11 x1) 9 z 12 201) 9 z 13 201)
set_option maxHeartbeats 4000000 in
set_option maxRecDepth 100000 in
theorem c_Me_beginToStand {l : Launch} {D : va_G} {t6 : Nat → ClassId} {b n : Nat} (hn : 104 ≤ n) {M : Mem} {z : Nat} {x1 : Int32} (hz : z < 60) : CV l D t6 b n y_Me_beginToStand cd_Me_beginToStand 2  (rk 0 0) [.ref (ad b 9 z), .int x1] M (f_Me_beginToStand M z x1) := by
  refine en_v (by decide) (by simp [Value.category]) (Nat.le_of_ble_eq_true rfl) (fun p e s m below meth c G => ?_)
  refine sr_aload_n G rfl d_Me_beginToStand_0 ?_
  refine sr_iconst G (v := 1) (by decide) d_Me_beginToStand_1 ?_
  refine sr_put G (vv_9 hn (by omega)) rfl ku_Me rfl 8 (by decide) t_Me ty_Me nm_Me kf_Me_9 rfl rfl (ty := .boolean) (by decide +kernel) (by decide) rfl (Nat.le_of_ble_eq_true rfl) rfl d_Me_beginToStand_2 ?_
  refine sr_aload_n G rfl d_Me_beginToStand_5 ?_
  refine sr_iconst G (v := 0) (by decide) d_Me_beginToStand_6 ?_
  refine sr_put G (vv_9 hn (by omega)) rfl ku_Me rfl 9 (by decide) t_Me ty_Me nm_Me kf_Me_15 rfl rfl (ty := .boolean) (by decide +kernel) (by decide) rfl (Nat.le_of_ble_eq_true rfl) rfl d_Me_beginToStand_7 ?_
  refine sr_aload_n G rfl d_Me_beginToStand_10 ?_
  refine sr_iconst G (v := 0) (by decide) d_Me_beginToStand_11 ?_
  refine sr_put G (vv_9 hn (by omega)) rfl ku_Me rfl 10 (by decide) t_Me ty_Me nm_Me kf_Me_18 rfl rfl (ty := .int) (by decide +kernel) rfl rfl (Nat.le_of_ble_eq_true rfl) rfl d_Me_beginToStand_12 ?_
  refine sr_aload_n G rfl d_Me_beginToStand_15 ?_
  refine sr_iload_n G rfl d_Me_beginToStand_16 ?_
  refine sr_put G (vv_9 hn (by omega)) rfl ku_Me rfl 11 (by decide) t_Me ty_Me nm_Me kf_Me_22 rfl rfl (ty := .int) (by decide +kernel) rfl rfl (Nat.le_of_ble_eq_true rfl) rfl d_Me_beginToStand_17 ?_
  refine sr_aload_n G rfl d_Me_beginToStand_20 ?_
  refine sr_sipush G (v := 201) (by decide) d_Me_beginToStand_21 ?_
  refine sr_put G (vv_9 hn (by omega)) rfl ku_Me rfl 12 (by decide) t_Me ty_Me nm_Me kf_Me_25 rfl rfl (ty := .int) (by decide +kernel) rfl rfl (Nat.le_of_ble_eq_true rfl) rfl d_Me_beginToStand_24 ?_
  refine sr_aload_n G rfl d_Me_beginToStand_27 ?_
  refine sr_sipush G (v := 201) (by decide) d_Me_beginToStand_28 ?_
  refine sr_put G (vv_9 hn (by omega)) rfl ku_Me rfl 13 (by decide) t_Me ty_Me nm_Me kf_Me_28 rfl rfl (ty := .int) (by decide +kernel) rfl rfl (Nat.le_of_ble_eq_true rfl) rfl d_Me_beginToStand_31 ?_
  refine sr_vret G d_Me_beginToStand_34 ?_
  unfold f_Me_beginToStand
  rfl
def f_Me_isOfSameEnd (M : Mem) (z : Nat) (x1 : Nat) : Int32 := (if (M 9 z 0) = (M 9 x1 0) then (if (M 9 z 1) = (M 9 x1 1) then 1 else 0) else 0)
set_option maxHeartbeats 4000000 in
set_option maxRecDepth 100000 in
theorem c_Me_isOfSameEnd {l : Launch} {D : va_G} {t6 : Nat → ClassId} {b n : Nat} (hn : 104 ≤ n) {M : Mem} {z : Nat} {x1 : Nat} (hz : z < 60) (hy : x1 < 60) : CI l D t6 b n y_Me_isOfSameEnd cd_Me_isOfSameEnd 2 .boolean (rk 0 0) [.ref (ad b 9 z), .ref (ad b 9 x1)] M (f_Me_isOfSameEnd M z x1) M := by
  refine en_i (by decide) (by simp [Value.category]) (Nat.le_of_ble_eq_true rfl) (fun p e s m below meth c G => ?_)
  refine sr_aload_n G rfl d_Me_isOfSameEnd_0 ?_
  refine sr_get G (vv_9 hn (by omega)) rfl ku_Me rfl 0 (by decide) kf_Me_31 rfl rfl d_Me_isOfSameEnd_1 ?_
  refine sr_aload_n G rfl d_Me_isOfSameEnd_4 ?_
  refine sr_get G (vv_9 hn (by omega)) rfl ku_Me rfl 0 (by decide) kf_Me_31 rfl rfl d_Me_isOfSameEnd_5 ?_
  refine sr_icmp_ne G 26 d_Me_isOfSameEnd_8 rfl (fun h8 => ?_) (fun h8 => ?_)
  · skip
    refine sr_iconst G (v := 0) (by decide) d_Me_isOfSameEnd_26 ?_
    refine sr_zret G (by decide) d_Me_isOfSameEnd_27 ?_
    unfold f_Me_isOfSameEnd
    rw [if_neg h8]
    exact ⟨rfl, rfl⟩
  · skip
    refine sr_aload_n G rfl d_Me_isOfSameEnd_11 ?_
    refine sr_get G (vv_9 hn (by omega)) rfl ku_Me rfl 1 (by decide) kf_Me_34 rfl rfl d_Me_isOfSameEnd_12 ?_
    refine sr_aload_n G rfl d_Me_isOfSameEnd_15 ?_
    refine sr_get G (vv_9 hn (by omega)) rfl ku_Me rfl 1 (by decide) kf_Me_34 rfl rfl d_Me_isOfSameEnd_16 ?_
    refine sr_icmp_ne G 26 d_Me_isOfSameEnd_19 rfl (fun h19 => ?_) (fun h19 => ?_)
    · skip
      refine sr_iconst G (v := 0) (by decide) d_Me_isOfSameEnd_26 ?_
      refine sr_zret G (by decide) d_Me_isOfSameEnd_27 ?_
      unfold f_Me_isOfSameEnd
      rw [if_pos h8, if_neg h19]
      exact ⟨rfl, rfl⟩
    · skip
      refine sr_iconst G (v := 1) (by decide) d_Me_isOfSameEnd_22 ?_
      refine sr_goto G 27 d_Me_isOfSameEnd_23 rfl ?_
      refine sr_zret G (by decide) d_Me_isOfSameEnd_27 ?_
      unfold f_Me_isOfSameEnd
      rw [if_pos h8, if_pos h19]
      exact ⟨rfl, rfl⟩
def f_Me_standsIn (M : Mem) (z : Nat) (x1 : Int32) : Int32 := (if x1 ≤ (M 9 z 11) then 0 else (if (M 9 z 12) < x1 then 0 else 1))
set_option maxHeartbeats 4000000 in
set_option maxRecDepth 100000 in
theorem c_Me_standsIn {l : Launch} {D : va_G} {t6 : Nat → ClassId} {b n : Nat} (hn : 104 ≤ n) {M : Mem} {z : Nat} {x1 : Int32} (hz : z < 60) : CI l D t6 b n y_Me_standsIn cd_Me_standsIn 2 .boolean (rk 0 0) [.ref (ad b 9 z), .int x1] M (f_Me_standsIn M z x1) M := by
  refine en_i (by decide) (by simp [Value.category]) (Nat.le_of_ble_eq_true rfl) (fun p e s m below meth c G => ?_)
  refine sr_aload_n G rfl d_Me_standsIn_0 ?_
  refine sr_get G (vv_9 hn (by omega)) rfl ku_Me rfl 11 (by decide) kf_Me_22 rfl rfl d_Me_standsIn_1 ?_
  refine sr_iload_n G rfl d_Me_standsIn_4 ?_
  refine sr_icmp_ge G 20 d_Me_standsIn_5 rfl (fun h5 => ?_) (fun h5 => ?_)
  · skip
    refine sr_iconst G (v := 0) (by decide) d_Me_standsIn_20 ?_
    refine sr_zret G (by decide) d_Me_standsIn_21 ?_
    unfold f_Me_standsIn
    rw [if_pos h5]
    exact ⟨rfl, rfl⟩
  · skip
    refine sr_iload_n G rfl d_Me_standsIn_8 ?_
    refine sr_aload_n G rfl d_Me_standsIn_9 ?_
    refine sr_get G (vv_9 hn (by omega)) rfl ku_Me rfl 12 (by decide) kf_Me_25 rfl rfl d_Me_standsIn_10 ?_
    refine sr_icmp_gt G 20 d_Me_standsIn_13 rfl (fun h13 => ?_) (fun h13 => ?_)
    · skip
      refine sr_iconst G (v := 0) (by decide) d_Me_standsIn_20 ?_
      refine sr_zret G (by decide) d_Me_standsIn_21 ?_
      unfold f_Me_standsIn
      rw [if_neg h5, if_pos h13]
      exact ⟨rfl, rfl⟩
    · skip
      refine sr_iconst G (v := 1) (by decide) d_Me_standsIn_16 ?_
      refine sr_goto G 21 d_Me_standsIn_17 rfl ?_
      refine sr_zret G (by decide) d_Me_standsIn_21 ?_
      unfold f_Me_standsIn
      rw [if_neg h5, if_neg h13]
      exact ⟨rfl, rfl⟩
def f_Me_isReceivedIn (M : Mem) (z : Nat) (x1 : Int32) : Int32 := (if x1 ≤ (M 9 z 13) then 0 else 1)
set_option maxHeartbeats 4000000 in
set_option maxRecDepth 100000 in
theorem c_Me_isReceivedIn {l : Launch} {D : va_G} {t6 : Nat → ClassId} {b n : Nat} (hn : 104 ≤ n) {M : Mem} {z : Nat} {x1 : Int32} (hz : z < 60) : CI l D t6 b n y_Me_isReceivedIn cd_Me_isReceivedIn 2 .boolean (rk 0 0) [.ref (ad b 9 z), .int x1] M (f_Me_isReceivedIn M z x1) M := by
  refine en_i (by decide) (by simp [Value.category]) (Nat.le_of_ble_eq_true rfl) (fun p e s m below meth c G => ?_)
  refine sr_aload_n G rfl d_Me_isReceivedIn_0 ?_
  refine sr_get G (vv_9 hn (by omega)) rfl ku_Me rfl 13 (by decide) kf_Me_28 rfl rfl d_Me_isReceivedIn_1 ?_
  refine sr_iload_n G rfl d_Me_isReceivedIn_4 ?_
  refine sr_icmp_ge G 12 d_Me_isReceivedIn_5 rfl (fun h5 => ?_) (fun h5 => ?_)
  · skip
    refine sr_iconst G (v := 0) (by decide) d_Me_isReceivedIn_12 ?_
    refine sr_zret G (by decide) d_Me_isReceivedIn_13 ?_
    unfold f_Me_isReceivedIn
    rw [if_pos h5]
    exact ⟨rfl, rfl⟩
  · skip
    refine sr_iconst G (v := 1) (by decide) d_Me_isReceivedIn_8 ?_
    refine sr_goto G 13 d_Me_isReceivedIn_9 rfl ?_
    refine sr_zret G (by decide) d_Me_isReceivedIn_13 ?_
    unfold f_Me_isReceivedIn
    rw [if_neg h5]
    exact ⟨rfl, rfl⟩
end
section
def f_B_total_2 (M : Mem) (z : Nat) : Int32 := 0 + M 2 z (Int32.toNatClampNeg 0) + M 2 z (Int32.toNatClampNeg 1) + M 2 z (Int32.toNatClampNeg 2) + M 2 z (Int32.toNatClampNeg 3)
set_option maxHeartbeats 4000000 in
set_option maxRecDepth 100000 in
theorem c_B_total_2 {l : Launch} {D : va_G} {t6 : Nat → ClassId} {b n : Nat} (hn : 104 ≤ n) {M : Mem} {z : Nat} (hz : z < 2) : CI l D t6 b n y_B_total cd_B_total 3 .int (rk 0 0) [.ref (ad b 2 z)] M (f_B_total_2 M z) M := by
  refine en_i (by decide) (by simp [Value.category]) (Nat.le_of_ble_eq_true rfl) (fun p e s m below meth c G => ?_)
  refine sr_iconst G (v := 0) (by decide) d_B_total_0 ?_
  refine sr_istore_n G (by decide) d_B_total_1 ?_
  refine sr_iconst G (v := 0) (by decide) d_B_total_2 ?_
  refine sr_istore_n G (by decide) d_B_total_3 ?_
  refine sr_iload_n G rfl d_B_total_4 ?_
  refine sr_aload_n G rfl d_B_total_5 ?_
  refine sr_alen G (vv_2 hn (by omega)) rfl rfl (v := 4) (by decide) d_B_total_6 ?_
  refine sr_icmp_ge G 22 d_B_total_7 rfl (fun h => absurd h (by decide)) (fun _ => ?_)
  refine sr_iload_n G rfl d_B_total_10 ?_
  refine sr_aload_n G rfl d_B_total_11 ?_
  refine sr_iload_n G rfl d_B_total_12 ?_
  refine sr_iald G (vv_2 hn (by omega)) rfl (by unfold vp_in; decide) d_B_total_13 ?_
  refine sr_iadd G d_B_total_14 ?_
  refine sr_istore_n G (by decide) d_B_total_15 ?_
  refine sr_iinc G (v := 1) rfl (by decide) (by decide) d_B_total_16 ?_
  refine sr_goto G 4 d_B_total_19 rfl ?_
  refine sr_iload_n G rfl d_B_total_4 ?_
  refine sr_aload_n G rfl d_B_total_5 ?_
  refine sr_alen G (vv_2 hn (by omega)) rfl rfl (v := 4) (by decide) d_B_total_6 ?_
  refine sr_icmp_ge G 22 d_B_total_7 rfl (fun h => absurd h (by decide)) (fun _ => ?_)
  refine sr_iload_n G rfl d_B_total_10 ?_
  refine sr_aload_n G rfl d_B_total_11 ?_
  refine sr_iload_n G rfl d_B_total_12 ?_
  refine sr_iald G (vv_2 hn (by omega)) rfl (by unfold vp_in; decide) d_B_total_13 ?_
  refine sr_iadd G d_B_total_14 ?_
  refine sr_istore_n G (by decide) d_B_total_15 ?_
  refine sr_iinc G (v := 2) rfl (by decide) (by decide) d_B_total_16 ?_
  refine sr_goto G 4 d_B_total_19 rfl ?_
  refine sr_iload_n G rfl d_B_total_4 ?_
  refine sr_aload_n G rfl d_B_total_5 ?_
  refine sr_alen G (vv_2 hn (by omega)) rfl rfl (v := 4) (by decide) d_B_total_6 ?_
  refine sr_icmp_ge G 22 d_B_total_7 rfl (fun h => absurd h (by decide)) (fun _ => ?_)
  refine sr_iload_n G rfl d_B_total_10 ?_
  refine sr_aload_n G rfl d_B_total_11 ?_
  refine sr_iload_n G rfl d_B_total_12 ?_
  refine sr_iald G (vv_2 hn (by omega)) rfl (by unfold vp_in; decide) d_B_total_13 ?_
  refine sr_iadd G d_B_total_14 ?_
  refine sr_istore_n G (by decide) d_B_total_15 ?_
  refine sr_iinc G (v := 3) rfl (by decide) (by decide) d_B_total_16 ?_
  refine sr_goto G 4 d_B_total_19 rfl ?_
  refine sr_iload_n G rfl d_B_total_4 ?_
  refine sr_aload_n G rfl d_B_total_5 ?_
  refine sr_alen G (vv_2 hn (by omega)) rfl rfl (v := 4) (by decide) d_B_total_6 ?_
  refine sr_icmp_ge G 22 d_B_total_7 rfl (fun h => absurd h (by decide)) (fun _ => ?_)
  refine sr_iload_n G rfl d_B_total_10 ?_
  refine sr_aload_n G rfl d_B_total_11 ?_
  refine sr_iload_n G rfl d_B_total_12 ?_
  refine sr_iald G (vv_2 hn (by omega)) rfl (by unfold vp_in; decide) d_B_total_13 ?_
  refine sr_iadd G d_B_total_14 ?_
  refine sr_istore_n G (by decide) d_B_total_15 ?_
  refine sr_iinc G (v := 4) rfl (by decide) (by decide) d_B_total_16 ?_
  refine sr_goto G 4 d_B_total_19 rfl ?_
  refine sr_iload_n G rfl d_B_total_4 ?_
  refine sr_aload_n G rfl d_B_total_5 ?_
  refine sr_alen G (vv_2 hn (by omega)) rfl rfl (v := 4) (by decide) d_B_total_6 ?_
  refine sr_icmp_ge G 22 d_B_total_7 rfl (fun _ => ?_) (fun h => absurd (by decide) h)
  refine sr_iload_n G rfl d_B_total_22 ?_
  refine sr_iret G d_B_total_23 ?_
  unfold f_B_total_2
  exact ⟨rfl, rfl⟩
def f_B_total_8 (M : Mem) (z : Nat) : Int32 := 0 + M 8 z (Int32.toNatClampNeg 0) + M 8 z (Int32.toNatClampNeg 1) + M 8 z (Int32.toNatClampNeg 2) + M 8 z (Int32.toNatClampNeg 3)
set_option maxHeartbeats 4000000 in
set_option maxRecDepth 100000 in
theorem c_B_total_8 {l : Launch} {D : va_G} {t6 : Nat → ClassId} {b n : Nat} (hn : 104 ≤ n) {M : Mem} {z : Nat} (hz : z < 8) : CI l D t6 b n y_B_total cd_B_total 3 .int (rk 0 0) [.ref (ad b 8 z)] M (f_B_total_8 M z) M := by
  refine en_i (by decide) (by simp [Value.category]) (Nat.le_of_ble_eq_true rfl) (fun p e s m below meth c G => ?_)
  refine sr_iconst G (v := 0) (by decide) d_B_total_0 ?_
  refine sr_istore_n G (by decide) d_B_total_1 ?_
  refine sr_iconst G (v := 0) (by decide) d_B_total_2 ?_
  refine sr_istore_n G (by decide) d_B_total_3 ?_
  refine sr_iload_n G rfl d_B_total_4 ?_
  refine sr_aload_n G rfl d_B_total_5 ?_
  refine sr_alen G (vv_8 hn (by omega)) rfl rfl (v := 4) (by decide) d_B_total_6 ?_
  refine sr_icmp_ge G 22 d_B_total_7 rfl (fun h => absurd h (by decide)) (fun _ => ?_)
  refine sr_iload_n G rfl d_B_total_10 ?_
  refine sr_aload_n G rfl d_B_total_11 ?_
  refine sr_iload_n G rfl d_B_total_12 ?_
  refine sr_iald G (vv_8 hn (by omega)) rfl (by unfold vp_in; decide) d_B_total_13 ?_
  refine sr_iadd G d_B_total_14 ?_
  refine sr_istore_n G (by decide) d_B_total_15 ?_
  refine sr_iinc G (v := 1) rfl (by decide) (by decide) d_B_total_16 ?_
  refine sr_goto G 4 d_B_total_19 rfl ?_
  refine sr_iload_n G rfl d_B_total_4 ?_
  refine sr_aload_n G rfl d_B_total_5 ?_
  refine sr_alen G (vv_8 hn (by omega)) rfl rfl (v := 4) (by decide) d_B_total_6 ?_
  refine sr_icmp_ge G 22 d_B_total_7 rfl (fun h => absurd h (by decide)) (fun _ => ?_)
  refine sr_iload_n G rfl d_B_total_10 ?_
  refine sr_aload_n G rfl d_B_total_11 ?_
  refine sr_iload_n G rfl d_B_total_12 ?_
  refine sr_iald G (vv_8 hn (by omega)) rfl (by unfold vp_in; decide) d_B_total_13 ?_
  refine sr_iadd G d_B_total_14 ?_
  refine sr_istore_n G (by decide) d_B_total_15 ?_
  refine sr_iinc G (v := 2) rfl (by decide) (by decide) d_B_total_16 ?_
  refine sr_goto G 4 d_B_total_19 rfl ?_
  refine sr_iload_n G rfl d_B_total_4 ?_
  refine sr_aload_n G rfl d_B_total_5 ?_
  refine sr_alen G (vv_8 hn (by omega)) rfl rfl (v := 4) (by decide) d_B_total_6 ?_
  refine sr_icmp_ge G 22 d_B_total_7 rfl (fun h => absurd h (by decide)) (fun _ => ?_)
  refine sr_iload_n G rfl d_B_total_10 ?_
  refine sr_aload_n G rfl d_B_total_11 ?_
  refine sr_iload_n G rfl d_B_total_12 ?_
  refine sr_iald G (vv_8 hn (by omega)) rfl (by unfold vp_in; decide) d_B_total_13 ?_
  refine sr_iadd G d_B_total_14 ?_
  refine sr_istore_n G (by decide) d_B_total_15 ?_
  refine sr_iinc G (v := 3) rfl (by decide) (by decide) d_B_total_16 ?_
  refine sr_goto G 4 d_B_total_19 rfl ?_
  refine sr_iload_n G rfl d_B_total_4 ?_
  refine sr_aload_n G rfl d_B_total_5 ?_
  refine sr_alen G (vv_8 hn (by omega)) rfl rfl (v := 4) (by decide) d_B_total_6 ?_
  refine sr_icmp_ge G 22 d_B_total_7 rfl (fun h => absurd h (by decide)) (fun _ => ?_)
  refine sr_iload_n G rfl d_B_total_10 ?_
  refine sr_aload_n G rfl d_B_total_11 ?_
  refine sr_iload_n G rfl d_B_total_12 ?_
  refine sr_iald G (vv_8 hn (by omega)) rfl (by unfold vp_in; decide) d_B_total_13 ?_
  refine sr_iadd G d_B_total_14 ?_
  refine sr_istore_n G (by decide) d_B_total_15 ?_
  refine sr_iinc G (v := 4) rfl (by decide) (by decide) d_B_total_16 ?_
  refine sr_goto G 4 d_B_total_19 rfl ?_
  refine sr_iload_n G rfl d_B_total_4 ?_
  refine sr_aload_n G rfl d_B_total_5 ?_
  refine sr_alen G (vv_8 hn (by omega)) rfl rfl (v := 4) (by decide) d_B_total_6 ?_
  refine sr_icmp_ge G 22 d_B_total_7 rfl (fun _ => ?_) (fun h => absurd (by decide) h)
  refine sr_iload_n G rfl d_B_total_22 ?_
  refine sr_iret G d_B_total_23 ?_
  unfold f_B_total_8
  exact ⟨rfl, rfl⟩
def f_B_refusalOfStep (M : Mem) (x1 : Int32) (x2 : Int32) (x3 : Int32) (x4 : Int32) (x5 : Int32) : Int32 := (if (M 6 (2 * (Int32.toNatClampNeg x1) + Int32.toNatClampNeg x2) 2) = x3 then (if (f_Cl_refusal M (Int32.toNatClampNeg x2) x5) = 0 then (if (f_En_stepIn M (2 * (Int32.toNatClampNeg x1) + Int32.toNatClampNeg (1 - x2)) x5) = x4 then 0 else (-6)) else (f_Cl_refusal M (Int32.toNatClampNeg x2) x5)) else (-3))
set_option maxHeartbeats 4000000 in
set_option maxRecDepth 100000 in
theorem c_B_refusalOfStep {l : Launch} {D : va_G} {t6 : Nat → ClassId} {b n : Nat} (hn : 104 ≤ n) {M : Mem} {x1 : Int32} {x2 : Int32} {x3 : Int32} {x4 : Int32} {x5 : Int32} (v1 : vp_in x1 4) (v2 : vp_in x2 2) : CI l D t6 b n y_B_refusalOfStep cd_B_refusalOfStep 8 .int (rk 4 86) [.ref (ad b 0 0), .int x1, .int x2, .int x3, .int x4, .int x5] M (f_B_refusalOfStep M x1 x2 x3 x4 x5) M := by
  refine en_i (by decide) (by simp [Value.category]) (Nat.le_of_ble_eq_true rfl) (fun p e s m below meth c G => ?_)
  have i1 := ix_lt v1
  have i2 := ix_lt v2
  have w2 := in_1 v2
  have j2 := ix_lt w2
  refine sr_aload_n G rfl d_B_refusalOfStep_0 ?_
  refine sr_get G (vv_0 hn) rfl ku_B rfl 1 (by decide) kf_B_17 rfl rfl d_B_refusalOfStep_1 ?_
  refine sr_iload_n G rfl d_B_refusalOfStep_4 ?_
  refine sr_aald G (vv_11 hn) rfl rfl (by assumption) d_B_refusalOfStep_5 ?_
  refine sr_getN G (vv_5 hn (by omega)) rfl ku_Ch rfl 0 (by decide) kf_B_89 rfl rfl d_B_refusalOfStep_6 ?_
  refine sr_astore G (by decide) d_B_refusalOfStep_9 ?_
  refine sr_aload G rfl d_B_refusalOfStep_11 ?_
  refine sr_iload_n G rfl d_B_refusalOfStep_13 ?_
  refine sr_aald G (vv_13 hn (by omega)) rfl rfl (by assumption) d_B_refusalOfStep_14 ?_
  refine sr_getN G (vv_6 hn (by omega)) rfl ku_En rfl 2 (by decide) kf_B_114 rfl rfl d_B_refusalOfStep_15 ?_
  refine sr_iload_n G rfl d_B_refusalOfStep_18 ?_
  refine sr_icmp_eq G 25 d_B_refusalOfStep_19 rfl (fun h19 => ?_) (fun h19 => ?_)
  · skip
    refine sr_aload_n G rfl d_B_refusalOfStep_25 ?_
    refine sr_get G (vv_0 hn) rfl ku_B rfl 0 (by decide) kf_B_11 rfl rfl d_B_refusalOfStep_26 ?_
    refine sr_iload_n G rfl d_B_refusalOfStep_29 ?_
    refine sr_aald G (vv_10 hn) rfl rfl (by assumption) d_B_refusalOfStep_30 ?_
    refine sr_getN G (vv_1 hn (by omega)) rfl ku_Le rfl 1 (by decide) kf_B_45 rfl rfl d_B_refusalOfStep_31 ?_
    refine sr_iload G rfl d_B_refusalOfStep_34 ?_
    refine sr_cvNi G (vv_3 hn (by omega)) rfl rfl ki_Cl_refusal kx_Cl_refusal (c_Cl_refusal hn (by first | assumption | omega | decide)) kc_Cl_refusal km_B_150 kn_Cl yy_Cl_refusal rfl ⟨rfl, rfl, by decide, by decide⟩ (Nat.le_of_ble_eq_true rfl) rfl d_B_refusalOfStep_36 ?_
    refine sr_istore G (by decide) d_B_refusalOfStep_39 ?_
    refine sr_iload G rfl d_B_refusalOfStep_41 ?_
    refine sr_if_eq G 49 d_B_refusalOfStep_43 rfl (fun h43 => ?_) (fun h43 => ?_)
    · skip
      refine sr_aload G rfl d_B_refusalOfStep_49 ?_
      refine sr_iconst G (v := 1) (by decide) d_B_refusalOfStep_51 ?_
      refine sr_iload_n G rfl d_B_refusalOfStep_52 ?_
      refine sr_isub G d_B_refusalOfStep_53 ?_
      refine sr_aald G (vv_13 hn (by omega)) rfl rfl (by assumption) d_B_refusalOfStep_54 ?_
      refine sr_iload G rfl d_B_refusalOfStep_55 ?_
      refine sr_cvNi G (vv_6 hn (by omega)) rfl rfl ki_En_stepIn kx_En_stepIn (c_En_stepIn hn (by first | assumption | omega | decide)) kc_En_stepIn km_B_203 kn_En yy_En_stepIn rfl ⟨rfl, rfl, by decide, by decide⟩ (Nat.le_of_ble_eq_true rfl) rfl d_B_refusalOfStep_57 ?_
      refine sr_iload G rfl d_B_refusalOfStep_60 ?_
      refine sr_icmp_ne G 69 d_B_refusalOfStep_62 rfl (fun h62 => ?_) (fun h62 => ?_)
      · skip
        refine sr_bipush G (v := (-6)) (by decide) d_B_refusalOfStep_69 ?_
        refine sr_iret G d_B_refusalOfStep_71 ?_
        unfold f_B_refusalOfStep
        rw [if_pos h19, if_pos h43, if_neg h62]
        exact ⟨rfl, rfl⟩
      · skip
        refine sr_iconst G (v := 0) (by decide) d_B_refusalOfStep_65 ?_
        refine sr_goto G 71 d_B_refusalOfStep_66 rfl ?_
        refine sr_iret G d_B_refusalOfStep_71 ?_
        unfold f_B_refusalOfStep
        rw [if_pos h19, if_pos h43, if_pos h62]
        exact ⟨rfl, rfl⟩
    · skip
      refine sr_iload G rfl d_B_refusalOfStep_46 ?_
      refine sr_iret G d_B_refusalOfStep_48 ?_
      unfold f_B_refusalOfStep
      rw [if_pos h19, if_neg h43]
      exact ⟨rfl, rfl⟩
  · skip
    refine sr_bipush G (v := (-3)) (by decide) d_B_refusalOfStep_22 ?_
    refine sr_iret G d_B_refusalOfStep_24 ?_
    unfold f_B_refusalOfStep
    rw [if_neg h19]
    exact ⟨rfl, rfl⟩
theorem ci_mg {M : Mem} (h : ci_ M) {i : Nat} (hi : i < 60) : vp_in (M 9 i 0) 4 ∧ vp_in (M 9 i 1) 2 ∧ vp_in (M 9 i 3) 4 := h.2.2.2 i hi
def f_B_refusalAtSender (M : Mem) (x1 : Nat) (x2 : Int32) : Int32 := (if (M 9 x1 8) = 0 then (-3) else (f_Cl_refusal M (Int32.toNatClampNeg (M 9 x1 1)) x2))
set_option maxHeartbeats 4000000 in
set_option maxRecDepth 100000 in
theorem c_B_refusalAtSender {l : Launch} {D : va_G} {t6 : Nat → ClassId} {b n : Nat} (hn : 104 ≤ n) {M : Mem} {x1 : Nat} {x2 : Int32} (hz : x1 < 60) (hI : ci_ M) : CI l D t6 b n y_B_refusalAtSender cd_B_refusalAtSender 3 .int (rk 4 86) [.ref (ad b 0 0), .ref (ad b 9 x1), .int x2] M (f_B_refusalAtSender M x1 x2) M := by
  refine en_i (by decide) (by simp [Value.category]) (Nat.le_of_ble_eq_true rfl) (fun p e s m below meth c G => ?_)
  obtain ⟨m0, m1, m3⟩ := ci_mg hI hz
  have n0 := ix_lt m0
  have n1 := ix_lt m1
  have n3 := ix_lt m3
  have o1 := in_1 m1
  have q1 := ix_lt o1
  refine sr_aload_n G rfl d_B_refusalAtSender_0 ?_
  refine sr_getN G (vv_9 hn (by omega)) rfl ku_Me rfl 8 (by decide) kf_B_212 rfl rfl d_B_refusalAtSender_1 ?_
  refine sr_if_ne G 10 d_B_refusalAtSender_4 rfl (fun h4 => ?_) (fun h4 => ?_)
  · skip
    refine sr_aload_n G rfl d_B_refusalAtSender_10 ?_
    refine sr_get G (vv_0 hn) rfl ku_B rfl 0 (by decide) kf_B_11 rfl rfl d_B_refusalAtSender_11 ?_
    refine sr_aload_n G rfl d_B_refusalAtSender_14 ?_
    refine sr_getN G (vv_9 hn (by omega)) rfl ku_Me rfl 1 (by decide) kf_B_141 rfl rfl d_B_refusalAtSender_15 ?_
    refine sr_aald G (vv_10 hn) rfl rfl (by assumption) d_B_refusalAtSender_18 ?_
    refine sr_getN G (vv_1 hn (by omega)) rfl ku_Le rfl 1 (by decide) kf_B_45 rfl rfl d_B_refusalAtSender_19 ?_
    refine sr_iload_n G rfl d_B_refusalAtSender_22 ?_
    refine sr_cvNi G (vv_3 hn (by omega)) rfl rfl ki_Cl_refusal kx_Cl_refusal (c_Cl_refusal hn (by first | assumption | omega | decide)) kc_Cl_refusal km_B_150 kn_Cl yy_Cl_refusal rfl ⟨rfl, rfl, by decide, by decide⟩ (Nat.le_of_ble_eq_true rfl) rfl d_B_refusalAtSender_23 ?_
    refine sr_iret G d_B_refusalAtSender_26 ?_
    unfold f_B_refusalAtSender
    rw [if_neg h4]
    exact ⟨rfl, rfl⟩
  · skip
    refine sr_bipush G (v := (-3)) (by decide) d_B_refusalAtSender_7 ?_
    refine sr_iret G d_B_refusalAtSender_9 ?_
    unfold f_B_refusalAtSender
    rw [if_pos h4]
    exact ⟨rfl, rfl⟩
set_option maxHeartbeats 4000000 in
set_option maxRecDepth 100000 in
theorem c_B_purse_h {l : Launch} {D : va_G} {t6 : Nat → ClassId} {b n : Nat} (hn : 104 ≤ n) {M : Mem} {x1 x2 x3 : Int32} (v1 : vp_in x1 4) (v2 : vp_in x2 2) (h0 : x3 = x2) : CA l D t6 b n y_B_purse cd_B_purse 4 (.array .int) (rk 0 0) [.ref (ad b 0 0), .int x1, .int x2, .int x3] M (ad b 2 (Int32.toNatClampNeg x2)) M := by
  refine en_a (by decide) (by simp [Value.category]) (Nat.le_of_ble_eq_true rfl) (fun p e s m below meth c G => ?_)
  have i1 := ix_lt v1
  have i2 := ix_lt v2
  have w2 := in_1 v2
  have j2 := ix_lt w2
  refine sr_iload_n G rfl d_B_purse_0 ?_
  refine sr_iload_n G rfl d_B_purse_1 ?_
  refine sr_icmp_ne G 17 d_B_purse_2 rfl (fun h => absurd h0 h) (fun _ => ?_)
  refine sr_aload_n G rfl d_B_purse_5 ?_
  refine sr_get G (vv_0 hn) rfl ku_B rfl 0 (by decide) kf_B_11 rfl rfl d_B_purse_6 ?_
  refine sr_iload_n G rfl d_B_purse_9 ?_
  refine sr_aald G (vv_10 hn) rfl rfl (by assumption) d_B_purse_10 ?_
  refine sr_getN G (vv_1 hn (by omega)) rfl ku_Le rfl 0 (by decide) kf_B_218 rfl rfl d_B_purse_11 ?_
  refine sr_goto G 31 d_B_purse_14 rfl ?_
  refine sr_aret G d_B_purse_31 ?_
  exact ⟨rfl, rfl⟩
set_option maxHeartbeats 4000000 in
set_option maxRecDepth 100000 in
theorem c_B_purse_o {l : Launch} {D : va_G} {t6 : Nat → ClassId} {b n : Nat} (hn : 104 ≤ n) {M : Mem} {x1 x2 x3 : Int32} (v1 : vp_in x1 4) (v2 : vp_in x2 2) (h0 : ¬ x3 = x2) : CA l D t6 b n y_B_purse cd_B_purse 4 (.array .int) (rk 0 0) [.ref (ad b 0 0), .int x1, .int x2, .int x3] M (ad b 8 (2 * Int32.toNatClampNeg x1 + Int32.toNatClampNeg x2)) M := by
  refine en_a (by decide) (by simp [Value.category]) (Nat.le_of_ble_eq_true rfl) (fun p e s m below meth c G => ?_)
  have i1 := ix_lt v1
  have i2 := ix_lt v2
  have w2 := in_1 v2
  have j2 := ix_lt w2
  refine sr_iload_n G rfl d_B_purse_0 ?_
  refine sr_iload_n G rfl d_B_purse_1 ?_
  refine sr_icmp_ne G 17 d_B_purse_2 rfl (fun _ => ?_) (fun h => absurd h h0)
  refine sr_aload_n G rfl d_B_purse_17 ?_
  refine sr_get G (vv_0 hn) rfl ku_B rfl 1 (by decide) kf_B_17 rfl rfl d_B_purse_18 ?_
  refine sr_iload_n G rfl d_B_purse_21 ?_
  refine sr_aald G (vv_11 hn) rfl rfl (by assumption) d_B_purse_22 ?_
  refine sr_getN G (vv_5 hn (by omega)) rfl ku_Ch rfl 0 (by decide) kf_B_89 rfl rfl d_B_purse_23 ?_
  refine sr_iload_n G rfl d_B_purse_26 ?_
  refine sr_aald G (vv_13 hn (by omega)) rfl rfl (by assumption) d_B_purse_27 ?_
  refine sr_getN G (vv_6 hn (by omega)) rfl ku_En rfl 1 (by decide) kf_B_222 rfl rfl d_B_purse_28 ?_
  refine sr_aret G d_B_purse_31 ?_
  exact ⟨rfl, rfl⟩
def f_B_takeIn (M : Mem) (x1 : Int32) (x2 : Int32) (x3 : Int32) (x4 : Int32) (x5 : Int32) : Mem := (if x4 = x2 then (u3 (u3 M 2 (Int32.toNatClampNeg x2) (Int32.toNatClampNeg x3) ((M 2 (Int32.toNatClampNeg x2) (Int32.toNatClampNeg x3)) - x5)) 6 (2 * (Int32.toNatClampNeg x1) + Int32.toNatClampNeg x2) 5 (((u3 M 2 (Int32.toNatClampNeg x2) (Int32.toNatClampNeg x3) ((M 2 (Int32.toNatClampNeg x2) (Int32.toNatClampNeg x3)) - x5)) 6 (2 * (Int32.toNatClampNeg x1) + Int32.toNatClampNeg x2) 5) + x5)) else (u3 M 8 (2 * Int32.toNatClampNeg x1 + Int32.toNatClampNeg x2) (Int32.toNatClampNeg x3) ((M 8 (2 * Int32.toNatClampNeg x1 + Int32.toNatClampNeg x2) (Int32.toNatClampNeg x3)) - x5)))
set_option maxHeartbeats 4000000 in
set_option maxRecDepth 100000 in
theorem c_B_takeIn {l : Launch} {D : va_G} {t6 : Nat → ClassId} {b n : Nat} (hn : 104 ≤ n) {M : Mem} {x1 : Int32} {x2 : Int32} {x3 : Int32} {x4 : Int32} {x5 : Int32} (v1 : vp_in x1 4) (v2 : vp_in x2 2) (v3 : vp_in x3 4) : CV l D t6 b n y_B_takeIn cd_B_takeIn 6  (rk 1 23) [.ref (ad b 0 0), .int x1, .int x2, .int x3, .int x4, .int x5] M (f_B_takeIn M x1 x2 x3 x4 x5) := by
  refine en_v (by decide) (by simp [Value.category]) (Nat.le_of_ble_eq_true rfl) (fun p e s m below meth c G => ?_)
  have i1 := ix_lt v1
  have i2 := ix_lt v2
  have w2 := in_1 v2
  have j2 := ix_lt w2
  have i3 := ix_lt v3
  refine sr_aload_n G rfl d_B_takeIn_0 ?_
  refine sr_iload_n G rfl d_B_takeIn_1 ?_
  refine sr_iload_n G rfl d_B_takeIn_2 ?_
  refine sr_iload G rfl d_B_takeIn_3 ?_
  by_cases h5 : x4 = x2
  · skip
    refine sr_cva G (vv_0 hn) rfl rfl ki_B_purse kx_B_purse (c_B_purse_h hn (by assumption) (by assumption) h5) kc_B_purse km_B_123 kn_B yy_B_purse rfl ⟨rfl, rfl, by decide, by decide⟩ (Nat.le_of_ble_eq_true rfl) rfl d_B_takeIn_5 ?_
    refine sr_iload_n G rfl d_B_takeIn_8 ?_
    refine sr_dup2 G rfl rfl d_B_takeIn_9 ?_
    refine sr_iald G (vv_2 hn (by omega)) rfl (by assumption) d_B_takeIn_10 ?_
    refine sr_iload G rfl d_B_takeIn_11 ?_
    refine sr_isub G d_B_takeIn_13 ?_
    refine sr_iast G (vv_2 hn (by omega)) (fun _ => rfl) (by assumption) d_B_takeIn_14 ?_
    refine sr_iload G rfl d_B_takeIn_15 ?_
    refine sr_iload_n G rfl d_B_takeIn_17 ?_
    refine sr_icmp_ne G 42 d_B_takeIn_18 rfl (fun h => absurd h5 h) (fun _ => ?_)
    refine sr_aload_n G rfl d_B_takeIn_21 ?_
    refine sr_get G (vv_0 hn) rfl ku_B rfl 1 (by decide) kf_B_17 rfl rfl d_B_takeIn_22 ?_
    refine sr_iload_n G rfl d_B_takeIn_25 ?_
    refine sr_aald G (vv_11 hn) rfl rfl (by assumption) d_B_takeIn_26 ?_
    refine sr_getN G (vv_5 hn (by omega)) rfl ku_Ch rfl 0 (by decide) kf_B_89 rfl rfl d_B_takeIn_27 ?_
    refine sr_iload_n G rfl d_B_takeIn_30 ?_
    refine sr_aald G (vv_13 hn (by omega)) rfl rfl (by assumption) d_B_takeIn_31 ?_
    refine sr_dup G rfl d_B_takeIn_32 ?_
    refine sr_getN G (vv_6 hn (by omega)) rfl ku_En rfl 5 (by decide) kf_B_197 rfl rfl d_B_takeIn_33 ?_
    refine sr_iload G rfl d_B_takeIn_36 ?_
    refine sr_iadd G d_B_takeIn_38 ?_
    refine sr_putN G (vv_6 hn (by omega)) rfl ku_En rfl 5 (by decide) t_En ty_En nm_En kf_B_197 rfl rfl (ty := .int) (by decide +kernel) rfl rfl (Nat.le_of_ble_eq_true rfl) rfl d_B_takeIn_39 ?_
    refine sr_vret G d_B_takeIn_42 ?_
    unfold f_B_takeIn
    rw [if_pos h5]
    try rfl
  · skip
    refine sr_cva G (vv_0 hn) rfl rfl ki_B_purse kx_B_purse (c_B_purse_o hn (by assumption) (by assumption) h5) kc_B_purse km_B_123 kn_B yy_B_purse rfl ⟨rfl, rfl, by decide, by decide⟩ (Nat.le_of_ble_eq_true rfl) rfl d_B_takeIn_5 ?_
    refine sr_iload_n G rfl d_B_takeIn_8 ?_
    refine sr_dup2 G rfl rfl d_B_takeIn_9 ?_
    refine sr_iald G (vv_8 hn (by omega)) rfl (by assumption) d_B_takeIn_10 ?_
    refine sr_iload G rfl d_B_takeIn_11 ?_
    refine sr_isub G d_B_takeIn_13 ?_
    refine sr_iast G (vv_8 hn (by omega)) (fun _ => rfl) (by assumption) d_B_takeIn_14 ?_
    refine sr_iload G rfl d_B_takeIn_15 ?_
    refine sr_iload_n G rfl d_B_takeIn_17 ?_
    refine sr_icmp_ne G 42 d_B_takeIn_18 rfl (fun _ => ?_) (fun h => absurd h h5)
    refine sr_vret G d_B_takeIn_42 ?_
    unfold f_B_takeIn
    rw [if_neg h5]
    try rfl
def f_B_giveOut (M : Mem) (x1 : Int32) (x2 : Int32) (x3 : Int32) (x4 : Int32) (x5 : Int32) : Mem := (if x4 = x2 then (u3 (u3 M 2 (Int32.toNatClampNeg x2) (Int32.toNatClampNeg x3) ((M 2 (Int32.toNatClampNeg x2) (Int32.toNatClampNeg x3)) + x5)) 6 (2 * (Int32.toNatClampNeg x1) + Int32.toNatClampNeg x2) 5 (((u3 M 2 (Int32.toNatClampNeg x2) (Int32.toNatClampNeg x3) ((M 2 (Int32.toNatClampNeg x2) (Int32.toNatClampNeg x3)) + x5)) 6 (2 * (Int32.toNatClampNeg x1) + Int32.toNatClampNeg x2) 5) - x5)) else (u3 M 8 (2 * Int32.toNatClampNeg x1 + Int32.toNatClampNeg x2) (Int32.toNatClampNeg x3) ((M 8 (2 * Int32.toNatClampNeg x1 + Int32.toNatClampNeg x2) (Int32.toNatClampNeg x3)) + x5)))
set_option maxHeartbeats 4000000 in
set_option maxRecDepth 100000 in
theorem c_B_giveOut {l : Launch} {D : va_G} {t6 : Nat → ClassId} {b n : Nat} (hn : 104 ≤ n) {M : Mem} {x1 : Int32} {x2 : Int32} {x3 : Int32} {x4 : Int32} {x5 : Int32} (v1 : vp_in x1 4) (v2 : vp_in x2 2) (v3 : vp_in x3 4) : CV l D t6 b n y_B_giveOut cd_B_giveOut 6  (rk 1 23) [.ref (ad b 0 0), .int x1, .int x2, .int x3, .int x4, .int x5] M (f_B_giveOut M x1 x2 x3 x4 x5) := by
  refine en_v (by decide) (by simp [Value.category]) (Nat.le_of_ble_eq_true rfl) (fun p e s m below meth c G => ?_)
  have i1 := ix_lt v1
  have i2 := ix_lt v2
  have w2 := in_1 v2
  have j2 := ix_lt w2
  have i3 := ix_lt v3
  refine sr_aload_n G rfl d_B_giveOut_0 ?_
  refine sr_iload_n G rfl d_B_giveOut_1 ?_
  refine sr_iload_n G rfl d_B_giveOut_2 ?_
  refine sr_iload G rfl d_B_giveOut_3 ?_
  by_cases h5 : x4 = x2
  · skip
    refine sr_cva G (vv_0 hn) rfl rfl ki_B_purse kx_B_purse (c_B_purse_h hn (by assumption) (by assumption) h5) kc_B_purse km_B_123 kn_B yy_B_purse rfl ⟨rfl, rfl, by decide, by decide⟩ (Nat.le_of_ble_eq_true rfl) rfl d_B_giveOut_5 ?_
    refine sr_iload_n G rfl d_B_giveOut_8 ?_
    refine sr_dup2 G rfl rfl d_B_giveOut_9 ?_
    refine sr_iald G (vv_2 hn (by omega)) rfl (by assumption) d_B_giveOut_10 ?_
    refine sr_iload G rfl d_B_giveOut_11 ?_
    refine sr_iadd G d_B_giveOut_13 ?_
    refine sr_iast G (vv_2 hn (by omega)) (fun _ => rfl) (by assumption) d_B_giveOut_14 ?_
    refine sr_iload G rfl d_B_giveOut_15 ?_
    refine sr_iload_n G rfl d_B_giveOut_17 ?_
    refine sr_icmp_ne G 42 d_B_giveOut_18 rfl (fun h => absurd h5 h) (fun _ => ?_)
    refine sr_aload_n G rfl d_B_giveOut_21 ?_
    refine sr_get G (vv_0 hn) rfl ku_B rfl 1 (by decide) kf_B_17 rfl rfl d_B_giveOut_22 ?_
    refine sr_iload_n G rfl d_B_giveOut_25 ?_
    refine sr_aald G (vv_11 hn) rfl rfl (by assumption) d_B_giveOut_26 ?_
    refine sr_getN G (vv_5 hn (by omega)) rfl ku_Ch rfl 0 (by decide) kf_B_89 rfl rfl d_B_giveOut_27 ?_
    refine sr_iload_n G rfl d_B_giveOut_30 ?_
    refine sr_aald G (vv_13 hn (by omega)) rfl rfl (by assumption) d_B_giveOut_31 ?_
    refine sr_dup G rfl d_B_giveOut_32 ?_
    refine sr_getN G (vv_6 hn (by omega)) rfl ku_En rfl 5 (by decide) kf_B_197 rfl rfl d_B_giveOut_33 ?_
    refine sr_iload G rfl d_B_giveOut_36 ?_
    refine sr_isub G d_B_giveOut_38 ?_
    refine sr_putN G (vv_6 hn (by omega)) rfl ku_En rfl 5 (by decide) t_En ty_En nm_En kf_B_197 rfl rfl (ty := .int) (by decide +kernel) rfl rfl (Nat.le_of_ble_eq_true rfl) rfl d_B_giveOut_39 ?_
    refine sr_vret G d_B_giveOut_42 ?_
    unfold f_B_giveOut
    rw [if_pos h5]
    try rfl
  · skip
    refine sr_cva G (vv_0 hn) rfl rfl ki_B_purse kx_B_purse (c_B_purse_o hn (by assumption) (by assumption) h5) kc_B_purse km_B_123 kn_B yy_B_purse rfl ⟨rfl, rfl, by decide, by decide⟩ (Nat.le_of_ble_eq_true rfl) rfl d_B_giveOut_5 ?_
    refine sr_iload_n G rfl d_B_giveOut_8 ?_
    refine sr_dup2 G rfl rfl d_B_giveOut_9 ?_
    refine sr_iald G (vv_8 hn (by omega)) rfl (by assumption) d_B_giveOut_10 ?_
    refine sr_iload G rfl d_B_giveOut_11 ?_
    refine sr_iadd G d_B_giveOut_13 ?_
    refine sr_iast G (vv_8 hn (by omega)) (fun _ => rfl) (by assumption) d_B_giveOut_14 ?_
    refine sr_iload G rfl d_B_giveOut_15 ?_
    refine sr_iload_n G rfl d_B_giveOut_17 ?_
    refine sr_icmp_ne G 42 d_B_giveOut_18 rfl (fun _ => ?_) (fun h => absurd h h5)
    refine sr_vret G d_B_giveOut_42 ?_
    unfold f_B_giveOut
    rw [if_neg h5]
    try rfl
def f_B_write (M : Mem) (x1 : Int32) (x2 : Int32) (x3 : Int32) (x4 : Int32) (x5 : Int32) (x6 : Int32) (x7 : Int32) : Mem := (u3 (u3 (f_Me_beginToStand (u3 (u3 (u3 (u3 (u3 (u3 (u3 (u3 M 9 (Int32.toNatClampNeg (M 0 0 4)) 0 x1) 9 (Int32.toNatClampNeg (M 0 0 4)) 1 x2) 9 (Int32.toNatClampNeg (M 0 0 4)) 2 ((u3 (u3 M 9 (Int32.toNatClampNeg (M 0 0 4)) 0 x1) 9 (Int32.toNatClampNeg (M 0 0 4)) 1 x2) 6 (2 * (Int32.toNatClampNeg x1) + Int32.toNatClampNeg x2) 6)) 9 (Int32.toNatClampNeg (M 0 0 4)) 3 x3) 9 (Int32.toNatClampNeg (M 0 0 4)) 4 x4) 9 (Int32.toNatClampNeg (M 0 0 4)) 5 x5) 9 (Int32.toNatClampNeg (M 0 0 4)) 6 x6) 9 (Int32.toNatClampNeg (M 0 0 4)) 7 x7) (Int32.toNatClampNeg (M 0 0 4)) ((u3 (u3 (u3 (u3 (u3 (u3 (u3 (u3 M 9 (Int32.toNatClampNeg (M 0 0 4)) 0 x1) 9 (Int32.toNatClampNeg (M 0 0 4)) 1 x2) 9 (Int32.toNatClampNeg (M 0 0 4)) 2 ((u3 (u3 M 9 (Int32.toNatClampNeg (M 0 0 4)) 0 x1) 9 (Int32.toNatClampNeg (M 0 0 4)) 1 x2) 6 (2 * (Int32.toNatClampNeg x1) + Int32.toNatClampNeg x2) 6)) 9 (Int32.toNatClampNeg (M 0 0 4)) 3 x3) 9 (Int32.toNatClampNeg (M 0 0 4)) 4 x4) 9 (Int32.toNatClampNeg (M 0 0 4)) 5 x5) 9 (Int32.toNatClampNeg (M 0 0 4)) 6 x6) 9 (Int32.toNatClampNeg (M 0 0 4)) 7 x7) 1 (Int32.toNatClampNeg x2) 2)) 6 (2 * (Int32.toNatClampNeg x1) + Int32.toNatClampNeg x2) 6 (((f_Me_beginToStand (u3 (u3 (u3 (u3 (u3 (u3 (u3 (u3 M 9 (Int32.toNatClampNeg (M 0 0 4)) 0 x1) 9 (Int32.toNatClampNeg (M 0 0 4)) 1 x2) 9 (Int32.toNatClampNeg (M 0 0 4)) 2 ((u3 (u3 M 9 (Int32.toNatClampNeg (M 0 0 4)) 0 x1) 9 (Int32.toNatClampNeg (M 0 0 4)) 1 x2) 6 (2 * (Int32.toNatClampNeg x1) + Int32.toNatClampNeg x2) 6)) 9 (Int32.toNatClampNeg (M 0 0 4)) 3 x3) 9 (Int32.toNatClampNeg (M 0 0 4)) 4 x4) 9 (Int32.toNatClampNeg (M 0 0 4)) 5 x5) 9 (Int32.toNatClampNeg (M 0 0 4)) 6 x6) 9 (Int32.toNatClampNeg (M 0 0 4)) 7 x7) (Int32.toNatClampNeg (M 0 0 4)) ((u3 (u3 (u3 (u3 (u3 (u3 (u3 (u3 M 9 (Int32.toNatClampNeg (M 0 0 4)) 0 x1) 9 (Int32.toNatClampNeg (M 0 0 4)) 1 x2) 9 (Int32.toNatClampNeg (M 0 0 4)) 2 ((u3 (u3 M 9 (Int32.toNatClampNeg (M 0 0 4)) 0 x1) 9 (Int32.toNatClampNeg (M 0 0 4)) 1 x2) 6 (2 * (Int32.toNatClampNeg x1) + Int32.toNatClampNeg x2) 6)) 9 (Int32.toNatClampNeg (M 0 0 4)) 3 x3) 9 (Int32.toNatClampNeg (M 0 0 4)) 4 x4) 9 (Int32.toNatClampNeg (M 0 0 4)) 5 x5) 9 (Int32.toNatClampNeg (M 0 0 4)) 6 x6) 9 (Int32.toNatClampNeg (M 0 0 4)) 7 x7) 1 (Int32.toNatClampNeg x2) 2)) 6 (2 * (Int32.toNatClampNeg x1) + Int32.toNatClampNeg x2) 6) + 1)) 0 0 4 (((u3 (f_Me_beginToStand (u3 (u3 (u3 (u3 (u3 (u3 (u3 (u3 M 9 (Int32.toNatClampNeg (M 0 0 4)) 0 x1) 9 (Int32.toNatClampNeg (M 0 0 4)) 1 x2) 9 (Int32.toNatClampNeg (M 0 0 4)) 2 ((u3 (u3 M 9 (Int32.toNatClampNeg (M 0 0 4)) 0 x1) 9 (Int32.toNatClampNeg (M 0 0 4)) 1 x2) 6 (2 * (Int32.toNatClampNeg x1) + Int32.toNatClampNeg x2) 6)) 9 (Int32.toNatClampNeg (M 0 0 4)) 3 x3) 9 (Int32.toNatClampNeg (M 0 0 4)) 4 x4) 9 (Int32.toNatClampNeg (M 0 0 4)) 5 x5) 9 (Int32.toNatClampNeg (M 0 0 4)) 6 x6) 9 (Int32.toNatClampNeg (M 0 0 4)) 7 x7) (Int32.toNatClampNeg (M 0 0 4)) ((u3 (u3 (u3 (u3 (u3 (u3 (u3 (u3 M 9 (Int32.toNatClampNeg (M 0 0 4)) 0 x1) 9 (Int32.toNatClampNeg (M 0 0 4)) 1 x2) 9 (Int32.toNatClampNeg (M 0 0 4)) 2 ((u3 (u3 M 9 (Int32.toNatClampNeg (M 0 0 4)) 0 x1) 9 (Int32.toNatClampNeg (M 0 0 4)) 1 x2) 6 (2 * (Int32.toNatClampNeg x1) + Int32.toNatClampNeg x2) 6)) 9 (Int32.toNatClampNeg (M 0 0 4)) 3 x3) 9 (Int32.toNatClampNeg (M 0 0 4)) 4 x4) 9 (Int32.toNatClampNeg (M 0 0 4)) 5 x5) 9 (Int32.toNatClampNeg (M 0 0 4)) 6 x6) 9 (Int32.toNatClampNeg (M 0 0 4)) 7 x7) 1 (Int32.toNatClampNeg x2) 2)) 6 (2 * (Int32.toNatClampNeg x1) + Int32.toNatClampNeg x2) 6 (((f_Me_beginToStand (u3 (u3 (u3 (u3 (u3 (u3 (u3 (u3 M 9 (Int32.toNatClampNeg (M 0 0 4)) 0 x1) 9 (Int32.toNatClampNeg (M 0 0 4)) 1 x2) 9 (Int32.toNatClampNeg (M 0 0 4)) 2 ((u3 (u3 M 9 (Int32.toNatClampNeg (M 0 0 4)) 0 x1) 9 (Int32.toNatClampNeg (M 0 0 4)) 1 x2) 6 (2 * (Int32.toNatClampNeg x1) + Int32.toNatClampNeg x2) 6)) 9 (Int32.toNatClampNeg (M 0 0 4)) 3 x3) 9 (Int32.toNatClampNeg (M 0 0 4)) 4 x4) 9 (Int32.toNatClampNeg (M 0 0 4)) 5 x5) 9 (Int32.toNatClampNeg (M 0 0 4)) 6 x6) 9 (Int32.toNatClampNeg (M 0 0 4)) 7 x7) (Int32.toNatClampNeg (M 0 0 4)) ((u3 (u3 (u3 (u3 (u3 (u3 (u3 (u3 M 9 (Int32.toNatClampNeg (M 0 0 4)) 0 x1) 9 (Int32.toNatClampNeg (M 0 0 4)) 1 x2) 9 (Int32.toNatClampNeg (M 0 0 4)) 2 ((u3 (u3 M 9 (Int32.toNatClampNeg (M 0 0 4)) 0 x1) 9 (Int32.toNatClampNeg (M 0 0 4)) 1 x2) 6 (2 * (Int32.toNatClampNeg x1) + Int32.toNatClampNeg x2) 6)) 9 (Int32.toNatClampNeg (M 0 0 4)) 3 x3) 9 (Int32.toNatClampNeg (M 0 0 4)) 4 x4) 9 (Int32.toNatClampNeg (M 0 0 4)) 5 x5) 9 (Int32.toNatClampNeg (M 0 0 4)) 6 x6) 9 (Int32.toNatClampNeg (M 0 0 4)) 7 x7) 1 (Int32.toNatClampNeg x2) 2)) 6 (2 * (Int32.toNatClampNeg x1) + Int32.toNatClampNeg x2) 6) + 1)) 0 0 4) + 1))
set_option maxHeartbeats 4000000 in
set_option maxRecDepth 100000 in
theorem c_B_write {l : Launch} {D : va_G} {t6 : Nat → ClassId} {b n : Nat} (hn : 104 ≤ n) {M : Mem} {x1 : Int32} {x2 : Int32} {x3 : Int32} {x4 : Int32} {x5 : Int32} {x6 : Int32} {x7 : Int32} (v1 : vp_in x1 4) (v2 : vp_in x2 2) (v9 : vp_in (M 0 0 4) 60) : CV l D t6 b n y_B_write cd_B_write 10  (rk 1 21) [.ref (ad b 0 0), .int x1, .int x2, .int x3, .int x4, .int x5, .int x6, .int x7] M (f_B_write M x1 x2 x3 x4 x5 x6 x7) := by
  refine en_v (by decide) (by simp [Value.category]) (Nat.le_of_ble_eq_true rfl) (fun p e s m below meth c G => ?_)
  have i1 := ix_lt v1
  have i2 := ix_lt v2
  have w2 := in_1 v2
  have j2 := ix_lt w2
  have i9 := ix_lt v9
  refine sr_aload_n G rfl d_B_write_0 ?_
  refine sr_get G (vv_0 hn) rfl ku_B rfl 1 (by decide) kf_B_17 rfl rfl d_B_write_1 ?_
  refine sr_iload_n G rfl d_B_write_4 ?_
  refine sr_aald G (vv_11 hn) rfl rfl (by assumption) d_B_write_5 ?_
  refine sr_getN G (vv_5 hn (by omega)) rfl ku_Ch rfl 0 (by decide) kf_B_89 rfl rfl d_B_write_6 ?_
  refine sr_iload_n G rfl d_B_write_9 ?_
  refine sr_aald G (vv_13 hn (by omega)) rfl rfl (by assumption) d_B_write_10 ?_
  refine sr_astore G (by decide) d_B_write_11 ?_
  refine sr_aload_n G rfl d_B_write_13 ?_
  refine sr_get G (vv_0 hn) rfl ku_B rfl 2 (by decide) kf_B_23 rfl rfl d_B_write_14 ?_
  refine sr_aload_n G rfl d_B_write_17 ?_
  refine sr_get G (vv_0 hn) rfl ku_B rfl 4 (by decide) kf_B_127 rfl rfl d_B_write_18 ?_
  refine sr_aald G (vv_12 hn) rfl rfl (by assumption) d_B_write_21 ?_
  refine sr_astore G (by decide) d_B_write_22 ?_
  refine sr_aload G rfl d_B_write_24 ?_
  refine sr_iload_n G rfl d_B_write_26 ?_
  refine sr_putN G (vv_9 hn (by omega)) rfl ku_Me rfl 0 (by decide) t_Me ty_Me nm_Me kf_B_144 rfl rfl (ty := .int) (by decide +kernel) rfl rfl (Nat.le_of_ble_eq_true rfl) rfl d_B_write_27 ?_
  refine sr_aload G rfl d_B_write_30 ?_
  refine sr_iload_n G rfl d_B_write_32 ?_
  refine sr_putN G (vv_9 hn (by omega)) rfl ku_Me rfl 1 (by decide) t_Me ty_Me nm_Me kf_B_141 rfl rfl (ty := .int) (by decide +kernel) rfl rfl (Nat.le_of_ble_eq_true rfl) rfl d_B_write_33 ?_
  refine sr_aload G rfl d_B_write_36 ?_
  refine sr_aload G rfl d_B_write_38 ?_
  refine sr_getN G (vv_6 hn (by omega)) rfl ku_En rfl 6 (by decide) kf_B_200 rfl rfl d_B_write_40 ?_
  refine sr_putN G (vv_9 hn (by omega)) rfl ku_Me rfl 2 (by decide) t_Me ty_Me nm_Me kf_B_206 rfl rfl (ty := .int) (by decide +kernel) rfl rfl (Nat.le_of_ble_eq_true rfl) rfl d_B_write_43 ?_
  refine sr_aload G rfl d_B_write_46 ?_
  refine sr_iload_n G rfl d_B_write_48 ?_
  refine sr_putN G (vv_9 hn (by omega)) rfl ku_Me rfl 3 (by decide) t_Me ty_Me nm_Me kf_B_209 rfl rfl (ty := .int) (by decide +kernel) rfl rfl (Nat.le_of_ble_eq_true rfl) rfl d_B_write_49 ?_
  refine sr_aload G rfl d_B_write_52 ?_
  refine sr_iload G rfl d_B_write_54 ?_
  refine sr_putN G (vv_9 hn (by omega)) rfl ku_Me rfl 4 (by decide) t_Me ty_Me nm_Me kf_B_162 rfl rfl (ty := .int) (by decide +kernel) rfl rfl (Nat.le_of_ble_eq_true rfl) rfl d_B_write_56 ?_
  refine sr_aload G rfl d_B_write_59 ?_
  refine sr_iload G rfl d_B_write_61 ?_
  refine sr_putN G (vv_9 hn (by omega)) rfl ku_Me rfl 5 (by decide) t_Me ty_Me nm_Me kf_B_165 rfl rfl (ty := .int) (by decide +kernel) rfl rfl (Nat.le_of_ble_eq_true rfl) rfl d_B_write_63 ?_
  refine sr_aload G rfl d_B_write_66 ?_
  refine sr_iload G rfl d_B_write_68 ?_
  refine sr_putN G (vv_9 hn (by omega)) rfl ku_Me rfl 6 (by decide) t_Me ty_Me nm_Me kf_B_168 rfl rfl (ty := .int) (by decide +kernel) rfl rfl (Nat.le_of_ble_eq_true rfl) rfl d_B_write_70 ?_
  refine sr_aload G rfl d_B_write_73 ?_
  refine sr_iload G rfl d_B_write_75 ?_
  refine sr_putN G (vv_9 hn (by omega)) rfl ku_Me rfl 7 (by decide) t_Me ty_Me nm_Me kf_B_156 rfl rfl (ty := .int) (by decide +kernel) rfl rfl (Nat.le_of_ble_eq_true rfl) rfl d_B_write_77 ?_
  refine sr_aload G rfl d_B_write_80 ?_
  refine sr_aload_n G rfl d_B_write_82 ?_
  refine sr_get G (vv_0 hn) rfl ku_B rfl 0 (by decide) kf_B_11 rfl rfl d_B_write_83 ?_
  refine sr_iload_n G rfl d_B_write_86 ?_
  refine sr_aald G (vv_10 hn) rfl rfl (by assumption) d_B_write_87 ?_
  refine sr_getN G (vv_1 hn (by omega)) rfl ku_Le rfl 2 (by decide) kf_B_37 rfl rfl d_B_write_88 ?_
  refine sr_cvNv G (vv_9 hn (by omega)) rfl rfl ki_Me_beginToStand kx_Me_beginToStand (c_Me_beginToStand hn (by first | assumption | omega | decide)) kc_Me_beginToStand km_B_246 kn_Me yy_Me_beginToStand rfl ⟨rfl, rfl, by decide, by decide⟩ (Nat.le_of_ble_eq_true rfl) rfl d_B_write_91 ?_
  refine sr_aload G rfl d_B_write_94 ?_
  refine sr_dup G rfl d_B_write_96 ?_
  refine sr_getN G (vv_6 hn (by omega)) rfl ku_En rfl 6 (by decide) kf_B_200 rfl rfl d_B_write_97 ?_
  refine sr_iconst G (v := 1) (by decide) d_B_write_100 ?_
  refine sr_iadd G d_B_write_101 ?_
  refine sr_putN G (vv_6 hn (by omega)) rfl ku_En rfl 6 (by decide) t_En ty_En nm_En kf_B_200 rfl rfl (ty := .int) (by decide +kernel) rfl rfl (Nat.le_of_ble_eq_true rfl) rfl d_B_write_102 ?_
  refine sr_aload_n G rfl d_B_write_105 ?_
  refine sr_dup G rfl d_B_write_106 ?_
  refine sr_get G (vv_0 hn) rfl ku_B rfl 4 (by decide) kf_B_127 rfl rfl d_B_write_107 ?_
  refine sr_iconst G (v := 1) (by decide) d_B_write_110 ?_
  refine sr_iadd G d_B_write_111 ?_
  refine sr_put G (vv_0 hn) rfl ku_B rfl 4 (by decide) t_B ty_B nm_B kf_B_127 rfl rfl (ty := .int) (by decide +kernel) rfl rfl (Nat.le_of_ble_eq_true rfl) rfl d_B_write_112 ?_
  refine sr_vret G d_B_write_115 ?_
  unfold f_B_write
  rfl
def f_B_finish (M : Mem) (x1 : Nat) : Mem := (u3 (u3 M 9 x1 8 0) 9 x1 12 ((u3 M 9 x1 8 0) 1 (Int32.toNatClampNeg ((u3 M 9 x1 8 0) 9 x1 1)) 2))
set_option maxHeartbeats 4000000 in
set_option maxRecDepth 100000 in
theorem c_B_finish {l : Launch} {D : va_G} {t6 : Nat → ClassId} {b n : Nat} (hn : 104 ≤ n) {M : Mem} {x1 : Nat} (hz : x1 < 60) (hI : ci_ M) : CV l D t6 b n y_B_finish cd_B_finish 2  (rk 0 0) [.ref (ad b 0 0), .ref (ad b 9 x1)] M (f_B_finish M x1) := by
  refine en_v (by decide) (by simp [Value.category]) (Nat.le_of_ble_eq_true rfl) (fun p e s m below meth c G => ?_)
  obtain ⟨m0, m1, m3⟩ := ci_mg hI hz
  have n0 := ix_lt m0
  have n1 := ix_lt m1
  have n3 := ix_lt m3
  have o1 := in_1 m1
  have q1 := ix_lt o1
  refine sr_aload_n G rfl d_B_finish_0 ?_
  refine sr_iconst G (v := 0) (by decide) d_B_finish_1 ?_
  refine sr_putN G (vv_9 hn (by omega)) rfl ku_Me rfl 8 (by decide) t_Me ty_Me nm_Me kf_B_212 rfl rfl (ty := .boolean) (by decide +kernel) (by decide) rfl (Nat.le_of_ble_eq_true rfl) rfl d_B_finish_2 ?_
  refine sr_aload_n G rfl d_B_finish_5 ?_
  refine sr_aload_n G rfl d_B_finish_6 ?_
  refine sr_get G (vv_0 hn) rfl ku_B rfl 0 (by decide) kf_B_11 rfl rfl d_B_finish_7 ?_
  refine sr_aload_n G rfl d_B_finish_10 ?_
  refine sr_getN G (vv_9 hn (by omega)) rfl ku_Me rfl 1 (by decide) kf_B_141 rfl rfl d_B_finish_11 ?_
  have hI2 := ci_u3 (i := x1) (kd := 9) (j := 8) hI 0 (by decide) (by decide) (by decide)
  obtain ⟨_, m4, _⟩ := ci_mg hI2 hz
  have n4 := ix_lt m4
  refine sr_aald G (vv_10 hn) rfl rfl (by assumption) d_B_finish_14 ?_
  refine sr_getN G (vv_1 hn (by omega)) rfl ku_Le rfl 2 (by decide) kf_B_37 rfl rfl d_B_finish_15 ?_
  refine sr_putN G (vv_9 hn (by omega)) rfl ku_Me rfl 12 (by decide) t_Me ty_Me nm_Me kf_B_250 rfl rfl (ty := .int) (by decide +kernel) rfl rfl (Nat.le_of_ble_eq_true rfl) rfl d_B_finish_18 ?_
  refine sr_vret G d_B_finish_21 ?_
  unfold f_B_finish
  rfl
def f_B_giveBack (M : Mem) (x1 : Nat) : Mem := (u3 (f_B_giveOut M (M 9 x1 0) (M 9 x1 1) (M 9 x1 3) (M 9 x1 5) (M 9 x1 6)) 9 x1 9 1)
set_option maxHeartbeats 4000000 in
set_option maxRecDepth 100000 in
theorem c_B_giveBack {l : Launch} {D : va_G} {t6 : Nat → ClassId} {b n : Nat} (hn : 104 ≤ n) {M : Mem} {x1 : Nat} (hz : x1 < 60) (hI : ci_ M) : CV l D t6 b n y_B_giveBack cd_B_giveBack 2  (rk 2 48) [.ref (ad b 0 0), .ref (ad b 9 x1)] M (f_B_giveBack M x1) := by
  refine en_v (by decide) (by simp [Value.category]) (Nat.le_of_ble_eq_true rfl) (fun p e s m below meth c G => ?_)
  obtain ⟨m0, m1, m3⟩ := ci_mg hI hz
  have n0 := ix_lt m0
  have n1 := ix_lt m1
  have n3 := ix_lt m3
  have o1 := in_1 m1
  have q1 := ix_lt o1
  refine sr_aload_n G rfl d_B_giveBack_0 ?_
  refine sr_aload_n G rfl d_B_giveBack_1 ?_
  refine sr_getN G (vv_9 hn (by omega)) rfl ku_Me rfl 0 (by decide) kf_B_144 rfl rfl d_B_giveBack_2 ?_
  refine sr_aload_n G rfl d_B_giveBack_5 ?_
  refine sr_getN G (vv_9 hn (by omega)) rfl ku_Me rfl 1 (by decide) kf_B_141 rfl rfl d_B_giveBack_6 ?_
  refine sr_aload_n G rfl d_B_giveBack_9 ?_
  refine sr_getN G (vv_9 hn (by omega)) rfl ku_Me rfl 3 (by decide) kf_B_209 rfl rfl d_B_giveBack_10 ?_
  refine sr_aload_n G rfl d_B_giveBack_13 ?_
  refine sr_getN G (vv_9 hn (by omega)) rfl ku_Me rfl 5 (by decide) kf_B_165 rfl rfl d_B_giveBack_14 ?_
  refine sr_aload_n G rfl d_B_giveBack_17 ?_
  refine sr_getN G (vv_9 hn (by omega)) rfl ku_Me rfl 6 (by decide) kf_B_168 rfl rfl d_B_giveBack_18 ?_
  refine sr_cvv G (vv_0 hn) rfl rfl ki_B_giveOut kx_B_giveOut (c_B_giveOut hn (by first | assumption | omega | decide) (by first | assumption | omega | decide) (by first | assumption | omega | decide)) kc_B_giveOut km_B_171 kn_B yy_B_giveOut rfl ⟨rfl, rfl, by decide, by decide⟩ (Nat.le_of_ble_eq_true rfl) rfl d_B_giveBack_21 ?_
  refine sr_aload_n G rfl d_B_giveBack_24 ?_
  refine sr_iconst G (v := 1) (by decide) d_B_giveBack_25 ?_
  refine sr_putN G (vv_9 hn (by omega)) rfl ku_Me rfl 9 (by decide) t_Me ty_Me nm_Me kf_B_215 rfl rfl (ty := .boolean) (by decide +kernel) (by decide) rfl (Nat.le_of_ble_eq_true rfl) rfl d_B_giveBack_26 ?_
  refine sr_vret G d_B_giveBack_29 ?_
  unfold f_B_giveBack
  rfl
def f_B_greatestVersion (x1 : Int32) : Int32 := (if (x1 &&& 4) = 0 then (if (x1 &&& 2) = 0 then (x1 &&& 1) else 2) else 3)
set_option maxHeartbeats 4000000 in
set_option maxRecDepth 100000 in
theorem c_B_greatestVersion {l : Launch} {D : va_G} {t6 : Nat → ClassId} {b n : Nat} {M : Mem} {x1 : Int32} : CI l D t6 b n y_B_greatestVersion cd_B_greatestVersion 1 .int (rk 0 0) [.int x1] M (f_B_greatestVersion x1) M := by
  refine en_i (by decide) (by simp [Value.category]) (Nat.le_of_ble_eq_true rfl) (fun p e s m below meth c G => ?_)
  refine sr_iload_n G rfl d_B_greatestVersion_0 ?_
  refine sr_iconst G (v := 4) (by decide) d_B_greatestVersion_1 ?_
  refine sr_iand G d_B_greatestVersion_2 ?_
  refine sr_if_eq G 8 d_B_greatestVersion_3 rfl (fun h3 => ?_) (fun h3 => ?_)
  · skip
    refine sr_iload_n G rfl d_B_greatestVersion_8 ?_
    refine sr_iconst G (v := 2) (by decide) d_B_greatestVersion_9 ?_
    refine sr_iand G d_B_greatestVersion_10 ?_
    refine sr_if_eq G 16 d_B_greatestVersion_11 rfl (fun h11 => ?_) (fun h11 => ?_)
    · skip
      refine sr_iload_n G rfl d_B_greatestVersion_16 ?_
      refine sr_iconst G (v := 1) (by decide) d_B_greatestVersion_17 ?_
      refine sr_iand G d_B_greatestVersion_18 ?_
      refine sr_iret G d_B_greatestVersion_19 ?_
      unfold f_B_greatestVersion
      rw [if_pos h3, if_pos h11]
      exact ⟨rfl, rfl⟩
    · skip
      refine sr_iconst G (v := 2) (by decide) d_B_greatestVersion_14 ?_
      refine sr_iret G d_B_greatestVersion_15 ?_
      unfold f_B_greatestVersion
      rw [if_pos h3, if_neg h11]
      exact ⟨rfl, rfl⟩
  · skip
    refine sr_iconst G (v := 3) (by decide) d_B_greatestVersion_6 ?_
    refine sr_iret G d_B_greatestVersion_7 ?_
    unfold f_B_greatestVersion
    rw [if_neg h3]
    exact ⟨rfl, rfl⟩
end
section
def g_B_areAllBeforeReceived (M : Mem) (x1 : Int32) (j : Nat) : Int32 := (if (f_Me_isOfSameEnd M (Int32.toNatClampNeg (nI j)) (Int32.toNatClampNeg x1)) = 0 then 0 else (if (M 9 (Int32.toNatClampNeg (nI j)) 10) = 0 then 1 else 0))
def f_B_areAllBeforeReceived (M : Mem) (x1 : Int32) : Int32 := (if ∀ j, j < (Int32.toNatClampNeg x1) → g_B_areAllBeforeReceived M x1 j = 0 then 1 else 0)
set_option maxHeartbeats 4000000 in
set_option maxRecDepth 100000 in
theorem c_B_areAllBeforeReceived {l : Launch} {D : va_G} {t6 : Nat → ClassId} {b n : Nat} (hn : 104 ≤ n) {M : Mem} {x1 : Int32} (v1 : vp_in x1 60) : CI l D t6 b n y_B_areAllBeforeReceived cd_B_areAllBeforeReceived 3 .boolean (rk 1 21) [.ref (ad b 0 0), .int x1] M (f_B_areAllBeforeReceived M x1) M := by
  refine en_i (by decide) (by simp [Value.category]) (Nat.le_of_ble_eq_true rfl) (fun p e s m below meth c G => ?_)
  have i1 := ix_lt v1
  obtain ⟨eL, hL⟩ := in_nI v1 (by decide)
  refine sr_iconst G (v := (nI 0)) (by decide) d_B_areAllBeforeReceived_0 ?_
  refine sr_istore_n G (by decide) d_B_areAllBeforeReceived_1 ?_
  refine sr_loop (Int32.toNatClampNeg x1) (fun j => M) (fun j => [some (.ref (ad b 0 0)), some (.int x1), some (.int (nI j))]) (fun j => ∀ i, i < j → g_B_areAllBeforeReceived M x1 i = 0) 0 (Nat.zero_le _) lt_0 rfl rfl (fun j hj0 hj hi ih => ?_) (fun hi => ?_)
  · skip
    have ij : (nI j).toNatClampNeg = j := nI_clamp (by omega)
    refine sr_iload_n G rfl d_B_areAllBeforeReceived_2 ?_
    refine sr_iload_n G rfl d_B_areAllBeforeReceived_3 ?_
    refine sr_icmp_ge G 45 d_B_areAllBeforeReceived_4 rfl (fun h => absurd h (by rw [eL]; exact nI_ge hj (by omega))) (fun _ => ?_)
    refine sr_aload_n G rfl d_B_areAllBeforeReceived_7 ?_
    refine sr_get G (vv_0 hn) rfl ku_B rfl 2 (by decide) kf_B_23 rfl rfl d_B_areAllBeforeReceived_8 ?_
    refine sr_iload_n G rfl d_B_areAllBeforeReceived_11 ?_
    refine sr_aald G (vv_12 hn) rfl rfl (vp_in_nI (by omega) (by decide)) d_B_areAllBeforeReceived_12 ?_
    refine sr_aload_n G rfl d_B_areAllBeforeReceived_13 ?_
    refine sr_get G (vv_0 hn) rfl ku_B rfl 2 (by decide) kf_B_23 rfl rfl d_B_areAllBeforeReceived_14 ?_
    refine sr_iload_n G rfl d_B_areAllBeforeReceived_17 ?_
    refine sr_aald G (vv_12 hn) rfl rfl (by assumption) d_B_areAllBeforeReceived_18 ?_
    refine sr_cvNi G (vv_9 hn (by omega)) rfl rfl ki_Me_isOfSameEnd kx_Me_isOfSameEnd (c_Me_isOfSameEnd hn (by first | assumption | omega | decide) (by first | assumption | omega | decide)) kc_Me_isOfSameEnd km_B_242 kn_Me yy_Me_isOfSameEnd rfl ⟨rfl, rfl, by decide, by decide⟩ (Nat.le_of_ble_eq_true rfl) rfl d_B_areAllBeforeReceived_19 ?_
    refine sr_if_eq G 39 d_B_areAllBeforeReceived_22 rfl (fun h22 => ?_) (fun h22 => ?_)
    · skip
      refine sr_iinc G (v := nI (j + 1)) rfl (nI_1 j) (by decide) d_B_areAllBeforeReceived_39 ?_
      refine sr_goto G 2 d_B_areAllBeforeReceived_42 rfl ?_
      refine ih (lt_s hi ?_)
      unfold g_B_areAllBeforeReceived
      rw [if_pos h22]
    · skip
      refine sr_aload_n G rfl d_B_areAllBeforeReceived_25 ?_
      refine sr_get G (vv_0 hn) rfl ku_B rfl 2 (by decide) kf_B_23 rfl rfl d_B_areAllBeforeReceived_26 ?_
      refine sr_iload_n G rfl d_B_areAllBeforeReceived_29 ?_
      refine sr_aald G (vv_12 hn) rfl rfl (vp_in_nI (by omega) (by decide)) d_B_areAllBeforeReceived_30 ?_
      refine sr_getN G (vv_9 hn (by omega)) rfl ku_Me rfl 10 (by decide) kf_B_147 rfl rfl d_B_areAllBeforeReceived_31 ?_
      refine sr_if_ne G 39 d_B_areAllBeforeReceived_34 rfl (fun h34 => ?_) (fun h34 => ?_)
      · skip
        refine sr_iinc G (v := nI (j + 1)) rfl (nI_1 j) (by decide) d_B_areAllBeforeReceived_39 ?_
        refine sr_goto G 2 d_B_areAllBeforeReceived_42 rfl ?_
        refine ih (lt_s hi ?_)
        unfold g_B_areAllBeforeReceived
        rw [if_neg h22, if_neg h34]
      · skip
        refine sr_iconst G (v := 0) (by decide) d_B_areAllBeforeReceived_37 ?_
        refine sr_zret G (by decide) d_B_areAllBeforeReceived_38 ?_
        unfold f_B_areAllBeforeReceived
        rw [if_neg (fun h9 => absurd (h9 j hj) (by unfold g_B_areAllBeforeReceived; rw [if_neg h22, if_pos h34]; decide))]
        exact ⟨rfl, rfl⟩
  · skip
    refine sr_iload_n G rfl d_B_areAllBeforeReceived_2 ?_
    refine sr_iload_n G rfl d_B_areAllBeforeReceived_3 ?_
    refine sr_icmp_ge G 45 d_B_areAllBeforeReceived_4 rfl (fun _ => ?_) (fun h => absurd (by rw [eL, nI_clamp (by omega)]; exact nI_le (Nat.le_refl _) (by omega)) h)
    refine sr_iconst G (v := 1) (by decide) d_B_areAllBeforeReceived_45 ?_
    refine sr_zret G (by decide) d_B_areAllBeforeReceived_46 ?_
    unfold f_B_areAllBeforeReceived
    rw [if_pos hi]
    exact ⟨rfl, rfl⟩
def g_B_standsOneBefore (M : Mem) (x1 : Int32) (j : Nat) : Int32 := (if (f_Me_isOfSameEnd M (Int32.toNatClampNeg (nI j)) (Int32.toNatClampNeg x1)) = 0 then 0 else (if (M 9 (Int32.toNatClampNeg (nI j)) 8) = 0 then 0 else 1))
def f_B_standsOneBefore (M : Mem) (x1 : Int32) : Int32 := (if ∀ j, j < (Int32.toNatClampNeg x1) → g_B_standsOneBefore M x1 j = 0 then 0 else 1)
set_option maxHeartbeats 4000000 in
set_option maxRecDepth 100000 in
theorem c_B_standsOneBefore {l : Launch} {D : va_G} {t6 : Nat → ClassId} {b n : Nat} (hn : 104 ≤ n) {M : Mem} {x1 : Int32} (v1 : vp_in x1 60) : CI l D t6 b n y_B_standsOneBefore cd_B_standsOneBefore 3 .boolean (rk 1 21) [.ref (ad b 0 0), .int x1] M (f_B_standsOneBefore M x1) M := by
  refine en_i (by decide) (by simp [Value.category]) (Nat.le_of_ble_eq_true rfl) (fun p e s m below meth c G => ?_)
  have i1 := ix_lt v1
  obtain ⟨eL, hL⟩ := in_nI v1 (by decide)
  refine sr_iconst G (v := (nI 0)) (by decide) d_B_standsOneBefore_0 ?_
  refine sr_istore_n G (by decide) d_B_standsOneBefore_1 ?_
  refine sr_loop (Int32.toNatClampNeg x1) (fun j => M) (fun j => [some (.ref (ad b 0 0)), some (.int x1), some (.int (nI j))]) (fun j => ∀ i, i < j → g_B_standsOneBefore M x1 i = 0) 0 (Nat.zero_le _) lt_0 rfl rfl (fun j hj0 hj hi ih => ?_) (fun hi => ?_)
  · skip
    have ij : (nI j).toNatClampNeg = j := nI_clamp (by omega)
    refine sr_iload_n G rfl d_B_standsOneBefore_2 ?_
    refine sr_iload_n G rfl d_B_standsOneBefore_3 ?_
    refine sr_icmp_ge G 45 d_B_standsOneBefore_4 rfl (fun h => absurd h (by rw [eL]; exact nI_ge hj (by omega))) (fun _ => ?_)
    refine sr_aload_n G rfl d_B_standsOneBefore_7 ?_
    refine sr_get G (vv_0 hn) rfl ku_B rfl 2 (by decide) kf_B_23 rfl rfl d_B_standsOneBefore_8 ?_
    refine sr_iload_n G rfl d_B_standsOneBefore_11 ?_
    refine sr_aald G (vv_12 hn) rfl rfl (vp_in_nI (by omega) (by decide)) d_B_standsOneBefore_12 ?_
    refine sr_aload_n G rfl d_B_standsOneBefore_13 ?_
    refine sr_get G (vv_0 hn) rfl ku_B rfl 2 (by decide) kf_B_23 rfl rfl d_B_standsOneBefore_14 ?_
    refine sr_iload_n G rfl d_B_standsOneBefore_17 ?_
    refine sr_aald G (vv_12 hn) rfl rfl (by assumption) d_B_standsOneBefore_18 ?_
    refine sr_cvNi G (vv_9 hn (by omega)) rfl rfl ki_Me_isOfSameEnd kx_Me_isOfSameEnd (c_Me_isOfSameEnd hn (by first | assumption | omega | decide) (by first | assumption | omega | decide)) kc_Me_isOfSameEnd km_B_242 kn_Me yy_Me_isOfSameEnd rfl ⟨rfl, rfl, by decide, by decide⟩ (Nat.le_of_ble_eq_true rfl) rfl d_B_standsOneBefore_19 ?_
    refine sr_if_eq G 39 d_B_standsOneBefore_22 rfl (fun h22 => ?_) (fun h22 => ?_)
    · skip
      refine sr_iinc G (v := nI (j + 1)) rfl (nI_1 j) (by decide) d_B_standsOneBefore_39 ?_
      refine sr_goto G 2 d_B_standsOneBefore_42 rfl ?_
      refine ih (lt_s hi ?_)
      unfold g_B_standsOneBefore
      rw [if_pos h22]
    · skip
      refine sr_aload_n G rfl d_B_standsOneBefore_25 ?_
      refine sr_get G (vv_0 hn) rfl ku_B rfl 2 (by decide) kf_B_23 rfl rfl d_B_standsOneBefore_26 ?_
      refine sr_iload_n G rfl d_B_standsOneBefore_29 ?_
      refine sr_aald G (vv_12 hn) rfl rfl (vp_in_nI (by omega) (by decide)) d_B_standsOneBefore_30 ?_
      refine sr_getN G (vv_9 hn (by omega)) rfl ku_Me rfl 8 (by decide) kf_B_212 rfl rfl d_B_standsOneBefore_31 ?_
      refine sr_if_eq G 39 d_B_standsOneBefore_34 rfl (fun h34 => ?_) (fun h34 => ?_)
      · skip
        refine sr_iinc G (v := nI (j + 1)) rfl (nI_1 j) (by decide) d_B_standsOneBefore_39 ?_
        refine sr_goto G 2 d_B_standsOneBefore_42 rfl ?_
        refine ih (lt_s hi ?_)
        unfold g_B_standsOneBefore
        rw [if_neg h22, if_pos h34]
      · skip
        refine sr_iconst G (v := 1) (by decide) d_B_standsOneBefore_37 ?_
        refine sr_zret G (by decide) d_B_standsOneBefore_38 ?_
        unfold f_B_standsOneBefore
        rw [if_neg (fun h9 => absurd (h9 j hj) (by unfold g_B_standsOneBefore; rw [if_neg h22, if_neg h34]; decide))]
        exact ⟨rfl, rfl⟩
  · skip
    refine sr_iload_n G rfl d_B_standsOneBefore_2 ?_
    refine sr_iload_n G rfl d_B_standsOneBefore_3 ?_
    refine sr_icmp_ge G 45 d_B_standsOneBefore_4 rfl (fun _ => ?_) (fun h => absurd (by rw [eL, nI_clamp (by omega)]; exact nI_le (Nat.le_refl _) (by omega)) h)
    refine sr_iconst G (v := 0) (by decide) d_B_standsOneBefore_45 ?_
    refine sr_zret G (by decide) d_B_standsOneBefore_46 ?_
    unfold f_B_standsOneBefore
    rw [if_pos hi]
    exact ⟨rfl, rfl⟩
def g_B_allEscrows (M : Mem) (x1 : Int32) (j : Nat) (ACC : Int32) : Int32 := (ACC + (M 6 (2 * (Int32.toNatClampNeg (nI j)) + Int32.toNatClampNeg x1) 5))
def f_B_allEscrows (M : Mem) (x1 : Int32) : Int32 := (fd_ (g_B_allEscrows M x1) 0 (Int32.toNatClampNeg (M 0 0 3)))
set_option maxHeartbeats 4000000 in
set_option maxRecDepth 100000 in
theorem c_B_allEscrows {l : Launch} {D : va_G} {t6 : Nat → ClassId} {b n : Nat} (hn : 104 ≤ n) {M : Mem} {x1 : Int32} (v1 : vp_in x1 2) (hI : ci_ M) : CI l D t6 b n y_B_allEscrows cd_B_allEscrows 4 .int (rk 0 0) [.ref (ad b 0 0), .int x1] M (f_B_allEscrows M x1) M := by
  refine en_i (by decide) (by simp [Value.category]) (Nat.le_of_ble_eq_true rfl) (fun p e s m below meth c G => ?_)
  have i1 := ix_lt v1
  refine sr_iconst G (v := 0) (by decide) d_B_allEscrows_0 ?_
  refine sr_istore_n G (by decide) d_B_allEscrows_1 ?_
  refine sr_iconst G (v := (nI 0)) (by decide) d_B_allEscrows_2 ?_
  refine sr_istore_n G (by decide) d_B_allEscrows_3 ?_
  obtain ⟨eL, hL⟩ := ci_cl hI
  refine sr_loop (Int32.toNatClampNeg (M 0 0 3)) (fun j => M) (fun j => [some (.ref (ad b 0 0)), some (.int x1), some (.int (fd_ (g_B_allEscrows M x1) 0 j)), some (.int (nI j))]) (fun _ => True) 0 (Nat.zero_le _) trivial rfl rfl (fun j hj0 hj hi ih => ?_) (fun hi => ?_)
  · skip
    have ij : (nI j).toNatClampNeg = j := nI_clamp (by omega)
    refine sr_iload_n G rfl d_B_allEscrows_4 ?_
    refine sr_aload_n G rfl d_B_allEscrows_5 ?_
    refine sr_get G (vv_0 hn) rfl ku_B rfl 3 (by decide) kf_B_80 rfl rfl d_B_allEscrows_6 ?_
    refine sr_icmp_ge G 35 d_B_allEscrows_9 rfl (fun h => absurd h (by rw [eL]; exact nI_ge hj (by omega))) (fun _ => ?_)
    refine sr_iload_n G rfl d_B_allEscrows_12 ?_
    refine sr_aload_n G rfl d_B_allEscrows_13 ?_
    refine sr_get G (vv_0 hn) rfl ku_B rfl 1 (by decide) kf_B_17 rfl rfl d_B_allEscrows_14 ?_
    refine sr_iload_n G rfl d_B_allEscrows_17 ?_
    refine sr_aald G (vv_11 hn) rfl rfl (vp_in_nI (by omega) (by decide)) d_B_allEscrows_18 ?_
    refine sr_getN G (vv_5 hn (by omega)) rfl ku_Ch rfl 0 (by decide) kf_B_89 rfl rfl d_B_allEscrows_19 ?_
    refine sr_iload_n G rfl d_B_allEscrows_22 ?_
    refine sr_aald G (vv_13 hn (by omega)) rfl rfl (by assumption) d_B_allEscrows_23 ?_
    refine sr_getN G (vv_6 hn (by omega)) rfl ku_En rfl 5 (by decide) kf_B_197 rfl rfl d_B_allEscrows_24 ?_
    refine sr_iadd G d_B_allEscrows_27 ?_
    refine sr_istore_n G (by decide) d_B_allEscrows_28 ?_
    refine sr_iinc G (v := nI (j + 1)) rfl (nI_1 j) (by decide) d_B_allEscrows_29 ?_
    refine sr_goto G 4 d_B_allEscrows_32 rfl ?_
    have e9 : fd_ (g_B_allEscrows M x1) 0 (j + 1) = ((fd_ (g_B_allEscrows M x1) 0 j) + (M 6 (2 * (Int32.toNatClampNeg (nI j)) + Int32.toNatClampNeg x1) 5)) := by
      show g_B_allEscrows M x1 j (fd_ (g_B_allEscrows M x1) 0 j) = _
      generalize fd_ (g_B_allEscrows M x1) 0 j = A9
      unfold g_B_allEscrows
      rfl
    have ih9 := ih trivial
    try dsimp only at ih9
    rw [e9] at ih9
    exact ih9
  · skip
    refine sr_iload_n G rfl d_B_allEscrows_4 ?_
    refine sr_aload_n G rfl d_B_allEscrows_5 ?_
    refine sr_get G (vv_0 hn) rfl ku_B rfl 3 (by decide) kf_B_80 rfl rfl d_B_allEscrows_6 ?_
    refine sr_icmp_ge G 35 d_B_allEscrows_9 rfl (fun _ => ?_) (fun h => absurd (by rw [eL, nI_clamp (by omega)]; exact nI_le (Nat.le_refl _) (by omega)) h)
    refine sr_iload_n G rfl d_B_allEscrows_35 ?_
    refine sr_iret G d_B_allEscrows_36 ?_
    unfold f_B_allEscrows
    exact ⟨rfl, rfl⟩
def g_B_allVouchers (M : Mem) (x1 : Int32) (j : Nat) (ACC : Int32) : Int32 := (ACC + (f_B_total_8 M (2 * (Int32.toNatClampNeg (nI j)) + Int32.toNatClampNeg x1)))
def f_B_allVouchers (M : Mem) (x1 : Int32) : Int32 := (fd_ (g_B_allVouchers M x1) 0 (Int32.toNatClampNeg (M 0 0 3)))
set_option maxHeartbeats 4000000 in
set_option maxRecDepth 100000 in
theorem c_B_allVouchers {l : Launch} {D : va_G} {t6 : Nat → ClassId} {b n : Nat} (hn : 104 ≤ n) {M : Mem} {x1 : Int32} (v1 : vp_in x1 2) (hI : ci_ M) : CI l D t6 b n y_B_allVouchers cd_B_allVouchers 4 .int (rk 1 22) [.ref (ad b 0 0), .int x1] M (f_B_allVouchers M x1) M := by
  refine en_i (by decide) (by simp [Value.category]) (Nat.le_of_ble_eq_true rfl) (fun p e s m below meth c G => ?_)
  have i1 := ix_lt v1
  refine sr_iconst G (v := 0) (by decide) d_B_allVouchers_0 ?_
  refine sr_istore_n G (by decide) d_B_allVouchers_1 ?_
  refine sr_iconst G (v := (nI 0)) (by decide) d_B_allVouchers_2 ?_
  refine sr_istore_n G (by decide) d_B_allVouchers_3 ?_
  obtain ⟨eL, hL⟩ := ci_cl hI
  refine sr_loop (Int32.toNatClampNeg (M 0 0 3)) (fun j => M) (fun j => [some (.ref (ad b 0 0)), some (.int x1), some (.int (fd_ (g_B_allVouchers M x1) 0 j)), some (.int (nI j))]) (fun _ => True) 0 (Nat.zero_le _) trivial rfl rfl (fun j hj0 hj hi ih => ?_) (fun hi => ?_)
  · skip
    have ij : (nI j).toNatClampNeg = j := nI_clamp (by omega)
    refine sr_iload_n G rfl d_B_allVouchers_4 ?_
    refine sr_aload_n G rfl d_B_allVouchers_5 ?_
    refine sr_get G (vv_0 hn) rfl ku_B rfl 3 (by decide) kf_B_80 rfl rfl d_B_allVouchers_6 ?_
    refine sr_icmp_ge G 38 d_B_allVouchers_9 rfl (fun h => absurd h (by rw [eL]; exact nI_ge hj (by omega))) (fun _ => ?_)
    refine sr_iload_n G rfl d_B_allVouchers_12 ?_
    refine sr_aload_n G rfl d_B_allVouchers_13 ?_
    refine sr_get G (vv_0 hn) rfl ku_B rfl 1 (by decide) kf_B_17 rfl rfl d_B_allVouchers_14 ?_
    refine sr_iload_n G rfl d_B_allVouchers_17 ?_
    refine sr_aald G (vv_11 hn) rfl rfl (vp_in_nI (by omega) (by decide)) d_B_allVouchers_18 ?_
    refine sr_getN G (vv_5 hn (by omega)) rfl ku_Ch rfl 0 (by decide) kf_B_89 rfl rfl d_B_allVouchers_19 ?_
    refine sr_iload_n G rfl d_B_allVouchers_22 ?_
    refine sr_aald G (vv_13 hn (by omega)) rfl rfl (by assumption) d_B_allVouchers_23 ?_
    refine sr_getN G (vv_6 hn (by omega)) rfl ku_En rfl 1 (by decide) kf_B_222 rfl rfl d_B_allVouchers_24 ?_
    refine sr_csi G ks_B_total (c_B_total_8 hn (by omega)) kc_B_total km_B_225 kn_B yy_B_total rfl ⟨rfl, rfl, by decide, by decide⟩ (Nat.le_of_ble_eq_true rfl) rfl d_B_allVouchers_27 ?_
    refine sr_iadd G d_B_allVouchers_30 ?_
    refine sr_istore_n G (by decide) d_B_allVouchers_31 ?_
    refine sr_iinc G (v := nI (j + 1)) rfl (nI_1 j) (by decide) d_B_allVouchers_32 ?_
    refine sr_goto G 4 d_B_allVouchers_35 rfl ?_
    have e9 : fd_ (g_B_allVouchers M x1) 0 (j + 1) = ((fd_ (g_B_allVouchers M x1) 0 j) + (f_B_total_8 M (2 * (Int32.toNatClampNeg (nI j)) + Int32.toNatClampNeg x1))) := by
      show g_B_allVouchers M x1 j (fd_ (g_B_allVouchers M x1) 0 j) = _
      generalize fd_ (g_B_allVouchers M x1) 0 j = A9
      unfold g_B_allVouchers
      rfl
    have ih9 := ih trivial
    try dsimp only at ih9
    rw [e9] at ih9
    exact ih9
  · skip
    refine sr_iload_n G rfl d_B_allVouchers_4 ?_
    refine sr_aload_n G rfl d_B_allVouchers_5 ?_
    refine sr_get G (vv_0 hn) rfl ku_B rfl 3 (by decide) kf_B_80 rfl rfl d_B_allVouchers_6 ?_
    refine sr_icmp_ge G 38 d_B_allVouchers_9 rfl (fun _ => ?_) (fun h => absurd (by rw [eL, nI_clamp (by omega)]; exact nI_le (Nat.le_refl _) (by omega)) h)
    refine sr_iload_n G rfl d_B_allVouchers_38 ?_
    refine sr_iret G d_B_allVouchers_39 ?_
    unfold f_B_allVouchers
    exact ⟨rfl, rfl⟩
def g_B_onTheWay (M : Mem) (x1 : Int32) (j : Nat) (ACC : Int32) : Int32 := (if (M 9 (Int32.toNatClampNeg (nI j)) 5) = x1 then (if (M 9 (Int32.toNatClampNeg (nI j)) 10) = 1 then ACC else (if (M 9 (Int32.toNatClampNeg (nI j)) 9) = 0 then (ACC + (M 9 (Int32.toNatClampNeg (nI j)) 6)) else ACC)) else ACC)
def f_B_onTheWay (M : Mem) (x1 : Int32) : Int32 := (fd_ (g_B_onTheWay M x1) 0 (Int32.toNatClampNeg (M 0 0 4)))
set_option maxHeartbeats 4000000 in
set_option maxRecDepth 100000 in
theorem c_B_onTheWay {l : Launch} {D : va_G} {t6 : Nat → ClassId} {b n : Nat} (hn : 104 ≤ n) {M : Mem} {x1 : Int32} (hI : ci_ M) : CI l D t6 b n y_B_onTheWay cd_B_onTheWay 5 .int (rk 0 0) [.ref (ad b 0 0), .int x1] M (f_B_onTheWay M x1) M := by
  refine en_i (by decide) (by simp [Value.category]) (Nat.le_of_ble_eq_true rfl) (fun p e s m below meth c G => ?_)
  refine sr_iconst G (v := 0) (by decide) d_B_onTheWay_0 ?_
  refine sr_istore_n G (by decide) d_B_onTheWay_1 ?_
  refine sr_iconst G (v := (nI 0)) (by decide) d_B_onTheWay_2 ?_
  refine sr_istore_n G (by decide) d_B_onTheWay_3 ?_
  obtain ⟨eL, hL⟩ := ci_ml hI
  refine sr_loop (Int32.toNatClampNeg (M 0 0 4)) (fun j => M) (fun j => [some (.ref (ad b 0 0)), some (.int x1), some (.int (fd_ (g_B_onTheWay M x1) 0 j)), some (.int (nI j)), none]) (fun _ => True) 0 (Nat.zero_le _) trivial rfl rfl (fun j hj0 hj hi ih => ?_) (fun hi => ?_)
  · skip
    have ij : (nI j).toNatClampNeg = j := nI_clamp (by omega)
    refine sr_iload_n G rfl d_B_onTheWay_4 ?_
    refine sr_aload_n G rfl d_B_onTheWay_5 ?_
    refine sr_get G (vv_0 hn) rfl ku_B rfl 4 (by decide) kf_B_127 rfl rfl d_B_onTheWay_6 ?_
    refine sr_icmp_ge G 60 d_B_onTheWay_9 rfl (fun h => absurd h (by rw [eL]; exact nI_ge hj (by omega))) (fun _ => ?_)
    refine sr_aload_n G rfl d_B_onTheWay_12 ?_
    refine sr_get G (vv_0 hn) rfl ku_B rfl 2 (by decide) kf_B_23 rfl rfl d_B_onTheWay_13 ?_
    refine sr_iload_n G rfl d_B_onTheWay_16 ?_
    refine sr_aald G (vv_12 hn) rfl rfl (vp_in_nI (by omega) (by decide)) d_B_onTheWay_17 ?_
    refine sr_astore G (by decide) d_B_onTheWay_18 ?_
    refine sr_aload G rfl d_B_onTheWay_20 ?_
    refine sr_getN G (vv_9 hn (by omega)) rfl ku_Me rfl 5 (by decide) kf_B_165 rfl rfl d_B_onTheWay_22 ?_
    refine sr_iload_n G rfl d_B_onTheWay_25 ?_
    refine sr_icmp_ne G 54 d_B_onTheWay_26 rfl (fun h26 => ?_) (fun h26 => ?_)
    · skip
      refine sr_iinc G (v := nI (j + 1)) rfl (nI_1 j) (by decide) d_B_onTheWay_54 ?_
      refine sr_goto G 4 d_B_onTheWay_57 rfl ?_
      refine sr_dropL 4 ?_
      have e9 : fd_ (g_B_onTheWay M x1) 0 (j + 1) = (fd_ (g_B_onTheWay M x1) 0 j) := by
        show g_B_onTheWay M x1 j (fd_ (g_B_onTheWay M x1) 0 j) = _
        generalize fd_ (g_B_onTheWay M x1) 0 j = A9
        unfold g_B_onTheWay
        rw [if_neg h26]
      have ih9 := ih trivial
      try dsimp only at ih9
      rw [e9] at ih9
      exact ih9
    · skip
      refine sr_aload G rfl d_B_onTheWay_29 ?_
      refine sr_getN G (vv_9 hn (by omega)) rfl ku_Me rfl 10 (by decide) kf_B_147 rfl rfl d_B_onTheWay_31 ?_
      refine sr_iconst G (v := 1) (by decide) d_B_onTheWay_34 ?_
      refine sr_icmp_eq G 54 d_B_onTheWay_35 rfl (fun h35 => ?_) (fun h35 => ?_)
      · skip
        refine sr_iinc G (v := nI (j + 1)) rfl (nI_1 j) (by decide) d_B_onTheWay_54 ?_
        refine sr_goto G 4 d_B_onTheWay_57 rfl ?_
        refine sr_dropL 4 ?_
        have e9 : fd_ (g_B_onTheWay M x1) 0 (j + 1) = (fd_ (g_B_onTheWay M x1) 0 j) := by
          show g_B_onTheWay M x1 j (fd_ (g_B_onTheWay M x1) 0 j) = _
          generalize fd_ (g_B_onTheWay M x1) 0 j = A9
          unfold g_B_onTheWay
          rw [if_pos h26, if_pos h35]
        have ih9 := ih trivial
        try dsimp only at ih9
        rw [e9] at ih9
        exact ih9
      · skip
        refine sr_aload G rfl d_B_onTheWay_38 ?_
        refine sr_getN G (vv_9 hn (by omega)) rfl ku_Me rfl 9 (by decide) kf_B_215 rfl rfl d_B_onTheWay_40 ?_
        refine sr_if_ne G 54 d_B_onTheWay_43 rfl (fun h43 => ?_) (fun h43 => ?_)
        · skip
          refine sr_iinc G (v := nI (j + 1)) rfl (nI_1 j) (by decide) d_B_onTheWay_54 ?_
          refine sr_goto G 4 d_B_onTheWay_57 rfl ?_
          refine sr_dropL 4 ?_
          have e9 : fd_ (g_B_onTheWay M x1) 0 (j + 1) = (fd_ (g_B_onTheWay M x1) 0 j) := by
            show g_B_onTheWay M x1 j (fd_ (g_B_onTheWay M x1) 0 j) = _
            generalize fd_ (g_B_onTheWay M x1) 0 j = A9
            unfold g_B_onTheWay
            rw [if_pos h26, if_neg h35, if_neg h43]
          have ih9 := ih trivial
          try dsimp only at ih9
          rw [e9] at ih9
          exact ih9
        · skip
          refine sr_iload_n G rfl d_B_onTheWay_46 ?_
          refine sr_aload G rfl d_B_onTheWay_47 ?_
          refine sr_getN G (vv_9 hn (by omega)) rfl ku_Me rfl 6 (by decide) kf_B_168 rfl rfl d_B_onTheWay_49 ?_
          refine sr_iadd G d_B_onTheWay_52 ?_
          refine sr_istore_n G (by decide) d_B_onTheWay_53 ?_
          refine sr_iinc G (v := nI (j + 1)) rfl (nI_1 j) (by decide) d_B_onTheWay_54 ?_
          refine sr_goto G 4 d_B_onTheWay_57 rfl ?_
          refine sr_dropL 4 ?_
          have e9 : fd_ (g_B_onTheWay M x1) 0 (j + 1) = ((fd_ (g_B_onTheWay M x1) 0 j) + (M 9 (Int32.toNatClampNeg (nI j)) 6)) := by
            show g_B_onTheWay M x1 j (fd_ (g_B_onTheWay M x1) 0 j) = _
            generalize fd_ (g_B_onTheWay M x1) 0 j = A9
            unfold g_B_onTheWay
            rw [if_pos h26, if_neg h35, if_pos h43]
          have ih9 := ih trivial
          try dsimp only at ih9
          rw [e9] at ih9
          exact ih9
  · skip
    refine sr_iload_n G rfl d_B_onTheWay_4 ?_
    refine sr_aload_n G rfl d_B_onTheWay_5 ?_
    refine sr_get G (vv_0 hn) rfl ku_B rfl 4 (by decide) kf_B_127 rfl rfl d_B_onTheWay_6 ?_
    refine sr_icmp_ge G 60 d_B_onTheWay_9 rfl (fun _ => ?_) (fun h => absurd (by rw [eL, nI_clamp (by omega)]; exact nI_le (Nat.le_refl _) (by omega)) h)
    refine sr_iload_n G rfl d_B_onTheWay_60 ?_
    refine sr_iret G d_B_onTheWay_61 ?_
    unfold f_B_onTheWay
    exact ⟨rfl, rfl⟩
def g_B_howManyStand (M : Mem) (j : Nat) (ACC : Int32) : Int32 := (ACC + (f_B_oneIf (M 9 (Int32.toNatClampNeg (nI j)) 8)))
def f_B_howManyStand (M : Mem)  : Int32 := (fd_ (g_B_howManyStand M) 0 (Int32.toNatClampNeg (M 0 0 4)))
set_option maxHeartbeats 4000000 in
set_option maxRecDepth 100000 in
theorem c_B_howManyStand {l : Launch} {D : va_G} {t6 : Nat → ClassId} {b n : Nat} (hn : 104 ≤ n) {M : Mem} (hI : ci_ M) : CI l D t6 b n y_B_howManyStand cd_B_howManyStand 3 .int (rk 1 20) [.ref (ad b 0 0)] M (f_B_howManyStand M) M := by
  refine en_i (by decide) (by simp [Value.category]) (Nat.le_of_ble_eq_true rfl) (fun p e s m below meth c G => ?_)
  refine sr_iconst G (v := 0) (by decide) d_B_howManyStand_0 ?_
  refine sr_istore_n G (by decide) d_B_howManyStand_1 ?_
  refine sr_iconst G (v := (nI 0)) (by decide) d_B_howManyStand_2 ?_
  refine sr_istore_n G (by decide) d_B_howManyStand_3 ?_
  obtain ⟨eL, hL⟩ := ci_ml hI
  refine sr_loop (Int32.toNatClampNeg (M 0 0 4)) (fun j => M) (fun j => [some (.ref (ad b 0 0)), some (.int (fd_ (g_B_howManyStand M) 0 j)), some (.int (nI j))]) (fun _ => True) 0 (Nat.zero_le _) trivial rfl rfl (fun j hj0 hj hi ih => ?_) (fun hi => ?_)
  · skip
    have ij : (nI j).toNatClampNeg = j := nI_clamp (by omega)
    refine sr_iload_n G rfl d_B_howManyStand_4 ?_
    refine sr_aload_n G rfl d_B_howManyStand_5 ?_
    refine sr_get G (vv_0 hn) rfl ku_B rfl 4 (by decide) kf_B_127 rfl rfl d_B_howManyStand_6 ?_
    refine sr_icmp_ge G 33 d_B_howManyStand_9 rfl (fun h => absurd h (by rw [eL]; exact nI_ge hj (by omega))) (fun _ => ?_)
    refine sr_iload_n G rfl d_B_howManyStand_12 ?_
    refine sr_aload_n G rfl d_B_howManyStand_13 ?_
    refine sr_get G (vv_0 hn) rfl ku_B rfl 2 (by decide) kf_B_23 rfl rfl d_B_howManyStand_14 ?_
    refine sr_iload_n G rfl d_B_howManyStand_17 ?_
    refine sr_aald G (vv_12 hn) rfl rfl (vp_in_nI (by omega) (by decide)) d_B_howManyStand_18 ?_
    refine sr_getN G (vv_9 hn (by omega)) rfl ku_Me rfl 8 (by decide) kf_B_212 rfl rfl d_B_howManyStand_19 ?_
    refine sr_csi G ks_B_oneIf (c_B_oneIf) kc_B_oneIf km_B_73 kn_B yy_B_oneIf rfl ⟨rfl, rfl, by decide, by decide⟩ (Nat.le_of_ble_eq_true rfl) rfl d_B_howManyStand_22 ?_
    refine sr_iadd G d_B_howManyStand_25 ?_
    refine sr_istore_n G (by decide) d_B_howManyStand_26 ?_
    refine sr_iinc G (v := nI (j + 1)) rfl (nI_1 j) (by decide) d_B_howManyStand_27 ?_
    refine sr_goto G 4 d_B_howManyStand_30 rfl ?_
    have e9 : fd_ (g_B_howManyStand M) 0 (j + 1) = ((fd_ (g_B_howManyStand M) 0 j) + (f_B_oneIf (M 9 (Int32.toNatClampNeg (nI j)) 8))) := by
      show g_B_howManyStand M j (fd_ (g_B_howManyStand M) 0 j) = _
      generalize fd_ (g_B_howManyStand M) 0 j = A9
      unfold g_B_howManyStand
      rfl
    have ih9 := ih trivial
    try dsimp only at ih9
    rw [e9] at ih9
    exact ih9
  · skip
    refine sr_iload_n G rfl d_B_howManyStand_4 ?_
    refine sr_aload_n G rfl d_B_howManyStand_5 ?_
    refine sr_get G (vv_0 hn) rfl ku_B rfl 4 (by decide) kf_B_127 rfl rfl d_B_howManyStand_6 ?_
    refine sr_icmp_ge G 33 d_B_howManyStand_9 rfl (fun _ => ?_) (fun h => absurd (by rw [eL, nI_clamp (by omega)]; exact nI_le (Nat.le_refl _) (by omega)) h)
    refine sr_iload_n G rfl d_B_howManyStand_33 ?_
    refine sr_iret G d_B_howManyStand_34 ?_
    unfold f_B_howManyStand
    exact ⟨rfl, rfl⟩
def f_B_beginAnew (M : Mem)  : Mem := (u3 (u3 (f_En_beginAnew (f_En_beginAnew (f_En_beginAnew (f_En_beginAnew (f_En_beginAnew (f_En_beginAnew (f_En_beginAnew (f_En_beginAnew (f_Le_beginAnew (f_Le_beginAnew M (Int32.toNatClampNeg 0)) (Int32.toNatClampNeg 1)) (2 * (Int32.toNatClampNeg 0) + Int32.toNatClampNeg 0)) (2 * (Int32.toNatClampNeg 0) + Int32.toNatClampNeg 1)) (2 * (Int32.toNatClampNeg 1) + Int32.toNatClampNeg 0)) (2 * (Int32.toNatClampNeg 1) + Int32.toNatClampNeg 1)) (2 * (Int32.toNatClampNeg 2) + Int32.toNatClampNeg 0)) (2 * (Int32.toNatClampNeg 2) + Int32.toNatClampNeg 1)) (2 * (Int32.toNatClampNeg 3) + Int32.toNatClampNeg 0)) (2 * (Int32.toNatClampNeg 3) + Int32.toNatClampNeg 1)) 0 0 3 0) 0 0 4 0)
set_option maxHeartbeats 4000000 in
set_option maxRecDepth 100000 in
theorem c_B_beginAnew {l : Launch} {D : va_G} {t6 : Nat → ClassId} {b n : Nat} (hn : 104 ≤ n) {M : Mem} : CV l D t6 b n y_B_beginAnew cd_B_beginAnew 2  (rk 3 63) [.ref (ad b 0 0)] M (f_B_beginAnew M) := by
  refine en_v (by decide) (by simp [Value.category]) (Nat.le_of_ble_eq_true rfl) (fun p e s m below meth c G => ?_)
  refine sr_iconst G (v := 0) (by decide) d_B_beginAnew_0 ?_
  refine sr_istore_n G (by decide) d_B_beginAnew_1 ?_
  refine sr_iload_n G rfl d_B_beginAnew_2 ?_
  refine sr_iconst G (v := 2) (by decide) d_B_beginAnew_3 ?_
  refine sr_icmp_ge G 22 d_B_beginAnew_4 rfl (fun h => absurd h (by decide)) (fun _ => ?_)
  refine sr_aload_n G rfl d_B_beginAnew_7 ?_
  refine sr_get G (vv_0 hn) rfl ku_B rfl 0 (by decide) kf_B_11 rfl rfl d_B_beginAnew_8 ?_
  refine sr_iload_n G rfl d_B_beginAnew_11 ?_
  refine sr_aald G (vv_10 hn) rfl rfl (by unfold vp_in; decide) d_B_beginAnew_12 ?_
  refine sr_cvNv G (vv_1 hn (by decide)) rfl rfl ki_Le_beginAnew kx_Le_beginAnew (c_Le_beginAnew hn (by first | assumption | omega | decide)) kc_Le_beginAnew km_B_253 kn_Le yy_Le_beginAnew rfl ⟨rfl, rfl, by decide, by decide⟩ (Nat.le_of_ble_eq_true rfl) rfl d_B_beginAnew_13 ?_
  refine sr_iinc G (v := 1) rfl (by decide) (by decide) d_B_beginAnew_16 ?_
  refine sr_goto G 2 d_B_beginAnew_19 rfl ?_
  refine sr_iload_n G rfl d_B_beginAnew_2 ?_
  refine sr_iconst G (v := 2) (by decide) d_B_beginAnew_3 ?_
  refine sr_icmp_ge G 22 d_B_beginAnew_4 rfl (fun h => absurd h (by decide)) (fun _ => ?_)
  refine sr_aload_n G rfl d_B_beginAnew_7 ?_
  refine sr_get G (vv_0 hn) rfl ku_B rfl 0 (by decide) kf_B_11 rfl rfl d_B_beginAnew_8 ?_
  refine sr_iload_n G rfl d_B_beginAnew_11 ?_
  refine sr_aald G (vv_10 hn) rfl rfl (by unfold vp_in; decide) d_B_beginAnew_12 ?_
  refine sr_cvNv G (vv_1 hn (by decide)) rfl rfl ki_Le_beginAnew kx_Le_beginAnew (c_Le_beginAnew hn (by first | assumption | omega | decide)) kc_Le_beginAnew km_B_253 kn_Le yy_Le_beginAnew rfl ⟨rfl, rfl, by decide, by decide⟩ (Nat.le_of_ble_eq_true rfl) rfl d_B_beginAnew_13 ?_
  refine sr_iinc G (v := 2) rfl (by decide) (by decide) d_B_beginAnew_16 ?_
  refine sr_goto G 2 d_B_beginAnew_19 rfl ?_
  refine sr_iload_n G rfl d_B_beginAnew_2 ?_
  refine sr_iconst G (v := 2) (by decide) d_B_beginAnew_3 ?_
  refine sr_icmp_ge G 22 d_B_beginAnew_4 rfl (fun _ => ?_) (fun h => absurd (by decide) h)
  refine sr_iconst G (v := 0) (by decide) d_B_beginAnew_22 ?_
  refine sr_istore_n G (by decide) d_B_beginAnew_23 ?_
  refine sr_iload_n G rfl d_B_beginAnew_24 ?_
  refine sr_iconst G (v := 4) (by decide) d_B_beginAnew_25 ?_
  refine sr_icmp_ge G 63 d_B_beginAnew_26 rfl (fun h => absurd h (by decide)) (fun _ => ?_)
  refine sr_aload_n G rfl d_B_beginAnew_29 ?_
  refine sr_get G (vv_0 hn) rfl ku_B rfl 1 (by decide) kf_B_17 rfl rfl d_B_beginAnew_30 ?_
  refine sr_iload_n G rfl d_B_beginAnew_33 ?_
  refine sr_aald G (vv_11 hn) rfl rfl (by unfold vp_in; decide) d_B_beginAnew_34 ?_
  refine sr_getN G (vv_5 hn (by decide)) rfl ku_Ch rfl 0 (by decide) kf_B_89 rfl rfl d_B_beginAnew_35 ?_
  refine sr_iconst G (v := 0) (by decide) d_B_beginAnew_38 ?_
  refine sr_aald G (vv_13 hn (by decide)) rfl rfl (by unfold vp_in; decide) d_B_beginAnew_39 ?_
  refine sr_cvNv G (vv_6 hn (by decide)) rfl rfl ki_En_beginAnew kx_En_beginAnew (c_En_beginAnew hn (by first | assumption | omega | decide)) kc_En_beginAnew km_B_254 kn_En yy_En_beginAnew rfl ⟨rfl, rfl, by decide, by decide⟩ (Nat.le_of_ble_eq_true rfl) rfl d_B_beginAnew_40 ?_
  refine sr_aload_n G rfl d_B_beginAnew_43 ?_
  refine sr_get G (vv_0 hn) rfl ku_B rfl 1 (by decide) kf_B_17 rfl rfl d_B_beginAnew_44 ?_
  refine sr_iload_n G rfl d_B_beginAnew_47 ?_
  refine sr_aald G (vv_11 hn) rfl rfl (by unfold vp_in; decide) d_B_beginAnew_48 ?_
  refine sr_getN G (vv_5 hn (by decide)) rfl ku_Ch rfl 0 (by decide) kf_B_89 rfl rfl d_B_beginAnew_49 ?_
  refine sr_iconst G (v := 1) (by decide) d_B_beginAnew_52 ?_
  refine sr_aald G (vv_13 hn (by decide)) rfl rfl (by unfold vp_in; decide) d_B_beginAnew_53 ?_
  refine sr_cvNv G (vv_6 hn (by decide)) rfl rfl ki_En_beginAnew kx_En_beginAnew (c_En_beginAnew hn (by first | assumption | omega | decide)) kc_En_beginAnew km_B_254 kn_En yy_En_beginAnew rfl ⟨rfl, rfl, by decide, by decide⟩ (Nat.le_of_ble_eq_true rfl) rfl d_B_beginAnew_54 ?_
  refine sr_iinc G (v := 1) rfl (by decide) (by decide) d_B_beginAnew_57 ?_
  refine sr_goto G 24 d_B_beginAnew_60 rfl ?_
  refine sr_iload_n G rfl d_B_beginAnew_24 ?_
  refine sr_iconst G (v := 4) (by decide) d_B_beginAnew_25 ?_
  refine sr_icmp_ge G 63 d_B_beginAnew_26 rfl (fun h => absurd h (by decide)) (fun _ => ?_)
  refine sr_aload_n G rfl d_B_beginAnew_29 ?_
  refine sr_get G (vv_0 hn) rfl ku_B rfl 1 (by decide) kf_B_17 rfl rfl d_B_beginAnew_30 ?_
  refine sr_iload_n G rfl d_B_beginAnew_33 ?_
  refine sr_aald G (vv_11 hn) rfl rfl (by unfold vp_in; decide) d_B_beginAnew_34 ?_
  refine sr_getN G (vv_5 hn (by decide)) rfl ku_Ch rfl 0 (by decide) kf_B_89 rfl rfl d_B_beginAnew_35 ?_
  refine sr_iconst G (v := 0) (by decide) d_B_beginAnew_38 ?_
  refine sr_aald G (vv_13 hn (by decide)) rfl rfl (by unfold vp_in; decide) d_B_beginAnew_39 ?_
  refine sr_cvNv G (vv_6 hn (by decide)) rfl rfl ki_En_beginAnew kx_En_beginAnew (c_En_beginAnew hn (by first | assumption | omega | decide)) kc_En_beginAnew km_B_254 kn_En yy_En_beginAnew rfl ⟨rfl, rfl, by decide, by decide⟩ (Nat.le_of_ble_eq_true rfl) rfl d_B_beginAnew_40 ?_
  refine sr_aload_n G rfl d_B_beginAnew_43 ?_
  refine sr_get G (vv_0 hn) rfl ku_B rfl 1 (by decide) kf_B_17 rfl rfl d_B_beginAnew_44 ?_
  refine sr_iload_n G rfl d_B_beginAnew_47 ?_
  refine sr_aald G (vv_11 hn) rfl rfl (by unfold vp_in; decide) d_B_beginAnew_48 ?_
  refine sr_getN G (vv_5 hn (by decide)) rfl ku_Ch rfl 0 (by decide) kf_B_89 rfl rfl d_B_beginAnew_49 ?_
  refine sr_iconst G (v := 1) (by decide) d_B_beginAnew_52 ?_
  refine sr_aald G (vv_13 hn (by decide)) rfl rfl (by unfold vp_in; decide) d_B_beginAnew_53 ?_
  refine sr_cvNv G (vv_6 hn (by decide)) rfl rfl ki_En_beginAnew kx_En_beginAnew (c_En_beginAnew hn (by first | assumption | omega | decide)) kc_En_beginAnew km_B_254 kn_En yy_En_beginAnew rfl ⟨rfl, rfl, by decide, by decide⟩ (Nat.le_of_ble_eq_true rfl) rfl d_B_beginAnew_54 ?_
  refine sr_iinc G (v := 2) rfl (by decide) (by decide) d_B_beginAnew_57 ?_
  refine sr_goto G 24 d_B_beginAnew_60 rfl ?_
  refine sr_iload_n G rfl d_B_beginAnew_24 ?_
  refine sr_iconst G (v := 4) (by decide) d_B_beginAnew_25 ?_
  refine sr_icmp_ge G 63 d_B_beginAnew_26 rfl (fun h => absurd h (by decide)) (fun _ => ?_)
  refine sr_aload_n G rfl d_B_beginAnew_29 ?_
  refine sr_get G (vv_0 hn) rfl ku_B rfl 1 (by decide) kf_B_17 rfl rfl d_B_beginAnew_30 ?_
  refine sr_iload_n G rfl d_B_beginAnew_33 ?_
  refine sr_aald G (vv_11 hn) rfl rfl (by unfold vp_in; decide) d_B_beginAnew_34 ?_
  refine sr_getN G (vv_5 hn (by decide)) rfl ku_Ch rfl 0 (by decide) kf_B_89 rfl rfl d_B_beginAnew_35 ?_
  refine sr_iconst G (v := 0) (by decide) d_B_beginAnew_38 ?_
  refine sr_aald G (vv_13 hn (by decide)) rfl rfl (by unfold vp_in; decide) d_B_beginAnew_39 ?_
  refine sr_cvNv G (vv_6 hn (by decide)) rfl rfl ki_En_beginAnew kx_En_beginAnew (c_En_beginAnew hn (by first | assumption | omega | decide)) kc_En_beginAnew km_B_254 kn_En yy_En_beginAnew rfl ⟨rfl, rfl, by decide, by decide⟩ (Nat.le_of_ble_eq_true rfl) rfl d_B_beginAnew_40 ?_
  refine sr_aload_n G rfl d_B_beginAnew_43 ?_
  refine sr_get G (vv_0 hn) rfl ku_B rfl 1 (by decide) kf_B_17 rfl rfl d_B_beginAnew_44 ?_
  refine sr_iload_n G rfl d_B_beginAnew_47 ?_
  refine sr_aald G (vv_11 hn) rfl rfl (by unfold vp_in; decide) d_B_beginAnew_48 ?_
  refine sr_getN G (vv_5 hn (by decide)) rfl ku_Ch rfl 0 (by decide) kf_B_89 rfl rfl d_B_beginAnew_49 ?_
  refine sr_iconst G (v := 1) (by decide) d_B_beginAnew_52 ?_
  refine sr_aald G (vv_13 hn (by decide)) rfl rfl (by unfold vp_in; decide) d_B_beginAnew_53 ?_
  refine sr_cvNv G (vv_6 hn (by decide)) rfl rfl ki_En_beginAnew kx_En_beginAnew (c_En_beginAnew hn (by first | assumption | omega | decide)) kc_En_beginAnew km_B_254 kn_En yy_En_beginAnew rfl ⟨rfl, rfl, by decide, by decide⟩ (Nat.le_of_ble_eq_true rfl) rfl d_B_beginAnew_54 ?_
  refine sr_iinc G (v := 3) rfl (by decide) (by decide) d_B_beginAnew_57 ?_
  refine sr_goto G 24 d_B_beginAnew_60 rfl ?_
  refine sr_iload_n G rfl d_B_beginAnew_24 ?_
  refine sr_iconst G (v := 4) (by decide) d_B_beginAnew_25 ?_
  refine sr_icmp_ge G 63 d_B_beginAnew_26 rfl (fun h => absurd h (by decide)) (fun _ => ?_)
  refine sr_aload_n G rfl d_B_beginAnew_29 ?_
  refine sr_get G (vv_0 hn) rfl ku_B rfl 1 (by decide) kf_B_17 rfl rfl d_B_beginAnew_30 ?_
  refine sr_iload_n G rfl d_B_beginAnew_33 ?_
  refine sr_aald G (vv_11 hn) rfl rfl (by unfold vp_in; decide) d_B_beginAnew_34 ?_
  refine sr_getN G (vv_5 hn (by decide)) rfl ku_Ch rfl 0 (by decide) kf_B_89 rfl rfl d_B_beginAnew_35 ?_
  refine sr_iconst G (v := 0) (by decide) d_B_beginAnew_38 ?_
  refine sr_aald G (vv_13 hn (by decide)) rfl rfl (by unfold vp_in; decide) d_B_beginAnew_39 ?_
  refine sr_cvNv G (vv_6 hn (by decide)) rfl rfl ki_En_beginAnew kx_En_beginAnew (c_En_beginAnew hn (by first | assumption | omega | decide)) kc_En_beginAnew km_B_254 kn_En yy_En_beginAnew rfl ⟨rfl, rfl, by decide, by decide⟩ (Nat.le_of_ble_eq_true rfl) rfl d_B_beginAnew_40 ?_
  refine sr_aload_n G rfl d_B_beginAnew_43 ?_
  refine sr_get G (vv_0 hn) rfl ku_B rfl 1 (by decide) kf_B_17 rfl rfl d_B_beginAnew_44 ?_
  refine sr_iload_n G rfl d_B_beginAnew_47 ?_
  refine sr_aald G (vv_11 hn) rfl rfl (by unfold vp_in; decide) d_B_beginAnew_48 ?_
  refine sr_getN G (vv_5 hn (by decide)) rfl ku_Ch rfl 0 (by decide) kf_B_89 rfl rfl d_B_beginAnew_49 ?_
  refine sr_iconst G (v := 1) (by decide) d_B_beginAnew_52 ?_
  refine sr_aald G (vv_13 hn (by decide)) rfl rfl (by unfold vp_in; decide) d_B_beginAnew_53 ?_
  refine sr_cvNv G (vv_6 hn (by decide)) rfl rfl ki_En_beginAnew kx_En_beginAnew (c_En_beginAnew hn (by first | assumption | omega | decide)) kc_En_beginAnew km_B_254 kn_En yy_En_beginAnew rfl ⟨rfl, rfl, by decide, by decide⟩ (Nat.le_of_ble_eq_true rfl) rfl d_B_beginAnew_54 ?_
  refine sr_iinc G (v := 4) rfl (by decide) (by decide) d_B_beginAnew_57 ?_
  refine sr_goto G 24 d_B_beginAnew_60 rfl ?_
  refine sr_iload_n G rfl d_B_beginAnew_24 ?_
  refine sr_iconst G (v := 4) (by decide) d_B_beginAnew_25 ?_
  refine sr_icmp_ge G 63 d_B_beginAnew_26 rfl (fun _ => ?_) (fun h => absurd (by decide) h)
  refine sr_aload_n G rfl d_B_beginAnew_63 ?_
  refine sr_iconst G (v := 0) (by decide) d_B_beginAnew_64 ?_
  refine sr_put G (vv_0 hn) rfl ku_B rfl 3 (by decide) t_B ty_B nm_B kf_B_80 rfl rfl (ty := .int) (by decide +kernel) rfl rfl (Nat.le_of_ble_eq_true rfl) rfl d_B_beginAnew_65 ?_
  refine sr_aload_n G rfl d_B_beginAnew_68 ?_
  refine sr_iconst G (v := 0) (by decide) d_B_beginAnew_69 ?_
  refine sr_put G (vv_0 hn) rfl ku_B rfl 4 (by decide) t_B ty_B nm_B kf_B_127 rfl rfl (ty := .int) (by decide +kernel) rfl rfl (Nat.le_of_ble_eq_true rfl) rfl d_B_beginAnew_70 ?_
  refine sr_vret G d_B_beginAnew_73 ?_
  unfold f_B_beginAnew
  rfl
end
section
theorem ci_fin {M : Mem} {i : Nat} (h : ci_ M) : ci_ (f_B_finish M i) := by
  unfold f_B_finish
  exact ci_u3 (ci_u3 h _ (by decide) (by decide) (by decide)) _ (by decide) (by decide) (by decide)
theorem ci_go {M : Mem} {a b c d e : Int32} (h : ci_ M) : ci_ (f_B_giveOut M a b c d e) := by
  unfold f_B_giveOut
  split
  · exact ci_u3 (ci_u3 h _ (by omega) (by omega) (by omega)) _ (by omega) (by omega) (by omega)
  · exact ci_u3 h _ (by omega) (by omega) (by omega)
theorem ci_gb {M : Mem} {i : Nat} (h : ci_ M) : ci_ (f_B_giveBack M i) := by
  unfold f_B_giveBack
  exact ci_u3 (ci_go h) _ (by decide) (by decide) (by decide)
theorem tk_mc (M : Mem) (a b c d e : Int32) : f_B_takeIn M a b c d e 0 0 4 = M 0 0 4 := by
  unfold f_B_takeIn
  split <;> simp [u3]
theorem in_l60 {M : Mem} (hI : ci_ M) (h : M 0 0 4 < 60) : vp_in (M 0 0 4) 60 := by
  obtain ⟨e, hk⟩ := ci_ml hI
  rw [e] at h ⊢
  have h2 := (nI_ltI (by omega) (show 60 < 2 ^ 31 by decide)).mp h
  exact vp_in_nI h2 (by decide)
theorem in_l4 {M : Mem} (hI : ci_ M) (h : M 0 0 3 < 4) : vp_in (M 0 0 3) 4 := by
  obtain ⟨e, hk⟩ := ci_cl hI
  rw [e] at h ⊢
  have h2 := (nI_ltI (by omega) (show 4 < 2 ^ 31 by decide)).mp h
  exact vp_in_nI h2 (by decide)
def f_B_tick (M : Mem) (x1 : Int32) : Int32 × Mem := (if (f_B_isSide x1) = 0 then ((-1), M) else (if (M 1 (Int32.toNatClampNeg x1) 2) < 200 then (((u3 M 1 (Int32.toNatClampNeg x1) 2 ((M 1 (Int32.toNatClampNeg x1) 2) + 1)) 1 (Int32.toNatClampNeg x1) 2), (u3 M 1 (Int32.toNatClampNeg x1) 2 ((M 1 (Int32.toNatClampNeg x1) 2) + 1))) else ((-10), M)))
set_option maxHeartbeats 4000000 in
set_option maxRecDepth 100000 in
theorem c_B_tick {l : Launch} {D : va_G} {t6 : Nat → ClassId} {b n : Nat} (hn : 104 ≤ n) {M : Mem} {x1 : Int32} : CI l D t6 b n y_B_tick cd_B_tick 3 .int (rk 2 42) [.ref (ad b 0 0), .int x1] M (f_B_tick M x1).1 (f_B_tick M x1).2 := by
  refine en_i (by decide) (by simp [Value.category]) (Nat.le_of_ble_eq_true rfl) (fun p e s m below meth c G => ?_)
  refine sr_iload_n G rfl d_B_tick_0 ?_
  refine sr_csi G ks_B_isSide (c_B_isSide) kc_B_isSide km_B_33 kn_B yy_B_isSide rfl ⟨rfl, rfl, by decide, by decide⟩ (Nat.le_of_ble_eq_true rfl) rfl d_B_tick_1 ?_
  refine sr_if_ne G 9 d_B_tick_4 rfl (fun h4 => ?_) (fun h4 => ?_)
  · skip
    have v4 : vp_in x1 2 := in_wi (lo := 0) (hi := 1) (by decide) (by decide) h4
    have i4 := ix_lt v4
    have w4 := in_1 v4
    have j4 := ix_lt w4
    refine sr_aload_n G rfl d_B_tick_9 ?_
    refine sr_get G (vv_0 hn) rfl ku_B rfl 0 (by decide) kf_B_11 rfl rfl d_B_tick_10 ?_
    refine sr_iload_n G rfl d_B_tick_13 ?_
    refine sr_aald G (vv_10 hn) rfl rfl (by assumption) d_B_tick_14 ?_
    refine sr_astore_n G (by decide) d_B_tick_15 ?_
    refine sr_aload_n G rfl d_B_tick_16 ?_
    refine sr_getN G (vv_1 hn (by omega)) rfl ku_Le rfl 2 (by decide) kf_B_37 rfl rfl d_B_tick_17 ?_
    refine sr_sipush G (v := 200) (by decide) d_B_tick_20 ?_
    refine sr_icmp_lt G 29 d_B_tick_23 rfl (fun h23 => ?_) (fun h23 => ?_)
    · skip
      refine sr_aload_n G rfl d_B_tick_29 ?_
      refine sr_dup G rfl d_B_tick_30 ?_
      refine sr_getN G (vv_1 hn (by omega)) rfl ku_Le rfl 2 (by decide) kf_B_37 rfl rfl d_B_tick_31 ?_
      refine sr_iconst G (v := 1) (by decide) d_B_tick_34 ?_
      refine sr_iadd G d_B_tick_35 ?_
      refine sr_putN G (vv_1 hn (by omega)) rfl ku_Le rfl 2 (by decide) t_Le ty_Le nm_Le kf_B_37 rfl rfl (ty := .int) (by decide +kernel) rfl rfl (Nat.le_of_ble_eq_true rfl) rfl d_B_tick_36 ?_
      refine sr_aload_n G rfl d_B_tick_39 ?_
      refine sr_getN G (vv_1 hn (by omega)) rfl ku_Le rfl 2 (by decide) kf_B_37 rfl rfl d_B_tick_40 ?_
      refine sr_iret G d_B_tick_43 ?_
      unfold f_B_tick
      rw [if_neg h4, if_pos h23]
      exact ⟨rfl, rfl⟩
    · skip
      refine sr_bipush G (v := (-10)) (by decide) d_B_tick_26 ?_
      refine sr_iret G d_B_tick_28 ?_
      unfold f_B_tick
      rw [if_neg h4, if_neg h23]
      exact ⟨rfl, rfl⟩
  · skip
    refine sr_iconst G (v := (-1)) (by decide) d_B_tick_7 ?_
    refine sr_iret G d_B_tick_8 ?_
    unfold f_B_tick
    rw [if_pos h4]
    exact ⟨rfl, rfl⟩
def f_B_follow (M : Mem) (x1 : Int32) (x2 : Int32) (x3 : Int32) : Int32 × Mem := (if (f_B_isSide x1) = 0 then ((-1), M) else (if (f_B_isWithin x2 1 (M 1 (Int32.toNatClampNeg (1 - x1)) 2)) = 0 then ((-2), M) else (if (f_B_isWithin x3 0 9) = 0 then ((-2), M) else (if (f_Cl_howFollowed M (Int32.toNatClampNeg x1) x2) = 0 then (if (M 3 (Int32.toNatClampNeg x1) 1) = 0 then (1, (f_Cl_add M (Int32.toNatClampNeg x1) x2 x3)) else ((-4), M)) else (if (f_Cl_isToldMark M (Int32.toNatClampNeg x1) x2 x3) = 0 then (if (M 3 (Int32.toNatClampNeg x1) 1) = 0 then (2, (u3 M 3 (Int32.toNatClampNeg x1) 1 1)) else ((-4), M)) else ((-3), M))))))
set_option maxHeartbeats 4000000 in
set_option maxRecDepth 100000 in
theorem c_B_follow {l : Launch} {D : va_G} {t6 : Nat → ClassId} {b n : Nat} (hn : 104 ≤ n) {M : Mem} {x1 : Int32} {x2 : Int32} {x3 : Int32} : CI l D t6 b n y_B_follow cd_B_follow 6 .int (rk 3 65) [.ref (ad b 0 0), .int x1, .int x2, .int x3] M (f_B_follow M x1 x2 x3).1 (f_B_follow M x1 x2 x3).2 := by
  refine en_i (by decide) (by simp [Value.category]) (Nat.le_of_ble_eq_true rfl) (fun p e s m below meth c G => ?_)
  refine sr_iload_n G rfl d_B_follow_0 ?_
  refine sr_csi G ks_B_isSide (c_B_isSide) kc_B_isSide km_B_33 kn_B yy_B_isSide rfl ⟨rfl, rfl, by decide, by decide⟩ (Nat.le_of_ble_eq_true rfl) rfl d_B_follow_1 ?_
  refine sr_if_ne G 9 d_B_follow_4 rfl (fun h4 => ?_) (fun h4 => ?_)
  · skip
    have v4 : vp_in x1 2 := in_wi (lo := 0) (hi := 1) (by decide) (by decide) h4
    have i4 := ix_lt v4
    have w4 := in_1 v4
    have j4 := ix_lt w4
    refine sr_iload_n G rfl d_B_follow_9 ?_
    refine sr_iconst G (v := 1) (by decide) d_B_follow_10 ?_
    refine sr_aload_n G rfl d_B_follow_11 ?_
    refine sr_get G (vv_0 hn) rfl ku_B rfl 0 (by decide) kf_B_11 rfl rfl d_B_follow_12 ?_
    refine sr_iconst G (v := 1) (by decide) d_B_follow_15 ?_
    refine sr_iload_n G rfl d_B_follow_16 ?_
    refine sr_isub G d_B_follow_17 ?_
    refine sr_aald G (vv_10 hn) rfl rfl (by assumption) d_B_follow_18 ?_
    refine sr_getN G (vv_1 hn (by omega)) rfl ku_Le rfl 2 (by decide) kf_B_37 rfl rfl d_B_follow_19 ?_
    refine sr_csi G ks_B_isWithin (c_B_isWithin) kc_B_isWithin km_B_41 kn_B yy_B_isWithin rfl ⟨rfl, rfl, by decide, by decide⟩ (Nat.le_of_ble_eq_true rfl) rfl d_B_follow_22 ?_
    refine sr_if_eq G 38 d_B_follow_25 rfl (fun h25 => ?_) (fun h25 => ?_)
    · skip
      refine sr_bipush G (v := (-2)) (by decide) d_B_follow_38 ?_
      refine sr_iret G d_B_follow_40 ?_
      unfold f_B_follow
      rw [if_neg h4, if_pos h25]
      exact ⟨rfl, rfl⟩
    · skip
      refine sr_iload_n G rfl d_B_follow_28 ?_
      refine sr_iconst G (v := 0) (by decide) d_B_follow_29 ?_
      refine sr_bipush G (v := 9) (by decide) d_B_follow_30 ?_
      refine sr_csi G ks_B_isWithin (c_B_isWithin) kc_B_isWithin km_B_41 kn_B yy_B_isWithin rfl ⟨rfl, rfl, by decide, by decide⟩ (Nat.le_of_ble_eq_true rfl) rfl d_B_follow_32 ?_
      refine sr_if_ne G 41 d_B_follow_35 rfl (fun h35 => ?_) (fun h35 => ?_)
      · skip
        have v35 : vp_in x3 10 := in_wi (lo := 0) (hi := 9) (by decide) (by decide) h35
        have i35 := ix_lt v35
        refine sr_aload_n G rfl d_B_follow_41 ?_
        refine sr_get G (vv_0 hn) rfl ku_B rfl 0 (by decide) kf_B_11 rfl rfl d_B_follow_42 ?_
        refine sr_iload_n G rfl d_B_follow_45 ?_
        refine sr_aald G (vv_10 hn) rfl rfl (by assumption) d_B_follow_46 ?_
        refine sr_getN G (vv_1 hn (by omega)) rfl ku_Le rfl 1 (by decide) kf_B_45 rfl rfl d_B_follow_47 ?_
        refine sr_astore G (by decide) d_B_follow_50 ?_
        refine sr_aload G rfl d_B_follow_52 ?_
        refine sr_iload_n G rfl d_B_follow_54 ?_
        refine sr_cvNi G (vv_3 hn (by omega)) rfl rfl ki_Cl_howFollowed kx_Cl_howFollowed (c_Cl_howFollowed hn (by first | assumption | omega | decide)) kc_Cl_howFollowed km_B_49 kn_Cl yy_Cl_howFollowed rfl ⟨rfl, rfl, by decide, by decide⟩ (Nat.le_of_ble_eq_true rfl) rfl d_B_follow_55 ?_
        refine sr_if_eq G 65 d_B_follow_58 rfl (fun h58 => ?_) (fun h58 => ?_)
        · skip
          refine sr_iconst G (v := 0) (by decide) d_B_follow_65 ?_
          refine sr_istore G (by decide) d_B_follow_66 ?_
          refine sr_iload G rfl d_B_follow_68 ?_
          refine sr_if_eq G 86 d_B_follow_70 rfl (fun _ => ?_) (fun h => absurd (by decide) h)
          refine sr_aload G rfl d_B_follow_86 ?_
          refine sr_getN G (vv_3 hn (by omega)) rfl ku_Cl rfl 1 (by decide) kf_B_59 rfl rfl d_B_follow_88 ?_
          refine sr_if_eq G 97 d_B_follow_91 rfl (fun h91 => ?_) (fun h91 => ?_)
          · skip
            refine sr_iload G rfl d_B_follow_97 ?_
            refine sr_if_eq G 110 d_B_follow_99 rfl (fun _ => ?_) (fun h => absurd (by decide) h)
            refine sr_aload G rfl d_B_follow_110 ?_
            refine sr_iload_n G rfl d_B_follow_112 ?_
            refine sr_iload_n G rfl d_B_follow_113 ?_
            refine sr_cvNv G (vv_3 hn (by omega)) rfl rfl ki_Cl_add kx_Cl_add (c_Cl_add hn (by first | assumption | omega | decide)) kc_Cl_add km_B_63 kn_Cl yy_Cl_add rfl ⟨rfl, rfl, by decide, by decide⟩ (Nat.le_of_ble_eq_true rfl) rfl d_B_follow_114 ?_
            refine sr_iconst G (v := 1) (by decide) d_B_follow_117 ?_
            refine sr_iret G d_B_follow_118 ?_
            unfold f_B_follow
            rw [if_neg h4, if_neg h25, if_neg h35, if_pos h58, if_pos h91]
            exact ⟨rfl, rfl⟩
          · skip
            refine sr_bipush G (v := (-4)) (by decide) d_B_follow_94 ?_
            refine sr_iret G d_B_follow_96 ?_
            unfold f_B_follow
            rw [if_neg h4, if_neg h25, if_neg h35, if_pos h58, if_neg h91]
            exact ⟨rfl, rfl⟩
        · skip
          refine sr_iconst G (v := 1) (by decide) d_B_follow_61 ?_
          refine sr_goto G 66 d_B_follow_62 rfl ?_
          refine sr_istore G (by decide) d_B_follow_66 ?_
          refine sr_iload G rfl d_B_follow_68 ?_
          refine sr_if_eq G 86 d_B_follow_70 rfl (fun h => absurd h (by decide)) (fun _ => ?_)
          refine sr_aload G rfl d_B_follow_73 ?_
          refine sr_iload_n G rfl d_B_follow_75 ?_
          refine sr_iload_n G rfl d_B_follow_76 ?_
          refine sr_cvNi G (vv_3 hn (by omega)) rfl rfl ki_Cl_isToldMark kx_Cl_isToldMark (c_Cl_isToldMark hn (by first | assumption | omega | decide)) kc_Cl_isToldMark km_B_55 kn_Cl yy_Cl_isToldMark rfl ⟨rfl, rfl, by decide, by decide⟩ (Nat.le_of_ble_eq_true rfl) rfl d_B_follow_77 ?_
          refine sr_if_eq G 86 d_B_follow_80 rfl (fun h80 => ?_) (fun h80 => ?_)
          · skip
            refine sr_aload G rfl d_B_follow_86 ?_
            refine sr_getN G (vv_3 hn (by omega)) rfl ku_Cl rfl 1 (by decide) kf_B_59 rfl rfl d_B_follow_88 ?_
            refine sr_if_eq G 97 d_B_follow_91 rfl (fun h91 => ?_) (fun h91 => ?_)
            · skip
              refine sr_iload G rfl d_B_follow_97 ?_
              refine sr_if_eq G 110 d_B_follow_99 rfl (fun h => absurd h (by decide)) (fun _ => ?_)
              refine sr_aload G rfl d_B_follow_102 ?_
              refine sr_iconst G (v := 1) (by decide) d_B_follow_104 ?_
              refine sr_putN G (vv_3 hn (by omega)) rfl ku_Cl rfl 1 (by decide) t_Cl ty_Cl nm_Cl kf_B_59 rfl rfl (ty := .boolean) (by decide +kernel) (by decide) rfl (Nat.le_of_ble_eq_true rfl) rfl d_B_follow_105 ?_
              refine sr_iconst G (v := 2) (by decide) d_B_follow_108 ?_
              refine sr_iret G d_B_follow_109 ?_
              unfold f_B_follow
              rw [if_neg h4, if_neg h25, if_neg h35, if_neg h58, if_pos h80, if_pos h91]
              exact ⟨rfl, rfl⟩
            · skip
              refine sr_bipush G (v := (-4)) (by decide) d_B_follow_94 ?_
              refine sr_iret G d_B_follow_96 ?_
              unfold f_B_follow
              rw [if_neg h4, if_neg h25, if_neg h35, if_neg h58, if_pos h80, if_neg h91]
              exact ⟨rfl, rfl⟩
          · skip
            refine sr_bipush G (v := (-3)) (by decide) d_B_follow_83 ?_
            refine sr_iret G d_B_follow_85 ?_
            unfold f_B_follow
            rw [if_neg h4, if_neg h25, if_neg h35, if_neg h58, if_neg h80]
            exact ⟨rfl, rfl⟩
      · skip
        refine sr_bipush G (v := (-2)) (by decide) d_B_follow_38 ?_
        refine sr_iret G d_B_follow_40 ?_
        unfold f_B_follow
        rw [if_neg h4, if_neg h25, if_pos h35]
        exact ⟨rfl, rfl⟩
  · skip
    refine sr_iconst G (v := (-1)) (by decide) d_B_follow_7 ?_
    refine sr_iret G d_B_follow_8 ?_
    unfold f_B_follow
    rw [if_pos h4]
    exact ⟨rfl, rfl⟩
def f_B_renew (M : Mem) (x1 : Int32) : Int32 × Mem := (if (f_B_isSide x1) = 0 then ((-1), M) else (if (M 3 (Int32.toNatClampNeg x1) 1) = 0 then ((-3), M) else ((M 3 (Int32.toNatClampNeg x1) 3), (f_Cl_forgetAll M (Int32.toNatClampNeg x1)))))
set_option maxHeartbeats 4000000 in
set_option maxRecDepth 100000 in
theorem c_B_renew {l : Launch} {D : va_G} {t6 : Nat → ClassId} {b n : Nat} (hn : 104 ≤ n) {M : Mem} {x1 : Int32} : CI l D t6 b n y_B_renew cd_B_renew 4 .int (rk 2 43) [.ref (ad b 0 0), .int x1] M (f_B_renew M x1).1 (f_B_renew M x1).2 := by
  refine en_i (by decide) (by simp [Value.category]) (Nat.le_of_ble_eq_true rfl) (fun p e s m below meth c G => ?_)
  refine sr_iload_n G rfl d_B_renew_0 ?_
  refine sr_csi G ks_B_isSide (c_B_isSide) kc_B_isSide km_B_33 kn_B yy_B_isSide rfl ⟨rfl, rfl, by decide, by decide⟩ (Nat.le_of_ble_eq_true rfl) rfl d_B_renew_1 ?_
  refine sr_if_ne G 9 d_B_renew_4 rfl (fun h4 => ?_) (fun h4 => ?_)
  · skip
    have v4 : vp_in x1 2 := in_wi (lo := 0) (hi := 1) (by decide) (by decide) h4
    have i4 := ix_lt v4
    have w4 := in_1 v4
    have j4 := ix_lt w4
    refine sr_aload_n G rfl d_B_renew_9 ?_
    refine sr_get G (vv_0 hn) rfl ku_B rfl 0 (by decide) kf_B_11 rfl rfl d_B_renew_10 ?_
    refine sr_iload_n G rfl d_B_renew_13 ?_
    refine sr_aald G (vv_10 hn) rfl rfl (by assumption) d_B_renew_14 ?_
    refine sr_getN G (vv_1 hn (by omega)) rfl ku_Le rfl 1 (by decide) kf_B_45 rfl rfl d_B_renew_15 ?_
    refine sr_astore_n G (by decide) d_B_renew_18 ?_
    refine sr_aload_n G rfl d_B_renew_19 ?_
    refine sr_getN G (vv_3 hn (by omega)) rfl ku_Cl rfl 1 (by decide) kf_B_59 rfl rfl d_B_renew_20 ?_
    refine sr_if_ne G 29 d_B_renew_23 rfl (fun h23 => ?_) (fun h23 => ?_)
    · skip
      refine sr_aload_n G rfl d_B_renew_29 ?_
      refine sr_getN G (vv_3 hn (by omega)) rfl ku_Cl rfl 3 (by decide) kf_B_67 rfl rfl d_B_renew_30 ?_
      refine sr_istore_n G (by decide) d_B_renew_33 ?_
      refine sr_aload_n G rfl d_B_renew_34 ?_
      refine sr_cvNv G (vv_3 hn (by omega)) rfl rfl ki_Cl_forgetAll kx_Cl_forgetAll (c_Cl_forgetAll hn (by first | assumption | omega | decide)) kc_Cl_forgetAll km_B_70 kn_Cl yy_Cl_forgetAll rfl ⟨rfl, rfl, by decide, by decide⟩ (Nat.le_of_ble_eq_true rfl) rfl d_B_renew_35 ?_
      refine sr_iload_n G rfl d_B_renew_38 ?_
      refine sr_iret G d_B_renew_39 ?_
      unfold f_B_renew
      rw [if_neg h4, if_neg h23]
      exact ⟨rfl, rfl⟩
    · skip
      refine sr_bipush G (v := (-3)) (by decide) d_B_renew_26 ?_
      refine sr_iret G d_B_renew_28 ?_
      unfold f_B_renew
      rw [if_neg h4, if_pos h23]
      exact ⟨rfl, rfl⟩
  · skip
    refine sr_iconst G (v := (-1)) (by decide) d_B_renew_7 ?_
    refine sr_iret G d_B_renew_8 ?_
    unfold f_B_renew
    rw [if_pos h4]
    exact ⟨rfl, rfl⟩
def f_B_client (M : Mem) (x1 : Int32) (x2 : Int32) : Int32 := (if (f_B_isSide x1) = 0 then (-1) else (if x2 = 0 then (f_B_oneIf (M 3 (Int32.toNatClampNeg x1) 1)) else (if x2 = 1 then (M 3 (Int32.toNatClampNeg x1) 2) else (if x2 = 2 then (M 3 (Int32.toNatClampNeg x1) 3) else (-2)))))
set_option maxHeartbeats 4000000 in
set_option maxRecDepth 100000 in
theorem c_B_client {l : Launch} {D : va_G} {t6 : Nat → ClassId} {b n : Nat} (hn : 104 ≤ n) {M : Mem} {x1 : Int32} {x2 : Int32} : CI l D t6 b n y_B_client cd_B_client 4 .int (rk 2 42) [.ref (ad b 0 0), .int x1, .int x2] M (f_B_client M x1 x2) M := by
  refine en_i (by decide) (by simp [Value.category]) (Nat.le_of_ble_eq_true rfl) (fun p e s m below meth c G => ?_)
  refine sr_iload_n G rfl d_B_client_0 ?_
  refine sr_csi G ks_B_isSide (c_B_isSide) kc_B_isSide km_B_33 kn_B yy_B_isSide rfl ⟨rfl, rfl, by decide, by decide⟩ (Nat.le_of_ble_eq_true rfl) rfl d_B_client_1 ?_
  refine sr_if_ne G 9 d_B_client_4 rfl (fun h4 => ?_) (fun h4 => ?_)
  · skip
    have v4 : vp_in x1 2 := in_wi (lo := 0) (hi := 1) (by decide) (by decide) h4
    have i4 := ix_lt v4
    have w4 := in_1 v4
    have j4 := ix_lt w4
    refine sr_aload_n G rfl d_B_client_9 ?_
    refine sr_get G (vv_0 hn) rfl ku_B rfl 0 (by decide) kf_B_11 rfl rfl d_B_client_10 ?_
    refine sr_iload_n G rfl d_B_client_13 ?_
    refine sr_aald G (vv_10 hn) rfl rfl (by assumption) d_B_client_14 ?_
    refine sr_getN G (vv_1 hn (by omega)) rfl ku_Le rfl 1 (by decide) kf_B_45 rfl rfl d_B_client_15 ?_
    refine sr_astore_n G (by decide) d_B_client_18 ?_
    refine sr_iload_n G rfl d_B_client_19 ?_
    by_cases h20_0 : x2 = 0
    · skip
      refine sr_tabIn G 48 d_B_client_20 (by rw [h20_0]; decide) (by rw [h20_0]; decide) (by rw [h20_0]; rfl) rfl ?_
      refine sr_aload_n G rfl d_B_client_48 ?_
      refine sr_getN G (vv_3 hn (by omega)) rfl ku_Cl rfl 1 (by decide) kf_B_59 rfl rfl d_B_client_49 ?_
      refine sr_csi G ks_B_oneIf (c_B_oneIf) kc_B_oneIf km_B_73 kn_B yy_B_oneIf rfl ⟨rfl, rfl, by decide, by decide⟩ (Nat.le_of_ble_eq_true rfl) rfl d_B_client_52 ?_
      refine sr_iret G d_B_client_55 ?_
      unfold f_B_client
      rw [if_neg h4, if_pos h20_0]
      exact ⟨rfl, rfl⟩
    · skip
      by_cases h20_1 : x2 = 1
      · skip
        refine sr_tabIn G 56 d_B_client_20 (by rw [h20_1]; decide) (by rw [h20_1]; decide) (by rw [h20_1]; rfl) rfl ?_
        refine sr_aload_n G rfl d_B_client_56 ?_
        refine sr_getN G (vv_3 hn (by omega)) rfl ku_Cl rfl 2 (by decide) kf_B_77 rfl rfl d_B_client_57 ?_
        refine sr_iret G d_B_client_60 ?_
        unfold f_B_client
        rw [if_neg h4, if_neg h20_0, if_pos h20_1]
        exact ⟨rfl, rfl⟩
      · skip
        by_cases h20_2 : x2 = 2
        · skip
          refine sr_tabIn G 61 d_B_client_20 (by rw [h20_2]; decide) (by rw [h20_2]; decide) (by rw [h20_2]; rfl) rfl ?_
          refine sr_aload_n G rfl d_B_client_61 ?_
          refine sr_getN G (vv_3 hn (by omega)) rfl ku_Cl rfl 3 (by decide) kf_B_67 rfl rfl d_B_client_62 ?_
          refine sr_iret G d_B_client_65 ?_
          unfold f_B_client
          rw [if_neg h4, if_neg h20_0, if_neg h20_1, if_pos h20_2]
          exact ⟨rfl, rfl⟩
        · skip
          refine sr_tabOut G 66 d_B_client_20 (by have := lv_neT h20_0 (show (0 : Int32).toInt = 0 by decide); have := lv_neT h20_1 (show (1 : Int32).toInt = 1 by decide); have := lv_neT h20_2 (show (2 : Int32).toInt = 2 by decide); omega) rfl ?_
          refine sr_bipush G (v := (-2)) (by decide) d_B_client_66 ?_
          refine sr_iret G d_B_client_68 ?_
          unfold f_B_client
          rw [if_neg h4, if_neg h20_0, if_neg h20_1, if_neg h20_2]
          exact ⟨rfl, rfl⟩
  · skip
    refine sr_iconst G (v := (-1)) (by decide) d_B_client_7 ?_
    refine sr_iret G d_B_client_8 ?_
    unfold f_B_client
    rw [if_pos h4]
    exact ⟨rfl, rfl⟩
def f_B_follows (M : Mem) (x1 : Int32) (x2 : Int32) : Int32 := (if (f_B_isSide x1) = 0 then (-1) else (if (f_B_isWithin x2 1 200) = 0 then (-2) else (f_Cl_howFollowed M (Int32.toNatClampNeg x1) x2)))
set_option maxHeartbeats 4000000 in
set_option maxRecDepth 100000 in
theorem c_B_follows {l : Launch} {D : va_G} {t6 : Nat → ClassId} {b n : Nat} (hn : 104 ≤ n) {M : Mem} {x1 : Int32} {x2 : Int32} : CI l D t6 b n y_B_follows cd_B_follows 3 .int (rk 3 65) [.ref (ad b 0 0), .int x1, .int x2] M (f_B_follows M x1 x2) M := by
  refine en_i (by decide) (by simp [Value.category]) (Nat.le_of_ble_eq_true rfl) (fun p e s m below meth c G => ?_)
  refine sr_iload_n G rfl d_B_follows_0 ?_
  refine sr_csi G ks_B_isSide (c_B_isSide) kc_B_isSide km_B_33 kn_B yy_B_isSide rfl ⟨rfl, rfl, by decide, by decide⟩ (Nat.le_of_ble_eq_true rfl) rfl d_B_follows_1 ?_
  refine sr_if_ne G 9 d_B_follows_4 rfl (fun h4 => ?_) (fun h4 => ?_)
  · skip
    have v4 : vp_in x1 2 := in_wi (lo := 0) (hi := 1) (by decide) (by decide) h4
    have i4 := ix_lt v4
    have w4 := in_1 v4
    have j4 := ix_lt w4
    refine sr_iload_n G rfl d_B_follows_9 ?_
    refine sr_iconst G (v := 1) (by decide) d_B_follows_10 ?_
    refine sr_sipush G (v := 200) (by decide) d_B_follows_11 ?_
    refine sr_csi G ks_B_isWithin (c_B_isWithin) kc_B_isWithin km_B_41 kn_B yy_B_isWithin rfl ⟨rfl, rfl, by decide, by decide⟩ (Nat.le_of_ble_eq_true rfl) rfl d_B_follows_14 ?_
    refine sr_if_ne G 23 d_B_follows_17 rfl (fun h17 => ?_) (fun h17 => ?_)
    · skip
      have v17 : vp_in x2 201 := in_wi (lo := 1) (hi := 200) (by decide) (by decide) h17
      have i17 := ix_lt v17
      refine sr_aload_n G rfl d_B_follows_23 ?_
      refine sr_get G (vv_0 hn) rfl ku_B rfl 0 (by decide) kf_B_11 rfl rfl d_B_follows_24 ?_
      refine sr_iload_n G rfl d_B_follows_27 ?_
      refine sr_aald G (vv_10 hn) rfl rfl (by assumption) d_B_follows_28 ?_
      refine sr_getN G (vv_1 hn (by omega)) rfl ku_Le rfl 1 (by decide) kf_B_45 rfl rfl d_B_follows_29 ?_
      refine sr_iload_n G rfl d_B_follows_32 ?_
      refine sr_cvNi G (vv_3 hn (by omega)) rfl rfl ki_Cl_howFollowed kx_Cl_howFollowed (c_Cl_howFollowed hn (by first | assumption | omega | decide)) kc_Cl_howFollowed km_B_49 kn_Cl yy_Cl_howFollowed rfl ⟨rfl, rfl, by decide, by decide⟩ (Nat.le_of_ble_eq_true rfl) rfl d_B_follows_33 ?_
      refine sr_iret G d_B_follows_36 ?_
      unfold f_B_follows
      rw [if_neg h4, if_neg h17]
      exact ⟨rfl, rfl⟩
    · skip
      refine sr_bipush G (v := (-2)) (by decide) d_B_follows_20 ?_
      refine sr_iret G d_B_follows_22 ?_
      unfold f_B_follows
      rw [if_neg h4, if_pos h17]
      exact ⟨rfl, rfl⟩
  · skip
    refine sr_iconst G (v := (-1)) (by decide) d_B_follows_7 ?_
    refine sr_iret G d_B_follows_8 ?_
    unfold f_B_follows
    rw [if_pos h4]
    exact ⟨rfl, rfl⟩
def f_B_init (M : Mem) (x1 : Int32) (x2 : Int32) (x3 : Int32) : Int32 × Mem := (if (f_B_isSide x1) = 0 then ((-1), M) else (if (f_B_isWithin x3 1 7) = 0 then ((-2), M) else (if (M 0 0 3) < 4 then ((((u3 (f_En_comeTo (u3 (u3 (u3 M 5 (Int32.toNatClampNeg (M 0 0 3)) 2 x1) 5 (Int32.toNatClampNeg (M 0 0 3)) 1 x2) 6 (2 * (Int32.toNatClampNeg (M 0 0 3)) + Int32.toNatClampNeg x1) 3 x3) (2 * (Int32.toNatClampNeg (M 0 0 3)) + Int32.toNatClampNeg x1) 1 ((u3 (u3 (u3 M 5 (Int32.toNatClampNeg (M 0 0 3)) 2 x1) 5 (Int32.toNatClampNeg (M 0 0 3)) 1 x2) 6 (2 * (Int32.toNatClampNeg (M 0 0 3)) + Int32.toNatClampNeg x1) 3 x3) 1 (Int32.toNatClampNeg x1) 2)) 0 0 3 (((f_En_comeTo (u3 (u3 (u3 M 5 (Int32.toNatClampNeg (M 0 0 3)) 2 x1) 5 (Int32.toNatClampNeg (M 0 0 3)) 1 x2) 6 (2 * (Int32.toNatClampNeg (M 0 0 3)) + Int32.toNatClampNeg x1) 3 x3) (2 * (Int32.toNatClampNeg (M 0 0 3)) + Int32.toNatClampNeg x1) 1 ((u3 (u3 (u3 M 5 (Int32.toNatClampNeg (M 0 0 3)) 2 x1) 5 (Int32.toNatClampNeg (M 0 0 3)) 1 x2) 6 (2 * (Int32.toNatClampNeg (M 0 0 3)) + Int32.toNatClampNeg x1) 3 x3) 1 (Int32.toNatClampNeg x1) 2)) 0 0 3) + 1)) 0 0 3) - 1), (u3 (f_En_comeTo (u3 (u3 (u3 M 5 (Int32.toNatClampNeg (M 0 0 3)) 2 x1) 5 (Int32.toNatClampNeg (M 0 0 3)) 1 x2) 6 (2 * (Int32.toNatClampNeg (M 0 0 3)) + Int32.toNatClampNeg x1) 3 x3) (2 * (Int32.toNatClampNeg (M 0 0 3)) + Int32.toNatClampNeg x1) 1 ((u3 (u3 (u3 M 5 (Int32.toNatClampNeg (M 0 0 3)) 2 x1) 5 (Int32.toNatClampNeg (M 0 0 3)) 1 x2) 6 (2 * (Int32.toNatClampNeg (M 0 0 3)) + Int32.toNatClampNeg x1) 3 x3) 1 (Int32.toNatClampNeg x1) 2)) 0 0 3 (((f_En_comeTo (u3 (u3 (u3 M 5 (Int32.toNatClampNeg (M 0 0 3)) 2 x1) 5 (Int32.toNatClampNeg (M 0 0 3)) 1 x2) 6 (2 * (Int32.toNatClampNeg (M 0 0 3)) + Int32.toNatClampNeg x1) 3 x3) (2 * (Int32.toNatClampNeg (M 0 0 3)) + Int32.toNatClampNeg x1) 1 ((u3 (u3 (u3 M 5 (Int32.toNatClampNeg (M 0 0 3)) 2 x1) 5 (Int32.toNatClampNeg (M 0 0 3)) 1 x2) 6 (2 * (Int32.toNatClampNeg (M 0 0 3)) + Int32.toNatClampNeg x1) 3 x3) 1 (Int32.toNatClampNeg x1) 2)) 0 0 3) + 1))) else ((-10), M))))
set_option maxHeartbeats 4000000 in
set_option maxRecDepth 100000 in
theorem c_B_init {l : Launch} {D : va_G} {t6 : Nat → ClassId} {b n : Nat} (hn : 104 ≤ n) {M : Mem} {x1 : Int32} {x2 : Int32} {x3 : Int32} (hI : ci_ M) (hb2 : x2 = 0 ∨ x2 = 1) : CI l D t6 b n y_B_init cd_B_init 5 .int (rk 2 44) [.ref (ad b 0 0), .int x1, .int x2, .int x3] M (f_B_init M x1 x2 x3).1 (f_B_init M x1 x2 x3).2 := by
  refine en_i (by decide) (by simp [Value.category]) (Nat.le_of_ble_eq_true rfl) (fun p e s m below meth c G => ?_)
  refine sr_iload_n G rfl d_B_init_0 ?_
  refine sr_csi G ks_B_isSide (c_B_isSide) kc_B_isSide km_B_33 kn_B yy_B_isSide rfl ⟨rfl, rfl, by decide, by decide⟩ (Nat.le_of_ble_eq_true rfl) rfl d_B_init_1 ?_
  refine sr_if_ne G 9 d_B_init_4 rfl (fun h4 => ?_) (fun h4 => ?_)
  · skip
    have v4 : vp_in x1 2 := in_wi (lo := 0) (hi := 1) (by decide) (by decide) h4
    have i4 := ix_lt v4
    have w4 := in_1 v4
    have j4 := ix_lt w4
    refine sr_iload_n G rfl d_B_init_9 ?_
    refine sr_iconst G (v := 1) (by decide) d_B_init_10 ?_
    refine sr_bipush G (v := 7) (by decide) d_B_init_11 ?_
    refine sr_csi G ks_B_isWithin (c_B_isWithin) kc_B_isWithin km_B_41 kn_B yy_B_isWithin rfl ⟨rfl, rfl, by decide, by decide⟩ (Nat.le_of_ble_eq_true rfl) rfl d_B_init_13 ?_
    refine sr_if_ne G 22 d_B_init_16 rfl (fun h16 => ?_) (fun h16 => ?_)
    · skip
      have v16 : vp_in x3 8 := in_wi (lo := 1) (hi := 7) (by decide) (by decide) h16
      have i16 := ix_lt v16
      refine sr_aload_n G rfl d_B_init_22 ?_
      refine sr_get G (vv_0 hn) rfl ku_B rfl 3 (by decide) kf_B_80 rfl rfl d_B_init_23 ?_
      refine sr_iconst G (v := 4) (by decide) d_B_init_26 ?_
      refine sr_icmp_lt G 33 d_B_init_27 rfl (fun h27 => ?_) (fun h27 => ?_)
      · skip
        refine sr_aload_n G rfl d_B_init_33 ?_
        refine sr_get G (vv_0 hn) rfl ku_B rfl 1 (by decide) kf_B_17 rfl rfl d_B_init_34 ?_
        refine sr_aload_n G rfl d_B_init_37 ?_
        refine sr_get G (vv_0 hn) rfl ku_B rfl 3 (by decide) kf_B_80 rfl rfl d_B_init_38 ?_
        have v9 := in_l4 hI h27
        have i9 := ix_lt v9
        refine sr_aald G (vv_11 hn) rfl rfl (by assumption) d_B_init_41 ?_
        refine sr_astore G (by decide) d_B_init_42 ?_
        refine sr_aload G rfl d_B_init_44 ?_
        refine sr_iload_n G rfl d_B_init_46 ?_
        refine sr_putN G (vv_5 hn (by omega)) rfl ku_Ch rfl 2 (by decide) t_Ch ty_Ch nm_Ch kf_B_83 rfl rfl (ty := .int) (by decide +kernel) rfl rfl (Nat.le_of_ble_eq_true rfl) rfl d_B_init_47 ?_
        refine sr_aload G rfl d_B_init_50 ?_
        refine sr_iload_n G rfl d_B_init_52 ?_
        refine sr_putN G (vv_5 hn (by omega)) rfl ku_Ch rfl 1 (by decide) t_Ch ty_Ch nm_Ch kf_B_86 rfl rfl (ty := .boolean) (by decide +kernel) (by rcases hb2 with rfl | rfl <;> decide) (by rcases hb2 with rfl | rfl <;> decide) (Nat.le_of_ble_eq_true rfl) rfl d_B_init_53 ?_
        refine sr_aload G rfl d_B_init_56 ?_
        refine sr_getN G (vv_5 hn (by omega)) rfl ku_Ch rfl 0 (by decide) kf_B_89 rfl rfl d_B_init_58 ?_
        refine sr_iload_n G rfl d_B_init_61 ?_
        refine sr_aald G (vv_13 hn (by omega)) rfl rfl (by assumption) d_B_init_62 ?_
        refine sr_iload_n G rfl d_B_init_63 ?_
        refine sr_putN G (vv_6 hn (by omega)) rfl ku_En rfl 3 (by decide) t_En ty_En nm_En kf_B_93 rfl rfl (ty := .int) (by decide +kernel) rfl rfl (Nat.le_of_ble_eq_true rfl) rfl d_B_init_64 ?_
        refine sr_aload G rfl d_B_init_67 ?_
        refine sr_getN G (vv_5 hn (by omega)) rfl ku_Ch rfl 0 (by decide) kf_B_89 rfl rfl d_B_init_69 ?_
        refine sr_iload_n G rfl d_B_init_72 ?_
        refine sr_aald G (vv_13 hn (by omega)) rfl rfl (by assumption) d_B_init_73 ?_
        refine sr_iconst G (v := 1) (by decide) d_B_init_74 ?_
        refine sr_aload_n G rfl d_B_init_75 ?_
        refine sr_get G (vv_0 hn) rfl ku_B rfl 0 (by decide) kf_B_11 rfl rfl d_B_init_76 ?_
        refine sr_iload_n G rfl d_B_init_79 ?_
        refine sr_aald G (vv_10 hn) rfl rfl (by assumption) d_B_init_80 ?_
        refine sr_getN G (vv_1 hn (by omega)) rfl ku_Le rfl 2 (by decide) kf_B_37 rfl rfl d_B_init_81 ?_
        refine sr_cvNv G (vv_6 hn (by omega)) rfl rfl ki_En_comeTo kx_En_comeTo (c_En_comeTo hn (by first | assumption | omega | decide)) kc_En_comeTo km_B_98 kn_En yy_En_comeTo rfl ⟨rfl, rfl, by decide, by decide⟩ (Nat.le_of_ble_eq_true rfl) rfl d_B_init_84 ?_
        refine sr_aload_n G rfl d_B_init_87 ?_
        refine sr_dup G rfl d_B_init_88 ?_
        refine sr_get G (vv_0 hn) rfl ku_B rfl 3 (by decide) kf_B_80 rfl rfl d_B_init_89 ?_
        refine sr_iconst G (v := 1) (by decide) d_B_init_92 ?_
        refine sr_iadd G d_B_init_93 ?_
        refine sr_put G (vv_0 hn) rfl ku_B rfl 3 (by decide) t_B ty_B nm_B kf_B_80 rfl rfl (ty := .int) (by decide +kernel) rfl rfl (Nat.le_of_ble_eq_true rfl) rfl d_B_init_94 ?_
        refine sr_aload_n G rfl d_B_init_97 ?_
        refine sr_get G (vv_0 hn) rfl ku_B rfl 3 (by decide) kf_B_80 rfl rfl d_B_init_98 ?_
        refine sr_iconst G (v := 1) (by decide) d_B_init_101 ?_
        refine sr_isub G d_B_init_102 ?_
        refine sr_iret G d_B_init_103 ?_
        unfold f_B_init
        rw [if_neg h4, if_neg h16, if_pos h27]
        exact ⟨rfl, rfl⟩
      · skip
        refine sr_bipush G (v := (-10)) (by decide) d_B_init_30 ?_
        refine sr_iret G d_B_init_32 ?_
        unfold f_B_init
        rw [if_neg h4, if_neg h16, if_neg h27]
        exact ⟨rfl, rfl⟩
    · skip
      refine sr_bipush G (v := (-2)) (by decide) d_B_init_19 ?_
      refine sr_iret G d_B_init_21 ?_
      unfold f_B_init
      rw [if_neg h4, if_pos h16]
      exact ⟨rfl, rfl⟩
  · skip
    refine sr_iconst G (v := (-1)) (by decide) d_B_init_7 ?_
    refine sr_iret G d_B_init_8 ?_
    unfold f_B_init
    rw [if_pos h4]
    exact ⟨rfl, rfl⟩
def f_B_meet (M : Mem) (x1 : Int32) (x2 : Int32) (x3 : Int32) : Int32 × Mem := (if (f_B_isChannel M x1) = 0 then ((-1), M) else (if (f_B_isWithin x2 1 7) = 0 then ((-2), M) else (if (f_B_refusalOfStep M x1 (1 - (M 5 (Int32.toNatClampNeg x1) 2)) 0 1 x3) = 0 then (if (f_B_greatestVersion (x2 &&& (M 6 (2 * (Int32.toNatClampNeg x1) + Int32.toNatClampNeg (1 - (1 - (M 5 (Int32.toNatClampNeg x1) 2)))) 3))) = 0 then ((-9), M) else ((f_B_greatestVersion (x2 &&& (M 6 (2 * (Int32.toNatClampNeg x1) + Int32.toNatClampNeg (1 - (1 - (M 5 (Int32.toNatClampNeg x1) 2)))) 3))), (f_En_comeTo (u3 (u3 M 6 (2 * (Int32.toNatClampNeg x1) + Int32.toNatClampNeg (1 - (M 5 (Int32.toNatClampNeg x1) 2))) 3 x2) 6 (2 * (Int32.toNatClampNeg x1) + Int32.toNatClampNeg (1 - (M 5 (Int32.toNatClampNeg x1) 2))) 4 (f_B_greatestVersion (x2 &&& (M 6 (2 * (Int32.toNatClampNeg x1) + Int32.toNatClampNeg (1 - (1 - (M 5 (Int32.toNatClampNeg x1) 2)))) 3)))) (2 * (Int32.toNatClampNeg x1) + Int32.toNatClampNeg (1 - (M 5 (Int32.toNatClampNeg x1) 2))) 2 ((u3 (u3 M 6 (2 * (Int32.toNatClampNeg x1) + Int32.toNatClampNeg (1 - (M 5 (Int32.toNatClampNeg x1) 2))) 3 x2) 6 (2 * (Int32.toNatClampNeg x1) + Int32.toNatClampNeg (1 - (M 5 (Int32.toNatClampNeg x1) 2))) 4 (f_B_greatestVersion (x2 &&& (M 6 (2 * (Int32.toNatClampNeg x1) + Int32.toNatClampNeg (1 - (1 - (M 5 (Int32.toNatClampNeg x1) 2)))) 3)))) 1 (Int32.toNatClampNeg (1 - (M 5 (Int32.toNatClampNeg x1) 2))) 2)))) else ((f_B_refusalOfStep M x1 (1 - (M 5 (Int32.toNatClampNeg x1) 2)) 0 1 x3), M))))
set_option maxHeartbeats 4000000 in
set_option maxRecDepth 100000 in
theorem c_B_meet {l : Launch} {D : va_G} {t6 : Nat → ClassId} {b n : Nat} (hn : 104 ≤ n) {M : Mem} {x1 : Int32} {x2 : Int32} {x3 : Int32} (hI : ci_ M) : CI l D t6 b n y_B_meet cd_B_meet 9 .int (rk 5 113) [.ref (ad b 0 0), .int x1, .int x2, .int x3] M (f_B_meet M x1 x2 x3).1 (f_B_meet M x1 x2 x3).2 := by
  refine en_i (by decide) (by simp [Value.category]) (Nat.le_of_ble_eq_true rfl) (fun p e s m below meth c G => ?_)
  refine sr_aload_n G rfl d_B_meet_0 ?_
  refine sr_iload_n G rfl d_B_meet_1 ?_
  refine sr_cvi G (vv_0 hn) rfl rfl ki_B_isChannel kx_B_isChannel (c_B_isChannel hn) kc_B_isChannel km_B_101 kn_B yy_B_isChannel rfl ⟨rfl, rfl, by decide, by decide⟩ (Nat.le_of_ble_eq_true rfl) rfl d_B_meet_2 ?_
  refine sr_if_ne G 10 d_B_meet_5 rfl (fun h5 => ?_) (fun h5 => ?_)
  · skip
    have v5 : vp_in x1 4 := in_ch hI h5
    have i5 := ix_lt v5
    have f5 := hI.2.2.1 _ i5
    have f5a := ix_lt f5
    have f5b := in_1 f5
    have f5c := ix_lt f5b
    have f5d := in_1 f5b
    have f5e := ix_lt f5d
    refine sr_iload_n G rfl d_B_meet_10 ?_
    refine sr_iconst G (v := 1) (by decide) d_B_meet_11 ?_
    refine sr_bipush G (v := 7) (by decide) d_B_meet_12 ?_
    refine sr_csi G ks_B_isWithin (c_B_isWithin) kc_B_isWithin km_B_41 kn_B yy_B_isWithin rfl ⟨rfl, rfl, by decide, by decide⟩ (Nat.le_of_ble_eq_true rfl) rfl d_B_meet_14 ?_
    refine sr_if_ne G 23 d_B_meet_17 rfl (fun h17 => ?_) (fun h17 => ?_)
    · skip
      have v17 : vp_in x2 8 := in_wi (lo := 1) (hi := 7) (by decide) (by decide) h17
      have i17 := ix_lt v17
      refine sr_iconst G (v := 1) (by decide) d_B_meet_23 ?_
      refine sr_aload_n G rfl d_B_meet_24 ?_
      refine sr_get G (vv_0 hn) rfl ku_B rfl 1 (by decide) kf_B_17 rfl rfl d_B_meet_25 ?_
      refine sr_iload_n G rfl d_B_meet_28 ?_
      refine sr_aald G (vv_11 hn) rfl rfl (by assumption) d_B_meet_29 ?_
      refine sr_getN G (vv_5 hn (by omega)) rfl ku_Ch rfl 2 (by decide) kf_B_83 rfl rfl d_B_meet_30 ?_
      refine sr_isub G d_B_meet_33 ?_
      refine sr_istore G (by decide) d_B_meet_34 ?_
      refine sr_aload_n G rfl d_B_meet_36 ?_
      refine sr_get G (vv_0 hn) rfl ku_B rfl 1 (by decide) kf_B_17 rfl rfl d_B_meet_37 ?_
      refine sr_iload_n G rfl d_B_meet_40 ?_
      refine sr_aald G (vv_11 hn) rfl rfl (by assumption) d_B_meet_41 ?_
      refine sr_getN G (vv_5 hn (by omega)) rfl ku_Ch rfl 0 (by decide) kf_B_89 rfl rfl d_B_meet_42 ?_
      refine sr_iload G rfl d_B_meet_45 ?_
      refine sr_aald G (vv_13 hn (by omega)) rfl rfl (by assumption) d_B_meet_47 ?_
      refine sr_astore G (by decide) d_B_meet_48 ?_
      refine sr_aload_n G rfl d_B_meet_50 ?_
      refine sr_get G (vv_0 hn) rfl ku_B rfl 1 (by decide) kf_B_17 rfl rfl d_B_meet_51 ?_
      refine sr_iload_n G rfl d_B_meet_54 ?_
      refine sr_aald G (vv_11 hn) rfl rfl (by assumption) d_B_meet_55 ?_
      refine sr_getN G (vv_5 hn (by omega)) rfl ku_Ch rfl 0 (by decide) kf_B_89 rfl rfl d_B_meet_56 ?_
      refine sr_iconst G (v := 1) (by decide) d_B_meet_59 ?_
      refine sr_iload G rfl d_B_meet_60 ?_
      refine sr_isub G d_B_meet_62 ?_
      refine sr_aald G (vv_13 hn (by omega)) rfl rfl (by assumption) d_B_meet_63 ?_
      refine sr_astore G (by decide) d_B_meet_64 ?_
      refine sr_aload_n G rfl d_B_meet_66 ?_
      refine sr_iload_n G rfl d_B_meet_67 ?_
      refine sr_iload G rfl d_B_meet_68 ?_
      refine sr_iconst G (v := 0) (by decide) d_B_meet_70 ?_
      refine sr_iconst G (v := 1) (by decide) d_B_meet_71 ?_
      refine sr_iload_n G rfl d_B_meet_72 ?_
      refine sr_cvi G (vv_0 hn) rfl rfl ki_B_refusalOfStep kx_B_refusalOfStep (c_B_refusalOfStep hn (by first | assumption | omega | decide) (by first | assumption | omega | decide)) kc_B_refusalOfStep km_B_104 kn_B yy_B_refusalOfStep rfl ⟨rfl, rfl, by decide, by decide⟩ (Nat.le_of_ble_eq_true rfl) rfl d_B_meet_73 ?_
      refine sr_istore G (by decide) d_B_meet_76 ?_
      refine sr_iload G rfl d_B_meet_78 ?_
      refine sr_if_eq G 86 d_B_meet_80 rfl (fun h80 => ?_) (fun h80 => ?_)
      · skip
        refine sr_iload_n G rfl d_B_meet_86 ?_
        refine sr_aload G rfl d_B_meet_87 ?_
        refine sr_getN G (vv_6 hn (by omega)) rfl ku_En rfl 3 (by decide) kf_B_93 rfl rfl d_B_meet_89 ?_
        refine sr_iand G d_B_meet_92 ?_
        refine sr_csi G ks_B_greatestVersion (c_B_greatestVersion) kc_B_greatestVersion km_B_108 kn_B yy_B_greatestVersion rfl ⟨rfl, rfl, by decide, by decide⟩ (Nat.le_of_ble_eq_true rfl) rfl d_B_meet_93 ?_
        refine sr_istore G (by decide) d_B_meet_96 ?_
        refine sr_iload G rfl d_B_meet_98 ?_
        refine sr_if_ne G 106 d_B_meet_100 rfl (fun h100 => ?_) (fun h100 => ?_)
        · skip
          refine sr_aload G rfl d_B_meet_106 ?_
          refine sr_iload_n G rfl d_B_meet_108 ?_
          refine sr_putN G (vv_6 hn (by omega)) rfl ku_En rfl 3 (by decide) t_En ty_En nm_En kf_B_93 rfl rfl (ty := .int) (by decide +kernel) rfl rfl (Nat.le_of_ble_eq_true rfl) rfl d_B_meet_109 ?_
          refine sr_aload G rfl d_B_meet_112 ?_
          refine sr_iload G rfl d_B_meet_114 ?_
          refine sr_putN G (vv_6 hn (by omega)) rfl ku_En rfl 4 (by decide) t_En ty_En nm_En kf_B_111 rfl rfl (ty := .int) (by decide +kernel) rfl rfl (Nat.le_of_ble_eq_true rfl) rfl d_B_meet_116 ?_
          refine sr_aload G rfl d_B_meet_119 ?_
          refine sr_iconst G (v := 2) (by decide) d_B_meet_121 ?_
          refine sr_aload_n G rfl d_B_meet_122 ?_
          refine sr_get G (vv_0 hn) rfl ku_B rfl 0 (by decide) kf_B_11 rfl rfl d_B_meet_123 ?_
          refine sr_iload G rfl d_B_meet_126 ?_
          refine sr_aald G (vv_10 hn) rfl rfl (by assumption) d_B_meet_128 ?_
          refine sr_getN G (vv_1 hn (by omega)) rfl ku_Le rfl 2 (by decide) kf_B_37 rfl rfl d_B_meet_129 ?_
          refine sr_cvNv G (vv_6 hn (by omega)) rfl rfl ki_En_comeTo kx_En_comeTo (c_En_comeTo hn (by first | assumption | omega | decide)) kc_En_comeTo km_B_98 kn_En yy_En_comeTo rfl ⟨rfl, rfl, by decide, by decide⟩ (Nat.le_of_ble_eq_true rfl) rfl d_B_meet_132 ?_
          refine sr_iload G rfl d_B_meet_135 ?_
          refine sr_iret G d_B_meet_137 ?_
          unfold f_B_meet
          rw [if_neg h5, if_neg h17, if_pos h80, if_neg h100]
          exact ⟨rfl, rfl⟩
        · skip
          refine sr_bipush G (v := (-9)) (by decide) d_B_meet_103 ?_
          refine sr_iret G d_B_meet_105 ?_
          unfold f_B_meet
          rw [if_neg h5, if_neg h17, if_pos h80, if_pos h100]
          exact ⟨rfl, rfl⟩
      · skip
        refine sr_iload G rfl d_B_meet_83 ?_
        refine sr_iret G d_B_meet_85 ?_
        unfold f_B_meet
        rw [if_neg h5, if_neg h17, if_neg h80]
        exact ⟨rfl, rfl⟩
    · skip
      refine sr_bipush G (v := (-2)) (by decide) d_B_meet_20 ?_
      refine sr_iret G d_B_meet_22 ?_
      unfold f_B_meet
      rw [if_neg h5, if_pos h17]
      exact ⟨rfl, rfl⟩
  · skip
    refine sr_iconst G (v := (-1)) (by decide) d_B_meet_8 ?_
    refine sr_iret G d_B_meet_9 ?_
    unfold f_B_meet
    rw [if_pos h5]
    exact ⟨rfl, rfl⟩
def f_B_agree (M : Mem) (x1 : Int32) (x2 : Int32) : Int32 × Mem := (if (f_B_isChannel M x1) = 0 then ((-1), M) else (if (f_B_refusalOfStep M x1 (M 5 (Int32.toNatClampNeg x1) 2) 1 2 x2) = 0 then (((f_En_comeTo (u3 M 6 (2 * (Int32.toNatClampNeg x1) + Int32.toNatClampNeg (M 5 (Int32.toNatClampNeg x1) 2)) 4 (M 6 (2 * (Int32.toNatClampNeg x1) + Int32.toNatClampNeg (1 - (M 5 (Int32.toNatClampNeg x1) 2))) 4)) (2 * (Int32.toNatClampNeg x1) + Int32.toNatClampNeg (M 5 (Int32.toNatClampNeg x1) 2)) 3 ((u3 M 6 (2 * (Int32.toNatClampNeg x1) + Int32.toNatClampNeg (M 5 (Int32.toNatClampNeg x1) 2)) 4 (M 6 (2 * (Int32.toNatClampNeg x1) + Int32.toNatClampNeg (1 - (M 5 (Int32.toNatClampNeg x1) 2))) 4)) 1 (Int32.toNatClampNeg (M 5 (Int32.toNatClampNeg x1) 2)) 2)) 6 (2 * (Int32.toNatClampNeg x1) + Int32.toNatClampNeg (M 5 (Int32.toNatClampNeg x1) 2)) 4), (f_En_comeTo (u3 M 6 (2 * (Int32.toNatClampNeg x1) + Int32.toNatClampNeg (M 5 (Int32.toNatClampNeg x1) 2)) 4 (M 6 (2 * (Int32.toNatClampNeg x1) + Int32.toNatClampNeg (1 - (M 5 (Int32.toNatClampNeg x1) 2))) 4)) (2 * (Int32.toNatClampNeg x1) + Int32.toNatClampNeg (M 5 (Int32.toNatClampNeg x1) 2)) 3 ((u3 M 6 (2 * (Int32.toNatClampNeg x1) + Int32.toNatClampNeg (M 5 (Int32.toNatClampNeg x1) 2)) 4 (M 6 (2 * (Int32.toNatClampNeg x1) + Int32.toNatClampNeg (1 - (M 5 (Int32.toNatClampNeg x1) 2))) 4)) 1 (Int32.toNatClampNeg (M 5 (Int32.toNatClampNeg x1) 2)) 2))) else ((f_B_refusalOfStep M x1 (M 5 (Int32.toNatClampNeg x1) 2) 1 2 x2), M)))
set_option maxHeartbeats 4000000 in
set_option maxRecDepth 100000 in
theorem c_B_agree {l : Launch} {D : va_G} {t6 : Nat → ClassId} {b n : Nat} (hn : 104 ≤ n) {M : Mem} {x1 : Int32} {x2 : Int32} (hI : ci_ M) : CI l D t6 b n y_B_agree cd_B_agree 7 .int (rk 5 113) [.ref (ad b 0 0), .int x1, .int x2] M (f_B_agree M x1 x2).1 (f_B_agree M x1 x2).2 := by
  refine en_i (by decide) (by simp [Value.category]) (Nat.le_of_ble_eq_true rfl) (fun p e s m below meth c G => ?_)
  refine sr_aload_n G rfl d_B_agree_0 ?_
  refine sr_iload_n G rfl d_B_agree_1 ?_
  refine sr_cvi G (vv_0 hn) rfl rfl ki_B_isChannel kx_B_isChannel (c_B_isChannel hn) kc_B_isChannel km_B_101 kn_B yy_B_isChannel rfl ⟨rfl, rfl, by decide, by decide⟩ (Nat.le_of_ble_eq_true rfl) rfl d_B_agree_2 ?_
  refine sr_if_ne G 10 d_B_agree_5 rfl (fun h5 => ?_) (fun h5 => ?_)
  · skip
    have v5 : vp_in x1 4 := in_ch hI h5
    have i5 := ix_lt v5
    have f5 := hI.2.2.1 _ i5
    have f5a := ix_lt f5
    have f5b := in_1 f5
    have f5c := ix_lt f5b
    have f5d := in_1 f5b
    have f5e := ix_lt f5d
    refine sr_aload_n G rfl d_B_agree_10 ?_
    refine sr_get G (vv_0 hn) rfl ku_B rfl 1 (by decide) kf_B_17 rfl rfl d_B_agree_11 ?_
    refine sr_iload_n G rfl d_B_agree_14 ?_
    refine sr_aald G (vv_11 hn) rfl rfl (by assumption) d_B_agree_15 ?_
    refine sr_getN G (vv_5 hn (by omega)) rfl ku_Ch rfl 2 (by decide) kf_B_83 rfl rfl d_B_agree_16 ?_
    refine sr_istore_n G (by decide) d_B_agree_19 ?_
    refine sr_aload_n G rfl d_B_agree_20 ?_
    refine sr_get G (vv_0 hn) rfl ku_B rfl 1 (by decide) kf_B_17 rfl rfl d_B_agree_21 ?_
    refine sr_iload_n G rfl d_B_agree_24 ?_
    refine sr_aald G (vv_11 hn) rfl rfl (by assumption) d_B_agree_25 ?_
    refine sr_getN G (vv_5 hn (by omega)) rfl ku_Ch rfl 0 (by decide) kf_B_89 rfl rfl d_B_agree_26 ?_
    refine sr_iload_n G rfl d_B_agree_29 ?_
    refine sr_aald G (vv_13 hn (by omega)) rfl rfl (by assumption) d_B_agree_30 ?_
    refine sr_astore G (by decide) d_B_agree_31 ?_
    refine sr_aload_n G rfl d_B_agree_33 ?_
    refine sr_get G (vv_0 hn) rfl ku_B rfl 1 (by decide) kf_B_17 rfl rfl d_B_agree_34 ?_
    refine sr_iload_n G rfl d_B_agree_37 ?_
    refine sr_aald G (vv_11 hn) rfl rfl (by assumption) d_B_agree_38 ?_
    refine sr_getN G (vv_5 hn (by omega)) rfl ku_Ch rfl 0 (by decide) kf_B_89 rfl rfl d_B_agree_39 ?_
    refine sr_iconst G (v := 1) (by decide) d_B_agree_42 ?_
    refine sr_iload_n G rfl d_B_agree_43 ?_
    refine sr_isub G d_B_agree_44 ?_
    refine sr_aald G (vv_13 hn (by omega)) rfl rfl (by assumption) d_B_agree_45 ?_
    refine sr_astore G (by decide) d_B_agree_46 ?_
    refine sr_aload_n G rfl d_B_agree_48 ?_
    refine sr_iload_n G rfl d_B_agree_49 ?_
    refine sr_iload_n G rfl d_B_agree_50 ?_
    refine sr_iconst G (v := 1) (by decide) d_B_agree_51 ?_
    refine sr_iconst G (v := 2) (by decide) d_B_agree_52 ?_
    refine sr_iload_n G rfl d_B_agree_53 ?_
    refine sr_cvi G (vv_0 hn) rfl rfl ki_B_refusalOfStep kx_B_refusalOfStep (c_B_refusalOfStep hn (by first | assumption | omega | decide) (by first | assumption | omega | decide)) kc_B_refusalOfStep km_B_104 kn_B yy_B_refusalOfStep rfl ⟨rfl, rfl, by decide, by decide⟩ (Nat.le_of_ble_eq_true rfl) rfl d_B_agree_54 ?_
    refine sr_istore G (by decide) d_B_agree_57 ?_
    refine sr_iload G rfl d_B_agree_59 ?_
    refine sr_if_eq G 67 d_B_agree_61 rfl (fun h61 => ?_) (fun h61 => ?_)
    · skip
      refine sr_aload G rfl d_B_agree_67 ?_
      refine sr_aload G rfl d_B_agree_69 ?_
      refine sr_getN G (vv_6 hn (by omega)) rfl ku_En rfl 4 (by decide) kf_B_111 rfl rfl d_B_agree_71 ?_
      refine sr_putN G (vv_6 hn (by omega)) rfl ku_En rfl 4 (by decide) t_En ty_En nm_En kf_B_111 rfl rfl (ty := .int) (by decide +kernel) rfl rfl (Nat.le_of_ble_eq_true rfl) rfl d_B_agree_74 ?_
      refine sr_aload G rfl d_B_agree_77 ?_
      refine sr_iconst G (v := 3) (by decide) d_B_agree_79 ?_
      refine sr_aload_n G rfl d_B_agree_80 ?_
      refine sr_get G (vv_0 hn) rfl ku_B rfl 0 (by decide) kf_B_11 rfl rfl d_B_agree_81 ?_
      refine sr_iload_n G rfl d_B_agree_84 ?_
      refine sr_aald G (vv_10 hn) rfl rfl (by assumption) d_B_agree_85 ?_
      refine sr_getN G (vv_1 hn (by omega)) rfl ku_Le rfl 2 (by decide) kf_B_37 rfl rfl d_B_agree_86 ?_
      refine sr_cvNv G (vv_6 hn (by omega)) rfl rfl ki_En_comeTo kx_En_comeTo (c_En_comeTo hn (by first | assumption | omega | decide)) kc_En_comeTo km_B_98 kn_En yy_En_comeTo rfl ⟨rfl, rfl, by decide, by decide⟩ (Nat.le_of_ble_eq_true rfl) rfl d_B_agree_89 ?_
      refine sr_aload G rfl d_B_agree_92 ?_
      refine sr_getN G (vv_6 hn (by omega)) rfl ku_En rfl 4 (by decide) kf_B_111 rfl rfl d_B_agree_94 ?_
      refine sr_iret G d_B_agree_97 ?_
      unfold f_B_agree
      rw [if_neg h5, if_pos h61]
      exact ⟨rfl, rfl⟩
    · skip
      refine sr_iload G rfl d_B_agree_64 ?_
      refine sr_iret G d_B_agree_66 ?_
      unfold f_B_agree
      rw [if_neg h5, if_neg h61]
      exact ⟨rfl, rfl⟩
  · skip
    refine sr_iconst G (v := (-1)) (by decide) d_B_agree_8 ?_
    refine sr_iret G d_B_agree_9 ?_
    unfold f_B_agree
    rw [if_pos h5]
    exact ⟨rfl, rfl⟩
def f_B_confirm (M : Mem) (x1 : Int32) (x2 : Int32) : Int32 × Mem := (if (f_B_isChannel M x1) = 0 then ((-1), M) else (if (f_B_refusalOfStep M x1 (1 - (M 5 (Int32.toNatClampNeg x1) 2)) 2 3 x2) = 0 then (((f_En_comeTo M (2 * (Int32.toNatClampNeg x1) + Int32.toNatClampNeg (1 - (M 5 (Int32.toNatClampNeg x1) 2))) 3 (M 1 (Int32.toNatClampNeg (1 - (M 5 (Int32.toNatClampNeg x1) 2))) 2)) 6 (2 * (Int32.toNatClampNeg x1) + Int32.toNatClampNeg (1 - (M 5 (Int32.toNatClampNeg x1) 2))) 4), (f_En_comeTo M (2 * (Int32.toNatClampNeg x1) + Int32.toNatClampNeg (1 - (M 5 (Int32.toNatClampNeg x1) 2))) 3 (M 1 (Int32.toNatClampNeg (1 - (M 5 (Int32.toNatClampNeg x1) 2))) 2))) else ((f_B_refusalOfStep M x1 (1 - (M 5 (Int32.toNatClampNeg x1) 2)) 2 3 x2), M)))
set_option maxHeartbeats 4000000 in
set_option maxRecDepth 100000 in
theorem c_B_confirm {l : Launch} {D : va_G} {t6 : Nat → ClassId} {b n : Nat} (hn : 104 ≤ n) {M : Mem} {x1 : Int32} {x2 : Int32} (hI : ci_ M) : CI l D t6 b n y_B_confirm cd_B_confirm 6 .int (rk 5 113) [.ref (ad b 0 0), .int x1, .int x2] M (f_B_confirm M x1 x2).1 (f_B_confirm M x1 x2).2 := by
  refine en_i (by decide) (by simp [Value.category]) (Nat.le_of_ble_eq_true rfl) (fun p e s m below meth c G => ?_)
  refine sr_aload_n G rfl d_B_confirm_0 ?_
  refine sr_iload_n G rfl d_B_confirm_1 ?_
  refine sr_cvi G (vv_0 hn) rfl rfl ki_B_isChannel kx_B_isChannel (c_B_isChannel hn) kc_B_isChannel km_B_101 kn_B yy_B_isChannel rfl ⟨rfl, rfl, by decide, by decide⟩ (Nat.le_of_ble_eq_true rfl) rfl d_B_confirm_2 ?_
  refine sr_if_ne G 10 d_B_confirm_5 rfl (fun h5 => ?_) (fun h5 => ?_)
  · skip
    have v5 : vp_in x1 4 := in_ch hI h5
    have i5 := ix_lt v5
    have f5 := hI.2.2.1 _ i5
    have f5a := ix_lt f5
    have f5b := in_1 f5
    have f5c := ix_lt f5b
    have f5d := in_1 f5b
    have f5e := ix_lt f5d
    refine sr_iconst G (v := 1) (by decide) d_B_confirm_10 ?_
    refine sr_aload_n G rfl d_B_confirm_11 ?_
    refine sr_get G (vv_0 hn) rfl ku_B rfl 1 (by decide) kf_B_17 rfl rfl d_B_confirm_12 ?_
    refine sr_iload_n G rfl d_B_confirm_15 ?_
    refine sr_aald G (vv_11 hn) rfl rfl (by assumption) d_B_confirm_16 ?_
    refine sr_getN G (vv_5 hn (by omega)) rfl ku_Ch rfl 2 (by decide) kf_B_83 rfl rfl d_B_confirm_17 ?_
    refine sr_isub G d_B_confirm_20 ?_
    refine sr_istore_n G (by decide) d_B_confirm_21 ?_
    refine sr_aload_n G rfl d_B_confirm_22 ?_
    refine sr_get G (vv_0 hn) rfl ku_B rfl 1 (by decide) kf_B_17 rfl rfl d_B_confirm_23 ?_
    refine sr_iload_n G rfl d_B_confirm_26 ?_
    refine sr_aald G (vv_11 hn) rfl rfl (by assumption) d_B_confirm_27 ?_
    refine sr_getN G (vv_5 hn (by omega)) rfl ku_Ch rfl 0 (by decide) kf_B_89 rfl rfl d_B_confirm_28 ?_
    refine sr_iload_n G rfl d_B_confirm_31 ?_
    refine sr_aald G (vv_13 hn (by omega)) rfl rfl (by assumption) d_B_confirm_32 ?_
    refine sr_astore G (by decide) d_B_confirm_33 ?_
    refine sr_aload_n G rfl d_B_confirm_35 ?_
    refine sr_iload_n G rfl d_B_confirm_36 ?_
    refine sr_iload_n G rfl d_B_confirm_37 ?_
    refine sr_iconst G (v := 2) (by decide) d_B_confirm_38 ?_
    refine sr_iconst G (v := 3) (by decide) d_B_confirm_39 ?_
    refine sr_iload_n G rfl d_B_confirm_40 ?_
    refine sr_cvi G (vv_0 hn) rfl rfl ki_B_refusalOfStep kx_B_refusalOfStep (c_B_refusalOfStep hn (by first | assumption | omega | decide) (by first | assumption | omega | decide)) kc_B_refusalOfStep km_B_104 kn_B yy_B_refusalOfStep rfl ⟨rfl, rfl, by decide, by decide⟩ (Nat.le_of_ble_eq_true rfl) rfl d_B_confirm_41 ?_
    refine sr_istore G (by decide) d_B_confirm_44 ?_
    refine sr_iload G rfl d_B_confirm_46 ?_
    refine sr_if_eq G 54 d_B_confirm_48 rfl (fun h48 => ?_) (fun h48 => ?_)
    · skip
      refine sr_aload G rfl d_B_confirm_54 ?_
      refine sr_iconst G (v := 3) (by decide) d_B_confirm_56 ?_
      refine sr_aload_n G rfl d_B_confirm_57 ?_
      refine sr_get G (vv_0 hn) rfl ku_B rfl 0 (by decide) kf_B_11 rfl rfl d_B_confirm_58 ?_
      refine sr_iload_n G rfl d_B_confirm_61 ?_
      refine sr_aald G (vv_10 hn) rfl rfl (by assumption) d_B_confirm_62 ?_
      refine sr_getN G (vv_1 hn (by omega)) rfl ku_Le rfl 2 (by decide) kf_B_37 rfl rfl d_B_confirm_63 ?_
      refine sr_cvNv G (vv_6 hn (by omega)) rfl rfl ki_En_comeTo kx_En_comeTo (c_En_comeTo hn (by first | assumption | omega | decide)) kc_En_comeTo km_B_98 kn_En yy_En_comeTo rfl ⟨rfl, rfl, by decide, by decide⟩ (Nat.le_of_ble_eq_true rfl) rfl d_B_confirm_66 ?_
      refine sr_aload G rfl d_B_confirm_69 ?_
      refine sr_getN G (vv_6 hn (by omega)) rfl ku_En rfl 4 (by decide) kf_B_111 rfl rfl d_B_confirm_71 ?_
      refine sr_iret G d_B_confirm_74 ?_
      unfold f_B_confirm
      rw [if_neg h5, if_pos h48]
      exact ⟨rfl, rfl⟩
    · skip
      refine sr_iload G rfl d_B_confirm_51 ?_
      refine sr_iret G d_B_confirm_53 ?_
      unfold f_B_confirm
      rw [if_neg h5, if_neg h48]
      exact ⟨rfl, rfl⟩
  · skip
    refine sr_iconst G (v := (-1)) (by decide) d_B_confirm_8 ?_
    refine sr_iret G d_B_confirm_9 ?_
    unfold f_B_confirm
    rw [if_pos h5]
    exact ⟨rfl, rfl⟩
def f_B_close (M : Mem) (x1 : Int32) (x2 : Int32) : Int32 × Mem := (if (f_B_isChannel M x1) = 0 then ((-1), M) else (if (f_B_isSide x2) = 0 then ((-1), M) else (if (M 6 (2 * (Int32.toNatClampNeg x1) + Int32.toNatClampNeg x2) 2) = 3 then (1, (f_En_comeTo M (2 * (Int32.toNatClampNeg x1) + Int32.toNatClampNeg x2) 4 (M 1 (Int32.toNatClampNeg x2) 2))) else ((-3), M))))
set_option maxHeartbeats 4000000 in
set_option maxRecDepth 100000 in
theorem c_B_close {l : Launch} {D : va_G} {t6 : Nat → ClassId} {b n : Nat} (hn : 104 ≤ n) {M : Mem} {x1 : Int32} {x2 : Int32} (hI : ci_ M) : CI l D t6 b n y_B_close cd_B_close 4 .int (rk 2 44) [.ref (ad b 0 0), .int x1, .int x2] M (f_B_close M x1 x2).1 (f_B_close M x1 x2).2 := by
  refine en_i (by decide) (by simp [Value.category]) (Nat.le_of_ble_eq_true rfl) (fun p e s m below meth c G => ?_)
  refine sr_aload_n G rfl d_B_close_0 ?_
  refine sr_iload_n G rfl d_B_close_1 ?_
  refine sr_cvi G (vv_0 hn) rfl rfl ki_B_isChannel kx_B_isChannel (c_B_isChannel hn) kc_B_isChannel km_B_101 kn_B yy_B_isChannel rfl ⟨rfl, rfl, by decide, by decide⟩ (Nat.le_of_ble_eq_true rfl) rfl d_B_close_2 ?_
  refine sr_if_eq G 15 d_B_close_5 rfl (fun h5 => ?_) (fun h5 => ?_)
  · skip
    refine sr_iconst G (v := (-1)) (by decide) d_B_close_15 ?_
    refine sr_iret G d_B_close_16 ?_
    unfold f_B_close
    rw [if_pos h5]
    exact ⟨rfl, rfl⟩
  · skip
    have v5 : vp_in x1 4 := in_ch hI h5
    have i5 := ix_lt v5
    have f5 := hI.2.2.1 _ i5
    have f5a := ix_lt f5
    have f5b := in_1 f5
    have f5c := ix_lt f5b
    have f5d := in_1 f5b
    have f5e := ix_lt f5d
    refine sr_iload_n G rfl d_B_close_8 ?_
    refine sr_csi G ks_B_isSide (c_B_isSide) kc_B_isSide km_B_33 kn_B yy_B_isSide rfl ⟨rfl, rfl, by decide, by decide⟩ (Nat.le_of_ble_eq_true rfl) rfl d_B_close_9 ?_
    refine sr_if_ne G 17 d_B_close_12 rfl (fun h12 => ?_) (fun h12 => ?_)
    · skip
      have v12 : vp_in x2 2 := in_wi (lo := 0) (hi := 1) (by decide) (by decide) h12
      have i12 := ix_lt v12
      have w12 := in_1 v12
      have j12 := ix_lt w12
      refine sr_aload_n G rfl d_B_close_17 ?_
      refine sr_get G (vv_0 hn) rfl ku_B rfl 1 (by decide) kf_B_17 rfl rfl d_B_close_18 ?_
      refine sr_iload_n G rfl d_B_close_21 ?_
      refine sr_aald G (vv_11 hn) rfl rfl (by assumption) d_B_close_22 ?_
      refine sr_getN G (vv_5 hn (by omega)) rfl ku_Ch rfl 0 (by decide) kf_B_89 rfl rfl d_B_close_23 ?_
      refine sr_iload_n G rfl d_B_close_26 ?_
      refine sr_aald G (vv_13 hn (by omega)) rfl rfl (by assumption) d_B_close_27 ?_
      refine sr_astore_n G (by decide) d_B_close_28 ?_
      refine sr_aload_n G rfl d_B_close_29 ?_
      refine sr_getN G (vv_6 hn (by omega)) rfl ku_En rfl 2 (by decide) kf_B_114 rfl rfl d_B_close_30 ?_
      refine sr_iconst G (v := 3) (by decide) d_B_close_33 ?_
      refine sr_icmp_eq G 40 d_B_close_34 rfl (fun h34 => ?_) (fun h34 => ?_)
      · skip
        refine sr_aload_n G rfl d_B_close_40 ?_
        refine sr_iconst G (v := 4) (by decide) d_B_close_41 ?_
        refine sr_aload_n G rfl d_B_close_42 ?_
        refine sr_get G (vv_0 hn) rfl ku_B rfl 0 (by decide) kf_B_11 rfl rfl d_B_close_43 ?_
        refine sr_iload_n G rfl d_B_close_46 ?_
        refine sr_aald G (vv_10 hn) rfl rfl (by assumption) d_B_close_47 ?_
        refine sr_getN G (vv_1 hn (by omega)) rfl ku_Le rfl 2 (by decide) kf_B_37 rfl rfl d_B_close_48 ?_
        refine sr_cvNv G (vv_6 hn (by omega)) rfl rfl ki_En_comeTo kx_En_comeTo (c_En_comeTo hn (by first | assumption | omega | decide)) kc_En_comeTo km_B_98 kn_En yy_En_comeTo rfl ⟨rfl, rfl, by decide, by decide⟩ (Nat.le_of_ble_eq_true rfl) rfl d_B_close_51 ?_
        refine sr_iconst G (v := 1) (by decide) d_B_close_54 ?_
        refine sr_iret G d_B_close_55 ?_
        unfold f_B_close
        rw [if_neg h5, if_neg h12, if_pos h34]
        exact ⟨rfl, rfl⟩
      · skip
        refine sr_bipush G (v := (-3)) (by decide) d_B_close_37 ?_
        refine sr_iret G d_B_close_39 ?_
        unfold f_B_close
        rw [if_neg h5, if_neg h12, if_neg h34]
        exact ⟨rfl, rfl⟩
    · skip
      refine sr_iconst G (v := (-1)) (by decide) d_B_close_15 ?_
      refine sr_iret G d_B_close_16 ?_
      unfold f_B_close
      rw [if_neg h5, if_pos h12]
      exact ⟨rfl, rfl⟩
def f_B_shut (M : Mem) (x1 : Int32) (x2 : Int32) (x3 : Int32) : Int32 × Mem := (if (f_B_isChannel M x1) = 0 then ((-1), M) else (if (f_B_isSide x2) = 0 then ((-1), M) else (if (f_B_refusalOfStep M x1 x2 3 4 x3) = 0 then (1, (f_En_comeTo M (2 * (Int32.toNatClampNeg x1) + Int32.toNatClampNeg x2) 4 (M 1 (Int32.toNatClampNeg x2) 2))) else ((f_B_refusalOfStep M x1 x2 3 4 x3), M))))
set_option maxHeartbeats 4000000 in
set_option maxRecDepth 100000 in
theorem c_B_shut {l : Launch} {D : va_G} {t6 : Nat → ClassId} {b n : Nat} (hn : 104 ≤ n) {M : Mem} {x1 : Int32} {x2 : Int32} {x3 : Int32} (hI : ci_ M) : CI l D t6 b n y_B_shut cd_B_shut 5 .int (rk 5 113) [.ref (ad b 0 0), .int x1, .int x2, .int x3] M (f_B_shut M x1 x2 x3).1 (f_B_shut M x1 x2 x3).2 := by
  refine en_i (by decide) (by simp [Value.category]) (Nat.le_of_ble_eq_true rfl) (fun p e s m below meth c G => ?_)
  refine sr_aload_n G rfl d_B_shut_0 ?_
  refine sr_iload_n G rfl d_B_shut_1 ?_
  refine sr_cvi G (vv_0 hn) rfl rfl ki_B_isChannel kx_B_isChannel (c_B_isChannel hn) kc_B_isChannel km_B_101 kn_B yy_B_isChannel rfl ⟨rfl, rfl, by decide, by decide⟩ (Nat.le_of_ble_eq_true rfl) rfl d_B_shut_2 ?_
  refine sr_if_eq G 15 d_B_shut_5 rfl (fun h5 => ?_) (fun h5 => ?_)
  · skip
    refine sr_iconst G (v := (-1)) (by decide) d_B_shut_15 ?_
    refine sr_iret G d_B_shut_16 ?_
    unfold f_B_shut
    rw [if_pos h5]
    exact ⟨rfl, rfl⟩
  · skip
    have v5 : vp_in x1 4 := in_ch hI h5
    have i5 := ix_lt v5
    have f5 := hI.2.2.1 _ i5
    have f5a := ix_lt f5
    have f5b := in_1 f5
    have f5c := ix_lt f5b
    have f5d := in_1 f5b
    have f5e := ix_lt f5d
    refine sr_iload_n G rfl d_B_shut_8 ?_
    refine sr_csi G ks_B_isSide (c_B_isSide) kc_B_isSide km_B_33 kn_B yy_B_isSide rfl ⟨rfl, rfl, by decide, by decide⟩ (Nat.le_of_ble_eq_true rfl) rfl d_B_shut_9 ?_
    refine sr_if_ne G 17 d_B_shut_12 rfl (fun h12 => ?_) (fun h12 => ?_)
    · skip
      have v12 : vp_in x2 2 := in_wi (lo := 0) (hi := 1) (by decide) (by decide) h12
      have i12 := ix_lt v12
      have w12 := in_1 v12
      have j12 := ix_lt w12
      refine sr_aload_n G rfl d_B_shut_17 ?_
      refine sr_iload_n G rfl d_B_shut_18 ?_
      refine sr_iload_n G rfl d_B_shut_19 ?_
      refine sr_iconst G (v := 3) (by decide) d_B_shut_20 ?_
      refine sr_iconst G (v := 4) (by decide) d_B_shut_21 ?_
      refine sr_iload_n G rfl d_B_shut_22 ?_
      refine sr_cvi G (vv_0 hn) rfl rfl ki_B_refusalOfStep kx_B_refusalOfStep (c_B_refusalOfStep hn (by first | assumption | omega | decide) (by first | assumption | omega | decide)) kc_B_refusalOfStep km_B_104 kn_B yy_B_refusalOfStep rfl ⟨rfl, rfl, by decide, by decide⟩ (Nat.le_of_ble_eq_true rfl) rfl d_B_shut_23 ?_
      refine sr_istore G (by decide) d_B_shut_26 ?_
      refine sr_iload G rfl d_B_shut_28 ?_
      refine sr_if_eq G 36 d_B_shut_30 rfl (fun h30 => ?_) (fun h30 => ?_)
      · skip
        refine sr_aload_n G rfl d_B_shut_36 ?_
        refine sr_get G (vv_0 hn) rfl ku_B rfl 1 (by decide) kf_B_17 rfl rfl d_B_shut_37 ?_
        refine sr_iload_n G rfl d_B_shut_40 ?_
        refine sr_aald G (vv_11 hn) rfl rfl (by assumption) d_B_shut_41 ?_
        refine sr_getN G (vv_5 hn (by omega)) rfl ku_Ch rfl 0 (by decide) kf_B_89 rfl rfl d_B_shut_42 ?_
        refine sr_iload_n G rfl d_B_shut_45 ?_
        refine sr_aald G (vv_13 hn (by omega)) rfl rfl (by assumption) d_B_shut_46 ?_
        refine sr_iconst G (v := 4) (by decide) d_B_shut_47 ?_
        refine sr_aload_n G rfl d_B_shut_48 ?_
        refine sr_get G (vv_0 hn) rfl ku_B rfl 0 (by decide) kf_B_11 rfl rfl d_B_shut_49 ?_
        refine sr_iload_n G rfl d_B_shut_52 ?_
        refine sr_aald G (vv_10 hn) rfl rfl (by assumption) d_B_shut_53 ?_
        refine sr_getN G (vv_1 hn (by omega)) rfl ku_Le rfl 2 (by decide) kf_B_37 rfl rfl d_B_shut_54 ?_
        refine sr_cvNv G (vv_6 hn (by omega)) rfl rfl ki_En_comeTo kx_En_comeTo (c_En_comeTo hn (by first | assumption | omega | decide)) kc_En_comeTo km_B_98 kn_En yy_En_comeTo rfl ⟨rfl, rfl, by decide, by decide⟩ (Nat.le_of_ble_eq_true rfl) rfl d_B_shut_57 ?_
        refine sr_iconst G (v := 1) (by decide) d_B_shut_60 ?_
        refine sr_iret G d_B_shut_61 ?_
        unfold f_B_shut
        rw [if_neg h5, if_neg h12, if_pos h30]
        exact ⟨rfl, rfl⟩
      · skip
        refine sr_iload G rfl d_B_shut_33 ?_
        refine sr_iret G d_B_shut_35 ?_
        unfold f_B_shut
        rw [if_neg h5, if_neg h12, if_neg h30]
        exact ⟨rfl, rfl⟩
    · skip
      refine sr_iconst G (v := (-1)) (by decide) d_B_shut_15 ?_
      refine sr_iret G d_B_shut_16 ?_
      unfold f_B_shut
      rw [if_neg h5, if_pos h12]
      exact ⟨rfl, rfl⟩
end
section
def f_B_send (M : Mem) (x1 : Int32) (x2 : Int32) (x3 : Int32) (x4 : Int32) (x5 : Int32) (x6 : Int32) (x7 : Int32) : Int32 × Mem := (if (f_B_isChannel M x1) = 0 then ((-1), M) else (if (f_B_isSide x2) = 0 then ((-1), M) else (if (f_B_isAccount x3) = 0 then ((-1), M) else (if (f_B_isCoin x5) = 0 then ((-1), M) else (if (f_B_isWithin x4 0 7) = 0 then ((-2), M) else (if (f_B_isWithin x6 1 1000) = 0 then ((-2), M) else (if (f_B_isWithin x7 1 200) = 0 then ((-2), M) else (if (M 6 (2 * (Int32.toNatClampNeg x1) + Int32.toNatClampNeg x2) 2) = 3 then (if x5 = x2 then (if x6 ≤ (M 2 (Int32.toNatClampNeg x2) (Int32.toNatClampNeg x3)) then (if (M 3 (Int32.toNatClampNeg x2) 1) = 0 then (if (M 3 (Int32.toNatClampNeg x2) 2) < x7 then (if (M 0 0 4) < 60 then ((((f_B_write (f_B_takeIn M x1 x2 x3 x5 x6) x1 x2 x3 x4 x5 x6 x7) 0 0 4) - 1), (f_B_write (f_B_takeIn M x1 x2 x3 x5 x6) x1 x2 x3 x4 x5 x6 x7)) else ((-10), M)) else ((-7), M)) else ((-4), M)) else ((-3), M)) else (if x6 ≤ (M 8 (2 * Int32.toNatClampNeg x1 + Int32.toNatClampNeg x2) (Int32.toNatClampNeg x3)) then (if (M 3 (Int32.toNatClampNeg x2) 1) = 0 then (if (M 3 (Int32.toNatClampNeg x2) 2) < x7 then (if (M 0 0 4) < 60 then ((((f_B_write (f_B_takeIn M x1 x2 x3 x5 x6) x1 x2 x3 x4 x5 x6 x7) 0 0 4) - 1), (f_B_write (f_B_takeIn M x1 x2 x3 x5 x6) x1 x2 x3 x4 x5 x6 x7)) else ((-10), M)) else ((-7), M)) else ((-4), M)) else ((-3), M))) else ((-3), M)))))))))
set_option maxHeartbeats 4000000 in
set_option maxRecDepth 100000 in
theorem c_B_send {l : Launch} {D : va_G} {t6 : Nat → ClassId} {b n : Nat} (hn : 104 ≤ n) {M : Mem} {x1 : Int32} {x2 : Int32} {x3 : Int32} {x4 : Int32} {x5 : Int32} {x6 : Int32} {x7 : Int32} (hI : ci_ M) : CI l D t6 b n y_B_send cd_B_send 9 .int (rk 2 50) [.ref (ad b 0 0), .int x1, .int x2, .int x3, .int x4, .int x5, .int x6, .int x7] M (f_B_send M x1 x2 x3 x4 x5 x6 x7).1 (f_B_send M x1 x2 x3 x4 x5 x6 x7).2 := by
  refine en_i (by decide) (by simp [Value.category]) (Nat.le_of_ble_eq_true rfl) (fun p e s m below meth c G => ?_)
  refine sr_aload_n G rfl d_B_send_0 ?_
  refine sr_iload_n G rfl d_B_send_1 ?_
  refine sr_cvi G (vv_0 hn) rfl rfl ki_B_isChannel kx_B_isChannel (c_B_isChannel hn) kc_B_isChannel km_B_101 kn_B yy_B_isChannel rfl ⟨rfl, rfl, by decide, by decide⟩ (Nat.le_of_ble_eq_true rfl) rfl d_B_send_2 ?_
  refine sr_if_eq G 30 d_B_send_5 rfl (fun h5 => ?_) (fun h5 => ?_)
  · skip
    refine sr_iconst G (v := (-1)) (by decide) d_B_send_30 ?_
    refine sr_iret G d_B_send_31 ?_
    unfold f_B_send
    rw [if_pos h5]
    exact ⟨rfl, rfl⟩
  · skip
    have v5 : vp_in x1 4 := in_ch hI h5
    have i5 := ix_lt v5
    have f5 := hI.2.2.1 _ i5
    have f5a := ix_lt f5
    have f5b := in_1 f5
    have f5c := ix_lt f5b
    have f5d := in_1 f5b
    have f5e := ix_lt f5d
    refine sr_iload_n G rfl d_B_send_8 ?_
    refine sr_csi G ks_B_isSide (c_B_isSide) kc_B_isSide km_B_33 kn_B yy_B_isSide rfl ⟨rfl, rfl, by decide, by decide⟩ (Nat.le_of_ble_eq_true rfl) rfl d_B_send_9 ?_
    refine sr_if_eq G 30 d_B_send_12 rfl (fun h12 => ?_) (fun h12 => ?_)
    · skip
      refine sr_iconst G (v := (-1)) (by decide) d_B_send_30 ?_
      refine sr_iret G d_B_send_31 ?_
      unfold f_B_send
      rw [if_neg h5, if_pos h12]
      exact ⟨rfl, rfl⟩
    · skip
      have v12 : vp_in x2 2 := in_wi (lo := 0) (hi := 1) (by decide) (by decide) h12
      have i12 := ix_lt v12
      have w12 := in_1 v12
      have j12 := ix_lt w12
      refine sr_iload_n G rfl d_B_send_15 ?_
      refine sr_csi G ks_B_isAccount (c_B_isAccount) kc_B_isAccount km_B_117 kn_B yy_B_isAccount rfl ⟨rfl, rfl, by decide, by decide⟩ (Nat.le_of_ble_eq_true rfl) rfl d_B_send_16 ?_
      refine sr_if_eq G 30 d_B_send_19 rfl (fun h19 => ?_) (fun h19 => ?_)
      · skip
        refine sr_iconst G (v := (-1)) (by decide) d_B_send_30 ?_
        refine sr_iret G d_B_send_31 ?_
        unfold f_B_send
        rw [if_neg h5, if_neg h12, if_pos h19]
        exact ⟨rfl, rfl⟩
      · skip
        have v19 : vp_in x3 4 := in_wi (lo := 0) (hi := 3) (by decide) (by decide) h19
        have i19 := ix_lt v19
        refine sr_iload G rfl d_B_send_22 ?_
        refine sr_csi G ks_B_isCoin (c_B_isCoin) kc_B_isCoin km_B_120 kn_B yy_B_isCoin rfl ⟨rfl, rfl, by decide, by decide⟩ (Nat.le_of_ble_eq_true rfl) rfl d_B_send_24 ?_
        refine sr_if_ne G 32 d_B_send_27 rfl (fun h27 => ?_) (fun h27 => ?_)
        · skip
          have v27 : vp_in x5 2 := in_wi (lo := 0) (hi := 1) (by decide) (by decide) h27
          have i27 := ix_lt v27
          have w27 := in_1 v27
          have j27 := ix_lt w27
          refine sr_iload G rfl d_B_send_32 ?_
          refine sr_iconst G (v := 0) (by decide) d_B_send_34 ?_
          refine sr_bipush G (v := 7) (by decide) d_B_send_35 ?_
          refine sr_csi G ks_B_isWithin (c_B_isWithin) kc_B_isWithin km_B_41 kn_B yy_B_isWithin rfl ⟨rfl, rfl, by decide, by decide⟩ (Nat.le_of_ble_eq_true rfl) rfl d_B_send_37 ?_
          refine sr_if_eq G 67 d_B_send_40 rfl (fun h40 => ?_) (fun h40 => ?_)
          · skip
            refine sr_bipush G (v := (-2)) (by decide) d_B_send_67 ?_
            refine sr_iret G d_B_send_69 ?_
            unfold f_B_send
            rw [if_neg h5, if_neg h12, if_neg h19, if_neg h27, if_pos h40]
            exact ⟨rfl, rfl⟩
          · skip
            have v40 : vp_in x4 8 := in_wi (lo := 0) (hi := 7) (by decide) (by decide) h40
            have i40 := ix_lt v40
            refine sr_iload G rfl d_B_send_43 ?_
            refine sr_iconst G (v := 1) (by decide) d_B_send_45 ?_
            refine sr_sipush G (v := 1000) (by decide) d_B_send_46 ?_
            refine sr_csi G ks_B_isWithin (c_B_isWithin) kc_B_isWithin km_B_41 kn_B yy_B_isWithin rfl ⟨rfl, rfl, by decide, by decide⟩ (Nat.le_of_ble_eq_true rfl) rfl d_B_send_49 ?_
            refine sr_if_eq G 67 d_B_send_52 rfl (fun h52 => ?_) (fun h52 => ?_)
            · skip
              refine sr_bipush G (v := (-2)) (by decide) d_B_send_67 ?_
              refine sr_iret G d_B_send_69 ?_
              unfold f_B_send
              rw [if_neg h5, if_neg h12, if_neg h19, if_neg h27, if_neg h40, if_pos h52]
              exact ⟨rfl, rfl⟩
            · skip
              have v52 : vp_in x6 1001 := in_wi (lo := 1) (hi := 1000) (by decide) (by decide) h52
              have i52 := ix_lt v52
              refine sr_iload G rfl d_B_send_55 ?_
              refine sr_iconst G (v := 1) (by decide) d_B_send_57 ?_
              refine sr_sipush G (v := 200) (by decide) d_B_send_58 ?_
              refine sr_csi G ks_B_isWithin (c_B_isWithin) kc_B_isWithin km_B_41 kn_B yy_B_isWithin rfl ⟨rfl, rfl, by decide, by decide⟩ (Nat.le_of_ble_eq_true rfl) rfl d_B_send_61 ?_
              refine sr_if_ne G 70 d_B_send_64 rfl (fun h64 => ?_) (fun h64 => ?_)
              · skip
                have v64 : vp_in x7 201 := in_wi (lo := 1) (hi := 200) (by decide) (by decide) h64
                have i64 := ix_lt v64
                refine sr_aload_n G rfl d_B_send_70 ?_
                refine sr_get G (vv_0 hn) rfl ku_B rfl 1 (by decide) kf_B_17 rfl rfl d_B_send_71 ?_
                refine sr_iload_n G rfl d_B_send_74 ?_
                refine sr_aald G (vv_11 hn) rfl rfl (by assumption) d_B_send_75 ?_
                refine sr_getN G (vv_5 hn (by omega)) rfl ku_Ch rfl 0 (by decide) kf_B_89 rfl rfl d_B_send_76 ?_
                refine sr_iload_n G rfl d_B_send_79 ?_
                refine sr_aald G (vv_13 hn (by omega)) rfl rfl (by assumption) d_B_send_80 ?_
                refine sr_getN G (vv_6 hn (by omega)) rfl ku_En rfl 2 (by decide) kf_B_114 rfl rfl d_B_send_81 ?_
                refine sr_iconst G (v := 3) (by decide) d_B_send_84 ?_
                refine sr_icmp_ne G 103 d_B_send_85 rfl (fun h85 => ?_) (fun h85 => ?_)
                · skip
                  refine sr_bipush G (v := (-3)) (by decide) d_B_send_103 ?_
                  refine sr_iret G d_B_send_105 ?_
                  unfold f_B_send
                  rw [if_neg h5, if_neg h12, if_neg h19, if_neg h27, if_neg h40, if_neg h52, if_neg h64, if_neg h85]
                  exact ⟨rfl, rfl⟩
                · skip
                  refine sr_aload_n G rfl d_B_send_88 ?_
                  refine sr_iload_n G rfl d_B_send_89 ?_
                  refine sr_iload_n G rfl d_B_send_90 ?_
                  refine sr_iload G rfl d_B_send_91 ?_
                  by_cases h93 : x5 = x2
                  · skip
                    refine sr_cva G (vv_0 hn) rfl rfl ki_B_purse kx_B_purse (c_B_purse_h hn (by assumption) (by assumption) h93) kc_B_purse km_B_123 kn_B yy_B_purse rfl ⟨rfl, rfl, by decide, by decide⟩ (Nat.le_of_ble_eq_true rfl) rfl d_B_send_93 ?_
                    refine sr_iload_n G rfl d_B_send_96 ?_
                    refine sr_iald G (vv_2 hn (by omega)) rfl (by assumption) d_B_send_97 ?_
                    refine sr_iload G rfl d_B_send_98 ?_
                    refine sr_icmp_ge G 106 d_B_send_100 rfl (fun h100 => ?_) (fun h100 => ?_)
                    · skip
                      refine sr_aload_n G rfl d_B_send_106 ?_
                      refine sr_get G (vv_0 hn) rfl ku_B rfl 0 (by decide) kf_B_11 rfl rfl d_B_send_107 ?_
                      refine sr_iload_n G rfl d_B_send_110 ?_
                      refine sr_aald G (vv_10 hn) rfl rfl (by assumption) d_B_send_111 ?_
                      refine sr_getN G (vv_1 hn (by omega)) rfl ku_Le rfl 1 (by decide) kf_B_45 rfl rfl d_B_send_112 ?_
                      refine sr_astore G (by decide) d_B_send_115 ?_
                      refine sr_aload G rfl d_B_send_117 ?_
                      refine sr_getN G (vv_3 hn (by omega)) rfl ku_Cl rfl 1 (by decide) kf_B_59 rfl rfl d_B_send_119 ?_
                      refine sr_if_eq G 128 d_B_send_122 rfl (fun h122 => ?_) (fun h122 => ?_)
                      · skip
                        refine sr_aload G rfl d_B_send_128 ?_
                        refine sr_getN G (vv_3 hn (by omega)) rfl ku_Cl rfl 2 (by decide) kf_B_77 rfl rfl d_B_send_130 ?_
                        refine sr_iload G rfl d_B_send_133 ?_
                        refine sr_icmp_lt G 141 d_B_send_135 rfl (fun h135 => ?_) (fun h135 => ?_)
                        · skip
                          refine sr_aload_n G rfl d_B_send_141 ?_
                          refine sr_get G (vv_0 hn) rfl ku_B rfl 4 (by decide) kf_B_127 rfl rfl d_B_send_142 ?_
                          refine sr_bipush G (v := 60) (by decide) d_B_send_145 ?_
                          refine sr_icmp_lt G 153 d_B_send_147 rfl (fun h147 => ?_) (fun h147 => ?_)
                          · skip
                            refine sr_aload_n G rfl d_B_send_153 ?_
                            refine sr_iload_n G rfl d_B_send_154 ?_
                            refine sr_iload_n G rfl d_B_send_155 ?_
                            refine sr_iload_n G rfl d_B_send_156 ?_
                            refine sr_iload G rfl d_B_send_157 ?_
                            refine sr_iload G rfl d_B_send_159 ?_
                            refine sr_cvv G (vv_0 hn) rfl rfl ki_B_takeIn kx_B_takeIn (c_B_takeIn hn (by first | assumption | omega | decide) (by first | assumption | omega | decide) (by first | assumption | omega | decide)) kc_B_takeIn km_B_130 kn_B yy_B_takeIn rfl ⟨rfl, rfl, by decide, by decide⟩ (Nat.le_of_ble_eq_true rfl) rfl d_B_send_161 ?_
                            refine sr_aload_n G rfl d_B_send_164 ?_
                            refine sr_iload_n G rfl d_B_send_165 ?_
                            refine sr_iload_n G rfl d_B_send_166 ?_
                            refine sr_iload_n G rfl d_B_send_167 ?_
                            refine sr_iload G rfl d_B_send_168 ?_
                            refine sr_iload G rfl d_B_send_170 ?_
                            refine sr_iload G rfl d_B_send_172 ?_
                            refine sr_iload G rfl d_B_send_174 ?_
                            have v9 : vp_in (f_B_takeIn M x1 x2 x3 x5 x6 0 0 4) 60 := by rw [tk_mc]; exact in_l60 hI h147
                            refine sr_cvv G (vv_0 hn) rfl rfl ki_B_write kx_B_write (c_B_write hn (by first | assumption | omega | decide) (by first | assumption | omega | decide) (by first | assumption | omega | decide)) kc_B_write km_B_134 kn_B yy_B_write rfl ⟨rfl, rfl, by decide, by decide⟩ (Nat.le_of_ble_eq_true rfl) rfl d_B_send_176 ?_
                            refine sr_aload_n G rfl d_B_send_179 ?_
                            refine sr_get G (vv_0 hn) rfl ku_B rfl 4 (by decide) kf_B_127 rfl rfl d_B_send_180 ?_
                            refine sr_iconst G (v := 1) (by decide) d_B_send_183 ?_
                            refine sr_isub G d_B_send_184 ?_
                            refine sr_iret G d_B_send_185 ?_
                            unfold f_B_send
                            rw [if_neg h5, if_neg h12, if_neg h19, if_neg h27, if_neg h40, if_neg h52, if_neg h64, if_pos h85, if_pos h93, if_pos h100, if_pos h122, if_pos h135, if_pos h147]
                            exact ⟨rfl, rfl⟩
                          · skip
                            refine sr_bipush G (v := (-10)) (by decide) d_B_send_150 ?_
                            refine sr_iret G d_B_send_152 ?_
                            unfold f_B_send
                            rw [if_neg h5, if_neg h12, if_neg h19, if_neg h27, if_neg h40, if_neg h52, if_neg h64, if_pos h85, if_pos h93, if_pos h100, if_pos h122, if_pos h135, if_neg h147]
                            exact ⟨rfl, rfl⟩
                        · skip
                          refine sr_bipush G (v := (-7)) (by decide) d_B_send_138 ?_
                          refine sr_iret G d_B_send_140 ?_
                          unfold f_B_send
                          rw [if_neg h5, if_neg h12, if_neg h19, if_neg h27, if_neg h40, if_neg h52, if_neg h64, if_pos h85, if_pos h93, if_pos h100, if_pos h122, if_neg h135]
                          exact ⟨rfl, rfl⟩
                      · skip
                        refine sr_bipush G (v := (-4)) (by decide) d_B_send_125 ?_
                        refine sr_iret G d_B_send_127 ?_
                        unfold f_B_send
                        rw [if_neg h5, if_neg h12, if_neg h19, if_neg h27, if_neg h40, if_neg h52, if_neg h64, if_pos h85, if_pos h93, if_pos h100, if_neg h122]
                        exact ⟨rfl, rfl⟩
                    · skip
                      refine sr_bipush G (v := (-3)) (by decide) d_B_send_103 ?_
                      refine sr_iret G d_B_send_105 ?_
                      unfold f_B_send
                      rw [if_neg h5, if_neg h12, if_neg h19, if_neg h27, if_neg h40, if_neg h52, if_neg h64, if_pos h85, if_pos h93, if_neg h100]
                      exact ⟨rfl, rfl⟩
                  · skip
                    refine sr_cva G (vv_0 hn) rfl rfl ki_B_purse kx_B_purse (c_B_purse_o hn (by assumption) (by assumption) h93) kc_B_purse km_B_123 kn_B yy_B_purse rfl ⟨rfl, rfl, by decide, by decide⟩ (Nat.le_of_ble_eq_true rfl) rfl d_B_send_93 ?_
                    refine sr_iload_n G rfl d_B_send_96 ?_
                    refine sr_iald G (vv_8 hn (by omega)) rfl (by assumption) d_B_send_97 ?_
                    refine sr_iload G rfl d_B_send_98 ?_
                    refine sr_icmp_ge G 106 d_B_send_100 rfl (fun h100 => ?_) (fun h100 => ?_)
                    · skip
                      refine sr_aload_n G rfl d_B_send_106 ?_
                      refine sr_get G (vv_0 hn) rfl ku_B rfl 0 (by decide) kf_B_11 rfl rfl d_B_send_107 ?_
                      refine sr_iload_n G rfl d_B_send_110 ?_
                      refine sr_aald G (vv_10 hn) rfl rfl (by assumption) d_B_send_111 ?_
                      refine sr_getN G (vv_1 hn (by omega)) rfl ku_Le rfl 1 (by decide) kf_B_45 rfl rfl d_B_send_112 ?_
                      refine sr_astore G (by decide) d_B_send_115 ?_
                      refine sr_aload G rfl d_B_send_117 ?_
                      refine sr_getN G (vv_3 hn (by omega)) rfl ku_Cl rfl 1 (by decide) kf_B_59 rfl rfl d_B_send_119 ?_
                      refine sr_if_eq G 128 d_B_send_122 rfl (fun h122 => ?_) (fun h122 => ?_)
                      · skip
                        refine sr_aload G rfl d_B_send_128 ?_
                        refine sr_getN G (vv_3 hn (by omega)) rfl ku_Cl rfl 2 (by decide) kf_B_77 rfl rfl d_B_send_130 ?_
                        refine sr_iload G rfl d_B_send_133 ?_
                        refine sr_icmp_lt G 141 d_B_send_135 rfl (fun h135 => ?_) (fun h135 => ?_)
                        · skip
                          refine sr_aload_n G rfl d_B_send_141 ?_
                          refine sr_get G (vv_0 hn) rfl ku_B rfl 4 (by decide) kf_B_127 rfl rfl d_B_send_142 ?_
                          refine sr_bipush G (v := 60) (by decide) d_B_send_145 ?_
                          refine sr_icmp_lt G 153 d_B_send_147 rfl (fun h147 => ?_) (fun h147 => ?_)
                          · skip
                            refine sr_aload_n G rfl d_B_send_153 ?_
                            refine sr_iload_n G rfl d_B_send_154 ?_
                            refine sr_iload_n G rfl d_B_send_155 ?_
                            refine sr_iload_n G rfl d_B_send_156 ?_
                            refine sr_iload G rfl d_B_send_157 ?_
                            refine sr_iload G rfl d_B_send_159 ?_
                            refine sr_cvv G (vv_0 hn) rfl rfl ki_B_takeIn kx_B_takeIn (c_B_takeIn hn (by first | assumption | omega | decide) (by first | assumption | omega | decide) (by first | assumption | omega | decide)) kc_B_takeIn km_B_130 kn_B yy_B_takeIn rfl ⟨rfl, rfl, by decide, by decide⟩ (Nat.le_of_ble_eq_true rfl) rfl d_B_send_161 ?_
                            refine sr_aload_n G rfl d_B_send_164 ?_
                            refine sr_iload_n G rfl d_B_send_165 ?_
                            refine sr_iload_n G rfl d_B_send_166 ?_
                            refine sr_iload_n G rfl d_B_send_167 ?_
                            refine sr_iload G rfl d_B_send_168 ?_
                            refine sr_iload G rfl d_B_send_170 ?_
                            refine sr_iload G rfl d_B_send_172 ?_
                            refine sr_iload G rfl d_B_send_174 ?_
                            have v9 : vp_in (f_B_takeIn M x1 x2 x3 x5 x6 0 0 4) 60 := by rw [tk_mc]; exact in_l60 hI h147
                            refine sr_cvv G (vv_0 hn) rfl rfl ki_B_write kx_B_write (c_B_write hn (by first | assumption | omega | decide) (by first | assumption | omega | decide) (by first | assumption | omega | decide)) kc_B_write km_B_134 kn_B yy_B_write rfl ⟨rfl, rfl, by decide, by decide⟩ (Nat.le_of_ble_eq_true rfl) rfl d_B_send_176 ?_
                            refine sr_aload_n G rfl d_B_send_179 ?_
                            refine sr_get G (vv_0 hn) rfl ku_B rfl 4 (by decide) kf_B_127 rfl rfl d_B_send_180 ?_
                            refine sr_iconst G (v := 1) (by decide) d_B_send_183 ?_
                            refine sr_isub G d_B_send_184 ?_
                            refine sr_iret G d_B_send_185 ?_
                            unfold f_B_send
                            rw [if_neg h5, if_neg h12, if_neg h19, if_neg h27, if_neg h40, if_neg h52, if_neg h64, if_pos h85, if_neg h93, if_pos h100, if_pos h122, if_pos h135, if_pos h147]
                            exact ⟨rfl, rfl⟩
                          · skip
                            refine sr_bipush G (v := (-10)) (by decide) d_B_send_150 ?_
                            refine sr_iret G d_B_send_152 ?_
                            unfold f_B_send
                            rw [if_neg h5, if_neg h12, if_neg h19, if_neg h27, if_neg h40, if_neg h52, if_neg h64, if_pos h85, if_neg h93, if_pos h100, if_pos h122, if_pos h135, if_neg h147]
                            exact ⟨rfl, rfl⟩
                        · skip
                          refine sr_bipush G (v := (-7)) (by decide) d_B_send_138 ?_
                          refine sr_iret G d_B_send_140 ?_
                          unfold f_B_send
                          rw [if_neg h5, if_neg h12, if_neg h19, if_neg h27, if_neg h40, if_neg h52, if_neg h64, if_pos h85, if_neg h93, if_pos h100, if_pos h122, if_neg h135]
                          exact ⟨rfl, rfl⟩
                      · skip
                        refine sr_bipush G (v := (-4)) (by decide) d_B_send_125 ?_
                        refine sr_iret G d_B_send_127 ?_
                        unfold f_B_send
                        rw [if_neg h5, if_neg h12, if_neg h19, if_neg h27, if_neg h40, if_neg h52, if_neg h64, if_pos h85, if_neg h93, if_pos h100, if_neg h122]
                        exact ⟨rfl, rfl⟩
                    · skip
                      refine sr_bipush G (v := (-3)) (by decide) d_B_send_103 ?_
                      refine sr_iret G d_B_send_105 ?_
                      unfold f_B_send
                      rw [if_neg h5, if_neg h12, if_neg h19, if_neg h27, if_neg h40, if_neg h52, if_neg h64, if_pos h85, if_neg h93, if_neg h100]
                      exact ⟨rfl, rfl⟩
              · skip
                refine sr_bipush G (v := (-2)) (by decide) d_B_send_67 ?_
                refine sr_iret G d_B_send_69 ?_
                unfold f_B_send
                rw [if_neg h5, if_neg h12, if_neg h19, if_neg h27, if_neg h40, if_neg h52, if_pos h64]
                exact ⟨rfl, rfl⟩
        · skip
          refine sr_iconst G (v := (-1)) (by decide) d_B_send_30 ?_
          refine sr_iret G d_B_send_31 ?_
          unfold f_B_send
          rw [if_neg h5, if_neg h12, if_neg h19, if_pos h27]
          exact ⟨rfl, rfl⟩
def f_B_receive (M : Mem) (x1 : Int32) (x2 : Int32) : Int32 × Mem := (if (f_B_isMessage M x1) = 0 then ((-1), M) else (if (M 6 (2 * (Int32.toNatClampNeg (M 9 (Int32.toNatClampNeg x1) 0)) + Int32.toNatClampNeg (1 - (M 9 (Int32.toNatClampNeg x1) 1))) 2) = 3 then (if (M 9 (Int32.toNatClampNeg x1) 10) = 0 then (if (f_Cl_refusal M (Int32.toNatClampNeg (1 - (M 9 (Int32.toNatClampNeg x1) 1))) x2) = 0 then (if (f_Me_standsIn M (Int32.toNatClampNeg x1) x2) = 0 then ((-6), M) else (if (M 1 (Int32.toNatClampNeg (1 - (M 9 (Int32.toNatClampNeg x1) 1))) 2) < (M 9 (Int32.toNatClampNeg x1) 7) then (if (M 5 (Int32.toNatClampNeg (M 9 (Int32.toNatClampNeg x1) 0)) 1) = 0 then (if (f_B_isAccount (M 9 (Int32.toNatClampNeg x1) 4)) = 0 then ((f_B_oneIf (f_B_isAccount (M 9 (Int32.toNatClampNeg x1) 4))), (u3 (u3 (u3 M 6 (2 * (Int32.toNatClampNeg (M 9 (Int32.toNatClampNeg x1) 0)) + Int32.toNatClampNeg (1 - (M 9 (Int32.toNatClampNeg x1) 1))) 7 ((M 6 (2 * (Int32.toNatClampNeg (M 9 (Int32.toNatClampNeg x1) 0)) + Int32.toNatClampNeg (1 - (M 9 (Int32.toNatClampNeg x1) 1))) 7) + 1)) 9 (Int32.toNatClampNeg x1) 10 2) 9 (Int32.toNatClampNeg x1) 13 ((u3 (u3 M 6 (2 * (Int32.toNatClampNeg (M 9 (Int32.toNatClampNeg x1) 0)) + Int32.toNatClampNeg (1 - (M 9 (Int32.toNatClampNeg x1) 1))) 7 ((M 6 (2 * (Int32.toNatClampNeg (M 9 (Int32.toNatClampNeg x1) 0)) + Int32.toNatClampNeg (1 - (M 9 (Int32.toNatClampNeg x1) 1))) 7) + 1)) 9 (Int32.toNatClampNeg x1) 10 2) 1 (Int32.toNatClampNeg (1 - (M 9 (Int32.toNatClampNeg x1) 1))) 2))) else ((f_B_oneIf (f_B_isAccount (M 9 (Int32.toNatClampNeg x1) 4))), (u3 (u3 (u3 (f_B_giveOut M (M 9 (Int32.toNatClampNeg x1) 0) (1 - (M 9 (Int32.toNatClampNeg x1) 1)) (M 9 (Int32.toNatClampNeg x1) 4) (M 9 (Int32.toNatClampNeg x1) 5) (M 9 (Int32.toNatClampNeg x1) 6)) 6 (2 * (Int32.toNatClampNeg (M 9 (Int32.toNatClampNeg x1) 0)) + Int32.toNatClampNeg (1 - (M 9 (Int32.toNatClampNeg x1) 1))) 7 (((f_B_giveOut M (M 9 (Int32.toNatClampNeg x1) 0) (1 - (M 9 (Int32.toNatClampNeg x1) 1)) (M 9 (Int32.toNatClampNeg x1) 4) (M 9 (Int32.toNatClampNeg x1) 5) (M 9 (Int32.toNatClampNeg x1) 6)) 6 (2 * (Int32.toNatClampNeg (M 9 (Int32.toNatClampNeg x1) 0)) + Int32.toNatClampNeg (1 - (M 9 (Int32.toNatClampNeg x1) 1))) 7) + 1)) 9 (Int32.toNatClampNeg x1) 10 1) 9 (Int32.toNatClampNeg x1) 13 ((u3 (u3 (f_B_giveOut M (M 9 (Int32.toNatClampNeg x1) 0) (1 - (M 9 (Int32.toNatClampNeg x1) 1)) (M 9 (Int32.toNatClampNeg x1) 4) (M 9 (Int32.toNatClampNeg x1) 5) (M 9 (Int32.toNatClampNeg x1) 6)) 6 (2 * (Int32.toNatClampNeg (M 9 (Int32.toNatClampNeg x1) 0)) + Int32.toNatClampNeg (1 - (M 9 (Int32.toNatClampNeg x1) 1))) 7 (((f_B_giveOut M (M 9 (Int32.toNatClampNeg x1) 0) (1 - (M 9 (Int32.toNatClampNeg x1) 1)) (M 9 (Int32.toNatClampNeg x1) 4) (M 9 (Int32.toNatClampNeg x1) 5) (M 9 (Int32.toNatClampNeg x1) 6)) 6 (2 * (Int32.toNatClampNeg (M 9 (Int32.toNatClampNeg x1) 0)) + Int32.toNatClampNeg (1 - (M 9 (Int32.toNatClampNeg x1) 1))) 7) + 1)) 9 (Int32.toNatClampNeg x1) 10 1) 1 (Int32.toNatClampNeg (1 - (M 9 (Int32.toNatClampNeg x1) 1))) 2)))) else (if (f_B_areAllBeforeReceived M x1) = 0 then ((-8), M) else (if (f_B_isAccount (M 9 (Int32.toNatClampNeg x1) 4)) = 0 then ((f_B_oneIf (f_B_isAccount (M 9 (Int32.toNatClampNeg x1) 4))), (u3 (u3 (u3 M 6 (2 * (Int32.toNatClampNeg (M 9 (Int32.toNatClampNeg x1) 0)) + Int32.toNatClampNeg (1 - (M 9 (Int32.toNatClampNeg x1) 1))) 7 ((M 6 (2 * (Int32.toNatClampNeg (M 9 (Int32.toNatClampNeg x1) 0)) + Int32.toNatClampNeg (1 - (M 9 (Int32.toNatClampNeg x1) 1))) 7) + 1)) 9 (Int32.toNatClampNeg x1) 10 2) 9 (Int32.toNatClampNeg x1) 13 ((u3 (u3 M 6 (2 * (Int32.toNatClampNeg (M 9 (Int32.toNatClampNeg x1) 0)) + Int32.toNatClampNeg (1 - (M 9 (Int32.toNatClampNeg x1) 1))) 7 ((M 6 (2 * (Int32.toNatClampNeg (M 9 (Int32.toNatClampNeg x1) 0)) + Int32.toNatClampNeg (1 - (M 9 (Int32.toNatClampNeg x1) 1))) 7) + 1)) 9 (Int32.toNatClampNeg x1) 10 2) 1 (Int32.toNatClampNeg (1 - (M 9 (Int32.toNatClampNeg x1) 1))) 2))) else ((f_B_oneIf (f_B_isAccount (M 9 (Int32.toNatClampNeg x1) 4))), (u3 (u3 (u3 (f_B_giveOut M (M 9 (Int32.toNatClampNeg x1) 0) (1 - (M 9 (Int32.toNatClampNeg x1) 1)) (M 9 (Int32.toNatClampNeg x1) 4) (M 9 (Int32.toNatClampNeg x1) 5) (M 9 (Int32.toNatClampNeg x1) 6)) 6 (2 * (Int32.toNatClampNeg (M 9 (Int32.toNatClampNeg x1) 0)) + Int32.toNatClampNeg (1 - (M 9 (Int32.toNatClampNeg x1) 1))) 7 (((f_B_giveOut M (M 9 (Int32.toNatClampNeg x1) 0) (1 - (M 9 (Int32.toNatClampNeg x1) 1)) (M 9 (Int32.toNatClampNeg x1) 4) (M 9 (Int32.toNatClampNeg x1) 5) (M 9 (Int32.toNatClampNeg x1) 6)) 6 (2 * (Int32.toNatClampNeg (M 9 (Int32.toNatClampNeg x1) 0)) + Int32.toNatClampNeg (1 - (M 9 (Int32.toNatClampNeg x1) 1))) 7) + 1)) 9 (Int32.toNatClampNeg x1) 10 1) 9 (Int32.toNatClampNeg x1) 13 ((u3 (u3 (f_B_giveOut M (M 9 (Int32.toNatClampNeg x1) 0) (1 - (M 9 (Int32.toNatClampNeg x1) 1)) (M 9 (Int32.toNatClampNeg x1) 4) (M 9 (Int32.toNatClampNeg x1) 5) (M 9 (Int32.toNatClampNeg x1) 6)) 6 (2 * (Int32.toNatClampNeg (M 9 (Int32.toNatClampNeg x1) 0)) + Int32.toNatClampNeg (1 - (M 9 (Int32.toNatClampNeg x1) 1))) 7 (((f_B_giveOut M (M 9 (Int32.toNatClampNeg x1) 0) (1 - (M 9 (Int32.toNatClampNeg x1) 1)) (M 9 (Int32.toNatClampNeg x1) 4) (M 9 (Int32.toNatClampNeg x1) 5) (M 9 (Int32.toNatClampNeg x1) 6)) 6 (2 * (Int32.toNatClampNeg (M 9 (Int32.toNatClampNeg x1) 0)) + Int32.toNatClampNeg (1 - (M 9 (Int32.toNatClampNeg x1) 1))) 7) + 1)) 9 (Int32.toNatClampNeg x1) 10 1) 1 (Int32.toNatClampNeg (1 - (M 9 (Int32.toNatClampNeg x1) 1))) 2)))))) else ((-7), M))) else ((f_Cl_refusal M (Int32.toNatClampNeg (1 - (M 9 (Int32.toNatClampNeg x1) 1))) x2), M)) else ((-3), M)) else ((-3), M)))
set_option maxHeartbeats 4000000 in
set_option maxRecDepth 100000 in
theorem c_B_receive {l : Launch} {D : va_G} {t6 : Nat → ClassId} {b n : Nat} (hn : 104 ≤ n) {M : Mem} {x1 : Int32} {x2 : Int32} (hI : ci_ M) : CI l D t6 b n y_B_receive cd_B_receive 8 .int (rk 4 86) [.ref (ad b 0 0), .int x1, .int x2] M (f_B_receive M x1 x2).1 (f_B_receive M x1 x2).2 := by
  refine en_i (by decide) (by simp [Value.category]) (Nat.le_of_ble_eq_true rfl) (fun p e s m below meth c G => ?_)
  refine sr_aload_n G rfl d_B_receive_0 ?_
  refine sr_iload_n G rfl d_B_receive_1 ?_
  refine sr_cvi G (vv_0 hn) rfl rfl ki_B_isMessage kx_B_isMessage (c_B_isMessage hn) kc_B_isMessage km_B_138 kn_B yy_B_isMessage rfl ⟨rfl, rfl, by decide, by decide⟩ (Nat.le_of_ble_eq_true rfl) rfl d_B_receive_2 ?_
  refine sr_if_ne G 10 d_B_receive_5 rfl (fun h5 => ?_) (fun h5 => ?_)
  · skip
    have v5 : vp_in x1 60 := in_ms hI h5
    have i5 := ix_lt v5
    obtain ⟨k5a, k5b, k5c⟩ := ci_mg hI i5
    have k5d := ix_lt k5a
    have k5e := ix_lt k5b
    have k5f := ix_lt k5c
    have k5g := in_1 k5b
    have k5h := ix_lt k5g
    refine sr_aload_n G rfl d_B_receive_10 ?_
    refine sr_get G (vv_0 hn) rfl ku_B rfl 2 (by decide) kf_B_23 rfl rfl d_B_receive_11 ?_
    refine sr_iload_n G rfl d_B_receive_14 ?_
    refine sr_aald G (vv_12 hn) rfl rfl (by assumption) d_B_receive_15 ?_
    refine sr_astore_n G (by decide) d_B_receive_16 ?_
    refine sr_iconst G (v := 1) (by decide) d_B_receive_17 ?_
    refine sr_aload_n G rfl d_B_receive_18 ?_
    refine sr_getN G (vv_9 hn (by omega)) rfl ku_Me rfl 1 (by decide) kf_B_141 rfl rfl d_B_receive_19 ?_
    refine sr_isub G d_B_receive_22 ?_
    refine sr_istore G (by decide) d_B_receive_23 ?_
    refine sr_aload_n G rfl d_B_receive_25 ?_
    refine sr_get G (vv_0 hn) rfl ku_B rfl 1 (by decide) kf_B_17 rfl rfl d_B_receive_26 ?_
    refine sr_aload_n G rfl d_B_receive_29 ?_
    refine sr_getN G (vv_9 hn (by omega)) rfl ku_Me rfl 0 (by decide) kf_B_144 rfl rfl d_B_receive_30 ?_
    refine sr_aald G (vv_11 hn) rfl rfl (by assumption) d_B_receive_33 ?_
    refine sr_getN G (vv_5 hn (by omega)) rfl ku_Ch rfl 0 (by decide) kf_B_89 rfl rfl d_B_receive_34 ?_
    refine sr_iload G rfl d_B_receive_37 ?_
    refine sr_aald G (vv_13 hn (by omega)) rfl rfl (by assumption) d_B_receive_39 ?_
    refine sr_astore G (by decide) d_B_receive_40 ?_
    refine sr_aload G rfl d_B_receive_42 ?_
    refine sr_getN G (vv_6 hn (by omega)) rfl ku_En rfl 2 (by decide) kf_B_114 rfl rfl d_B_receive_44 ?_
    refine sr_iconst G (v := 3) (by decide) d_B_receive_47 ?_
    refine sr_icmp_ne G 58 d_B_receive_48 rfl (fun h48 => ?_) (fun h48 => ?_)
    · skip
      refine sr_bipush G (v := (-3)) (by decide) d_B_receive_58 ?_
      refine sr_iret G d_B_receive_60 ?_
      unfold f_B_receive
      rw [if_neg h5, if_neg h48]
      exact ⟨rfl, rfl⟩
    · skip
      refine sr_aload_n G rfl d_B_receive_51 ?_
      refine sr_getN G (vv_9 hn (by omega)) rfl ku_Me rfl 10 (by decide) kf_B_147 rfl rfl d_B_receive_52 ?_
      refine sr_if_eq G 61 d_B_receive_55 rfl (fun h55 => ?_) (fun h55 => ?_)
      · skip
        refine sr_aload_n G rfl d_B_receive_61 ?_
        refine sr_get G (vv_0 hn) rfl ku_B rfl 0 (by decide) kf_B_11 rfl rfl d_B_receive_62 ?_
        refine sr_iload G rfl d_B_receive_65 ?_
        refine sr_aald G (vv_10 hn) rfl rfl (by assumption) d_B_receive_67 ?_
        refine sr_getN G (vv_1 hn (by omega)) rfl ku_Le rfl 1 (by decide) kf_B_45 rfl rfl d_B_receive_68 ?_
        refine sr_iload_n G rfl d_B_receive_71 ?_
        refine sr_cvNi G (vv_3 hn (by omega)) rfl rfl ki_Cl_refusal kx_Cl_refusal (c_Cl_refusal hn (by first | assumption | omega | decide)) kc_Cl_refusal km_B_150 kn_Cl yy_Cl_refusal rfl ⟨rfl, rfl, by decide, by decide⟩ (Nat.le_of_ble_eq_true rfl) rfl d_B_receive_72 ?_
        refine sr_istore G (by decide) d_B_receive_75 ?_
        refine sr_iload G rfl d_B_receive_77 ?_
        refine sr_if_eq G 85 d_B_receive_79 rfl (fun h79 => ?_) (fun h79 => ?_)
        · skip
          refine sr_aload_n G rfl d_B_receive_85 ?_
          refine sr_iload_n G rfl d_B_receive_86 ?_
          refine sr_cvNi G (vv_9 hn (by omega)) rfl rfl ki_Me_standsIn kx_Me_standsIn (c_Me_standsIn hn (by first | assumption | omega | decide)) kc_Me_standsIn km_B_153 kn_Me yy_Me_standsIn rfl ⟨rfl, rfl, by decide, by decide⟩ (Nat.le_of_ble_eq_true rfl) rfl d_B_receive_87 ?_
          refine sr_if_ne G 96 d_B_receive_90 rfl (fun h90 => ?_) (fun h90 => ?_)
          · skip
            refine sr_aload_n G rfl d_B_receive_96 ?_
            refine sr_get G (vv_0 hn) rfl ku_B rfl 0 (by decide) kf_B_11 rfl rfl d_B_receive_97 ?_
            refine sr_iload G rfl d_B_receive_100 ?_
            refine sr_aald G (vv_10 hn) rfl rfl (by assumption) d_B_receive_102 ?_
            refine sr_getN G (vv_1 hn (by omega)) rfl ku_Le rfl 2 (by decide) kf_B_37 rfl rfl d_B_receive_103 ?_
            refine sr_aload_n G rfl d_B_receive_106 ?_
            refine sr_getN G (vv_9 hn (by omega)) rfl ku_Me rfl 7 (by decide) kf_B_156 rfl rfl d_B_receive_107 ?_
            refine sr_icmp_lt G 116 d_B_receive_110 rfl (fun h110 => ?_) (fun h110 => ?_)
            · skip
              refine sr_aload_n G rfl d_B_receive_116 ?_
              refine sr_get G (vv_0 hn) rfl ku_B rfl 1 (by decide) kf_B_17 rfl rfl d_B_receive_117 ?_
              refine sr_aload_n G rfl d_B_receive_120 ?_
              refine sr_getN G (vv_9 hn (by omega)) rfl ku_Me rfl 0 (by decide) kf_B_144 rfl rfl d_B_receive_121 ?_
              refine sr_aald G (vv_11 hn) rfl rfl (by assumption) d_B_receive_124 ?_
              refine sr_getN G (vv_5 hn (by omega)) rfl ku_Ch rfl 1 (by decide) kf_B_86 rfl rfl d_B_receive_125 ?_
              refine sr_if_eq G 142 d_B_receive_128 rfl (fun h128 => ?_) (fun h128 => ?_)
              · skip
                refine sr_aload_n G rfl d_B_receive_142 ?_
                refine sr_getN G (vv_9 hn (by omega)) rfl ku_Me rfl 4 (by decide) kf_B_162 rfl rfl d_B_receive_143 ?_
                refine sr_csi G ks_B_isAccount (c_B_isAccount) kc_B_isAccount km_B_117 kn_B yy_B_isAccount rfl ⟨rfl, rfl, by decide, by decide⟩ (Nat.le_of_ble_eq_true rfl) rfl d_B_receive_146 ?_
                refine sr_istore G (by decide) d_B_receive_149 ?_
                refine sr_iload G rfl d_B_receive_151 ?_
                refine sr_if_eq G 178 d_B_receive_153 rfl (fun h153 => ?_) (fun h153 => ?_)
                · skip
                  refine sr_aload G rfl d_B_receive_178 ?_
                  refine sr_dup G rfl d_B_receive_180 ?_
                  refine sr_getN G (vv_6 hn (by omega)) rfl ku_En rfl 7 (by decide) kf_B_174 rfl rfl d_B_receive_181 ?_
                  refine sr_iconst G (v := 1) (by decide) d_B_receive_184 ?_
                  refine sr_iadd G d_B_receive_185 ?_
                  refine sr_putN G (vv_6 hn (by omega)) rfl ku_En rfl 7 (by decide) t_En ty_En nm_En kf_B_174 rfl rfl (ty := .int) (by decide +kernel) rfl rfl (Nat.le_of_ble_eq_true rfl) rfl d_B_receive_186 ?_
                  refine sr_aload_n G rfl d_B_receive_189 ?_
                  refine sr_iload G rfl d_B_receive_190 ?_
                  refine sr_if_eq G 199 d_B_receive_192 rfl (fun _ => ?_) (fun h => absurd h153 h)
                  refine sr_iconst G (v := 2) (by decide) d_B_receive_199 ?_
                  refine sr_putN G (vv_9 hn (by omega)) rfl ku_Me rfl 10 (by decide) t_Me ty_Me nm_Me kf_B_147 rfl rfl (ty := .int) (by decide +kernel) rfl rfl (Nat.le_of_ble_eq_true rfl) rfl d_B_receive_200 ?_
                  refine sr_aload_n G rfl d_B_receive_203 ?_
                  refine sr_aload_n G rfl d_B_receive_204 ?_
                  refine sr_get G (vv_0 hn) rfl ku_B rfl 0 (by decide) kf_B_11 rfl rfl d_B_receive_205 ?_
                  refine sr_iload G rfl d_B_receive_208 ?_
                  refine sr_aald G (vv_10 hn) rfl rfl (by assumption) d_B_receive_210 ?_
                  refine sr_getN G (vv_1 hn (by omega)) rfl ku_Le rfl 2 (by decide) kf_B_37 rfl rfl d_B_receive_211 ?_
                  refine sr_putN G (vv_9 hn (by omega)) rfl ku_Me rfl 13 (by decide) t_Me ty_Me nm_Me kf_B_177 rfl rfl (ty := .int) (by decide +kernel) rfl rfl (Nat.le_of_ble_eq_true rfl) rfl d_B_receive_214 ?_
                  refine sr_iload G rfl d_B_receive_217 ?_
                  refine sr_csi G ks_B_oneIf (c_B_oneIf) kc_B_oneIf km_B_73 kn_B yy_B_oneIf rfl ⟨rfl, rfl, by decide, by decide⟩ (Nat.le_of_ble_eq_true rfl) rfl d_B_receive_219 ?_
                  refine sr_iret G d_B_receive_222 ?_
                  unfold f_B_receive
                  rw [if_neg h5, if_pos h48, if_pos h55, if_pos h79, if_neg h90, if_pos h110, if_pos h128, if_pos h153]
                  exact ⟨rfl, rfl⟩
                · skip
                  have v153 : vp_in (M 9 (Int32.toNatClampNeg x1) 4) 4 := in_wi (lo := 0) (hi := 3) (by decide) (by decide) h153
                  have i153 := ix_lt v153
                  refine sr_aload_n G rfl d_B_receive_156 ?_
                  refine sr_aload_n G rfl d_B_receive_157 ?_
                  refine sr_getN G (vv_9 hn (by omega)) rfl ku_Me rfl 0 (by decide) kf_B_144 rfl rfl d_B_receive_158 ?_
                  refine sr_iload G rfl d_B_receive_161 ?_
                  refine sr_aload_n G rfl d_B_receive_163 ?_
                  refine sr_getN G (vv_9 hn (by omega)) rfl ku_Me rfl 4 (by decide) kf_B_162 rfl rfl d_B_receive_164 ?_
                  refine sr_aload_n G rfl d_B_receive_167 ?_
                  refine sr_getN G (vv_9 hn (by omega)) rfl ku_Me rfl 5 (by decide) kf_B_165 rfl rfl d_B_receive_168 ?_
                  refine sr_aload_n G rfl d_B_receive_171 ?_
                  refine sr_getN G (vv_9 hn (by omega)) rfl ku_Me rfl 6 (by decide) kf_B_168 rfl rfl d_B_receive_172 ?_
                  refine sr_cvv G (vv_0 hn) rfl rfl ki_B_giveOut kx_B_giveOut (c_B_giveOut hn (by first | assumption | omega | decide) (by first | assumption | omega | decide) (by first | assumption | omega | decide)) kc_B_giveOut km_B_171 kn_B yy_B_giveOut rfl ⟨rfl, rfl, by decide, by decide⟩ (Nat.le_of_ble_eq_true rfl) rfl d_B_receive_175 ?_
                  refine sr_aload G rfl d_B_receive_178 ?_
                  refine sr_dup G rfl d_B_receive_180 ?_
                  refine sr_getN G (vv_6 hn (by omega)) rfl ku_En rfl 7 (by decide) kf_B_174 rfl rfl d_B_receive_181 ?_
                  refine sr_iconst G (v := 1) (by decide) d_B_receive_184 ?_
                  refine sr_iadd G d_B_receive_185 ?_
                  refine sr_putN G (vv_6 hn (by omega)) rfl ku_En rfl 7 (by decide) t_En ty_En nm_En kf_B_174 rfl rfl (ty := .int) (by decide +kernel) rfl rfl (Nat.le_of_ble_eq_true rfl) rfl d_B_receive_186 ?_
                  refine sr_aload_n G rfl d_B_receive_189 ?_
                  refine sr_iload G rfl d_B_receive_190 ?_
                  refine sr_if_eq G 199 d_B_receive_192 rfl (fun h => absurd h h153) (fun _ => ?_)
                  refine sr_iconst G (v := 1) (by decide) d_B_receive_195 ?_
                  refine sr_goto G 200 d_B_receive_196 rfl ?_
                  refine sr_putN G (vv_9 hn (by omega)) rfl ku_Me rfl 10 (by decide) t_Me ty_Me nm_Me kf_B_147 rfl rfl (ty := .int) (by decide +kernel) rfl rfl (Nat.le_of_ble_eq_true rfl) rfl d_B_receive_200 ?_
                  refine sr_aload_n G rfl d_B_receive_203 ?_
                  refine sr_aload_n G rfl d_B_receive_204 ?_
                  refine sr_get G (vv_0 hn) rfl ku_B rfl 0 (by decide) kf_B_11 rfl rfl d_B_receive_205 ?_
                  refine sr_iload G rfl d_B_receive_208 ?_
                  refine sr_aald G (vv_10 hn) rfl rfl (by assumption) d_B_receive_210 ?_
                  refine sr_getN G (vv_1 hn (by omega)) rfl ku_Le rfl 2 (by decide) kf_B_37 rfl rfl d_B_receive_211 ?_
                  refine sr_putN G (vv_9 hn (by omega)) rfl ku_Me rfl 13 (by decide) t_Me ty_Me nm_Me kf_B_177 rfl rfl (ty := .int) (by decide +kernel) rfl rfl (Nat.le_of_ble_eq_true rfl) rfl d_B_receive_214 ?_
                  refine sr_iload G rfl d_B_receive_217 ?_
                  refine sr_csi G ks_B_oneIf (c_B_oneIf) kc_B_oneIf km_B_73 kn_B yy_B_oneIf rfl ⟨rfl, rfl, by decide, by decide⟩ (Nat.le_of_ble_eq_true rfl) rfl d_B_receive_219 ?_
                  refine sr_iret G d_B_receive_222 ?_
                  unfold f_B_receive
                  rw [if_neg h5, if_pos h48, if_pos h55, if_pos h79, if_neg h90, if_pos h110, if_pos h128, if_neg h153]
                  exact ⟨rfl, rfl⟩
              · skip
                refine sr_aload_n G rfl d_B_receive_131 ?_
                refine sr_iload_n G rfl d_B_receive_132 ?_
                refine sr_cvi G (vv_0 hn) rfl rfl ki_B_areAllBeforeReceived kx_B_areAllBeforeReceived (c_B_areAllBeforeReceived hn (by first | assumption | omega | decide)) kc_B_areAllBeforeReceived km_B_159 kn_B yy_B_areAllBeforeReceived rfl ⟨rfl, rfl, by decide, by decide⟩ (Nat.le_of_ble_eq_true rfl) rfl d_B_receive_133 ?_
                refine sr_if_ne G 142 d_B_receive_136 rfl (fun h136 => ?_) (fun h136 => ?_)
                · skip
                  refine sr_aload_n G rfl d_B_receive_142 ?_
                  refine sr_getN G (vv_9 hn (by omega)) rfl ku_Me rfl 4 (by decide) kf_B_162 rfl rfl d_B_receive_143 ?_
                  refine sr_csi G ks_B_isAccount (c_B_isAccount) kc_B_isAccount km_B_117 kn_B yy_B_isAccount rfl ⟨rfl, rfl, by decide, by decide⟩ (Nat.le_of_ble_eq_true rfl) rfl d_B_receive_146 ?_
                  refine sr_istore G (by decide) d_B_receive_149 ?_
                  refine sr_iload G rfl d_B_receive_151 ?_
                  refine sr_if_eq G 178 d_B_receive_153 rfl (fun h153 => ?_) (fun h153 => ?_)
                  · skip
                    refine sr_aload G rfl d_B_receive_178 ?_
                    refine sr_dup G rfl d_B_receive_180 ?_
                    refine sr_getN G (vv_6 hn (by omega)) rfl ku_En rfl 7 (by decide) kf_B_174 rfl rfl d_B_receive_181 ?_
                    refine sr_iconst G (v := 1) (by decide) d_B_receive_184 ?_
                    refine sr_iadd G d_B_receive_185 ?_
                    refine sr_putN G (vv_6 hn (by omega)) rfl ku_En rfl 7 (by decide) t_En ty_En nm_En kf_B_174 rfl rfl (ty := .int) (by decide +kernel) rfl rfl (Nat.le_of_ble_eq_true rfl) rfl d_B_receive_186 ?_
                    refine sr_aload_n G rfl d_B_receive_189 ?_
                    refine sr_iload G rfl d_B_receive_190 ?_
                    refine sr_if_eq G 199 d_B_receive_192 rfl (fun _ => ?_) (fun h => absurd h153 h)
                    refine sr_iconst G (v := 2) (by decide) d_B_receive_199 ?_
                    refine sr_putN G (vv_9 hn (by omega)) rfl ku_Me rfl 10 (by decide) t_Me ty_Me nm_Me kf_B_147 rfl rfl (ty := .int) (by decide +kernel) rfl rfl (Nat.le_of_ble_eq_true rfl) rfl d_B_receive_200 ?_
                    refine sr_aload_n G rfl d_B_receive_203 ?_
                    refine sr_aload_n G rfl d_B_receive_204 ?_
                    refine sr_get G (vv_0 hn) rfl ku_B rfl 0 (by decide) kf_B_11 rfl rfl d_B_receive_205 ?_
                    refine sr_iload G rfl d_B_receive_208 ?_
                    refine sr_aald G (vv_10 hn) rfl rfl (by assumption) d_B_receive_210 ?_
                    refine sr_getN G (vv_1 hn (by omega)) rfl ku_Le rfl 2 (by decide) kf_B_37 rfl rfl d_B_receive_211 ?_
                    refine sr_putN G (vv_9 hn (by omega)) rfl ku_Me rfl 13 (by decide) t_Me ty_Me nm_Me kf_B_177 rfl rfl (ty := .int) (by decide +kernel) rfl rfl (Nat.le_of_ble_eq_true rfl) rfl d_B_receive_214 ?_
                    refine sr_iload G rfl d_B_receive_217 ?_
                    refine sr_csi G ks_B_oneIf (c_B_oneIf) kc_B_oneIf km_B_73 kn_B yy_B_oneIf rfl ⟨rfl, rfl, by decide, by decide⟩ (Nat.le_of_ble_eq_true rfl) rfl d_B_receive_219 ?_
                    refine sr_iret G d_B_receive_222 ?_
                    unfold f_B_receive
                    rw [if_neg h5, if_pos h48, if_pos h55, if_pos h79, if_neg h90, if_pos h110, if_neg h128, if_neg h136, if_pos h153]
                    exact ⟨rfl, rfl⟩
                  · skip
                    have v153 : vp_in (M 9 (Int32.toNatClampNeg x1) 4) 4 := in_wi (lo := 0) (hi := 3) (by decide) (by decide) h153
                    have i153 := ix_lt v153
                    refine sr_aload_n G rfl d_B_receive_156 ?_
                    refine sr_aload_n G rfl d_B_receive_157 ?_
                    refine sr_getN G (vv_9 hn (by omega)) rfl ku_Me rfl 0 (by decide) kf_B_144 rfl rfl d_B_receive_158 ?_
                    refine sr_iload G rfl d_B_receive_161 ?_
                    refine sr_aload_n G rfl d_B_receive_163 ?_
                    refine sr_getN G (vv_9 hn (by omega)) rfl ku_Me rfl 4 (by decide) kf_B_162 rfl rfl d_B_receive_164 ?_
                    refine sr_aload_n G rfl d_B_receive_167 ?_
                    refine sr_getN G (vv_9 hn (by omega)) rfl ku_Me rfl 5 (by decide) kf_B_165 rfl rfl d_B_receive_168 ?_
                    refine sr_aload_n G rfl d_B_receive_171 ?_
                    refine sr_getN G (vv_9 hn (by omega)) rfl ku_Me rfl 6 (by decide) kf_B_168 rfl rfl d_B_receive_172 ?_
                    refine sr_cvv G (vv_0 hn) rfl rfl ki_B_giveOut kx_B_giveOut (c_B_giveOut hn (by first | assumption | omega | decide) (by first | assumption | omega | decide) (by first | assumption | omega | decide)) kc_B_giveOut km_B_171 kn_B yy_B_giveOut rfl ⟨rfl, rfl, by decide, by decide⟩ (Nat.le_of_ble_eq_true rfl) rfl d_B_receive_175 ?_
                    refine sr_aload G rfl d_B_receive_178 ?_
                    refine sr_dup G rfl d_B_receive_180 ?_
                    refine sr_getN G (vv_6 hn (by omega)) rfl ku_En rfl 7 (by decide) kf_B_174 rfl rfl d_B_receive_181 ?_
                    refine sr_iconst G (v := 1) (by decide) d_B_receive_184 ?_
                    refine sr_iadd G d_B_receive_185 ?_
                    refine sr_putN G (vv_6 hn (by omega)) rfl ku_En rfl 7 (by decide) t_En ty_En nm_En kf_B_174 rfl rfl (ty := .int) (by decide +kernel) rfl rfl (Nat.le_of_ble_eq_true rfl) rfl d_B_receive_186 ?_
                    refine sr_aload_n G rfl d_B_receive_189 ?_
                    refine sr_iload G rfl d_B_receive_190 ?_
                    refine sr_if_eq G 199 d_B_receive_192 rfl (fun h => absurd h h153) (fun _ => ?_)
                    refine sr_iconst G (v := 1) (by decide) d_B_receive_195 ?_
                    refine sr_goto G 200 d_B_receive_196 rfl ?_
                    refine sr_putN G (vv_9 hn (by omega)) rfl ku_Me rfl 10 (by decide) t_Me ty_Me nm_Me kf_B_147 rfl rfl (ty := .int) (by decide +kernel) rfl rfl (Nat.le_of_ble_eq_true rfl) rfl d_B_receive_200 ?_
                    refine sr_aload_n G rfl d_B_receive_203 ?_
                    refine sr_aload_n G rfl d_B_receive_204 ?_
                    refine sr_get G (vv_0 hn) rfl ku_B rfl 0 (by decide) kf_B_11 rfl rfl d_B_receive_205 ?_
                    refine sr_iload G rfl d_B_receive_208 ?_
                    refine sr_aald G (vv_10 hn) rfl rfl (by assumption) d_B_receive_210 ?_
                    refine sr_getN G (vv_1 hn (by omega)) rfl ku_Le rfl 2 (by decide) kf_B_37 rfl rfl d_B_receive_211 ?_
                    refine sr_putN G (vv_9 hn (by omega)) rfl ku_Me rfl 13 (by decide) t_Me ty_Me nm_Me kf_B_177 rfl rfl (ty := .int) (by decide +kernel) rfl rfl (Nat.le_of_ble_eq_true rfl) rfl d_B_receive_214 ?_
                    refine sr_iload G rfl d_B_receive_217 ?_
                    refine sr_csi G ks_B_oneIf (c_B_oneIf) kc_B_oneIf km_B_73 kn_B yy_B_oneIf rfl ⟨rfl, rfl, by decide, by decide⟩ (Nat.le_of_ble_eq_true rfl) rfl d_B_receive_219 ?_
                    refine sr_iret G d_B_receive_222 ?_
                    unfold f_B_receive
                    rw [if_neg h5, if_pos h48, if_pos h55, if_pos h79, if_neg h90, if_pos h110, if_neg h128, if_neg h136, if_neg h153]
                    exact ⟨rfl, rfl⟩
                · skip
                  refine sr_bipush G (v := (-8)) (by decide) d_B_receive_139 ?_
                  refine sr_iret G d_B_receive_141 ?_
                  unfold f_B_receive
                  rw [if_neg h5, if_pos h48, if_pos h55, if_pos h79, if_neg h90, if_pos h110, if_neg h128, if_pos h136]
                  exact ⟨rfl, rfl⟩
            · skip
              refine sr_bipush G (v := (-7)) (by decide) d_B_receive_113 ?_
              refine sr_iret G d_B_receive_115 ?_
              unfold f_B_receive
              rw [if_neg h5, if_pos h48, if_pos h55, if_pos h79, if_neg h90, if_neg h110]
              exact ⟨rfl, rfl⟩
          · skip
            refine sr_bipush G (v := (-6)) (by decide) d_B_receive_93 ?_
            refine sr_iret G d_B_receive_95 ?_
            unfold f_B_receive
            rw [if_neg h5, if_pos h48, if_pos h55, if_pos h79, if_pos h90]
            exact ⟨rfl, rfl⟩
        · skip
          refine sr_iload G rfl d_B_receive_82 ?_
          refine sr_iret G d_B_receive_84 ?_
          unfold f_B_receive
          rw [if_neg h5, if_pos h48, if_pos h55, if_neg h79]
          exact ⟨rfl, rfl⟩
      · skip
        refine sr_bipush G (v := (-3)) (by decide) d_B_receive_58 ?_
        refine sr_iret G d_B_receive_60 ?_
        unfold f_B_receive
        rw [if_neg h5, if_pos h48, if_neg h55]
        exact ⟨rfl, rfl⟩
  · skip
    refine sr_iconst G (v := (-1)) (by decide) d_B_receive_8 ?_
    refine sr_iret G d_B_receive_9 ?_
    unfold f_B_receive
    rw [if_pos h5]
    exact ⟨rfl, rfl⟩
def f_B_acknowledge (M : Mem) (x1 : Int32) (x2 : Int32) : Int32 × Mem := (if (f_B_isMessage M x1) = 0 then ((-1), M) else (if (f_B_refusalAtSender M (Int32.toNatClampNeg x1) x2) = 0 then (if (f_Me_isReceivedIn M (Int32.toNatClampNeg x1) x2) = 0 then ((-6), M) else (if (M 5 (Int32.toNatClampNeg (M 9 (Int32.toNatClampNeg x1) 0)) 1) = 0 then (if ((f_B_finish M (Int32.toNatClampNeg x1)) 9 (Int32.toNatClampNeg x1) 10) = 2 then (if ((f_B_giveBack (f_B_finish M (Int32.toNatClampNeg x1)) (Int32.toNatClampNeg x1)) 9 (Int32.toNatClampNeg x1) 10) = 1 then ((f_B_oneIf 1), (f_B_giveBack (f_B_finish M (Int32.toNatClampNeg x1)) (Int32.toNatClampNeg x1))) else ((f_B_oneIf 0), (f_B_giveBack (f_B_finish M (Int32.toNatClampNeg x1)) (Int32.toNatClampNeg x1)))) else (if ((f_B_finish M (Int32.toNatClampNeg x1)) 9 (Int32.toNatClampNeg x1) 10) = 1 then ((f_B_oneIf 1), (f_B_finish M (Int32.toNatClampNeg x1))) else ((f_B_oneIf 0), (f_B_finish M (Int32.toNatClampNeg x1))))) else (if (f_B_standsOneBefore M x1) = 0 then (if ((f_B_finish M (Int32.toNatClampNeg x1)) 9 (Int32.toNatClampNeg x1) 10) = 2 then (if ((f_B_giveBack (f_B_finish M (Int32.toNatClampNeg x1)) (Int32.toNatClampNeg x1)) 9 (Int32.toNatClampNeg x1) 10) = 1 then ((f_B_oneIf 1), (f_B_giveBack (f_B_finish M (Int32.toNatClampNeg x1)) (Int32.toNatClampNeg x1))) else ((f_B_oneIf 0), (f_B_giveBack (f_B_finish M (Int32.toNatClampNeg x1)) (Int32.toNatClampNeg x1)))) else (if ((f_B_finish M (Int32.toNatClampNeg x1)) 9 (Int32.toNatClampNeg x1) 10) = 1 then ((f_B_oneIf 1), (f_B_finish M (Int32.toNatClampNeg x1))) else ((f_B_oneIf 0), (f_B_finish M (Int32.toNatClampNeg x1))))) else ((-8), M)))) else ((f_B_refusalAtSender M (Int32.toNatClampNeg x1) x2), M)))
set_option maxHeartbeats 4000000 in
set_option maxRecDepth 100000 in
theorem c_B_acknowledge {l : Launch} {D : va_G} {t6 : Nat → ClassId} {b n : Nat} (hn : 104 ≤ n) {M : Mem} {x1 : Int32} {x2 : Int32} (hI : ci_ M) : CI l D t6 b n y_B_acknowledge cd_B_acknowledge 5 .int (rk 5 108) [.ref (ad b 0 0), .int x1, .int x2] M (f_B_acknowledge M x1 x2).1 (f_B_acknowledge M x1 x2).2 := by
  refine en_i (by decide) (by simp [Value.category]) (Nat.le_of_ble_eq_true rfl) (fun p e s m below meth c G => ?_)
  refine sr_aload_n G rfl d_B_acknowledge_0 ?_
  refine sr_iload_n G rfl d_B_acknowledge_1 ?_
  refine sr_cvi G (vv_0 hn) rfl rfl ki_B_isMessage kx_B_isMessage (c_B_isMessage hn) kc_B_isMessage km_B_138 kn_B yy_B_isMessage rfl ⟨rfl, rfl, by decide, by decide⟩ (Nat.le_of_ble_eq_true rfl) rfl d_B_acknowledge_2 ?_
  refine sr_if_ne G 10 d_B_acknowledge_5 rfl (fun h5 => ?_) (fun h5 => ?_)
  · skip
    have v5 : vp_in x1 60 := in_ms hI h5
    have i5 := ix_lt v5
    obtain ⟨k5a, k5b, k5c⟩ := ci_mg hI i5
    have k5d := ix_lt k5a
    have k5e := ix_lt k5b
    have k5f := ix_lt k5c
    have k5g := in_1 k5b
    have k5h := ix_lt k5g
    refine sr_aload_n G rfl d_B_acknowledge_10 ?_
    refine sr_get G (vv_0 hn) rfl ku_B rfl 2 (by decide) kf_B_23 rfl rfl d_B_acknowledge_11 ?_
    refine sr_iload_n G rfl d_B_acknowledge_14 ?_
    refine sr_aald G (vv_12 hn) rfl rfl (by assumption) d_B_acknowledge_15 ?_
    refine sr_astore_n G (by decide) d_B_acknowledge_16 ?_
    refine sr_aload_n G rfl d_B_acknowledge_17 ?_
    refine sr_aload_n G rfl d_B_acknowledge_18 ?_
    refine sr_iload_n G rfl d_B_acknowledge_19 ?_
    refine sr_cvi G (vv_0 hn) rfl rfl ki_B_refusalAtSender kx_B_refusalAtSender (c_B_refusalAtSender hn (by first | assumption | omega | decide) (by first | assumption | omega | decide)) kc_B_refusalAtSender km_B_180 kn_B yy_B_refusalAtSender rfl ⟨rfl, rfl, by decide, by decide⟩ (Nat.le_of_ble_eq_true rfl) rfl d_B_acknowledge_20 ?_
    refine sr_istore G (by decide) d_B_acknowledge_23 ?_
    refine sr_iload G rfl d_B_acknowledge_25 ?_
    refine sr_if_eq G 33 d_B_acknowledge_27 rfl (fun h27 => ?_) (fun h27 => ?_)
    · skip
      refine sr_aload_n G rfl d_B_acknowledge_33 ?_
      refine sr_iload_n G rfl d_B_acknowledge_34 ?_
      refine sr_cvNi G (vv_9 hn (by omega)) rfl rfl ki_Me_isReceivedIn kx_Me_isReceivedIn (c_Me_isReceivedIn hn (by first | assumption | omega | decide)) kc_Me_isReceivedIn km_B_184 kn_Me yy_Me_isReceivedIn rfl ⟨rfl, rfl, by decide, by decide⟩ (Nat.le_of_ble_eq_true rfl) rfl d_B_acknowledge_35 ?_
      refine sr_if_ne G 44 d_B_acknowledge_38 rfl (fun h38 => ?_) (fun h38 => ?_)
      · skip
        refine sr_aload_n G rfl d_B_acknowledge_44 ?_
        refine sr_get G (vv_0 hn) rfl ku_B rfl 1 (by decide) kf_B_17 rfl rfl d_B_acknowledge_45 ?_
        refine sr_aload_n G rfl d_B_acknowledge_48 ?_
        refine sr_getN G (vv_9 hn (by omega)) rfl ku_Me rfl 0 (by decide) kf_B_144 rfl rfl d_B_acknowledge_49 ?_
        refine sr_aald G (vv_11 hn) rfl rfl (by assumption) d_B_acknowledge_52 ?_
        refine sr_getN G (vv_5 hn (by omega)) rfl ku_Ch rfl 1 (by decide) kf_B_86 rfl rfl d_B_acknowledge_53 ?_
        refine sr_if_eq G 70 d_B_acknowledge_56 rfl (fun h56 => ?_) (fun h56 => ?_)
        · skip
          refine sr_aload_n G rfl d_B_acknowledge_70 ?_
          refine sr_aload_n G rfl d_B_acknowledge_71 ?_
          refine sr_cvv G (vv_0 hn) rfl rfl ki_B_finish kx_B_finish (c_B_finish hn (by first | assumption | omega | decide) (by first | assumption | omega | decide)) kc_B_finish km_B_190 kn_B yy_B_finish rfl ⟨rfl, rfl, by decide, by decide⟩ (Nat.le_of_ble_eq_true rfl) rfl d_B_acknowledge_72 ?_
          refine sr_aload_n G rfl d_B_acknowledge_75 ?_
          refine sr_getN G (vv_9 hn (by omega)) rfl ku_Me rfl 10 (by decide) kf_B_147 rfl rfl d_B_acknowledge_76 ?_
          refine sr_iconst G (v := 2) (by decide) d_B_acknowledge_79 ?_
          refine sr_icmp_ne G 88 d_B_acknowledge_80 rfl (fun h80 => ?_) (fun h80 => ?_)
          · skip
            refine sr_aload_n G rfl d_B_acknowledge_88 ?_
            refine sr_getN G (vv_9 hn (by omega)) rfl ku_Me rfl 10 (by decide) kf_B_147 rfl rfl d_B_acknowledge_89 ?_
            refine sr_iconst G (v := 1) (by decide) d_B_acknowledge_92 ?_
            refine sr_icmp_ne G 100 d_B_acknowledge_93 rfl (fun h93 => ?_) (fun h93 => ?_)
            · skip
              refine sr_iconst G (v := 0) (by decide) d_B_acknowledge_100 ?_
              refine sr_csi G ks_B_oneIf (c_B_oneIf) kc_B_oneIf km_B_73 kn_B yy_B_oneIf rfl ⟨rfl, rfl, by decide, by decide⟩ (Nat.le_of_ble_eq_true rfl) rfl d_B_acknowledge_101 ?_
              refine sr_iret G d_B_acknowledge_104 ?_
              unfold f_B_acknowledge
              rw [if_neg h5, if_pos h27, if_neg h38, if_pos h56, if_neg h80, if_neg h93]
              exact ⟨rfl, rfl⟩
            · skip
              refine sr_iconst G (v := 1) (by decide) d_B_acknowledge_96 ?_
              refine sr_goto G 101 d_B_acknowledge_97 rfl ?_
              refine sr_csi G ks_B_oneIf (c_B_oneIf) kc_B_oneIf km_B_73 kn_B yy_B_oneIf rfl ⟨rfl, rfl, by decide, by decide⟩ (Nat.le_of_ble_eq_true rfl) rfl d_B_acknowledge_101 ?_
              refine sr_iret G d_B_acknowledge_104 ?_
              unfold f_B_acknowledge
              rw [if_neg h5, if_pos h27, if_neg h38, if_pos h56, if_neg h80, if_pos h93]
              exact ⟨rfl, rfl⟩
          · skip
            refine sr_aload_n G rfl d_B_acknowledge_83 ?_
            refine sr_aload_n G rfl d_B_acknowledge_84 ?_
            have hI9 : ci_ (f_B_finish M (Int32.toNatClampNeg x1)) := ci_fin hI
            refine sr_cvv G (vv_0 hn) rfl rfl ki_B_giveBack kx_B_giveBack (c_B_giveBack hn (by first | assumption | omega | decide) (by first | assumption | omega | decide)) kc_B_giveBack km_B_194 kn_B yy_B_giveBack rfl ⟨rfl, rfl, by decide, by decide⟩ (Nat.le_of_ble_eq_true rfl) rfl d_B_acknowledge_85 ?_
            refine sr_aload_n G rfl d_B_acknowledge_88 ?_
            refine sr_getN G (vv_9 hn (by omega)) rfl ku_Me rfl 10 (by decide) kf_B_147 rfl rfl d_B_acknowledge_89 ?_
            refine sr_iconst G (v := 1) (by decide) d_B_acknowledge_92 ?_
            refine sr_icmp_ne G 100 d_B_acknowledge_93 rfl (fun h93 => ?_) (fun h93 => ?_)
            · skip
              refine sr_iconst G (v := 0) (by decide) d_B_acknowledge_100 ?_
              refine sr_csi G ks_B_oneIf (c_B_oneIf) kc_B_oneIf km_B_73 kn_B yy_B_oneIf rfl ⟨rfl, rfl, by decide, by decide⟩ (Nat.le_of_ble_eq_true rfl) rfl d_B_acknowledge_101 ?_
              refine sr_iret G d_B_acknowledge_104 ?_
              unfold f_B_acknowledge
              rw [if_neg h5, if_pos h27, if_neg h38, if_pos h56, if_pos h80, if_neg h93]
              exact ⟨rfl, rfl⟩
            · skip
              refine sr_iconst G (v := 1) (by decide) d_B_acknowledge_96 ?_
              refine sr_goto G 101 d_B_acknowledge_97 rfl ?_
              refine sr_csi G ks_B_oneIf (c_B_oneIf) kc_B_oneIf km_B_73 kn_B yy_B_oneIf rfl ⟨rfl, rfl, by decide, by decide⟩ (Nat.le_of_ble_eq_true rfl) rfl d_B_acknowledge_101 ?_
              refine sr_iret G d_B_acknowledge_104 ?_
              unfold f_B_acknowledge
              rw [if_neg h5, if_pos h27, if_neg h38, if_pos h56, if_pos h80, if_pos h93]
              exact ⟨rfl, rfl⟩
        · skip
          refine sr_aload_n G rfl d_B_acknowledge_59 ?_
          refine sr_iload_n G rfl d_B_acknowledge_60 ?_
          refine sr_cvi G (vv_0 hn) rfl rfl ki_B_standsOneBefore kx_B_standsOneBefore (c_B_standsOneBefore hn (by first | assumption | omega | decide)) kc_B_standsOneBefore km_B_187 kn_B yy_B_standsOneBefore rfl ⟨rfl, rfl, by decide, by decide⟩ (Nat.le_of_ble_eq_true rfl) rfl d_B_acknowledge_61 ?_
          refine sr_if_eq G 70 d_B_acknowledge_64 rfl (fun h64 => ?_) (fun h64 => ?_)
          · skip
            refine sr_aload_n G rfl d_B_acknowledge_70 ?_
            refine sr_aload_n G rfl d_B_acknowledge_71 ?_
            refine sr_cvv G (vv_0 hn) rfl rfl ki_B_finish kx_B_finish (c_B_finish hn (by first | assumption | omega | decide) (by first | assumption | omega | decide)) kc_B_finish km_B_190 kn_B yy_B_finish rfl ⟨rfl, rfl, by decide, by decide⟩ (Nat.le_of_ble_eq_true rfl) rfl d_B_acknowledge_72 ?_
            refine sr_aload_n G rfl d_B_acknowledge_75 ?_
            refine sr_getN G (vv_9 hn (by omega)) rfl ku_Me rfl 10 (by decide) kf_B_147 rfl rfl d_B_acknowledge_76 ?_
            refine sr_iconst G (v := 2) (by decide) d_B_acknowledge_79 ?_
            refine sr_icmp_ne G 88 d_B_acknowledge_80 rfl (fun h80 => ?_) (fun h80 => ?_)
            · skip
              refine sr_aload_n G rfl d_B_acknowledge_88 ?_
              refine sr_getN G (vv_9 hn (by omega)) rfl ku_Me rfl 10 (by decide) kf_B_147 rfl rfl d_B_acknowledge_89 ?_
              refine sr_iconst G (v := 1) (by decide) d_B_acknowledge_92 ?_
              refine sr_icmp_ne G 100 d_B_acknowledge_93 rfl (fun h93 => ?_) (fun h93 => ?_)
              · skip
                refine sr_iconst G (v := 0) (by decide) d_B_acknowledge_100 ?_
                refine sr_csi G ks_B_oneIf (c_B_oneIf) kc_B_oneIf km_B_73 kn_B yy_B_oneIf rfl ⟨rfl, rfl, by decide, by decide⟩ (Nat.le_of_ble_eq_true rfl) rfl d_B_acknowledge_101 ?_
                refine sr_iret G d_B_acknowledge_104 ?_
                unfold f_B_acknowledge
                rw [if_neg h5, if_pos h27, if_neg h38, if_neg h56, if_pos h64, if_neg h80, if_neg h93]
                exact ⟨rfl, rfl⟩
              · skip
                refine sr_iconst G (v := 1) (by decide) d_B_acknowledge_96 ?_
                refine sr_goto G 101 d_B_acknowledge_97 rfl ?_
                refine sr_csi G ks_B_oneIf (c_B_oneIf) kc_B_oneIf km_B_73 kn_B yy_B_oneIf rfl ⟨rfl, rfl, by decide, by decide⟩ (Nat.le_of_ble_eq_true rfl) rfl d_B_acknowledge_101 ?_
                refine sr_iret G d_B_acknowledge_104 ?_
                unfold f_B_acknowledge
                rw [if_neg h5, if_pos h27, if_neg h38, if_neg h56, if_pos h64, if_neg h80, if_pos h93]
                exact ⟨rfl, rfl⟩
            · skip
              refine sr_aload_n G rfl d_B_acknowledge_83 ?_
              refine sr_aload_n G rfl d_B_acknowledge_84 ?_
              have hI9 : ci_ (f_B_finish M (Int32.toNatClampNeg x1)) := ci_fin hI
              refine sr_cvv G (vv_0 hn) rfl rfl ki_B_giveBack kx_B_giveBack (c_B_giveBack hn (by first | assumption | omega | decide) (by first | assumption | omega | decide)) kc_B_giveBack km_B_194 kn_B yy_B_giveBack rfl ⟨rfl, rfl, by decide, by decide⟩ (Nat.le_of_ble_eq_true rfl) rfl d_B_acknowledge_85 ?_
              refine sr_aload_n G rfl d_B_acknowledge_88 ?_
              refine sr_getN G (vv_9 hn (by omega)) rfl ku_Me rfl 10 (by decide) kf_B_147 rfl rfl d_B_acknowledge_89 ?_
              refine sr_iconst G (v := 1) (by decide) d_B_acknowledge_92 ?_
              refine sr_icmp_ne G 100 d_B_acknowledge_93 rfl (fun h93 => ?_) (fun h93 => ?_)
              · skip
                refine sr_iconst G (v := 0) (by decide) d_B_acknowledge_100 ?_
                refine sr_csi G ks_B_oneIf (c_B_oneIf) kc_B_oneIf km_B_73 kn_B yy_B_oneIf rfl ⟨rfl, rfl, by decide, by decide⟩ (Nat.le_of_ble_eq_true rfl) rfl d_B_acknowledge_101 ?_
                refine sr_iret G d_B_acknowledge_104 ?_
                unfold f_B_acknowledge
                rw [if_neg h5, if_pos h27, if_neg h38, if_neg h56, if_pos h64, if_pos h80, if_neg h93]
                exact ⟨rfl, rfl⟩
              · skip
                refine sr_iconst G (v := 1) (by decide) d_B_acknowledge_96 ?_
                refine sr_goto G 101 d_B_acknowledge_97 rfl ?_
                refine sr_csi G ks_B_oneIf (c_B_oneIf) kc_B_oneIf km_B_73 kn_B yy_B_oneIf rfl ⟨rfl, rfl, by decide, by decide⟩ (Nat.le_of_ble_eq_true rfl) rfl d_B_acknowledge_101 ?_
                refine sr_iret G d_B_acknowledge_104 ?_
                unfold f_B_acknowledge
                rw [if_neg h5, if_pos h27, if_neg h38, if_neg h56, if_pos h64, if_pos h80, if_pos h93]
                exact ⟨rfl, rfl⟩
          · skip
            refine sr_bipush G (v := (-8)) (by decide) d_B_acknowledge_67 ?_
            refine sr_iret G d_B_acknowledge_69 ?_
            unfold f_B_acknowledge
            rw [if_neg h5, if_pos h27, if_neg h38, if_neg h56, if_neg h64]
            exact ⟨rfl, rfl⟩
      · skip
        refine sr_bipush G (v := (-6)) (by decide) d_B_acknowledge_41 ?_
        refine sr_iret G d_B_acknowledge_43 ?_
        unfold f_B_acknowledge
        rw [if_neg h5, if_pos h27, if_pos h38]
        exact ⟨rfl, rfl⟩
    · skip
      refine sr_iload G rfl d_B_acknowledge_30 ?_
      refine sr_iret G d_B_acknowledge_32 ?_
      unfold f_B_acknowledge
      rw [if_neg h5, if_neg h27]
      exact ⟨rfl, rfl⟩
  · skip
    refine sr_iconst G (v := (-1)) (by decide) d_B_acknowledge_8 ?_
    refine sr_iret G d_B_acknowledge_9 ?_
    unfold f_B_acknowledge
    rw [if_pos h5]
    exact ⟨rfl, rfl⟩
def f_B_timeout (M : Mem) (x1 : Int32) (x2 : Int32) : Int32 × Mem := (if (f_B_isMessage M x1) = 0 then ((-1), M) else (if (f_B_refusalAtSender M (Int32.toNatClampNeg x1) x2) = 0 then (if (f_Me_isReceivedIn M (Int32.toNatClampNeg x1) x2) = 0 then (if (M 9 (Int32.toNatClampNeg x1) 7) ≤ x2 then (if ((f_B_giveBack (f_B_finish M (Int32.toNatClampNeg x1)) (Int32.toNatClampNeg x1)) 5 (Int32.toNatClampNeg ((f_B_giveBack (f_B_finish M (Int32.toNatClampNeg x1)) (Int32.toNatClampNeg x1)) 9 (Int32.toNatClampNeg x1) 0)) 1) = 0 then (((f_B_giveBack (f_B_finish M (Int32.toNatClampNeg x1)) (Int32.toNatClampNeg x1)) 9 (Int32.toNatClampNeg x1) 6), (f_B_giveBack (f_B_finish M (Int32.toNatClampNeg x1)) (Int32.toNatClampNeg x1))) else (if ((f_B_giveBack (f_B_finish M (Int32.toNatClampNeg x1)) (Int32.toNatClampNeg x1)) 6 (2 * (Int32.toNatClampNeg ((f_B_giveBack (f_B_finish M (Int32.toNatClampNeg x1)) (Int32.toNatClampNeg x1)) 9 (Int32.toNatClampNeg x1) 0)) + Int32.toNatClampNeg ((f_B_giveBack (f_B_finish M (Int32.toNatClampNeg x1)) (Int32.toNatClampNeg x1)) 9 (Int32.toNatClampNeg x1) 1)) 2) = 3 then (((f_En_comeTo (f_B_giveBack (f_B_finish M (Int32.toNatClampNeg x1)) (Int32.toNatClampNeg x1)) (2 * (Int32.toNatClampNeg ((f_B_giveBack (f_B_finish M (Int32.toNatClampNeg x1)) (Int32.toNatClampNeg x1)) 9 (Int32.toNatClampNeg x1) 0)) + Int32.toNatClampNeg ((f_B_giveBack (f_B_finish M (Int32.toNatClampNeg x1)) (Int32.toNatClampNeg x1)) 9 (Int32.toNatClampNeg x1) 1)) 4 ((f_B_giveBack (f_B_finish M (Int32.toNatClampNeg x1)) (Int32.toNatClampNeg x1)) 1 (Int32.toNatClampNeg ((f_B_giveBack (f_B_finish M (Int32.toNatClampNeg x1)) (Int32.toNatClampNeg x1)) 9 (Int32.toNatClampNeg x1) 1)) 2)) 9 (Int32.toNatClampNeg x1) 6), (f_En_comeTo (f_B_giveBack (f_B_finish M (Int32.toNatClampNeg x1)) (Int32.toNatClampNeg x1)) (2 * (Int32.toNatClampNeg ((f_B_giveBack (f_B_finish M (Int32.toNatClampNeg x1)) (Int32.toNatClampNeg x1)) 9 (Int32.toNatClampNeg x1) 0)) + Int32.toNatClampNeg ((f_B_giveBack (f_B_finish M (Int32.toNatClampNeg x1)) (Int32.toNatClampNeg x1)) 9 (Int32.toNatClampNeg x1) 1)) 4 ((f_B_giveBack (f_B_finish M (Int32.toNatClampNeg x1)) (Int32.toNatClampNeg x1)) 1 (Int32.toNatClampNeg ((f_B_giveBack (f_B_finish M (Int32.toNatClampNeg x1)) (Int32.toNatClampNeg x1)) 9 (Int32.toNatClampNeg x1) 1)) 2))) else (((f_B_giveBack (f_B_finish M (Int32.toNatClampNeg x1)) (Int32.toNatClampNeg x1)) 9 (Int32.toNatClampNeg x1) 6), (f_B_giveBack (f_B_finish M (Int32.toNatClampNeg x1)) (Int32.toNatClampNeg x1))))) else ((-7), M)) else ((-6), M)) else ((f_B_refusalAtSender M (Int32.toNatClampNeg x1) x2), M)))
set_option maxHeartbeats 4000000 in
set_option maxRecDepth 100000 in
theorem c_B_timeout {l : Launch} {D : va_G} {t6 : Nat → ClassId} {b n : Nat} (hn : 104 ≤ n) {M : Mem} {x1 : Int32} {x2 : Int32} (hI : ci_ M) : CI l D t6 b n y_B_timeout cd_B_timeout 6 .int (rk 5 108) [.ref (ad b 0 0), .int x1, .int x2] M (f_B_timeout M x1 x2).1 (f_B_timeout M x1 x2).2 := by
  refine en_i (by decide) (by simp [Value.category]) (Nat.le_of_ble_eq_true rfl) (fun p e s m below meth c G => ?_)
  refine sr_aload_n G rfl d_B_timeout_0 ?_
  refine sr_iload_n G rfl d_B_timeout_1 ?_
  refine sr_cvi G (vv_0 hn) rfl rfl ki_B_isMessage kx_B_isMessage (c_B_isMessage hn) kc_B_isMessage km_B_138 kn_B yy_B_isMessage rfl ⟨rfl, rfl, by decide, by decide⟩ (Nat.le_of_ble_eq_true rfl) rfl d_B_timeout_2 ?_
  refine sr_if_ne G 10 d_B_timeout_5 rfl (fun h5 => ?_) (fun h5 => ?_)
  · skip
    have v5 : vp_in x1 60 := in_ms hI h5
    have i5 := ix_lt v5
    obtain ⟨k5a, k5b, k5c⟩ := ci_mg hI i5
    have k5d := ix_lt k5a
    have k5e := ix_lt k5b
    have k5f := ix_lt k5c
    have k5g := in_1 k5b
    have k5h := ix_lt k5g
    refine sr_aload_n G rfl d_B_timeout_10 ?_
    refine sr_get G (vv_0 hn) rfl ku_B rfl 2 (by decide) kf_B_23 rfl rfl d_B_timeout_11 ?_
    refine sr_iload_n G rfl d_B_timeout_14 ?_
    refine sr_aald G (vv_12 hn) rfl rfl (by assumption) d_B_timeout_15 ?_
    refine sr_astore_n G (by decide) d_B_timeout_16 ?_
    refine sr_aload_n G rfl d_B_timeout_17 ?_
    refine sr_aload_n G rfl d_B_timeout_18 ?_
    refine sr_iload_n G rfl d_B_timeout_19 ?_
    refine sr_cvi G (vv_0 hn) rfl rfl ki_B_refusalAtSender kx_B_refusalAtSender (c_B_refusalAtSender hn (by first | assumption | omega | decide) (by first | assumption | omega | decide)) kc_B_refusalAtSender km_B_180 kn_B yy_B_refusalAtSender rfl ⟨rfl, rfl, by decide, by decide⟩ (Nat.le_of_ble_eq_true rfl) rfl d_B_timeout_20 ?_
    refine sr_istore G (by decide) d_B_timeout_23 ?_
    refine sr_iload G rfl d_B_timeout_25 ?_
    refine sr_if_eq G 33 d_B_timeout_27 rfl (fun h27 => ?_) (fun h27 => ?_)
    · skip
      refine sr_aload_n G rfl d_B_timeout_33 ?_
      refine sr_iload_n G rfl d_B_timeout_34 ?_
      refine sr_cvNi G (vv_9 hn (by omega)) rfl rfl ki_Me_isReceivedIn kx_Me_isReceivedIn (c_Me_isReceivedIn hn (by first | assumption | omega | decide)) kc_Me_isReceivedIn km_B_184 kn_Me yy_Me_isReceivedIn rfl ⟨rfl, rfl, by decide, by decide⟩ (Nat.le_of_ble_eq_true rfl) rfl d_B_timeout_35 ?_
      refine sr_if_eq G 44 d_B_timeout_38 rfl (fun h38 => ?_) (fun h38 => ?_)
      · skip
        refine sr_iload_n G rfl d_B_timeout_44 ?_
        refine sr_aload_n G rfl d_B_timeout_45 ?_
        refine sr_getN G (vv_9 hn (by omega)) rfl ku_Me rfl 7 (by decide) kf_B_156 rfl rfl d_B_timeout_46 ?_
        refine sr_icmp_ge G 55 d_B_timeout_49 rfl (fun h49 => ?_) (fun h49 => ?_)
        · skip
          refine sr_aload_n G rfl d_B_timeout_55 ?_
          refine sr_aload_n G rfl d_B_timeout_56 ?_
          refine sr_cvv G (vv_0 hn) rfl rfl ki_B_finish kx_B_finish (c_B_finish hn (by first | assumption | omega | decide) (by first | assumption | omega | decide)) kc_B_finish km_B_190 kn_B yy_B_finish rfl ⟨rfl, rfl, by decide, by decide⟩ (Nat.le_of_ble_eq_true rfl) rfl d_B_timeout_57 ?_
          refine sr_aload_n G rfl d_B_timeout_60 ?_
          refine sr_aload_n G rfl d_B_timeout_61 ?_
          have hI9 : ci_ (f_B_finish M (Int32.toNatClampNeg x1)) := ci_fin hI
          refine sr_cvv G (vv_0 hn) rfl rfl ki_B_giveBack kx_B_giveBack (c_B_giveBack hn (by first | assumption | omega | decide) (by first | assumption | omega | decide)) kc_B_giveBack km_B_194 kn_B yy_B_giveBack rfl ⟨rfl, rfl, by decide, by decide⟩ (Nat.le_of_ble_eq_true rfl) rfl d_B_timeout_62 ?_
          have hI8 : ci_ (f_B_giveBack (f_B_finish M (Int32.toNatClampNeg x1)) (Int32.toNatClampNeg x1)) := ci_gb hI9
          obtain ⟨u0, u1, u3_⟩ := ci_mg hI8 i5
          have u4 := ix_lt u0
          have u5 := ix_lt u1
          refine sr_aload_n G rfl d_B_timeout_65 ?_
          refine sr_get G (vv_0 hn) rfl ku_B rfl 1 (by decide) kf_B_17 rfl rfl d_B_timeout_66 ?_
          refine sr_aload_n G rfl d_B_timeout_69 ?_
          refine sr_getN G (vv_9 hn (by omega)) rfl ku_Me rfl 0 (by decide) kf_B_144 rfl rfl d_B_timeout_70 ?_
          refine sr_aald G (vv_11 hn) rfl rfl (by assumption) d_B_timeout_73 ?_
          refine sr_getN G (vv_5 hn (by omega)) rfl ku_Ch rfl 0 (by decide) kf_B_89 rfl rfl d_B_timeout_74 ?_
          refine sr_aload_n G rfl d_B_timeout_77 ?_
          refine sr_getN G (vv_9 hn (by omega)) rfl ku_Me rfl 1 (by decide) kf_B_141 rfl rfl d_B_timeout_78 ?_
          refine sr_aald G (vv_13 hn (by omega)) rfl rfl (by assumption) d_B_timeout_81 ?_
          refine sr_astore G (by decide) d_B_timeout_82 ?_
          refine sr_aload_n G rfl d_B_timeout_84 ?_
          refine sr_get G (vv_0 hn) rfl ku_B rfl 1 (by decide) kf_B_17 rfl rfl d_B_timeout_85 ?_
          refine sr_aload_n G rfl d_B_timeout_88 ?_
          refine sr_getN G (vv_9 hn (by omega)) rfl ku_Me rfl 0 (by decide) kf_B_144 rfl rfl d_B_timeout_89 ?_
          refine sr_aald G (vv_11 hn) rfl rfl (by assumption) d_B_timeout_92 ?_
          refine sr_getN G (vv_5 hn (by omega)) rfl ku_Ch rfl 1 (by decide) kf_B_86 rfl rfl d_B_timeout_93 ?_
          refine sr_if_eq G 126 d_B_timeout_96 rfl (fun h96 => ?_) (fun h96 => ?_)
          · skip
            refine sr_aload_n G rfl d_B_timeout_126 ?_
            refine sr_getN G (vv_9 hn (by omega)) rfl ku_Me rfl 6 (by decide) kf_B_168 rfl rfl d_B_timeout_127 ?_
            refine sr_iret G d_B_timeout_130 ?_
            unfold f_B_timeout
            rw [if_neg h5, if_pos h27, if_pos h38, if_pos h49, if_pos h96]
            exact ⟨rfl, rfl⟩
          · skip
            refine sr_aload G rfl d_B_timeout_99 ?_
            refine sr_getN G (vv_6 hn (by omega)) rfl ku_En rfl 2 (by decide) kf_B_114 rfl rfl d_B_timeout_101 ?_
            refine sr_iconst G (v := 3) (by decide) d_B_timeout_104 ?_
            refine sr_icmp_ne G 126 d_B_timeout_105 rfl (fun h105 => ?_) (fun h105 => ?_)
            · skip
              refine sr_aload_n G rfl d_B_timeout_126 ?_
              refine sr_getN G (vv_9 hn (by omega)) rfl ku_Me rfl 6 (by decide) kf_B_168 rfl rfl d_B_timeout_127 ?_
              refine sr_iret G d_B_timeout_130 ?_
              unfold f_B_timeout
              rw [if_neg h5, if_pos h27, if_pos h38, if_pos h49, if_neg h96, if_neg h105]
              exact ⟨rfl, rfl⟩
            · skip
              refine sr_aload G rfl d_B_timeout_108 ?_
              refine sr_iconst G (v := 4) (by decide) d_B_timeout_110 ?_
              refine sr_aload_n G rfl d_B_timeout_111 ?_
              refine sr_get G (vv_0 hn) rfl ku_B rfl 0 (by decide) kf_B_11 rfl rfl d_B_timeout_112 ?_
              refine sr_aload_n G rfl d_B_timeout_115 ?_
              refine sr_getN G (vv_9 hn (by omega)) rfl ku_Me rfl 1 (by decide) kf_B_141 rfl rfl d_B_timeout_116 ?_
              refine sr_aald G (vv_10 hn) rfl rfl (by assumption) d_B_timeout_119 ?_
              refine sr_getN G (vv_1 hn (by omega)) rfl ku_Le rfl 2 (by decide) kf_B_37 rfl rfl d_B_timeout_120 ?_
              refine sr_cvNv G (vv_6 hn (by omega)) rfl rfl ki_En_comeTo kx_En_comeTo (c_En_comeTo hn (by first | assumption | omega | decide)) kc_En_comeTo km_B_98 kn_En yy_En_comeTo rfl ⟨rfl, rfl, by decide, by decide⟩ (Nat.le_of_ble_eq_true rfl) rfl d_B_timeout_123 ?_
              refine sr_aload_n G rfl d_B_timeout_126 ?_
              refine sr_getN G (vv_9 hn (by omega)) rfl ku_Me rfl 6 (by decide) kf_B_168 rfl rfl d_B_timeout_127 ?_
              refine sr_iret G d_B_timeout_130 ?_
              unfold f_B_timeout
              rw [if_neg h5, if_pos h27, if_pos h38, if_pos h49, if_neg h96, if_pos h105]
              exact ⟨rfl, rfl⟩
        · skip
          refine sr_bipush G (v := (-7)) (by decide) d_B_timeout_52 ?_
          refine sr_iret G d_B_timeout_54 ?_
          unfold f_B_timeout
          rw [if_neg h5, if_pos h27, if_pos h38, if_neg h49]
          exact ⟨rfl, rfl⟩
      · skip
        refine sr_bipush G (v := (-6)) (by decide) d_B_timeout_41 ?_
        refine sr_iret G d_B_timeout_43 ?_
        unfold f_B_timeout
        rw [if_neg h5, if_pos h27, if_neg h38]
        exact ⟨rfl, rfl⟩
    · skip
      refine sr_iload G rfl d_B_timeout_30 ?_
      refine sr_iret G d_B_timeout_32 ?_
      unfold f_B_timeout
      rw [if_neg h5, if_neg h27]
      exact ⟨rfl, rfl⟩
  · skip
    refine sr_iconst G (v := (-1)) (by decide) d_B_timeout_8 ?_
    refine sr_iret G d_B_timeout_9 ?_
    unfold f_B_timeout
    rw [if_pos h5]
    exact ⟨rfl, rfl⟩
def f_B_end (M : Mem) (x1 : Int32) (x2 : Int32) (x3 : Int32) : Int32 := (if (f_B_isChannel M x1) = 0 then (-1) else (if (f_B_isSide x2) = 0 then (-1) else (if x3 = 0 then (M 6 (2 * (Int32.toNatClampNeg x1) + Int32.toNatClampNeg x2) 2) else (if x3 = 1 then (M 6 (2 * (Int32.toNatClampNeg x1) + Int32.toNatClampNeg x2) 3) else (if x3 = 2 then (M 6 (2 * (Int32.toNatClampNeg x1) + Int32.toNatClampNeg x2) 4) else (if x3 = 3 then (M 6 (2 * (Int32.toNatClampNeg x1) + Int32.toNatClampNeg x2) 5) else (if x3 = 4 then (M 6 (2 * (Int32.toNatClampNeg x1) + Int32.toNatClampNeg x2) 6) else (if x3 = 5 then (M 6 (2 * (Int32.toNatClampNeg x1) + Int32.toNatClampNeg x2) 7) else (if x3 = 6 then (f_B_oneIf (M 5 (Int32.toNatClampNeg x1) 1)) else (-2))))))))))
set_option maxHeartbeats 4000000 in
set_option maxRecDepth 100000 in
theorem c_B_end {l : Launch} {D : va_G} {t6 : Nat → ClassId} {b n : Nat} (hn : 104 ≤ n) {M : Mem} {x1 : Int32} {x2 : Int32} {x3 : Int32} (hI : ci_ M) : CI l D t6 b n y_B_end cd_B_end 5 .int (rk 2 43) [.ref (ad b 0 0), .int x1, .int x2, .int x3] M (f_B_end M x1 x2 x3) M := by
  refine en_i (by decide) (by simp [Value.category]) (Nat.le_of_ble_eq_true rfl) (fun p e s m below meth c G => ?_)
  refine sr_aload_n G rfl d_B_end_0 ?_
  refine sr_iload_n G rfl d_B_end_1 ?_
  refine sr_cvi G (vv_0 hn) rfl rfl ki_B_isChannel kx_B_isChannel (c_B_isChannel hn) kc_B_isChannel km_B_101 kn_B yy_B_isChannel rfl ⟨rfl, rfl, by decide, by decide⟩ (Nat.le_of_ble_eq_true rfl) rfl d_B_end_2 ?_
  refine sr_if_eq G 15 d_B_end_5 rfl (fun h5 => ?_) (fun h5 => ?_)
  · skip
    refine sr_iconst G (v := (-1)) (by decide) d_B_end_15 ?_
    refine sr_iret G d_B_end_16 ?_
    unfold f_B_end
    rw [if_pos h5]
    exact ⟨rfl, rfl⟩
  · skip
    have v5 : vp_in x1 4 := in_ch hI h5
    have i5 := ix_lt v5
    have f5 := hI.2.2.1 _ i5
    have f5a := ix_lt f5
    have f5b := in_1 f5
    have f5c := ix_lt f5b
    have f5d := in_1 f5b
    have f5e := ix_lt f5d
    refine sr_iload_n G rfl d_B_end_8 ?_
    refine sr_csi G ks_B_isSide (c_B_isSide) kc_B_isSide km_B_33 kn_B yy_B_isSide rfl ⟨rfl, rfl, by decide, by decide⟩ (Nat.le_of_ble_eq_true rfl) rfl d_B_end_9 ?_
    refine sr_if_ne G 17 d_B_end_12 rfl (fun h12 => ?_) (fun h12 => ?_)
    · skip
      have v12 : vp_in x2 2 := in_wi (lo := 0) (hi := 1) (by decide) (by decide) h12
      have i12 := ix_lt v12
      have w12 := in_1 v12
      have j12 := ix_lt w12
      refine sr_aload_n G rfl d_B_end_17 ?_
      refine sr_get G (vv_0 hn) rfl ku_B rfl 1 (by decide) kf_B_17 rfl rfl d_B_end_18 ?_
      refine sr_iload_n G rfl d_B_end_21 ?_
      refine sr_aald G (vv_11 hn) rfl rfl (by assumption) d_B_end_22 ?_
      refine sr_getN G (vv_5 hn (by omega)) rfl ku_Ch rfl 0 (by decide) kf_B_89 rfl rfl d_B_end_23 ?_
      refine sr_iload_n G rfl d_B_end_26 ?_
      refine sr_aald G (vv_13 hn (by omega)) rfl rfl (by assumption) d_B_end_27 ?_
      refine sr_astore G (by decide) d_B_end_28 ?_
      refine sr_iload_n G rfl d_B_end_30 ?_
      by_cases h31_0 : x3 = 0
      · skip
        refine sr_tabIn G 72 d_B_end_31 (by rw [h31_0]; decide) (by rw [h31_0]; decide) (by rw [h31_0]; rfl) rfl ?_
        refine sr_aload G rfl d_B_end_72 ?_
        refine sr_getN G (vv_6 hn (by omega)) rfl ku_En rfl 2 (by decide) kf_B_114 rfl rfl d_B_end_74 ?_
        refine sr_iret G d_B_end_77 ?_
        unfold f_B_end
        rw [if_neg h5, if_neg h12, if_pos h31_0]
        exact ⟨rfl, rfl⟩
      · skip
        by_cases h31_1 : x3 = 1
        · skip
          refine sr_tabIn G 78 d_B_end_31 (by rw [h31_1]; decide) (by rw [h31_1]; decide) (by rw [h31_1]; rfl) rfl ?_
          refine sr_aload G rfl d_B_end_78 ?_
          refine sr_getN G (vv_6 hn (by omega)) rfl ku_En rfl 3 (by decide) kf_B_93 rfl rfl d_B_end_80 ?_
          refine sr_iret G d_B_end_83 ?_
          unfold f_B_end
          rw [if_neg h5, if_neg h12, if_neg h31_0, if_pos h31_1]
          exact ⟨rfl, rfl⟩
        · skip
          by_cases h31_2 : x3 = 2
          · skip
            refine sr_tabIn G 84 d_B_end_31 (by rw [h31_2]; decide) (by rw [h31_2]; decide) (by rw [h31_2]; rfl) rfl ?_
            refine sr_aload G rfl d_B_end_84 ?_
            refine sr_getN G (vv_6 hn (by omega)) rfl ku_En rfl 4 (by decide) kf_B_111 rfl rfl d_B_end_86 ?_
            refine sr_iret G d_B_end_89 ?_
            unfold f_B_end
            rw [if_neg h5, if_neg h12, if_neg h31_0, if_neg h31_1, if_pos h31_2]
            exact ⟨rfl, rfl⟩
          · skip
            by_cases h31_3 : x3 = 3
            · skip
              refine sr_tabIn G 90 d_B_end_31 (by rw [h31_3]; decide) (by rw [h31_3]; decide) (by rw [h31_3]; rfl) rfl ?_
              refine sr_aload G rfl d_B_end_90 ?_
              refine sr_getN G (vv_6 hn (by omega)) rfl ku_En rfl 5 (by decide) kf_B_197 rfl rfl d_B_end_92 ?_
              refine sr_iret G d_B_end_95 ?_
              unfold f_B_end
              rw [if_neg h5, if_neg h12, if_neg h31_0, if_neg h31_1, if_neg h31_2, if_pos h31_3]
              exact ⟨rfl, rfl⟩
            · skip
              by_cases h31_4 : x3 = 4
              · skip
                refine sr_tabIn G 96 d_B_end_31 (by rw [h31_4]; decide) (by rw [h31_4]; decide) (by rw [h31_4]; rfl) rfl ?_
                refine sr_aload G rfl d_B_end_96 ?_
                refine sr_getN G (vv_6 hn (by omega)) rfl ku_En rfl 6 (by decide) kf_B_200 rfl rfl d_B_end_98 ?_
                refine sr_iret G d_B_end_101 ?_
                unfold f_B_end
                rw [if_neg h5, if_neg h12, if_neg h31_0, if_neg h31_1, if_neg h31_2, if_neg h31_3, if_pos h31_4]
                exact ⟨rfl, rfl⟩
              · skip
                by_cases h31_5 : x3 = 5
                · skip
                  refine sr_tabIn G 102 d_B_end_31 (by rw [h31_5]; decide) (by rw [h31_5]; decide) (by rw [h31_5]; rfl) rfl ?_
                  refine sr_aload G rfl d_B_end_102 ?_
                  refine sr_getN G (vv_6 hn (by omega)) rfl ku_En rfl 7 (by decide) kf_B_174 rfl rfl d_B_end_104 ?_
                  refine sr_iret G d_B_end_107 ?_
                  unfold f_B_end
                  rw [if_neg h5, if_neg h12, if_neg h31_0, if_neg h31_1, if_neg h31_2, if_neg h31_3, if_neg h31_4, if_pos h31_5]
                  exact ⟨rfl, rfl⟩
                · skip
                  by_cases h31_6 : x3 = 6
                  · skip
                    refine sr_tabIn G 108 d_B_end_31 (by rw [h31_6]; decide) (by rw [h31_6]; decide) (by rw [h31_6]; rfl) rfl ?_
                    refine sr_aload_n G rfl d_B_end_108 ?_
                    refine sr_get G (vv_0 hn) rfl ku_B rfl 1 (by decide) kf_B_17 rfl rfl d_B_end_109 ?_
                    refine sr_iload_n G rfl d_B_end_112 ?_
                    refine sr_aald G (vv_11 hn) rfl rfl (by assumption) d_B_end_113 ?_
                    refine sr_getN G (vv_5 hn (by omega)) rfl ku_Ch rfl 1 (by decide) kf_B_86 rfl rfl d_B_end_114 ?_
                    refine sr_csi G ks_B_oneIf (c_B_oneIf) kc_B_oneIf km_B_73 kn_B yy_B_oneIf rfl ⟨rfl, rfl, by decide, by decide⟩ (Nat.le_of_ble_eq_true rfl) rfl d_B_end_117 ?_
                    refine sr_iret G d_B_end_120 ?_
                    unfold f_B_end
                    rw [if_neg h5, if_neg h12, if_neg h31_0, if_neg h31_1, if_neg h31_2, if_neg h31_3, if_neg h31_4, if_neg h31_5, if_pos h31_6]
                    exact ⟨rfl, rfl⟩
                  · skip
                    refine sr_tabOut G 121 d_B_end_31 (by have := lv_neT h31_0 (show (0 : Int32).toInt = 0 by decide); have := lv_neT h31_1 (show (1 : Int32).toInt = 1 by decide); have := lv_neT h31_2 (show (2 : Int32).toInt = 2 by decide); have := lv_neT h31_3 (show (3 : Int32).toInt = 3 by decide); have := lv_neT h31_4 (show (4 : Int32).toInt = 4 by decide); have := lv_neT h31_5 (show (5 : Int32).toInt = 5 by decide); have := lv_neT h31_6 (show (6 : Int32).toInt = 6 by decide); omega) rfl ?_
                    refine sr_bipush G (v := (-2)) (by decide) d_B_end_121 ?_
                    refine sr_iret G d_B_end_123 ?_
                    unfold f_B_end
                    rw [if_neg h5, if_neg h12, if_neg h31_0, if_neg h31_1, if_neg h31_2, if_neg h31_3, if_neg h31_4, if_neg h31_5, if_neg h31_6]
                    exact ⟨rfl, rfl⟩
    · skip
      refine sr_iconst G (v := (-1)) (by decide) d_B_end_15 ?_
      refine sr_iret G d_B_end_16 ?_
      unfold f_B_end
      rw [if_neg h5, if_pos h12]
      exact ⟨rfl, rfl⟩
def f_B_stepAt (M : Mem) (x1 : Int32) (x2 : Int32) (x3 : Int32) : Int32 := (if (f_B_isChannel M x1) = 0 then (-1) else (if (f_B_isSide x2) = 0 then (-1) else (if (f_B_isWithin x3 0 (M 1 (Int32.toNatClampNeg x2) 2)) = 0 then (-2) else (f_En_stepIn M (2 * (Int32.toNatClampNeg x1) + Int32.toNatClampNeg x2) x3))))
set_option maxHeartbeats 4000000 in
set_option maxRecDepth 100000 in
theorem c_B_stepAt {l : Launch} {D : va_G} {t6 : Nat → ClassId} {b n : Nat} (hn : 104 ≤ n) {M : Mem} {x1 : Int32} {x2 : Int32} {x3 : Int32} (hI : ci_ M) : CI l D t6 b n y_B_stepAt cd_B_stepAt 4 .int (rk 2 43) [.ref (ad b 0 0), .int x1, .int x2, .int x3] M (f_B_stepAt M x1 x2 x3) M := by
  refine en_i (by decide) (by simp [Value.category]) (Nat.le_of_ble_eq_true rfl) (fun p e s m below meth c G => ?_)
  refine sr_aload_n G rfl d_B_stepAt_0 ?_
  refine sr_iload_n G rfl d_B_stepAt_1 ?_
  refine sr_cvi G (vv_0 hn) rfl rfl ki_B_isChannel kx_B_isChannel (c_B_isChannel hn) kc_B_isChannel km_B_101 kn_B yy_B_isChannel rfl ⟨rfl, rfl, by decide, by decide⟩ (Nat.le_of_ble_eq_true rfl) rfl d_B_stepAt_2 ?_
  refine sr_if_eq G 15 d_B_stepAt_5 rfl (fun h5 => ?_) (fun h5 => ?_)
  · skip
    refine sr_iconst G (v := (-1)) (by decide) d_B_stepAt_15 ?_
    refine sr_iret G d_B_stepAt_16 ?_
    unfold f_B_stepAt
    rw [if_pos h5]
    exact ⟨rfl, rfl⟩
  · skip
    have v5 : vp_in x1 4 := in_ch hI h5
    have i5 := ix_lt v5
    have f5 := hI.2.2.1 _ i5
    have f5a := ix_lt f5
    have f5b := in_1 f5
    have f5c := ix_lt f5b
    have f5d := in_1 f5b
    have f5e := ix_lt f5d
    refine sr_iload_n G rfl d_B_stepAt_8 ?_
    refine sr_csi G ks_B_isSide (c_B_isSide) kc_B_isSide km_B_33 kn_B yy_B_isSide rfl ⟨rfl, rfl, by decide, by decide⟩ (Nat.le_of_ble_eq_true rfl) rfl d_B_stepAt_9 ?_
    refine sr_if_ne G 17 d_B_stepAt_12 rfl (fun h12 => ?_) (fun h12 => ?_)
    · skip
      have v12 : vp_in x2 2 := in_wi (lo := 0) (hi := 1) (by decide) (by decide) h12
      have i12 := ix_lt v12
      have w12 := in_1 v12
      have j12 := ix_lt w12
      refine sr_iload_n G rfl d_B_stepAt_17 ?_
      refine sr_iconst G (v := 0) (by decide) d_B_stepAt_18 ?_
      refine sr_aload_n G rfl d_B_stepAt_19 ?_
      refine sr_get G (vv_0 hn) rfl ku_B rfl 0 (by decide) kf_B_11 rfl rfl d_B_stepAt_20 ?_
      refine sr_iload_n G rfl d_B_stepAt_23 ?_
      refine sr_aald G (vv_10 hn) rfl rfl (by assumption) d_B_stepAt_24 ?_
      refine sr_getN G (vv_1 hn (by omega)) rfl ku_Le rfl 2 (by decide) kf_B_37 rfl rfl d_B_stepAt_25 ?_
      refine sr_csi G ks_B_isWithin (c_B_isWithin) kc_B_isWithin km_B_41 kn_B yy_B_isWithin rfl ⟨rfl, rfl, by decide, by decide⟩ (Nat.le_of_ble_eq_true rfl) rfl d_B_stepAt_28 ?_
      refine sr_if_ne G 37 d_B_stepAt_31 rfl (fun h31 => ?_) (fun h31 => ?_)
      · skip
        refine sr_aload_n G rfl d_B_stepAt_37 ?_
        refine sr_get G (vv_0 hn) rfl ku_B rfl 1 (by decide) kf_B_17 rfl rfl d_B_stepAt_38 ?_
        refine sr_iload_n G rfl d_B_stepAt_41 ?_
        refine sr_aald G (vv_11 hn) rfl rfl (by assumption) d_B_stepAt_42 ?_
        refine sr_getN G (vv_5 hn (by omega)) rfl ku_Ch rfl 0 (by decide) kf_B_89 rfl rfl d_B_stepAt_43 ?_
        refine sr_iload_n G rfl d_B_stepAt_46 ?_
        refine sr_aald G (vv_13 hn (by omega)) rfl rfl (by assumption) d_B_stepAt_47 ?_
        refine sr_iload_n G rfl d_B_stepAt_48 ?_
        refine sr_cvNi G (vv_6 hn (by omega)) rfl rfl ki_En_stepIn kx_En_stepIn (c_En_stepIn hn (by first | assumption | omega | decide)) kc_En_stepIn km_B_203 kn_En yy_En_stepIn rfl ⟨rfl, rfl, by decide, by decide⟩ (Nat.le_of_ble_eq_true rfl) rfl d_B_stepAt_49 ?_
        refine sr_iret G d_B_stepAt_52 ?_
        unfold f_B_stepAt
        rw [if_neg h5, if_neg h12, if_neg h31]
        exact ⟨rfl, rfl⟩
      · skip
        refine sr_bipush G (v := (-2)) (by decide) d_B_stepAt_34 ?_
        refine sr_iret G d_B_stepAt_36 ?_
        unfold f_B_stepAt
        rw [if_neg h5, if_neg h12, if_pos h31]
        exact ⟨rfl, rfl⟩
    · skip
      refine sr_iconst G (v := (-1)) (by decide) d_B_stepAt_15 ?_
      refine sr_iret G d_B_stepAt_16 ?_
      unfold f_B_stepAt
      rw [if_neg h5, if_pos h12]
      exact ⟨rfl, rfl⟩
def f_B_message (M : Mem) (x1 : Int32) (x2 : Int32) : Int32 := (if (f_B_isMessage M x1) = 0 then (-1) else (if x2 = 0 then (M 9 (Int32.toNatClampNeg x1) 0) else (if x2 = 1 then (M 9 (Int32.toNatClampNeg x1) 1) else (if x2 = 2 then (M 9 (Int32.toNatClampNeg x1) 2) else (if x2 = 3 then (M 9 (Int32.toNatClampNeg x1) 6) else (if x2 = 4 then (M 9 (Int32.toNatClampNeg x1) 5) else (if x2 = 5 then (M 9 (Int32.toNatClampNeg x1) 3) else (if x2 = 6 then (M 9 (Int32.toNatClampNeg x1) 4) else (if x2 = 7 then (M 9 (Int32.toNatClampNeg x1) 7) else (if x2 = 8 then (f_B_oneIf (M 9 (Int32.toNatClampNeg x1) 8)) else (if x2 = 9 then (M 9 (Int32.toNatClampNeg x1) 10) else (if x2 = 10 then (f_B_oneIf (M 9 (Int32.toNatClampNeg x1) 9)) else (-2)))))))))))))
set_option maxHeartbeats 4000000 in
set_option maxRecDepth 100000 in
theorem c_B_message {l : Launch} {D : va_G} {t6 : Nat → ClassId} {b n : Nat} (hn : 104 ≤ n) {M : Mem} {x1 : Int32} {x2 : Int32} (hI : ci_ M) : CI l D t6 b n y_B_message cd_B_message 4 .int (rk 2 43) [.ref (ad b 0 0), .int x1, .int x2] M (f_B_message M x1 x2) M := by
  refine en_i (by decide) (by simp [Value.category]) (Nat.le_of_ble_eq_true rfl) (fun p e s m below meth c G => ?_)
  refine sr_aload_n G rfl d_B_message_0 ?_
  refine sr_iload_n G rfl d_B_message_1 ?_
  refine sr_cvi G (vv_0 hn) rfl rfl ki_B_isMessage kx_B_isMessage (c_B_isMessage hn) kc_B_isMessage km_B_138 kn_B yy_B_isMessage rfl ⟨rfl, rfl, by decide, by decide⟩ (Nat.le_of_ble_eq_true rfl) rfl d_B_message_2 ?_
  refine sr_if_ne G 10 d_B_message_5 rfl (fun h5 => ?_) (fun h5 => ?_)
  · skip
    have v5 : vp_in x1 60 := in_ms hI h5
    have i5 := ix_lt v5
    obtain ⟨k5a, k5b, k5c⟩ := ci_mg hI i5
    have k5d := ix_lt k5a
    have k5e := ix_lt k5b
    have k5f := ix_lt k5c
    have k5g := in_1 k5b
    have k5h := ix_lt k5g
    refine sr_aload_n G rfl d_B_message_10 ?_
    refine sr_get G (vv_0 hn) rfl ku_B rfl 2 (by decide) kf_B_23 rfl rfl d_B_message_11 ?_
    refine sr_iload_n G rfl d_B_message_14 ?_
    refine sr_aald G (vv_12 hn) rfl rfl (by assumption) d_B_message_15 ?_
    refine sr_astore_n G (by decide) d_B_message_16 ?_
    refine sr_iload_n G rfl d_B_message_17 ?_
    by_cases h18_0 : x2 = 0
    · skip
      refine sr_tabIn G 76 d_B_message_18 (by rw [h18_0]; decide) (by rw [h18_0]; decide) (by rw [h18_0]; rfl) rfl ?_
      refine sr_aload_n G rfl d_B_message_76 ?_
      refine sr_getN G (vv_9 hn (by omega)) rfl ku_Me rfl 0 (by decide) kf_B_144 rfl rfl d_B_message_77 ?_
      refine sr_iret G d_B_message_80 ?_
      unfold f_B_message
      rw [if_neg h5, if_pos h18_0]
      exact ⟨rfl, rfl⟩
    · skip
      by_cases h18_1 : x2 = 1
      · skip
        refine sr_tabIn G 81 d_B_message_18 (by rw [h18_1]; decide) (by rw [h18_1]; decide) (by rw [h18_1]; rfl) rfl ?_
        refine sr_aload_n G rfl d_B_message_81 ?_
        refine sr_getN G (vv_9 hn (by omega)) rfl ku_Me rfl 1 (by decide) kf_B_141 rfl rfl d_B_message_82 ?_
        refine sr_iret G d_B_message_85 ?_
        unfold f_B_message
        rw [if_neg h5, if_neg h18_0, if_pos h18_1]
        exact ⟨rfl, rfl⟩
      · skip
        by_cases h18_2 : x2 = 2
        · skip
          refine sr_tabIn G 86 d_B_message_18 (by rw [h18_2]; decide) (by rw [h18_2]; decide) (by rw [h18_2]; rfl) rfl ?_
          refine sr_aload_n G rfl d_B_message_86 ?_
          refine sr_getN G (vv_9 hn (by omega)) rfl ku_Me rfl 2 (by decide) kf_B_206 rfl rfl d_B_message_87 ?_
          refine sr_iret G d_B_message_90 ?_
          unfold f_B_message
          rw [if_neg h5, if_neg h18_0, if_neg h18_1, if_pos h18_2]
          exact ⟨rfl, rfl⟩
        · skip
          by_cases h18_3 : x2 = 3
          · skip
            refine sr_tabIn G 91 d_B_message_18 (by rw [h18_3]; decide) (by rw [h18_3]; decide) (by rw [h18_3]; rfl) rfl ?_
            refine sr_aload_n G rfl d_B_message_91 ?_
            refine sr_getN G (vv_9 hn (by omega)) rfl ku_Me rfl 6 (by decide) kf_B_168 rfl rfl d_B_message_92 ?_
            refine sr_iret G d_B_message_95 ?_
            unfold f_B_message
            rw [if_neg h5, if_neg h18_0, if_neg h18_1, if_neg h18_2, if_pos h18_3]
            exact ⟨rfl, rfl⟩
          · skip
            by_cases h18_4 : x2 = 4
            · skip
              refine sr_tabIn G 96 d_B_message_18 (by rw [h18_4]; decide) (by rw [h18_4]; decide) (by rw [h18_4]; rfl) rfl ?_
              refine sr_aload_n G rfl d_B_message_96 ?_
              refine sr_getN G (vv_9 hn (by omega)) rfl ku_Me rfl 5 (by decide) kf_B_165 rfl rfl d_B_message_97 ?_
              refine sr_iret G d_B_message_100 ?_
              unfold f_B_message
              rw [if_neg h5, if_neg h18_0, if_neg h18_1, if_neg h18_2, if_neg h18_3, if_pos h18_4]
              exact ⟨rfl, rfl⟩
            · skip
              by_cases h18_5 : x2 = 5
              · skip
                refine sr_tabIn G 101 d_B_message_18 (by rw [h18_5]; decide) (by rw [h18_5]; decide) (by rw [h18_5]; rfl) rfl ?_
                refine sr_aload_n G rfl d_B_message_101 ?_
                refine sr_getN G (vv_9 hn (by omega)) rfl ku_Me rfl 3 (by decide) kf_B_209 rfl rfl d_B_message_102 ?_
                refine sr_iret G d_B_message_105 ?_
                unfold f_B_message
                rw [if_neg h5, if_neg h18_0, if_neg h18_1, if_neg h18_2, if_neg h18_3, if_neg h18_4, if_pos h18_5]
                exact ⟨rfl, rfl⟩
              · skip
                by_cases h18_6 : x2 = 6
                · skip
                  refine sr_tabIn G 106 d_B_message_18 (by rw [h18_6]; decide) (by rw [h18_6]; decide) (by rw [h18_6]; rfl) rfl ?_
                  refine sr_aload_n G rfl d_B_message_106 ?_
                  refine sr_getN G (vv_9 hn (by omega)) rfl ku_Me rfl 4 (by decide) kf_B_162 rfl rfl d_B_message_107 ?_
                  refine sr_iret G d_B_message_110 ?_
                  unfold f_B_message
                  rw [if_neg h5, if_neg h18_0, if_neg h18_1, if_neg h18_2, if_neg h18_3, if_neg h18_4, if_neg h18_5, if_pos h18_6]
                  exact ⟨rfl, rfl⟩
                · skip
                  by_cases h18_7 : x2 = 7
                  · skip
                    refine sr_tabIn G 111 d_B_message_18 (by rw [h18_7]; decide) (by rw [h18_7]; decide) (by rw [h18_7]; rfl) rfl ?_
                    refine sr_aload_n G rfl d_B_message_111 ?_
                    refine sr_getN G (vv_9 hn (by omega)) rfl ku_Me rfl 7 (by decide) kf_B_156 rfl rfl d_B_message_112 ?_
                    refine sr_iret G d_B_message_115 ?_
                    unfold f_B_message
                    rw [if_neg h5, if_neg h18_0, if_neg h18_1, if_neg h18_2, if_neg h18_3, if_neg h18_4, if_neg h18_5, if_neg h18_6, if_pos h18_7]
                    exact ⟨rfl, rfl⟩
                  · skip
                    by_cases h18_8 : x2 = 8
                    · skip
                      refine sr_tabIn G 116 d_B_message_18 (by rw [h18_8]; decide) (by rw [h18_8]; decide) (by rw [h18_8]; rfl) rfl ?_
                      refine sr_aload_n G rfl d_B_message_116 ?_
                      refine sr_getN G (vv_9 hn (by omega)) rfl ku_Me rfl 8 (by decide) kf_B_212 rfl rfl d_B_message_117 ?_
                      refine sr_csi G ks_B_oneIf (c_B_oneIf) kc_B_oneIf km_B_73 kn_B yy_B_oneIf rfl ⟨rfl, rfl, by decide, by decide⟩ (Nat.le_of_ble_eq_true rfl) rfl d_B_message_120 ?_
                      refine sr_iret G d_B_message_123 ?_
                      unfold f_B_message
                      rw [if_neg h5, if_neg h18_0, if_neg h18_1, if_neg h18_2, if_neg h18_3, if_neg h18_4, if_neg h18_5, if_neg h18_6, if_neg h18_7, if_pos h18_8]
                      exact ⟨rfl, rfl⟩
                    · skip
                      by_cases h18_9 : x2 = 9
                      · skip
                        refine sr_tabIn G 124 d_B_message_18 (by rw [h18_9]; decide) (by rw [h18_9]; decide) (by rw [h18_9]; rfl) rfl ?_
                        refine sr_aload_n G rfl d_B_message_124 ?_
                        refine sr_getN G (vv_9 hn (by omega)) rfl ku_Me rfl 10 (by decide) kf_B_147 rfl rfl d_B_message_125 ?_
                        refine sr_iret G d_B_message_128 ?_
                        unfold f_B_message
                        rw [if_neg h5, if_neg h18_0, if_neg h18_1, if_neg h18_2, if_neg h18_3, if_neg h18_4, if_neg h18_5, if_neg h18_6, if_neg h18_7, if_neg h18_8, if_pos h18_9]
                        exact ⟨rfl, rfl⟩
                      · skip
                        by_cases h18_10 : x2 = 10
                        · skip
                          refine sr_tabIn G 129 d_B_message_18 (by rw [h18_10]; decide) (by rw [h18_10]; decide) (by rw [h18_10]; rfl) rfl ?_
                          refine sr_aload_n G rfl d_B_message_129 ?_
                          refine sr_getN G (vv_9 hn (by omega)) rfl ku_Me rfl 9 (by decide) kf_B_215 rfl rfl d_B_message_130 ?_
                          refine sr_csi G ks_B_oneIf (c_B_oneIf) kc_B_oneIf km_B_73 kn_B yy_B_oneIf rfl ⟨rfl, rfl, by decide, by decide⟩ (Nat.le_of_ble_eq_true rfl) rfl d_B_message_133 ?_
                          refine sr_iret G d_B_message_136 ?_
                          unfold f_B_message
                          rw [if_neg h5, if_neg h18_0, if_neg h18_1, if_neg h18_2, if_neg h18_3, if_neg h18_4, if_neg h18_5, if_neg h18_6, if_neg h18_7, if_neg h18_8, if_neg h18_9, if_pos h18_10]
                          exact ⟨rfl, rfl⟩
                        · skip
                          refine sr_tabOut G 137 d_B_message_18 (by have := lv_neT h18_0 (show (0 : Int32).toInt = 0 by decide); have := lv_neT h18_1 (show (1 : Int32).toInt = 1 by decide); have := lv_neT h18_2 (show (2 : Int32).toInt = 2 by decide); have := lv_neT h18_3 (show (3 : Int32).toInt = 3 by decide); have := lv_neT h18_4 (show (4 : Int32).toInt = 4 by decide); have := lv_neT h18_5 (show (5 : Int32).toInt = 5 by decide); have := lv_neT h18_6 (show (6 : Int32).toInt = 6 by decide); have := lv_neT h18_7 (show (7 : Int32).toInt = 7 by decide); have := lv_neT h18_8 (show (8 : Int32).toInt = 8 by decide); have := lv_neT h18_9 (show (9 : Int32).toInt = 9 by decide); have := lv_neT h18_10 (show (10 : Int32).toInt = 10 by decide); omega) rfl ?_
                          refine sr_bipush G (v := (-2)) (by decide) d_B_message_137 ?_
                          refine sr_iret G d_B_message_139 ?_
                          unfold f_B_message
                          rw [if_neg h5, if_neg h18_0, if_neg h18_1, if_neg h18_2, if_neg h18_3, if_neg h18_4, if_neg h18_5, if_neg h18_6, if_neg h18_7, if_neg h18_8, if_neg h18_9, if_neg h18_10]
                          exact ⟨rfl, rfl⟩
  · skip
    refine sr_iconst G (v := (-1)) (by decide) d_B_message_8 ?_
    refine sr_iret G d_B_message_9 ?_
    unfold f_B_message
    rw [if_pos h5]
    exact ⟨rfl, rfl⟩
def g_B_balance (M : Mem) (x1 : Int32) (x2 : Int32) (j : Nat) (ACC : Int32) : Int32 := (ACC + (M 8 (2 * (Int32.toNatClampNeg (nI j)) + Int32.toNatClampNeg x1) (Int32.toNatClampNeg x2)))
def f_B_balance (M : Mem) (x1 : Int32) (x2 : Int32) (x3 : Int32) : Int32 := (if (f_B_isSide x1) = 0 then (-1) else (if (f_B_isAccount x2) = 0 then (-1) else (if (f_B_isCoin x3) = 0 then (-1) else (if x3 = x1 then (M 2 (Int32.toNatClampNeg x1) (Int32.toNatClampNeg x2)) else (fd_ (g_B_balance M x1 x2) 0 (Int32.toNatClampNeg (M 0 0 3)))))))
set_option maxHeartbeats 4000000 in
set_option maxRecDepth 100000 in
theorem c_B_balance {l : Launch} {D : va_G} {t6 : Nat → ClassId} {b n : Nat} (hn : 104 ≤ n) {M : Mem} {x1 : Int32} {x2 : Int32} {x3 : Int32} (hI : ci_ M) : CI l D t6 b n y_B_balance cd_B_balance 6 .int (rk 2 42) [.ref (ad b 0 0), .int x1, .int x2, .int x3] M (f_B_balance M x1 x2 x3) M := by
  refine en_i (by decide) (by simp [Value.category]) (Nat.le_of_ble_eq_true rfl) (fun p e s m below meth c G => ?_)
  refine sr_iload_n G rfl d_B_balance_0 ?_
  refine sr_csi G ks_B_isSide (c_B_isSide) kc_B_isSide km_B_33 kn_B yy_B_isSide rfl ⟨rfl, rfl, by decide, by decide⟩ (Nat.le_of_ble_eq_true rfl) rfl d_B_balance_1 ?_
  refine sr_if_eq G 21 d_B_balance_4 rfl (fun h4 => ?_) (fun h4 => ?_)
  · skip
    refine sr_iconst G (v := (-1)) (by decide) d_B_balance_21 ?_
    refine sr_iret G d_B_balance_22 ?_
    unfold f_B_balance
    rw [if_pos h4]
    exact ⟨rfl, rfl⟩
  · skip
    have v4 : vp_in x1 2 := in_wi (lo := 0) (hi := 1) (by decide) (by decide) h4
    have i4 := ix_lt v4
    have w4 := in_1 v4
    have j4 := ix_lt w4
    refine sr_iload_n G rfl d_B_balance_7 ?_
    refine sr_csi G ks_B_isAccount (c_B_isAccount) kc_B_isAccount km_B_117 kn_B yy_B_isAccount rfl ⟨rfl, rfl, by decide, by decide⟩ (Nat.le_of_ble_eq_true rfl) rfl d_B_balance_8 ?_
    refine sr_if_eq G 21 d_B_balance_11 rfl (fun h11 => ?_) (fun h11 => ?_)
    · skip
      refine sr_iconst G (v := (-1)) (by decide) d_B_balance_21 ?_
      refine sr_iret G d_B_balance_22 ?_
      unfold f_B_balance
      rw [if_neg h4, if_pos h11]
      exact ⟨rfl, rfl⟩
    · skip
      have v11 : vp_in x2 4 := in_wi (lo := 0) (hi := 3) (by decide) (by decide) h11
      have i11 := ix_lt v11
      refine sr_iload_n G rfl d_B_balance_14 ?_
      refine sr_csi G ks_B_isCoin (c_B_isCoin) kc_B_isCoin km_B_120 kn_B yy_B_isCoin rfl ⟨rfl, rfl, by decide, by decide⟩ (Nat.le_of_ble_eq_true rfl) rfl d_B_balance_15 ?_
      refine sr_if_ne G 23 d_B_balance_18 rfl (fun h18 => ?_) (fun h18 => ?_)
      · skip
        have v18 : vp_in x3 2 := in_wi (lo := 0) (hi := 1) (by decide) (by decide) h18
        have i18 := ix_lt v18
        have w18 := in_1 v18
        have j18 := ix_lt w18
        refine sr_iload_n G rfl d_B_balance_23 ?_
        refine sr_iload_n G rfl d_B_balance_24 ?_
        refine sr_icmp_ne G 40 d_B_balance_25 rfl (fun h25 => ?_) (fun h25 => ?_)
        · skip
          refine sr_iconst G (v := 0) (by decide) d_B_balance_40 ?_
          refine sr_istore G (by decide) d_B_balance_41 ?_
          refine sr_iconst G (v := (nI 0)) (by decide) d_B_balance_43 ?_
          refine sr_istore G (by decide) d_B_balance_44 ?_
          obtain ⟨eL, hL⟩ := ci_cl hI
          refine sr_loop (Int32.toNatClampNeg (M 0 0 3)) (fun j => M) (fun j => [some (.ref (ad b 0 0)), some (.int x1), some (.int x2), some (.int x3), some (.int (fd_ (g_B_balance M x1 x2) 0 j)), some (.int (nI j))]) (fun _ => True) 0 (Nat.zero_le _) trivial rfl rfl (fun j hj0 hj hi ih => ?_) (fun hi => ?_)
          · skip
            have ij : (nI j).toNatClampNeg = j := nI_clamp (by omega)
            refine sr_iload G rfl d_B_balance_46 ?_
            refine sr_aload_n G rfl d_B_balance_48 ?_
            refine sr_get G (vv_0 hn) rfl ku_B rfl 3 (by decide) kf_B_80 rfl rfl d_B_balance_49 ?_
            refine sr_icmp_ge G 83 d_B_balance_52 rfl (fun h => absurd h (by rw [eL]; exact nI_ge hj (by omega))) (fun _ => ?_)
            refine sr_iload G rfl d_B_balance_55 ?_
            refine sr_aload_n G rfl d_B_balance_57 ?_
            refine sr_get G (vv_0 hn) rfl ku_B rfl 1 (by decide) kf_B_17 rfl rfl d_B_balance_58 ?_
            refine sr_iload G rfl d_B_balance_61 ?_
            refine sr_aald G (vv_11 hn) rfl rfl (vp_in_nI (by omega) (by decide)) d_B_balance_63 ?_
            refine sr_getN G (vv_5 hn (by omega)) rfl ku_Ch rfl 0 (by decide) kf_B_89 rfl rfl d_B_balance_64 ?_
            refine sr_iload_n G rfl d_B_balance_67 ?_
            refine sr_aald G (vv_13 hn (by omega)) rfl rfl (by assumption) d_B_balance_68 ?_
            refine sr_getN G (vv_6 hn (by omega)) rfl ku_En rfl 1 (by decide) kf_B_222 rfl rfl d_B_balance_69 ?_
            refine sr_iload_n G rfl d_B_balance_72 ?_
            refine sr_iald G (vv_8 hn (by omega)) rfl (by assumption) d_B_balance_73 ?_
            refine sr_iadd G d_B_balance_74 ?_
            refine sr_istore G (by decide) d_B_balance_75 ?_
            refine sr_iinc G (v := nI (j + 1)) rfl (nI_1 j) (by decide) d_B_balance_77 ?_
            refine sr_goto G 46 d_B_balance_80 rfl ?_
            have e9 : fd_ (g_B_balance M x1 x2) 0 (j + 1) = ((fd_ (g_B_balance M x1 x2) 0 j) + (M 8 (2 * (Int32.toNatClampNeg (nI j)) + Int32.toNatClampNeg x1) (Int32.toNatClampNeg x2))) := by
              show g_B_balance M x1 x2 j (fd_ (g_B_balance M x1 x2) 0 j) = _
              generalize fd_ (g_B_balance M x1 x2) 0 j = A9
              unfold g_B_balance
              rfl
            have ih9 := ih trivial
            try dsimp only at ih9
            rw [e9] at ih9
            exact ih9
          · skip
            refine sr_iload G rfl d_B_balance_46 ?_
            refine sr_aload_n G rfl d_B_balance_48 ?_
            refine sr_get G (vv_0 hn) rfl ku_B rfl 3 (by decide) kf_B_80 rfl rfl d_B_balance_49 ?_
            refine sr_icmp_ge G 83 d_B_balance_52 rfl (fun _ => ?_) (fun h => absurd (by rw [eL, nI_clamp (by omega)]; exact nI_le (Nat.le_refl _) (by omega)) h)
            refine sr_iload G rfl d_B_balance_83 ?_
            refine sr_iret G d_B_balance_85 ?_
            unfold f_B_balance
            rw [if_neg h4, if_neg h11, if_neg h18, if_neg h25]
            exact ⟨rfl, rfl⟩
        · skip
          refine sr_aload_n G rfl d_B_balance_28 ?_
          refine sr_get G (vv_0 hn) rfl ku_B rfl 0 (by decide) kf_B_11 rfl rfl d_B_balance_29 ?_
          refine sr_iload_n G rfl d_B_balance_32 ?_
          refine sr_aald G (vv_10 hn) rfl rfl (by assumption) d_B_balance_33 ?_
          refine sr_getN G (vv_1 hn (by omega)) rfl ku_Le rfl 0 (by decide) kf_B_218 rfl rfl d_B_balance_34 ?_
          refine sr_iload_n G rfl d_B_balance_37 ?_
          refine sr_iald G (vv_2 hn (by omega)) rfl (by assumption) d_B_balance_38 ?_
          refine sr_iret G d_B_balance_39 ?_
          unfold f_B_balance
          rw [if_neg h4, if_neg h11, if_neg h18, if_pos h25]
          exact ⟨rfl, rfl⟩
      · skip
        refine sr_iconst G (v := (-1)) (by decide) d_B_balance_21 ?_
        refine sr_iret G d_B_balance_22 ?_
        unfold f_B_balance
        rw [if_neg h4, if_neg h11, if_pos h18]
        exact ⟨rfl, rfl⟩
def f_B_vouchers (M : Mem) (x1 : Int32) (x2 : Int32) (x3 : Int32) : Int32 := (if (f_B_isChannel M x1) = 0 then (-1) else (if (f_B_isSide x2) = 0 then (-1) else (if (f_B_isAccount x3) = 0 then (-1) else (M 8 (2 * (Int32.toNatClampNeg x1) + Int32.toNatClampNeg x2) (Int32.toNatClampNeg x3)))))
set_option maxHeartbeats 4000000 in
set_option maxRecDepth 100000 in
theorem c_B_vouchers {l : Launch} {D : va_G} {t6 : Nat → ClassId} {b n : Nat} (hn : 104 ≤ n) {M : Mem} {x1 : Int32} {x2 : Int32} {x3 : Int32} (hI : ci_ M) : CI l D t6 b n y_B_vouchers cd_B_vouchers 4 .int (rk 2 43) [.ref (ad b 0 0), .int x1, .int x2, .int x3] M (f_B_vouchers M x1 x2 x3) M := by
  refine en_i (by decide) (by simp [Value.category]) (Nat.le_of_ble_eq_true rfl) (fun p e s m below meth c G => ?_)
  refine sr_aload_n G rfl d_B_vouchers_0 ?_
  refine sr_iload_n G rfl d_B_vouchers_1 ?_
  refine sr_cvi G (vv_0 hn) rfl rfl ki_B_isChannel kx_B_isChannel (c_B_isChannel hn) kc_B_isChannel km_B_101 kn_B yy_B_isChannel rfl ⟨rfl, rfl, by decide, by decide⟩ (Nat.le_of_ble_eq_true rfl) rfl d_B_vouchers_2 ?_
  refine sr_if_eq G 22 d_B_vouchers_5 rfl (fun h5 => ?_) (fun h5 => ?_)
  · skip
    refine sr_iconst G (v := (-1)) (by decide) d_B_vouchers_22 ?_
    refine sr_iret G d_B_vouchers_23 ?_
    unfold f_B_vouchers
    rw [if_pos h5]
    exact ⟨rfl, rfl⟩
  · skip
    have v5 : vp_in x1 4 := in_ch hI h5
    have i5 := ix_lt v5
    have f5 := hI.2.2.1 _ i5
    have f5a := ix_lt f5
    have f5b := in_1 f5
    have f5c := ix_lt f5b
    have f5d := in_1 f5b
    have f5e := ix_lt f5d
    refine sr_iload_n G rfl d_B_vouchers_8 ?_
    refine sr_csi G ks_B_isSide (c_B_isSide) kc_B_isSide km_B_33 kn_B yy_B_isSide rfl ⟨rfl, rfl, by decide, by decide⟩ (Nat.le_of_ble_eq_true rfl) rfl d_B_vouchers_9 ?_
    refine sr_if_eq G 22 d_B_vouchers_12 rfl (fun h12 => ?_) (fun h12 => ?_)
    · skip
      refine sr_iconst G (v := (-1)) (by decide) d_B_vouchers_22 ?_
      refine sr_iret G d_B_vouchers_23 ?_
      unfold f_B_vouchers
      rw [if_neg h5, if_pos h12]
      exact ⟨rfl, rfl⟩
    · skip
      have v12 : vp_in x2 2 := in_wi (lo := 0) (hi := 1) (by decide) (by decide) h12
      have i12 := ix_lt v12
      have w12 := in_1 v12
      have j12 := ix_lt w12
      refine sr_iload_n G rfl d_B_vouchers_15 ?_
      refine sr_csi G ks_B_isAccount (c_B_isAccount) kc_B_isAccount km_B_117 kn_B yy_B_isAccount rfl ⟨rfl, rfl, by decide, by decide⟩ (Nat.le_of_ble_eq_true rfl) rfl d_B_vouchers_16 ?_
      refine sr_if_ne G 24 d_B_vouchers_19 rfl (fun h19 => ?_) (fun h19 => ?_)
      · skip
        have v19 : vp_in x3 4 := in_wi (lo := 0) (hi := 3) (by decide) (by decide) h19
        have i19 := ix_lt v19
        refine sr_aload_n G rfl d_B_vouchers_24 ?_
        refine sr_get G (vv_0 hn) rfl ku_B rfl 1 (by decide) kf_B_17 rfl rfl d_B_vouchers_25 ?_
        refine sr_iload_n G rfl d_B_vouchers_28 ?_
        refine sr_aald G (vv_11 hn) rfl rfl (by assumption) d_B_vouchers_29 ?_
        refine sr_getN G (vv_5 hn (by omega)) rfl ku_Ch rfl 0 (by decide) kf_B_89 rfl rfl d_B_vouchers_30 ?_
        refine sr_iload_n G rfl d_B_vouchers_33 ?_
        refine sr_aald G (vv_13 hn (by omega)) rfl rfl (by assumption) d_B_vouchers_34 ?_
        refine sr_getN G (vv_6 hn (by omega)) rfl ku_En rfl 1 (by decide) kf_B_222 rfl rfl d_B_vouchers_35 ?_
        refine sr_iload_n G rfl d_B_vouchers_38 ?_
        refine sr_iald G (vv_8 hn (by omega)) rfl (by assumption) d_B_vouchers_39 ?_
        refine sr_iret G d_B_vouchers_40 ?_
        unfold f_B_vouchers
        rw [if_neg h5, if_neg h12, if_neg h19]
        exact ⟨rfl, rfl⟩
      · skip
        refine sr_iconst G (v := (-1)) (by decide) d_B_vouchers_22 ?_
        refine sr_iret G d_B_vouchers_23 ?_
        unfold f_B_vouchers
        rw [if_neg h5, if_neg h12, if_pos h19]
        exact ⟨rfl, rfl⟩
def f_B_sum (M : Mem) (x1 : Int32) (x2 : Int32) : Int32 := (if (f_B_isCoin x1) = 0 then (-1) else (if x2 = 0 then (f_B_total_2 M (Int32.toNatClampNeg x1)) else (if x2 = 1 then (f_B_allEscrows M x1) else (if x2 = 2 then (f_B_allVouchers M (1 - x1)) else (if x2 = 3 then (f_B_onTheWay M x1) else (-2))))))
set_option maxHeartbeats 4000000 in
set_option maxRecDepth 100000 in
theorem c_B_sum {l : Launch} {D : va_G} {t6 : Nat → ClassId} {b n : Nat} (hn : 104 ≤ n) {M : Mem} {x1 : Int32} {x2 : Int32} (hI : ci_ M) : CI l D t6 b n y_B_sum cd_B_sum 3 .int (rk 2 45) [.ref (ad b 0 0), .int x1, .int x2] M (f_B_sum M x1 x2) M := by
  refine en_i (by decide) (by simp [Value.category]) (Nat.le_of_ble_eq_true rfl) (fun p e s m below meth c G => ?_)
  refine sr_iload_n G rfl d_B_sum_0 ?_
  refine sr_csi G ks_B_isCoin (c_B_isCoin) kc_B_isCoin km_B_120 kn_B yy_B_isCoin rfl ⟨rfl, rfl, by decide, by decide⟩ (Nat.le_of_ble_eq_true rfl) rfl d_B_sum_1 ?_
  refine sr_if_ne G 9 d_B_sum_4 rfl (fun h4 => ?_) (fun h4 => ?_)
  · skip
    have v4 : vp_in x1 2 := in_wi (lo := 0) (hi := 1) (by decide) (by decide) h4
    have i4 := ix_lt v4
    have w4 := in_1 v4
    have j4 := ix_lt w4
    refine sr_iload_n G rfl d_B_sum_9 ?_
    by_cases h10_0 : x2 = 0
    · skip
      refine sr_tabIn G 40 d_B_sum_10 (by rw [h10_0]; decide) (by rw [h10_0]; decide) (by rw [h10_0]; rfl) rfl ?_
      refine sr_aload_n G rfl d_B_sum_40 ?_
      refine sr_get G (vv_0 hn) rfl ku_B rfl 0 (by decide) kf_B_11 rfl rfl d_B_sum_41 ?_
      refine sr_iload_n G rfl d_B_sum_44 ?_
      refine sr_aald G (vv_10 hn) rfl rfl (by assumption) d_B_sum_45 ?_
      refine sr_getN G (vv_1 hn (by omega)) rfl ku_Le rfl 0 (by decide) kf_B_218 rfl rfl d_B_sum_46 ?_
      refine sr_csi G ks_B_total (c_B_total_2 hn (by omega)) kc_B_total km_B_225 kn_B yy_B_total rfl ⟨rfl, rfl, by decide, by decide⟩ (Nat.le_of_ble_eq_true rfl) rfl d_B_sum_49 ?_
      refine sr_iret G d_B_sum_52 ?_
      unfold f_B_sum
      rw [if_neg h4, if_pos h10_0]
      exact ⟨rfl, rfl⟩
    · skip
      by_cases h10_1 : x2 = 1
      · skip
        refine sr_tabIn G 53 d_B_sum_10 (by rw [h10_1]; decide) (by rw [h10_1]; decide) (by rw [h10_1]; rfl) rfl ?_
        refine sr_aload_n G rfl d_B_sum_53 ?_
        refine sr_iload_n G rfl d_B_sum_54 ?_
        refine sr_cvi G (vv_0 hn) rfl rfl ki_B_allEscrows kx_B_allEscrows (c_B_allEscrows hn (by first | assumption | omega | decide) (by first | assumption | omega | decide)) kc_B_allEscrows km_B_229 kn_B yy_B_allEscrows rfl ⟨rfl, rfl, by decide, by decide⟩ (Nat.le_of_ble_eq_true rfl) rfl d_B_sum_55 ?_
        refine sr_iret G d_B_sum_58 ?_
        unfold f_B_sum
        rw [if_neg h4, if_neg h10_0, if_pos h10_1]
        exact ⟨rfl, rfl⟩
      · skip
        by_cases h10_2 : x2 = 2
        · skip
          refine sr_tabIn G 59 d_B_sum_10 (by rw [h10_2]; decide) (by rw [h10_2]; decide) (by rw [h10_2]; rfl) rfl ?_
          refine sr_aload_n G rfl d_B_sum_59 ?_
          refine sr_iconst G (v := 1) (by decide) d_B_sum_60 ?_
          refine sr_iload_n G rfl d_B_sum_61 ?_
          refine sr_isub G d_B_sum_62 ?_
          refine sr_cvi G (vv_0 hn) rfl rfl ki_B_allVouchers kx_B_allVouchers (c_B_allVouchers hn (by first | assumption | omega | decide) (by first | assumption | omega | decide)) kc_B_allVouchers km_B_232 kn_B yy_B_allVouchers rfl ⟨rfl, rfl, by decide, by decide⟩ (Nat.le_of_ble_eq_true rfl) rfl d_B_sum_63 ?_
          refine sr_iret G d_B_sum_66 ?_
          unfold f_B_sum
          rw [if_neg h4, if_neg h10_0, if_neg h10_1, if_pos h10_2]
          exact ⟨rfl, rfl⟩
        · skip
          by_cases h10_3 : x2 = 3
          · skip
            refine sr_tabIn G 67 d_B_sum_10 (by rw [h10_3]; decide) (by rw [h10_3]; decide) (by rw [h10_3]; rfl) rfl ?_
            refine sr_aload_n G rfl d_B_sum_67 ?_
            refine sr_iload_n G rfl d_B_sum_68 ?_
            refine sr_cvi G (vv_0 hn) rfl rfl ki_B_onTheWay kx_B_onTheWay (c_B_onTheWay hn (by first | assumption | omega | decide)) kc_B_onTheWay km_B_235 kn_B yy_B_onTheWay rfl ⟨rfl, rfl, by decide, by decide⟩ (Nat.le_of_ble_eq_true rfl) rfl d_B_sum_69 ?_
            refine sr_iret G d_B_sum_72 ?_
            unfold f_B_sum
            rw [if_neg h4, if_neg h10_0, if_neg h10_1, if_neg h10_2, if_pos h10_3]
            exact ⟨rfl, rfl⟩
          · skip
            refine sr_tabOut G 73 d_B_sum_10 (by have := lv_neT h10_0 (show (0 : Int32).toInt = 0 by decide); have := lv_neT h10_1 (show (1 : Int32).toInt = 1 by decide); have := lv_neT h10_2 (show (2 : Int32).toInt = 2 by decide); have := lv_neT h10_3 (show (3 : Int32).toInt = 3 by decide); omega) rfl ?_
            refine sr_bipush G (v := (-2)) (by decide) d_B_sum_73 ?_
            refine sr_iret G d_B_sum_75 ?_
            unfold f_B_sum
            rw [if_neg h4, if_neg h10_0, if_neg h10_1, if_neg h10_2, if_neg h10_3]
            exact ⟨rfl, rfl⟩
  · skip
    refine sr_iconst G (v := (-1)) (by decide) d_B_sum_7 ?_
    refine sr_iret G d_B_sum_8 ?_
    unfold f_B_sum
    rw [if_pos h4]
    exact ⟨rfl, rfl⟩
def f_B_count (M : Mem) (x1 : Int32) : Int32 := (if x1 = 0 then (M 1 (Int32.toNatClampNeg 0) 2) else (if x1 = 1 then (M 1 (Int32.toNatClampNeg 1) 2) else (if x1 = 2 then (M 0 0 3) else (if x1 = 3 then (M 0 0 4) else (if x1 = 4 then (f_B_howManyStand M) else (-2))))))
set_option maxHeartbeats 4000000 in
set_option maxRecDepth 100000 in
theorem c_B_count {l : Launch} {D : va_G} {t6 : Nat → ClassId} {b n : Nat} (hn : 104 ≤ n) {M : Mem} {x1 : Int32} (hI : ci_ M) : CI l D t6 b n y_B_count cd_B_count 2 .int (rk 2 42) [.ref (ad b 0 0), .int x1] M (f_B_count M x1) M := by
  refine en_i (by decide) (by simp [Value.category]) (Nat.le_of_ble_eq_true rfl) (fun p e s m below meth c G => ?_)
  refine sr_iload_n G rfl d_B_count_0 ?_
  by_cases h1_0 : x1 = 0
  · skip
    refine sr_tabIn G 36 d_B_count_1 (by rw [h1_0]; decide) (by rw [h1_0]; decide) (by rw [h1_0]; rfl) rfl ?_
    refine sr_aload_n G rfl d_B_count_36 ?_
    refine sr_get G (vv_0 hn) rfl ku_B rfl 0 (by decide) kf_B_11 rfl rfl d_B_count_37 ?_
    refine sr_iconst G (v := 0) (by decide) d_B_count_40 ?_
    refine sr_aald G (vv_10 hn) rfl rfl (by unfold vp_in; decide) d_B_count_41 ?_
    refine sr_getN G (vv_1 hn (by decide)) rfl ku_Le rfl 2 (by decide) kf_B_37 rfl rfl d_B_count_42 ?_
    refine sr_iret G d_B_count_45 ?_
    unfold f_B_count
    rw [if_pos h1_0]
    exact ⟨rfl, rfl⟩
  · skip
    by_cases h1_1 : x1 = 1
    · skip
      refine sr_tabIn G 46 d_B_count_1 (by rw [h1_1]; decide) (by rw [h1_1]; decide) (by rw [h1_1]; rfl) rfl ?_
      refine sr_aload_n G rfl d_B_count_46 ?_
      refine sr_get G (vv_0 hn) rfl ku_B rfl 0 (by decide) kf_B_11 rfl rfl d_B_count_47 ?_
      refine sr_iconst G (v := 1) (by decide) d_B_count_50 ?_
      refine sr_aald G (vv_10 hn) rfl rfl (by unfold vp_in; decide) d_B_count_51 ?_
      refine sr_getN G (vv_1 hn (by decide)) rfl ku_Le rfl 2 (by decide) kf_B_37 rfl rfl d_B_count_52 ?_
      refine sr_iret G d_B_count_55 ?_
      unfold f_B_count
      rw [if_neg h1_0, if_pos h1_1]
      exact ⟨rfl, rfl⟩
    · skip
      by_cases h1_2 : x1 = 2
      · skip
        refine sr_tabIn G 56 d_B_count_1 (by rw [h1_2]; decide) (by rw [h1_2]; decide) (by rw [h1_2]; rfl) rfl ?_
        refine sr_aload_n G rfl d_B_count_56 ?_
        refine sr_get G (vv_0 hn) rfl ku_B rfl 3 (by decide) kf_B_80 rfl rfl d_B_count_57 ?_
        refine sr_iret G d_B_count_60 ?_
        unfold f_B_count
        rw [if_neg h1_0, if_neg h1_1, if_pos h1_2]
        exact ⟨rfl, rfl⟩
      · skip
        by_cases h1_3 : x1 = 3
        · skip
          refine sr_tabIn G 61 d_B_count_1 (by rw [h1_3]; decide) (by rw [h1_3]; decide) (by rw [h1_3]; rfl) rfl ?_
          refine sr_aload_n G rfl d_B_count_61 ?_
          refine sr_get G (vv_0 hn) rfl ku_B rfl 4 (by decide) kf_B_127 rfl rfl d_B_count_62 ?_
          refine sr_iret G d_B_count_65 ?_
          unfold f_B_count
          rw [if_neg h1_0, if_neg h1_1, if_neg h1_2, if_pos h1_3]
          exact ⟨rfl, rfl⟩
        · skip
          by_cases h1_4 : x1 = 4
          · skip
            refine sr_tabIn G 66 d_B_count_1 (by rw [h1_4]; decide) (by rw [h1_4]; decide) (by rw [h1_4]; rfl) rfl ?_
            refine sr_aload_n G rfl d_B_count_66 ?_
            refine sr_cvi G (vv_0 hn) rfl rfl ki_B_howManyStand kx_B_howManyStand (c_B_howManyStand hn (by first | assumption | omega | decide)) kc_B_howManyStand km_B_238 kn_B yy_B_howManyStand rfl ⟨rfl, rfl, by decide, by decide⟩ (Nat.le_of_ble_eq_true rfl) rfl d_B_count_67 ?_
            refine sr_iret G d_B_count_70 ?_
            unfold f_B_count
            rw [if_neg h1_0, if_neg h1_1, if_neg h1_2, if_neg h1_3, if_pos h1_4]
            exact ⟨rfl, rfl⟩
          · skip
            refine sr_tabOut G 71 d_B_count_1 (by have := lv_neT h1_0 (show (0 : Int32).toInt = 0 by decide); have := lv_neT h1_1 (show (1 : Int32).toInt = 1 by decide); have := lv_neT h1_2 (show (2 : Int32).toInt = 2 by decide); have := lv_neT h1_3 (show (3 : Int32).toInt = 3 by decide); have := lv_neT h1_4 (show (4 : Int32).toInt = 4 by decide); omega) rfl ?_
            refine sr_bipush G (v := (-2)) (by decide) d_B_count_71 ?_
            refine sr_iret G d_B_count_73 ?_
            unfold f_B_count
            rw [if_neg h1_0, if_neg h1_1, if_neg h1_2, if_neg h1_3, if_neg h1_4]
            exact ⟨rfl, rfl⟩
def f_B_clear (M : Mem)  : Int32 × Mem := ((M 0 0 4), (f_B_beginAnew M))
set_option maxHeartbeats 4000000 in
set_option maxRecDepth 100000 in
theorem c_B_clear {l : Launch} {D : va_G} {t6 : Nat → ClassId} {b n : Nat} (hn : 104 ≤ n) {M : Mem} : CI l D t6 b n y_B_clear cd_B_clear 2 .int (rk 4 84) [.ref (ad b 0 0)] M (f_B_clear M).1 (f_B_clear M).2 := by
  refine en_i (by decide) (by simp [Value.category]) (Nat.le_of_ble_eq_true rfl) (fun p e s m below meth c G => ?_)
  refine sr_aload_n G rfl d_B_clear_0 ?_
  refine sr_get G (vv_0 hn) rfl ku_B rfl 4 (by decide) kf_B_127 rfl rfl d_B_clear_1 ?_
  refine sr_istore_n G (by decide) d_B_clear_4 ?_
  refine sr_aload_n G rfl d_B_clear_5 ?_
  refine sr_cvv G (vv_0 hn) rfl rfl ki_B_beginAnew kx_B_beginAnew (c_B_beginAnew hn) kc_B_beginAnew km_B_30 kn_B yy_B_beginAnew rfl ⟨rfl, rfl, by decide, by decide⟩ (Nat.le_of_ble_eq_true rfl) rfl d_B_clear_6 ?_
  refine sr_iload_n G rfl d_B_clear_9 ?_
  refine sr_iret G d_B_clear_10 ?_
  unfold f_B_clear
  exact ⟨rfl, rfl⟩
end
