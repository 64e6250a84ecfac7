/-! names of classes, their fields and methods; words of the tables by their places -/
def R_Ch : String := "BridgeClients$Channel"
def F_Ch : u_T := fun k => match k with
  | 0 => ("BridgeClients$Channel", "ends", "[LBridgeClients$End;", true)
  | 1 => ("BridgeClients$Channel", "ordered", "Z", false)
  | _ => ("BridgeClients$Channel", "first", "I", false)
def t_Ch : Nat → FieldType := fun k => match k with
  | 0 => .array (.object "BridgeClients$End")
  | 1 => .boolean
  | _ => .int
theorem nm_Ch : ∀ a, a < 3 → ∀ b, b < 3 → a ≠ b → (F_Ch a).2.1 ≠ (F_Ch b).2.1 := by decide +kernel
theorem ty_Ch : ∀ k, k < 3 → parseFieldDescriptor (F_Ch k).2.2.1 = some (t_Ch k) := by decide +kernel
theorem ku_Ch : ∀ w ∈ u_ws R_Ch F_Ch 3, w ∈ lw_tbl := by decide +kernel
def R_Cl : String := "BridgeClients$Client"
def F_Cl : u_T := fun k => match k with
  | 0 => ("BridgeClients$Client", "told", "[I", true)
  | 1 => ("BridgeClients$Client", "frozen", "Z", false)
  | 2 => ("BridgeClients$Client", "greatest", "I", false)
  | _ => ("BridgeClients$Client", "howMany", "I", false)
def t_Cl : Nat → FieldType := fun k => match k with
  | 0 => .array .int
  | 1 => .boolean
  | 2 => .int
  | _ => .int
theorem nm_Cl : ∀ a, a < 4 → ∀ b, b < 4 → a ≠ b → (F_Cl a).2.1 ≠ (F_Cl b).2.1 := by decide +kernel
theorem ty_Cl : ∀ k, k < 4 → parseFieldDescriptor (F_Cl k).2.2.1 = some (t_Cl k) := by decide +kernel
theorem ku_Cl : ∀ w ∈ u_ws R_Cl F_Cl 4, w ∈ lw_tbl := by decide +kernel
def R_En : String := "BridgeClients$End"
def F_En : u_T := fun k => match k with
  | 0 => ("BridgeClients$End", "cameAt", "[I", true)
  | 1 => ("BridgeClients$End", "vouchers", "[I", true)
  | 2 => ("BridgeClients$End", "step", "I", false)
  | 3 => ("BridgeClients$End", "offer", "I", false)
  | 4 => ("BridgeClients$End", "version", "I", false)
  | 5 => ("BridgeClients$End", "escrow", "I", false)
  | 6 => ("BridgeClients$End", "sent", "I", false)
  | _ => ("BridgeClients$End", "received", "I", false)
def t_En : Nat → FieldType := fun k => match k with
  | 0 => .array .int
  | 1 => .array .int
  | 2 => .int
  | 3 => .int
  | 4 => .int
  | 5 => .int
  | 6 => .int
  | _ => .int
theorem nm_En : ∀ a, a < 8 → ∀ b, b < 8 → a ≠ b → (F_En a).2.1 ≠ (F_En b).2.1 := by decide +kernel
theorem ty_En : ∀ k, k < 8 → parseFieldDescriptor (F_En k).2.2.1 = some (t_En k) := by decide +kernel
theorem ku_En : ∀ w ∈ u_ws R_En F_En 8, w ∈ lw_tbl := by decide +kernel
def R_Le : String := "BridgeClients$Ledger"
def F_Le : u_T := fun k => match k with
  | 0 => ("BridgeClients$Ledger", "coins", "[I", true)
  | 1 => ("BridgeClients$Ledger", "client", "LBridgeClients$Client;", true)
  | _ => ("BridgeClients$Ledger", "height", "I", false)
def t_Le : Nat → FieldType := fun k => match k with
  | 0 => .array .int
  | 1 => .object "BridgeClients$Client"
  | _ => .int
theorem nm_Le : ∀ a, a < 3 → ∀ b, b < 3 → a ≠ b → (F_Le a).2.1 ≠ (F_Le b).2.1 := by decide +kernel
theorem ty_Le : ∀ k, k < 3 → parseFieldDescriptor (F_Le k).2.2.1 = some (t_Le k) := by decide +kernel
theorem ku_Le : ∀ w ∈ u_ws R_Le F_Le 3, w ∈ lw_tbl := by decide +kernel
def R_Me : String := "BridgeClients$Message"
def F_Me : u_T := fun k => match k with
  | 0 => ("BridgeClients$Message", "channel", "I", false)
  | 1 => ("BridgeClients$Message", "side", "I", false)
  | 2 => ("BridgeClients$Message", "place", "I", false)
  | 3 => ("BridgeClients$Message", "account", "I", false)
  | 4 => ("BridgeClients$Message", "to", "I", false)
  | 5 => ("BridgeClients$Message", "coin", "I", false)
  | 6 => ("BridgeClients$Message", "amount", "I", false)
  | 7 => ("BridgeClients$Message", "until", "I", false)
  | 8 => ("BridgeClients$Message", "stands", "Z", false)
  | 9 => ("BridgeClients$Message", "cameBack", "Z", false)
  | 10 => ("BridgeClients$Message", "outcome", "I", false)
  | 11 => ("BridgeClients$Message", "sentAt", "I", false)
  | 12 => ("BridgeClients$Message", "finishedAt", "I", false)
  | _ => ("BridgeClients$Message", "receivedAt", "I", false)
def t_Me : Nat → FieldType := fun k => match k with
  | 0 => .int
  | 1 => .int
  | 2 => .int
  | 3 => .int
  | 4 => .int
  | 5 => .int
  | 6 => .int
  | 7 => .int
  | 8 => .boolean
  | 9 => .boolean
  | 10 => .int
  | 11 => .int
  | 12 => .int
  | _ => .int
theorem nm_Me : ∀ a, a < 14 → ∀ b, b < 14 → a ≠ b → (F_Me a).2.1 ≠ (F_Me b).2.1 := by decide +kernel
theorem ty_Me : ∀ k, k < 14 → parseFieldDescriptor (F_Me k).2.2.1 = some (t_Me k) := by decide +kernel
theorem ku_Me : ∀ w ∈ u_ws R_Me F_Me 14, w ∈ lw_tbl := by decide +kernel
def R_B : String := "BridgeClients"
def F_B : u_T := fun k => match k with
  | 0 => ("BridgeClients", "ledgers", "[LBridgeClients$Ledger;", true)
  | 1 => ("BridgeClients", "channels", "[LBridgeClients$Channel;", true)
  | 2 => ("BridgeClients", "messages", "[LBridgeClients$Message;", true)
  | 3 => ("BridgeClients", "channelCount", "I", false)
  | _ => ("BridgeClients", "messageCount", "I", false)
def t_B : Nat → FieldType := fun k => match k with
  | 0 => .array (.object "BridgeClients$Ledger")
  | 1 => .array (.object "BridgeClients$Channel")
  | 2 => .array (.object "BridgeClients$Message")
  | 3 => .int
  | _ => .int
theorem nm_B : ∀ a, a < 5 → ∀ b, b < 5 → a ≠ b → (F_B a).2.1 ≠ (F_B b).2.1 := by decide +kernel
theorem ty_B : ∀ k, k < 5 → parseFieldDescriptor (F_B k).2.2.1 = some (t_B k) := by decide +kernel
theorem ku_B : ∀ w ∈ u_ws R_B F_B 5, w ∈ lw_tbl := by decide +kernel
def R_R : String := "BridgeClientsModel"
def F_R : u_T := fun k => match k with
  | 0 => ("BridgeClientsModel", "heights", "[I", true)
  | 1 => ("BridgeClientsModel", "followed", "[I", true)
  | 2 => ("BridgeClientsModel", "frozen", "[Z", true)
  | 3 => ("BridgeClientsModel", "channels", "I", false)
  | 4 => ("BridgeClientsModel", "beginner", "[I", true)
  | 5 => ("BridgeClientsModel", "ordered", "[Z", true)
  | 6 => ("BridgeClientsModel", "steps", "[I", true)
  | 7 => ("BridgeClientsModel", "offers", "[I", true)
  | 8 => ("BridgeClientsModel", "versions", "[I", true)
  | 9 => ("BridgeClientsModel", "escrows", "[I", true)
  | 10 => ("BridgeClientsModel", "sent", "[I", true)
  | 11 => ("BridgeClientsModel", "received", "[I", true)
  | 12 => ("BridgeClientsModel", "stepsAt", "[I", true)
  | 13 => ("BridgeClientsModel", "homes", "[I", true)
  | 14 => ("BridgeClientsModel", "vouched", "[I", true)
  | 15 => ("BridgeClientsModel", "messages", "I", false)
  | 16 => ("BridgeClientsModel", "mChannel", "[I", true)
  | 17 => ("BridgeClientsModel", "mSide", "[I", true)
  | 18 => ("BridgeClientsModel", "mPlace", "[I", true)
  | 19 => ("BridgeClientsModel", "mAmount", "[I", true)
  | 20 => ("BridgeClientsModel", "mCoin", "[I", true)
  | 21 => ("BridgeClientsModel", "mAccount", "[I", true)
  | 22 => ("BridgeClientsModel", "mTo", "[I", true)
  | 23 => ("BridgeClientsModel", "mUntil", "[I", true)
  | 24 => ("BridgeClientsModel", "mStands", "[Z", true)
  | 25 => ("BridgeClientsModel", "mFrom", "[I", true)
  | 26 => ("BridgeClientsModel", "mEnd", "[I", true)
  | 27 => ("BridgeClientsModel", "mState", "[I", true)
  | 28 => ("BridgeClientsModel", "mGot", "[I", true)
  | _ => ("BridgeClientsModel", "mBack", "[Z", true)
def t_R : Nat → FieldType := fun k => match k with
  | 0 => .array .int
  | 1 => .array .int
  | 2 => .array .boolean
  | 3 => .int
  | 4 => .array .int
  | 5 => .array .boolean
  | 6 => .array .int
  | 7 => .array .int
  | 8 => .array .int
  | 9 => .array .int
  | 10 => .array .int
  | 11 => .array .int
  | 12 => .array .int
  | 13 => .array .int
  | 14 => .array .int
  | 15 => .int
  | 16 => .array .int
  | 17 => .array .int
  | 18 => .array .int
  | 19 => .array .int
  | 20 => .array .int
  | 21 => .array .int
  | 22 => .array .int
  | 23 => .array .int
  | 24 => .array .boolean
  | 25 => .array .int
  | 26 => .array .int
  | 27 => .array .int
  | 28 => .array .int
  | _ => .array .boolean
theorem nm_R : ∀ a, a < 30 → ∀ b, b < 30 → a ≠ b → (F_R a).2.1 ≠ (F_R b).2.1 := by decide +kernel
theorem ty_R : ∀ k, k < 30 → parseFieldDescriptor (F_R k).2.2.1 = some (t_R k) := by decide +kernel
theorem ku_R : ∀ w ∈ u_ws R_R F_R 30, w ∈ lw_tbl := by decide +kernel
abbrev classes : List vw_C := [(R_Ch, F_Ch, 3), (R_Cl, F_Cl, 4), (R_En, F_En, 8), (R_Le, F_Le, 3), (R_Me, F_Me, 14), (R_B, F_B, 5), (R_R, F_R, 30)]
def R_law : String := "BridgeClientsLaw"
abbrev cd_B_new : ByteArray := prog_1_method_1_code
def y_B_new : MethodName := ⟨"BridgeClients", "<init>", "()V"⟩
abbrev cd_B_tick : ByteArray := prog_1_method_2_code
def y_B_tick : MethodName := ⟨"BridgeClients", "tick", "(I)I"⟩
abbrev cd_B_follow : ByteArray := prog_1_method_3_code
def y_B_follow : MethodName := ⟨"BridgeClients", "follow", "(III)I"⟩
abbrev cd_B_renew : ByteArray := prog_1_method_4_code
def y_B_renew : MethodName := ⟨"BridgeClients", "renew", "(I)I"⟩
abbrev cd_B_client : ByteArray := prog_1_method_5_code
def y_B_client : MethodName := ⟨"BridgeClients", "client", "(II)I"⟩
abbrev cd_B_follows : ByteArray := prog_1_method_6_code
def y_B_follows : MethodName := ⟨"BridgeClients", "follows", "(II)I"⟩
abbrev cd_B_init : ByteArray := prog_1_method_7_code
def y_B_init : MethodName := ⟨"BridgeClients", "init", "(IZI)I"⟩
abbrev cd_B_meet : ByteArray := prog_1_method_8_code
def y_B_meet : MethodName := ⟨"BridgeClients", "meet", "(III)I"⟩
abbrev cd_B_agree : ByteArray := prog_1_method_9_code
def y_B_agree : MethodName := ⟨"BridgeClients", "agree", "(II)I"⟩
abbrev cd_B_confirm : ByteArray := prog_1_method_10_code
def y_B_confirm : MethodName := ⟨"BridgeClients", "confirm", "(II)I"⟩
abbrev cd_B_close : ByteArray := prog_1_method_11_code
def y_B_close : MethodName := ⟨"BridgeClients", "close", "(II)I"⟩
abbrev cd_B_shut : ByteArray := prog_1_method_12_code
def y_B_shut : MethodName := ⟨"BridgeClients", "shut", "(III)I"⟩
abbrev cd_B_send : ByteArray := prog_1_method_13_code
def y_B_send : MethodName := ⟨"BridgeClients", "send", "(IIIIIII)I"⟩
abbrev cd_B_receive : ByteArray := prog_1_method_14_code
def y_B_receive : MethodName := ⟨"BridgeClients", "receive", "(II)I"⟩
abbrev cd_B_acknowledge : ByteArray := prog_1_method_15_code
def y_B_acknowledge : MethodName := ⟨"BridgeClients", "acknowledge", "(II)I"⟩
abbrev cd_B_timeout : ByteArray := prog_1_method_16_code
def y_B_timeout : MethodName := ⟨"BridgeClients", "timeout", "(II)I"⟩
abbrev cd_B_end : ByteArray := prog_1_method_17_code
def y_B_end : MethodName := ⟨"BridgeClients", "end", "(III)I"⟩
abbrev cd_B_stepAt : ByteArray := prog_1_method_18_code
def y_B_stepAt : MethodName := ⟨"BridgeClients", "stepAt", "(III)I"⟩
abbrev cd_B_message : ByteArray := prog_1_method_19_code
def y_B_message : MethodName := ⟨"BridgeClients", "message", "(II)I"⟩
abbrev cd_B_balance : ByteArray := prog_1_method_20_code
def y_B_balance : MethodName := ⟨"BridgeClients", "balance", "(III)I"⟩
abbrev cd_B_vouchers : ByteArray := prog_1_method_21_code
def y_B_vouchers : MethodName := ⟨"BridgeClients", "vouchers", "(III)I"⟩
abbrev cd_B_sum : ByteArray := prog_1_method_22_code
def y_B_sum : MethodName := ⟨"BridgeClients", "sum", "(II)I"⟩
abbrev cd_B_count : ByteArray := prog_1_method_23_code
def y_B_count : MethodName := ⟨"BridgeClients", "count", "(I)I"⟩
abbrev cd_B_clear : ByteArray := prog_1_method_24_code
def y_B_clear : MethodName := ⟨"BridgeClients", "clear", "()I"⟩
abbrev cd_B_isWithin : ByteArray := prog_1_method_25_code
def y_B_isWithin : MethodName := ⟨"BridgeClients", "isWithin", "(III)Z"⟩
abbrev cd_B_isSide : ByteArray := prog_1_method_26_code
def y_B_isSide : MethodName := ⟨"BridgeClients", "isSide", "(I)Z"⟩
abbrev cd_B_isCoin : ByteArray := prog_1_method_27_code
def y_B_isCoin : MethodName := ⟨"BridgeClients", "isCoin", "(I)Z"⟩
abbrev cd_B_isAccount : ByteArray := prog_1_method_28_code
def y_B_isAccount : MethodName := ⟨"BridgeClients", "isAccount", "(I)Z"⟩
abbrev cd_B_isChannel : ByteArray := prog_1_method_29_code
def y_B_isChannel : MethodName := ⟨"BridgeClients", "isChannel", "(I)Z"⟩
abbrev cd_B_isMessage : ByteArray := prog_1_method_30_code
def y_B_isMessage : MethodName := ⟨"BridgeClients", "isMessage", "(I)Z"⟩
abbrev cd_B_oneIf : ByteArray := prog_1_method_31_code
def y_B_oneIf : MethodName := ⟨"BridgeClients", "oneIf", "(Z)I"⟩
abbrev cd_B_refusalOfStep : ByteArray := prog_1_method_32_code
def y_B_refusalOfStep : MethodName := ⟨"BridgeClients", "refusalOfStep", "(IIIII)I"⟩
abbrev cd_B_refusalAtSender : ByteArray := prog_1_method_33_code
def y_B_refusalAtSender : MethodName := ⟨"BridgeClients", "refusalAtSender", "(LBridgeClients$Message;I)I"⟩
abbrev cd_B_areAllBeforeReceived : ByteArray := prog_1_method_34_code
def y_B_areAllBeforeReceived : MethodName := ⟨"BridgeClients", "areAllBeforeReceived", "(I)Z"⟩
abbrev cd_B_standsOneBefore : ByteArray := prog_1_method_35_code
def y_B_standsOneBefore : MethodName := ⟨"BridgeClients", "standsOneBefore", "(I)Z"⟩
abbrev cd_B_purse : ByteArray := prog_1_method_36_code
def y_B_purse : MethodName := ⟨"BridgeClients", "purse", "(III)[I"⟩
abbrev cd_B_takeIn : ByteArray := prog_1_method_37_code
def y_B_takeIn : MethodName := ⟨"BridgeClients", "takeIn", "(IIIII)V"⟩
abbrev cd_B_giveOut : ByteArray := prog_1_method_38_code
def y_B_giveOut : MethodName := ⟨"BridgeClients", "giveOut", "(IIIII)V"⟩
abbrev cd_B_write : ByteArray := prog_1_method_39_code
def y_B_write : MethodName := ⟨"BridgeClients", "write", "(IIIIIII)V"⟩
abbrev cd_B_finish : ByteArray := prog_1_method_40_code
def y_B_finish : MethodName := ⟨"BridgeClients", "finish", "(LBridgeClients$Message;)V"⟩
abbrev cd_B_giveBack : ByteArray := prog_1_method_41_code
def y_B_giveBack : MethodName := ⟨"BridgeClients", "giveBack", "(LBridgeClients$Message;)V"⟩
abbrev cd_B_greatestVersion : ByteArray := prog_1_method_42_code
def y_B_greatestVersion : MethodName := ⟨"BridgeClients", "greatestVersion", "(I)I"⟩
abbrev cd_B_total : ByteArray := prog_1_method_43_code
def y_B_total : MethodName := ⟨"BridgeClients", "total", "([I)I"⟩
abbrev cd_B_allEscrows : ByteArray := prog_1_method_44_code
def y_B_allEscrows : MethodName := ⟨"BridgeClients", "allEscrows", "(I)I"⟩
abbrev cd_B_allVouchers : ByteArray := prog_1_method_45_code
def y_B_allVouchers : MethodName := ⟨"BridgeClients", "allVouchers", "(I)I"⟩
abbrev cd_B_onTheWay : ByteArray := prog_1_method_46_code
def y_B_onTheWay : MethodName := ⟨"BridgeClients", "onTheWay", "(I)I"⟩
abbrev cd_B_howManyStand : ByteArray := prog_1_method_47_code
def y_B_howManyStand : MethodName := ⟨"BridgeClients", "howManyStand", "()I"⟩
abbrev cd_B_beginAnew : ByteArray := prog_1_method_48_code
def y_B_beginAnew : MethodName := ⟨"BridgeClients", "beginAnew", "()V"⟩
abbrev cd_R_new : ByteArray := prog_8_method_1_code
def y_R_new : MethodName := ⟨"BridgeClientsModel", "<init>", "()V"⟩
abbrev cd_R_in : ByteArray := prog_8_method_2_code
def y_R_in : MethodName := ⟨"BridgeClientsModel", "in", "(III)Z"⟩
abbrev cd_R_begin : ByteArray := prog_8_method_3_code
def y_R_begin : MethodName := ⟨"BridgeClientsModel", "begin", "()V"⟩
abbrev cd_R_forget : ByteArray := prog_8_method_4_code
def y_R_forget : MethodName := ⟨"BridgeClientsModel", "forget", "(I)V"⟩
abbrev cd_R_noSide : ByteArray := prog_8_method_5_code
def y_R_noSide : MethodName := ⟨"BridgeClientsModel", "noSide", "(I)Z"⟩
abbrev cd_R_tick : ByteArray := prog_8_method_6_code
def y_R_tick : MethodName := ⟨"BridgeClientsModel", "tick", "(I)I"⟩
abbrev cd_R_follow : ByteArray := prog_8_method_7_code
def y_R_follow : MethodName := ⟨"BridgeClientsModel", "follow", "(III)I"⟩
abbrev cd_R_followedMany : ByteArray := prog_8_method_8_code
def y_R_followedMany : MethodName := ⟨"BridgeClientsModel", "followedMany", "(I)I"⟩
abbrev cd_R_highest : ByteArray := prog_8_method_9_code
def y_R_highest : MethodName := ⟨"BridgeClientsModel", "highest", "(I)I"⟩
abbrev cd_R_renew : ByteArray := prog_8_method_10_code
def y_R_renew : MethodName := ⟨"BridgeClientsModel", "renew", "(I)I"⟩
abbrev cd_R_client : ByteArray := prog_8_method_11_code
def y_R_client : MethodName := ⟨"BridgeClientsModel", "client", "(II)I"⟩
abbrev cd_R_follows : ByteArray := prog_8_method_12_code
def y_R_follows : MethodName := ⟨"BridgeClientsModel", "follows", "(II)I"⟩
abbrev cd_R_unproved : ByteArray := prog_8_method_13_code
def y_R_unproved : MethodName := ⟨"BridgeClientsModel", "unproved", "(II)I"⟩
abbrev cd_R_stepOf : ByteArray := prog_8_method_14_code
def y_R_stepOf : MethodName := ⟨"BridgeClientsModel", "stepOf", "(III)I"⟩
abbrev cd_R_unprovedStep : ByteArray := prog_8_method_15_code
def y_R_unprovedStep : MethodName := ⟨"BridgeClientsModel", "unprovedStep", "(IIII)I"⟩
abbrev cd_R_noChannel : ByteArray := prog_8_method_16_code
def y_R_noChannel : MethodName := ⟨"BridgeClientsModel", "noChannel", "(I)Z"⟩
abbrev cd_R_init : ByteArray := prog_8_method_17_code
def y_R_init : MethodName := ⟨"BridgeClientsModel", "init", "(IZI)I"⟩
abbrev cd_R_greatestOf : ByteArray := prog_8_method_18_code
def y_R_greatestOf : MethodName := ⟨"BridgeClientsModel", "greatestOf", "(I)I"⟩
abbrev cd_R_meet : ByteArray := prog_8_method_19_code
def y_R_meet : MethodName := ⟨"BridgeClientsModel", "meet", "(III)I"⟩
abbrev cd_R_agree : ByteArray := prog_8_method_20_code
def y_R_agree : MethodName := ⟨"BridgeClientsModel", "agree", "(II)I"⟩
abbrev cd_R_confirm : ByteArray := prog_8_method_21_code
def y_R_confirm : MethodName := ⟨"BridgeClientsModel", "confirm", "(II)I"⟩
abbrev cd_R_close : ByteArray := prog_8_method_22_code
def y_R_close : MethodName := ⟨"BridgeClientsModel", "close", "(II)I"⟩
abbrev cd_R_shut : ByteArray := prog_8_method_23_code
def y_R_shut : MethodName := ⟨"BridgeClientsModel", "shut", "(III)I"⟩
abbrev cd_R_has : ByteArray := prog_8_method_24_code
def y_R_has : MethodName := ⟨"BridgeClientsModel", "has", "(III)I"⟩
abbrev cd_R_give : ByteArray := prog_8_method_25_code
def y_R_give : MethodName := ⟨"BridgeClientsModel", "give", "(IIII)V"⟩
abbrev cd_R_send : ByteArray := prog_8_method_26_code
def y_R_send : MethodName := ⟨"BridgeClientsModel", "send", "(IIIIIII)I"⟩
abbrev cd_R_noMessage : ByteArray := prog_8_method_27_code
def y_R_noMessage : MethodName := ⟨"BridgeClientsModel", "noMessage", "(I)Z"⟩
abbrev cd_R_isBehind : ByteArray := prog_8_method_28_code
def y_R_isBehind : MethodName := ⟨"BridgeClientsModel", "isBehind", "(IZ)Z"⟩
abbrev cd_R_receive : ByteArray := prog_8_method_29_code
def y_R_receive : MethodName := ⟨"BridgeClientsModel", "receive", "(II)I"⟩
abbrev cd_R_finish : ByteArray := prog_8_method_30_code
def y_R_finish : MethodName := ⟨"BridgeClientsModel", "finish", "(IZ)V"⟩
abbrev cd_R_acknowledge : ByteArray := prog_8_method_31_code
def y_R_acknowledge : MethodName := ⟨"BridgeClientsModel", "acknowledge", "(II)I"⟩
abbrev cd_R_timeout : ByteArray := prog_8_method_32_code
def y_R_timeout : MethodName := ⟨"BridgeClientsModel", "timeout", "(II)I"⟩
abbrev cd_R_end : ByteArray := prog_8_method_33_code
def y_R_end : MethodName := ⟨"BridgeClientsModel", "end", "(III)I"⟩
abbrev cd_R_stepAt : ByteArray := prog_8_method_34_code
def y_R_stepAt : MethodName := ⟨"BridgeClientsModel", "stepAt", "(III)I"⟩
abbrev cd_R_message : ByteArray := prog_8_method_35_code
def y_R_message : MethodName := ⟨"BridgeClientsModel", "message", "(II)I"⟩
abbrev cd_R_balance : ByteArray := prog_8_method_36_code
def y_R_balance : MethodName := ⟨"BridgeClientsModel", "balance", "(III)I"⟩
abbrev cd_R_vouchers : ByteArray := prog_8_method_37_code
def y_R_vouchers : MethodName := ⟨"BridgeClientsModel", "vouchers", "(III)I"⟩
abbrev cd_R_held : ByteArray := prog_8_method_38_code
def y_R_held : MethodName := ⟨"BridgeClientsModel", "held", "(II)I"⟩
abbrev cd_R_sum : ByteArray := prog_8_method_39_code
def y_R_sum : MethodName := ⟨"BridgeClientsModel", "sum", "(II)I"⟩
abbrev cd_R_count : ByteArray := prog_8_method_40_code
def y_R_count : MethodName := ⟨"BridgeClientsModel", "count", "(I)I"⟩
abbrev cd_R_clear : ByteArray := prog_8_method_41_code
def y_R_clear : MethodName := ⟨"BridgeClientsModel", "clear", "()I"⟩
abbrev cd_Ch_new : ByteArray := prog_2_method_1_code
def y_Ch_new : MethodName := ⟨"BridgeClients$Channel", "<init>", "()V"⟩
abbrev cd_Cl_new : ByteArray := prog_3_method_1_code
def y_Cl_new : MethodName := ⟨"BridgeClients$Client", "<init>", "()V"⟩
abbrev cd_Cl_howFollowed : ByteArray := prog_3_method_2_code
def y_Cl_howFollowed : MethodName := ⟨"BridgeClients$Client", "howFollowed", "(I)I"⟩
abbrev cd_Cl_isToldMark : ByteArray := prog_3_method_3_code
def y_Cl_isToldMark : MethodName := ⟨"BridgeClients$Client", "isToldMark", "(II)Z"⟩
abbrev cd_Cl_add : ByteArray := prog_3_method_4_code
def y_Cl_add : MethodName := ⟨"BridgeClients$Client", "add", "(II)V"⟩
abbrev cd_Cl_refusal : ByteArray := prog_3_method_5_code
def y_Cl_refusal : MethodName := ⟨"BridgeClients$Client", "refusal", "(I)I"⟩
abbrev cd_Cl_forgetAll : ByteArray := prog_3_method_6_code
def y_Cl_forgetAll : MethodName := ⟨"BridgeClients$Client", "forgetAll", "()V"⟩
abbrev cd_En_new : ByteArray := prog_4_method_1_code
def y_En_new : MethodName := ⟨"BridgeClients$End", "<init>", "()V"⟩
abbrev cd_En_comeTo : ByteArray := prog_4_method_2_code
def y_En_comeTo : MethodName := ⟨"BridgeClients$End", "comeTo", "(II)V"⟩
abbrev cd_En_stepIn : ByteArray := prog_4_method_3_code
def y_En_stepIn : MethodName := ⟨"BridgeClients$End", "stepIn", "(I)I"⟩
abbrev cd_En_beginAnew : ByteArray := prog_4_method_4_code
def y_En_beginAnew : MethodName := ⟨"BridgeClients$End", "beginAnew", "()V"⟩
abbrev cd_Le_new : ByteArray := prog_5_method_1_code
def y_Le_new : MethodName := ⟨"BridgeClients$Ledger", "<init>", "()V"⟩
abbrev cd_Le_beginAnew : ByteArray := prog_5_method_2_code
def y_Le_beginAnew : MethodName := ⟨"BridgeClients$Ledger", "beginAnew", "()V"⟩
abbrev cd_Me_new : ByteArray := prog_6_method_1_code
def y_Me_new : MethodName := ⟨"BridgeClients$Message", "<init>", "()V"⟩
abbrev cd_Me_beginToStand : ByteArray := prog_6_method_2_code
def y_Me_beginToStand : MethodName := ⟨"BridgeClients$Message", "beginToStand", "(I)V"⟩
abbrev cd_Me_isOfSameEnd : ByteArray := prog_6_method_3_code
def y_Me_isOfSameEnd : MethodName := ⟨"BridgeClients$Message", "isOfSameEnd", "(LBridgeClients$Message;)Z"⟩
abbrev cd_Me_standsIn : ByteArray := prog_6_method_4_code
def y_Me_standsIn : MethodName := ⟨"BridgeClients$Message", "standsIn", "(I)Z"⟩
abbrev cd_Me_isReceivedIn : ByteArray := prog_6_method_5_code
def y_Me_isReceivedIn : MethodName := ⟨"BridgeClients$Message", "isReceivedIn", "(I)Z"⟩
def y_law_law : MethodName := ⟨"BridgeClientsLaw", "law", "([I)Z"⟩
abbrev cd_Ob_new : ByteArray := object_method_1_code
def y_Ob_new : MethodName := ⟨"java/lang/Object", "<init>", "()V"⟩
abbrev cd_Ma_max : ByteArray := prog_9_method_65_code
def y_Ma_max : MethodName := ⟨"java/lang/Math", "max", "(II)I"⟩
abbrev cd_Ar_fill : ByteArray := prog_10_method_103_code
def y_Ar_fill : MethodName := ⟨"java/util/Arrays", "fill", "([II)V"⟩
theorem kn_law : (Cond.initialized "BridgeClientsLaw") ∈ lw_tbl := List.mem_of_getElem? (i := 44) (by decide +kernel)
theorem kn_B : (Cond.initialized "BridgeClients") ∈ lw_tbl := List.mem_of_getElem? (i := 45) (by decide +kernel)
theorem kn_Le : (Cond.initialized "BridgeClients$Ledger") ∈ lw_tbl := List.mem_of_getElem? (i := 46) (by decide +kernel)
theorem kn_Cl : (Cond.initialized "BridgeClients$Client") ∈ lw_tbl := List.mem_of_getElem? (i := 47) (by decide +kernel)
theorem kn_Ch : (Cond.initialized "BridgeClients$Channel") ∈ lw_tbl := List.mem_of_getElem? (i := 48) (by decide +kernel)
theorem kn_En : (Cond.initialized "BridgeClients$End") ∈ lw_tbl := List.mem_of_getElem? (i := 49) (by decide +kernel)
theorem kn_Me : (Cond.initialized "BridgeClients$Message") ∈ lw_tbl := List.mem_of_getElem? (i := 50) (by decide +kernel)
theorem kn_Ar : (Cond.initialized "java/util/Arrays") ∈ lw_tbl := List.mem_of_getElem? (i := 51) (by decide +kernel)
theorem kn_R : (Cond.initialized "BridgeClientsModel") ∈ lw_tbl := List.mem_of_getElem? (i := 52) (by decide +kernel)
theorem kn_Ma : (Cond.initialized "java/lang/Math") ∈ lw_tbl := List.mem_of_getElem? (i := 53) (by decide +kernel)
theorem kl_law_7 : (Cond.classLink "BridgeClientsLaw" (7 : Nat) "BridgeClients") ∈ lw_tbl := List.mem_of_getElem? (i := 54) (by decide +kernel)
theorem kt_B : (Cond.instantiable "BridgeClients" (5 : Nat)) ∈ lw_tbl := List.mem_of_getElem? (i := 55) (by decide +kernel)
theorem km_law_9 : (Cond.methodLink "BridgeClientsLaw" (9 : Nat) ({ cls := "BridgeClients", name := "<init>", desc := "()V" } : MethodName)) ∈ lw_tbl := List.mem_of_getElem? (i := 56) (by decide +kernel)
theorem ki_B_new : (Cond.instanceMethod ({ cls := "BridgeClients", name := "<init>", desc := "()V" } : MethodName)) ∈ lw_tbl := List.mem_of_getElem? (i := 57) (by decide +kernel)
theorem kc_B_new : (Cond.code ({ cls := "BridgeClients", name := "<init>", desc := "()V" } : MethodName) prog_1_method_1_code (2 : Nat) (Option.none : Option FieldType)) ∈ lw_tbl := List.mem_of_getElem? (i := 58) (by decide +kernel)
theorem km_B_3 : (Cond.methodLink "BridgeClients" (3 : Nat) ({ cls := "java/lang/Object", name := "<init>", desc := "()V" } : MethodName)) ∈ lw_tbl := List.mem_of_getElem? (i := 59) (by decide +kernel)
theorem ki_Ob_new : (Cond.instanceMethod ({ cls := "java/lang/Object", name := "<init>", desc := "()V" } : MethodName)) ∈ lw_tbl := List.mem_of_getElem? (i := 60) (by decide +kernel)
theorem kc_Ob_new : (Cond.code ({ cls := "java/lang/Object", name := "<init>", desc := "()V" } : MethodName) object_method_1_code (1 : Nat) (Option.none : Option FieldType)) ∈ lw_tbl := List.mem_of_getElem? (i := 61) (by decide +kernel)
theorem kl_B_9 : (Cond.classLink "BridgeClients" (9 : Nat) "BridgeClients$Ledger") ∈ lw_tbl := List.mem_of_getElem? (i := 62) (by decide +kernel)
theorem ko_Le : (Cond.arrayOver (FieldType.object "BridgeClients$Ledger")) ∈ lw_tbl := List.mem_of_getElem? (i := 63) (by decide +kernel)
theorem kl_B_15 : (Cond.classLink "BridgeClients" (15 : Nat) "BridgeClients$Channel") ∈ lw_tbl := List.mem_of_getElem? (i := 64) (by decide +kernel)
theorem ko_Ch : (Cond.arrayOver (FieldType.object "BridgeClients$Channel")) ∈ lw_tbl := List.mem_of_getElem? (i := 65) (by decide +kernel)
theorem kl_B_21 : (Cond.classLink "BridgeClients" (21 : Nat) "BridgeClients$Message") ∈ lw_tbl := List.mem_of_getElem? (i := 66) (by decide +kernel)
theorem ko_Me : (Cond.arrayOver (FieldType.object "BridgeClients$Message")) ∈ lw_tbl := List.mem_of_getElem? (i := 67) (by decide +kernel)
theorem kt_Le : (Cond.instantiable "BridgeClients$Ledger" (3 : Nat)) ∈ lw_tbl := List.mem_of_getElem? (i := 68) (by decide +kernel)
theorem km_B_27 : (Cond.methodLinkNest "BridgeClients" (27 : Nat) ({ cls := "BridgeClients$Ledger", name := "<init>", desc := "()V" } : MethodName) "BridgeClients") ∈ lw_tbl := List.mem_of_getElem? (i := 69) (by decide +kernel)
theorem ki_Le_new : (Cond.instanceMethod ({ cls := "BridgeClients$Ledger", name := "<init>", desc := "()V" } : MethodName)) ∈ lw_tbl := List.mem_of_getElem? (i := 70) (by decide +kernel)
theorem kc_Le_new : (Cond.code ({ cls := "BridgeClients$Ledger", name := "<init>", desc := "()V" } : MethodName) prog_5_method_1_code (1 : Nat) (Option.none : Option FieldType)) ∈ lw_tbl := List.mem_of_getElem? (i := 71) (by decide +kernel)
theorem km_Le_3 : (Cond.methodLink "BridgeClients$Ledger" (3 : Nat) ({ cls := "java/lang/Object", name := "<init>", desc := "()V" } : MethodName)) ∈ lw_tbl := List.mem_of_getElem? (i := 72) (by decide +kernel)
theorem kl_Le_15 : (Cond.classLink "BridgeClients$Ledger" (15 : Nat) "BridgeClients$Client") ∈ lw_tbl := List.mem_of_getElem? (i := 73) (by decide +kernel)
theorem kt_Cl : (Cond.instantiable "BridgeClients$Client" (4 : Nat)) ∈ lw_tbl := List.mem_of_getElem? (i := 74) (by decide +kernel)
theorem km_Le_17 : (Cond.methodLinkNest "BridgeClients$Ledger" (17 : Nat) ({ cls := "BridgeClients$Client", name := "<init>", desc := "()V" } : MethodName) "BridgeClients") ∈ lw_tbl := List.mem_of_getElem? (i := 75) (by decide +kernel)
theorem ki_Cl_new : (Cond.instanceMethod ({ cls := "BridgeClients$Client", name := "<init>", desc := "()V" } : MethodName)) ∈ lw_tbl := List.mem_of_getElem? (i := 76) (by decide +kernel)
theorem kc_Cl_new : (Cond.code ({ cls := "BridgeClients$Client", name := "<init>", desc := "()V" } : MethodName) prog_3_method_1_code (1 : Nat) (Option.none : Option FieldType)) ∈ lw_tbl := List.mem_of_getElem? (i := 77) (by decide +kernel)
theorem km_Cl_3 : (Cond.methodLink "BridgeClients$Client" (3 : Nat) ({ cls := "java/lang/Object", name := "<init>", desc := "()V" } : MethodName)) ∈ lw_tbl := List.mem_of_getElem? (i := 78) (by decide +kernel)
theorem kf_Cl_9 : (Cond.fieldLink "BridgeClients$Client" (9 : Nat) "BridgeClients$Client" "told" "[I") ∈ lw_tbl := List.mem_of_getElem? (i := 79) (by decide +kernel)
theorem kf_B_59 : (Cond.fieldLinkNest "BridgeClients" (59 : Nat) "BridgeClients$Client" "frozen" "Z" "BridgeClients") ∈ lw_tbl := List.mem_of_getElem? (i := 80) (by decide +kernel)
theorem kf_Cl_36 : (Cond.fieldLink "BridgeClients$Client" (36 : Nat) "BridgeClients$Client" "frozen" "Z") ∈ lw_tbl := List.mem_of_getElem? (i := 81) (by decide +kernel)
theorem kf_Cl_23 : (Cond.fieldLink "BridgeClients$Client" (23 : Nat) "BridgeClients$Client" "greatest" "I") ∈ lw_tbl := List.mem_of_getElem? (i := 82) (by decide +kernel)
theorem kf_B_77 : (Cond.fieldLinkNest "BridgeClients" (77 : Nat) "BridgeClients$Client" "greatest" "I" "BridgeClients") ∈ lw_tbl := List.mem_of_getElem? (i := 83) (by decide +kernel)
theorem kf_B_67 : (Cond.fieldLinkNest "BridgeClients" (67 : Nat) "BridgeClients$Client" "howMany" "I" "BridgeClients") ∈ lw_tbl := List.mem_of_getElem? (i := 84) (by decide +kernel)
theorem kf_Cl_33 : (Cond.fieldLink "BridgeClients$Client" (33 : Nat) "BridgeClients$Client" "howMany" "I") ∈ lw_tbl := List.mem_of_getElem? (i := 85) (by decide +kernel)
theorem ka_int : (Cond.arrayClass FieldType.int) ∈ lw_tbl := List.mem_of_getElem? (i := 95) (by decide +kernel)
theorem kf_Le_9 : (Cond.fieldLink "BridgeClients$Ledger" (9 : Nat) "BridgeClients$Ledger" "coins" "[I") ∈ lw_tbl := List.mem_of_getElem? (i := 96) (by decide +kernel)
theorem kf_B_218 : (Cond.fieldLinkNest "BridgeClients" (218 : Nat) "BridgeClients$Ledger" "coins" "[I" "BridgeClients") ∈ lw_tbl := List.mem_of_getElem? (i := 97) (by decide +kernel)
theorem kf_Le_18 : (Cond.fieldLink "BridgeClients$Ledger" (18 : Nat) "BridgeClients$Ledger" "client" "LBridgeClients$Client;") ∈ lw_tbl := List.mem_of_getElem? (i := 98) (by decide +kernel)
theorem kf_B_45 : (Cond.fieldLinkNest "BridgeClients" (45 : Nat) "BridgeClients$Ledger" "client" "LBridgeClients$Client;" "BridgeClients") ∈ lw_tbl := List.mem_of_getElem? (i := 99) (by decide +kernel)
theorem kf_B_37 : (Cond.fieldLinkNest "BridgeClients" (37 : Nat) "BridgeClients$Ledger" "height" "I" "BridgeClients") ∈ lw_tbl := List.mem_of_getElem? (i := 100) (by decide +kernel)
theorem kf_Le_31 : (Cond.fieldLink "BridgeClients$Ledger" (31 : Nat) "BridgeClients$Ledger" "height" "I") ∈ lw_tbl := List.mem_of_getElem? (i := 101) (by decide +kernel)
theorem kt_Ch : (Cond.instantiable "BridgeClients$Channel" (3 : Nat)) ∈ lw_tbl := List.mem_of_getElem? (i := 109) (by decide +kernel)
theorem km_B_28 : (Cond.methodLinkNest "BridgeClients" (28 : Nat) ({ cls := "BridgeClients$Channel", name := "<init>", desc := "()V" } : MethodName) "BridgeClients") ∈ lw_tbl := List.mem_of_getElem? (i := 110) (by decide +kernel)
theorem ki_Ch_new : (Cond.instanceMethod ({ cls := "BridgeClients$Channel", name := "<init>", desc := "()V" } : MethodName)) ∈ lw_tbl := List.mem_of_getElem? (i := 111) (by decide +kernel)
theorem kc_Ch_new : (Cond.code ({ cls := "BridgeClients$Channel", name := "<init>", desc := "()V" } : MethodName) prog_2_method_1_code (1 : Nat) (Option.none : Option FieldType)) ∈ lw_tbl := List.mem_of_getElem? (i := 112) (by decide +kernel)
theorem km_Ch_1 : (Cond.methodLink "BridgeClients$Channel" (1 : Nat) ({ cls := "java/lang/Object", name := "<init>", desc := "()V" } : MethodName)) ∈ lw_tbl := List.mem_of_getElem? (i := 113) (by decide +kernel)
theorem kl_Ch_7 : (Cond.classLink "BridgeClients$Channel" (7 : Nat) "BridgeClients$End") ∈ lw_tbl := List.mem_of_getElem? (i := 114) (by decide +kernel)
theorem ko_En : (Cond.arrayOver (FieldType.object "BridgeClients$End")) ∈ lw_tbl := List.mem_of_getElem? (i := 115) (by decide +kernel)
theorem kt_En : (Cond.instantiable "BridgeClients$End" (8 : Nat)) ∈ lw_tbl := List.mem_of_getElem? (i := 116) (by decide +kernel)
theorem km_Ch_9 : (Cond.methodLinkNest "BridgeClients$Channel" (9 : Nat) ({ cls := "BridgeClients$End", name := "<init>", desc := "()V" } : MethodName) "BridgeClients") ∈ lw_tbl := List.mem_of_getElem? (i := 117) (by decide +kernel)
theorem ki_En_new : (Cond.instanceMethod ({ cls := "BridgeClients$End", name := "<init>", desc := "()V" } : MethodName)) ∈ lw_tbl := List.mem_of_getElem? (i := 118) (by decide +kernel)
theorem kc_En_new : (Cond.code ({ cls := "BridgeClients$End", name := "<init>", desc := "()V" } : MethodName) prog_4_method_1_code (1 : Nat) (Option.none : Option FieldType)) ∈ lw_tbl := List.mem_of_getElem? (i := 119) (by decide +kernel)
theorem km_En_3 : (Cond.methodLink "BridgeClients$End" (3 : Nat) ({ cls := "java/lang/Object", name := "<init>", desc := "()V" } : MethodName)) ∈ lw_tbl := List.mem_of_getElem? (i := 120) (by decide +kernel)
theorem kf_En_9 : (Cond.fieldLink "BridgeClients$End" (9 : Nat) "BridgeClients$End" "cameAt" "[I") ∈ lw_tbl := List.mem_of_getElem? (i := 121) (by decide +kernel)
theorem kf_En_15 : (Cond.fieldLink "BridgeClients$End" (15 : Nat) "BridgeClients$End" "vouchers" "[I") ∈ lw_tbl := List.mem_of_getElem? (i := 122) (by decide +kernel)
theorem kf_B_222 : (Cond.fieldLinkNest "BridgeClients" (222 : Nat) "BridgeClients$End" "vouchers" "[I" "BridgeClients") ∈ lw_tbl := List.mem_of_getElem? (i := 123) (by decide +kernel)
theorem kf_En_22 : (Cond.fieldLink "BridgeClients$End" (22 : Nat) "BridgeClients$End" "step" "I") ∈ lw_tbl := List.mem_of_getElem? (i := 124) (by decide +kernel)
theorem kf_B_114 : (Cond.fieldLinkNest "BridgeClients" (114 : Nat) "BridgeClients$End" "step" "I" "BridgeClients") ∈ lw_tbl := List.mem_of_getElem? (i := 125) (by decide +kernel)
theorem kf_En_32 : (Cond.fieldLink "BridgeClients$End" (32 : Nat) "BridgeClients$End" "offer" "I") ∈ lw_tbl := List.mem_of_getElem? (i := 126) (by decide +kernel)
theorem kf_B_93 : (Cond.fieldLinkNest "BridgeClients" (93 : Nat) "BridgeClients$End" "offer" "I" "BridgeClients") ∈ lw_tbl := List.mem_of_getElem? (i := 127) (by decide +kernel)
theorem kf_En_35 : (Cond.fieldLink "BridgeClients$End" (35 : Nat) "BridgeClients$End" "version" "I") ∈ lw_tbl := List.mem_of_getElem? (i := 128) (by decide +kernel)
theorem kf_B_111 : (Cond.fieldLinkNest "BridgeClients" (111 : Nat) "BridgeClients$End" "version" "I" "BridgeClients") ∈ lw_tbl := List.mem_of_getElem? (i := 129) (by decide +kernel)
theorem kf_En_38 : (Cond.fieldLink "BridgeClients$End" (38 : Nat) "BridgeClients$End" "escrow" "I") ∈ lw_tbl := List.mem_of_getElem? (i := 130) (by decide +kernel)
theorem kf_B_197 : (Cond.fieldLinkNest "BridgeClients" (197 : Nat) "BridgeClients$End" "escrow" "I" "BridgeClients") ∈ lw_tbl := List.mem_of_getElem? (i := 131) (by decide +kernel)
theorem kf_En_41 : (Cond.fieldLink "BridgeClients$End" (41 : Nat) "BridgeClients$End" "sent" "I") ∈ lw_tbl := List.mem_of_getElem? (i := 132) (by decide +kernel)
theorem kf_B_200 : (Cond.fieldLinkNest "BridgeClients" (200 : Nat) "BridgeClients$End" "sent" "I" "BridgeClients") ∈ lw_tbl := List.mem_of_getElem? (i := 133) (by decide +kernel)
theorem kf_En_44 : (Cond.fieldLink "BridgeClients$End" (44 : Nat) "BridgeClients$End" "received" "I") ∈ lw_tbl := List.mem_of_getElem? (i := 134) (by decide +kernel)
theorem kf_B_174 : (Cond.fieldLinkNest "BridgeClients" (174 : Nat) "BridgeClients$End" "received" "I" "BridgeClients") ∈ lw_tbl := List.mem_of_getElem? (i := 135) (by decide +kernel)
theorem kf_Ch_10 : (Cond.fieldLink "BridgeClients$Channel" (10 : Nat) "BridgeClients$Channel" "ends" "[LBridgeClients$End;") ∈ lw_tbl := List.mem_of_getElem? (i := 153) (by decide +kernel)
theorem kf_B_89 : (Cond.fieldLinkNest "BridgeClients" (89 : Nat) "BridgeClients$Channel" "ends" "[LBridgeClients$End;" "BridgeClients") ∈ lw_tbl := List.mem_of_getElem? (i := 154) (by decide +kernel)
theorem kf_B_86 : (Cond.fieldLinkNest "BridgeClients" (86 : Nat) "BridgeClients$Channel" "ordered" "Z" "BridgeClients") ∈ lw_tbl := List.mem_of_getElem? (i := 155) (by decide +kernel)
theorem kf_B_83 : (Cond.fieldLinkNest "BridgeClients" (83 : Nat) "BridgeClients$Channel" "first" "I" "BridgeClients") ∈ lw_tbl := List.mem_of_getElem? (i := 156) (by decide +kernel)
theorem kt_Me : (Cond.instantiable "BridgeClients$Message" (14 : Nat)) ∈ lw_tbl := List.mem_of_getElem? (i := 164) (by decide +kernel)
theorem km_B_29 : (Cond.methodLinkNest "BridgeClients" (29 : Nat) ({ cls := "BridgeClients$Message", name := "<init>", desc := "()V" } : MethodName) "BridgeClients") ∈ lw_tbl := List.mem_of_getElem? (i := 165) (by decide +kernel)
theorem ki_Me_new : (Cond.instanceMethod ({ cls := "BridgeClients$Message", name := "<init>", desc := "()V" } : MethodName)) ∈ lw_tbl := List.mem_of_getElem? (i := 166) (by decide +kernel)
theorem kc_Me_new : (Cond.code ({ cls := "BridgeClients$Message", name := "<init>", desc := "()V" } : MethodName) prog_6_method_1_code (1 : Nat) (Option.none : Option FieldType)) ∈ lw_tbl := List.mem_of_getElem? (i := 167) (by decide +kernel)
theorem km_Me_3 : (Cond.methodLink "BridgeClients$Message" (3 : Nat) ({ cls := "java/lang/Object", name := "<init>", desc := "()V" } : MethodName)) ∈ lw_tbl := List.mem_of_getElem? (i := 168) (by decide +kernel)
theorem kf_Me_31 : (Cond.fieldLink "BridgeClients$Message" (31 : Nat) "BridgeClients$Message" "channel" "I") ∈ lw_tbl := List.mem_of_getElem? (i := 169) (by decide +kernel)
theorem kf_B_144 : (Cond.fieldLinkNest "BridgeClients" (144 : Nat) "BridgeClients$Message" "channel" "I" "BridgeClients") ∈ lw_tbl := List.mem_of_getElem? (i := 170) (by decide +kernel)
theorem kf_Me_34 : (Cond.fieldLink "BridgeClients$Message" (34 : Nat) "BridgeClients$Message" "side" "I") ∈ lw_tbl := List.mem_of_getElem? (i := 171) (by decide +kernel)
theorem kf_B_141 : (Cond.fieldLinkNest "BridgeClients" (141 : Nat) "BridgeClients$Message" "side" "I" "BridgeClients") ∈ lw_tbl := List.mem_of_getElem? (i := 172) (by decide +kernel)
theorem kf_B_206 : (Cond.fieldLinkNest "BridgeClients" (206 : Nat) "BridgeClients$Message" "place" "I" "BridgeClients") ∈ lw_tbl := List.mem_of_getElem? (i := 173) (by decide +kernel)
theorem kf_B_209 : (Cond.fieldLinkNest "BridgeClients" (209 : Nat) "BridgeClients$Message" "account" "I" "BridgeClients") ∈ lw_tbl := List.mem_of_getElem? (i := 174) (by decide +kernel)
theorem kf_B_162 : (Cond.fieldLinkNest "BridgeClients" (162 : Nat) "BridgeClients$Message" "to" "I" "BridgeClients") ∈ lw_tbl := List.mem_of_getElem? (i := 175) (by decide +kernel)
theorem kf_B_165 : (Cond.fieldLinkNest "BridgeClients" (165 : Nat) "BridgeClients$Message" "coin" "I" "BridgeClients") ∈ lw_tbl := List.mem_of_getElem? (i := 176) (by decide +kernel)
theorem kf_B_168 : (Cond.fieldLinkNest "BridgeClients" (168 : Nat) "BridgeClients$Message" "amount" "I" "BridgeClients") ∈ lw_tbl := List.mem_of_getElem? (i := 177) (by decide +kernel)
theorem kf_B_156 : (Cond.fieldLinkNest "BridgeClients" (156 : Nat) "BridgeClients$Message" "until" "I" "BridgeClients") ∈ lw_tbl := List.mem_of_getElem? (i := 178) (by decide +kernel)
theorem kf_Me_9 : (Cond.fieldLink "BridgeClients$Message" (9 : Nat) "BridgeClients$Message" "stands" "Z") ∈ lw_tbl := List.mem_of_getElem? (i := 179) (by decide +kernel)
theorem kf_B_212 : (Cond.fieldLinkNest "BridgeClients" (212 : Nat) "BridgeClients$Message" "stands" "Z" "BridgeClients") ∈ lw_tbl := List.mem_of_getElem? (i := 180) (by decide +kernel)
theorem kf_Me_15 : (Cond.fieldLink "BridgeClients$Message" (15 : Nat) "BridgeClients$Message" "cameBack" "Z") ∈ lw_tbl := List.mem_of_getElem? (i := 181) (by decide +kernel)
theorem kf_B_215 : (Cond.fieldLinkNest "BridgeClients" (215 : Nat) "BridgeClients$Message" "cameBack" "Z" "BridgeClients") ∈ lw_tbl := List.mem_of_getElem? (i := 182) (by decide +kernel)
theorem kf_Me_18 : (Cond.fieldLink "BridgeClients$Message" (18 : Nat) "BridgeClients$Message" "outcome" "I") ∈ lw_tbl := List.mem_of_getElem? (i := 183) (by decide +kernel)
theorem kf_B_147 : (Cond.fieldLinkNest "BridgeClients" (147 : Nat) "BridgeClients$Message" "outcome" "I" "BridgeClients") ∈ lw_tbl := List.mem_of_getElem? (i := 184) (by decide +kernel)
theorem kf_Me_22 : (Cond.fieldLink "BridgeClients$Message" (22 : Nat) "BridgeClients$Message" "sentAt" "I") ∈ lw_tbl := List.mem_of_getElem? (i := 185) (by decide +kernel)
theorem kf_Me_25 : (Cond.fieldLink "BridgeClients$Message" (25 : Nat) "BridgeClients$Message" "finishedAt" "I") ∈ lw_tbl := List.mem_of_getElem? (i := 186) (by decide +kernel)
theorem kf_B_250 : (Cond.fieldLinkNest "BridgeClients" (250 : Nat) "BridgeClients$Message" "finishedAt" "I" "BridgeClients") ∈ lw_tbl := List.mem_of_getElem? (i := 187) (by decide +kernel)
theorem kf_Me_28 : (Cond.fieldLink "BridgeClients$Message" (28 : Nat) "BridgeClients$Message" "receivedAt" "I") ∈ lw_tbl := List.mem_of_getElem? (i := 188) (by decide +kernel)
theorem kf_B_177 : (Cond.fieldLinkNest "BridgeClients" (177 : Nat) "BridgeClients$Message" "receivedAt" "I" "BridgeClients") ∈ lw_tbl := List.mem_of_getElem? (i := 189) (by decide +kernel)
theorem km_B_30 : (Cond.methodLink "BridgeClients" (30 : Nat) ({ cls := "BridgeClients", name := "beginAnew", desc := "()V" } : MethodName)) ∈ lw_tbl := List.mem_of_getElem? (i := 219) (by decide +kernel)
theorem ki_B_beginAnew : (Cond.instanceMethod ({ cls := "BridgeClients", name := "beginAnew", desc := "()V" } : MethodName)) ∈ lw_tbl := List.mem_of_getElem? (i := 221) (by decide +kernel)
theorem kc_B_beginAnew : (Cond.code ({ cls := "BridgeClients", name := "beginAnew", desc := "()V" } : MethodName) prog_1_method_48_code (2 : Nat) (Option.none : Option FieldType)) ∈ lw_tbl := List.mem_of_getElem? (i := 222) (by decide +kernel)
theorem km_B_253 : (Cond.methodLinkNest "BridgeClients" (253 : Nat) ({ cls := "BridgeClients$Ledger", name := "beginAnew", desc := "()V" } : MethodName) "BridgeClients") ∈ lw_tbl := List.mem_of_getElem? (i := 223) (by decide +kernel)
theorem ki_Le_beginAnew : (Cond.instanceMethod ({ cls := "BridgeClients$Ledger", name := "beginAnew", desc := "()V" } : MethodName)) ∈ lw_tbl := List.mem_of_getElem? (i := 225) (by decide +kernel)
theorem kc_Le_beginAnew : (Cond.code ({ cls := "BridgeClients$Ledger", name := "beginAnew", desc := "()V" } : MethodName) prog_5_method_2_code (1 : Nat) (Option.none : Option FieldType)) ∈ lw_tbl := List.mem_of_getElem? (i := 226) (by decide +kernel)
theorem km_Le_22 : (Cond.methodLink "BridgeClients$Ledger" (22 : Nat) ({ cls := "java/util/Arrays", name := "fill", desc := "([II)V" } : MethodName)) ∈ lw_tbl := List.mem_of_getElem? (i := 227) (by decide +kernel)
theorem ks_Ar_fill : (Cond.static ({ cls := "java/util/Arrays", name := "fill", desc := "([II)V" } : MethodName)) ∈ lw_tbl := List.mem_of_getElem? (i := 228) (by decide +kernel)
theorem kc_Ar_fill : (Cond.code ({ cls := "java/util/Arrays", name := "fill", desc := "([II)V" } : MethodName) prog_10_method_103_code (4 : Nat) (Option.none : Option FieldType)) ∈ lw_tbl := List.mem_of_getElem? (i := 229) (by decide +kernel)
theorem km_Le_28 : (Cond.methodLinkNest "BridgeClients$Ledger" (28 : Nat) ({ cls := "BridgeClients$Client", name := "forgetAll", desc := "()V" } : MethodName) "BridgeClients") ∈ lw_tbl := List.mem_of_getElem? (i := 230) (by decide +kernel)
theorem ki_Cl_forgetAll : (Cond.instanceMethod ({ cls := "BridgeClients$Client", name := "forgetAll", desc := "()V" } : MethodName)) ∈ lw_tbl := List.mem_of_getElem? (i := 232) (by decide +kernel)
theorem kc_Cl_forgetAll : (Cond.code ({ cls := "BridgeClients$Client", name := "forgetAll", desc := "()V" } : MethodName) prog_3_method_6_code (1 : Nat) (Option.none : Option FieldType)) ∈ lw_tbl := List.mem_of_getElem? (i := 233) (by decide +kernel)
theorem km_Cl_44 : (Cond.methodLink "BridgeClients$Client" (44 : Nat) ({ cls := "java/util/Arrays", name := "fill", desc := "([II)V" } : MethodName)) ∈ lw_tbl := List.mem_of_getElem? (i := 234) (by decide +kernel)
theorem km_B_254 : (Cond.methodLinkNest "BridgeClients" (254 : Nat) ({ cls := "BridgeClients$End", name := "beginAnew", desc := "()V" } : MethodName) "BridgeClients") ∈ lw_tbl := List.mem_of_getElem? (i := 235) (by decide +kernel)
theorem ki_En_beginAnew : (Cond.instanceMethod ({ cls := "BridgeClients$End", name := "beginAnew", desc := "()V" } : MethodName)) ∈ lw_tbl := List.mem_of_getElem? (i := 237) (by decide +kernel)
theorem kc_En_beginAnew : (Cond.code ({ cls := "BridgeClients$End", name := "beginAnew", desc := "()V" } : MethodName) prog_4_method_4_code (1 : Nat) (Option.none : Option FieldType)) ∈ lw_tbl := List.mem_of_getElem? (i := 238) (by decide +kernel)
theorem km_En_26 : (Cond.methodLink "BridgeClients$End" (26 : Nat) ({ cls := "java/util/Arrays", name := "fill", desc := "([II)V" } : MethodName)) ∈ lw_tbl := List.mem_of_getElem? (i := 239) (by decide +kernel)
theorem kf_B_11 : (Cond.fieldLink "BridgeClients" (11 : Nat) "BridgeClients" "ledgers" "[LBridgeClients$Ledger;") ∈ lw_tbl := List.mem_of_getElem? (i := 240) (by decide +kernel)
theorem kf_B_17 : (Cond.fieldLink "BridgeClients" (17 : Nat) "BridgeClients" "channels" "[LBridgeClients$Channel;") ∈ lw_tbl := List.mem_of_getElem? (i := 241) (by decide +kernel)
theorem kf_B_23 : (Cond.fieldLink "BridgeClients" (23 : Nat) "BridgeClients" "messages" "[LBridgeClients$Message;") ∈ lw_tbl := List.mem_of_getElem? (i := 242) (by decide +kernel)
theorem kf_B_80 : (Cond.fieldLink "BridgeClients" (80 : Nat) "BridgeClients" "channelCount" "I") ∈ lw_tbl := List.mem_of_getElem? (i := 243) (by decide +kernel)
theorem kf_B_127 : (Cond.fieldLink "BridgeClients" (127 : Nat) "BridgeClients" "messageCount" "I") ∈ lw_tbl := List.mem_of_getElem? (i := 244) (by decide +kernel)
theorem km_law_13 : (Cond.methodLink "BridgeClientsLaw" (13 : Nat) ({ cls := "BridgeClients", name := "tick", desc := "(I)I" } : MethodName)) ∈ lw_tbl := List.mem_of_getElem? (i := 256) (by decide +kernel)
theorem ki_B_tick : (Cond.instanceMethod ({ cls := "BridgeClients", name := "tick", desc := "(I)I" } : MethodName)) ∈ lw_tbl := List.mem_of_getElem? (i := 257) (by decide +kernel)
theorem kx_B_tick : (Cond.selects "BridgeClients" ({ cls := "BridgeClients", name := "tick", desc := "(I)I" } : MethodName) ({ cls := "BridgeClients", name := "tick", desc := "(I)I" } : MethodName)) ∈ lw_tbl := List.mem_of_getElem? (i := 258) (by decide +kernel)
theorem kc_B_tick : (Cond.code ({ cls := "BridgeClients", name := "tick", desc := "(I)I" } : MethodName) prog_1_method_2_code (3 : Nat) (Option.some FieldType.int)) ∈ lw_tbl := List.mem_of_getElem? (i := 259) (by decide +kernel)
theorem km_B_33 : (Cond.methodLink "BridgeClients" (33 : Nat) ({ cls := "BridgeClients", name := "isSide", desc := "(I)Z" } : MethodName)) ∈ lw_tbl := List.mem_of_getElem? (i := 260) (by decide +kernel)
theorem ks_B_isSide : (Cond.static ({ cls := "BridgeClients", name := "isSide", desc := "(I)Z" } : MethodName)) ∈ lw_tbl := List.mem_of_getElem? (i := 261) (by decide +kernel)
theorem kc_B_isSide : (Cond.code ({ cls := "BridgeClients", name := "isSide", desc := "(I)Z" } : MethodName) prog_1_method_26_code (1 : Nat) (Option.some FieldType.boolean)) ∈ lw_tbl := List.mem_of_getElem? (i := 262) (by decide +kernel)
theorem km_B_41 : (Cond.methodLink "BridgeClients" (41 : Nat) ({ cls := "BridgeClients", name := "isWithin", desc := "(III)Z" } : MethodName)) ∈ lw_tbl := List.mem_of_getElem? (i := 263) (by decide +kernel)
theorem ks_B_isWithin : (Cond.static ({ cls := "BridgeClients", name := "isWithin", desc := "(III)Z" } : MethodName)) ∈ lw_tbl := List.mem_of_getElem? (i := 264) (by decide +kernel)
theorem kc_B_isWithin : (Cond.code ({ cls := "BridgeClients", name := "isWithin", desc := "(III)Z" } : MethodName) prog_1_method_25_code (3 : Nat) (Option.some FieldType.boolean)) ∈ lw_tbl := List.mem_of_getElem? (i := 265) (by decide +kernel)
theorem km_law_18 : (Cond.methodLink "BridgeClientsLaw" (18 : Nat) ({ cls := "BridgeClients", name := "follow", desc := "(III)I" } : MethodName)) ∈ lw_tbl := List.mem_of_getElem? (i := 266) (by decide +kernel)
theorem ki_B_follow : (Cond.instanceMethod ({ cls := "BridgeClients", name := "follow", desc := "(III)I" } : MethodName)) ∈ lw_tbl := List.mem_of_getElem? (i := 267) (by decide +kernel)
theorem kx_B_follow : (Cond.selects "BridgeClients" ({ cls := "BridgeClients", name := "follow", desc := "(III)I" } : MethodName) ({ cls := "BridgeClients", name := "follow", desc := "(III)I" } : MethodName)) ∈ lw_tbl := List.mem_of_getElem? (i := 268) (by decide +kernel)
theorem kc_B_follow : (Cond.code ({ cls := "BridgeClients", name := "follow", desc := "(III)I" } : MethodName) prog_1_method_3_code (6 : Nat) (Option.some FieldType.int)) ∈ lw_tbl := List.mem_of_getElem? (i := 269) (by decide +kernel)
theorem km_B_49 : (Cond.methodLinkNest "BridgeClients" (49 : Nat) ({ cls := "BridgeClients$Client", name := "howFollowed", desc := "(I)I" } : MethodName) "BridgeClients") ∈ lw_tbl := List.mem_of_getElem? (i := 270) (by decide +kernel)
theorem ki_Cl_howFollowed : (Cond.instanceMethod ({ cls := "BridgeClients$Client", name := "howFollowed", desc := "(I)I" } : MethodName)) ∈ lw_tbl := List.mem_of_getElem? (i := 272) (by decide +kernel)
theorem kc_Cl_howFollowed : (Cond.code ({ cls := "BridgeClients$Client", name := "howFollowed", desc := "(I)I" } : MethodName) prog_3_method_2_code (2 : Nat) (Option.some FieldType.int)) ∈ lw_tbl := List.mem_of_getElem? (i := 273) (by decide +kernel)
theorem km_Cl_15 : (Cond.methodLinkNest "BridgeClients$Client" (15 : Nat) ({ cls := "BridgeClients", name := "isWithin", desc := "(III)Z" } : MethodName) "BridgeClients") ∈ lw_tbl := List.mem_of_getElem? (i := 274) (by decide +kernel)
theorem km_Cl_19 : (Cond.methodLink "BridgeClients$Client" (19 : Nat) ({ cls := "BridgeClients$Client", name := "isToldMark", desc := "(II)Z" } : MethodName)) ∈ lw_tbl := List.mem_of_getElem? (i := 275) (by decide +kernel)
theorem ki_Cl_isToldMark : (Cond.instanceMethod ({ cls := "BridgeClients$Client", name := "isToldMark", desc := "(II)Z" } : MethodName)) ∈ lw_tbl := List.mem_of_getElem? (i := 277) (by decide +kernel)
theorem kc_Cl_isToldMark : (Cond.code ({ cls := "BridgeClients$Client", name := "isToldMark", desc := "(II)Z" } : MethodName) prog_3_method_3_code (3 : Nat) (Option.some FieldType.boolean)) ∈ lw_tbl := List.mem_of_getElem? (i := 278) (by decide +kernel)
theorem km_B_55 : (Cond.methodLinkNest "BridgeClients" (55 : Nat) ({ cls := "BridgeClients$Client", name := "isToldMark", desc := "(II)Z" } : MethodName) "BridgeClients") ∈ lw_tbl := List.mem_of_getElem? (i := 279) (by decide +kernel)
theorem km_B_63 : (Cond.methodLinkNest "BridgeClients" (63 : Nat) ({ cls := "BridgeClients$Client", name := "add", desc := "(II)V" } : MethodName) "BridgeClients") ∈ lw_tbl := List.mem_of_getElem? (i := 280) (by decide +kernel)
theorem ki_Cl_add : (Cond.instanceMethod ({ cls := "BridgeClients$Client", name := "add", desc := "(II)V" } : MethodName)) ∈ lw_tbl := List.mem_of_getElem? (i := 282) (by decide +kernel)
theorem kc_Cl_add : (Cond.code ({ cls := "BridgeClients$Client", name := "add", desc := "(II)V" } : MethodName) prog_3_method_4_code (3 : Nat) (Option.none : Option FieldType)) ∈ lw_tbl := List.mem_of_getElem? (i := 283) (by decide +kernel)
theorem km_Cl_27 : (Cond.methodLink "BridgeClients$Client" (27 : Nat) ({ cls := "java/lang/Math", name := "max", desc := "(II)I" } : MethodName)) ∈ lw_tbl := List.mem_of_getElem? (i := 284) (by decide +kernel)
theorem ks_Ma_max : (Cond.static ({ cls := "java/lang/Math", name := "max", desc := "(II)I" } : MethodName)) ∈ lw_tbl := List.mem_of_getElem? (i := 285) (by decide +kernel)
theorem kc_Ma_max : (Cond.code ({ cls := "java/lang/Math", name := "max", desc := "(II)I" } : MethodName) prog_9_method_65_code (2 : Nat) (Option.some FieldType.int)) ∈ lw_tbl := List.mem_of_getElem? (i := 286) (by decide +kernel)
theorem km_law_23 : (Cond.methodLink "BridgeClientsLaw" (23 : Nat) ({ cls := "BridgeClients", name := "renew", desc := "(I)I" } : MethodName)) ∈ lw_tbl := List.mem_of_getElem? (i := 287) (by decide +kernel)
theorem ki_B_renew : (Cond.instanceMethod ({ cls := "BridgeClients", name := "renew", desc := "(I)I" } : MethodName)) ∈ lw_tbl := List.mem_of_getElem? (i := 288) (by decide +kernel)
theorem kx_B_renew : (Cond.selects "BridgeClients" ({ cls := "BridgeClients", name := "renew", desc := "(I)I" } : MethodName) ({ cls := "BridgeClients", name := "renew", desc := "(I)I" } : MethodName)) ∈ lw_tbl := List.mem_of_getElem? (i := 289) (by decide +kernel)
theorem kc_B_renew : (Cond.code ({ cls := "BridgeClients", name := "renew", desc := "(I)I" } : MethodName) prog_1_method_4_code (4 : Nat) (Option.some FieldType.int)) ∈ lw_tbl := List.mem_of_getElem? (i := 290) (by decide +kernel)
theorem km_B_70 : (Cond.methodLinkNest "BridgeClients" (70 : Nat) ({ cls := "BridgeClients$Client", name := "forgetAll", desc := "()V" } : MethodName) "BridgeClients") ∈ lw_tbl := List.mem_of_getElem? (i := 291) (by decide +kernel)
theorem km_law_27 : (Cond.methodLink "BridgeClientsLaw" (27 : Nat) ({ cls := "BridgeClients", name := "client", desc := "(II)I" } : MethodName)) ∈ lw_tbl := List.mem_of_getElem? (i := 292) (by decide +kernel)
theorem ki_B_client : (Cond.instanceMethod ({ cls := "BridgeClients", name := "client", desc := "(II)I" } : MethodName)) ∈ lw_tbl := List.mem_of_getElem? (i := 293) (by decide +kernel)
theorem kx_B_client : (Cond.selects "BridgeClients" ({ cls := "BridgeClients", name := "client", desc := "(II)I" } : MethodName) ({ cls := "BridgeClients", name := "client", desc := "(II)I" } : MethodName)) ∈ lw_tbl := List.mem_of_getElem? (i := 294) (by decide +kernel)
theorem kc_B_client : (Cond.code ({ cls := "BridgeClients", name := "client", desc := "(II)I" } : MethodName) prog_1_method_5_code (4 : Nat) (Option.some FieldType.int)) ∈ lw_tbl := List.mem_of_getElem? (i := 295) (by decide +kernel)
theorem km_B_73 : (Cond.methodLink "BridgeClients" (73 : Nat) ({ cls := "BridgeClients", name := "oneIf", desc := "(Z)I" } : MethodName)) ∈ lw_tbl := List.mem_of_getElem? (i := 296) (by decide +kernel)
theorem ks_B_oneIf : (Cond.static ({ cls := "BridgeClients", name := "oneIf", desc := "(Z)I" } : MethodName)) ∈ lw_tbl := List.mem_of_getElem? (i := 297) (by decide +kernel)
theorem kc_B_oneIf : (Cond.code ({ cls := "BridgeClients", name := "oneIf", desc := "(Z)I" } : MethodName) prog_1_method_31_code (1 : Nat) (Option.some FieldType.int)) ∈ lw_tbl := List.mem_of_getElem? (i := 298) (by decide +kernel)
theorem km_law_32 : (Cond.methodLink "BridgeClientsLaw" (32 : Nat) ({ cls := "BridgeClients", name := "follows", desc := "(II)I" } : MethodName)) ∈ lw_tbl := List.mem_of_getElem? (i := 299) (by decide +kernel)
theorem ki_B_follows : (Cond.instanceMethod ({ cls := "BridgeClients", name := "follows", desc := "(II)I" } : MethodName)) ∈ lw_tbl := List.mem_of_getElem? (i := 300) (by decide +kernel)
theorem kx_B_follows : (Cond.selects "BridgeClients" ({ cls := "BridgeClients", name := "follows", desc := "(II)I" } : MethodName) ({ cls := "BridgeClients", name := "follows", desc := "(II)I" } : MethodName)) ∈ lw_tbl := List.mem_of_getElem? (i := 301) (by decide +kernel)
theorem kc_B_follows : (Cond.code ({ cls := "BridgeClients", name := "follows", desc := "(II)I" } : MethodName) prog_1_method_6_code (3 : Nat) (Option.some FieldType.int)) ∈ lw_tbl := List.mem_of_getElem? (i := 302) (by decide +kernel)
theorem km_law_36 : (Cond.methodLink "BridgeClientsLaw" (36 : Nat) ({ cls := "BridgeClients", name := "init", desc := "(IZI)I" } : MethodName)) ∈ lw_tbl := List.mem_of_getElem? (i := 303) (by decide +kernel)
theorem ki_B_init : (Cond.instanceMethod ({ cls := "BridgeClients", name := "init", desc := "(IZI)I" } : MethodName)) ∈ lw_tbl := List.mem_of_getElem? (i := 304) (by decide +kernel)
theorem kx_B_init : (Cond.selects "BridgeClients" ({ cls := "BridgeClients", name := "init", desc := "(IZI)I" } : MethodName) ({ cls := "BridgeClients", name := "init", desc := "(IZI)I" } : MethodName)) ∈ lw_tbl := List.mem_of_getElem? (i := 305) (by decide +kernel)
theorem kc_B_init : (Cond.code ({ cls := "BridgeClients", name := "init", desc := "(IZI)I" } : MethodName) prog_1_method_7_code (5 : Nat) (Option.some FieldType.int)) ∈ lw_tbl := List.mem_of_getElem? (i := 306) (by decide +kernel)
theorem km_B_98 : (Cond.methodLinkNest "BridgeClients" (98 : Nat) ({ cls := "BridgeClients$End", name := "comeTo", desc := "(II)V" } : MethodName) "BridgeClients") ∈ lw_tbl := List.mem_of_getElem? (i := 307) (by decide +kernel)
theorem ki_En_comeTo : (Cond.instanceMethod ({ cls := "BridgeClients$End", name := "comeTo", desc := "(II)V" } : MethodName)) ∈ lw_tbl := List.mem_of_getElem? (i := 309) (by decide +kernel)
theorem kc_En_comeTo : (Cond.code ({ cls := "BridgeClients$End", name := "comeTo", desc := "(II)V" } : MethodName) prog_4_method_2_code (3 : Nat) (Option.none : Option FieldType)) ∈ lw_tbl := List.mem_of_getElem? (i := 310) (by decide +kernel)
theorem km_En_18 : (Cond.methodLinkNest "BridgeClients$End" (18 : Nat) ({ cls := "BridgeClients", name := "isWithin", desc := "(III)Z" } : MethodName) "BridgeClients") ∈ lw_tbl := List.mem_of_getElem? (i := 311) (by decide +kernel)
theorem km_law_41 : (Cond.methodLink "BridgeClientsLaw" (41 : Nat) ({ cls := "BridgeClients", name := "meet", desc := "(III)I" } : MethodName)) ∈ lw_tbl := List.mem_of_getElem? (i := 312) (by decide +kernel)
theorem ki_B_meet : (Cond.instanceMethod ({ cls := "BridgeClients", name := "meet", desc := "(III)I" } : MethodName)) ∈ lw_tbl := List.mem_of_getElem? (i := 313) (by decide +kernel)
theorem kx_B_meet : (Cond.selects "BridgeClients" ({ cls := "BridgeClients", name := "meet", desc := "(III)I" } : MethodName) ({ cls := "BridgeClients", name := "meet", desc := "(III)I" } : MethodName)) ∈ lw_tbl := List.mem_of_getElem? (i := 314) (by decide +kernel)
theorem kc_B_meet : (Cond.code ({ cls := "BridgeClients", name := "meet", desc := "(III)I" } : MethodName) prog_1_method_8_code (9 : Nat) (Option.some FieldType.int)) ∈ lw_tbl := List.mem_of_getElem? (i := 315) (by decide +kernel)
theorem km_B_101 : (Cond.methodLink "BridgeClients" (101 : Nat) ({ cls := "BridgeClients", name := "isChannel", desc := "(I)Z" } : MethodName)) ∈ lw_tbl := List.mem_of_getElem? (i := 316) (by decide +kernel)
theorem ki_B_isChannel : (Cond.instanceMethod ({ cls := "BridgeClients", name := "isChannel", desc := "(I)Z" } : MethodName)) ∈ lw_tbl := List.mem_of_getElem? (i := 318) (by decide +kernel)
theorem kc_B_isChannel : (Cond.code ({ cls := "BridgeClients", name := "isChannel", desc := "(I)Z" } : MethodName) prog_1_method_29_code (2 : Nat) (Option.some FieldType.boolean)) ∈ lw_tbl := List.mem_of_getElem? (i := 319) (by decide +kernel)
theorem km_B_104 : (Cond.methodLink "BridgeClients" (104 : Nat) ({ cls := "BridgeClients", name := "refusalOfStep", desc := "(IIIII)I" } : MethodName)) ∈ lw_tbl := List.mem_of_getElem? (i := 320) (by decide +kernel)
theorem ki_B_refusalOfStep : (Cond.instanceMethod ({ cls := "BridgeClients", name := "refusalOfStep", desc := "(IIIII)I" } : MethodName)) ∈ lw_tbl := List.mem_of_getElem? (i := 322) (by decide +kernel)
theorem kc_B_refusalOfStep : (Cond.code ({ cls := "BridgeClients", name := "refusalOfStep", desc := "(IIIII)I" } : MethodName) prog_1_method_32_code (8 : Nat) (Option.some FieldType.int)) ∈ lw_tbl := List.mem_of_getElem? (i := 323) (by decide +kernel)
theorem km_B_150 : (Cond.methodLinkNest "BridgeClients" (150 : Nat) ({ cls := "BridgeClients$Client", name := "refusal", desc := "(I)I" } : MethodName) "BridgeClients") ∈ lw_tbl := List.mem_of_getElem? (i := 324) (by decide +kernel)
theorem ki_Cl_refusal : (Cond.instanceMethod ({ cls := "BridgeClients$Client", name := "refusal", desc := "(I)I" } : MethodName)) ∈ lw_tbl := List.mem_of_getElem? (i := 326) (by decide +kernel)
theorem kc_Cl_refusal : (Cond.code ({ cls := "BridgeClients$Client", name := "refusal", desc := "(I)I" } : MethodName) prog_3_method_5_code (2 : Nat) (Option.some FieldType.int)) ∈ lw_tbl := List.mem_of_getElem? (i := 327) (by decide +kernel)
theorem km_Cl_40 : (Cond.methodLink "BridgeClients$Client" (40 : Nat) ({ cls := "BridgeClients$Client", name := "howFollowed", desc := "(I)I" } : MethodName)) ∈ lw_tbl := List.mem_of_getElem? (i := 328) (by decide +kernel)
theorem km_B_203 : (Cond.methodLinkNest "BridgeClients" (203 : Nat) ({ cls := "BridgeClients$End", name := "stepIn", desc := "(I)I" } : MethodName) "BridgeClients") ∈ lw_tbl := List.mem_of_getElem? (i := 329) (by decide +kernel)
theorem ki_En_stepIn : (Cond.instanceMethod ({ cls := "BridgeClients$End", name := "stepIn", desc := "(I)I" } : MethodName)) ∈ lw_tbl := List.mem_of_getElem? (i := 331) (by decide +kernel)
theorem kc_En_stepIn : (Cond.code ({ cls := "BridgeClients$End", name := "stepIn", desc := "(I)I" } : MethodName) prog_4_method_3_code (3 : Nat) (Option.some FieldType.int)) ∈ lw_tbl := List.mem_of_getElem? (i := 332) (by decide +kernel)
theorem km_B_108 : (Cond.methodLink "BridgeClients" (108 : Nat) ({ cls := "BridgeClients", name := "greatestVersion", desc := "(I)I" } : MethodName)) ∈ lw_tbl := List.mem_of_getElem? (i := 333) (by decide +kernel)
theorem ks_B_greatestVersion : (Cond.static ({ cls := "BridgeClients", name := "greatestVersion", desc := "(I)I" } : MethodName)) ∈ lw_tbl := List.mem_of_getElem? (i := 334) (by decide +kernel)
theorem kc_B_greatestVersion : (Cond.code ({ cls := "BridgeClients", name := "greatestVersion", desc := "(I)I" } : MethodName) prog_1_method_42_code (1 : Nat) (Option.some FieldType.int)) ∈ lw_tbl := List.mem_of_getElem? (i := 335) (by decide +kernel)
theorem km_law_45 : (Cond.methodLink "BridgeClientsLaw" (45 : Nat) ({ cls := "BridgeClients", name := "agree", desc := "(II)I" } : MethodName)) ∈ lw_tbl := List.mem_of_getElem? (i := 336) (by decide +kernel)
theorem ki_B_agree : (Cond.instanceMethod ({ cls := "BridgeClients", name := "agree", desc := "(II)I" } : MethodName)) ∈ lw_tbl := List.mem_of_getElem? (i := 337) (by decide +kernel)
theorem kx_B_agree : (Cond.selects "BridgeClients" ({ cls := "BridgeClients", name := "agree", desc := "(II)I" } : MethodName) ({ cls := "BridgeClients", name := "agree", desc := "(II)I" } : MethodName)) ∈ lw_tbl := List.mem_of_getElem? (i := 338) (by decide +kernel)
theorem kc_B_agree : (Cond.code ({ cls := "BridgeClients", name := "agree", desc := "(II)I" } : MethodName) prog_1_method_9_code (7 : Nat) (Option.some FieldType.int)) ∈ lw_tbl := List.mem_of_getElem? (i := 339) (by decide +kernel)
theorem km_law_49 : (Cond.methodLink "BridgeClientsLaw" (49 : Nat) ({ cls := "BridgeClients", name := "confirm", desc := "(II)I" } : MethodName)) ∈ lw_tbl := List.mem_of_getElem? (i := 340) (by decide +kernel)
theorem ki_B_confirm : (Cond.instanceMethod ({ cls := "BridgeClients", name := "confirm", desc := "(II)I" } : MethodName)) ∈ lw_tbl := List.mem_of_getElem? (i := 341) (by decide +kernel)
theorem kx_B_confirm : (Cond.selects "BridgeClients" ({ cls := "BridgeClients", name := "confirm", desc := "(II)I" } : MethodName) ({ cls := "BridgeClients", name := "confirm", desc := "(II)I" } : MethodName)) ∈ lw_tbl := List.mem_of_getElem? (i := 342) (by decide +kernel)
theorem kc_B_confirm : (Cond.code ({ cls := "BridgeClients", name := "confirm", desc := "(II)I" } : MethodName) prog_1_method_10_code (6 : Nat) (Option.some FieldType.int)) ∈ lw_tbl := List.mem_of_getElem? (i := 343) (by decide +kernel)
theorem km_law_53 : (Cond.methodLink "BridgeClientsLaw" (53 : Nat) ({ cls := "BridgeClients", name := "close", desc := "(II)I" } : MethodName)) ∈ lw_tbl := List.mem_of_getElem? (i := 344) (by decide +kernel)
theorem ki_B_close : (Cond.instanceMethod ({ cls := "BridgeClients", name := "close", desc := "(II)I" } : MethodName)) ∈ lw_tbl := List.mem_of_getElem? (i := 345) (by decide +kernel)
theorem kx_B_close : (Cond.selects "BridgeClients" ({ cls := "BridgeClients", name := "close", desc := "(II)I" } : MethodName) ({ cls := "BridgeClients", name := "close", desc := "(II)I" } : MethodName)) ∈ lw_tbl := List.mem_of_getElem? (i := 346) (by decide +kernel)
theorem kc_B_close : (Cond.code ({ cls := "BridgeClients", name := "close", desc := "(II)I" } : MethodName) prog_1_method_11_code (4 : Nat) (Option.some FieldType.int)) ∈ lw_tbl := List.mem_of_getElem? (i := 347) (by decide +kernel)
theorem km_law_57 : (Cond.methodLink "BridgeClientsLaw" (57 : Nat) ({ cls := "BridgeClients", name := "shut", desc := "(III)I" } : MethodName)) ∈ lw_tbl := List.mem_of_getElem? (i := 348) (by decide +kernel)
theorem ki_B_shut : (Cond.instanceMethod ({ cls := "BridgeClients", name := "shut", desc := "(III)I" } : MethodName)) ∈ lw_tbl := List.mem_of_getElem? (i := 349) (by decide +kernel)
theorem kx_B_shut : (Cond.selects "BridgeClients" ({ cls := "BridgeClients", name := "shut", desc := "(III)I" } : MethodName) ({ cls := "BridgeClients", name := "shut", desc := "(III)I" } : MethodName)) ∈ lw_tbl := List.mem_of_getElem? (i := 350) (by decide +kernel)
theorem kc_B_shut : (Cond.code ({ cls := "BridgeClients", name := "shut", desc := "(III)I" } : MethodName) prog_1_method_12_code (5 : Nat) (Option.some FieldType.int)) ∈ lw_tbl := List.mem_of_getElem? (i := 351) (by decide +kernel)
theorem km_law_61 : (Cond.methodLink "BridgeClientsLaw" (61 : Nat) ({ cls := "BridgeClients", name := "send", desc := "(IIIIIII)I" } : MethodName)) ∈ lw_tbl := List.mem_of_getElem? (i := 352) (by decide +kernel)
theorem ki_B_send : (Cond.instanceMethod ({ cls := "BridgeClients", name := "send", desc := "(IIIIIII)I" } : MethodName)) ∈ lw_tbl := List.mem_of_getElem? (i := 353) (by decide +kernel)
theorem kx_B_send : (Cond.selects "BridgeClients" ({ cls := "BridgeClients", name := "send", desc := "(IIIIIII)I" } : MethodName) ({ cls := "BridgeClients", name := "send", desc := "(IIIIIII)I" } : MethodName)) ∈ lw_tbl := List.mem_of_getElem? (i := 354) (by decide +kernel)
theorem kc_B_send : (Cond.code ({ cls := "BridgeClients", name := "send", desc := "(IIIIIII)I" } : MethodName) prog_1_method_13_code (9 : Nat) (Option.some FieldType.int)) ∈ lw_tbl := List.mem_of_getElem? (i := 355) (by decide +kernel)
theorem km_B_117 : (Cond.methodLink "BridgeClients" (117 : Nat) ({ cls := "BridgeClients", name := "isAccount", desc := "(I)Z" } : MethodName)) ∈ lw_tbl := List.mem_of_getElem? (i := 356) (by decide +kernel)
theorem ks_B_isAccount : (Cond.static ({ cls := "BridgeClients", name := "isAccount", desc := "(I)Z" } : MethodName)) ∈ lw_tbl := List.mem_of_getElem? (i := 357) (by decide +kernel)
theorem kc_B_isAccount : (Cond.code ({ cls := "BridgeClients", name := "isAccount", desc := "(I)Z" } : MethodName) prog_1_method_28_code (1 : Nat) (Option.some FieldType.boolean)) ∈ lw_tbl := List.mem_of_getElem? (i := 358) (by decide +kernel)
theorem km_B_120 : (Cond.methodLink "BridgeClients" (120 : Nat) ({ cls := "BridgeClients", name := "isCoin", desc := "(I)Z" } : MethodName)) ∈ lw_tbl := List.mem_of_getElem? (i := 359) (by decide +kernel)
theorem ks_B_isCoin : (Cond.static ({ cls := "BridgeClients", name := "isCoin", desc := "(I)Z" } : MethodName)) ∈ lw_tbl := List.mem_of_getElem? (i := 360) (by decide +kernel)
theorem kc_B_isCoin : (Cond.code ({ cls := "BridgeClients", name := "isCoin", desc := "(I)Z" } : MethodName) prog_1_method_27_code (1 : Nat) (Option.some FieldType.boolean)) ∈ lw_tbl := List.mem_of_getElem? (i := 361) (by decide +kernel)
theorem km_B_123 : (Cond.methodLink "BridgeClients" (123 : Nat) ({ cls := "BridgeClients", name := "purse", desc := "(III)[I" } : MethodName)) ∈ lw_tbl := List.mem_of_getElem? (i := 362) (by decide +kernel)
theorem ki_B_purse : (Cond.instanceMethod ({ cls := "BridgeClients", name := "purse", desc := "(III)[I" } : MethodName)) ∈ lw_tbl := List.mem_of_getElem? (i := 364) (by decide +kernel)
theorem kc_B_purse : (Cond.code ({ cls := "BridgeClients", name := "purse", desc := "(III)[I" } : MethodName) prog_1_method_36_code (4 : Nat) (Option.some (FieldType.array FieldType.int))) ∈ lw_tbl := List.mem_of_getElem? (i := 365) (by decide +kernel)
theorem km_B_130 : (Cond.methodLink "BridgeClients" (130 : Nat) ({ cls := "BridgeClients", name := "takeIn", desc := "(IIIII)V" } : MethodName)) ∈ lw_tbl := List.mem_of_getElem? (i := 366) (by decide +kernel)
theorem ki_B_takeIn : (Cond.instanceMethod ({ cls := "BridgeClients", name := "takeIn", desc := "(IIIII)V" } : MethodName)) ∈ lw_tbl := List.mem_of_getElem? (i := 368) (by decide +kernel)
theorem kc_B_takeIn : (Cond.code ({ cls := "BridgeClients", name := "takeIn", desc := "(IIIII)V" } : MethodName) prog_1_method_37_code (6 : Nat) (Option.none : Option FieldType)) ∈ lw_tbl := List.mem_of_getElem? (i := 369) (by decide +kernel)
theorem km_B_134 : (Cond.methodLink "BridgeClients" (134 : Nat) ({ cls := "BridgeClients", name := "write", desc := "(IIIIIII)V" } : MethodName)) ∈ lw_tbl := List.mem_of_getElem? (i := 370) (by decide +kernel)
theorem ki_B_write : (Cond.instanceMethod ({ cls := "BridgeClients", name := "write", desc := "(IIIIIII)V" } : MethodName)) ∈ lw_tbl := List.mem_of_getElem? (i := 372) (by decide +kernel)
theorem kc_B_write : (Cond.code ({ cls := "BridgeClients", name := "write", desc := "(IIIIIII)V" } : MethodName) prog_1_method_39_code (10 : Nat) (Option.none : Option FieldType)) ∈ lw_tbl := List.mem_of_getElem? (i := 373) (by decide +kernel)
theorem km_B_246 : (Cond.methodLinkNest "BridgeClients" (246 : Nat) ({ cls := "BridgeClients$Message", name := "beginToStand", desc := "(I)V" } : MethodName) "BridgeClients") ∈ lw_tbl := List.mem_of_getElem? (i := 374) (by decide +kernel)
theorem ki_Me_beginToStand : (Cond.instanceMethod ({ cls := "BridgeClients$Message", name := "beginToStand", desc := "(I)V" } : MethodName)) ∈ lw_tbl := List.mem_of_getElem? (i := 376) (by decide +kernel)
theorem kc_Me_beginToStand : (Cond.code ({ cls := "BridgeClients$Message", name := "beginToStand", desc := "(I)V" } : MethodName) prog_6_method_2_code (2 : Nat) (Option.none : Option FieldType)) ∈ lw_tbl := List.mem_of_getElem? (i := 377) (by decide +kernel)
theorem km_law_66 : (Cond.methodLink "BridgeClientsLaw" (66 : Nat) ({ cls := "BridgeClients", name := "receive", desc := "(II)I" } : MethodName)) ∈ lw_tbl := List.mem_of_getElem? (i := 378) (by decide +kernel)
theorem ki_B_receive : (Cond.instanceMethod ({ cls := "BridgeClients", name := "receive", desc := "(II)I" } : MethodName)) ∈ lw_tbl := List.mem_of_getElem? (i := 379) (by decide +kernel)
theorem kx_B_receive : (Cond.selects "BridgeClients" ({ cls := "BridgeClients", name := "receive", desc := "(II)I" } : MethodName) ({ cls := "BridgeClients", name := "receive", desc := "(II)I" } : MethodName)) ∈ lw_tbl := List.mem_of_getElem? (i := 380) (by decide +kernel)
theorem kc_B_receive : (Cond.code ({ cls := "BridgeClients", name := "receive", desc := "(II)I" } : MethodName) prog_1_method_14_code (8 : Nat) (Option.some FieldType.int)) ∈ lw_tbl := List.mem_of_getElem? (i := 381) (by decide +kernel)
theorem km_B_138 : (Cond.methodLink "BridgeClients" (138 : Nat) ({ cls := "BridgeClients", name := "isMessage", desc := "(I)Z" } : MethodName)) ∈ lw_tbl := List.mem_of_getElem? (i := 382) (by decide +kernel)
theorem ki_B_isMessage : (Cond.instanceMethod ({ cls := "BridgeClients", name := "isMessage", desc := "(I)Z" } : MethodName)) ∈ lw_tbl := List.mem_of_getElem? (i := 384) (by decide +kernel)
theorem kc_B_isMessage : (Cond.code ({ cls := "BridgeClients", name := "isMessage", desc := "(I)Z" } : MethodName) prog_1_method_30_code (2 : Nat) (Option.some FieldType.boolean)) ∈ lw_tbl := List.mem_of_getElem? (i := 385) (by decide +kernel)
theorem km_B_153 : (Cond.methodLinkNest "BridgeClients" (153 : Nat) ({ cls := "BridgeClients$Message", name := "standsIn", desc := "(I)Z" } : MethodName) "BridgeClients") ∈ lw_tbl := List.mem_of_getElem? (i := 386) (by decide +kernel)
theorem ki_Me_standsIn : (Cond.instanceMethod ({ cls := "BridgeClients$Message", name := "standsIn", desc := "(I)Z" } : MethodName)) ∈ lw_tbl := List.mem_of_getElem? (i := 388) (by decide +kernel)
theorem kc_Me_standsIn : (Cond.code ({ cls := "BridgeClients$Message", name := "standsIn", desc := "(I)Z" } : MethodName) prog_6_method_4_code (2 : Nat) (Option.some FieldType.boolean)) ∈ lw_tbl := List.mem_of_getElem? (i := 389) (by decide +kernel)
theorem km_B_159 : (Cond.methodLink "BridgeClients" (159 : Nat) ({ cls := "BridgeClients", name := "areAllBeforeReceived", desc := "(I)Z" } : MethodName)) ∈ lw_tbl := List.mem_of_getElem? (i := 390) (by decide +kernel)
theorem ki_B_areAllBeforeReceived : (Cond.instanceMethod ({ cls := "BridgeClients", name := "areAllBeforeReceived", desc := "(I)Z" } : MethodName)) ∈ lw_tbl := List.mem_of_getElem? (i := 392) (by decide +kernel)
theorem kc_B_areAllBeforeReceived : (Cond.code ({ cls := "BridgeClients", name := "areAllBeforeReceived", desc := "(I)Z" } : MethodName) prog_1_method_34_code (3 : Nat) (Option.some FieldType.boolean)) ∈ lw_tbl := List.mem_of_getElem? (i := 393) (by decide +kernel)
theorem km_B_242 : (Cond.methodLinkNest "BridgeClients" (242 : Nat) ({ cls := "BridgeClients$Message", name := "isOfSameEnd", desc := "(LBridgeClients$Message;)Z" } : MethodName) "BridgeClients") ∈ lw_tbl := List.mem_of_getElem? (i := 394) (by decide +kernel)
theorem ki_Me_isOfSameEnd : (Cond.instanceMethod ({ cls := "BridgeClients$Message", name := "isOfSameEnd", desc := "(LBridgeClients$Message;)Z" } : MethodName)) ∈ lw_tbl := List.mem_of_getElem? (i := 396) (by decide +kernel)
theorem kc_Me_isOfSameEnd : (Cond.code ({ cls := "BridgeClients$Message", name := "isOfSameEnd", desc := "(LBridgeClients$Message;)Z" } : MethodName) prog_6_method_3_code (2 : Nat) (Option.some FieldType.boolean)) ∈ lw_tbl := List.mem_of_getElem? (i := 397) (by decide +kernel)
theorem km_B_171 : (Cond.methodLink "BridgeClients" (171 : Nat) ({ cls := "BridgeClients", name := "giveOut", desc := "(IIIII)V" } : MethodName)) ∈ lw_tbl := List.mem_of_getElem? (i := 398) (by decide +kernel)
theorem ki_B_giveOut : (Cond.instanceMethod ({ cls := "BridgeClients", name := "giveOut", desc := "(IIIII)V" } : MethodName)) ∈ lw_tbl := List.mem_of_getElem? (i := 400) (by decide +kernel)
theorem kc_B_giveOut : (Cond.code ({ cls := "BridgeClients", name := "giveOut", desc := "(IIIII)V" } : MethodName) prog_1_method_38_code (6 : Nat) (Option.none : Option FieldType)) ∈ lw_tbl := List.mem_of_getElem? (i := 401) (by decide +kernel)
theorem km_law_70 : (Cond.methodLink "BridgeClientsLaw" (70 : Nat) ({ cls := "BridgeClients", name := "acknowledge", desc := "(II)I" } : MethodName)) ∈ lw_tbl := List.mem_of_getElem? (i := 402) (by decide +kernel)
theorem ki_B_acknowledge : (Cond.instanceMethod ({ cls := "BridgeClients", name := "acknowledge", desc := "(II)I" } : MethodName)) ∈ lw_tbl := List.mem_of_getElem? (i := 403) (by decide +kernel)
theorem kx_B_acknowledge : (Cond.selects "BridgeClients" ({ cls := "BridgeClients", name := "acknowledge", desc := "(II)I" } : MethodName) ({ cls := "BridgeClients", name := "acknowledge", desc := "(II)I" } : MethodName)) ∈ lw_tbl := List.mem_of_getElem? (i := 404) (by decide +kernel)
theorem kc_B_acknowledge : (Cond.code ({ cls := "BridgeClients", name := "acknowledge", desc := "(II)I" } : MethodName) prog_1_method_15_code (5 : Nat) (Option.some FieldType.int)) ∈ lw_tbl := List.mem_of_getElem? (i := 405) (by decide +kernel)
theorem km_B_180 : (Cond.methodLink "BridgeClients" (180 : Nat) ({ cls := "BridgeClients", name := "refusalAtSender", desc := "(LBridgeClients$Message;I)I" } : MethodName)) ∈ lw_tbl := List.mem_of_getElem? (i := 406) (by decide +kernel)
theorem ki_B_refusalAtSender : (Cond.instanceMethod ({ cls := "BridgeClients", name := "refusalAtSender", desc := "(LBridgeClients$Message;I)I" } : MethodName)) ∈ lw_tbl := List.mem_of_getElem? (i := 408) (by decide +kernel)
theorem kc_B_refusalAtSender : (Cond.code ({ cls := "BridgeClients", name := "refusalAtSender", desc := "(LBridgeClients$Message;I)I" } : MethodName) prog_1_method_33_code (3 : Nat) (Option.some FieldType.int)) ∈ lw_tbl := List.mem_of_getElem? (i := 409) (by decide +kernel)
theorem km_B_184 : (Cond.methodLinkNest "BridgeClients" (184 : Nat) ({ cls := "BridgeClients$Message", name := "isReceivedIn", desc := "(I)Z" } : MethodName) "BridgeClients") ∈ lw_tbl := List.mem_of_getElem? (i := 410) (by decide +kernel)
theorem ki_Me_isReceivedIn : (Cond.instanceMethod ({ cls := "BridgeClients$Message", name := "isReceivedIn", desc := "(I)Z" } : MethodName)) ∈ lw_tbl := List.mem_of_getElem? (i := 412) (by decide +kernel)
theorem kc_Me_isReceivedIn : (Cond.code ({ cls := "BridgeClients$Message", name := "isReceivedIn", desc := "(I)Z" } : MethodName) prog_6_method_5_code (2 : Nat) (Option.some FieldType.boolean)) ∈ lw_tbl := List.mem_of_getElem? (i := 413) (by decide +kernel)
theorem km_B_187 : (Cond.methodLink "BridgeClients" (187 : Nat) ({ cls := "BridgeClients", name := "standsOneBefore", desc := "(I)Z" } : MethodName)) ∈ lw_tbl := List.mem_of_getElem? (i := 414) (by decide +kernel)
theorem ki_B_standsOneBefore : (Cond.instanceMethod ({ cls := "BridgeClients", name := "standsOneBefore", desc := "(I)Z" } : MethodName)) ∈ lw_tbl := List.mem_of_getElem? (i := 416) (by decide +kernel)
theorem kc_B_standsOneBefore : (Cond.code ({ cls := "BridgeClients", name := "standsOneBefore", desc := "(I)Z" } : MethodName) prog_1_method_35_code (3 : Nat) (Option.some FieldType.boolean)) ∈ lw_tbl := List.mem_of_getElem? (i := 417) (by decide +kernel)
theorem km_B_190 : (Cond.methodLink "BridgeClients" (190 : Nat) ({ cls := "BridgeClients", name := "finish", desc := "(LBridgeClients$Message;)V" } : MethodName)) ∈ lw_tbl := List.mem_of_getElem? (i := 418) (by decide +kernel)
theorem ki_B_finish : (Cond.instanceMethod ({ cls := "BridgeClients", name := "finish", desc := "(LBridgeClients$Message;)V" } : MethodName)) ∈ lw_tbl := List.mem_of_getElem? (i := 420) (by decide +kernel)
theorem kc_B_finish : (Cond.code ({ cls := "BridgeClients", name := "finish", desc := "(LBridgeClients$Message;)V" } : MethodName) prog_1_method_40_code (2 : Nat) (Option.none : Option FieldType)) ∈ lw_tbl := List.mem_of_getElem? (i := 421) (by decide +kernel)
theorem km_B_194 : (Cond.methodLink "BridgeClients" (194 : Nat) ({ cls := "BridgeClients", name := "giveBack", desc := "(LBridgeClients$Message;)V" } : MethodName)) ∈ lw_tbl := List.mem_of_getElem? (i := 422) (by decide +kernel)
theorem ki_B_giveBack : (Cond.instanceMethod ({ cls := "BridgeClients", name := "giveBack", desc := "(LBridgeClients$Message;)V" } : MethodName)) ∈ lw_tbl := List.mem_of_getElem? (i := 424) (by decide +kernel)
theorem kc_B_giveBack : (Cond.code ({ cls := "BridgeClients", name := "giveBack", desc := "(LBridgeClients$Message;)V" } : MethodName) prog_1_method_41_code (2 : Nat) (Option.none : Option FieldType)) ∈ lw_tbl := List.mem_of_getElem? (i := 425) (by decide +kernel)
theorem km_law_74 : (Cond.methodLink "BridgeClientsLaw" (74 : Nat) ({ cls := "BridgeClients", name := "timeout", desc := "(II)I" } : MethodName)) ∈ lw_tbl := List.mem_of_getElem? (i := 426) (by decide +kernel)
theorem ki_B_timeout : (Cond.instanceMethod ({ cls := "BridgeClients", name := "timeout", desc := "(II)I" } : MethodName)) ∈ lw_tbl := List.mem_of_getElem? (i := 427) (by decide +kernel)
theorem kx_B_timeout : (Cond.selects "BridgeClients" ({ cls := "BridgeClients", name := "timeout", desc := "(II)I" } : MethodName) ({ cls := "BridgeClients", name := "timeout", desc := "(II)I" } : MethodName)) ∈ lw_tbl := List.mem_of_getElem? (i := 428) (by decide +kernel)
theorem kc_B_timeout : (Cond.code ({ cls := "BridgeClients", name := "timeout", desc := "(II)I" } : MethodName) prog_1_method_16_code (6 : Nat) (Option.some FieldType.int)) ∈ lw_tbl := List.mem_of_getElem? (i := 429) (by decide +kernel)
theorem km_law_78 : (Cond.methodLink "BridgeClientsLaw" (78 : Nat) ({ cls := "BridgeClients", name := "end", desc := "(III)I" } : MethodName)) ∈ lw_tbl := List.mem_of_getElem? (i := 430) (by decide +kernel)
theorem ki_B_end : (Cond.instanceMethod ({ cls := "BridgeClients", name := "end", desc := "(III)I" } : MethodName)) ∈ lw_tbl := List.mem_of_getElem? (i := 431) (by decide +kernel)
theorem kx_B_end : (Cond.selects "BridgeClients" ({ cls := "BridgeClients", name := "end", desc := "(III)I" } : MethodName) ({ cls := "BridgeClients", name := "end", desc := "(III)I" } : MethodName)) ∈ lw_tbl := List.mem_of_getElem? (i := 432) (by decide +kernel)
theorem kc_B_end : (Cond.code ({ cls := "BridgeClients", name := "end", desc := "(III)I" } : MethodName) prog_1_method_17_code (5 : Nat) (Option.some FieldType.int)) ∈ lw_tbl := List.mem_of_getElem? (i := 433) (by decide +kernel)
theorem km_law_82 : (Cond.methodLink "BridgeClientsLaw" (82 : Nat) ({ cls := "BridgeClients", name := "stepAt", desc := "(III)I" } : MethodName)) ∈ lw_tbl := List.mem_of_getElem? (i := 434) (by decide +kernel)
theorem ki_B_stepAt : (Cond.instanceMethod ({ cls := "BridgeClients", name := "stepAt", desc := "(III)I" } : MethodName)) ∈ lw_tbl := List.mem_of_getElem? (i := 435) (by decide +kernel)
theorem kx_B_stepAt : (Cond.selects "BridgeClients" ({ cls := "BridgeClients", name := "stepAt", desc := "(III)I" } : MethodName) ({ cls := "BridgeClients", name := "stepAt", desc := "(III)I" } : MethodName)) ∈ lw_tbl := List.mem_of_getElem? (i := 436) (by decide +kernel)
theorem kc_B_stepAt : (Cond.code ({ cls := "BridgeClients", name := "stepAt", desc := "(III)I" } : MethodName) prog_1_method_18_code (4 : Nat) (Option.some FieldType.int)) ∈ lw_tbl := List.mem_of_getElem? (i := 437) (by decide +kernel)
theorem km_law_86 : (Cond.methodLink "BridgeClientsLaw" (86 : Nat) ({ cls := "BridgeClients", name := "message", desc := "(II)I" } : MethodName)) ∈ lw_tbl := List.mem_of_getElem? (i := 438) (by decide +kernel)
theorem ki_B_message : (Cond.instanceMethod ({ cls := "BridgeClients", name := "message", desc := "(II)I" } : MethodName)) ∈ lw_tbl := List.mem_of_getElem? (i := 439) (by decide +kernel)
theorem kx_B_message : (Cond.selects "BridgeClients" ({ cls := "BridgeClients", name := "message", desc := "(II)I" } : MethodName) ({ cls := "BridgeClients", name := "message", desc := "(II)I" } : MethodName)) ∈ lw_tbl := List.mem_of_getElem? (i := 440) (by decide +kernel)
theorem kc_B_message : (Cond.code ({ cls := "BridgeClients", name := "message", desc := "(II)I" } : MethodName) prog_1_method_19_code (4 : Nat) (Option.some FieldType.int)) ∈ lw_tbl := List.mem_of_getElem? (i := 441) (by decide +kernel)
theorem km_law_90 : (Cond.methodLink "BridgeClientsLaw" (90 : Nat) ({ cls := "BridgeClients", name := "balance", desc := "(III)I" } : MethodName)) ∈ lw_tbl := List.mem_of_getElem? (i := 442) (by decide +kernel)
theorem ki_B_balance : (Cond.instanceMethod ({ cls := "BridgeClients", name := "balance", desc := "(III)I" } : MethodName)) ∈ lw_tbl := List.mem_of_getElem? (i := 443) (by decide +kernel)
theorem kx_B_balance : (Cond.selects "BridgeClients" ({ cls := "BridgeClients", name := "balance", desc := "(III)I" } : MethodName) ({ cls := "BridgeClients", name := "balance", desc := "(III)I" } : MethodName)) ∈ lw_tbl := List.mem_of_getElem? (i := 444) (by decide +kernel)
theorem kc_B_balance : (Cond.code ({ cls := "BridgeClients", name := "balance", desc := "(III)I" } : MethodName) prog_1_method_20_code (6 : Nat) (Option.some FieldType.int)) ∈ lw_tbl := List.mem_of_getElem? (i := 445) (by decide +kernel)
theorem km_law_94 : (Cond.methodLink "BridgeClientsLaw" (94 : Nat) ({ cls := "BridgeClients", name := "vouchers", desc := "(III)I" } : MethodName)) ∈ lw_tbl := List.mem_of_getElem? (i := 446) (by decide +kernel)
theorem ki_B_vouchers : (Cond.instanceMethod ({ cls := "BridgeClients", name := "vouchers", desc := "(III)I" } : MethodName)) ∈ lw_tbl := List.mem_of_getElem? (i := 447) (by decide +kernel)
theorem kx_B_vouchers : (Cond.selects "BridgeClients" ({ cls := "BridgeClients", name := "vouchers", desc := "(III)I" } : MethodName) ({ cls := "BridgeClients", name := "vouchers", desc := "(III)I" } : MethodName)) ∈ lw_tbl := List.mem_of_getElem? (i := 448) (by decide +kernel)
theorem kc_B_vouchers : (Cond.code ({ cls := "BridgeClients", name := "vouchers", desc := "(III)I" } : MethodName) prog_1_method_21_code (4 : Nat) (Option.some FieldType.int)) ∈ lw_tbl := List.mem_of_getElem? (i := 449) (by decide +kernel)
theorem km_law_98 : (Cond.methodLink "BridgeClientsLaw" (98 : Nat) ({ cls := "BridgeClients", name := "sum", desc := "(II)I" } : MethodName)) ∈ lw_tbl := List.mem_of_getElem? (i := 450) (by decide +kernel)
theorem ki_B_sum : (Cond.instanceMethod ({ cls := "BridgeClients", name := "sum", desc := "(II)I" } : MethodName)) ∈ lw_tbl := List.mem_of_getElem? (i := 451) (by decide +kernel)
theorem kx_B_sum : (Cond.selects "BridgeClients" ({ cls := "BridgeClients", name := "sum", desc := "(II)I" } : MethodName) ({ cls := "BridgeClients", name := "sum", desc := "(II)I" } : MethodName)) ∈ lw_tbl := List.mem_of_getElem? (i := 452) (by decide +kernel)
theorem kc_B_sum : (Cond.code ({ cls := "BridgeClients", name := "sum", desc := "(II)I" } : MethodName) prog_1_method_22_code (3 : Nat) (Option.some FieldType.int)) ∈ lw_tbl := List.mem_of_getElem? (i := 453) (by decide +kernel)
theorem km_B_225 : (Cond.methodLink "BridgeClients" (225 : Nat) ({ cls := "BridgeClients", name := "total", desc := "([I)I" } : MethodName)) ∈ lw_tbl := List.mem_of_getElem? (i := 454) (by decide +kernel)
theorem ks_B_total : (Cond.static ({ cls := "BridgeClients", name := "total", desc := "([I)I" } : MethodName)) ∈ lw_tbl := List.mem_of_getElem? (i := 455) (by decide +kernel)
theorem kc_B_total : (Cond.code ({ cls := "BridgeClients", name := "total", desc := "([I)I" } : MethodName) prog_1_method_43_code (3 : Nat) (Option.some FieldType.int)) ∈ lw_tbl := List.mem_of_getElem? (i := 456) (by decide +kernel)
theorem km_B_229 : (Cond.methodLink "BridgeClients" (229 : Nat) ({ cls := "BridgeClients", name := "allEscrows", desc := "(I)I" } : MethodName)) ∈ lw_tbl := List.mem_of_getElem? (i := 457) (by decide +kernel)
theorem ki_B_allEscrows : (Cond.instanceMethod ({ cls := "BridgeClients", name := "allEscrows", desc := "(I)I" } : MethodName)) ∈ lw_tbl := List.mem_of_getElem? (i := 459) (by decide +kernel)
theorem kc_B_allEscrows : (Cond.code ({ cls := "BridgeClients", name := "allEscrows", desc := "(I)I" } : MethodName) prog_1_method_44_code (4 : Nat) (Option.some FieldType.int)) ∈ lw_tbl := List.mem_of_getElem? (i := 460) (by decide +kernel)
theorem km_B_232 : (Cond.methodLink "BridgeClients" (232 : Nat) ({ cls := "BridgeClients", name := "allVouchers", desc := "(I)I" } : MethodName)) ∈ lw_tbl := List.mem_of_getElem? (i := 461) (by decide +kernel)
theorem ki_B_allVouchers : (Cond.instanceMethod ({ cls := "BridgeClients", name := "allVouchers", desc := "(I)I" } : MethodName)) ∈ lw_tbl := List.mem_of_getElem? (i := 463) (by decide +kernel)
theorem kc_B_allVouchers : (Cond.code ({ cls := "BridgeClients", name := "allVouchers", desc := "(I)I" } : MethodName) prog_1_method_45_code (4 : Nat) (Option.some FieldType.int)) ∈ lw_tbl := List.mem_of_getElem? (i := 464) (by decide +kernel)
theorem km_B_235 : (Cond.methodLink "BridgeClients" (235 : Nat) ({ cls := "BridgeClients", name := "onTheWay", desc := "(I)I" } : MethodName)) ∈ lw_tbl := List.mem_of_getElem? (i := 465) (by decide +kernel)
theorem ki_B_onTheWay : (Cond.instanceMethod ({ cls := "BridgeClients", name := "onTheWay", desc := "(I)I" } : MethodName)) ∈ lw_tbl := List.mem_of_getElem? (i := 467) (by decide +kernel)
theorem kc_B_onTheWay : (Cond.code ({ cls := "BridgeClients", name := "onTheWay", desc := "(I)I" } : MethodName) prog_1_method_46_code (5 : Nat) (Option.some FieldType.int)) ∈ lw_tbl := List.mem_of_getElem? (i := 468) (by decide +kernel)
theorem km_law_102 : (Cond.methodLink "BridgeClientsLaw" (102 : Nat) ({ cls := "BridgeClients", name := "count", desc := "(I)I" } : MethodName)) ∈ lw_tbl := List.mem_of_getElem? (i := 469) (by decide +kernel)
theorem ki_B_count : (Cond.instanceMethod ({ cls := "BridgeClients", name := "count", desc := "(I)I" } : MethodName)) ∈ lw_tbl := List.mem_of_getElem? (i := 470) (by decide +kernel)
theorem kx_B_count : (Cond.selects "BridgeClients" ({ cls := "BridgeClients", name := "count", desc := "(I)I" } : MethodName) ({ cls := "BridgeClients", name := "count", desc := "(I)I" } : MethodName)) ∈ lw_tbl := List.mem_of_getElem? (i := 471) (by decide +kernel)
theorem kc_B_count : (Cond.code ({ cls := "BridgeClients", name := "count", desc := "(I)I" } : MethodName) prog_1_method_23_code (2 : Nat) (Option.some FieldType.int)) ∈ lw_tbl := List.mem_of_getElem? (i := 472) (by decide +kernel)
theorem km_B_238 : (Cond.methodLink "BridgeClients" (238 : Nat) ({ cls := "BridgeClients", name := "howManyStand", desc := "()I" } : MethodName)) ∈ lw_tbl := List.mem_of_getElem? (i := 473) (by decide +kernel)
theorem ki_B_howManyStand : (Cond.instanceMethod ({ cls := "BridgeClients", name := "howManyStand", desc := "()I" } : MethodName)) ∈ lw_tbl := List.mem_of_getElem? (i := 475) (by decide +kernel)
theorem kc_B_howManyStand : (Cond.code ({ cls := "BridgeClients", name := "howManyStand", desc := "()I" } : MethodName) prog_1_method_47_code (3 : Nat) (Option.some FieldType.int)) ∈ lw_tbl := List.mem_of_getElem? (i := 476) (by decide +kernel)
theorem km_law_106 : (Cond.methodLink "BridgeClientsLaw" (106 : Nat) ({ cls := "BridgeClients", name := "clear", desc := "()I" } : MethodName)) ∈ lw_tbl := List.mem_of_getElem? (i := 477) (by decide +kernel)
theorem ki_B_clear : (Cond.instanceMethod ({ cls := "BridgeClients", name := "clear", desc := "()I" } : MethodName)) ∈ lw_tbl := List.mem_of_getElem? (i := 478) (by decide +kernel)
theorem kx_B_clear : (Cond.selects "BridgeClients" ({ cls := "BridgeClients", name := "clear", desc := "()I" } : MethodName) ({ cls := "BridgeClients", name := "clear", desc := "()I" } : MethodName)) ∈ lw_tbl := List.mem_of_getElem? (i := 479) (by decide +kernel)
theorem kc_B_clear : (Cond.code ({ cls := "BridgeClients", name := "clear", desc := "()I" } : MethodName) prog_1_method_24_code (2 : Nat) (Option.some FieldType.int)) ∈ lw_tbl := List.mem_of_getElem? (i := 480) (by decide +kernel)
theorem kl_law_10 : (Cond.classLink "BridgeClientsLaw" (10 : Nat) "BridgeClientsModel") ∈ lw_tbl := List.mem_of_getElem? (i := 481) (by decide +kernel)
theorem kt_R : (Cond.instantiable "BridgeClientsModel" (30 : Nat)) ∈ lw_tbl := List.mem_of_getElem? (i := 482) (by decide +kernel)
theorem km_law_12 : (Cond.methodLink "BridgeClientsLaw" (12 : Nat) ({ cls := "BridgeClientsModel", name := "<init>", desc := "()V" } : MethodName)) ∈ lw_tbl := List.mem_of_getElem? (i := 483) (by decide +kernel)
theorem ki_R_new : (Cond.instanceMethod ({ cls := "BridgeClientsModel", name := "<init>", desc := "()V" } : MethodName)) ∈ lw_tbl := List.mem_of_getElem? (i := 484) (by decide +kernel)
theorem kc_R_new : (Cond.code ({ cls := "BridgeClientsModel", name := "<init>", desc := "()V" } : MethodName) prog_8_method_1_code (1 : Nat) (Option.none : Option FieldType)) ∈ lw_tbl := List.mem_of_getElem? (i := 485) (by decide +kernel)
theorem km_R_1 : (Cond.methodLink "BridgeClientsModel" (1 : Nat) ({ cls := "java/lang/Object", name := "<init>", desc := "()V" } : MethodName)) ∈ lw_tbl := List.mem_of_getElem? (i := 486) (by decide +kernel)
theorem km_R_95 : (Cond.methodLink "BridgeClientsModel" (95 : Nat) ({ cls := "BridgeClientsModel", name := "begin", desc := "()V" } : MethodName)) ∈ lw_tbl := List.mem_of_getElem? (i := 487) (by decide +kernel)
theorem ki_R_begin : (Cond.instanceMethod ({ cls := "BridgeClientsModel", name := "begin", desc := "()V" } : MethodName)) ∈ lw_tbl := List.mem_of_getElem? (i := 489) (by decide +kernel)
theorem kc_R_begin : (Cond.code ({ cls := "BridgeClientsModel", name := "begin", desc := "()V" } : MethodName) prog_8_method_3_code (3 : Nat) (Option.none : Option FieldType)) ∈ lw_tbl := List.mem_of_getElem? (i := 490) (by decide +kernel)
theorem km_R_105 : (Cond.methodLink "BridgeClientsModel" (105 : Nat) ({ cls := "BridgeClientsModel", name := "forget", desc := "(I)V" } : MethodName)) ∈ lw_tbl := List.mem_of_getElem? (i := 491) (by decide +kernel)
theorem ki_R_forget : (Cond.instanceMethod ({ cls := "BridgeClientsModel", name := "forget", desc := "(I)V" } : MethodName)) ∈ lw_tbl := List.mem_of_getElem? (i := 493) (by decide +kernel)
theorem kc_R_forget : (Cond.code ({ cls := "BridgeClientsModel", name := "forget", desc := "(I)V" } : MethodName) prog_8_method_4_code (3 : Nat) (Option.none : Option FieldType)) ∈ lw_tbl := List.mem_of_getElem? (i := 494) (by decide +kernel)
theorem kf_R_7 : (Cond.fieldLink "BridgeClientsModel" (7 : Nat) "BridgeClientsModel" "heights" "[I") ∈ lw_tbl := List.mem_of_getElem? (i := 495) (by decide +kernel)
theorem kf_R_13 : (Cond.fieldLink "BridgeClientsModel" (13 : Nat) "BridgeClientsModel" "followed" "[I") ∈ lw_tbl := List.mem_of_getElem? (i := 496) (by decide +kernel)
theorem kf_R_16 : (Cond.fieldLink "BridgeClientsModel" (16 : Nat) "BridgeClientsModel" "frozen" "[Z") ∈ lw_tbl := List.mem_of_getElem? (i := 497) (by decide +kernel)
theorem kf_R_98 : (Cond.fieldLink "BridgeClientsModel" (98 : Nat) "BridgeClientsModel" "channels" "I") ∈ lw_tbl := List.mem_of_getElem? (i := 498) (by decide +kernel)
theorem kf_R_20 : (Cond.fieldLink "BridgeClientsModel" (20 : Nat) "BridgeClientsModel" "beginner" "[I") ∈ lw_tbl := List.mem_of_getElem? (i := 499) (by decide +kernel)
theorem kf_R_23 : (Cond.fieldLink "BridgeClientsModel" (23 : Nat) "BridgeClientsModel" "ordered" "[Z") ∈ lw_tbl := List.mem_of_getElem? (i := 500) (by decide +kernel)
theorem kf_R_26 : (Cond.fieldLink "BridgeClientsModel" (26 : Nat) "BridgeClientsModel" "steps" "[I") ∈ lw_tbl := List.mem_of_getElem? (i := 501) (by decide +kernel)
theorem kf_R_29 : (Cond.fieldLink "BridgeClientsModel" (29 : Nat) "BridgeClientsModel" "offers" "[I") ∈ lw_tbl := List.mem_of_getElem? (i := 502) (by decide +kernel)
theorem kf_R_32 : (Cond.fieldLink "BridgeClientsModel" (32 : Nat) "BridgeClientsModel" "versions" "[I") ∈ lw_tbl := List.mem_of_getElem? (i := 503) (by decide +kernel)
theorem kf_R_35 : (Cond.fieldLink "BridgeClientsModel" (35 : Nat) "BridgeClientsModel" "escrows" "[I") ∈ lw_tbl := List.mem_of_getElem? (i := 504) (by decide +kernel)
theorem kf_R_38 : (Cond.fieldLink "BridgeClientsModel" (38 : Nat) "BridgeClientsModel" "sent" "[I") ∈ lw_tbl := List.mem_of_getElem? (i := 505) (by decide +kernel)
theorem kf_R_41 : (Cond.fieldLink "BridgeClientsModel" (41 : Nat) "BridgeClientsModel" "received" "[I") ∈ lw_tbl := List.mem_of_getElem? (i := 506) (by decide +kernel)
theorem kf_R_44 : (Cond.fieldLink "BridgeClientsModel" (44 : Nat) "BridgeClientsModel" "stepsAt" "[I") ∈ lw_tbl := List.mem_of_getElem? (i := 507) (by decide +kernel)
theorem kf_R_47 : (Cond.fieldLink "BridgeClientsModel" (47 : Nat) "BridgeClientsModel" "homes" "[I") ∈ lw_tbl := List.mem_of_getElem? (i := 508) (by decide +kernel)
theorem kf_R_50 : (Cond.fieldLink "BridgeClientsModel" (50 : Nat) "BridgeClientsModel" "vouched" "[I") ∈ lw_tbl := List.mem_of_getElem? (i := 509) (by decide +kernel)
theorem kf_R_102 : (Cond.fieldLink "BridgeClientsModel" (102 : Nat) "BridgeClientsModel" "messages" "I") ∈ lw_tbl := List.mem_of_getElem? (i := 510) (by decide +kernel)
theorem kf_R_53 : (Cond.fieldLink "BridgeClientsModel" (53 : Nat) "BridgeClientsModel" "mChannel" "[I") ∈ lw_tbl := List.mem_of_getElem? (i := 511) (by decide +kernel)
theorem kf_R_56 : (Cond.fieldLink "BridgeClientsModel" (56 : Nat) "BridgeClientsModel" "mSide" "[I") ∈ lw_tbl := List.mem_of_getElem? (i := 512) (by decide +kernel)
theorem kf_R_59 : (Cond.fieldLink "BridgeClientsModel" (59 : Nat) "BridgeClientsModel" "mPlace" "[I") ∈ lw_tbl := List.mem_of_getElem? (i := 513) (by decide +kernel)
theorem kf_R_62 : (Cond.fieldLink "BridgeClientsModel" (62 : Nat) "BridgeClientsModel" "mAmount" "[I") ∈ lw_tbl := List.mem_of_getElem? (i := 514) (by decide +kernel)
theorem kf_R_65 : (Cond.fieldLink "BridgeClientsModel" (65 : Nat) "BridgeClientsModel" "mCoin" "[I") ∈ lw_tbl := List.mem_of_getElem? (i := 515) (by decide +kernel)
theorem kf_R_68 : (Cond.fieldLink "BridgeClientsModel" (68 : Nat) "BridgeClientsModel" "mAccount" "[I") ∈ lw_tbl := List.mem_of_getElem? (i := 516) (by decide +kernel)
theorem kf_R_71 : (Cond.fieldLink "BridgeClientsModel" (71 : Nat) "BridgeClientsModel" "mTo" "[I") ∈ lw_tbl := List.mem_of_getElem? (i := 517) (by decide +kernel)
theorem kf_R_74 : (Cond.fieldLink "BridgeClientsModel" (74 : Nat) "BridgeClientsModel" "mUntil" "[I") ∈ lw_tbl := List.mem_of_getElem? (i := 518) (by decide +kernel)
theorem kf_R_77 : (Cond.fieldLink "BridgeClientsModel" (77 : Nat) "BridgeClientsModel" "mStands" "[Z") ∈ lw_tbl := List.mem_of_getElem? (i := 519) (by decide +kernel)
theorem kf_R_80 : (Cond.fieldLink "BridgeClientsModel" (80 : Nat) "BridgeClientsModel" "mFrom" "[I") ∈ lw_tbl := List.mem_of_getElem? (i := 520) (by decide +kernel)
theorem kf_R_83 : (Cond.fieldLink "BridgeClientsModel" (83 : Nat) "BridgeClientsModel" "mEnd" "[I") ∈ lw_tbl := List.mem_of_getElem? (i := 521) (by decide +kernel)
theorem kf_R_86 : (Cond.fieldLink "BridgeClientsModel" (86 : Nat) "BridgeClientsModel" "mState" "[I") ∈ lw_tbl := List.mem_of_getElem? (i := 522) (by decide +kernel)
theorem kf_R_89 : (Cond.fieldLink "BridgeClientsModel" (89 : Nat) "BridgeClientsModel" "mGot" "[I") ∈ lw_tbl := List.mem_of_getElem? (i := 523) (by decide +kernel)
theorem kf_R_92 : (Cond.fieldLink "BridgeClientsModel" (92 : Nat) "BridgeClientsModel" "mBack" "[Z") ∈ lw_tbl := List.mem_of_getElem? (i := 524) (by decide +kernel)
theorem ka_boolean : (Cond.arrayClass FieldType.boolean) ∈ lw_tbl := List.mem_of_getElem? (i := 586) (by decide +kernel)
theorem km_law_17 : (Cond.methodLink "BridgeClientsLaw" (17 : Nat) ({ cls := "BridgeClientsModel", name := "tick", desc := "(I)I" } : MethodName)) ∈ lw_tbl := List.mem_of_getElem? (i := 587) (by decide +kernel)
theorem ki_R_tick : (Cond.instanceMethod ({ cls := "BridgeClientsModel", name := "tick", desc := "(I)I" } : MethodName)) ∈ lw_tbl := List.mem_of_getElem? (i := 588) (by decide +kernel)
theorem kx_R_tick : (Cond.selects "BridgeClientsModel" ({ cls := "BridgeClientsModel", name := "tick", desc := "(I)I" } : MethodName) ({ cls := "BridgeClientsModel", name := "tick", desc := "(I)I" } : MethodName)) ∈ lw_tbl := List.mem_of_getElem? (i := 589) (by decide +kernel)
theorem kc_R_tick : (Cond.code ({ cls := "BridgeClientsModel", name := "tick", desc := "(I)I" } : MethodName) prog_8_method_6_code (4 : Nat) (Option.some FieldType.int)) ∈ lw_tbl := List.mem_of_getElem? (i := 590) (by decide +kernel)
theorem km_R_109 : (Cond.methodLink "BridgeClientsModel" (109 : Nat) ({ cls := "BridgeClientsModel", name := "noSide", desc := "(I)Z" } : MethodName)) ∈ lw_tbl := List.mem_of_getElem? (i := 591) (by decide +kernel)
theorem ks_R_noSide : (Cond.static ({ cls := "BridgeClientsModel", name := "noSide", desc := "(I)Z" } : MethodName)) ∈ lw_tbl := List.mem_of_getElem? (i := 592) (by decide +kernel)
theorem kc_R_noSide : (Cond.code ({ cls := "BridgeClientsModel", name := "noSide", desc := "(I)Z" } : MethodName) prog_8_method_5_code (1 : Nat) (Option.some FieldType.boolean)) ∈ lw_tbl := List.mem_of_getElem? (i := 593) (by decide +kernel)
theorem km_law_22 : (Cond.methodLink "BridgeClientsLaw" (22 : Nat) ({ cls := "BridgeClientsModel", name := "follow", desc := "(III)I" } : MethodName)) ∈ lw_tbl := List.mem_of_getElem? (i := 594) (by decide +kernel)
theorem ki_R_follow : (Cond.instanceMethod ({ cls := "BridgeClientsModel", name := "follow", desc := "(III)I" } : MethodName)) ∈ lw_tbl := List.mem_of_getElem? (i := 595) (by decide +kernel)
theorem kx_R_follow : (Cond.selects "BridgeClientsModel" ({ cls := "BridgeClientsModel", name := "follow", desc := "(III)I" } : MethodName) ({ cls := "BridgeClientsModel", name := "follow", desc := "(III)I" } : MethodName)) ∈ lw_tbl := List.mem_of_getElem? (i := 596) (by decide +kernel)
theorem kc_R_follow : (Cond.code ({ cls := "BridgeClientsModel", name := "follow", desc := "(III)I" } : MethodName) prog_8_method_7_code (5 : Nat) (Option.some FieldType.int)) ∈ lw_tbl := List.mem_of_getElem? (i := 597) (by decide +kernel)
theorem km_R_113 : (Cond.methodLink "BridgeClientsModel" (113 : Nat) ({ cls := "BridgeClientsModel", name := "in", desc := "(III)Z" } : MethodName)) ∈ lw_tbl := List.mem_of_getElem? (i := 598) (by decide +kernel)
theorem ks_R_in : (Cond.static ({ cls := "BridgeClientsModel", name := "in", desc := "(III)Z" } : MethodName)) ∈ lw_tbl := List.mem_of_getElem? (i := 599) (by decide +kernel)
theorem kc_R_in : (Cond.code ({ cls := "BridgeClientsModel", name := "in", desc := "(III)Z" } : MethodName) prog_8_method_2_code (3 : Nat) (Option.some FieldType.boolean)) ∈ lw_tbl := List.mem_of_getElem? (i := 600) (by decide +kernel)
theorem km_law_26 : (Cond.methodLink "BridgeClientsLaw" (26 : Nat) ({ cls := "BridgeClientsModel", name := "renew", desc := "(I)I" } : MethodName)) ∈ lw_tbl := List.mem_of_getElem? (i := 601) (by decide +kernel)
theorem ki_R_renew : (Cond.instanceMethod ({ cls := "BridgeClientsModel", name := "renew", desc := "(I)I" } : MethodName)) ∈ lw_tbl := List.mem_of_getElem? (i := 602) (by decide +kernel)
theorem kx_R_renew : (Cond.selects "BridgeClientsModel" ({ cls := "BridgeClientsModel", name := "renew", desc := "(I)I" } : MethodName) ({ cls := "BridgeClientsModel", name := "renew", desc := "(I)I" } : MethodName)) ∈ lw_tbl := List.mem_of_getElem? (i := 603) (by decide +kernel)
theorem kc_R_renew : (Cond.code ({ cls := "BridgeClientsModel", name := "renew", desc := "(I)I" } : MethodName) prog_8_method_10_code (3 : Nat) (Option.some FieldType.int)) ∈ lw_tbl := List.mem_of_getElem? (i := 604) (by decide +kernel)
theorem km_R_117 : (Cond.methodLink "BridgeClientsModel" (117 : Nat) ({ cls := "BridgeClientsModel", name := "followedMany", desc := "(I)I" } : MethodName)) ∈ lw_tbl := List.mem_of_getElem? (i := 605) (by decide +kernel)
theorem ki_R_followedMany : (Cond.instanceMethod ({ cls := "BridgeClientsModel", name := "followedMany", desc := "(I)I" } : MethodName)) ∈ lw_tbl := List.mem_of_getElem? (i := 607) (by decide +kernel)
theorem kc_R_followedMany : (Cond.code ({ cls := "BridgeClientsModel", name := "followedMany", desc := "(I)I" } : MethodName) prog_8_method_8_code (4 : Nat) (Option.some FieldType.int)) ∈ lw_tbl := List.mem_of_getElem? (i := 608) (by decide +kernel)
theorem km_law_31 : (Cond.methodLink "BridgeClientsLaw" (31 : Nat) ({ cls := "BridgeClientsModel", name := "client", desc := "(II)I" } : MethodName)) ∈ lw_tbl := List.mem_of_getElem? (i := 609) (by decide +kernel)
theorem ki_R_client : (Cond.instanceMethod ({ cls := "BridgeClientsModel", name := "client", desc := "(II)I" } : MethodName)) ∈ lw_tbl := List.mem_of_getElem? (i := 610) (by decide +kernel)
theorem kx_R_client : (Cond.selects "BridgeClientsModel" ({ cls := "BridgeClientsModel", name := "client", desc := "(II)I" } : MethodName) ({ cls := "BridgeClientsModel", name := "client", desc := "(II)I" } : MethodName)) ∈ lw_tbl := List.mem_of_getElem? (i := 611) (by decide +kernel)
theorem kc_R_client : (Cond.code ({ cls := "BridgeClientsModel", name := "client", desc := "(II)I" } : MethodName) prog_8_method_11_code (3 : Nat) (Option.some FieldType.int)) ∈ lw_tbl := List.mem_of_getElem? (i := 612) (by decide +kernel)
theorem km_R_121 : (Cond.methodLink "BridgeClientsModel" (121 : Nat) ({ cls := "BridgeClientsModel", name := "highest", desc := "(I)I" } : MethodName)) ∈ lw_tbl := List.mem_of_getElem? (i := 613) (by decide +kernel)
theorem ki_R_highest : (Cond.instanceMethod ({ cls := "BridgeClientsModel", name := "highest", desc := "(I)I" } : MethodName)) ∈ lw_tbl := List.mem_of_getElem? (i := 615) (by decide +kernel)
theorem kc_R_highest : (Cond.code ({ cls := "BridgeClientsModel", name := "highest", desc := "(I)I" } : MethodName) prog_8_method_9_code (4 : Nat) (Option.some FieldType.int)) ∈ lw_tbl := List.mem_of_getElem? (i := 616) (by decide +kernel)
theorem km_law_35 : (Cond.methodLink "BridgeClientsLaw" (35 : Nat) ({ cls := "BridgeClientsModel", name := "follows", desc := "(II)I" } : MethodName)) ∈ lw_tbl := List.mem_of_getElem? (i := 617) (by decide +kernel)
theorem ki_R_follows : (Cond.instanceMethod ({ cls := "BridgeClientsModel", name := "follows", desc := "(II)I" } : MethodName)) ∈ lw_tbl := List.mem_of_getElem? (i := 618) (by decide +kernel)
theorem kx_R_follows : (Cond.selects "BridgeClientsModel" ({ cls := "BridgeClientsModel", name := "follows", desc := "(II)I" } : MethodName) ({ cls := "BridgeClientsModel", name := "follows", desc := "(II)I" } : MethodName)) ∈ lw_tbl := List.mem_of_getElem? (i := 619) (by decide +kernel)
theorem kc_R_follows : (Cond.code ({ cls := "BridgeClientsModel", name := "follows", desc := "(II)I" } : MethodName) prog_8_method_12_code (4 : Nat) (Option.some FieldType.int)) ∈ lw_tbl := List.mem_of_getElem? (i := 620) (by decide +kernel)
theorem km_law_40 : (Cond.methodLink "BridgeClientsLaw" (40 : Nat) ({ cls := "BridgeClientsModel", name := "init", desc := "(IZI)I" } : MethodName)) ∈ lw_tbl := List.mem_of_getElem? (i := 621) (by decide +kernel)
theorem ki_R_init : (Cond.instanceMethod ({ cls := "BridgeClientsModel", name := "init", desc := "(IZI)I" } : MethodName)) ∈ lw_tbl := List.mem_of_getElem? (i := 622) (by decide +kernel)
theorem kx_R_init : (Cond.selects "BridgeClientsModel" ({ cls := "BridgeClientsModel", name := "init", desc := "(IZI)I" } : MethodName) ({ cls := "BridgeClientsModel", name := "init", desc := "(IZI)I" } : MethodName)) ∈ lw_tbl := List.mem_of_getElem? (i := 623) (by decide +kernel)
theorem kc_R_init : (Cond.code ({ cls := "BridgeClientsModel", name := "init", desc := "(IZI)I" } : MethodName) prog_8_method_17_code (8 : Nat) (Option.some FieldType.int)) ∈ lw_tbl := List.mem_of_getElem? (i := 624) (by decide +kernel)
theorem km_law_44 : (Cond.methodLink "BridgeClientsLaw" (44 : Nat) ({ cls := "BridgeClientsModel", name := "meet", desc := "(III)I" } : MethodName)) ∈ lw_tbl := List.mem_of_getElem? (i := 625) (by decide +kernel)
theorem ki_R_meet : (Cond.instanceMethod ({ cls := "BridgeClientsModel", name := "meet", desc := "(III)I" } : MethodName)) ∈ lw_tbl := List.mem_of_getElem? (i := 626) (by decide +kernel)
theorem kx_R_meet : (Cond.selects "BridgeClientsModel" ({ cls := "BridgeClientsModel", name := "meet", desc := "(III)I" } : MethodName) ({ cls := "BridgeClientsModel", name := "meet", desc := "(III)I" } : MethodName)) ∈ lw_tbl := List.mem_of_getElem? (i := 627) (by decide +kernel)
theorem kc_R_meet : (Cond.code ({ cls := "BridgeClientsModel", name := "meet", desc := "(III)I" } : MethodName) prog_8_method_19_code (8 : Nat) (Option.some FieldType.int)) ∈ lw_tbl := List.mem_of_getElem? (i := 628) (by decide +kernel)
theorem km_R_135 : (Cond.methodLink "BridgeClientsModel" (135 : Nat) ({ cls := "BridgeClientsModel", name := "noChannel", desc := "(I)Z" } : MethodName)) ∈ lw_tbl := List.mem_of_getElem? (i := 629) (by decide +kernel)
theorem ki_R_noChannel : (Cond.instanceMethod ({ cls := "BridgeClientsModel", name := "noChannel", desc := "(I)Z" } : MethodName)) ∈ lw_tbl := List.mem_of_getElem? (i := 631) (by decide +kernel)
theorem kc_R_noChannel : (Cond.code ({ cls := "BridgeClientsModel", name := "noChannel", desc := "(I)Z" } : MethodName) prog_8_method_16_code (2 : Nat) (Option.some FieldType.boolean)) ∈ lw_tbl := List.mem_of_getElem? (i := 632) (by decide +kernel)
theorem km_R_138 : (Cond.methodLink "BridgeClientsModel" (138 : Nat) ({ cls := "BridgeClientsModel", name := "unprovedStep", desc := "(IIII)I" } : MethodName)) ∈ lw_tbl := List.mem_of_getElem? (i := 633) (by decide +kernel)
theorem ki_R_unprovedStep : (Cond.instanceMethod ({ cls := "BridgeClientsModel", name := "unprovedStep", desc := "(IIII)I" } : MethodName)) ∈ lw_tbl := List.mem_of_getElem? (i := 635) (by decide +kernel)
theorem kc_R_unprovedStep : (Cond.code ({ cls := "BridgeClientsModel", name := "unprovedStep", desc := "(IIII)I" } : MethodName) prog_8_method_15_code (6 : Nat) (Option.some FieldType.int)) ∈ lw_tbl := List.mem_of_getElem? (i := 636) (by decide +kernel)
theorem km_R_128 : (Cond.methodLink "BridgeClientsModel" (128 : Nat) ({ cls := "BridgeClientsModel", name := "unproved", desc := "(II)I" } : MethodName)) ∈ lw_tbl := List.mem_of_getElem? (i := 637) (by decide +kernel)
theorem ki_R_unproved : (Cond.instanceMethod ({ cls := "BridgeClientsModel", name := "unproved", desc := "(II)I" } : MethodName)) ∈ lw_tbl := List.mem_of_getElem? (i := 639) (by decide +kernel)
theorem kc_R_unproved : (Cond.code ({ cls := "BridgeClientsModel", name := "unproved", desc := "(II)I" } : MethodName) prog_8_method_13_code (3 : Nat) (Option.some FieldType.int)) ∈ lw_tbl := List.mem_of_getElem? (i := 640) (by decide +kernel)
theorem km_R_124 : (Cond.methodLink "BridgeClientsModel" (124 : Nat) ({ cls := "BridgeClientsModel", name := "follows", desc := "(II)I" } : MethodName)) ∈ lw_tbl := List.mem_of_getElem? (i := 641) (by decide +kernel)
theorem km_R_131 : (Cond.methodLink "BridgeClientsModel" (131 : Nat) ({ cls := "BridgeClientsModel", name := "stepOf", desc := "(III)I" } : MethodName)) ∈ lw_tbl := List.mem_of_getElem? (i := 642) (by decide +kernel)
theorem ki_R_stepOf : (Cond.instanceMethod ({ cls := "BridgeClientsModel", name := "stepOf", desc := "(III)I" } : MethodName)) ∈ lw_tbl := List.mem_of_getElem? (i := 644) (by decide +kernel)
theorem kc_R_stepOf : (Cond.code ({ cls := "BridgeClientsModel", name := "stepOf", desc := "(III)I" } : MethodName) prog_8_method_14_code (4 : Nat) (Option.some FieldType.int)) ∈ lw_tbl := List.mem_of_getElem? (i := 645) (by decide +kernel)
theorem km_R_142 : (Cond.methodLink "BridgeClientsModel" (142 : Nat) ({ cls := "BridgeClientsModel", name := "greatestOf", desc := "(I)I" } : MethodName)) ∈ lw_tbl := List.mem_of_getElem? (i := 646) (by decide +kernel)
theorem ks_R_greatestOf : (Cond.static ({ cls := "BridgeClientsModel", name := "greatestOf", desc := "(I)I" } : MethodName)) ∈ lw_tbl := List.mem_of_getElem? (i := 647) (by decide +kernel)
theorem kc_R_greatestOf : (Cond.code ({ cls := "BridgeClientsModel", name := "greatestOf", desc := "(I)I" } : MethodName) prog_8_method_18_code (1 : Nat) (Option.some FieldType.int)) ∈ lw_tbl := List.mem_of_getElem? (i := 648) (by decide +kernel)
theorem km_law_48 : (Cond.methodLink "BridgeClientsLaw" (48 : Nat) ({ cls := "BridgeClientsModel", name := "agree", desc := "(II)I" } : MethodName)) ∈ lw_tbl := List.mem_of_getElem? (i := 649) (by decide +kernel)
theorem ki_R_agree : (Cond.instanceMethod ({ cls := "BridgeClientsModel", name := "agree", desc := "(II)I" } : MethodName)) ∈ lw_tbl := List.mem_of_getElem? (i := 650) (by decide +kernel)
theorem kx_R_agree : (Cond.selects "BridgeClientsModel" ({ cls := "BridgeClientsModel", name := "agree", desc := "(II)I" } : MethodName) ({ cls := "BridgeClientsModel", name := "agree", desc := "(II)I" } : MethodName)) ∈ lw_tbl := List.mem_of_getElem? (i := 651) (by decide +kernel)
theorem kc_R_agree : (Cond.code ({ cls := "BridgeClientsModel", name := "agree", desc := "(II)I" } : MethodName) prog_8_method_20_code (6 : Nat) (Option.some FieldType.int)) ∈ lw_tbl := List.mem_of_getElem? (i := 652) (by decide +kernel)
theorem km_law_52 : (Cond.methodLink "BridgeClientsLaw" (52 : Nat) ({ cls := "BridgeClientsModel", name := "confirm", desc := "(II)I" } : MethodName)) ∈ lw_tbl := List.mem_of_getElem? (i := 653) (by decide +kernel)
theorem ki_R_confirm : (Cond.instanceMethod ({ cls := "BridgeClientsModel", name := "confirm", desc := "(II)I" } : MethodName)) ∈ lw_tbl := List.mem_of_getElem? (i := 654) (by decide +kernel)
theorem kx_R_confirm : (Cond.selects "BridgeClientsModel" ({ cls := "BridgeClientsModel", name := "confirm", desc := "(II)I" } : MethodName) ({ cls := "BridgeClientsModel", name := "confirm", desc := "(II)I" } : MethodName)) ∈ lw_tbl := List.mem_of_getElem? (i := 655) (by decide +kernel)
theorem kc_R_confirm : (Cond.code ({ cls := "BridgeClientsModel", name := "confirm", desc := "(II)I" } : MethodName) prog_8_method_21_code (6 : Nat) (Option.some FieldType.int)) ∈ lw_tbl := List.mem_of_getElem? (i := 656) (by decide +kernel)
theorem km_law_56 : (Cond.methodLink "BridgeClientsLaw" (56 : Nat) ({ cls := "BridgeClientsModel", name := "close", desc := "(II)I" } : MethodName)) ∈ lw_tbl := List.mem_of_getElem? (i := 657) (by decide +kernel)
theorem ki_R_close : (Cond.instanceMethod ({ cls := "BridgeClientsModel", name := "close", desc := "(II)I" } : MethodName)) ∈ lw_tbl := List.mem_of_getElem? (i := 658) (by decide +kernel)
theorem kx_R_close : (Cond.selects "BridgeClientsModel" ({ cls := "BridgeClientsModel", name := "close", desc := "(II)I" } : MethodName) ({ cls := "BridgeClientsModel", name := "close", desc := "(II)I" } : MethodName)) ∈ lw_tbl := List.mem_of_getElem? (i := 659) (by decide +kernel)
theorem kc_R_close : (Cond.code ({ cls := "BridgeClientsModel", name := "close", desc := "(II)I" } : MethodName) prog_8_method_22_code (4 : Nat) (Option.some FieldType.int)) ∈ lw_tbl := List.mem_of_getElem? (i := 660) (by decide +kernel)
theorem km_law_60 : (Cond.methodLink "BridgeClientsLaw" (60 : Nat) ({ cls := "BridgeClientsModel", name := "shut", desc := "(III)I" } : MethodName)) ∈ lw_tbl := List.mem_of_getElem? (i := 661) (by decide +kernel)
theorem ki_R_shut : (Cond.instanceMethod ({ cls := "BridgeClientsModel", name := "shut", desc := "(III)I" } : MethodName)) ∈ lw_tbl := List.mem_of_getElem? (i := 662) (by decide +kernel)
theorem kx_R_shut : (Cond.selects "BridgeClientsModel" ({ cls := "BridgeClientsModel", name := "shut", desc := "(III)I" } : MethodName) ({ cls := "BridgeClientsModel", name := "shut", desc := "(III)I" } : MethodName)) ∈ lw_tbl := List.mem_of_getElem? (i := 663) (by decide +kernel)
theorem kc_R_shut : (Cond.code ({ cls := "BridgeClientsModel", name := "shut", desc := "(III)I" } : MethodName) prog_8_method_23_code (6 : Nat) (Option.some FieldType.int)) ∈ lw_tbl := List.mem_of_getElem? (i := 664) (by decide +kernel)
theorem km_law_65 : (Cond.methodLink "BridgeClientsLaw" (65 : Nat) ({ cls := "BridgeClientsModel", name := "send", desc := "(IIIIIII)I" } : MethodName)) ∈ lw_tbl := List.mem_of_getElem? (i := 665) (by decide +kernel)
theorem ki_R_send : (Cond.instanceMethod ({ cls := "BridgeClientsModel", name := "send", desc := "(IIIIIII)I" } : MethodName)) ∈ lw_tbl := List.mem_of_getElem? (i := 666) (by decide +kernel)
theorem kx_R_send : (Cond.selects "BridgeClientsModel" ({ cls := "BridgeClientsModel", name := "send", desc := "(IIIIIII)I" } : MethodName) ({ cls := "BridgeClientsModel", name := "send", desc := "(IIIIIII)I" } : MethodName)) ∈ lw_tbl := List.mem_of_getElem? (i := 667) (by decide +kernel)
theorem kc_R_send : (Cond.code ({ cls := "BridgeClientsModel", name := "send", desc := "(IIIIIII)I" } : MethodName) prog_8_method_26_code (10 : Nat) (Option.some FieldType.int)) ∈ lw_tbl := List.mem_of_getElem? (i := 668) (by decide +kernel)
theorem km_R_145 : (Cond.methodLink "BridgeClientsModel" (145 : Nat) ({ cls := "BridgeClientsModel", name := "has", desc := "(III)I" } : MethodName)) ∈ lw_tbl := List.mem_of_getElem? (i := 669) (by decide +kernel)
theorem ki_R_has : (Cond.instanceMethod ({ cls := "BridgeClientsModel", name := "has", desc := "(III)I" } : MethodName)) ∈ lw_tbl := List.mem_of_getElem? (i := 671) (by decide +kernel)
theorem kc_R_has : (Cond.code ({ cls := "BridgeClientsModel", name := "has", desc := "(III)I" } : MethodName) prog_8_method_24_code (5 : Nat) (Option.some FieldType.int)) ∈ lw_tbl := List.mem_of_getElem? (i := 672) (by decide +kernel)
theorem km_R_148 : (Cond.methodLink "BridgeClientsModel" (148 : Nat) ({ cls := "BridgeClientsModel", name := "give", desc := "(IIII)V" } : MethodName)) ∈ lw_tbl := List.mem_of_getElem? (i := 673) (by decide +kernel)
theorem ki_R_give : (Cond.instanceMethod ({ cls := "BridgeClientsModel", name := "give", desc := "(IIII)V" } : MethodName)) ∈ lw_tbl := List.mem_of_getElem? (i := 675) (by decide +kernel)
theorem kc_R_give : (Cond.code ({ cls := "BridgeClientsModel", name := "give", desc := "(IIII)V" } : MethodName) prog_8_method_25_code (6 : Nat) (Option.none : Option FieldType)) ∈ lw_tbl := List.mem_of_getElem? (i := 676) (by decide +kernel)
theorem km_law_69 : (Cond.methodLink "BridgeClientsLaw" (69 : Nat) ({ cls := "BridgeClientsModel", name := "receive", desc := "(II)I" } : MethodName)) ∈ lw_tbl := List.mem_of_getElem? (i := 677) (by decide +kernel)
theorem ki_R_receive : (Cond.instanceMethod ({ cls := "BridgeClientsModel", name := "receive", desc := "(II)I" } : MethodName)) ∈ lw_tbl := List.mem_of_getElem? (i := 678) (by decide +kernel)
theorem kx_R_receive : (Cond.selects "BridgeClientsModel" ({ cls := "BridgeClientsModel", name := "receive", desc := "(II)I" } : MethodName) ({ cls := "BridgeClientsModel", name := "receive", desc := "(II)I" } : MethodName)) ∈ lw_tbl := List.mem_of_getElem? (i := 679) (by decide +kernel)
theorem kc_R_receive : (Cond.code ({ cls := "BridgeClientsModel", name := "receive", desc := "(II)I" } : MethodName) prog_8_method_29_code (7 : Nat) (Option.some FieldType.int)) ∈ lw_tbl := List.mem_of_getElem? (i := 680) (by decide +kernel)
theorem km_R_152 : (Cond.methodLink "BridgeClientsModel" (152 : Nat) ({ cls := "BridgeClientsModel", name := "noMessage", desc := "(I)Z" } : MethodName)) ∈ lw_tbl := List.mem_of_getElem? (i := 681) (by decide +kernel)
theorem ki_R_noMessage : (Cond.instanceMethod ({ cls := "BridgeClientsModel", name := "noMessage", desc := "(I)Z" } : MethodName)) ∈ lw_tbl := List.mem_of_getElem? (i := 683) (by decide +kernel)
theorem kc_R_noMessage : (Cond.code ({ cls := "BridgeClientsModel", name := "noMessage", desc := "(I)Z" } : MethodName) prog_8_method_27_code (2 : Nat) (Option.some FieldType.boolean)) ∈ lw_tbl := List.mem_of_getElem? (i := 684) (by decide +kernel)
theorem km_R_155 : (Cond.methodLink "BridgeClientsModel" (155 : Nat) ({ cls := "BridgeClientsModel", name := "isBehind", desc := "(IZ)Z" } : MethodName)) ∈ lw_tbl := List.mem_of_getElem? (i := 685) (by decide +kernel)
theorem ki_R_isBehind : (Cond.instanceMethod ({ cls := "BridgeClientsModel", name := "isBehind", desc := "(IZ)Z" } : MethodName)) ∈ lw_tbl := List.mem_of_getElem? (i := 687) (by decide +kernel)
theorem kc_R_isBehind : (Cond.code ({ cls := "BridgeClientsModel", name := "isBehind", desc := "(IZ)Z" } : MethodName) prog_8_method_28_code (6 : Nat) (Option.some FieldType.boolean)) ∈ lw_tbl := List.mem_of_getElem? (i := 688) (by decide +kernel)
theorem km_law_73 : (Cond.methodLink "BridgeClientsLaw" (73 : Nat) ({ cls := "BridgeClientsModel", name := "acknowledge", desc := "(II)I" } : MethodName)) ∈ lw_tbl := List.mem_of_getElem? (i := 689) (by decide +kernel)
theorem ki_R_acknowledge : (Cond.instanceMethod ({ cls := "BridgeClientsModel", name := "acknowledge", desc := "(II)I" } : MethodName)) ∈ lw_tbl := List.mem_of_getElem? (i := 690) (by decide +kernel)
theorem kx_R_acknowledge : (Cond.selects "BridgeClientsModel" ({ cls := "BridgeClientsModel", name := "acknowledge", desc := "(II)I" } : MethodName) ({ cls := "BridgeClientsModel", name := "acknowledge", desc := "(II)I" } : MethodName)) ∈ lw_tbl := List.mem_of_getElem? (i := 691) (by decide +kernel)
theorem kc_R_acknowledge : (Cond.code ({ cls := "BridgeClientsModel", name := "acknowledge", desc := "(II)I" } : MethodName) prog_8_method_31_code (4 : Nat) (Option.some FieldType.int)) ∈ lw_tbl := List.mem_of_getElem? (i := 692) (by decide +kernel)
theorem km_R_159 : (Cond.methodLink "BridgeClientsModel" (159 : Nat) ({ cls := "BridgeClientsModel", name := "finish", desc := "(IZ)V" } : MethodName)) ∈ lw_tbl := List.mem_of_getElem? (i := 693) (by decide +kernel)
theorem ki_R_finish : (Cond.instanceMethod ({ cls := "BridgeClientsModel", name := "finish", desc := "(IZ)V" } : MethodName)) ∈ lw_tbl := List.mem_of_getElem? (i := 695) (by decide +kernel)
theorem kc_R_finish : (Cond.code ({ cls := "BridgeClientsModel", name := "finish", desc := "(IZ)V" } : MethodName) prog_8_method_30_code (4 : Nat) (Option.none : Option FieldType)) ∈ lw_tbl := List.mem_of_getElem? (i := 696) (by decide +kernel)
theorem km_law_77 : (Cond.methodLink "BridgeClientsLaw" (77 : Nat) ({ cls := "BridgeClientsModel", name := "timeout", desc := "(II)I" } : MethodName)) ∈ lw_tbl := List.mem_of_getElem? (i := 697) (by decide +kernel)
theorem ki_R_timeout : (Cond.instanceMethod ({ cls := "BridgeClientsModel", name := "timeout", desc := "(II)I" } : MethodName)) ∈ lw_tbl := List.mem_of_getElem? (i := 698) (by decide +kernel)
theorem kx_R_timeout : (Cond.selects "BridgeClientsModel" ({ cls := "BridgeClientsModel", name := "timeout", desc := "(II)I" } : MethodName) ({ cls := "BridgeClientsModel", name := "timeout", desc := "(II)I" } : MethodName)) ∈ lw_tbl := List.mem_of_getElem? (i := 699) (by decide +kernel)
theorem kc_R_timeout : (Cond.code ({ cls := "BridgeClientsModel", name := "timeout", desc := "(II)I" } : MethodName) prog_8_method_32_code (5 : Nat) (Option.some FieldType.int)) ∈ lw_tbl := List.mem_of_getElem? (i := 700) (by decide +kernel)
theorem km_law_81 : (Cond.methodLink "BridgeClientsLaw" (81 : Nat) ({ cls := "BridgeClientsModel", name := "end", desc := "(III)I" } : MethodName)) ∈ lw_tbl := List.mem_of_getElem? (i := 701) (by decide +kernel)
theorem ki_R_end : (Cond.instanceMethod ({ cls := "BridgeClientsModel", name := "end", desc := "(III)I" } : MethodName)) ∈ lw_tbl := List.mem_of_getElem? (i := 702) (by decide +kernel)
theorem kx_R_end : (Cond.selects "BridgeClientsModel" ({ cls := "BridgeClientsModel", name := "end", desc := "(III)I" } : MethodName) ({ cls := "BridgeClientsModel", name := "end", desc := "(III)I" } : MethodName)) ∈ lw_tbl := List.mem_of_getElem? (i := 703) (by decide +kernel)
theorem kc_R_end : (Cond.code ({ cls := "BridgeClientsModel", name := "end", desc := "(III)I" } : MethodName) prog_8_method_33_code (5 : Nat) (Option.some FieldType.int)) ∈ lw_tbl := List.mem_of_getElem? (i := 704) (by decide +kernel)
theorem km_law_85 : (Cond.methodLink "BridgeClientsLaw" (85 : Nat) ({ cls := "BridgeClientsModel", name := "stepAt", desc := "(III)I" } : MethodName)) ∈ lw_tbl := List.mem_of_getElem? (i := 705) (by decide +kernel)
theorem ki_R_stepAt : (Cond.instanceMethod ({ cls := "BridgeClientsModel", name := "stepAt", desc := "(III)I" } : MethodName)) ∈ lw_tbl := List.mem_of_getElem? (i := 706) (by decide +kernel)
theorem kx_R_stepAt : (Cond.selects "BridgeClientsModel" ({ cls := "BridgeClientsModel", name := "stepAt", desc := "(III)I" } : MethodName) ({ cls := "BridgeClientsModel", name := "stepAt", desc := "(III)I" } : MethodName)) ∈ lw_tbl := List.mem_of_getElem? (i := 707) (by decide +kernel)
theorem kc_R_stepAt : (Cond.code ({ cls := "BridgeClientsModel", name := "stepAt", desc := "(III)I" } : MethodName) prog_8_method_34_code (4 : Nat) (Option.some FieldType.int)) ∈ lw_tbl := List.mem_of_getElem? (i := 708) (by decide +kernel)
theorem km_law_89 : (Cond.methodLink "BridgeClientsLaw" (89 : Nat) ({ cls := "BridgeClientsModel", name := "message", desc := "(II)I" } : MethodName)) ∈ lw_tbl := List.mem_of_getElem? (i := 709) (by decide +kernel)
theorem ki_R_message : (Cond.instanceMethod ({ cls := "BridgeClientsModel", name := "message", desc := "(II)I" } : MethodName)) ∈ lw_tbl := List.mem_of_getElem? (i := 710) (by decide +kernel)
theorem kx_R_message : (Cond.selects "BridgeClientsModel" ({ cls := "BridgeClientsModel", name := "message", desc := "(II)I" } : MethodName) ({ cls := "BridgeClientsModel", name := "message", desc := "(II)I" } : MethodName)) ∈ lw_tbl := List.mem_of_getElem? (i := 711) (by decide +kernel)
theorem kc_R_message : (Cond.code ({ cls := "BridgeClientsModel", name := "message", desc := "(II)I" } : MethodName) prog_8_method_35_code (3 : Nat) (Option.some FieldType.int)) ∈ lw_tbl := List.mem_of_getElem? (i := 712) (by decide +kernel)
theorem km_law_93 : (Cond.methodLink "BridgeClientsLaw" (93 : Nat) ({ cls := "BridgeClientsModel", name := "balance", desc := "(III)I" } : MethodName)) ∈ lw_tbl := List.mem_of_getElem? (i := 713) (by decide +kernel)
theorem ki_R_balance : (Cond.instanceMethod ({ cls := "BridgeClientsModel", name := "balance", desc := "(III)I" } : MethodName)) ∈ lw_tbl := List.mem_of_getElem? (i := 714) (by decide +kernel)
theorem kx_R_balance : (Cond.selects "BridgeClientsModel" ({ cls := "BridgeClientsModel", name := "balance", desc := "(III)I" } : MethodName) ({ cls := "BridgeClientsModel", name := "balance", desc := "(III)I" } : MethodName)) ∈ lw_tbl := List.mem_of_getElem? (i := 715) (by decide +kernel)
theorem kc_R_balance : (Cond.code ({ cls := "BridgeClientsModel", name := "balance", desc := "(III)I" } : MethodName) prog_8_method_36_code (6 : Nat) (Option.some FieldType.int)) ∈ lw_tbl := List.mem_of_getElem? (i := 716) (by decide +kernel)
theorem km_law_97 : (Cond.methodLink "BridgeClientsLaw" (97 : Nat) ({ cls := "BridgeClientsModel", name := "vouchers", desc := "(III)I" } : MethodName)) ∈ lw_tbl := List.mem_of_getElem? (i := 717) (by decide +kernel)
theorem ki_R_vouchers : (Cond.instanceMethod ({ cls := "BridgeClientsModel", name := "vouchers", desc := "(III)I" } : MethodName)) ∈ lw_tbl := List.mem_of_getElem? (i := 718) (by decide +kernel)
theorem kx_R_vouchers : (Cond.selects "BridgeClientsModel" ({ cls := "BridgeClientsModel", name := "vouchers", desc := "(III)I" } : MethodName) ({ cls := "BridgeClientsModel", name := "vouchers", desc := "(III)I" } : MethodName)) ∈ lw_tbl := List.mem_of_getElem? (i := 719) (by decide +kernel)
theorem kc_R_vouchers : (Cond.code ({ cls := "BridgeClientsModel", name := "vouchers", desc := "(III)I" } : MethodName) prog_8_method_37_code (4 : Nat) (Option.some FieldType.int)) ∈ lw_tbl := List.mem_of_getElem? (i := 720) (by decide +kernel)
theorem km_law_101 : (Cond.methodLink "BridgeClientsLaw" (101 : Nat) ({ cls := "BridgeClientsModel", name := "sum", desc := "(II)I" } : MethodName)) ∈ lw_tbl := List.mem_of_getElem? (i := 721) (by decide +kernel)
theorem ki_R_sum : (Cond.instanceMethod ({ cls := "BridgeClientsModel", name := "sum", desc := "(II)I" } : MethodName)) ∈ lw_tbl := List.mem_of_getElem? (i := 722) (by decide +kernel)
theorem kx_R_sum : (Cond.selects "BridgeClientsModel" ({ cls := "BridgeClientsModel", name := "sum", desc := "(II)I" } : MethodName) ({ cls := "BridgeClientsModel", name := "sum", desc := "(II)I" } : MethodName)) ∈ lw_tbl := List.mem_of_getElem? (i := 723) (by decide +kernel)
theorem kc_R_sum : (Cond.code ({ cls := "BridgeClientsModel", name := "sum", desc := "(II)I" } : MethodName) prog_8_method_39_code (5 : Nat) (Option.some FieldType.int)) ∈ lw_tbl := List.mem_of_getElem? (i := 724) (by decide +kernel)
theorem km_R_166 : (Cond.methodLink "BridgeClientsModel" (166 : Nat) ({ cls := "BridgeClientsModel", name := "held", desc := "(II)I" } : MethodName)) ∈ lw_tbl := List.mem_of_getElem? (i := 725) (by decide +kernel)
theorem ki_R_held : (Cond.instanceMethod ({ cls := "BridgeClientsModel", name := "held", desc := "(II)I" } : MethodName)) ∈ lw_tbl := List.mem_of_getElem? (i := 727) (by decide +kernel)
theorem kc_R_held : (Cond.code ({ cls := "BridgeClientsModel", name := "held", desc := "(II)I" } : MethodName) prog_8_method_38_code (5 : Nat) (Option.some FieldType.int)) ∈ lw_tbl := List.mem_of_getElem? (i := 728) (by decide +kernel)
theorem km_R_163 : (Cond.methodLink "BridgeClientsModel" (163 : Nat) ({ cls := "BridgeClientsModel", name := "balance", desc := "(III)I" } : MethodName)) ∈ lw_tbl := List.mem_of_getElem? (i := 729) (by decide +kernel)
theorem km_law_105 : (Cond.methodLink "BridgeClientsLaw" (105 : Nat) ({ cls := "BridgeClientsModel", name := "count", desc := "(I)I" } : MethodName)) ∈ lw_tbl := List.mem_of_getElem? (i := 730) (by decide +kernel)
theorem ki_R_count : (Cond.instanceMethod ({ cls := "BridgeClientsModel", name := "count", desc := "(I)I" } : MethodName)) ∈ lw_tbl := List.mem_of_getElem? (i := 731) (by decide +kernel)
theorem kx_R_count : (Cond.selects "BridgeClientsModel" ({ cls := "BridgeClientsModel", name := "count", desc := "(I)I" } : MethodName) ({ cls := "BridgeClientsModel", name := "count", desc := "(I)I" } : MethodName)) ∈ lw_tbl := List.mem_of_getElem? (i := 732) (by decide +kernel)
theorem kc_R_count : (Cond.code ({ cls := "BridgeClientsModel", name := "count", desc := "(I)I" } : MethodName) prog_8_method_40_code (4 : Nat) (Option.some FieldType.int)) ∈ lw_tbl := List.mem_of_getElem? (i := 733) (by decide +kernel)
theorem km_law_110 : (Cond.methodLink "BridgeClientsLaw" (110 : Nat) ({ cls := "BridgeClientsModel", name := "clear", desc := "()I" } : MethodName)) ∈ lw_tbl := List.mem_of_getElem? (i := 734) (by decide +kernel)
theorem ki_R_clear : (Cond.instanceMethod ({ cls := "BridgeClientsModel", name := "clear", desc := "()I" } : MethodName)) ∈ lw_tbl := List.mem_of_getElem? (i := 735) (by decide +kernel)
theorem kx_R_clear : (Cond.selects "BridgeClientsModel" ({ cls := "BridgeClientsModel", name := "clear", desc := "()I" } : MethodName) ({ cls := "BridgeClientsModel", name := "clear", desc := "()I" } : MethodName)) ∈ lw_tbl := List.mem_of_getElem? (i := 736) (by decide +kernel)
theorem kc_R_clear : (Cond.code ({ cls := "BridgeClientsModel", name := "clear", desc := "()I" } : MethodName) prog_8_method_41_code (2 : Nat) (Option.some FieldType.int)) ∈ lw_tbl := List.mem_of_getElem? (i := 737) (by decide +kernel)
theorem kx_B_beginAnew : (Cond.selects "BridgeClients" ⟨"BridgeClients", "beginAnew", "()V"⟩ ⟨"BridgeClients", "beginAnew", "()V"⟩) ∈ lw_tbl := List.mem_of_getElem? (i := 0) (by decide +kernel)
theorem kx_Le_beginAnew : (Cond.selects "BridgeClients$Ledger" ⟨"BridgeClients$Ledger", "beginAnew", "()V"⟩ ⟨"BridgeClients$Ledger", "beginAnew", "()V"⟩) ∈ lw_tbl := List.mem_of_getElem? (i := 1) (by decide +kernel)
theorem kx_Cl_forgetAll : (Cond.selects "BridgeClients$Client" ⟨"BridgeClients$Client", "forgetAll", "()V"⟩ ⟨"BridgeClients$Client", "forgetAll", "()V"⟩) ∈ lw_tbl := List.mem_of_getElem? (i := 2) (by decide +kernel)
theorem kx_En_beginAnew : (Cond.selects "BridgeClients$End" ⟨"BridgeClients$End", "beginAnew", "()V"⟩ ⟨"BridgeClients$End", "beginAnew", "()V"⟩) ∈ lw_tbl := List.mem_of_getElem? (i := 3) (by decide +kernel)
theorem kx_Cl_howFollowed : (Cond.selects "BridgeClients$Client" ⟨"BridgeClients$Client", "howFollowed", "(I)I"⟩ ⟨"BridgeClients$Client", "howFollowed", "(I)I"⟩) ∈ lw_tbl := List.mem_of_getElem? (i := 4) (by decide +kernel)
theorem kx_Cl_isToldMark : (Cond.selects "BridgeClients$Client" ⟨"BridgeClients$Client", "isToldMark", "(II)Z"⟩ ⟨"BridgeClients$Client", "isToldMark", "(II)Z"⟩) ∈ lw_tbl := List.mem_of_getElem? (i := 5) (by decide +kernel)
theorem kx_Cl_add : (Cond.selects "BridgeClients$Client" ⟨"BridgeClients$Client", "add", "(II)V"⟩ ⟨"BridgeClients$Client", "add", "(II)V"⟩) ∈ lw_tbl := List.mem_of_getElem? (i := 6) (by decide +kernel)
theorem kx_En_comeTo : (Cond.selects "BridgeClients$End" ⟨"BridgeClients$End", "comeTo", "(II)V"⟩ ⟨"BridgeClients$End", "comeTo", "(II)V"⟩) ∈ lw_tbl := List.mem_of_getElem? (i := 7) (by decide +kernel)
theorem kx_B_isChannel : (Cond.selects "BridgeClients" ⟨"BridgeClients", "isChannel", "(I)Z"⟩ ⟨"BridgeClients", "isChannel", "(I)Z"⟩) ∈ lw_tbl := List.mem_of_getElem? (i := 8) (by decide +kernel)
theorem kx_B_refusalOfStep : (Cond.selects "BridgeClients" ⟨"BridgeClients", "refusalOfStep", "(IIIII)I"⟩ ⟨"BridgeClients", "refusalOfStep", "(IIIII)I"⟩) ∈ lw_tbl := List.mem_of_getElem? (i := 9) (by decide +kernel)
theorem kx_Cl_refusal : (Cond.selects "BridgeClients$Client" ⟨"BridgeClients$Client", "refusal", "(I)I"⟩ ⟨"BridgeClients$Client", "refusal", "(I)I"⟩) ∈ lw_tbl := List.mem_of_getElem? (i := 10) (by decide +kernel)
theorem kx_En_stepIn : (Cond.selects "BridgeClients$End" ⟨"BridgeClients$End", "stepIn", "(I)I"⟩ ⟨"BridgeClients$End", "stepIn", "(I)I"⟩) ∈ lw_tbl := List.mem_of_getElem? (i := 11) (by decide +kernel)
theorem kx_B_purse : (Cond.selects "BridgeClients" ⟨"BridgeClients", "purse", "(III)[I"⟩ ⟨"BridgeClients", "purse", "(III)[I"⟩) ∈ lw_tbl := List.mem_of_getElem? (i := 12) (by decide +kernel)
theorem kx_B_takeIn : (Cond.selects "BridgeClients" ⟨"BridgeClients", "takeIn", "(IIIII)V"⟩ ⟨"BridgeClients", "takeIn", "(IIIII)V"⟩) ∈ lw_tbl := List.mem_of_getElem? (i := 13) (by decide +kernel)
theorem kx_B_write : (Cond.selects "BridgeClients" ⟨"BridgeClients", "write", "(IIIIIII)V"⟩ ⟨"BridgeClients", "write", "(IIIIIII)V"⟩) ∈ lw_tbl := List.mem_of_getElem? (i := 14) (by decide +kernel)
theorem kx_Me_beginToStand : (Cond.selects "BridgeClients$Message" ⟨"BridgeClients$Message", "beginToStand", "(I)V"⟩ ⟨"BridgeClients$Message", "beginToStand", "(I)V"⟩) ∈ lw_tbl := List.mem_of_getElem? (i := 15) (by decide +kernel)
theorem kx_B_isMessage : (Cond.selects "BridgeClients" ⟨"BridgeClients", "isMessage", "(I)Z"⟩ ⟨"BridgeClients", "isMessage", "(I)Z"⟩) ∈ lw_tbl := List.mem_of_getElem? (i := 16) (by decide +kernel)
theorem kx_Me_standsIn : (Cond.selects "BridgeClients$Message" ⟨"BridgeClients$Message", "standsIn", "(I)Z"⟩ ⟨"BridgeClients$Message", "standsIn", "(I)Z"⟩) ∈ lw_tbl := List.mem_of_getElem? (i := 17) (by decide +kernel)
theorem kx_B_areAllBeforeReceived : (Cond.selects "BridgeClients" ⟨"BridgeClients", "areAllBeforeReceived", "(I)Z"⟩ ⟨"BridgeClients", "areAllBeforeReceived", "(I)Z"⟩) ∈ lw_tbl := List.mem_of_getElem? (i := 18) (by decide +kernel)
theorem kx_Me_isOfSameEnd : (Cond.selects "BridgeClients$Message" ⟨"BridgeClients$Message", "isOfSameEnd", "(LBridgeClients$Message;)Z"⟩ ⟨"BridgeClients$Message", "isOfSameEnd", "(LBridgeClients$Message;)Z"⟩) ∈ lw_tbl := List.mem_of_getElem? (i := 19) (by decide +kernel)
theorem kx_B_giveOut : (Cond.selects "BridgeClients" ⟨"BridgeClients", "giveOut", "(IIIII)V"⟩ ⟨"BridgeClients", "giveOut", "(IIIII)V"⟩) ∈ lw_tbl := List.mem_of_getElem? (i := 20) (by decide +kernel)
theorem kx_B_refusalAtSender : (Cond.selects "BridgeClients" ⟨"BridgeClients", "refusalAtSender", "(LBridgeClients$Message;I)I"⟩ ⟨"BridgeClients", "refusalAtSender", "(LBridgeClients$Message;I)I"⟩) ∈ lw_tbl := List.mem_of_getElem? (i := 21) (by decide +kernel)
theorem kx_Me_isReceivedIn : (Cond.selects "BridgeClients$Message" ⟨"BridgeClients$Message", "isReceivedIn", "(I)Z"⟩ ⟨"BridgeClients$Message", "isReceivedIn", "(I)Z"⟩) ∈ lw_tbl := List.mem_of_getElem? (i := 22) (by decide +kernel)
theorem kx_B_standsOneBefore : (Cond.selects "BridgeClients" ⟨"BridgeClients", "standsOneBefore", "(I)Z"⟩ ⟨"BridgeClients", "standsOneBefore", "(I)Z"⟩) ∈ lw_tbl := List.mem_of_getElem? (i := 23) (by decide +kernel)
theorem kx_B_finish : (Cond.selects "BridgeClients" ⟨"BridgeClients", "finish", "(LBridgeClients$Message;)V"⟩ ⟨"BridgeClients", "finish", "(LBridgeClients$Message;)V"⟩) ∈ lw_tbl := List.mem_of_getElem? (i := 24) (by decide +kernel)
theorem kx_B_giveBack : (Cond.selects "BridgeClients" ⟨"BridgeClients", "giveBack", "(LBridgeClients$Message;)V"⟩ ⟨"BridgeClients", "giveBack", "(LBridgeClients$Message;)V"⟩) ∈ lw_tbl := List.mem_of_getElem? (i := 25) (by decide +kernel)
theorem kx_B_allEscrows : (Cond.selects "BridgeClients" ⟨"BridgeClients", "allEscrows", "(I)I"⟩ ⟨"BridgeClients", "allEscrows", "(I)I"⟩) ∈ lw_tbl := List.mem_of_getElem? (i := 26) (by decide +kernel)
theorem kx_B_allVouchers : (Cond.selects "BridgeClients" ⟨"BridgeClients", "allVouchers", "(I)I"⟩ ⟨"BridgeClients", "allVouchers", "(I)I"⟩) ∈ lw_tbl := List.mem_of_getElem? (i := 27) (by decide +kernel)
theorem kx_B_onTheWay : (Cond.selects "BridgeClients" ⟨"BridgeClients", "onTheWay", "(I)I"⟩ ⟨"BridgeClients", "onTheWay", "(I)I"⟩) ∈ lw_tbl := List.mem_of_getElem? (i := 28) (by decide +kernel)
theorem kx_B_howManyStand : (Cond.selects "BridgeClients" ⟨"BridgeClients", "howManyStand", "()I"⟩ ⟨"BridgeClients", "howManyStand", "()I"⟩) ∈ lw_tbl := List.mem_of_getElem? (i := 29) (by decide +kernel)
theorem kx_R_begin : (Cond.selects "BridgeClientsModel" ⟨"BridgeClientsModel", "begin", "()V"⟩ ⟨"BridgeClientsModel", "begin", "()V"⟩) ∈ lw_tbl := List.mem_of_getElem? (i := 30) (by decide +kernel)
theorem kx_R_forget : (Cond.selects "BridgeClientsModel" ⟨"BridgeClientsModel", "forget", "(I)V"⟩ ⟨"BridgeClientsModel", "forget", "(I)V"⟩) ∈ lw_tbl := List.mem_of_getElem? (i := 31) (by decide +kernel)
theorem kx_R_followedMany : (Cond.selects "BridgeClientsModel" ⟨"BridgeClientsModel", "followedMany", "(I)I"⟩ ⟨"BridgeClientsModel", "followedMany", "(I)I"⟩) ∈ lw_tbl := List.mem_of_getElem? (i := 32) (by decide +kernel)
theorem kx_R_highest : (Cond.selects "BridgeClientsModel" ⟨"BridgeClientsModel", "highest", "(I)I"⟩ ⟨"BridgeClientsModel", "highest", "(I)I"⟩) ∈ lw_tbl := List.mem_of_getElem? (i := 33) (by decide +kernel)
theorem kx_R_noChannel : (Cond.selects "BridgeClientsModel" ⟨"BridgeClientsModel", "noChannel", "(I)Z"⟩ ⟨"BridgeClientsModel", "noChannel", "(I)Z"⟩) ∈ lw_tbl := List.mem_of_getElem? (i := 34) (by decide +kernel)
theorem kx_R_unprovedStep : (Cond.selects "BridgeClientsModel" ⟨"BridgeClientsModel", "unprovedStep", "(IIII)I"⟩ ⟨"BridgeClientsModel", "unprovedStep", "(IIII)I"⟩) ∈ lw_tbl := List.mem_of_getElem? (i := 35) (by decide +kernel)
theorem kx_R_unproved : (Cond.selects "BridgeClientsModel" ⟨"BridgeClientsModel", "unproved", "(II)I"⟩ ⟨"BridgeClientsModel", "unproved", "(II)I"⟩) ∈ lw_tbl := List.mem_of_getElem? (i := 36) (by decide +kernel)
theorem kx_R_stepOf : (Cond.selects "BridgeClientsModel" ⟨"BridgeClientsModel", "stepOf", "(III)I"⟩ ⟨"BridgeClientsModel", "stepOf", "(III)I"⟩) ∈ lw_tbl := List.mem_of_getElem? (i := 37) (by decide +kernel)
theorem kx_R_has : (Cond.selects "BridgeClientsModel" ⟨"BridgeClientsModel", "has", "(III)I"⟩ ⟨"BridgeClientsModel", "has", "(III)I"⟩) ∈ lw_tbl := List.mem_of_getElem? (i := 38) (by decide +kernel)
theorem kx_R_give : (Cond.selects "BridgeClientsModel" ⟨"BridgeClientsModel", "give", "(IIII)V"⟩ ⟨"BridgeClientsModel", "give", "(IIII)V"⟩) ∈ lw_tbl := List.mem_of_getElem? (i := 39) (by decide +kernel)
theorem kx_R_noMessage : (Cond.selects "BridgeClientsModel" ⟨"BridgeClientsModel", "noMessage", "(I)Z"⟩ ⟨"BridgeClientsModel", "noMessage", "(I)Z"⟩) ∈ lw_tbl := List.mem_of_getElem? (i := 40) (by decide +kernel)
theorem kx_R_isBehind : (Cond.selects "BridgeClientsModel" ⟨"BridgeClientsModel", "isBehind", "(IZ)Z"⟩ ⟨"BridgeClientsModel", "isBehind", "(IZ)Z"⟩) ∈ lw_tbl := List.mem_of_getElem? (i := 41) (by decide +kernel)
theorem kx_R_finish : (Cond.selects "BridgeClientsModel" ⟨"BridgeClientsModel", "finish", "(IZ)V"⟩ ⟨"BridgeClientsModel", "finish", "(IZ)V"⟩) ∈ lw_tbl := List.mem_of_getElem? (i := 42) (by decide +kernel)
theorem kx_R_held : (Cond.selects "BridgeClientsModel" ⟨"BridgeClientsModel", "held", "(II)I"⟩ ⟨"BridgeClientsModel", "held", "(II)I"⟩) ∈ lw_tbl := List.mem_of_getElem? (i := 43) (by decide +kernel)
def dc (cc : ByteArray) (pc : Nat) (i : Instr) (n pc2 : Nat) : Prop := decode cc pc = .ok (i, n) ∧ pc + n = pc2
