section
-- ===== PART A: goes FIRST, ahead of the names: the tables' words, and 'selects' of the private methods out of them =====
/-- a private method of a class that the tables say can be made, by its rows of tables_1 -/
def lw_okq (q : MethodName × Nat) : Prop := (q.1.cls ≠ "java/lang/invoke/MethodHandle" ∧ q.1.cls ≠ "java/lang/invoke/VarHandle") ∧ Cond.instantiable q.1.cls q.2 ∈ tables_1 ∧ Cond.privateMethod q.1 ∈ tables_1 ∧ Cond.instanceMethod q.1 ∈ tables_1
theorem lw_p0 : lw_okq (⟨"FlowTalk$End", "enter", "(I)V"⟩, 18) := ⟨⟨by decide +kernel, by decide +kernel⟩, List.mem_of_getElem? (i := 90) (by decide +kernel), List.mem_of_getElem? (i := 296) (by decide +kernel), List.mem_of_getElem? (i := 297) (by decide +kernel)⟩
theorem lw_p1 : lw_okq (⟨"FlowTalk$Receipts", "markBehind", "(I)I"⟩, 6) := ⟨⟨by decide +kernel, by decide +kernel⟩, List.mem_of_getElem? (i := 97) (by decide +kernel), List.mem_of_getElem? (i := 474) (by decide +kernel), List.mem_of_getElem? (i := 475) (by decide +kernel)⟩
theorem lw_p2 : lw_okq (⟨"FlowTalk$Datagrams", "row", "(I)I"⟩, 5) := ⟨⟨by decide +kernel, by decide +kernel⟩, List.mem_of_getElem? (i := 169) (by decide +kernel), List.mem_of_getElem? (i := 496) (by decide +kernel), List.mem_of_getElem? (i := 497) (by decide +kernel)⟩
theorem lw_p3 : lw_okq (⟨"FlowTalk$End", "abort", "(I)V"⟩, 18) := ⟨⟨by decide +kernel, by decide +kernel⟩, List.mem_of_getElem? (i := 90) (by decide +kernel), List.mem_of_getElem? (i := 540) (by decide +kernel), List.mem_of_getElem? (i := 541) (by decide +kernel)⟩
theorem lw_p4 : lw_okq (⟨"FlowTalk$End", "reject", "(LFlowTalk$Packet;I)V"⟩, 18) := ⟨⟨by decide +kernel, by decide +kernel⟩, List.mem_of_getElem? (i := 90) (by decide +kernel), List.mem_of_getElem? (i := 623) (by decide +kernel), List.mem_of_getElem? (i := 624) (by decide +kernel)⟩
theorem lw_p5 : lw_okq (⟨"FlowTalk$End", "comeListening", "(LFlowTalk$Packet;)V"⟩, 18) := ⟨⟨by decide +kernel, by decide +kernel⟩, List.mem_of_getElem? (i := 90) (by decide +kernel), List.mem_of_getElem? (i := 631) (by decide +kernel), List.mem_of_getElem? (i := 632) (by decide +kernel)⟩
theorem lw_p6 : lw_okq (⟨"FlowTalk$Agreements", "hearChange", "(LFlowTalk$Packet;II)V"⟩, 5) := ⟨⟨by decide +kernel, by decide +kernel⟩, List.mem_of_getElem? (i := 195) (by decide +kernel), List.mem_of_getElem? (i := 657) (by decide +kernel), List.mem_of_getElem? (i := 658) (by decide +kernel)⟩
theorem lw_p7 : lw_okq (⟨"FlowTalk$Agreements", "reconciled", "(LFlowTalk$Feature;)I"⟩, 5) := ⟨⟨by decide +kernel, by decide +kernel⟩, List.mem_of_getElem? (i := 195) (by decide +kernel), List.mem_of_getElem? (i := 686) (by decide +kernel), List.mem_of_getElem? (i := 687) (by decide +kernel)⟩
theorem lw_p8 : lw_okq (⟨"FlowTalk$Agreements", "hearConfirm", "(LFlowTalk$Packet;II)Z"⟩, 5) := ⟨⟨by decide +kernel, by decide +kernel⟩, List.mem_of_getElem? (i := 195) (by decide +kernel), List.mem_of_getElem? (i := 694) (by decide +kernel), List.mem_of_getElem? (i := 695) (by decide +kernel)⟩
theorem lw_p9 : lw_okq (⟨"FlowTalk$End", "comeRequesting", "(LFlowTalk$Packet;)V"⟩, 18) := ⟨⟨by decide +kernel, by decide +kernel⟩, List.mem_of_getElem? (i := 90) (by decide +kernel), List.mem_of_getElem? (i := 698) (by decide +kernel), List.mem_of_getElem? (i := 699) (by decide +kernel)⟩
theorem lw_p10 : lw_okq (⟨"FlowTalk$End", "ackFits", "(J)Z"⟩, 18) := ⟨⟨by decide +kernel, by decide +kernel⟩, List.mem_of_getElem? (i := 90) (by decide +kernel), List.mem_of_getElem? (i := 703) (by decide +kernel), List.mem_of_getElem? (i := 704) (by decide +kernel)⟩
theorem lw_p11 : lw_okq (⟨"FlowTalk$End", "comeLive", "(LFlowTalk$Packet;)V"⟩, 18) := ⟨⟨by decide +kernel, by decide +kernel⟩, List.mem_of_getElem? (i := 90) (by decide +kernel), List.mem_of_getElem? (i := 709) (by decide +kernel), List.mem_of_getElem? (i := 710) (by decide +kernel)⟩
theorem lw_p12 : lw_okq (⟨"FlowTalk$End", "sync", "(J)V"⟩, 18) := ⟨⟨by decide +kernel, by decide +kernel⟩, List.mem_of_getElem? (i := 90) (by decide +kernel), List.mem_of_getElem? (i := 718) (by decide +kernel), List.mem_of_getElem? (i := 719) (by decide +kernel)⟩
theorem lw_p13 : lw_okq (⟨"FlowTalk$End", "tell", "(LFlowTalk$Packet;)V"⟩, 18) := ⟨⟨by decide +kernel, by decide +kernel⟩, List.mem_of_getElem? (i := 90) (by decide +kernel), List.mem_of_getElem? (i := 731) (by decide +kernel), List.mem_of_getElem? (i := 732) (by decide +kernel)⟩
theorem lw_p14 : lw_okq (⟨"FlowTalk$End", "tellRow", "(JI)V"⟩, 18) := ⟨⟨by decide +kernel, by decide +kernel⟩, List.mem_of_getElem? (i := 90) (by decide +kernel), List.mem_of_getElem? (i := 735) (by decide +kernel), List.mem_of_getElem? (i := 736) (by decide +kernel)⟩
theorem lw_p15 : lw_okq (⟨"FlowTalk$End", "deliver", "(LFlowTalk$Packet;)V"⟩, 18) := ⟨⟨by decide +kernel, by decide +kernel⟩, List.mem_of_getElem? (i := 90) (by decide +kernel), List.mem_of_getElem? (i := 760) (by decide +kernel), List.mem_of_getElem? (i := 761) (by decide +kernel)⟩
def lw_privs_1 : List (MethodName × Nat) := [(⟨"FlowTalk$End", "enter", "(I)V"⟩, 18), (⟨"FlowTalk$Receipts", "markBehind", "(I)I"⟩, 6), (⟨"FlowTalk$Datagrams", "row", "(I)I"⟩, 5), (⟨"FlowTalk$End", "abort", "(I)V"⟩, 18), (⟨"FlowTalk$End", "reject", "(LFlowTalk$Packet;I)V"⟩, 18), (⟨"FlowTalk$End", "comeListening", "(LFlowTalk$Packet;)V"⟩, 18), (⟨"FlowTalk$Agreements", "hearChange", "(LFlowTalk$Packet;II)V"⟩, 5), (⟨"FlowTalk$Agreements", "reconciled", "(LFlowTalk$Feature;)I"⟩, 5), (⟨"FlowTalk$Agreements", "hearConfirm", "(LFlowTalk$Packet;II)Z"⟩, 5), (⟨"FlowTalk$End", "comeRequesting", "(LFlowTalk$Packet;)V"⟩, 18), (⟨"FlowTalk$End", "ackFits", "(J)Z"⟩, 18), (⟨"FlowTalk$End", "comeLive", "(LFlowTalk$Packet;)V"⟩, 18), (⟨"FlowTalk$End", "sync", "(J)V"⟩, 18), (⟨"FlowTalk$End", "tell", "(LFlowTalk$Packet;)V"⟩, 18), (⟨"FlowTalk$End", "tellRow", "(JI)V"⟩, 18), (⟨"FlowTalk$End", "deliver", "(LFlowTalk$Packet;)V"⟩, 18)]
theorem lw_r1 : ∀ q ∈ lw_privs_1, lw_okq q := List.forall_mem_cons.mpr ⟨lw_p0, List.forall_mem_cons.mpr ⟨lw_p1, List.forall_mem_cons.mpr ⟨lw_p2, List.forall_mem_cons.mpr ⟨lw_p3, List.forall_mem_cons.mpr ⟨lw_p4, List.forall_mem_cons.mpr ⟨lw_p5, List.forall_mem_cons.mpr ⟨lw_p6, List.forall_mem_cons.mpr ⟨lw_p7, List.forall_mem_cons.mpr ⟨lw_p8, List.forall_mem_cons.mpr ⟨lw_p9, List.forall_mem_cons.mpr ⟨lw_p10, List.forall_mem_cons.mpr ⟨lw_p11, List.forall_mem_cons.mpr ⟨lw_p12, List.forall_mem_cons.mpr ⟨lw_p13, List.forall_mem_cons.mpr ⟨lw_p14, List.forall_mem_cons.mpr ⟨lw_p15, fun _ h => absurd h List.not_mem_nil⟩⟩⟩⟩⟩⟩⟩⟩⟩⟩⟩⟩⟩⟩⟩⟩
theorem lw_p16 : lw_okq (⟨"FlowTalk$End", "answer", "(ILFlowTalk$Packet;)V"⟩, 18) := ⟨⟨by decide +kernel, by decide +kernel⟩, List.mem_of_getElem? (i := 90) (by decide +kernel), List.mem_of_getElem? (i := 766) (by decide +kernel), List.mem_of_getElem? (i := 767) (by decide +kernel)⟩
theorem lw_p17 : lw_okq (⟨"FlowTalk$End", "passState", "()V"⟩, 18) := ⟨⟨by decide +kernel, by decide +kernel⟩, List.mem_of_getElem? (i := 90) (by decide +kernel), List.mem_of_getElem? (i := 774) (by decide +kernel), List.mem_of_getElem? (i := 775) (by decide +kernel)⟩
theorem lw_p18 : lw_okq (⟨"FlowTalk$End", "sayAgain", "(I)V"⟩, 18) := ⟨⟨by decide +kernel, by decide +kernel⟩, List.mem_of_getElem? (i := 90) (by decide +kernel), List.mem_of_getElem? (i := 778) (by decide +kernel), List.mem_of_getElem? (i := 779) (by decide +kernel)⟩
theorem lw_p19 : lw_okq (⟨"FlowTalk$End", "sendDatagrams", "()V"⟩, 18) := ⟨⟨by decide +kernel, by decide +kernel⟩, List.mem_of_getElem? (i := 90) (by decide +kernel), List.mem_of_getElem? (i := 786) (by decide +kernel), List.mem_of_getElem? (i := 787) (by decide +kernel)⟩
theorem lw_p20 : lw_okq (⟨"FlowTalk$End", "mustSpeak", "()Z"⟩, 18) := ⟨⟨by decide +kernel, by decide +kernel⟩, List.mem_of_getElem? (i := 90) (by decide +kernel), List.mem_of_getElem? (i := 791) (by decide +kernel), List.mem_of_getElem? (i := 792) (by decide +kernel)⟩
theorem lw_p21 : lw_okq (⟨"FlowTalk", "feedOne", "(I)V"⟩, 4) := ⟨⟨by decide +kernel, by decide +kernel⟩, List.mem_of_getElem? (i := 17) (by decide +kernel), List.mem_of_getElem? (i := 832) (by decide +kernel), List.mem_of_getElem? (i := 833) (by decide +kernel)⟩
theorem lw_p22 : lw_okq (⟨"FlowTalkModel", "atFirst", "(I)V"⟩, 65) := ⟨⟨by decide +kernel, by decide +kernel⟩, List.mem_of_getElem? (i := 900) (by decide +kernel), List.mem_of_getElem? (i := 910) (by decide +kernel), List.mem_of_getElem? (i := 911) (by decide +kernel)⟩
theorem lw_p23 : lw_okq (⟨"FlowTalkModel", "become", "(II)V"⟩, 65) := ⟨⟨by decide +kernel, by decide +kernel⟩, List.mem_of_getElem? (i := 900) (by decide +kernel), List.mem_of_getElem? (i := 1118) (by decide +kernel), List.mem_of_getElem? (i := 1119) (by decide +kernel)⟩
theorem lw_p24 : lw_okq (⟨"FlowTalkModel", "sendPlain", "(II)V"⟩, 65) := ⟨⟨by decide +kernel, by decide +kernel⟩, List.mem_of_getElem? (i := 900) (by decide +kernel), List.mem_of_getElem? (i := 1122) (by decide +kernel), List.mem_of_getElem? (i := 1123) (by decide +kernel)⟩
theorem lw_p25 : lw_okq (⟨"FlowTalkModel", "send", "(IIIJ)V"⟩, 65) := ⟨⟨by decide +kernel, by decide +kernel⟩, List.mem_of_getElem? (i := 900) (by decide +kernel), List.mem_of_getElem? (i := 1126) (by decide +kernel), List.mem_of_getElem? (i := 1127) (by decide +kernel)⟩
theorem lw_p26 : lw_okq (⟨"FlowTalkModel", "pipe", "(I)I"⟩, 65) := ⟨⟨by decide +kernel, by decide +kernel⟩, List.mem_of_getElem? (i := 900) (by decide +kernel), List.mem_of_getElem? (i := 1130) (by decide +kernel), List.mem_of_getElem? (i := 1131) (by decide +kernel)⟩
theorem lw_p27 : lw_okq (⟨"FlowTalkModel", "isOwn", "(IJ)Z"⟩, 65) := ⟨⟨by decide +kernel, by decide +kernel⟩, List.mem_of_getElem? (i := 900) (by decide +kernel), List.mem_of_getElem? (i := 1134) (by decide +kernel), List.mem_of_getElem? (i := 1135) (by decide +kernel)⟩
theorem lw_p28 : lw_okq (⟨"FlowTalkModel", "byteOf", "(I)V"⟩, 65) := ⟨⟨by decide +kernel, by decide +kernel⟩, List.mem_of_getElem? (i := 900) (by decide +kernel), List.mem_of_getElem? (i := 1152) (by decide +kernel), List.mem_of_getElem? (i := 1153) (by decide +kernel)⟩
theorem lw_p29 : lw_okq (⟨"FlowTalkModel", "six", "(J)V"⟩, 65) := ⟨⟨by decide +kernel, by decide +kernel⟩, List.mem_of_getElem? (i := 900) (by decide +kernel), List.mem_of_getElem? (i := 1156) (by decide +kernel), List.mem_of_getElem? (i := 1157) (by decide +kernel)⟩
theorem lw_p30 : lw_okq (⟨"FlowTalkModel", "putConfirms", "(I)Z"⟩, 65) := ⟨⟨by decide +kernel, by decide +kernel⟩, List.mem_of_getElem? (i := 900) (by decide +kernel), List.mem_of_getElem? (i := 1163) (by decide +kernel), List.mem_of_getElem? (i := 1164) (by decide +kernel)⟩
theorem lw_p31 : lw_okq (⟨"FlowTalkModel", "fits", "(I)Z"⟩, 65) := ⟨⟨by decide +kernel, by decide +kernel⟩, List.mem_of_getElem? (i := 900) (by decide +kernel), List.mem_of_getElem? (i := 1167) (by decide +kernel), List.mem_of_getElem? (i := 1168) (by decide +kernel)⟩
def lw_privs_2 : List (MethodName × Nat) := [(⟨"FlowTalk$End", "answer", "(ILFlowTalk$Packet;)V"⟩, 18), (⟨"FlowTalk$End", "passState", "()V"⟩, 18), (⟨"FlowTalk$End", "sayAgain", "(I)V"⟩, 18), (⟨"FlowTalk$End", "sendDatagrams", "()V"⟩, 18), (⟨"FlowTalk$End", "mustSpeak", "()Z"⟩, 18), (⟨"FlowTalk", "feedOne", "(I)V"⟩, 4), (⟨"FlowTalkModel", "atFirst", "(I)V"⟩, 65), (⟨"FlowTalkModel", "become", "(II)V"⟩, 65), (⟨"FlowTalkModel", "sendPlain", "(II)V"⟩, 65), (⟨"FlowTalkModel", "send", "(IIIJ)V"⟩, 65), (⟨"FlowTalkModel", "pipe", "(I)I"⟩, 65), (⟨"FlowTalkModel", "isOwn", "(IJ)Z"⟩, 65), (⟨"FlowTalkModel", "byteOf", "(I)V"⟩, 65), (⟨"FlowTalkModel", "six", "(J)V"⟩, 65), (⟨"FlowTalkModel", "putConfirms", "(I)Z"⟩, 65), (⟨"FlowTalkModel", "fits", "(I)Z"⟩, 65)]
theorem lw_r2 : ∀ q ∈ lw_privs_2, lw_okq q := List.forall_mem_cons.mpr ⟨lw_p16, List.forall_mem_cons.mpr ⟨lw_p17, List.forall_mem_cons.mpr ⟨lw_p18, List.forall_mem_cons.mpr ⟨lw_p19, List.forall_mem_cons.mpr ⟨lw_p20, List.forall_mem_cons.mpr ⟨lw_p21, List.forall_mem_cons.mpr ⟨lw_p22, List.forall_mem_cons.mpr ⟨lw_p23, List.forall_mem_cons.mpr ⟨lw_p24, List.forall_mem_cons.mpr ⟨lw_p25, List.forall_mem_cons.mpr ⟨lw_p26, List.forall_mem_cons.mpr ⟨lw_p27, List.forall_mem_cons.mpr ⟨lw_p28, List.forall_mem_cons.mpr ⟨lw_p29, List.forall_mem_cons.mpr ⟨lw_p30, List.forall_mem_cons.mpr ⟨lw_p31, fun _ h => absurd h List.not_mem_nil⟩⟩⟩⟩⟩⟩⟩⟩⟩⟩⟩⟩⟩⟩⟩⟩
theorem lw_p32 : lw_okq (⟨"FlowTalkModel", "putChanges", "(I)Z"⟩, 65) := ⟨⟨by decide +kernel, by decide +kernel⟩, List.mem_of_getElem? (i := 900) (by decide +kernel), List.mem_of_getElem? (i := 1171) (by decide +kernel), List.mem_of_getElem? (i := 1172) (by decide +kernel)⟩
theorem lw_p33 : lw_okq (⟨"FlowTalkModel", "putRow", "(IJ)V"⟩, 65) := ⟨⟨by decide +kernel, by decide +kernel⟩, List.mem_of_getElem? (i := 900) (by decide +kernel), List.mem_of_getElem? (i := 1175) (by decide +kernel), List.mem_of_getElem? (i := 1176) (by decide +kernel)⟩
theorem lw_p34 : lw_okq (⟨"FlowTalkModel", "inRow", "(IJ)Z"⟩, 65) := ⟨⟨by decide +kernel, by decide +kernel⟩, List.mem_of_getElem? (i := 900) (by decide +kernel), List.mem_of_getElem? (i := 1179) (by decide +kernel), List.mem_of_getElem? (i := 1180) (by decide +kernel)⟩
theorem lw_p35 : lw_okq (⟨"FlowTalkModel", "shift", "(I)V"⟩, 65) := ⟨⟨by decide +kernel, by decide +kernel⟩, List.mem_of_getElem? (i := 900) (by decide +kernel), List.mem_of_getElem? (i := 1184) (by decide +kernel), List.mem_of_getElem? (i := 1185) (by decide +kernel)⟩
theorem lw_p36 : lw_okq (⟨"FlowTalkModel", "reset", "(II)V"⟩, 65) := ⟨⟨by decide +kernel, by decide +kernel⟩, List.mem_of_getElem? (i := 900) (by decide +kernel), List.mem_of_getElem? (i := 1204) (by decide +kernel), List.mem_of_getElem? (i := 1205) (by decide +kernel)⟩
theorem lw_p37 : lw_okq (⟨"FlowTalkModel", "isList", "(I)Z"⟩, 65) := ⟨⟨by decide +kernel, by decide +kernel⟩, List.mem_of_getElem? (i := 900) (by decide +kernel), List.mem_of_getElem? (i := 1220) (by decide +kernel), List.mem_of_getElem? (i := 1221) (by decide +kernel)⟩
theorem lw_p38 : lw_okq (⟨"FlowTalkModel", "changes", "(I)I"⟩, 65) := ⟨⟨by decide +kernel, by decide +kernel⟩, List.mem_of_getElem? (i := 900) (by decide +kernel), List.mem_of_getElem? (i := 1229) (by decide +kernel), List.mem_of_getElem? (i := 1230) (by decide +kernel)⟩
theorem lw_p39 : lw_okq (⟨"FlowTalkModel", "one", "()V"⟩, 65) := ⟨⟨by decide +kernel, by decide +kernel⟩, List.mem_of_getElem? (i := 900) (by decide +kernel), List.mem_of_getElem? (i := 1238) (by decide +kernel), List.mem_of_getElem? (i := 1239) (by decide +kernel)⟩
theorem lw_p40 : lw_okq (⟨"FlowTalkModel", "drop", "(I)V"⟩, 65) := ⟨⟨by decide +kernel, by decide +kernel⟩, List.mem_of_getElem? (i := 900) (by decide +kernel), List.mem_of_getElem? (i := 1242) (by decide +kernel), List.mem_of_getElem? (i := 1243) (by decide +kernel)⟩
theorem lw_p41 : lw_okq (⟨"FlowTalkModel", "take", "(I)V"⟩, 65) := ⟨⟨by decide +kernel, by decide +kernel⟩, List.mem_of_getElem? (i := 900) (by decide +kernel), List.mem_of_getElem? (i := 1246) (by decide +kernel), List.mem_of_getElem? (i := 1247) (by decide +kernel)⟩
theorem lw_p42 : lw_okq (⟨"FlowTalkModel", "isRight", "()Z"⟩, 65) := ⟨⟨by decide +kernel, by decide +kernel⟩, List.mem_of_getElem? (i := 900) (by decide +kernel), List.mem_of_getElem? (i := 1250) (by decide +kernel), List.mem_of_getElem? (i := 1251) (by decide +kernel)⟩
theorem lw_p43 : lw_okq (⟨"FlowTalkModel", "headOf", "(I)I"⟩, 65) := ⟨⟨by decide +kernel, by decide +kernel⟩, List.mem_of_getElem? (i := 900) (by decide +kernel), List.mem_of_getElem? (i := 1254) (by decide +kernel), List.mem_of_getElem? (i := 1255) (by decide +kernel)⟩
theorem lw_p44 : lw_okq (⟨"FlowTalkModel", "sixAt", "(I)J"⟩, 65) := ⟨⟨by decide +kernel, by decide +kernel⟩, List.mem_of_getElem? (i := 900) (by decide +kernel), List.mem_of_getElem? (i := 1258) (by decide +kernel), List.mem_of_getElem? (i := 1259) (by decide +kernel)⟩
theorem lw_p45 : lw_okq (⟨"FlowTalkModel", "meet", "(IJ)V"⟩, 65) := ⟨⟨by decide +kernel, by decide +kernel⟩, List.mem_of_getElem? (i := 900) (by decide +kernel), List.mem_of_getElem? (i := 1262) (by decide +kernel), List.mem_of_getElem? (i := 1263) (by decide +kernel)⟩
theorem lw_p46 : lw_okq (⟨"FlowTalkModel", "hear", "(IJ)Z"⟩, 65) := ⟨⟨by decide +kernel, by decide +kernel⟩, List.mem_of_getElem? (i := 900) (by decide +kernel), List.mem_of_getElem? (i := 1266) (by decide +kernel), List.mem_of_getElem? (i := 1267) (by decide +kernel)⟩
theorem lw_p47 : lw_okq (⟨"FlowTalkModel", "heard", "(IJ)I"⟩, 65) := ⟨⟨by decide +kernel, by decide +kernel⟩, List.mem_of_getElem? (i := 900) (by decide +kernel), List.mem_of_getElem? (i := 1270) (by decide +kernel), List.mem_of_getElem? (i := 1271) (by decide +kernel)⟩
def lw_privs_3 : List (MethodName × Nat) := [(⟨"FlowTalkModel", "putChanges", "(I)Z"⟩, 65), (⟨"FlowTalkModel", "putRow", "(IJ)V"⟩, 65), (⟨"FlowTalkModel", "inRow", "(IJ)Z"⟩, 65), (⟨"FlowTalkModel", "shift", "(I)V"⟩, 65), (⟨"FlowTalkModel", "reset", "(II)V"⟩, 65), (⟨"FlowTalkModel", "isList", "(I)Z"⟩, 65), (⟨"FlowTalkModel", "changes", "(I)I"⟩, 65), (⟨"FlowTalkModel", "one", "()V"⟩, 65), (⟨"FlowTalkModel", "drop", "(I)V"⟩, 65), (⟨"FlowTalkModel", "take", "(I)V"⟩, 65), (⟨"FlowTalkModel", "isRight", "()Z"⟩, 65), (⟨"FlowTalkModel", "headOf", "(I)I"⟩, 65), (⟨"FlowTalkModel", "sixAt", "(I)J"⟩, 65), (⟨"FlowTalkModel", "meet", "(IJ)V"⟩, 65), (⟨"FlowTalkModel", "hear", "(IJ)Z"⟩, 65), (⟨"FlowTalkModel", "heard", "(IJ)I"⟩, 65)]
theorem lw_r3 : ∀ q ∈ lw_privs_3, lw_okq q := List.forall_mem_cons.mpr ⟨lw_p32, List.forall_mem_cons.mpr ⟨lw_p33, List.forall_mem_cons.mpr ⟨lw_p34, List.forall_mem_cons.mpr ⟨lw_p35, List.forall_mem_cons.mpr ⟨lw_p36, List.forall_mem_cons.mpr ⟨lw_p37, List.forall_mem_cons.mpr ⟨lw_p38, List.forall_mem_cons.mpr ⟨lw_p39, List.forall_mem_cons.mpr ⟨lw_p40, List.forall_mem_cons.mpr ⟨lw_p41, List.forall_mem_cons.mpr ⟨lw_p42, List.forall_mem_cons.mpr ⟨lw_p43, List.forall_mem_cons.mpr ⟨lw_p44, List.forall_mem_cons.mpr ⟨lw_p45, List.forall_mem_cons.mpr ⟨lw_p46, List.forall_mem_cons.mpr ⟨lw_p47, fun _ h => absurd h List.not_mem_nil⟩⟩⟩⟩⟩⟩⟩⟩⟩⟩⟩⟩⟩⟩⟩⟩
theorem lw_p48 : lw_okq (⟨"FlowTalkModel", "isGood", "(III)Z"⟩, 65) := ⟨⟨by decide +kernel, by decide +kernel⟩, List.mem_of_getElem? (i := 900) (by decide +kernel), List.mem_of_getElem? (i := 1274) (by decide +kernel), List.mem_of_getElem? (i := 1275) (by decide +kernel)⟩
theorem lw_p49 : lw_okq (⟨"FlowTalkModel", "hearFeature", "(IJIII)Z"⟩, 65) := ⟨⟨by decide +kernel, by decide +kernel⟩, List.mem_of_getElem? (i := 900) (by decide +kernel), List.mem_of_getElem? (i := 1281) (by decide +kernel), List.mem_of_getElem? (i := 1282) (by decide +kernel)⟩
theorem lw_p50 : lw_okq (⟨"FlowTalkModel", "confirm", "(IIIZI)V"⟩, 65) := ⟨⟨by decide +kernel, by decide +kernel⟩, List.mem_of_getElem? (i := 900) (by decide +kernel), List.mem_of_getElem? (i := 1285) (by decide +kernel), List.mem_of_getElem? (i := 1286) (by decide +kernel)⟩
theorem lw_p51 : lw_okq (⟨"FlowTalkModel", "reconciled", "(II)I"⟩, 65) := ⟨⟨by decide +kernel, by decide +kernel⟩, List.mem_of_getElem? (i := 900) (by decide +kernel), List.mem_of_getElem? (i := 1289) (by decide +kernel), List.mem_of_getElem? (i := 1290) (by decide +kernel)⟩
theorem lw_p52 : lw_okq (⟨"FlowTalkModel", "hasTold", "(I)Z"⟩, 65) := ⟨⟨by decide +kernel, by decide +kernel⟩, List.mem_of_getElem? (i := 900) (by decide +kernel), List.mem_of_getElem? (i := 1293) (by decide +kernel), List.mem_of_getElem? (i := 1294) (by decide +kernel)⟩
theorem lw_p53 : lw_okq (⟨"FlowTalkModel", "hasOwn", "(II)Z"⟩, 65) := ⟨⟨by decide +kernel, by decide +kernel⟩, List.mem_of_getElem? (i := 900) (by decide +kernel), List.mem_of_getElem? (i := 1297) (by decide +kernel), List.mem_of_getElem? (i := 1298) (by decide +kernel)⟩
theorem lw_p54 : lw_okq (⟨"FlowTalkModel", "asking", "(IIJJ)V"⟩, 65) := ⟨⟨by decide +kernel, by decide +kernel⟩, List.mem_of_getElem? (i := 900) (by decide +kernel), List.mem_of_getElem? (i := 1301) (by decide +kernel), List.mem_of_getElem? (i := 1302) (by decide +kernel)⟩
theorem lw_p55 : lw_okq (⟨"FlowTalkModel", "fitsAck", "(IJ)Z"⟩, 65) := ⟨⟨by decide +kernel, by decide +kernel⟩, List.mem_of_getElem? (i := 900) (by decide +kernel), List.mem_of_getElem? (i := 1305) (by decide +kernel), List.mem_of_getElem? (i := 1306) (by decide +kernel)⟩
theorem lw_p56 : lw_okq (⟨"FlowTalkModel", "running", "(IIJJ)V"⟩, 65) := ⟨⟨by decide +kernel, by decide +kernel⟩, List.mem_of_getElem? (i := 900) (by decide +kernel), List.mem_of_getElem? (i := 1309) (by decide +kernel), List.mem_of_getElem? (i := 1310) (by decide +kernel)⟩
theorem lw_p57 : lw_okq (⟨"FlowTalkModel", "fitsNumber", "(IJ)Z"⟩, 65) := ⟨⟨by decide +kernel, by decide +kernel⟩, List.mem_of_getElem? (i := 900) (by decide +kernel), List.mem_of_getElem? (i := 1313) (by decide +kernel), List.mem_of_getElem? (i := 1314) (by decide +kernel)⟩
theorem lw_p58 : lw_okq (⟨"FlowTalkModel", "sync", "(IJ)V"⟩, 65) := ⟨⟨by decide +kernel, by decide +kernel⟩, List.mem_of_getElem? (i := 900) (by decide +kernel), List.mem_of_getElem? (i := 1317) (by decide +kernel), List.mem_of_getElem? (i := 1318) (by decide +kernel)⟩
theorem lw_p59 : lw_okq (⟨"FlowTalkModel", "hearAck", "(IJ)V"⟩, 65) := ⟨⟨by decide +kernel, by decide +kernel⟩, List.mem_of_getElem? (i := 900) (by decide +kernel), List.mem_of_getElem? (i := 1321) (by decide +kernel), List.mem_of_getElem? (i := 1322) (by decide +kernel)⟩
theorem lw_p60 : lw_okq (⟨"FlowTalkModel", "isGot", "(IJ)V"⟩, 65) := ⟨⟨by decide +kernel, by decide +kernel⟩, List.mem_of_getElem? (i := 900) (by decide +kernel), List.mem_of_getElem? (i := 1325) (by decide +kernel), List.mem_of_getElem? (i := 1326) (by decide +kernel)⟩
theorem lw_p61 : lw_okq (⟨"FlowTalkModel", "missing", "(I)V"⟩, 65) := ⟨⟨by decide +kernel, by decide +kernel⟩, List.mem_of_getElem? (i := 900) (by decide +kernel), List.mem_of_getElem? (i := 1329) (by decide +kernel), List.mem_of_getElem? (i := 1330) (by decide +kernel)⟩
theorem lw_p62 : lw_okq (⟨"FlowTalkModel", "deliver", "(II)V"⟩, 65) := ⟨⟨by decide +kernel, by decide +kernel⟩, List.mem_of_getElem? (i := 900) (by decide +kernel), List.mem_of_getElem? (i := 1333) (by decide +kernel), List.mem_of_getElem? (i := 1334) (by decide +kernel)⟩
theorem lw_p63 : lw_okq (⟨"FlowTalkModel", "turn", "(I)V"⟩, 65) := ⟨⟨by decide +kernel, by decide +kernel⟩, List.mem_of_getElem? (i := 900) (by decide +kernel), List.mem_of_getElem? (i := 1337) (by decide +kernel), List.mem_of_getElem? (i := 1338) (by decide +kernel)⟩
def lw_privs_4 : List (MethodName × Nat) := [(⟨"FlowTalkModel", "isGood", "(III)Z"⟩, 65), (⟨"FlowTalkModel", "hearFeature", "(IJIII)Z"⟩, 65), (⟨"FlowTalkModel", "confirm", "(IIIZI)V"⟩, 65), (⟨"FlowTalkModel", "reconciled", "(II)I"⟩, 65), (⟨"FlowTalkModel", "hasTold", "(I)Z"⟩, 65), (⟨"FlowTalkModel", "hasOwn", "(II)Z"⟩, 65), (⟨"FlowTalkModel", "asking", "(IIJJ)V"⟩, 65), (⟨"FlowTalkModel", "fitsAck", "(IJ)Z"⟩, 65), (⟨"FlowTalkModel", "running", "(IIJJ)V"⟩, 65), (⟨"FlowTalkModel", "fitsNumber", "(IJ)Z"⟩, 65), (⟨"FlowTalkModel", "sync", "(IJ)V"⟩, 65), (⟨"FlowTalkModel", "hearAck", "(IJ)V"⟩, 65), (⟨"FlowTalkModel", "isGot", "(IJ)V"⟩, 65), (⟨"FlowTalkModel", "missing", "(I)V"⟩, 65), (⟨"FlowTalkModel", "deliver", "(II)V"⟩, 65), (⟨"FlowTalkModel", "turn", "(I)V"⟩, 65)]
theorem lw_r4 : ∀ q ∈ lw_privs_4, lw_okq q := List.forall_mem_cons.mpr ⟨lw_p48, List.forall_mem_cons.mpr ⟨lw_p49, List.forall_mem_cons.mpr ⟨lw_p50, List.forall_mem_cons.mpr ⟨lw_p51, List.forall_mem_cons.mpr ⟨lw_p52, List.forall_mem_cons.mpr ⟨lw_p53, List.forall_mem_cons.mpr ⟨lw_p54, List.forall_mem_cons.mpr ⟨lw_p55, List.forall_mem_cons.mpr ⟨lw_p56, List.forall_mem_cons.mpr ⟨lw_p57, List.forall_mem_cons.mpr ⟨lw_p58, List.forall_mem_cons.mpr ⟨lw_p59, List.forall_mem_cons.mpr ⟨lw_p60, List.forall_mem_cons.mpr ⟨lw_p61, List.forall_mem_cons.mpr ⟨lw_p62, List.forall_mem_cons.mpr ⟨lw_p63, fun _ h => absurd h List.not_mem_nil⟩⟩⟩⟩⟩⟩⟩⟩⟩⟩⟩⟩⟩⟩⟩⟩
theorem lw_p64 : lw_okq (⟨"FlowTalkModel", "timers", "(I)V"⟩, 65) := ⟨⟨by decide +kernel, by decide +kernel⟩, List.mem_of_getElem? (i := 900) (by decide +kernel), List.mem_of_getElem? (i := 1341) (by decide +kernel), List.mem_of_getElem? (i := 1342) (by decide +kernel)⟩
theorem lw_p65 : lw_okq (⟨"FlowTalkModel", "repeatOr", "(III)V"⟩, 65) := ⟨⟨by decide +kernel, by decide +kernel⟩, List.mem_of_getElem? (i := 900) (by decide +kernel), List.mem_of_getElem? (i := 1345) (by decide +kernel), List.mem_of_getElem? (i := 1346) (by decide +kernel)⟩
theorem lw_p66 : lw_okq (⟨"FlowTalkModel", "tooLong", "(I)V"⟩, 65) := ⟨⟨by decide +kernel, by decide +kernel⟩, List.mem_of_getElem? (i := 900) (by decide +kernel), List.mem_of_getElem? (i := 1349) (by decide +kernel), List.mem_of_getElem? (i := 1350) (by decide +kernel)⟩
theorem lw_p67 : lw_okq (⟨"FlowTalkModel", "ackDue", "(I)Z"⟩, 65) := ⟨⟨by decide +kernel, by decide +kernel⟩, List.mem_of_getElem? (i := 900) (by decide +kernel), List.mem_of_getElem? (i := 1353) (by decide +kernel), List.mem_of_getElem? (i := 1354) (by decide +kernel)⟩
theorem lw_p68 : lw_okq (⟨"FlowTalkModel", "wantsOptions", "(I)Z"⟩, 65) := ⟨⟨by decide +kernel, by decide +kernel⟩, List.mem_of_getElem? (i := 900) (by decide +kernel), List.mem_of_getElem? (i := 1357) (by decide +kernel), List.mem_of_getElem? (i := 1358) (by decide +kernel)⟩
theorem lw_p69 : lw_okq (⟨"FlowTalkModel", "isThere", "(I)Z"⟩, 65) := ⟨⟨by decide +kernel, by decide +kernel⟩, List.mem_of_getElem? (i := 900) (by decide +kernel), List.mem_of_getElem? (i := 1365) (by decide +kernel), List.mem_of_getElem? (i := 1366) (by decide +kernel)⟩
def lw_privs_5 : List (MethodName × Nat) := [(⟨"FlowTalkModel", "timers", "(I)V"⟩, 65), (⟨"FlowTalkModel", "repeatOr", "(III)V"⟩, 65), (⟨"FlowTalkModel", "tooLong", "(I)V"⟩, 65), (⟨"FlowTalkModel", "ackDue", "(I)Z"⟩, 65), (⟨"FlowTalkModel", "wantsOptions", "(I)Z"⟩, 65), (⟨"FlowTalkModel", "isThere", "(I)Z"⟩, 65)]
theorem lw_r5 : ∀ q ∈ lw_privs_5, lw_okq q := List.forall_mem_cons.mpr ⟨lw_p64, List.forall_mem_cons.mpr ⟨lw_p65, List.forall_mem_cons.mpr ⟨lw_p66, List.forall_mem_cons.mpr ⟨lw_p67, List.forall_mem_cons.mpr ⟨lw_p68, List.forall_mem_cons.mpr ⟨lw_p69, fun _ h => absurd h List.not_mem_nil⟩⟩⟩⟩⟩⟩
def lw_privs : List (MethodName × Nat) := lw_privs_1 ++ (lw_privs_2 ++ (lw_privs_3 ++ (lw_privs_4 ++ (lw_privs_5))))
def lw_tbl : List Cond := k2_sels lw_privs ++ tables_1
theorem lw_privs_ok : ∀ q ∈ lw_privs, lw_okq q := by
  show ∀ q ∈ lw_privs_1 ++ (lw_privs_2 ++ (lw_privs_3 ++ (lw_privs_4 ++ (lw_privs_5)))), lw_okq q
  exact List.forall_mem_append.mpr ⟨lw_r1, List.forall_mem_append.mpr ⟨lw_r2, List.forall_mem_append.mpr ⟨lw_r3, List.forall_mem_append.mpr ⟨lw_r4, lw_r5⟩⟩⟩⟩
end
section
-- tables of the program, written by wip/gen.py out of the claim's own tables and code: which cells, methods, instructions there are
def ft_T0 : u_T := fun k => ([("FlowTalk", "link", "LFlowTalk$Link;", true), ("FlowTalk", "ends", "[LFlowTalk$End;", true), ("FlowTalk", "tape", "[I", true), ("FlowTalk", "taped", "I", false)] : List (String × String × String × Bool)).getD k ("", "", "", false)
def ft_T1 : u_T := fun k => ([("FlowTalk$Agreements", "isEndOne", "Z", true), ("FlowTalk$Agreements", "features", "[LFlowTalk$Feature;", true), ("FlowTalk$Agreements", "confirms", "LFlowTalk$Confirms;", true), ("FlowTalk$Agreements", "scratch", "LFlowTalk$Choices;", true), ("FlowTalk$Agreements", "spokeAt", "I", false)] : List (String × String × String × Bool)).getD k ("", "", "", false)
def ft_T2 : u_T := fun k => ([("FlowTalk$Choices", "items", "[I", true), ("FlowTalk$Choices", "size", "I", false)] : List (String × String × String × Bool)).getD k ("", "", "", false)
def ft_T3 : u_T := fun k => ([("FlowTalk$Confirms", "rows", "[I", true), ("FlowTalk$Confirms", "due", "I", false)] : List (String × String × String × Bool)).getD k ("", "", "", false)
def ft_T4 : u_T := fun k => ([("FlowTalk$Datagrams", "kept", "I", true), ("FlowTalk$Datagrams", "bytes", "[I", true), ("FlowTalk$Datagrams", "sizes", "[I", true), ("FlowTalk$Datagrams", "begun", "I", false), ("FlowTalk$Datagrams", "gone", "I", false)] : List (String × String × String × Bool)).getD k ("", "", "", false)
def ft_T5 : u_T := fun k => ([("FlowTalk$End", "side", "I", true), ("FlowTalk$End", "link", "LFlowTalk$Link;", true), ("FlowTalk$End", "agreements", "LFlowTalk$Agreements;", true), ("FlowTalk$End", "receipts", "LFlowTalk$Receipts;", true), ("FlowTalk$End", "flight", "LFlowTalk$Flight;", true), ("FlowTalk$End", "outbox", "LFlowTalk$Datagrams;", true), ("FlowTalk$End", "inbox", "LFlowTalk$Datagrams;", true), ("FlowTalk$End", "tally", "[I", true), ("FlowTalk$End", "codeSent", "I", false), ("FlowTalk$End", "codeHeard", "I", false), ("FlowTalk$End", "state", "I", false), ("FlowTalk$End", "next", "J", false), ("FlowTalk$End", "first", "J", false), ("FlowTalk$End", "since", "I", false), ("FlowTalk$End", "tries", "I", false), ("FlowTalk$End", "syncAt", "I", false), ("FlowTalk$End", "unanswered", "I", false), ("FlowTalk$End", "unansweredSince", "I", false)] : List (String × String × String × Bool)).getD k ("", "", "", false)
def ft_T6 : u_T := fun k => ([("FlowTalk$Feature", "id", "I", true), ("FlowTalk$Feature", "list", "LFlowTalk$Choices;", true), ("FlowTalk$Feature", "value", "I", false), ("FlowTalk$Feature", "changing", "Z", false), ("FlowTalk$Feature", "untold", "Z", false), ("FlowTalk$Feature", "heard", "Z", false), ("FlowTalk$Feature", "latest", "J", false)] : List (String × String × String × Bool)).getD k ("", "", "", false)
def ft_T7 : u_T := fun k => ([("FlowTalk$Flight", "marks", "[B", true), ("FlowTalk$Flight", "pipe", "I", false), ("FlowTalk$Flight", "cwnd", "I", false), ("FlowTalk$Flight", "edge", "I", false), ("FlowTalk$Flight", "rto", "I", false), ("FlowTalk$Flight", "grown", "I", false), ("FlowTalk$Flight", "recover", "J", false), ("FlowTalk$Flight", "clock", "I", false)] : List (String × String × String × Bool)).getD k ("", "", "", false)
def ft_T8 : u_T := fun k => ([("FlowTalk$Link", "packets", "[LFlowTalk$Packet;", true), ("FlowTalk$Link", "delay", "I", true), ("FlowTalk$Link", "time", "I", false), ("FlowTalk$Link", "load", "I", false), ("FlowTalk$Link", "draft", "LFlowTalk$Packet;", false), ("FlowTalk$Link", "taken", "LFlowTalk$Packet;", false)] : List (String × String × String × Bool)).getD k ("", "", "", false)
def ft_T9 : u_T := fun k => ([("FlowTalk$Packet", "bytes", "[I", true), ("FlowTalk$Packet", "size", "I", false), ("FlowTalk$Packet", "to", "I", false), ("FlowTalk$Packet", "due", "I", false)] : List (String × String × String × Bool)).getD k ("", "", "", false)
def ft_T10 : u_T := fun k => ([("FlowTalk$Receipts", "any", "Z", false), ("FlowTalk$Receipts", "met", "J", false), ("FlowTalk$Receipts", "high", "J", false), ("FlowTalk$Receipts", "base", "J", false), ("FlowTalk$Receipts", "marks", "[B", true), ("FlowTalk$Receipts", "highThen", "[J", true)] : List (String × String × String × Bool)).getD k ("", "", "", false)
def ft_T11 : u_T := fun k => ([("FlowTalkModel", "delay", "I", true), ("FlowTalkModel", "now", "I", false), ("FlowTalkModel", "onWay", "I", false), ("FlowTalkModel", "goesTo", "[I", true), ("FlowTalkModel", "comesAt", "[I", true), ("FlowTalkModel", "sizeOf", "[I", true), ("FlowTalkModel", "octets", "[I", true), ("FlowTalkModel", "tape", "[I", true), ("FlowTalkModel", "taped", "I", false), ("FlowTalkModel", "state", "[I", true), ("FlowTalkModel", "next", "[J", true), ("FlowTalkModel", "first", "[J", true), ("FlowTalkModel", "met", "[Z", true), ("FlowTalkModel", "high", "[J", true), ("FlowTalkModel", "lowest", "[J", true), ("FlowTalkModel", "base", "[J", true), ("FlowTalkModel", "gotten", "[Z", true), ("FlowTalkModel", "sentAs", "[I", true), ("FlowTalkModel", "withRow", "[Z", true), ("FlowTalkModel", "rowHigh", "[J", true), ("FlowTalkModel", "value", "[I", true), ("FlowTalkModel", "listSize", "[I", true), ("FlowTalkModel", "lists", "[I", true), ("FlowTalkModel", "changing", "[Z", true), ("FlowTalkModel", "asked", "[Z", true), ("FlowTalkModel", "latest", "[J", true), ("FlowTalkModel", "dueCount", "[I", true), ("FlowTalkModel", "due", "[I", true), ("FlowTalkModel", "toSend", "[I", true), ("FlowTalkModel", "sendSizes", "[I", true), ("FlowTalkModel", "sendBytes", "[I", true), ("FlowTalkModel", "delivered", "[I", true), ("FlowTalkModel", "gotSizes", "[I", true), ("FlowTalkModel", "gotBytes", "[I", true), ("FlowTalkModel", "cwnd", "[I", true), ("FlowTalkModel", "edge", "[I", true), ("FlowTalkModel", "rto", "[I", true), ("FlowTalkModel", "grown", "[I", true), ("FlowTalkModel", "recovers", "[Z", true), ("FlowTalkModel", "recover", "[J", true), ("FlowTalkModel", "clock", "[I", true), ("FlowTalkModel", "begun", "[I", true), ("FlowTalkModel", "times", "[I", true), ("FlowTalkModel", "lastTime", "[I", true), ("FlowTalkModel", "optionsAt", "[I", true), ("FlowTalkModel", "syncAt", "[I", true), ("FlowTalkModel", "fresh", "[Z", true), ("FlowTalkModel", "since", "[I", true), ("FlowTalkModel", "waitingFor", "[I", true), ("FlowTalkModel", "packetsSent", "[I", true), ("FlowTalkModel", "packetsCome", "[I", true), ("FlowTalkModel", "bad", "[I", true), ("FlowTalkModel", "outside", "[I", true), ("FlowTalkModel", "again", "[I", true), ("FlowTalkModel", "codeSent", "[I", true), ("FlowTalkModel", "codeHeard", "[I", true), ("FlowTalkModel", "told", "[I", true), ("FlowTalkModel", "toldSize", "I", false), ("FlowTalkModel", "made", "[I", true), ("FlowTalkModel", "madeSize", "I", false), ("FlowTalkModel", "optionBytes", "I", false), ("FlowTalkModel", "rows", "[I", true), ("FlowTalkModel", "came", "[I", true), ("FlowTalkModel", "cameSize", "I", false), ("FlowTalkModel", "toldGot", "[Z", true)] : List (String × String × String × Bool)).getD k ("", "", "", false)
def ft_cl : List vw_C := [("FlowTalk", ft_T0, 4), ("FlowTalk$Agreements", ft_T1, 5), ("FlowTalk$Choices", ft_T2, 2), ("FlowTalk$Confirms", ft_T3, 2), ("FlowTalk$Datagrams", ft_T4, 5), ("FlowTalk$End", ft_T5, 18), ("FlowTalk$Feature", ft_T6, 7), ("FlowTalk$Flight", ft_T7, 8), ("FlowTalk$Link", ft_T8, 6), ("FlowTalk$Packet", ft_T9, 4), ("FlowTalk$Receipts", ft_T10, 6), ("FlowTalkModel", ft_T11, 65)]
def ft_tys : List (List FieldType) := [[.object "FlowTalk$Link", .array (.object "FlowTalk$End"), .array .int, .int], [.boolean, .array (.object "FlowTalk$Feature"), .object "FlowTalk$Confirms", .object "FlowTalk$Choices", .int], [.array .int, .int], [.array .int, .int], [.int, .array .int, .array .int, .int, .int], [.int, .object "FlowTalk$Link", .object "FlowTalk$Agreements", .object "FlowTalk$Receipts", .object "FlowTalk$Flight", .object "FlowTalk$Datagrams", .object "FlowTalk$Datagrams", .array .int, .int, .int, .int, .long, .long, .int, .int, .int, .int, .int], [.int, .object "FlowTalk$Choices", .int, .boolean, .boolean, .boolean, .long], [.array .byte, .int, .int, .int, .int, .int, .long, .int], [.array (.object "FlowTalk$Packet"), .int, .int, .int, .object "FlowTalk$Packet", .object "FlowTalk$Packet"], [.array .int, .int, .int, .int], [.boolean, .long, .long, .long, .array .byte, .array .long], [.int, .int, .int, .array .int, .array .int, .array .int, .array .int, .array .int, .int, .array .int, .array .long, .array .long, .array .boolean, .array .long, .array .long, .array .long, .array .boolean, .array .int, .array .boolean, .array .long, .array .int, .array .int, .array .int, .array .boolean, .array .boolean, .array .long, .array .int, .array .int, .array .int, .array .int, .array .int, .array .int, .array .int, .array .int, .array .int, .array .int, .array .int, .array .int, .array .boolean, .array .long, .array .int, .array .int, .array .int, .array .int, .array .int, .array .int, .array .boolean, .array .int, .array .int, .array .int, .array .int, .array .int, .array .int, .array .int, .array .int, .array .int, .array .int, .int, .array .int, .int, .int, .array .int, .array .int, .int, .array .boolean]]
def ft_ak : List FieldType := [.int, .int, .int, .int, .object "FlowTalk$End", .int, .object "FlowTalk$Feature", .int, .int, .int, .int, .int, .byte, .object "FlowTalk$Packet", .int, .byte, .long, .int, .int, .int, .int, .int, .int, .long, .long, .boolean, .long, .long, .long, .boolean, .int, .boolean, .long, .int, .int, .int, .boolean, .boolean, .long, .int, .int, .int, .int, .int, .int, .int, .int, .int, .int, .int, .int, .boolean, .long, .int, .int, .int, .int, .int, .int, .boolean, .int, .int, .int, .int, .int, .int, .int, .int, .int, .int, .int, .int, .int, .boolean]
def ft_nc : Nat := 12
def ft_st : List (String × String × String) := [("FlowTalk", "AT_FIRST", "[I"), ("FlowTalk", "LEAST", "[I"), ("FlowTalk", "MOST", "[I")]
abbrev ft_M : Type := MethodName × ByteArray × Nat × Option FieldType × Nat × Nat × Nat × Nat
def ft_ms : List ft_M := [
  (⟨"FlowTalkLaw", "law", "([I)Z"⟩, code, 4, (some .boolean), 14, 600, 600000, 7302250),
  (⟨"FlowTalk", "<init>", "(JJI)V"⟩, prog_1_method_1_code, 6, none, 5, 107, 214, 22766),
  (⟨"java/lang/Math", "floorMod", "(II)I"⟩, prog_14_method_50_code, 3, (some .int), 0, 0, 0, 0),
  (⟨"FlowTalk$Link", "<init>", "(I)V"⟩, prog_9_method_1_code, 3, none, 2, 40, 125, 13948),
  (⟨"FlowTalk$Packet", "<init>", "()V"⟩, prog_10_method_1_code, 1, none, 1, 20, 1, 220),
  (⟨"FlowTalk$End", "<init>", "(IJLFlowTalk$Link;)V"⟩, prog_6_method_1_code, 5, none, 4, 83, 42, 4277),
  (⟨"FlowTalk$Receipts", "<init>", "()V"⟩, prog_11_method_1_code, 1, none, 1, 20, 2, 512),
  (⟨"FlowTalk$Flight", "<init>", "()V"⟩, prog_8_method_1_code, 1, none, 1, 20, 1, 256),
  (⟨"FlowTalk$Datagrams", "<init>", "(I)V"⟩, prog_5_method_1_code, 2, none, 1, 21, 2, 1640),
  (⟨"java/lang/Math", "max", "(II)I"⟩, prog_14_method_65_code, 2, (some .int), 0, 0, 0, 0),
  (⟨"FlowTalk$Agreements", "<init>", "(Z)V"⟩, prog_2_method_1_code, 3, none, 3, 61, 29, 195),
  (⟨"FlowTalk$Confirms", "<init>", "()V"⟩, prog_4_method_1_code, 1, none, 1, 20, 1, 84),
  (⟨"FlowTalk$Choices", "<init>", "()V"⟩, prog_3_method_1_code, 1, none, 1, 20, 1, 3),
  (⟨"FlowTalk$Feature", "<init>", "(I)V"⟩, prog_7_method_1_code, 2, none, 2, 40, 2, 5),
  (⟨"FlowTalk$End", "restart", "(I)V"⟩, prog_6_method_2_code, 2, none, 3, 62, 0, 0),
  (⟨"FlowTalk$End", "enter", "(I)V"⟩, prog_6_method_3_code, 2, none, 0, 0, 0, 0),
  (⟨"FlowTalk$Agreements", "restart", "()V"⟩, prog_2_method_2_code, 2, none, 2, 41, 0, 0),
  (⟨"FlowTalk$Feature", "restart", "()V"⟩, prog_7_method_2_code, 1, none, 1, 21, 0, 0),
  (⟨"FlowTalk", "isFeature", "(I)Z"⟩, prog_1_method_26_code, 1, (some .boolean), 0, 0, 0, 0),
  (⟨"FlowTalk$Choices", "add", "(I)V"⟩, prog_3_method_3_code, 2, none, 0, 0, 0, 0),
  (⟨"FlowTalk$Receipts", "restart", "()V"⟩, prog_11_method_2_code, 1, none, 1, 24, 0, 0),
  (⟨"java/util/Arrays", "fill", "([BB)V"⟩, prog_16_method_109_code, 4, none, 0, 0, 0, 0),
  (⟨"java/util/Arrays", "fill", "([JJ)V"⟩, prog_16_method_101_code, 5, none, 0, 0, 0, 0),
  (⟨"FlowTalk$Flight", "restart", "()V"⟩, prog_8_method_2_code, 1, none, 1, 23, 0, 0),
  (⟨"FlowTalk$Datagrams", "clear", "()V"⟩, prog_5_method_3_code, 1, none, 0, 0, 0, 0),
  (⟨"FlowTalk", "op" ++ "en", "()I"⟩, prog_1_method_2_code, 1, (some .int), 4, 93, 0, 0),
  (⟨"FlowTalk$End", "send", "(IJI)V"⟩, prog_6_method_6_code, 8, none, 3, 66, 0, 0),
  (⟨"FlowTalk$Packet", "begin", "(IJJ)V"⟩, prog_10_method_6_code, 6, none, 1, 23, 0, 0),
  (⟨"FlowTalk$Packet", "appendNumber", "(J)V"⟩, prog_10_method_7_code, 4, none, 0, 0, 0, 0),
  (⟨"FlowTalk$Packet", "hasAck", "()Z"⟩, prog_10_method_10_code, 1, (some .boolean), 0, 0, 0, 0),
  (⟨"FlowTalk$Packet", "append", "(I)V"⟩, prog_10_method_4_code, 2, none, 0, 0, 0, 0),
  (⟨"FlowTalk$Confirms", "moveTo", "(LFlowTalk$Packet;)V"⟩, prog_4_method_4_code, 5, none, 1, 21, 0, 0),
  (⟨"FlowTalk$Agreements", "writeChanges", "(LFlowTalk$Packet;I)V"⟩, prog_2_method_8_code, 6, none, 1, 21, 0, 0),
  (⟨"FlowTalk$Choices", "item", "(I)I"⟩, prog_3_method_2_code, 2, (some .int), 0, 0, 0, 0),
  (⟨"FlowTalk$Agreements", "valueOf", "(ZI)I"⟩, prog_2_method_4_code, 4, (some .int), 1, 22, 0, 0),
  (⟨"FlowTalk$Agreements", "find", "(ZI)LFlowTalk$Feature;"⟩, prog_2_method_3_code, 3, (some (.object "FlowTalk$Feature")), 0, 0, 0, 0),
  (⟨"FlowTalk$Receipts", "writeVector", "(LFlowTalk$Packet;)Z"⟩, prog_11_method_7_code, 8, (some .boolean), 1, 23, 0, 0),
  (⟨"java/lang/Math", "min", "(JJ)J"⟩, prog_14_method_70_code, 4, (some .long), 0, 0, 0, 0),
  (⟨"FlowTalk$Receipts", "markBehind", "(I)I"⟩, prog_11_method_8_code, 2, (some .int), 0, 0, 0, 0),
  (⟨"FlowTalk$Packet", "optionsAt", "()I"⟩, prog_10_method_12_code, 1, (some .int), 0, 0, 0, 0),
  (⟨"FlowTalk$Packet", "has", "(I)Z"⟩, prog_10_method_2_code, 2, (some .boolean), 0, 0, 0, 0),
  (⟨"FlowTalk$Packet", "hasData", "()Z"⟩, prog_10_method_11_code, 1, (some .boolean), 0, 0, 0, 0),
  (⟨"FlowTalk$Datagrams", "moveFirstTo", "(LFlowTalk$Packet;)V"⟩, prog_5_method_8_code, 4, none, 2, 43, 0, 0),
  (⟨"FlowTalk$Datagrams", "row", "(I)I"⟩, prog_5_method_9_code, 2, (some .int), 1, 22, 0, 0),
  (⟨"FlowTalk$Receipts", "noteOwn", "(JZ)V"⟩, prog_11_method_9_code, 4, none, 0, 0, 0, 0),
  (⟨"FlowTalk$Flight", "note", "(JZI)V"⟩, prog_8_method_3_code, 6, none, 0, 0, 0, 0),
  (⟨"FlowTalk$Packet", "makeCheckRight", "()V"⟩, prog_10_method_15_code, 2, none, 1, 22, 0, 0),
  (⟨"FlowTalk$Packet", "check", "()I"⟩, prog_10_method_14_code, 3, (some .int), 0, 0, 0, 0),
  (⟨"FlowTalk$Link", "post", "(II)V"⟩, prog_9_method_5_code, 4, none, 0, 0, 0, 0),
  (⟨"FlowTalk", "listen", "()I"⟩, prog_1_method_3_code, 1, (some .int), 4, 83, 0, 0),
  (⟨"FlowTalk", "close", "(I)I"⟩, prog_1_method_4_code, 2, (some .int), 6, 134, 0, 0),
  (⟨"FlowTalk", "isEnd", "(I)Z"⟩, prog_1_method_25_code, 1, (some .boolean), 0, 0, 0, 0),
  (⟨"FlowTalk$End", "leave", "()I"⟩, prog_6_method_4_code, 1, (some .int), 5, 114, 0, 0),
  (⟨"FlowTalk$End", "abort", "(I)V"⟩, prog_6_method_5_code, 2, none, 4, 93, 0, 0),
  (⟨"FlowTalk", "give", "(IIJ)I"⟩, prog_1_method_5_code, 7, (some .int), 3, 65, 0, 0),
  (⟨"FlowTalk$Datagrams", "waiting", "()I"⟩, prog_5_method_2_code, 1, (some .int), 0, 0, 0, 0),
  (⟨"FlowTalk$Datagrams", "begin", "()V"⟩, prog_5_method_4_code, 1, none, 2, 43, 0, 0),
  (⟨"FlowTalk$Datagrams", "append", "(I)V"⟩, prog_5_method_5_code, 3, none, 2, 43, 0, 0),
  (⟨"FlowTalk", "want", "(IIZII)I"⟩, prog_1_method_6_code, 7, (some .int), 3, 66, 0, 0),
  (⟨"FlowTalk$Choices", "unpack", "(II)V"⟩, prog_3_method_4_code, 4, none, 1, 21, 0, 0),
  (⟨"FlowTalk$Choices", "isRightFor", "(I)Z"⟩, prog_3_method_7_code, 4, (some .boolean), 1, 20, 0, 0),
  (⟨"FlowTalk$Agreements", "wish", "(ZI)V"⟩, prog_2_method_5_code, 4, none, 2, 43, 0, 0),
  (⟨"FlowTalk$Choices", "copy", "(LFlowTalk$Choices;)V"⟩, prog_3_method_6_code, 3, none, 1, 21, 0, 0),
  (⟨"FlowTalk$Agreements", "changing", "()I"⟩, prog_2_method_6_code, 3, (some .int), 0, 0, 0, 0),
  (⟨"FlowTalk", "tick", "(I)I"⟩, prog_1_method_7_code, 7, (some .int), 7, 163, 0, 0),
  (⟨"FlowTalk$Link", "takeIfDue", "(I)LFlowTalk$Packet;"⟩, prog_9_method_3_code, 2, (some (.object "FlowTalk$Packet")), 2, 44, 0, 0),
  (⟨"FlowTalk$Link", "has", "(I)Z"⟩, prog_9_method_2_code, 2, (some .boolean), 0, 0, 0, 0),
  (⟨"FlowTalk$Link", "take", "(I)LFlowTalk$Packet;"⟩, prog_9_method_4_code, 4, (some (.object "FlowTalk$Packet")), 1, 21, 0, 0),
  (⟨"FlowTalk$End", "come", "(LFlowTalk$Packet;)V"⟩, prog_6_method_7_code, 2, none, 6, 142, 0, 0),
  (⟨"FlowTalk$Packet", "isAsTold", "()Z"⟩, prog_10_method_16_code, 2, (some .boolean), 2, 40, 0, 0),
  (⟨"FlowTalk$Packet", "optionsEnd", "()I"⟩, prog_10_method_13_code, 1, (some .int), 1, 20, 0, 0),
  (⟨"FlowTalk$End", "reject", "(LFlowTalk$Packet;I)V"⟩, prog_6_method_8_code, 3, none, 4, 93, 0, 0),
  (⟨"FlowTalk$Packet", "kind", "()I"⟩, prog_10_method_9_code, 1, (some .int), 0, 0, 0, 0),
  (⟨"FlowTalk$End", "comeListening", "(LFlowTalk$Packet;)V"⟩, prog_6_method_9_code, 3, none, 5, 115, 0, 0),
  (⟨"FlowTalk$Packet", "numberAt", "(I)J"⟩, prog_10_method_8_code, 5, (some .long), 1, 21, 0, 0),
  (⟨"FlowTalk$Receipts", "meet", "(J)V"⟩, prog_11_method_3_code, 3, none, 1, 23, 0, 0),
  (⟨"FlowTalk$Agreements", "hear", "(LFlowTalk$Packet;)I"⟩, prog_2_method_9_code, 7, (some .int), 3, 77, 0, 0),
  (⟨"FlowTalk$Packet", "byteAt", "(I)I"⟩, prog_10_method_3_code, 2, (some .int), 0, 0, 0, 0),
  (⟨"FlowTalk$Agreements", "isRight", "(LFlowTalk$Packet;II)Z"⟩, prog_2_method_10_code, 5, (some .boolean), 1, 21, 0, 0),
  (⟨"FlowTalk$Agreements", "hearChange", "(LFlowTalk$Packet;II)V"⟩, prog_2_method_11_code, 8, none, 2, 50, 0, 0),
  (⟨"FlowTalk$Confirms", "addEmpty", "(II)V"⟩, prog_4_method_2_code, 4, none, 0, 0, 0, 0),
  (⟨"FlowTalk$Feature", "hears", "(J)Z"⟩, prog_7_method_3_code, 3, (some .boolean), 1, 25, 0, 0),
  (⟨"FlowTalk", "isAfter", "(JJ)Z"⟩, prog_1_method_27_code, 6, (some .boolean), 0, 0, 0, 0),
  (⟨"FlowTalk$Choices", "read", "(LFlowTalk$Packet;II)V"⟩, prog_3_method_5_code, 5, none, 1, 21, 0, 0),
  (⟨"FlowTalk$Confirms", "add", "(IIILFlowTalk$Choices;)V"⟩, prog_4_method_3_code, 8, none, 1, 23, 0, 0),
  (⟨"FlowTalk$Agreements", "reconciled", "(LFlowTalk$Feature;)I"⟩, prog_2_method_13_code, 2, (some .int), 1, 24, 0, 0),
  (⟨"FlowTalk$Choices", "firstThatIsIn", "(LFlowTalk$Choices;I)I"⟩, prog_3_method_8_code, 5, (some .int), 0, 0, 0, 0),
  (⟨"FlowTalk$Agreements", "hearConfirm", "(LFlowTalk$Packet;II)Z"⟩, prog_2_method_12_code, 7, (some .boolean), 2, 47, 0, 0),
  (⟨"FlowTalk$End", "comeRequesting", "(LFlowTalk$Packet;)V"⟩, prog_6_method_10_code, 4, none, 5, 115, 0, 0),
  (⟨"FlowTalk$End", "ackFits", "(J)Z"⟩, prog_6_method_11_code, 3, (some .boolean), 2, 45, 0, 0),
  (⟨"FlowTalk$End", "comeLive", "(LFlowTalk$Packet;)V"⟩, prog_6_method_12_code, 8, none, 5, 115, 0, 0),
  (⟨"FlowTalk$Receipts", "fits", "(JI)Z"⟩, prog_11_method_4_code, 4, (some .boolean), 1, 25, 0, 0),
  (⟨"FlowTalk$End", "sync", "(J)V"⟩, prog_6_method_13_code, 3, none, 4, 93, 0, 0),
  (⟨"FlowTalk$Receipts", "has", "(J)Z"⟩, prog_11_method_5_code, 3, (some .boolean), 1, 25, 0, 0),
  (⟨"FlowTalk$Receipts", "add", "(J)V"⟩, prog_11_method_6_code, 6, none, 1, 25, 0, 0),
  (⟨"FlowTalk$End", "tell", "(LFlowTalk$Packet;)V"⟩, prog_6_method_14_code, 12, none, 3, 79, 0, 0),
  (⟨"FlowTalk$End", "tellRow", "(JI)V"⟩, prog_6_method_15_code, 9, none, 2, 51, 0, 0),
  (⟨"FlowTalk$Receipts", "ownIsTold", "(J)V"⟩, prog_11_method_10_code, 7, none, 1, 25, 0, 0),
  (⟨"FlowTalk$Flight", "isTold", "(JI)V"⟩, prog_8_method_4_code, 5, none, 1, 21, 0, 0),
  (⟨"java/lang/Math", "min", "(II)I"⟩, prog_14_method_69_code, 2, (some .int), 0, 0, 0, 0),
  (⟨"FlowTalk$Flight", "findLost", "(J)V"⟩, prog_8_method_5_code, 10, none, 1, 25, 0, 0),
  (⟨"FlowTalk$End", "deliver", "(LFlowTalk$Packet;)V"⟩, prog_6_method_16_code, 3, none, 3, 65, 0, 0),
  (⟨"FlowTalk$End", "answer", "(ILFlowTalk$Packet;)V"⟩, prog_6_method_17_code, 3, none, 4, 93, 0, 0),
  (⟨"FlowTalk$End", "pass", "()V"⟩, prog_6_method_18_code, 1, none, 6, 135, 0, 0),
  (⟨"FlowTalk$End", "passState", "()V"⟩, prog_6_method_19_code, 2, none, 5, 114, 0, 0),
  (⟨"FlowTalk$End", "sayAgain", "(I)V"⟩, prog_6_method_20_code, 2, none, 4, 93, 0, 0),
  (⟨"FlowTalk$Flight", "loseIfTooLong", "(JI)V"⟩, prog_8_method_6_code, 5, none, 1, 21, 0, 0),
  (⟨"FlowTalk$End", "sendDatagrams", "()V"⟩, prog_6_method_21_code, 5, none, 4, 93, 0, 0),
  (⟨"FlowTalk$End", "mustSpeak", "()Z"⟩, prog_6_method_22_code, 2, (some .boolean), 2, 45, 0, 0),
  (⟨"FlowTalk$Agreements", "isChangeDue", "(I)Z"⟩, prog_2_method_7_code, 4, (some .boolean), 0, 0, 0, 0),
  (⟨"FlowTalk", "lose", "(I)I"⟩, prog_1_method_8_code, 2, (some .int), 2, 44, 0, 0),
  (⟨"FlowTalk", "hold", "(II)I"⟩, prog_1_method_9_code, 4, (some .int), 1, 21, 0, 0),
  (⟨"FlowTalk", "repeat", "(II)I"⟩, prog_1_method_10_code, 4, (some .int), 2, 82, 0, 0),
  (⟨"FlowTalk$Packet", "fill", "([II)V"⟩, prog_10_method_5_code, 3, none, 1, 60, 0, 0),
  (⟨"FlowTalk", "alter", "(III)I"⟩, prog_1_method_11_code, 5, (some .int), 1, 21, 0, 0),
  (⟨"FlowTalk", "feed", "(IIIII)I"⟩, prog_1_method_12_code, 6, (some .int), 1, 22, 0, 0),
  (⟨"FlowTalk", "feedOne", "(I)V"⟩, prog_1_method_24_code, 3, none, 0, 0, 0, 0),
  (⟨"FlowTalk", "put", "(IIZ)I"⟩, prog_1_method_13_code, 4, (some .int), 2, 82, 0, 0),
  (⟨"FlowTalk", "way", "()I"⟩, prog_1_method_14_code, 1, (some .int), 0, 0, 0, 0),
  (⟨"FlowTalk", "packet", "(II)I"⟩, prog_1_method_15_code, 4, (some .int), 1, 21, 0, 0),
  (⟨"FlowTalk", "octet", "(II)I"⟩, prog_1_method_16_code, 3, (some .int), 1, 21, 0, 0),
  (⟨"FlowTalk", "state", "(I)I"⟩, prog_1_method_17_code, 2, (some .int), 1, 20, 0, 0),
  (⟨"FlowTalk", "number", "(II)J"⟩, prog_1_method_18_code, 4, (some .long), 1, 20, 0, 0),
  (⟨"FlowTalk", "feature", "(IIZI)I"⟩, prog_1_method_19_code, 6, (some .int), 1, 22, 0, 0),
  (⟨"FlowTalk", "count", "(II)I"⟩, prog_1_method_20_code, 4, (some .int), 1, 22, 0, 0),
  (⟨"FlowTalk", "got", "(III)I"⟩, prog_1_method_21_code, 6, (some .int), 3, 65, 0, 0),
  (⟨"FlowTalk$Datagrams", "sizeOf", "(I)I"⟩, prog_5_method_6_code, 2, (some .int), 2, 43, 0, 0),
  (⟨"FlowTalk$Datagrams", "byteOf", "(II)I"⟩, prog_5_method_7_code, 3, (some .int), 2, 43, 0, 0),
  (⟨"FlowTalk", "seen", "(IJ)I"⟩, prog_1_method_22_code, 7, (some .int), 2, 47, 0, 0),
  (⟨"FlowTalk", "sent", "(IJ)I"⟩, prog_1_method_23_code, 7, (some .int), 1, 25, 0, 0),
  (⟨"FlowTalkLaw", "cell", "([II)I"⟩, method_2_code, 2, (some .int), 0, 0, 0, 0),
  (⟨"FlowTalkModel", "<init>", "(JJI)V"⟩, prog_13_method_1_code, 6, none, 2, 46, 57, 24215),
  (⟨"FlowTalkModel", "around", "(J)J"⟩, prog_13_method_3_code, 2, (some .long), 0, 0, 0, 0),
  (⟨"FlowTalkModel", "atFirst", "(I)V"⟩, prog_13_method_8_code, 5, none, 1, 22, 0, 0),
  (⟨"FlowTalkModel", "feat", "(III)I"⟩, prog_13_method_7_code, 3, (some .int), 0, 0, 0, 0),
  (⟨"FlowTalkModel", "op" ++ "en", "()I"⟩, prog_13_method_58_code, 1, (some .int), 7, 174, 0, 0),
  (⟨"FlowTalkModel", "become", "(II)V"⟩, prog_13_method_37_code, 3, none, 0, 0, 0, 0),
  (⟨"FlowTalkModel", "sendPlain", "(II)V"⟩, prog_13_method_26_code, 3, none, 6, 152, 0, 0),
  (⟨"FlowTalkModel", "send", "(IIIJ)V"⟩, prog_13_method_24_code, 11, none, 5, 122, 0, 0),
  (⟨"FlowTalkModel", "pipe", "(I)I"⟩, prog_13_method_29_code, 6, (some .int), 4, 96, 0, 0),
  (⟨"FlowTalkModel", "isOwn", "(IJ)Z"⟩, prog_13_method_30_code, 6, (some .boolean), 3, 71, 0, 0),
  (⟨"FlowTalkModel", "in", "(JJJ)Z"⟩, prog_13_method_2_code, 6, (some .boolean), 0, 0, 0, 0),
  (⟨"FlowTalkModel", "before", "(JJ)Z"⟩, prog_13_method_5_code, 4, (some .boolean), 2, 48, 0, 0),
  (⟨"FlowTalkModel", "after", "(JJ)Z"⟩, prog_13_method_4_code, 4, (some .boolean), 1, 25, 0, 0),
  (⟨"FlowTalkModel", "at", "(IJ)I"⟩, prog_13_method_6_code, 3, (some .int), 0, 0, 0, 0),
  (⟨"FlowTalkModel", "byteOf", "(I)V"⟩, prog_13_method_16_code, 2, none, 0, 0, 0, 0),
  (⟨"FlowTalkModel", "six", "(J)V"⟩, prog_13_method_17_code, 4, none, 1, 21, 0, 0),
  (⟨"FlowTalkModel", "hasAck", "(I)Z"⟩, prog_13_method_18_code, 1, (some .boolean), 0, 0, 0, 0),
  (⟨"FlowTalkModel", "putConfirms", "(I)Z"⟩, prog_13_method_20_code, 6, (some .boolean), 1, 21, 0, 0),
  (⟨"FlowTalkModel", "fits", "(I)Z"⟩, prog_13_method_19_code, 2, (some .boolean), 0, 0, 0, 0),
  (⟨"FlowTalkModel", "putChanges", "(I)Z"⟩, prog_13_method_21_code, 7, (some .boolean), 1, 22, 0, 0),
  (⟨"FlowTalkModel", "putRow", "(IJ)V"⟩, prog_13_method_22_code, 9, none, 4, 94, 0, 0),
  (⟨"FlowTalkModel", "inRow", "(IJ)Z"⟩, prog_13_method_23_code, 4, (some .boolean), 3, 71, 0, 0),
  (⟨"FlowTalkModel", "shift", "(I)V"⟩, prog_13_method_25_code, 4, none, 0, 0, 0, 0),
  (⟨"FlowTalkModel", "checkOf", "([III)I"⟩, prog_13_method_28_code, 6, (some .int), 0, 0, 0, 0),
  (⟨"FlowTalkModel", "listen", "()I"⟩, prog_13_method_59_code, 1, (some .int), 2, 46, 0, 0),
  (⟨"FlowTalkModel", "close", "(I)I"⟩, prog_13_method_61_code, 3, (some .int), 7, 174, 0, 0),
  (⟨"FlowTalkModel", "isEnd", "(I)Z"⟩, prog_13_method_60_code, 1, (some .boolean), 1, 25, 0, 0),
  (⟨"FlowTalkModel", "reset", "(II)V"⟩, prog_13_method_27_code, 3, none, 6, 152, 0, 0),
  (⟨"FlowTalkModel", "give", "(IIJ)I"⟩, prog_13_method_62_code, 6, (some .int), 2, 45, 0, 0),
  (⟨"FlowTalkModel", "want", "(IIZII)I"⟩, prog_13_method_63_code, 8, (some .int), 3, 69, 0, 0),
  (⟨"FlowTalkModel", "isList", "(I)Z"⟩, prog_13_method_10_code, 4, (some .boolean), 2, 46, 0, 0),
  (⟨"FlowTalkModel", "mayBe", "(II)Z"⟩, prog_13_method_9_code, 2, (some .boolean), 1, 25, 0, 0),
  (⟨"FlowTalkModel", "changes", "(I)I"⟩, prog_13_method_14_code, 4, (some .int), 0, 0, 0, 0),
  (⟨"FlowTalkModel", "tick", "(I)I"⟩, prog_13_method_64_code, 3, (some .int), 11, 276, 0, 0),
  (⟨"FlowTalkModel", "one", "()V"⟩, prog_13_method_51_code, 5, none, 10, 252, 0, 0),
  (⟨"FlowTalkModel", "drop", "(I)V"⟩, prog_13_method_50_code, 4, none, 0, 0, 0, 0),
  (⟨"FlowTalkModel", "take", "(I)V"⟩, prog_13_method_38_code, 8, none, 9, 225, 0, 0),
  (⟨"FlowTalkModel", "isRight", "()Z"⟩, prog_13_method_33_code, 4, (some .boolean), 2, 41, 0, 0),
  (⟨"FlowTalkModel", "headOf", "(I)I"⟩, prog_13_method_32_code, 2, (some .int), 1, 20, 0, 0),
  (⟨"FlowTalkModel", "sixAt", "(I)J"⟩, prog_13_method_31_code, 5, (some .long), 0, 0, 0, 0),
  (⟨"FlowTalkModel", "meet", "(IJ)V"⟩, prog_13_method_36_code, 5, none, 1, 22, 0, 0),
  (⟨"FlowTalkModel", "hear", "(IJ)Z"⟩, prog_13_method_43_code, 5, (some .boolean), 7, 174, 0, 0),
  (⟨"FlowTalkModel", "heard", "(IJ)I"⟩, prog_13_method_44_code, 9, (some .int), 4, 104, 0, 0),
  (⟨"FlowTalkModel", "isGood", "(III)Z"⟩, prog_13_method_45_code, 7, (some .boolean), 1, 25, 0, 0),
  (⟨"FlowTalkModel", "hearFeature", "(IJIII)Z"⟩, prog_13_method_46_code, 14, (some .boolean), 3, 71, 0, 0),
  (⟨"FlowTalkModel", "confirm", "(IIIZI)V"⟩, prog_13_method_15_code, 9, none, 0, 0, 0, 0),
  (⟨"FlowTalkModel", "reconciled", "(II)I"⟩, prog_13_method_13_code, 4, (some .int), 1, 23, 0, 0),
  (⟨"FlowTalkModel", "hasTold", "(I)Z"⟩, prog_13_method_12_code, 3, (some .boolean), 0, 0, 0, 0),
  (⟨"FlowTalkModel", "hasOwn", "(II)Z"⟩, prog_13_method_11_code, 4, (some .boolean), 0, 0, 0, 0),
  (⟨"FlowTalkModel", "asking", "(IIJJ)V"⟩, prog_13_method_39_code, 7, none, 8, 198, 0, 0),
  (⟨"FlowTalkModel", "fitsAck", "(IJ)Z"⟩, prog_13_method_35_code, 4, (some .boolean), 3, 71, 0, 0),
  (⟨"FlowTalkModel", "running", "(IIJJ)V"⟩, prog_13_method_41_code, 8, none, 8, 198, 0, 0),
  (⟨"FlowTalkModel", "fitsNumber", "(IJ)Z"⟩, prog_13_method_34_code, 5, (some .boolean), 3, 71, 0, 0),
  (⟨"FlowTalkModel", "sync", "(IJ)V"⟩, prog_13_method_40_code, 4, none, 6, 152, 0, 0),
  (⟨"FlowTalkModel", "hearAck", "(IJ)V"⟩, prog_13_method_47_code, 11, none, 5, 124, 0, 0),
  (⟨"FlowTalkModel", "isGot", "(IJ)V"⟩, prog_13_method_48_code, 5, none, 2, 48, 0, 0),
  (⟨"FlowTalkModel", "missing", "(I)V"⟩, prog_13_method_49_code, 9, none, 4, 96, 0, 0),
  (⟨"FlowTalkModel", "deliver", "(II)V"⟩, prog_13_method_42_code, 5, none, 0, 0, 0, 0),
  (⟨"FlowTalkModel", "turn", "(I)V"⟩, prog_13_method_54_code, 4, none, 9, 220, 0, 0),
  (⟨"FlowTalkModel", "timers", "(I)V"⟩, prog_13_method_55_code, 4, none, 8, 197, 0, 0),
  (⟨"FlowTalkModel", "repeatOr", "(III)V"⟩, prog_13_method_56_code, 4, none, 7, 174, 0, 0),
  (⟨"FlowTalkModel", "tooLong", "(I)V"⟩, prog_13_method_57_code, 5, none, 5, 121, 0, 0),
  (⟨"FlowTalkModel", "ackDue", "(I)Z"⟩, prog_13_method_52_code, 3, (some .boolean), 1, 22, 0, 0),
  (⟨"FlowTalkModel", "wantsOptions", "(I)Z"⟩, prog_13_method_53_code, 2, (some .boolean), 1, 23, 0, 0),
  (⟨"FlowTalkModel", "lose", "(I)I"⟩, prog_13_method_66_code, 2, (some .int), 2, 46, 0, 0),
  (⟨"FlowTalkModel", "isThere", "(I)Z"⟩, prog_13_method_65_code, 2, (some .boolean), 1, 25, 0, 0),
  (⟨"FlowTalkModel", "hold", "(II)I"⟩, prog_13_method_67_code, 3, (some .int), 2, 46, 0, 0),
  (⟨"FlowTalkModel", "repeat", "(II)I"⟩, prog_13_method_68_code, 4, (some .int), 2, 46, 0, 0),
  (⟨"FlowTalkModel", "alter", "(III)I"⟩, prog_13_method_69_code, 4, (some .int), 2, 46, 0, 0),
  (⟨"FlowTalkModel", "feed", "(IIIII)I"⟩, prog_13_method_70_code, 8, (some .int), 0, 0, 0, 0),
  (⟨"FlowTalkModel", "put", "(IIZ)I"⟩, prog_13_method_71_code, 5, (some .int), 2, 45, 0, 0),
  (⟨"FlowTalkModel", "way", "()I"⟩, prog_13_method_72_code, 1, (some .int), 0, 0, 0, 0),
  (⟨"FlowTalkModel", "packet", "(II)I"⟩, prog_13_method_73_code, 3, (some .int), 2, 46, 0, 0),
  (⟨"FlowTalkModel", "octet", "(II)I"⟩, prog_13_method_74_code, 3, (some .int), 2, 46, 0, 0),
  (⟨"FlowTalkModel", "state", "(I)I"⟩, prog_13_method_75_code, 2, (some .int), 2, 45, 0, 0),
  (⟨"FlowTalkModel", "number", "(II)J"⟩, prog_13_method_76_code, 3, (some .long), 2, 45, 0, 0),
  (⟨"FlowTalkModel", "feature", "(IIZI)I"⟩, prog_13_method_77_code, 6, (some .int), 2, 45, 0, 0),
  (⟨"FlowTalkModel", "count", "(II)I"⟩, prog_13_method_78_code, 3, (some .int), 5, 121, 0, 0),
  (⟨"FlowTalkModel", "got", "(III)I"⟩, prog_13_method_79_code, 5, (some .int), 2, 45, 0, 0),
  (⟨"FlowTalkModel", "seen", "(IJ)I"⟩, prog_13_method_80_code, 6, (some .int), 2, 45, 0, 0),
  (⟨"FlowTalkModel", "sent", "(IJ)I"⟩, prog_13_method_81_code, 6, (some .int), 4, 96, 0, 0)]
def ft_m (y : Nat) : ft_M := ft_ms.getD y (⟨"", "", ""⟩, ⟨#[]⟩, 0, none, 0, 0, 0, 0)
abbrev ft_I : Type := Instr × Nat × List Nat
def ft_c0_0 : List (Nat × ft_I) := [(0, .new 7, 3, [0, 86, 87, 71]), (3, .dup, 1, []), (4, .aload_n 0, 1, []), (5, .iconst 0, 1, []), (6, .invokestatic 9, 3, [0, 130, 966, 968, 70, 967]), (9, .i2l, 1, []), (10, .aload_n 0, 1, []), (11, .iconst 1, 1, []), (12, .invokestatic 9, 3, [0, 130, 966, 968, 70, 967]), (15, .i2l, 1, []), (16, .aload_n 0, 1, []), (17, .iconst 2, 1, []), (18, .invokestatic 9, 3, [0, 130, 966, 968, 70, 967]), (21, .invokespecial 15, 3, [0, 1, 88, 90, 71, 89]), (24, .astore_n 1, 1, []), (25, .new 18, 3, [11, 969, 970, 84]), (28, .dup, 1, []), (29, .aload_n 0, 1, []), (30, .iconst 0, 1, []), (31, .invokestatic 9, 3, [0, 130, 966, 968, 70, 967]), (34, .i2l, 1, []), (35, .aload_n 0, 1, []), (36, .iconst 1, 1, []), (37, .invokestatic 9, 3, [0, 130, 966, 968, 70, 967]), (40, .i2l, 1, []), (41, .aload_n 0, 1, []), (42, .iconst 2, 1, []), (43, .invokestatic 9, 3, [0, 130, 966, 968, 70, 967]), (46, .invokespecial 20, 3, [0, 131, 971, 973, 84, 972]), (49, .astore_n 2, 1, []), (50, .iconst 3, 1, []), (51, .istore_n 3, 1, []), (52, .iload_n 3, 1, []), (53, .aload_n 0, 1, []), (54, .arraylength, 1, []), (55, .bipush 6, 2, []), (57, .isub, 1, []), (58, .if_icmp .gt 1001, 3, []), (61, .aload_n 0, 1, []), (62, .iload_n 3, 1, []), (63, .iaload, 1, []), (64, .bipush 31, 2, []), (66, .iand, 1, []), (67, .tableswitch 986 0 21 #[101, 114, 127, 150, 223, 302, 325, 348, 381, 414, 457, 520, 579, 592, 625, 658, 681, 715, 784, 817, 860, 923], 101, []), (168, .aload_n 1, 1, []), (169, .invokevirtual 21, 3, [0, 25, 486, 489, 71, 487, 488]), (172, .aload_n 2, 1, []), (173, .invokevirtual 25, 3, [0, 135, 1183, 1186, 84, 1184, 1185]), (176, .if_icmp .eq 877, 3, []), (179, .iconst 0, 1, []), (180, .ireturn, 1, []), (181, .aload_n 1, 1, []), (182, .invokevirtual 26, 3, [0, 49, 594, 597, 71, 595, 596]), (185, .aload_n 2, 1, []), (186, .invokevirtual 29, 3, [0, 155, 1261, 1264, 84, 1262, 1263]), (189, .if_icmp .eq 864, 3, []), (192, .iconst 0, 1, []), (193, .ireturn, 1, []), (194, .aload_n 1, 1, []), (195, .aload_n 0, 1, [])]
def ft_c0_1 : List (Nat × ft_I) := [(196, .iload_n 3, 1, []), (197, .iconst 1, 1, []), (198, .iadd, 1, []), (199, .iaload, 1, []), (200, .invokevirtual 30, 3, [0, 50, 598, 601, 71, 599, 600]), (203, .aload_n 2, 1, []), (204, .aload_n 0, 1, []), (205, .iload_n 3, 1, []), (206, .iconst 1, 1, []), (207, .iadd, 1, []), (208, .iaload, 1, []), (209, .invokevirtual 34, 3, [0, 156, 1265, 1268, 84, 1266, 1267]), (212, .if_icmp .eq 841, 3, []), (215, .iconst 0, 1, []), (216, .ireturn, 1, []), (217, .aload_n 1, 1, []), (218, .aload_n 0, 1, []), (219, .iload_n 3, 1, []), (220, .iconst 1, 1, []), (221, .iadd, 1, []), (222, .iaload, 1, []), (223, .aload_n 0, 1, []), (224, .iload_n 3, 1, []), (225, .iconst 2, 1, []), (226, .iadd, 1, []), (227, .iaload, 1, []), (228, .aload_n 0, 1, []), (229, .iload_n 3, 1, []), (230, .iconst 3, 1, []), (231, .iadd, 1, []), (232, .iaload, 1, []), (233, .i2l, 1, []), (234, .bipush 32, 2, []), (236, .lshl, 1, []), (237, .aload_n 0, 1, []), (238, .iload_n 3, 1, []), (239, .iconst 4, 1, []), (240, .iadd, 1, []), (241, .iaload, 1, []), (242, .i2l, 1, []), (243, .ldc2_w 35, 3, [1501, 4294967295]), (246, .land, 1, []), (247, .lor, 1, []), (248, .invokevirtual 37, 3, [0, 54, 614, 617, 71, 615, 616]), (251, .aload_n 2, 1, []), (252, .aload_n 0, 1, []), (253, .iload_n 3, 1, []), (254, .iconst 1, 1, []), (255, .iadd, 1, []), (256, .iaload, 1, []), (257, .aload_n 0, 1, []), (258, .iload_n 3, 1, []), (259, .iconst 2, 1, []), (260, .iadd, 1, []), (261, .iaload, 1, []), (262, .aload_n 0, 1, []), (263, .iload_n 3, 1, []), (264, .iconst 3, 1, []), (265, .iadd, 1, []), (266, .iaload, 1, [])]
def ft_c0_2 : List (Nat × ft_I) := [(267, .i2l, 1, []), (268, .bipush 32, 2, []), (270, .lshl, 1, []), (271, .aload_n 0, 1, []), (272, .iload_n 3, 1, []), (273, .iconst 4, 1, []), (274, .iadd, 1, []), (275, .iaload, 1, []), (276, .i2l, 1, []), (277, .ldc2_w 35, 3, [1501, 4294967295]), (280, .land, 1, []), (281, .lor, 1, []), (282, .invokevirtual 41, 3, [0, 159, 1277, 1280, 84, 1278, 1279]), (285, .if_icmp .eq 768, 3, []), (288, .iconst 0, 1, []), (289, .ireturn, 1, []), (290, .aload_n 1, 1, []), (291, .aload_n 0, 1, []), (292, .iload_n 3, 1, []), (293, .iconst 1, 1, []), (294, .iadd, 1, []), (295, .iaload, 1, []), (296, .aload_n 0, 1, []), (297, .iload_n 3, 1, []), (298, .iconst 2, 1, []), (299, .iadd, 1, []), (300, .iaload, 1, []), (301, .aload_n 0, 1, []), (302, .iload_n 3, 1, []), (303, .iconst 3, 1, []), (304, .iadd, 1, []), (305, .iaload, 1, []), (306, .ifCond .eq 7, 3, []), (309, .iconst 1, 1, []), (310, .goto 4, 3, []), (313, .iconst 0, 1, []), (314, .aload_n 0, 1, []), (315, .iload_n 3, 1, []), (316, .iconst 4, 1, []), (317, .iadd, 1, []), (318, .iaload, 1, []), (319, .aload_n 0, 1, []), (320, .iload_n 3, 1, []), (321, .iconst 5, 1, []), (322, .iadd, 1, []), (323, .iaload, 1, []), (324, .invokevirtual 42, 3, [0, 58, 630, 633, 71, 631, 632]), (327, .aload_n 2, 1, []), (328, .aload_n 0, 1, []), (329, .iload_n 3, 1, []), (330, .iconst 1, 1, []), (331, .iadd, 1, []), (332, .iaload, 1, []), (333, .aload_n 0, 1, []), (334, .iload_n 3, 1, []), (335, .iconst 2, 1, []), (336, .iadd, 1, []), (337, .iaload, 1, []), (338, .aload_n 0, 1, []), (339, .iload_n 3, 1, [])]
def ft_c0_3 : List (Nat × ft_I) := [(340, .iconst 3, 1, []), (341, .iadd, 1, []), (342, .iaload, 1, []), (343, .ifCond .eq 7, 3, []), (346, .iconst 1, 1, []), (347, .goto 4, 3, []), (350, .iconst 0, 1, []), (351, .aload_n 0, 1, []), (352, .iload_n 3, 1, []), (353, .iconst 4, 1, []), (354, .iadd, 1, []), (355, .iaload, 1, []), (356, .aload_n 0, 1, []), (357, .iload_n 3, 1, []), (358, .iconst 5, 1, []), (359, .iadd, 1, []), (360, .iaload, 1, []), (361, .invokevirtual 46, 3, [0, 160, 1283, 1286, 84, 1284, 1285]), (364, .if_icmp .eq 689, 3, []), (367, .iconst 0, 1, []), (368, .ireturn, 1, []), (369, .aload_n 1, 1, []), (370, .aload_n 0, 1, []), (371, .iload_n 3, 1, []), (372, .iconst 1, 1, []), (373, .iadd, 1, []), (374, .iaload, 1, []), (375, .invokevirtual 47, 3, [0, 64, 662, 665, 71, 663, 664]), (378, .aload_n 2, 1, []), (379, .aload_n 0, 1, []), (380, .iload_n 3, 1, []), (381, .iconst 1, 1, []), (382, .iadd, 1, []), (383, .iaload, 1, []), (384, .invokevirtual 50, 3, [0, 164, 1302, 1305, 84, 1303, 1304]), (387, .if_icmp .eq 666, 3, []), (390, .iconst 0, 1, []), (391, .ireturn, 1, []), (392, .aload_n 1, 1, []), (393, .aload_n 0, 1, []), (394, .iload_n 3, 1, []), (395, .iconst 1, 1, []), (396, .iadd, 1, []), (397, .iaload, 1, []), (398, .invokevirtual 51, 3, [0, 110, 868, 871, 71, 869, 870]), (401, .aload_n 2, 1, []), (402, .aload_n 0, 1, []), (403, .iload_n 3, 1, []), (404, .iconst 1, 1, []), (405, .iadd, 1, []), (406, .iaload, 1, []), (407, .invokevirtual 54, 3, [0, 195, 1430, 1433, 84, 1431, 1432]), (410, .if_icmp .eq 643, 3, []), (413, .iconst 0, 1, []), (414, .ireturn, 1, []), (415, .aload_n 1, 1, []), (416, .aload_n 0, 1, []), (417, .iload_n 3, 1, []), (418, .iconst 1, 1, []), (419, .iadd, 1, [])]
def ft_c0_4 : List (Nat × ft_I) := [(420, .iaload, 1, []), (421, .aload_n 0, 1, []), (422, .iload_n 3, 1, []), (423, .iconst 2, 1, []), (424, .iadd, 1, []), (425, .iaload, 1, []), (426, .invokevirtual 55, 3, [0, 111, 874, 877, 71, 875, 876]), (429, .aload_n 2, 1, []), (430, .aload_n 0, 1, []), (431, .iload_n 3, 1, []), (432, .iconst 1, 1, []), (433, .iadd, 1, []), (434, .iaload, 1, []), (435, .aload_n 0, 1, []), (436, .iload_n 3, 1, []), (437, .iconst 2, 1, []), (438, .iadd, 1, []), (439, .iaload, 1, []), (440, .invokevirtual 59, 3, [0, 197, 1438, 1441, 84, 1439, 1440]), (443, .if_icmp .eq 610, 3, []), (446, .iconst 0, 1, []), (447, .ireturn, 1, []), (448, .aload_n 1, 1, []), (449, .aload_n 0, 1, []), (450, .iload_n 3, 1, []), (451, .iconst 1, 1, []), (452, .iadd, 1, []), (453, .iaload, 1, []), (454, .aload_n 0, 1, []), (455, .iload_n 3, 1, []), (456, .iconst 2, 1, []), (457, .iadd, 1, []), (458, .iaload, 1, []), (459, .invokevirtual 60, 3, [0, 112, 878, 881, 71, 879, 880]), (462, .aload_n 2, 1, []), (463, .aload_n 0, 1, []), (464, .iload_n 3, 1, []), (465, .iconst 1, 1, []), (466, .iadd, 1, []), (467, .iaload, 1, []), (468, .aload_n 0, 1, []), (469, .iload_n 3, 1, []), (470, .iconst 2, 1, []), (471, .iadd, 1, []), (472, .iaload, 1, []), (473, .invokevirtual 63, 3, [0, 198, 1442, 1445, 84, 1443, 1444]), (476, .if_icmp .eq 577, 3, []), (479, .iconst 0, 1, []), (480, .ireturn, 1, []), (481, .aload_n 1, 1, []), (482, .aload_n 0, 1, []), (483, .iload_n 3, 1, []), (484, .iconst 1, 1, []), (485, .iadd, 1, []), (486, .iaload, 1, []), (487, .aload_n 0, 1, []), (488, .iload_n 3, 1, []), (489, .iconst 2, 1, []), (490, .iadd, 1, []), (491, .iaload, 1, [])]
def ft_c0_5 : List (Nat × ft_I) := [(492, .aload_n 0, 1, []), (493, .iload_n 3, 1, []), (494, .iconst 3, 1, []), (495, .iadd, 1, []), (496, .iaload, 1, []), (497, .invokevirtual 64, 3, [0, 114, 892, 895, 71, 893, 894]), (500, .aload_n 2, 1, []), (501, .aload_n 0, 1, []), (502, .iload_n 3, 1, []), (503, .iconst 1, 1, []), (504, .iadd, 1, []), (505, .iaload, 1, []), (506, .aload_n 0, 1, []), (507, .iload_n 3, 1, []), (508, .iconst 2, 1, []), (509, .iadd, 1, []), (510, .iaload, 1, []), (511, .aload_n 0, 1, []), (512, .iload_n 3, 1, []), (513, .iconst 3, 1, []), (514, .iadd, 1, []), (515, .iaload, 1, []), (516, .invokevirtual 68, 3, [0, 199, 1446, 1449, 84, 1447, 1448]), (519, .if_icmp .eq 534, 3, []), (522, .iconst 0, 1, []), (523, .ireturn, 1, []), (524, .aload_n 1, 1, []), (525, .aload_n 0, 1, []), (526, .iload_n 3, 1, []), (527, .iconst 1, 1, []), (528, .iadd, 1, []), (529, .iaload, 1, []), (530, .aload_n 0, 1, []), (531, .iload_n 3, 1, []), (532, .iconst 2, 1, []), (533, .iadd, 1, []), (534, .iaload, 1, []), (535, .aload_n 0, 1, []), (536, .iload_n 3, 1, []), (537, .iconst 3, 1, []), (538, .iadd, 1, []), (539, .iaload, 1, []), (540, .aload_n 0, 1, []), (541, .iload_n 3, 1, []), (542, .iconst 4, 1, []), (543, .iadd, 1, []), (544, .iaload, 1, []), (545, .aload_n 0, 1, []), (546, .iload_n 3, 1, []), (547, .iconst 5, 1, []), (548, .iadd, 1, []), (549, .iaload, 1, []), (550, .invokevirtual 69, 3, [0, 115, 897, 900, 71, 898, 899]), (553, .aload_n 2, 1, []), (554, .aload_n 0, 1, []), (555, .iload_n 3, 1, []), (556, .iconst 1, 1, []), (557, .iadd, 1, []), (558, .iaload, 1, []), (559, .aload_n 0, 1, [])]
def ft_c0_6 : List (Nat × ft_I) := [(560, .iload_n 3, 1, []), (561, .iconst 2, 1, []), (562, .iadd, 1, []), (563, .iaload, 1, []), (564, .aload_n 0, 1, []), (565, .iload_n 3, 1, []), (566, .iconst 3, 1, []), (567, .iadd, 1, []), (568, .iaload, 1, []), (569, .aload_n 0, 1, []), (570, .iload_n 3, 1, []), (571, .iconst 4, 1, []), (572, .iadd, 1, []), (573, .iaload, 1, []), (574, .aload_n 0, 1, []), (575, .iload_n 3, 1, []), (576, .iconst 5, 1, []), (577, .iadd, 1, []), (578, .iaload, 1, []), (579, .invokevirtual 73, 3, [0, 200, 1450, 1453, 84, 1451, 1452]), (582, .if_icmp .eq 471, 3, []), (585, .iconst 0, 1, []), (586, .ireturn, 1, []), (587, .aload_n 1, 1, []), (588, .aload_n 0, 1, []), (589, .iload_n 3, 1, []), (590, .iconst 1, 1, []), (591, .iadd, 1, []), (592, .iaload, 1, []), (593, .aload_n 0, 1, []), (594, .iload_n 3, 1, []), (595, .iconst 2, 1, []), (596, .iadd, 1, []), (597, .iaload, 1, []), (598, .aload_n 0, 1, []), (599, .iload_n 3, 1, []), (600, .iconst 3, 1, []), (601, .iadd, 1, []), (602, .iaload, 1, []), (603, .ifCond .eq 7, 3, []), (606, .iconst 1, 1, []), (607, .goto 4, 3, []), (610, .iconst 0, 1, []), (611, .invokevirtual 74, 3, [0, 117, 905, 908, 71, 906, 907]), (614, .aload_n 2, 1, []), (615, .aload_n 0, 1, []), (616, .iload_n 3, 1, []), (617, .iconst 1, 1, []), (618, .iadd, 1, []), (619, .iaload, 1, []), (620, .aload_n 0, 1, []), (621, .iload_n 3, 1, []), (622, .iconst 2, 1, []), (623, .iadd, 1, []), (624, .iaload, 1, []), (625, .aload_n 0, 1, []), (626, .iload_n 3, 1, []), (627, .iconst 3, 1, []), (628, .iadd, 1, []), (629, .iaload, 1, [])]
def ft_c0_7 : List (Nat × ft_I) := [(630, .ifCond .eq 7, 3, []), (633, .iconst 1, 1, []), (634, .goto 4, 3, []), (637, .iconst 0, 1, []), (638, .invokevirtual 78, 3, [0, 201, 1454, 1457, 84, 1455, 1456]), (641, .if_icmp .eq 412, 3, []), (644, .iconst 0, 1, []), (645, .ireturn, 1, []), (646, .aload_n 1, 1, []), (647, .invokevirtual 79, 3, [0, 118, 910, 913, 71, 911, 912]), (650, .aload_n 2, 1, []), (651, .invokevirtual 82, 3, [0, 202, 1458, 1461, 84, 1459, 1460]), (654, .if_icmp .eq 399, 3, []), (657, .iconst 0, 1, []), (658, .ireturn, 1, []), (659, .aload_n 1, 1, []), (660, .aload_n 0, 1, []), (661, .iload_n 3, 1, []), (662, .iconst 1, 1, []), (663, .iadd, 1, []), (664, .iaload, 1, []), (665, .aload_n 0, 1, []), (666, .iload_n 3, 1, []), (667, .iconst 2, 1, []), (668, .iadd, 1, []), (669, .iaload, 1, []), (670, .invokevirtual 83, 3, [0, 119, 914, 917, 71, 915, 916]), (673, .aload_n 2, 1, []), (674, .aload_n 0, 1, []), (675, .iload_n 3, 1, []), (676, .iconst 1, 1, []), (677, .iadd, 1, []), (678, .iaload, 1, []), (679, .aload_n 0, 1, []), (680, .iload_n 3, 1, []), (681, .iconst 2, 1, []), (682, .iadd, 1, []), (683, .iaload, 1, []), (684, .invokevirtual 86, 3, [0, 203, 1462, 1465, 84, 1463, 1464]), (687, .if_icmp .eq 366, 3, []), (690, .iconst 0, 1, []), (691, .ireturn, 1, []), (692, .aload_n 1, 1, []), (693, .aload_n 0, 1, []), (694, .iload_n 3, 1, []), (695, .iconst 1, 1, []), (696, .iadd, 1, []), (697, .iaload, 1, []), (698, .aload_n 0, 1, []), (699, .iload_n 3, 1, []), (700, .iconst 2, 1, []), (701, .iadd, 1, []), (702, .iaload, 1, []), (703, .invokevirtual 87, 3, [0, 120, 918, 921, 71, 919, 920]), (706, .aload_n 2, 1, []), (707, .aload_n 0, 1, []), (708, .iload_n 3, 1, []), (709, .iconst 1, 1, []), (710, .iadd, 1, []), (711, .iaload, 1, [])]
def ft_c0_8 : List (Nat × ft_I) := [(712, .aload_n 0, 1, []), (713, .iload_n 3, 1, []), (714, .iconst 2, 1, []), (715, .iadd, 1, []), (716, .iaload, 1, []), (717, .invokevirtual 90, 3, [0, 204, 1466, 1469, 84, 1467, 1468]), (720, .if_icmp .eq 333, 3, []), (723, .iconst 0, 1, []), (724, .ireturn, 1, []), (725, .aload_n 1, 1, []), (726, .aload_n 0, 1, []), (727, .iload_n 3, 1, []), (728, .iconst 1, 1, []), (729, .iadd, 1, []), (730, .iaload, 1, []), (731, .invokevirtual 91, 3, [0, 121, 922, 925, 71, 923, 924]), (734, .aload_n 2, 1, []), (735, .aload_n 0, 1, []), (736, .iload_n 3, 1, []), (737, .iconst 1, 1, []), (738, .iadd, 1, []), (739, .iaload, 1, []), (740, .invokevirtual 94, 3, [0, 205, 1470, 1473, 84, 1471, 1472]), (743, .if_icmp .eq 310, 3, []), (746, .iconst 0, 1, []), (747, .ireturn, 1, []), (748, .aload_n 1, 1, []), (749, .aload_n 0, 1, []), (750, .iload_n 3, 1, []), (751, .iconst 1, 1, []), (752, .iadd, 1, []), (753, .iaload, 1, []), (754, .aload_n 0, 1, []), (755, .iload_n 3, 1, []), (756, .iconst 2, 1, []), (757, .iadd, 1, []), (758, .iaload, 1, []), (759, .invokevirtual 95, 3, [0, 122, 926, 929, 71, 927, 928]), (762, .aload_n 2, 1, []), (763, .aload_n 0, 1, []), (764, .iload_n 3, 1, []), (765, .iconst 1, 1, []), (766, .iadd, 1, []), (767, .iaload, 1, []), (768, .aload_n 0, 1, []), (769, .iload_n 3, 1, []), (770, .iconst 2, 1, []), (771, .iadd, 1, []), (772, .iaload, 1, []), (773, .invokevirtual 99, 3, [0, 206, 1474, 1477, 84, 1475, 1476]), (776, .lcmp, 1, []), (777, .ifCond .eq 276, 3, []), (780, .iconst 0, 1, []), (781, .ireturn, 1, []), (782, .aload_n 1, 1, []), (783, .aload_n 0, 1, []), (784, .iload_n 3, 1, []), (785, .iconst 1, 1, []), (786, .iadd, 1, []), (787, .iaload, 1, [])]
def ft_c0_9 : List (Nat × ft_I) := [(788, .aload_n 0, 1, []), (789, .iload_n 3, 1, []), (790, .iconst 2, 1, []), (791, .iadd, 1, []), (792, .iaload, 1, []), (793, .aload_n 0, 1, []), (794, .iload_n 3, 1, []), (795, .iconst 3, 1, []), (796, .iadd, 1, []), (797, .iaload, 1, []), (798, .ifCond .eq 7, 3, []), (801, .iconst 1, 1, []), (802, .goto 4, 3, []), (805, .iconst 0, 1, []), (806, .aload_n 0, 1, []), (807, .iload_n 3, 1, []), (808, .iconst 4, 1, []), (809, .iadd, 1, []), (810, .iaload, 1, []), (811, .invokevirtual 100, 3, [0, 123, 932, 935, 71, 933, 934]), (814, .aload_n 2, 1, []), (815, .aload_n 0, 1, []), (816, .iload_n 3, 1, []), (817, .iconst 1, 1, []), (818, .iadd, 1, []), (819, .iaload, 1, []), (820, .aload_n 0, 1, []), (821, .iload_n 3, 1, []), (822, .iconst 2, 1, []), (823, .iadd, 1, []), (824, .iaload, 1, []), (825, .aload_n 0, 1, []), (826, .iload_n 3, 1, []), (827, .iconst 3, 1, []), (828, .iadd, 1, []), (829, .iaload, 1, []), (830, .ifCond .eq 7, 3, []), (833, .iconst 1, 1, []), (834, .goto 4, 3, []), (837, .iconst 0, 1, []), (838, .aload_n 0, 1, []), (839, .iload_n 3, 1, []), (840, .iconst 4, 1, []), (841, .iadd, 1, []), (842, .iaload, 1, []), (843, .invokevirtual 104, 3, [0, 207, 1481, 1484, 84, 1482, 1483]), (846, .if_icmp .eq 207, 3, []), (849, .iconst 0, 1, []), (850, .ireturn, 1, []), (851, .aload_n 1, 1, []), (852, .aload_n 0, 1, []), (853, .iload_n 3, 1, []), (854, .iconst 1, 1, []), (855, .iadd, 1, []), (856, .iaload, 1, []), (857, .aload_n 0, 1, []), (858, .iload_n 3, 1, []), (859, .iconst 2, 1, []), (860, .iadd, 1, []), (861, .iaload, 1, [])]
def ft_c0_10 : List (Nat × ft_I) := [(862, .invokevirtual 105, 3, [0, 124, 938, 941, 71, 939, 940]), (865, .aload_n 2, 1, []), (866, .aload_n 0, 1, []), (867, .iload_n 3, 1, []), (868, .iconst 1, 1, []), (869, .iadd, 1, []), (870, .iaload, 1, []), (871, .aload_n 0, 1, []), (872, .iload_n 3, 1, []), (873, .iconst 2, 1, []), (874, .iadd, 1, []), (875, .iaload, 1, []), (876, .invokevirtual 108, 3, [0, 208, 1485, 1488, 84, 1486, 1487]), (879, .if_icmp .eq 174, 3, []), (882, .iconst 0, 1, []), (883, .ireturn, 1, []), (884, .aload_n 1, 1, []), (885, .aload_n 0, 1, []), (886, .iload_n 3, 1, []), (887, .iconst 1, 1, []), (888, .iadd, 1, []), (889, .iaload, 1, []), (890, .aload_n 0, 1, []), (891, .iload_n 3, 1, []), (892, .iconst 2, 1, []), (893, .iadd, 1, []), (894, .iaload, 1, []), (895, .aload_n 0, 1, []), (896, .iload_n 3, 1, []), (897, .iconst 3, 1, []), (898, .iadd, 1, []), (899, .iaload, 1, []), (900, .invokevirtual 109, 3, [0, 125, 942, 945, 71, 943, 944]), (903, .aload_n 2, 1, []), (904, .aload_n 0, 1, []), (905, .iload_n 3, 1, []), (906, .iconst 1, 1, []), (907, .iadd, 1, []), (908, .iaload, 1, []), (909, .aload_n 0, 1, []), (910, .iload_n 3, 1, []), (911, .iconst 2, 1, []), (912, .iadd, 1, []), (913, .iaload, 1, []), (914, .aload_n 0, 1, []), (915, .iload_n 3, 1, []), (916, .iconst 3, 1, []), (917, .iadd, 1, []), (918, .iaload, 1, []), (919, .invokevirtual 112, 3, [0, 209, 1489, 1492, 84, 1490, 1491]), (922, .if_icmp .eq 131, 3, []), (925, .iconst 0, 1, []), (926, .ireturn, 1, []), (927, .aload_n 1, 1, []), (928, .aload_n 0, 1, []), (929, .iload_n 3, 1, []), (930, .iconst 1, 1, []), (931, .iadd, 1, []), (932, .iaload, 1, []), (933, .aload_n 0, 1, [])]
def ft_c0_11 : List (Nat × ft_I) := [(934, .iload_n 3, 1, []), (935, .iconst 2, 1, []), (936, .iadd, 1, []), (937, .iaload, 1, []), (938, .i2l, 1, []), (939, .bipush 32, 2, []), (941, .lshl, 1, []), (942, .aload_n 0, 1, []), (943, .iload_n 3, 1, []), (944, .iconst 3, 1, []), (945, .iadd, 1, []), (946, .iaload, 1, []), (947, .i2l, 1, []), (948, .ldc2_w 35, 3, [1501, 4294967295]), (951, .land, 1, []), (952, .lor, 1, []), (953, .invokevirtual 113, 3, [0, 128, 954, 957, 71, 955, 956]), (956, .aload_n 2, 1, []), (957, .aload_n 0, 1, []), (958, .iload_n 3, 1, []), (959, .iconst 1, 1, []), (960, .iadd, 1, []), (961, .iaload, 1, []), (962, .aload_n 0, 1, []), (963, .iload_n 3, 1, []), (964, .iconst 2, 1, []), (965, .iadd, 1, []), (966, .iaload, 1, []), (967, .i2l, 1, []), (968, .bipush 32, 2, []), (970, .lshl, 1, []), (971, .aload_n 0, 1, []), (972, .iload_n 3, 1, []), (973, .iconst 3, 1, []), (974, .iadd, 1, []), (975, .iaload, 1, []), (976, .i2l, 1, []), (977, .ldc2_w 35, 3, [1501, 4294967295]), (980, .land, 1, []), (981, .lor, 1, []), (982, .invokevirtual 117, 3, [0, 210, 1493, 1496, 84, 1494, 1495]), (985, .if_icmp .eq 68, 3, []), (988, .iconst 0, 1, []), (989, .ireturn, 1, []), (990, .aload_n 1, 1, []), (991, .aload_n 0, 1, []), (992, .iload_n 3, 1, []), (993, .iconst 1, 1, []), (994, .iadd, 1, []), (995, .iaload, 1, []), (996, .aload_n 0, 1, []), (997, .iload_n 3, 1, []), (998, .iconst 2, 1, []), (999, .iadd, 1, []), (1000, .iaload, 1, []), (1001, .i2l, 1, []), (1002, .bipush 32, 2, []), (1004, .lshl, 1, []), (1005, .aload_n 0, 1, []), (1006, .iload_n 3, 1, [])]
def ft_c0_12 : List (Nat × ft_I) := [(1007, .iconst 3, 1, []), (1008, .iadd, 1, []), (1009, .iaload, 1, []), (1010, .i2l, 1, []), (1011, .ldc2_w 35, 3, [1501, 4294967295]), (1014, .land, 1, []), (1015, .lor, 1, []), (1016, .invokevirtual 118, 3, [0, 129, 960, 963, 71, 961, 962]), (1019, .aload_n 2, 1, []), (1020, .aload_n 0, 1, []), (1021, .iload_n 3, 1, []), (1022, .iconst 1, 1, []), (1023, .iadd, 1, []), (1024, .iaload, 1, []), (1025, .aload_n 0, 1, []), (1026, .iload_n 3, 1, []), (1027, .iconst 2, 1, []), (1028, .iadd, 1, []), (1029, .iaload, 1, []), (1030, .i2l, 1, []), (1031, .bipush 32, 2, []), (1033, .lshl, 1, []), (1034, .aload_n 0, 1, []), (1035, .iload_n 3, 1, []), (1036, .iconst 3, 1, []), (1037, .iadd, 1, []), (1038, .iaload, 1, []), (1039, .i2l, 1, []), (1040, .ldc2_w 35, 3, [1501, 4294967295]), (1043, .land, 1, []), (1044, .lor, 1, []), (1045, .invokevirtual 121, 3, [0, 211, 1497, 1500, 84, 1498, 1499]), (1048, .if_icmp .eq 5, 3, []), (1051, .iconst 0, 1, []), (1052, .ireturn, 1, []), (1053, .iinc 3 6, 3, []), (1056, .goto (-1004), 3, []), (1059, .iconst 1, 1, []), (1060, .ireturn, 1, [])]
def ft_c0 : List (Nat × ft_I) := ft_c0_0 ++ (ft_c0_1 ++ (ft_c0_2 ++ (ft_c0_3 ++ (ft_c0_4 ++ (ft_c0_5 ++ (ft_c0_6 ++ (ft_c0_7 ++ (ft_c0_8 ++ (ft_c0_9 ++ (ft_c0_10 ++ (ft_c0_11 ++ (ft_c0_12))))))))))))
def ft_c1 : List (Nat × ft_I) := [(0, .aload_n 0, 1, []), (1, .invokespecial 1, 3, [91, 92, 93]), (4, .aload_n 0, 1, []), (5, .iconst 2, 1, []), (6, .anewarray 7, 3, [17, 94, 95, 5]), (9, .putfield 9, 3, [474, 0, 1]), (12, .aload_n 0, 1, []), (13, .sipush 220, 3, []), (16, .newarray .int, 2, [18, 133]), (18, .putfield 15, 3, [475, 0, 2]), (21, .aload_n 0, 1, []), (22, .new 19, 3, [8, 96, 97, 72]), (25, .dup, 1, []), (26, .iconst 1, 1, []), (27, .iload 5, 2, []), (29, .iconst 5, 1, []), (30, .invokestatic 21, 3, [0, 2, 98, 100, 73, 99]), (33, .iadd, 1, []), (34, .invokespecial 27, 3, [0, 3, 101, 103, 72, 102]), (37, .putfield 30, 3, [473, 0, 0]), (40, .aload_n 0, 1, []), (41, .getfield 9, 3, [474, 0, 1]), (44, .iconst 0, 1, []), (45, .new 7, 3, [5, 94, 160, 75]), (48, .dup, 1, []), (49, .iconst 0, 1, []), (50, .lload_n 1, 1, []), (51, .ldc2_w 34, 3, [161, 281474976710655]), (54, .land, 1, []), (55, .aload_n 0, 1, []), (56, .getfield 30, 3, [473, 0, 0]), (59, .invokespecial 36, 3, [0, 5, 162, 164, 75, 163]), (62, .aastore, 1, [5]), (63, .aload_n 0, 1, []), (64, .getfield 9, 3, [474, 0, 1]), (67, .iconst 1, 1, []), (68, .new 7, 3, [5, 94, 160, 75]), (71, .dup, 1, []), (72, .iconst 1, 1, []), (73, .lload_n 3, 1, []), (74, .ldc2_w 34, 3, [161, 281474976710655]), (77, .land, 1, []), (78, .aload_n 0, 1, []), (79, .getfield 30, 3, [473, 0, 0]), (82, .invokespecial 36, 3, [0, 5, 162, 164, 75, 163]), (85, .aastore, 1, [5]), (86, .return_, 1, [])]
def ft_c2 : List (Nat × ft_I) := [(0, .iload_n 0, 1, []), (1, .iload_n 1, 1, []), (2, .irem, 1, []), (3, .istore_n 2, 1, []), (4, .iload_n 0, 1, []), (5, .iload_n 1, 1, []), (6, .ixor, 1, []), (7, .ifCond .ge 11, 3, []), (10, .iload_n 2, 1, []), (11, .ifCond .eq 7, 3, []), (14, .iload_n 2, 1, []), (15, .iload_n 1, 1, []), (16, .iadd, 1, []), (17, .ireturn, 1, []), (18, .iload_n 2, 1, []), (19, .ireturn, 1, [])]
def ft_c3 : List (Nat × ft_I) := [(0, .aload_n 0, 1, []), (1, .invokespecial 3, 3, [104, 92, 93]), (4, .aload_n 0, 1, []), (5, .bipush 60, 2, []), (7, .anewarray 9, 3, [26, 105, 106, 9]), (10, .putfield 11, 3, [134, 8, 0]), (13, .aload_n 0, 1, []), (14, .new 9, 3, [9, 105, 107, 74]), (17, .dup, 1, []), (18, .invokespecial 17, 3, [1, 4, 108, 110, 74, 109]), (21, .putfield 18, 3, [143, 8, 4]), (24, .aload_n 0, 1, []), (25, .new 9, 3, [9, 105, 107, 74]), (28, .dup, 1, []), (29, .invokespecial 17, 3, [1, 4, 108, 110, 74, 109]), (32, .putfield 22, 3, [146, 8, 5]), (35, .aload_n 0, 1, []), (36, .iload_n 1, 1, []), (37, .putfield 25, 3, [136, 8, 1]), (40, .iconst 0, 1, []), (41, .istore_n 2, 1, []), (42, .iload_n 2, 1, []), (43, .aload_n 0, 1, []), (44, .getfield 11, 3, [134, 8, 0]), (47, .arraylength, 1, []), (48, .if_icmp .ge 22, 3, []), (51, .aload_n 0, 1, []), (52, .getfield 11, 3, [134, 8, 0]), (55, .iload_n 2, 1, []), (56, .new 9, 3, [9, 105, 107, 74]), (59, .dup, 1, []), (60, .invokespecial 17, 3, [1, 4, 108, 110, 74, 109]), (63, .aastore, 1, [9]), (64, .iinc 2 1, 3, []), (67, .goto (-25), 3, []), (70, .return_, 1, [])]
def ft_c4 : List (Nat × ft_I) := [(0, .aload_n 0, 1, []), (1, .invokespecial 3, 3, [111, 92, 93]), (4, .aload_n 0, 1, []), (5, .sipush 220, 3, []), (8, .newarray .int, 2, [27, 133]), (10, .putfield 9, 3, [112, 9, 0]), (13, .return_, 1, [])]
def ft_c5 : List (Nat × ft_I) := [(0, .aload_n 0, 1, []), (1, .invokespecial 3, 3, [165, 92, 93]), (4, .aload_n 0, 1, []), (5, .new 9, 3, [10, 166, 167, 76]), (8, .dup, 1, []), (9, .invokespecial 11, 3, [1, 6, 168, 170, 76, 169]), (12, .putfield 12, 3, [411, 5, 3]), (15, .aload_n 0, 1, []), (16, .new 18, 3, [7, 198, 199, 77]), (19, .dup, 1, []), (20, .invokespecial 20, 3, [1, 7, 200, 202, 77, 201]), (23, .putfield 21, 3, [413, 5, 4]), (26, .aload_n 0, 1, []), (27, .new 25, 3, [4, 238, 239, 78]), (30, .dup, 1, []), (31, .bipush 20, 2, []), (33, .invokespecial 27, 3, [0, 8, 240, 242, 78, 241]), (36, .putfield 30, 3, [415, 5, 5]), (39, .aload_n 0, 1, []), (40, .new 25, 3, [4, 238, 239, 78]), (43, .dup, 1, []), (44, .bipush 40, 2, []), (46, .invokespecial 27, 3, [0, 8, 240, 242, 78, 241]), (49, .putfield 34, 3, [417, 5, 6]), (52, .aload_n 0, 1, []), (53, .iconst 5, 1, []), (54, .newarray .int, 2, [24, 133]), (56, .putfield 37, 3, [419, 5, 7]), (59, .aload_n 0, 1, []), (60, .iconst (-1), 1, []), (61, .putfield 41, 3, [421, 5, 8]), (64, .aload_n 0, 1, []), (65, .iconst (-1), 1, []), (66, .putfield 45, 3, [423, 5, 9]), (69, .aload_n 0, 1, []), (70, .iload_n 1, 1, []), (71, .putfield 48, 3, [407, 5, 0]), (74, .aload_n 0, 1, []), (75, .aload 4, 2, []), (77, .putfield 51, 3, [408, 5, 1]), (80, .aload_n 0, 1, []), (81, .lload_n 2, 1, []), (82, .putfield 55, 3, [427, 5, 11]), (85, .aload_n 0, 1, []), (86, .new 59, 3, [1, 264, 265, 79]), (89, .dup, 1, []), (90, .iload_n 1, 1, []), (91, .iconst 1, 1, []), (92, .if_icmp .ne 7, 3, []), (95, .iconst 1, 1, []), (96, .goto 4, 3, []), (99, .iconst 0, 1, []), (100, .invokespecial 61, 3, [0, 10, 266, 268, 79, 267]), (103, .putfield 64, 3, [409, 5, 2]), (106, .aload_n 0, 1, []), (107, .iconst 0, 1, []), (108, .invokevirtual 68, 3, [0, 14, 361, 364, 75, 362, 363]), (111, .return_, 1, [])]
def ft_c6 : List (Nat × ft_I) := [(0, .aload_n 0, 1, []), (1, .invokespecial 3, 3, [171, 92, 93]), (4, .aload_n 0, 1, []), (5, .sipush 256, 3, []), (8, .newarray .byte, 2, [28, 196]), (10, .putfield 9, 3, [181, 10, 4]), (13, .aload_n 0, 1, []), (14, .sipush 256, 3, []), (17, .newarray .long, 2, [29, 197]), (19, .putfield 15, 3, [182, 10, 5]), (22, .return_, 1, [])]
def ft_c7 : List (Nat × ft_I) := [(0, .aload_n 0, 1, []), (1, .invokespecial 3, 3, [203, 92, 93]), (4, .aload_n 0, 1, []), (5, .sipush 256, 3, []), (8, .newarray .byte, 2, [25, 196]), (10, .putfield 9, 3, [204, 7, 0]), (13, .return_, 1, [])]
def ft_c8 : List (Nat × ft_I) := [(0, .aload_n 0, 1, []), (1, .invokespecial 3, 3, [243, 92, 93]), (4, .aload_n 0, 1, []), (5, .iconst 1, 1, []), (6, .iload_n 1, 1, []), (7, .invokestatic 9, 3, [0, 9, 244, 246, 73, 245]), (10, .putfield 15, 3, [247, 4, 0]), (13, .aload_n 0, 1, []), (14, .aload_n 0, 1, []), (15, .getfield 15, 3, [247, 4, 0]), (18, .bipush 40, 2, []), (20, .imul, 1, []), (21, .newarray .int, 2, [22, 133]), (23, .putfield 21, 3, [248, 4, 1]), (26, .aload_n 0, 1, []), (27, .aload_n 0, 1, []), (28, .getfield 15, 3, [247, 4, 0]), (31, .newarray .int, 2, [23, 133]), (33, .putfield 25, 3, [249, 4, 2]), (36, .return_, 1, [])]
def ft_c9 : List (Nat × ft_I) := [(0, .iload_n 0, 1, []), (1, .iload_n 1, 1, []), (2, .if_icmp .lt 7, 3, []), (5, .iload_n 0, 1, []), (6, .goto 4, 3, []), (9, .iload_n 1, 1, []), (10, .ireturn, 1, [])]
def ft_c10 : List (Nat × ft_I) := [(0, .aload_n 0, 1, []), (1, .invokespecial 3, 3, [269, 92, 93]), (4, .aload_n 0, 1, []), (5, .bipush 8, 2, []), (7, .anewarray 11, 3, [19, 270, 271, 6]), (10, .putfield 13, 3, [343, 1, 1]), (13, .aload_n 0, 1, []), (14, .new 17, 3, [3, 272, 273, 80]), (17, .dup, 1, []), (18, .invokespecial 19, 3, [1, 11, 274, 276, 80, 275]), (21, .putfield 20, 3, [344, 1, 2]), (24, .aload_n 0, 1, []), (25, .new 24, 3, [2, 288, 289, 81]), (28, .dup, 1, []), (29, .invokespecial 26, 3, [1, 12, 290, 292, 81, 291]), (32, .putfield 27, 3, [347, 1, 3]), (35, .aload_n 0, 1, []), (36, .iload_n 1, 1, []), (37, .putfield 31, 3, [342, 1, 0]), (40, .iconst 0, 1, []), (41, .istore_n 2, 1, []), (42, .iload_n 2, 1, []), (43, .aload_n 0, 1, []), (44, .getfield 13, 3, [343, 1, 1]), (47, .arraylength, 1, []), (48, .if_icmp .ge 27, 3, []), (51, .aload_n 0, 1, []), (52, .getfield 13, 3, [343, 1, 1]), (55, .iload_n 2, 1, []), (56, .new 11, 3, [6, 270, 305, 82]), (59, .dup, 1, []), (60, .iconst 1, 1, []), (61, .iload_n 2, 1, []), (62, .iconst 4, 1, []), (63, .irem, 1, []), (64, .iadd, 1, []), (65, .invokespecial 35, 3, [0, 13, 306, 308, 82, 307]), (68, .aastore, 1, [6]), (69, .iinc 2 1, 3, []), (72, .goto (-30), 3, []), (75, .return_, 1, [])]
def ft_c11 : List (Nat × ft_I) := [(0, .aload_n 0, 1, []), (1, .invokespecial 3, 3, [277, 92, 93]), (4, .aload_n 0, 1, []), (5, .bipush 84, 2, []), (7, .newarray .int, 2, [21, 133]), (9, .putfield 11, 3, [278, 3, 0]), (12, .return_, 1, [])]
def ft_c12 : List (Nat × ft_I) := [(0, .aload_n 0, 1, []), (1, .invokespecial 3, 3, [293, 92, 93]), (4, .aload_n 0, 1, []), (5, .iconst 3, 1, []), (6, .newarray .int, 2, [20, 133]), (8, .putfield 9, 3, [294, 2, 0]), (11, .return_, 1, [])]
def ft_c13 : List (Nat × ft_I) := [(0, .aload_n 0, 1, []), (1, .invokespecial 3, 3, [309, 92, 93]), (4, .aload_n 0, 1, []), (5, .new 9, 3, [2, 310, 289, 81]), (8, .dup, 1, []), (9, .invokespecial 11, 3, [1, 12, 311, 292, 81, 291]), (12, .putfield 12, 3, [314, 6, 1]), (15, .aload_n 0, 1, []), (16, .iload_n 1, 1, []), (17, .putfield 18, 3, [312, 6, 0]), (20, .return_, 1, [])]
def ft_c14 : List (Nat × ft_I) := [(0, .aload_n 0, 1, []), (1, .iload_n 1, 1, []), (2, .invokevirtual 71, 3, [0, 15, 365, 368, 75, 367, 0]), (5, .aload_n 0, 1, []), (6, .aload_n 0, 1, []), (7, .getfield 55, 3, [427, 5, 11]), (10, .putfield 74, 3, [429, 5, 12]), (13, .aload_n 0, 1, []), (14, .getfield 64, 3, [409, 5, 2]), (17, .invokevirtual 77, 3, [0, 16, 369, 372, 79, 370, 371]), (20, .aload_n 0, 1, []), (21, .getfield 12, 3, [411, 5, 3]), (24, .invokevirtual 79, 3, [0, 20, 386, 389, 76, 387, 388]), (27, .aload_n 0, 1, []), (28, .getfield 21, 3, [413, 5, 4]), (31, .invokevirtual 80, 3, [0, 23, 397, 400, 77, 398, 399]), (34, .aload_n 0, 1, []), (35, .getfield 30, 3, [415, 5, 5]), (38, .invokevirtual 81, 3, [0, 24, 403, 406, 78, 404, 405]), (41, .aload_n 0, 1, []), (42, .iconst 0, 1, []), (43, .putfield 84, 3, [434, 5, 16]), (46, .return_, 1, [])]
def ft_c15 : List (Nat × ft_I) := [(0, .aload_n 0, 1, []), (1, .iload_n 1, 1, []), (2, .putfield 87, 3, [426, 5, 10]), (5, .aload_n 0, 1, []), (6, .aload_n 0, 1, []), (7, .getfield 51, 3, [408, 5, 1]), (10, .getfield 90, 3, [138, 8, 2]), (13, .putfield 95, 3, [431, 5, 13]), (16, .aload_n 0, 1, []), (17, .iconst 1, 1, []), (18, .putfield 98, 3, [432, 5, 14]), (21, .return_, 1, [])]
def ft_c16 : List (Nat × ft_I) := [(0, .iconst 0, 1, []), (1, .istore_n 1, 1, []), (2, .iload_n 1, 1, []), (3, .aload_n 0, 1, []), (4, .getfield 13, 3, [343, 1, 1]), (7, .arraylength, 1, []), (8, .if_icmp .ge 18, 3, []), (11, .aload_n 0, 1, []), (12, .getfield 13, 3, [343, 1, 1]), (15, .iload_n 1, 1, []), (16, .aaload, 1, []), (17, .invokevirtual 38, 3, [0, 17, 373, 376, 82, 374, 375]), (20, .iinc 1 1, 3, []), (23, .goto (-21), 3, []), (26, .aload_n 0, 1, []), (27, .getfield 20, 3, [344, 1, 2]), (30, .iconst 0, 1, []), (31, .putfield 41, 3, [280, 3, 1]), (34, .aload_n 0, 1, []), (35, .iconst 0, 1, []), (36, .putfield 45, 3, [349, 1, 4]), (39, .return_, 1, [])]
def ft_c17 : List (Nat × ft_I) := [(0, .aload_n 0, 1, []), (1, .aload_n 0, 1, []), (2, .getfield 18, 3, [312, 6, 0]), (5, .invokestatic 22, 3, [1, 18, 377, 379, 71, 378]), (8, .ifCond .eq 16, 3, []), (11, .getstatic 26, 3, [380, 0]), (14, .aload_n 0, 1, []), (15, .getfield 18, 3, [312, 6, 0]), (18, .iconst 1, 1, []), (19, .isub, 1, []), (20, .iaload, 1, []), (21, .goto 4, 3, []), (24, .iconst 0, 1, []), (25, .putfield 30, 3, [317, 6, 2]), (28, .aload_n 0, 1, []), (29, .getfield 12, 3, [314, 6, 1]), (32, .iconst 0, 1, []), (33, .putfield 33, 3, [296, 2, 1]), (36, .aload_n 0, 1, []), (37, .getfield 12, 3, [314, 6, 1]), (40, .aload_n 0, 1, []), (41, .getfield 30, 3, [317, 6, 2]), (44, .invokevirtual 36, 3, [0, 19, 382, 385, 81, 383, 384]), (47, .aload_n 0, 1, []), (48, .getfield 18, 3, [312, 6, 0]), (51, .iconst 3, 1, []), (52, .if_icmp .ne 11, 3, []), (55, .aload_n 0, 1, []), (56, .getfield 12, 3, [314, 6, 1]), (59, .iconst 0, 1, []), (60, .invokevirtual 36, 3, [0, 19, 382, 385, 81, 383, 384]), (63, .aload_n 0, 1, []), (64, .getfield 18, 3, [312, 6, 0]), (67, .iconst 4, 1, []), (68, .if_icmp .ne 11, 3, []), (71, .aload_n 0, 1, []), (72, .getfield 12, 3, [314, 6, 1]), (75, .iconst 2, 1, []), (76, .invokevirtual 36, 3, [0, 19, 382, 385, 81, 383, 384]), (79, .aload_n 0, 1, []), (80, .iconst 0, 1, []), (81, .putfield 40, 3, [320, 6, 3]), (84, .aload_n 0, 1, []), (85, .iconst 0, 1, []), (86, .putfield 44, 3, [323, 6, 4]), (89, .aload_n 0, 1, []), (90, .iconst 0, 1, []), (91, .putfield 47, 3, [325, 6, 5]), (94, .aload_n 0, 1, []), (95, .lconst 0, 1, []), (96, .putfield 50, 3, [326, 6, 6]), (99, .return_, 1, [])]
def ft_c18 : List (Nat × ft_I) := [(0, .iload_n 0, 1, []), (1, .iconst 1, 1, []), (2, .if_icmp .lt 12, 3, []), (5, .iload_n 0, 1, []), (6, .iconst 4, 1, []), (7, .if_icmp .gt 7, 3, []), (10, .iconst 1, 1, []), (11, .goto 4, 3, []), (14, .iconst 0, 1, []), (15, .ireturn, 1, [])]
def ft_c19 : List (Nat × ft_I) := [(0, .aload_n 0, 1, []), (1, .getfield 15, 3, [295, 2, 1]), (4, .aload_n 0, 1, []), (5, .getfield 9, 3, [294, 2, 0]), (8, .arraylength, 1, []), (9, .if_icmp .ge 20, 3, []), (12, .aload_n 0, 1, []), (13, .getfield 9, 3, [294, 2, 0]), (16, .aload_n 0, 1, []), (17, .dup, 1, []), (18, .getfield 15, 3, [295, 2, 1]), (21, .dup_x1, 1, []), (22, .iconst 1, 1, []), (23, .iadd, 1, []), (24, .putfield 15, 3, [295, 2, 1]), (27, .iload_n 1, 1, []), (28, .iastore, 1, []), (29, .return_, 1, [])]
def ft_c20 : List (Nat × ft_I) := [(0, .aload_n 0, 1, []), (1, .iconst 0, 1, []), (2, .putfield 19, 3, [172, 10, 0]), (5, .aload_n 0, 1, []), (6, .lconst 0, 1, []), (7, .putfield 23, 3, [174, 10, 1]), (10, .aload_n 0, 1, []), (11, .lconst 0, 1, []), (12, .putfield 27, 3, [176, 10, 2]), (15, .aload_n 0, 1, []), (16, .lconst 0, 1, []), (17, .putfield 30, 3, [179, 10, 3]), (20, .aload_n 0, 1, []), (21, .getfield 9, 3, [181, 10, 4]), (24, .iconst 0, 1, []), (25, .invokestatic 33, 3, [0, 21, 390, 392, 83, 391]), (28, .aload_n 0, 1, []), (29, .getfield 15, 3, [182, 10, 5]), (32, .ldc2_w 39, 3, [393, 18446744073709551615]), (35, .invokestatic 41, 3, [0, 22, 394, 396, 83, 395]), (38, .return_, 1, [])]
def ft_c21 : List (Nat × ft_I) := [(0, .iconst 0, 1, []), (1, .istore_n 2, 1, []), (2, .aload_n 0, 1, []), (3, .arraylength, 1, []), (4, .istore_n 3, 1, []), (5, .iload_n 2, 1, []), (6, .iload_n 3, 1, []), (7, .if_icmp .ge 13, 3, []), (10, .aload_n 0, 1, []), (11, .iload_n 2, 1, []), (12, .iload_n 1, 1, []), (13, .bastore, 1, [0]), (14, .iinc 2 1, 3, []), (17, .goto (-12), 3, []), (20, .return_, 1, [])]
def ft_c22 : List (Nat × ft_I) := [(0, .iconst 0, 1, []), (1, .istore_n 3, 1, []), (2, .aload_n 0, 1, []), (3, .arraylength, 1, []), (4, .istore 4, 2, []), (6, .iload_n 3, 1, []), (7, .iload 4, 2, []), (9, .if_icmp .ge 13, 3, []), (12, .aload_n 0, 1, []), (13, .iload_n 3, 1, []), (14, .lload_n 1, 1, []), (15, .lastore, 1, []), (16, .iinc 3 1, 3, []), (19, .goto (-13), 3, []), (22, .return_, 1, [])]
def ft_c23 : List (Nat × ft_I) := [(0, .aload_n 0, 1, []), (1, .getfield 9, 3, [204, 7, 0]), (4, .iconst 0, 1, []), (5, .invokestatic 15, 3, [0, 21, 401, 392, 83, 391]), (8, .aload_n 0, 1, []), (9, .iconst 0, 1, []), (10, .putfield 21, 3, [206, 7, 1]), (13, .aload_n 0, 1, []), (14, .iconst 3, 1, []), (15, .putfield 25, 3, [209, 7, 2]), (18, .aload_n 0, 1, []), (19, .bipush 64, 2, []), (21, .putfield 28, 3, [212, 7, 3]), (24, .aload_n 0, 1, []), (25, .bipush 8, 2, []), (27, .putfield 31, 3, [214, 7, 4]), (30, .aload_n 0, 1, []), (31, .iconst 0, 1, []), (32, .putfield 34, 3, [216, 7, 5]), (35, .aload_n 0, 1, []), (36, .ldc2_w 37, 3, [402, 18446744073709551615]), (39, .putfield 39, 3, [218, 7, 6]), (42, .aload_n 0, 1, []), (43, .iconst 0, 1, []), (44, .putfield 43, 3, [220, 7, 7]), (47, .return_, 1, [])]
def ft_c24 : List (Nat × ft_I) := [(0, .aload_n 0, 1, []), (1, .iconst 0, 1, []), (2, .putfield 28, 3, [250, 4, 3]), (5, .aload_n 0, 1, []), (6, .iconst 0, 1, []), (7, .putfield 31, 3, [252, 4, 4]), (10, .return_, 1, [])]
def ft_c25 : List (Nat × ft_I) := [(0, .aload_n 0, 1, []), (1, .getfield 9, 3, [474, 0, 1]), (4, .iconst 0, 1, []), (5, .aaload, 1, []), (6, .getfield 39, 3, [425, 5, 10]), (9, .ifCond .eq 6, 3, []), (12, .bipush (-103), 2, []), (14, .ireturn, 1, []), (15, .aload_n 0, 1, []), (16, .getfield 9, 3, [474, 0, 1]), (19, .iconst 0, 1, []), (20, .aaload, 1, []), (21, .iconst 2, 1, []), (22, .invokevirtual 43, 3, [0, 14, 490, 364, 75, 362, 363]), (25, .aload_n 0, 1, []), (26, .getfield 9, 3, [474, 0, 1]), (29, .iconst 0, 1, []), (30, .aaload, 1, []), (31, .iconst 0, 1, []), (32, .lconst 0, 1, []), (33, .iconst 0, 1, []), (34, .invokevirtual 46, 3, [0, 26, 491, 494, 75, 492, 493]), (37, .iconst 1, 1, []), (38, .ireturn, 1, [])]
def ft_c26_0 : List (Nat × ft_I) := [(0, .aload_n 0, 1, []), (1, .getfield 51, 3, [408, 5, 1]), (4, .getfield 111, 3, [144, 8, 4]), (7, .astore 5, 2, []), (9, .aload 5, 2, []), (11, .iload_n 1, 1, []), (12, .aload_n 0, 1, []), (13, .getfield 55, 3, [427, 5, 11]), (16, .lload_n 2, 1, []), (17, .invokevirtual 115, 3, [0, 27, 495, 498, 74, 496, 497]), (20, .iconst 0, 1, []), (21, .istore 6, 2, []), (23, .iload_n 1, 1, []), (24, .bipush 7, 2, []), (26, .if_icmp .ne 19, 3, []), (29, .aload 5, 2, []), (31, .iload 4, 2, []), (33, .invokevirtual 121, 3, [0, 30, 507, 510, 74, 508, 509]), (36, .aload_n 0, 1, []), (37, .iload 4, 2, []), (39, .putfield 41, 3, [421, 5, 8]), (42, .goto 108, 3, []), (45, .iload_n 1, 1, []), (46, .iconst 2, 1, []), (47, .if_icmp .eq 103, 3, []), (50, .aload_n 0, 1, []), (51, .getfield 64, 3, [409, 5, 2]), (54, .getfield 124, 3, [345, 1, 2]), (57, .aload 5, 2, []), (59, .invokevirtual 128, 3, [0, 31, 511, 514, 80, 512, 513]), (62, .aload_n 0, 1, []), (63, .getfield 64, 3, [409, 5, 2]), (66, .aload 5, 2, []), (68, .aload_n 0, 1, []), (69, .getfield 51, 3, [408, 5, 1]), (72, .getfield 90, 3, [138, 8, 2]), (75, .invokevirtual 134, 3, [0, 32, 516, 519, 79, 517, 518]), (78, .iload_n 1, 1, []), (79, .iconst 3, 1, []), (80, .if_icmp .eq 8, 3, []), (83, .iload_n 1, 1, []), (84, .iconst 4, 1, []), (85, .if_icmp .ne 20, 3, []), (88, .aload_n 0, 1, []), (89, .getfield 64, 3, [409, 5, 2]), (92, .iconst 1, 1, []), (93, .iconst 3, 1, []), (94, .invokevirtual 138, 3, [0, 34, 525, 528, 79, 526, 527]), (97, .iconst 1, 1, []), (98, .if_icmp .ne 7, 3, []), (101, .iconst 1, 1, []), (102, .goto 4, 3, []), (105, .iconst 0, 1, []), (106, .istore 7, 2, []), (108, .iload 7, 2, []), (110, .ifCond .eq 19, 3, []), (113, .aload_n 0, 1, []), (114, .getfield 12, 3, [411, 5, 3]), (117, .aload 5, 2, []), (119, .invokevirtual 142, 3, [0, 36, 533, 536, 76, 534, 535])]
def ft_c26_1 : List (Nat × ft_I) := [(122, .ifCond .eq 7, 3, []), (125, .iconst 1, 1, []), (126, .goto 4, 3, []), (129, .iconst 0, 1, []), (130, .istore 6, 2, []), (132, .aload 5, 2, []), (134, .getfield 146, 3, [113, 9, 0]), (137, .iconst 1, 1, []), (138, .aload 5, 2, []), (140, .getfield 149, 3, [117, 9, 1]), (143, .aload 5, 2, []), (145, .invokevirtual 152, 3, [0, 39, 556, 551, 74, 549, 550]), (148, .isub, 1, []), (149, .iastore, 1, []), (150, .aload 5, 2, []), (152, .invokevirtual 156, 3, [0, 41, 557, 560, 74, 558, 559]), (155, .ifCond .eq 12, 3, []), (158, .aload_n 0, 1, []), (159, .getfield 30, 3, [415, 5, 5]), (162, .aload 5, 2, []), (164, .invokevirtual 160, 3, [0, 42, 561, 564, 78, 562, 563]), (167, .iload_n 1, 1, []), (168, .iconst 3, 1, []), (169, .if_icmp .eq 8, 3, []), (172, .iload_n 1, 1, []), (173, .iconst 4, 1, []), (174, .if_icmp .ne 8, 3, []), (177, .aload_n 0, 1, []), (178, .iconst 0, 1, []), (179, .putfield 84, 3, [434, 5, 16]), (182, .iload_n 1, 1, []), (183, .bipush 8, 2, []), (185, .if_icmp .ne 14, 3, []), (188, .aload_n 0, 1, []), (189, .aload_n 0, 1, []), (190, .getfield 51, 3, [408, 5, 1]), (193, .getfield 90, 3, [138, 8, 2]), (196, .putfield 163, 3, [433, 5, 15]), (199, .aload_n 0, 1, []), (200, .getfield 12, 3, [411, 5, 3]), (203, .aload_n 0, 1, []), (204, .getfield 55, 3, [427, 5, 11]), (207, .iload 6, 2, []), (209, .invokevirtual 166, 3, [0, 44, 571, 574, 76, 572, 573]), (212, .aload_n 0, 1, []), (213, .getfield 21, 3, [413, 5, 4]), (216, .aload_n 0, 1, []), (217, .getfield 55, 3, [427, 5, 11]), (220, .aload 5, 2, []), (222, .invokevirtual 156, 3, [0, 41, 557, 560, 74, 558, 559]), (225, .aload_n 0, 1, []), (226, .getfield 51, 3, [408, 5, 1]), (229, .getfield 90, 3, [138, 8, 2]), (232, .invokevirtual 170, 3, [0, 45, 575, 578, 77, 576, 577]), (235, .aload_n 0, 1, []), (236, .aload_n 0, 1, []), (237, .getfield 55, 3, [427, 5, 11]), (240, .lconst 1, 1, []), (241, .ladd, 1, []), (242, .ldc2_w 174, 3, [580, 281474976710655])]
def ft_c26_2 : List (Nat × ft_I) := [(245, .land, 1, []), (246, .putfield 55, 3, [427, 5, 11]), (249, .aload_n 0, 1, []), (250, .getfield 37, 3, [419, 5, 7]), (253, .iconst 0, 1, []), (254, .dup2, 1, []), (255, .iaload, 1, []), (256, .iconst 1, 1, []), (257, .iadd, 1, []), (258, .iastore, 1, []), (259, .aload 5, 2, []), (261, .invokevirtual 176, 3, [0, 46, 581, 584, 74, 582, 583]), (264, .aload_n 0, 1, []), (265, .getfield 51, 3, [408, 5, 1]), (268, .iconst 1, 1, []), (269, .aload_n 0, 1, []), (270, .getfield 48, 3, [407, 5, 0]), (273, .isub, 1, []), (274, .aload_n 0, 1, []), (275, .getfield 51, 3, [408, 5, 1]), (278, .getfield 90, 3, [138, 8, 2]), (281, .aload_n 0, 1, []), (282, .getfield 51, 3, [408, 5, 1]), (285, .getfield 179, 3, [137, 8, 1]), (288, .iadd, 1, []), (289, .invokevirtual 182, 3, [0, 48, 590, 593, 72, 591, 592]), (292, .return_, 1, [])]
def ft_c26 : List (Nat × ft_I) := ft_c26_0 ++ (ft_c26_1 ++ (ft_c26_2))
def ft_c27 : List (Nat × ft_I) := [(0, .aload_n 0, 1, []), (1, .getfield 9, 3, [112, 9, 0]), (4, .iconst 0, 1, []), (5, .iload_n 1, 1, []), (6, .iastore, 1, []), (7, .aload_n 0, 1, []), (8, .getfield 9, 3, [112, 9, 0]), (11, .iconst 1, 1, []), (12, .iconst 0, 1, []), (13, .iastore, 1, []), (14, .aload_n 0, 1, []), (15, .getfield 9, 3, [112, 9, 0]), (18, .iconst 2, 1, []), (19, .iconst 0, 1, []), (20, .iastore, 1, []), (21, .aload_n 0, 1, []), (22, .getfield 9, 3, [112, 9, 0]), (25, .iconst 3, 1, []), (26, .iconst 0, 1, []), (27, .iastore, 1, []), (28, .aload_n 0, 1, []), (29, .iconst 4, 1, []), (30, .putfield 15, 3, [116, 9, 1]), (33, .aload_n 0, 1, []), (34, .lload_n 2, 1, []), (35, .invokevirtual 34, 3, [0, 28, 499, 502, 74, 500, 501]), (38, .aload_n 0, 1, []), (39, .invokevirtual 38, 3, [0, 29, 503, 506, 74, 504, 505]), (42, .ifCond .eq 9, 3, []), (45, .aload_n 0, 1, []), (46, .lload 4, 2, []), (48, .invokevirtual 34, 3, [0, 28, 499, 502, 74, 500, 501]), (51, .return_, 1, [])]
def ft_c28 : List (Nat × ft_I) := [(0, .bipush 40, 2, []), (2, .istore_n 3, 1, []), (3, .iload_n 3, 1, []), (4, .ifCond .lt 45, 3, []), (7, .aload_n 0, 1, []), (8, .getfield 15, 3, [116, 9, 1]), (11, .aload_n 0, 1, []), (12, .getfield 9, 3, [112, 9, 0]), (15, .arraylength, 1, []), (16, .if_icmp .ge 27, 3, []), (19, .aload_n 0, 1, []), (20, .getfield 9, 3, [112, 9, 0]), (23, .aload_n 0, 1, []), (24, .dup, 1, []), (25, .getfield 15, 3, [116, 9, 1]), (28, .dup_x1, 1, []), (29, .iconst 1, 1, []), (30, .iadd, 1, []), (31, .putfield 15, 3, [116, 9, 1]), (34, .lload_n 1, 1, []), (35, .iload_n 3, 1, []), (36, .lshr, 1, []), (37, .l2i, 1, []), (38, .sipush 255, 3, []), (41, .iand, 1, []), (42, .iastore, 1, []), (43, .iinc 3 (-8), 3, []), (46, .goto (-43), 3, []), (49, .return_, 1, [])]
def ft_c29 : List (Nat × ft_I) := [(0, .aload_n 0, 1, []), (1, .getfield 9, 3, [112, 9, 0]), (4, .iconst 0, 1, []), (5, .iaload, 1, []), (6, .ifCond .eq 17, 3, []), (9, .aload_n 0, 1, []), (10, .getfield 9, 3, [112, 9, 0]), (13, .iconst 0, 1, []), (14, .iaload, 1, []), (15, .iconst 2, 1, []), (16, .if_icmp .eq 7, 3, []), (19, .iconst 1, 1, []), (20, .goto 4, 3, []), (23, .iconst 0, 1, []), (24, .ireturn, 1, [])]
def ft_c30 : List (Nat × ft_I) := [(0, .aload_n 0, 1, []), (1, .getfield 15, 3, [116, 9, 1]), (4, .aload_n 0, 1, []), (5, .getfield 9, 3, [112, 9, 0]), (8, .arraylength, 1, []), (9, .if_icmp .ge 24, 3, []), (12, .aload_n 0, 1, []), (13, .getfield 9, 3, [112, 9, 0]), (16, .aload_n 0, 1, []), (17, .dup, 1, []), (18, .getfield 15, 3, [116, 9, 1]), (21, .dup_x1, 1, []), (22, .iconst 1, 1, []), (23, .iadd, 1, []), (24, .putfield 15, 3, [116, 9, 1]), (27, .iload_n 1, 1, []), (28, .sipush 255, 3, []), (31, .iand, 1, []), (32, .iastore, 1, []), (33, .return_, 1, [])]
def ft_c31 : List (Nat × ft_I) := [(0, .iconst 0, 1, []), (1, .istore_n 2, 1, []), (2, .iload_n 2, 1, []), (3, .aload_n 0, 1, []), (4, .getfield 15, 3, [279, 3, 1]), (7, .if_icmp .ge 62, 3, []), (10, .iload_n 2, 1, []), (11, .bipush 12, 2, []), (13, .if_icmp .ge 56, 3, []), (16, .iload_n 2, 1, []), (17, .bipush 7, 2, []), (19, .imul, 1, []), (20, .istore_n 3, 1, []), (21, .iconst 0, 1, []), (22, .istore 4, 2, []), (24, .iload 4, 2, []), (26, .aload_n 0, 1, []), (27, .getfield 11, 3, [278, 3, 0]), (30, .iload_n 3, 1, []), (31, .iconst 1, 1, []), (32, .iadd, 1, []), (33, .iaload, 1, []), (34, .if_icmp .ge 29, 3, []), (37, .iload 4, 2, []), (39, .bipush 7, 2, []), (41, .if_icmp .ge 22, 3, []), (44, .aload_n 1, 1, []), (45, .aload_n 0, 1, []), (46, .getfield 11, 3, [278, 3, 0]), (49, .iload_n 3, 1, []), (50, .iload 4, 2, []), (52, .iadd, 1, []), (53, .iaload, 1, []), (54, .invokevirtual 32, 3, [0, 30, 515, 510, 74, 508, 509]), (57, .iinc 4 1, 3, []), (60, .goto (-36), 3, []), (63, .iinc 2 1, 3, []), (66, .goto (-64), 3, []), (69, .aload_n 0, 1, []), (70, .iconst 0, 1, []), (71, .putfield 15, 3, [279, 3, 1]), (74, .return_, 1, [])]
def ft_c32 : List (Nat × ft_I) := [(0, .iconst 0, 1, []), (1, .istore_n 3, 1, []), (2, .iload_n 3, 1, []), (3, .aload_n 0, 1, []), (4, .getfield 13, 3, [343, 1, 1]), (7, .arraylength, 1, []), (8, .if_icmp .ge 104, 3, []), (11, .aload_n 0, 1, []), (12, .getfield 13, 3, [343, 1, 1]), (15, .iload_n 3, 1, []), (16, .aaload, 1, []), (17, .astore 4, 2, []), (19, .aload 4, 2, []), (21, .iconst 0, 1, []), (22, .putfield 65, 3, [324, 6, 4]), (25, .aload 4, 2, []), (27, .getfield 62, 3, [321, 6, 3]), (30, .ifCond .eq 76, 3, []), (33, .aload_n 1, 1, []), (34, .iload_n 3, 1, []), (35, .iconst 4, 1, []), (36, .if_icmp .ge 7, 3, []), (39, .iconst 2, 1, []), (40, .goto 4, 3, []), (43, .iconst 4, 1, []), (44, .invokevirtual 68, 3, [0, 30, 520, 510, 74, 508, 509]), (47, .aload_n 1, 1, []), (48, .iconst 3, 1, []), (49, .aload 4, 2, []), (51, .getfield 55, 3, [315, 6, 1]), (54, .getfield 73, 3, [298, 2, 1]), (57, .iadd, 1, []), (58, .invokevirtual 68, 3, [0, 30, 520, 510, 74, 508, 509]), (61, .aload_n 1, 1, []), (62, .aload 4, 2, []), (64, .getfield 76, 3, [313, 6, 0]), (67, .invokevirtual 68, 3, [0, 30, 520, 510, 74, 508, 509]), (70, .iconst 0, 1, []), (71, .istore 5, 2, []), (73, .iload 5, 2, []), (75, .aload 4, 2, []), (77, .getfield 55, 3, [315, 6, 1]), (80, .getfield 73, 3, [298, 2, 1]), (83, .if_icmp .ge 23, 3, []), (86, .aload_n 1, 1, []), (87, .aload 4, 2, []), (89, .getfield 55, 3, [315, 6, 1]), (92, .iload 5, 2, []), (94, .invokevirtual 79, 3, [0, 33, 521, 524, 81, 522, 523]), (97, .invokevirtual 68, 3, [0, 30, 520, 510, 74, 508, 509]), (100, .iinc 5 1, 3, []), (103, .goto (-30), 3, []), (106, .iinc 3 1, 3, []), (109, .goto (-107), 3, []), (112, .aload_n 0, 1, []), (113, .iload_n 2, 1, []), (114, .putfield 45, 3, [349, 1, 4]), (117, .return_, 1, [])]
def ft_c33 : List (Nat × ft_I) := [(0, .iload_n 1, 1, []), (1, .ifCond .lt 29, 3, []), (4, .iload_n 1, 1, []), (5, .aload_n 0, 1, []), (6, .getfield 15, 3, [295, 2, 1]), (9, .if_icmp .ge 21, 3, []), (12, .iload_n 1, 1, []), (13, .aload_n 0, 1, []), (14, .getfield 9, 3, [294, 2, 0]), (17, .arraylength, 1, []), (18, .if_icmp .ge 12, 3, []), (21, .aload_n 0, 1, []), (22, .getfield 9, 3, [294, 2, 0]), (25, .iload_n 1, 1, []), (26, .iaload, 1, []), (27, .goto 4, 3, []), (30, .iconst (-1), 1, []), (31, .ireturn, 1, [])]
def ft_c34 : List (Nat × ft_I) := [(0, .aload_n 0, 1, []), (1, .iload_n 1, 1, []), (2, .iload_n 2, 1, []), (3, .invokevirtual 48, 3, [0, 35, 529, 532, 79, 530, 531]), (6, .astore_n 3, 1, []), (7, .aload_n 3, 1, []), (8, .ifnonnull 7, 3, []), (11, .iconst 0, 1, []), (12, .goto 7, 3, []), (15, .aload_n 3, 1, []), (16, .getfield 52, 3, [318, 6, 2]), (19, .ireturn, 1, [])]
def ft_c35 : List (Nat × ft_I) := [(0, .iload_n 2, 1, []), (1, .iconst 1, 1, []), (2, .if_icmp .lt 8, 3, []), (5, .iload_n 2, 1, []), (6, .iconst 4, 1, []), (7, .if_icmp .le 5, 3, []), (10, .aconst_null, 1, []), (11, .areturn, 1, []), (12, .aload_n 0, 1, []), (13, .getfield 13, 3, [343, 1, 1]), (16, .iload_n 1, 1, []), (17, .ifCond .eq 9, 3, []), (20, .iload_n 2, 1, []), (21, .iconst 1, 1, []), (22, .isub, 1, []), (23, .goto 8, 3, []), (26, .iconst 4, 1, []), (27, .iload_n 2, 1, []), (28, .iadd, 1, []), (29, .iconst 1, 1, []), (30, .isub, 1, []), (31, .aaload, 1, []), (32, .areturn, 1, [])]
def ft_c36_0 : List (Nat × ft_I) := [(0, .aload_n 1, 1, []), (1, .getfield 60, 3, [118, 9, 1]), (4, .istore_n 2, 1, []), (5, .aload_n 0, 1, []), (6, .getfield 19, 3, [172, 10, 0]), (9, .ifCond .eq 28, 3, []), (12, .ldc2_w 66, 3, [537, 100]), (15, .aload_n 0, 1, []), (16, .getfield 27, 3, [176, 10, 2]), (19, .lconst 1, 1, []), (20, .ladd, 1, []), (21, .aload_n 0, 1, []), (22, .getfield 30, 3, [179, 10, 3]), (25, .lsub, 1, []), (26, .ldc2_w 50, 3, [538, 281474976710655]), (29, .land, 1, []), (30, .invokestatic 54, 3, [0, 37, 539, 541, 73, 540]), (33, .l2i, 1, []), (34, .goto 4, 3, []), (37, .iconst 0, 1, []), (38, .istore_n 3, 1, []), (39, .aload_n 1, 1, []), (40, .bipush 6, 2, []), (42, .invokevirtual 68, 3, [0, 30, 542, 510, 74, 508, 509]), (45, .aload_n 1, 1, []), (46, .iconst 0, 1, []), (47, .invokevirtual 68, 3, [0, 30, 542, 510, 74, 508, 509]), (50, .iconst 0, 1, []), (51, .istore 4, 2, []), (53, .iconst 0, 1, []), (54, .istore 5, 2, []), (56, .iload 5, 2, []), (58, .bipush 40, 2, []), (60, .if_icmp .ge 91, 3, []), (63, .iload 4, 2, []), (65, .iload_n 3, 1, []), (66, .if_icmp .ge 85, 3, []), (69, .aload_n 0, 1, []), (70, .iload 4, 2, []), (72, .invokevirtual 72, 3, [0, 38, 543, 546, 76, 545, 1]), (75, .istore 6, 2, []), (77, .iconst 1, 1, []), (78, .istore 7, 2, []), (80, .iload 7, 2, []), (82, .bipush 64, 2, []), (84, .if_icmp .ge 32, 3, []), (87, .iload 4, 2, []), (89, .iload 7, 2, []), (91, .iadd, 1, []), (92, .iload_n 3, 1, []), (93, .if_icmp .ge 23, 3, []), (96, .aload_n 0, 1, []), (97, .iload 4, 2, []), (99, .iload 7, 2, []), (101, .iadd, 1, []), (102, .invokevirtual 72, 3, [0, 38, 543, 546, 76, 545, 1]), (105, .iload 6, 2, []), (107, .if_icmp .ne 9, 3, []), (110, .iinc 7 1, 3, []), (113, .goto (-33), 3, [])]
def ft_c36_1 : List (Nat × ft_I) := [(116, .aload_n 1, 1, []), (117, .iload 6, 2, []), (119, .iconst 1, 1, []), (120, .if_icmp .ne 7, 3, []), (123, .iconst 0, 1, []), (124, .goto 6, 3, []), (127, .sipush 192, 3, []), (130, .iload 7, 2, []), (132, .iadd, 1, []), (133, .iconst 1, 1, []), (134, .isub, 1, []), (135, .invokevirtual 68, 3, [0, 30, 542, 510, 74, 508, 509]), (138, .iload 4, 2, []), (140, .iload 7, 2, []), (142, .iadd, 1, []), (143, .istore 4, 2, []), (145, .iinc 5 1, 3, []), (148, .goto (-92), 3, []), (151, .iload_n 3, 1, []), (152, .ifCond .eq 17, 3, []), (155, .aload_n 1, 1, []), (156, .getfield 60, 3, [118, 9, 1]), (159, .aload_n 1, 1, []), (160, .invokevirtual 76, 3, [0, 39, 548, 551, 74, 549, 550]), (163, .isub, 1, []), (164, .bipush 120, 2, []), (166, .if_icmp .le 10, 3, []), (169, .aload_n 1, 1, []), (170, .iload_n 2, 1, []), (171, .putfield 60, 3, [118, 9, 1]), (174, .iconst 0, 1, []), (175, .ireturn, 1, []), (176, .aload_n 1, 1, []), (177, .iload_n 2, 1, []), (178, .iconst 1, 1, []), (179, .iadd, 1, []), (180, .invokevirtual 80, 3, [0, 40, 552, 555, 74, 553, 554]), (183, .ifCond .eq 17, 3, []), (186, .aload_n 1, 1, []), (187, .getfield 84, 3, [114, 9, 0]), (190, .iload_n 2, 1, []), (191, .iconst 1, 1, []), (192, .iadd, 1, []), (193, .aload_n 1, 1, []), (194, .getfield 60, 3, [118, 9, 1]), (197, .iload_n 2, 1, []), (198, .isub, 1, []), (199, .iastore, 1, []), (200, .iconst 1, 1, []), (201, .ireturn, 1, [])]
def ft_c36 : List (Nat × ft_I) := ft_c36_0 ++ (ft_c36_1)
def ft_c37 : List (Nat × ft_I) := [(0, .lload_n 0, 1, []), (1, .lload_n 2, 1, []), (2, .lcmp, 1, []), (3, .ifCond .gt 7, 3, []), (6, .lload_n 0, 1, []), (7, .goto 4, 3, []), (10, .lload_n 2, 1, []), (11, .lreturn, 1, [])]
def ft_c38 : List (Nat × ft_I) := [(0, .aload_n 0, 1, []), (1, .getfield 9, 3, [181, 10, 4]), (4, .aload_n 0, 1, []), (5, .getfield 27, 3, [176, 10, 2]), (8, .iload_n 1, 1, []), (9, .i2l, 1, []), (10, .lsub, 1, []), (11, .ldc2_w 44, 3, [547, 255]), (14, .land, 1, []), (15, .l2i, 1, []), (16, .baload, 1, [0]), (17, .ireturn, 1, [])]
def ft_c39 : List (Nat × ft_I) := [(0, .aload_n 0, 1, []), (1, .getfield 9, 3, [112, 9, 0]), (4, .iconst 0, 1, []), (5, .iaload, 1, []), (6, .ifCond .eq 13, 3, []), (9, .aload_n 0, 1, []), (10, .getfield 9, 3, [112, 9, 0]), (13, .iconst 0, 1, []), (14, .iaload, 1, []), (15, .iconst 2, 1, []), (16, .if_icmp .ne 6, 3, []), (19, .bipush 10, 2, []), (21, .ireturn, 1, []), (22, .aload_n 0, 1, []), (23, .getfield 9, 3, [112, 9, 0]), (26, .iconst 0, 1, []), (27, .iaload, 1, []), (28, .bipush 7, 2, []), (30, .if_icmp .ne 8, 3, []), (33, .bipush 17, 2, []), (35, .goto 5, 3, []), (38, .bipush 16, 2, []), (40, .ireturn, 1, [])]
def ft_c40 : List (Nat × ft_I) := [(0, .iload_n 1, 1, []), (1, .ifCond .lt 24, 3, []), (4, .iload_n 1, 1, []), (5, .aload_n 0, 1, []), (6, .getfield 15, 3, [116, 9, 1]), (9, .if_icmp .ge 16, 3, []), (12, .iload_n 1, 1, []), (13, .aload_n 0, 1, []), (14, .getfield 9, 3, [112, 9, 0]), (17, .arraylength, 1, []), (18, .if_icmp .ge 7, 3, []), (21, .iconst 1, 1, []), (22, .goto 4, 3, []), (25, .iconst 0, 1, []), (26, .ireturn, 1, [])]
def ft_c41 : List (Nat × ft_I) := [(0, .aload_n 0, 1, []), (1, .getfield 9, 3, [112, 9, 0]), (4, .iconst 0, 1, []), (5, .iaload, 1, []), (6, .iconst 2, 1, []), (7, .if_icmp .eq 13, 3, []), (10, .aload_n 0, 1, []), (11, .getfield 9, 3, [112, 9, 0]), (14, .iconst 0, 1, []), (15, .iaload, 1, []), (16, .iconst 4, 1, []), (17, .if_icmp .ne 7, 3, []), (20, .iconst 1, 1, []), (21, .goto 4, 3, []), (24, .iconst 0, 1, []), (25, .ireturn, 1, [])]
def ft_c42 : List (Nat × ft_I) := [(0, .aload_n 0, 1, []), (1, .getfield 31, 3, [252, 4, 4]), (4, .aload_n 0, 1, []), (5, .getfield 28, 3, [250, 4, 3]), (8, .if_icmp .lt 4, 3, []), (11, .return_, 1, []), (12, .aload_n 0, 1, []), (13, .aload_n 0, 1, []), (14, .getfield 31, 3, [252, 4, 4]), (17, .invokevirtual 34, 3, [0, 43, 565, 568, 78, 567, 2]), (20, .istore_n 2, 1, []), (21, .iconst 0, 1, []), (22, .istore_n 3, 1, []), (23, .iload_n 3, 1, []), (24, .aload_n 0, 1, []), (25, .getfield 25, 3, [249, 4, 2]), (28, .iload_n 2, 1, []), (29, .iaload, 1, []), (30, .if_icmp .ge 30, 3, []), (33, .iload_n 3, 1, []), (34, .bipush 40, 2, []), (36, .if_icmp .ge 24, 3, []), (39, .aload_n 1, 1, []), (40, .aload_n 0, 1, []), (41, .getfield 21, 3, [248, 4, 1]), (44, .iload_n 2, 1, []), (45, .bipush 40, 2, []), (47, .imul, 1, []), (48, .iload_n 3, 1, []), (49, .iadd, 1, []), (50, .iaload, 1, []), (51, .invokevirtual 38, 3, [0, 30, 570, 510, 74, 508, 509]), (54, .iinc 3 1, 3, []), (57, .goto (-34), 3, []), (60, .aload_n 0, 1, []), (61, .dup, 1, []), (62, .getfield 31, 3, [252, 4, 4]), (65, .iconst 1, 1, []), (66, .iadd, 1, []), (67, .putfield 31, 3, [252, 4, 4]), (70, .return_, 1, [])]
def ft_c43 : List (Nat × ft_I) := [(0, .iload_n 1, 1, []), (1, .aload_n 0, 1, []), (2, .getfield 15, 3, [247, 4, 0]), (5, .invokestatic 44, 3, [0, 2, 569, 100, 73, 99]), (8, .ireturn, 1, [])]
def ft_c44 : List (Nat × ft_I) := [(0, .aload_n 0, 1, []), (1, .getfield 15, 3, [182, 10, 5]), (4, .lload_n 1, 1, []), (5, .ldc2_w 44, 3, [547, 255]), (8, .land, 1, []), (9, .l2i, 1, []), (10, .iload_n 3, 1, []), (11, .ifCond .eq 10, 3, []), (14, .aload_n 0, 1, []), (15, .getfield 27, 3, [176, 10, 2]), (18, .goto 6, 3, []), (21, .ldc2_w 39, 3, [393, 18446744073709551615]), (24, .lastore, 1, []), (25, .return_, 1, [])]
def ft_c45 : List (Nat × ft_I) := [(0, .iload_n 3, 1, []), (1, .ifCond .eq 16, 3, []), (4, .aload_n 0, 1, []), (5, .getfield 21, 3, [206, 7, 1]), (8, .ifCond .ne 9, 3, []), (11, .aload_n 0, 1, []), (12, .iload 4, 2, []), (14, .putfield 43, 3, [220, 7, 7]), (17, .aload_n 0, 1, []), (18, .getfield 9, 3, [204, 7, 0]), (21, .lload_n 1, 1, []), (22, .ldc2_w 46, 3, [579, 255]), (25, .land, 1, []), (26, .l2i, 1, []), (27, .iload_n 3, 1, []), (28, .ifCond .eq 7, 3, []), (31, .iconst 1, 1, []), (32, .goto 4, 3, []), (35, .iconst 0, 1, []), (36, .i2b, 1, []), (37, .bastore, 1, [0]), (38, .iload_n 3, 1, []), (39, .ifCond .eq 13, 3, []), (42, .aload_n 0, 1, []), (43, .dup, 1, []), (44, .getfield 21, 3, [206, 7, 1]), (47, .iconst 1, 1, []), (48, .iadd, 1, []), (49, .putfield 21, 3, [206, 7, 1]), (52, .lload_n 1, 1, []), (53, .lconst 1, 1, []), (54, .ladd, 1, []), (55, .ldc2_w 46, 3, [579, 255]), (58, .land, 1, []), (59, .l2i, 1, []), (60, .istore 5, 2, []), (62, .aload_n 0, 1, []), (63, .getfield 9, 3, [204, 7, 0]), (66, .iload 5, 2, []), (68, .baload, 1, [0]), (69, .iconst 1, 1, []), (70, .if_icmp .ne 13, 3, []), (73, .aload_n 0, 1, []), (74, .dup, 1, []), (75, .getfield 21, 3, [206, 7, 1]), (78, .iconst 1, 1, []), (79, .isub, 1, []), (80, .putfield 21, 3, [206, 7, 1]), (83, .aload_n 0, 1, []), (84, .getfield 9, 3, [204, 7, 0]), (87, .iload 5, 2, []), (89, .iconst 0, 1, []), (90, .bastore, 1, [0]), (91, .return_, 1, [])]
def ft_c46 : List (Nat × ft_I) := [(0, .aload_n 0, 1, []), (1, .getfield 15, 3, [116, 9, 1]), (4, .iconst 4, 1, []), (5, .if_icmp .ge 4, 3, []), (8, .return_, 1, []), (9, .aload_n 0, 1, []), (10, .invokevirtual 51, 3, [0, 47, 585, 588, 74, 586, 587]), (13, .istore_n 1, 1, []), (14, .aload_n 0, 1, []), (15, .getfield 9, 3, [112, 9, 0]), (18, .iconst 2, 1, []), (19, .iload_n 1, 1, []), (20, .bipush 8, 2, []), (22, .ishr, 1, []), (23, .iastore, 1, []), (24, .aload_n 0, 1, []), (25, .getfield 9, 3, [112, 9, 0]), (28, .iconst 3, 1, []), (29, .iload_n 1, 1, []), (30, .sipush 255, 3, []), (33, .iand, 1, []), (34, .iastore, 1, []), (35, .return_, 1, [])]
def ft_c47_0 : List (Nat × ft_I) := [(0, .iconst 0, 1, []), (1, .istore_n 1, 1, []), (2, .iconst 0, 1, []), (3, .istore_n 2, 1, []), (4, .iload_n 2, 1, []), (5, .aload_n 0, 1, []), (6, .getfield 15, 3, [116, 9, 1]), (9, .if_icmp .ge 55, 3, []), (12, .iload_n 2, 1, []), (13, .aload_n 0, 1, []), (14, .getfield 9, 3, [112, 9, 0]), (17, .arraylength, 1, []), (18, .if_icmp .ge 46, 3, []), (21, .iload_n 2, 1, []), (22, .iconst 2, 1, []), (23, .if_icmp .eq 35, 3, []), (26, .iload_n 2, 1, []), (27, .iconst 3, 1, []), (28, .if_icmp .eq 30, 3, []), (31, .iload_n 1, 1, []), (32, .iload_n 2, 1, []), (33, .iconst 2, 1, []), (34, .irem, 1, []), (35, .ifCond .ne 15, 3, []), (38, .aload_n 0, 1, []), (39, .getfield 9, 3, [112, 9, 0]), (42, .iload_n 2, 1, []), (43, .iaload, 1, []), (44, .bipush 8, 2, []), (46, .ishl, 1, []), (47, .goto 9, 3, []), (50, .aload_n 0, 1, []), (51, .getfield 9, 3, [112, 9, 0]), (54, .iload_n 2, 1, []), (55, .iaload, 1, []), (56, .iadd, 1, []), (57, .istore_n 1, 1, []), (58, .iinc 2 1, 3, []), (61, .goto (-57), 3, []), (64, .iconst 0, 1, []), (65, .istore_n 2, 1, []), (66, .iload_n 2, 1, []), (67, .iconst 2, 1, []), (68, .if_icmp .ge 25, 3, []), (71, .iload_n 1, 1, []), (72, .ldc 50, 2, [589, 65535]), (74, .if_icmp .le 13, 3, []), (77, .iload_n 1, 1, []), (78, .ldc 50, 2, [589, 65535]), (80, .iand, 1, []), (81, .iload_n 1, 1, []), (82, .bipush 16, 2, []), (84, .ishr, 1, []), (85, .iadd, 1, []), (86, .istore_n 1, 1, []), (87, .iinc 2 1, 3, []), (90, .goto (-24), 3, []), (93, .ldc 50, 2, [589, 65535]), (95, .iload_n 1, 1, []), (96, .isub, 1, [])]
def ft_c47_1 : List (Nat × ft_I) := [(97, .ireturn, 1, [])]
def ft_c47 : List (Nat × ft_I) := ft_c47_0 ++ (ft_c47_1)
def ft_c48 : List (Nat × ft_I) := [(0, .aload_n 0, 1, []), (1, .getfield 29, 3, [141, 8, 3]), (4, .ifCond .lt 15, 3, []), (7, .aload_n 0, 1, []), (8, .getfield 29, 3, [141, 8, 3]), (11, .aload_n 0, 1, []), (12, .getfield 11, 3, [134, 8, 0]), (15, .arraylength, 1, []), (16, .if_icmp .lt 4, 3, []), (19, .return_, 1, []), (20, .aload_n 0, 1, []), (21, .getfield 11, 3, [134, 8, 0]), (24, .aload_n 0, 1, []), (25, .getfield 29, 3, [141, 8, 3]), (28, .aaload, 1, []), (29, .astore_n 3, 1, []), (30, .aload_n 0, 1, []), (31, .getfield 18, 3, [143, 8, 4]), (34, .iload_n 1, 1, []), (35, .putfield 46, 3, [120, 9, 2]), (38, .aload_n 0, 1, []), (39, .getfield 18, 3, [143, 8, 4]), (42, .iload_n 2, 1, []), (43, .putfield 36, 3, [122, 9, 3]), (46, .aload_n 0, 1, []), (47, .getfield 11, 3, [134, 8, 0]), (50, .aload_n 0, 1, []), (51, .getfield 29, 3, [141, 8, 3]), (54, .aload_n 0, 1, []), (55, .getfield 18, 3, [143, 8, 4]), (58, .aastore, 1, [9]), (59, .aload_n 0, 1, []), (60, .aload_n 3, 1, []), (61, .putfield 18, 3, [143, 8, 4]), (64, .aload_n 0, 1, []), (65, .dup, 1, []), (66, .getfield 29, 3, [141, 8, 3]), (69, .iconst 1, 1, []), (70, .iadd, 1, []), (71, .putfield 29, 3, [141, 8, 3]), (74, .return_, 1, [])]
def ft_c49 : List (Nat × ft_I) := [(0, .aload_n 0, 1, []), (1, .getfield 9, 3, [474, 0, 1]), (4, .iconst 1, 1, []), (5, .aaload, 1, []), (6, .getfield 39, 3, [425, 5, 10]), (9, .ifCond .eq 6, 3, []), (12, .bipush (-103), 2, []), (14, .ireturn, 1, []), (15, .aload_n 0, 1, []), (16, .getfield 9, 3, [474, 0, 1]), (19, .iconst 1, 1, []), (20, .aaload, 1, []), (21, .iconst 1, 1, []), (22, .invokevirtual 43, 3, [0, 14, 490, 364, 75, 362, 363]), (25, .iconst 1, 1, []), (26, .ireturn, 1, [])]
def ft_c50 : List (Nat × ft_I) := [(0, .iload_n 1, 1, []), (1, .invokestatic 50, 3, [0, 51, 602, 604, 71, 603]), (4, .ifCond .ne 6, 3, []), (7, .bipush (-101), 2, []), (9, .ireturn, 1, []), (10, .aload_n 0, 1, []), (11, .getfield 9, 3, [474, 0, 1]), (14, .iload_n 1, 1, []), (15, .aaload, 1, []), (16, .invokevirtual 54, 3, [0, 52, 605, 608, 75, 606, 607]), (19, .ireturn, 1, [])]
def ft_c51 : List (Nat × ft_I) := [(0, .iload_n 0, 1, []), (1, .ifCond .eq 8, 3, []), (4, .iload_n 0, 1, []), (5, .iconst 1, 1, []), (6, .if_icmp .ne 7, 3, []), (9, .iconst 1, 1, []), (10, .goto 4, 3, []), (13, .iconst 0, 1, []), (14, .ireturn, 1, [])]
def ft_c52 : List (Nat × ft_I) := [(0, .aload_n 0, 1, []), (1, .getfield 87, 3, [426, 5, 10]), (4, .tableswitch 111 1 5 #[36, 46, 46, 56, 56], 36, []), (40, .aload_n 0, 1, []), (41, .iconst 0, 1, []), (42, .invokevirtual 71, 3, [0, 15, 365, 368, 75, 367, 0]), (45, .aload_n 0, 1, []), (46, .getfield 87, 3, [426, 5, 10]), (49, .ireturn, 1, []), (50, .aload_n 0, 1, []), (51, .iconst 0, 1, []), (52, .invokevirtual 101, 3, [0, 53, 609, 612, 75, 611, 3]), (55, .aload_n 0, 1, []), (56, .getfield 87, 3, [426, 5, 10]), (59, .ireturn, 1, []), (60, .aload_n 0, 1, []), (61, .getfield 30, 3, [415, 5, 5]), (64, .invokevirtual 81, 3, [0, 24, 403, 406, 78, 404, 405]), (67, .aload_n 0, 1, []), (68, .aload_n 0, 1, []), (69, .getfield 48, 3, [407, 5, 0]), (72, .ifCond .ne 8, 3, []), (75, .bipush 7, 2, []), (77, .goto 5, 3, []), (80, .bipush 6, 2, []), (82, .invokevirtual 71, 3, [0, 15, 365, 368, 75, 367, 0]), (85, .aload_n 0, 1, []), (86, .aload_n 0, 1, []), (87, .getfield 48, 3, [407, 5, 0]), (90, .ifCond .ne 8, 3, []), (93, .bipush 6, 2, []), (95, .goto 4, 3, []), (98, .iconst 5, 1, []), (99, .aload_n 0, 1, []), (100, .getfield 12, 3, [411, 5, 3]), (103, .getfield 104, 3, [177, 10, 2]), (106, .iconst 0, 1, []), (107, .invokevirtual 107, 3, [0, 26, 613, 494, 75, 492, 493]), (110, .aload_n 0, 1, []), (111, .getfield 87, 3, [426, 5, 10]), (114, .ireturn, 1, []), (115, .bipush (-103), 2, []), (117, .ireturn, 1, [])]
def ft_c53 : List (Nat × ft_I) := [(0, .aload_n 0, 1, []), (1, .bipush 7, 2, []), (3, .aload_n 0, 1, []), (4, .getfield 12, 3, [411, 5, 3]), (7, .getfield 104, 3, [177, 10, 2]), (10, .iload_n 1, 1, []), (11, .invokevirtual 107, 3, [0, 26, 613, 494, 75, 492, 493]), (14, .aload_n 0, 1, []), (15, .iconst 0, 1, []), (16, .invokevirtual 71, 3, [0, 15, 365, 368, 75, 367, 0]), (19, .return_, 1, [])]
def ft_c54_0 : List (Nat × ft_I) := [(0, .iload_n 1, 1, []), (1, .invokestatic 50, 3, [0, 51, 602, 604, 71, 603]), (4, .ifCond .ne 6, 3, []), (7, .bipush (-101), 2, []), (9, .ireturn, 1, []), (10, .iload_n 2, 1, []), (11, .ifCond .lt 9, 3, []), (14, .iload_n 2, 1, []), (15, .bipush 40, 2, []), (17, .if_icmp .le 6, 3, []), (20, .bipush (-102), 2, []), (22, .ireturn, 1, []), (23, .aload_n 0, 1, []), (24, .getfield 9, 3, [474, 0, 1]), (27, .iload_n 1, 1, []), (28, .aaload, 1, []), (29, .astore 5, 2, []), (31, .aload 5, 2, []), (33, .getfield 39, 3, [425, 5, 10]), (36, .iconst 2, 1, []), (37, .if_icmp .lt 12, 3, []), (40, .aload 5, 2, []), (42, .getfield 39, 3, [425, 5, 10]), (45, .iconst 5, 1, []), (46, .if_icmp .le 6, 3, []), (49, .bipush (-103), 2, []), (51, .ireturn, 1, []), (52, .aload 5, 2, []), (54, .getfield 58, 3, [416, 5, 5]), (57, .invokevirtual 62, 3, [0, 55, 618, 621, 78, 619, 620]), (60, .bipush 20, 2, []), (62, .if_icmp .lt 6, 3, []), (65, .bipush (-104), 2, []), (67, .ireturn, 1, []), (68, .aload 5, 2, []), (70, .getfield 58, 3, [416, 5, 5]), (73, .invokevirtual 67, 3, [0, 56, 622, 625, 78, 623, 624]), (76, .iconst 0, 1, []), (77, .istore 6, 2, []), (79, .iload 6, 2, []), (81, .iload_n 2, 1, []), (82, .if_icmp .ge 36, 3, []), (85, .aload 5, 2, []), (87, .getfield 58, 3, [416, 5, 5]), (90, .lload_n 3, 1, []), (91, .bipush 8, 2, []), (93, .iload 6, 2, []), (95, .bipush 8, 2, []), (97, .irem, 1, []), (98, .imul, 1, []), (99, .lshr, 1, []), (100, .iload 6, 2, []), (102, .i2l, 1, []), (103, .ladd, 1, []), (104, .l2i, 1, []), (105, .sipush 255, 3, []), (108, .iand, 1, []), (109, .invokevirtual 70, 3, [0, 57, 626, 629, 78, 627, 628]), (112, .iinc 6 1, 3, []), (115, .goto (-36), 3, [])]
def ft_c54_1 : List (Nat × ft_I) := [(118, .aload 5, 2, []), (120, .getfield 58, 3, [416, 5, 5]), (123, .invokevirtual 62, 3, [0, 55, 618, 621, 78, 619, 620]), (126, .ireturn, 1, [])]
def ft_c54 : List (Nat × ft_I) := ft_c54_0 ++ (ft_c54_1)
def ft_c55 : List (Nat × ft_I) := [(0, .aload_n 0, 1, []), (1, .getfield 28, 3, [250, 4, 3]), (4, .aload_n 0, 1, []), (5, .getfield 31, 3, [252, 4, 4]), (8, .isub, 1, []), (9, .ireturn, 1, [])]
def ft_c56 : List (Nat × ft_I) := [(0, .aload_n 0, 1, []), (1, .getfield 25, 3, [249, 4, 2]), (4, .aload_n 0, 1, []), (5, .aload_n 0, 1, []), (6, .getfield 28, 3, [250, 4, 3]), (9, .invokevirtual 34, 3, [0, 43, 565, 568, 78, 567, 2]), (12, .iconst 0, 1, []), (13, .iastore, 1, []), (14, .aload_n 0, 1, []), (15, .dup, 1, []), (16, .getfield 28, 3, [250, 4, 3]), (19, .iconst 1, 1, []), (20, .iadd, 1, []), (21, .putfield 28, 3, [250, 4, 3]), (24, .return_, 1, [])]
def ft_c57 : List (Nat × ft_I) := [(0, .aload_n 0, 1, []), (1, .aload_n 0, 1, []), (2, .getfield 28, 3, [250, 4, 3]), (5, .iconst 1, 1, []), (6, .isub, 1, []), (7, .invokevirtual 34, 3, [0, 43, 565, 568, 78, 567, 2]), (10, .istore_n 2, 1, []), (11, .aload_n 0, 1, []), (12, .getfield 25, 3, [249, 4, 2]), (15, .iload_n 2, 1, []), (16, .iaload, 1, []), (17, .bipush 40, 2, []), (19, .if_icmp .ge 25, 3, []), (22, .aload_n 0, 1, []), (23, .getfield 21, 3, [248, 4, 1]), (26, .iload_n 2, 1, []), (27, .bipush 40, 2, []), (29, .imul, 1, []), (30, .aload_n 0, 1, []), (31, .getfield 25, 3, [249, 4, 2]), (34, .iload_n 2, 1, []), (35, .dup2, 1, []), (36, .iaload, 1, []), (37, .dup_x2, 1, []), (38, .iconst 1, 1, []), (39, .iadd, 1, []), (40, .iastore, 1, []), (41, .iadd, 1, []), (42, .iload_n 1, 1, []), (43, .iastore, 1, []), (44, .return_, 1, [])]
def ft_c58_0 : List (Nat × ft_I) := [(0, .iload_n 1, 1, []), (1, .invokestatic 50, 3, [0, 51, 602, 604, 71, 603]), (4, .ifCond .eq 10, 3, []), (7, .iload_n 2, 1, []), (8, .invokestatic 73, 3, [0, 18, 634, 379, 71, 378]), (11, .ifCond .ne 6, 3, []), (14, .bipush (-101), 2, []), (16, .ireturn, 1, []), (17, .iload 4, 2, []), (19, .iconst 1, 1, []), (20, .if_icmp .lt 18, 3, []), (23, .iload 4, 2, []), (25, .iconst 3, 1, []), (26, .if_icmp .gt 12, 3, []), (29, .iload_n 3, 1, []), (30, .ifCond .ne 11, 3, []), (33, .iload_n 2, 1, []), (34, .iconst 2, 1, []), (35, .if_icmp .gt 6, 3, []), (38, .bipush (-102), 2, []), (40, .ireturn, 1, []), (41, .aload_n 0, 1, []), (42, .getfield 9, 3, [474, 0, 1]), (45, .iload_n 1, 1, []), (46, .aaload, 1, []), (47, .getfield 76, 3, [410, 5, 2]), (50, .astore 6, 2, []), (52, .aload 6, 2, []), (54, .getfield 80, 3, [348, 1, 3]), (57, .iload 4, 2, []), (59, .iload 5, 2, []), (61, .invokevirtual 86, 3, [0, 59, 635, 638, 81, 636, 637]), (64, .aload 6, 2, []), (66, .getfield 80, 3, [348, 1, 3]), (69, .iload_n 2, 1, []), (70, .invokevirtual 92, 3, [0, 60, 640, 643, 81, 641, 642]), (73, .ifCond .ne 6, 3, []), (76, .bipush (-102), 2, []), (78, .ireturn, 1, []), (79, .aload_n 0, 1, []), (80, .getfield 9, 3, [474, 0, 1]), (83, .iload_n 1, 1, []), (84, .aaload, 1, []), (85, .getfield 39, 3, [425, 5, 10]), (88, .ifCond .eq 17, 3, []), (91, .aload_n 0, 1, []), (92, .getfield 9, 3, [474, 0, 1]), (95, .iload_n 1, 1, []), (96, .aaload, 1, []), (97, .getfield 39, 3, [425, 5, 10]), (100, .bipush 8, 2, []), (102, .if_icmp .ne 6, 3, []), (105, .bipush (-103), 2, []), (107, .ireturn, 1, []), (108, .aload 6, 2, []), (110, .iload_n 3, 1, []), (111, .iload_n 2, 1, []), (112, .invokevirtual 95, 3, [0, 61, 649, 652, 79, 650, 651]), (115, .aload 6, 2, []), (117, .invokevirtual 99, 3, [0, 63, 658, 661, 79, 659, 660])]
def ft_c58_1 : List (Nat × ft_I) := [(120, .ireturn, 1, [])]
def ft_c58 : List (Nat × ft_I) := ft_c58_0 ++ (ft_c58_1)
def ft_c59 : List (Nat × ft_I) := [(0, .aload_n 0, 1, []), (1, .iconst 0, 1, []), (2, .putfield 15, 3, [295, 2, 1]), (5, .iconst 0, 1, []), (6, .istore_n 3, 1, []), (7, .iload_n 3, 1, []), (8, .iload_n 1, 1, []), (9, .if_icmp .ge 28, 3, []), (12, .iload_n 3, 1, []), (13, .iconst 3, 1, []), (14, .if_icmp .ge 23, 3, []), (17, .aload_n 0, 1, []), (18, .iload_n 2, 1, []), (19, .bipush 8, 2, []), (21, .iload_n 3, 1, []), (22, .imul, 1, []), (23, .ishr, 1, []), (24, .sipush 255, 3, []), (27, .iand, 1, []), (28, .invokevirtual 19, 3, [0, 19, 639, 385, 81, 383, 384]), (31, .iinc 3 1, 3, []), (34, .goto (-27), 3, []), (37, .return_, 1, [])]
def ft_c60_0 : List (Nat × ft_I) := [(0, .iload_n 1, 1, []), (1, .invokestatic 32, 3, [1, 18, 644, 379, 71, 378]), (4, .ifCond .eq 24, 3, []), (7, .aload_n 0, 1, []), (8, .getfield 15, 3, [295, 2, 1]), (11, .iconst 1, 1, []), (12, .if_icmp .lt 16, 3, []), (15, .iload_n 1, 1, []), (16, .iconst 2, 1, []), (17, .if_icmp .gt 13, 3, []), (20, .aload_n 0, 1, []), (21, .getfield 15, 3, [295, 2, 1]), (24, .iconst 1, 1, []), (25, .if_icmp .le 5, 3, []), (28, .iconst 0, 1, []), (29, .ireturn, 1, []), (30, .iconst 0, 1, []), (31, .istore_n 2, 1, []), (32, .iload_n 2, 1, []), (33, .aload_n 0, 1, []), (34, .getfield 15, 3, [295, 2, 1]), (37, .if_icmp .ge 73, 3, []), (40, .aload_n 0, 1, []), (41, .getfield 9, 3, [294, 2, 0]), (44, .iload_n 2, 1, []), (45, .iaload, 1, []), (46, .getstatic 36, 3, [645, 1]), (49, .iload_n 1, 1, []), (50, .iconst 1, 1, []), (51, .isub, 1, []), (52, .iaload, 1, []), (53, .if_icmp .lt 19, 3, []), (56, .aload_n 0, 1, []), (57, .getfield 9, 3, [294, 2, 0]), (60, .iload_n 2, 1, []), (61, .iaload, 1, []), (62, .getstatic 39, 3, [647, 2]), (65, .iload_n 1, 1, []), (66, .iconst 1, 1, []), (67, .isub, 1, []), (68, .iaload, 1, []), (69, .if_icmp .le 5, 3, []), (72, .iconst 0, 1, []), (73, .ireturn, 1, []), (74, .iconst 0, 1, []), (75, .istore_n 3, 1, []), (76, .iload_n 3, 1, []), (77, .iload_n 2, 1, []), (78, .if_icmp .ge 26, 3, []), (81, .aload_n 0, 1, []), (82, .getfield 9, 3, [294, 2, 0]), (85, .iload_n 3, 1, []), (86, .iaload, 1, []), (87, .aload_n 0, 1, []), (88, .getfield 9, 3, [294, 2, 0]), (91, .iload_n 2, 1, []), (92, .iaload, 1, []), (93, .if_icmp .ne 5, 3, []), (96, .iconst 0, 1, []), (97, .ireturn, 1, [])]
def ft_c60_1 : List (Nat × ft_I) := [(98, .iinc 3 1, 3, []), (101, .goto (-25), 3, []), (104, .iinc 2 1, 3, []), (107, .goto (-75), 3, []), (110, .iconst 1, 1, []), (111, .ireturn, 1, [])]
def ft_c60 : List (Nat × ft_I) := ft_c60_0 ++ (ft_c60_1)
def ft_c61 : List (Nat × ft_I) := [(0, .aload_n 0, 1, []), (1, .iload_n 1, 1, []), (2, .iload_n 2, 1, []), (3, .invokevirtual 48, 3, [0, 35, 529, 532, 79, 530, 531]), (6, .astore_n 3, 1, []), (7, .aload_n 3, 1, []), (8, .ifnonnull 4, 3, []), (11, .return_, 1, []), (12, .aload_n 3, 1, []), (13, .getfield 55, 3, [315, 6, 1]), (16, .aload_n 0, 1, []), (17, .getfield 27, 3, [347, 1, 3]), (20, .invokevirtual 58, 3, [0, 62, 653, 656, 81, 654, 655]), (23, .aload_n 3, 1, []), (24, .iconst 1, 1, []), (25, .putfield 62, 3, [321, 6, 3]), (28, .aload_n 3, 1, []), (29, .iconst 1, 1, []), (30, .putfield 65, 3, [324, 6, 4]), (33, .return_, 1, [])]
def ft_c62 : List (Nat × ft_I) := [(0, .aload_n 0, 1, []), (1, .iconst 0, 1, []), (2, .putfield 15, 3, [295, 2, 1]), (5, .iconst 0, 1, []), (6, .istore_n 2, 1, []), (7, .iload_n 2, 1, []), (8, .aload_n 1, 1, []), (9, .getfield 15, 3, [295, 2, 1]), (12, .if_icmp .ge 18, 3, []), (15, .aload_n 0, 1, []), (16, .aload_n 1, 1, []), (17, .iload_n 2, 1, []), (18, .invokevirtual 29, 3, [0, 33, 657, 524, 81, 522, 523]), (21, .invokevirtual 19, 3, [0, 19, 639, 385, 81, 383, 384]), (24, .iinc 2 1, 3, []), (27, .goto (-20), 3, []), (30, .return_, 1, [])]
def ft_c63 : List (Nat × ft_I) := [(0, .iconst 0, 1, []), (1, .istore_n 1, 1, []), (2, .iconst 0, 1, []), (3, .istore_n 2, 1, []), (4, .iload_n 2, 1, []), (5, .aload_n 0, 1, []), (6, .getfield 13, 3, [343, 1, 1]), (9, .arraylength, 1, []), (10, .if_icmp .ge 24, 3, []), (13, .aload_n 0, 1, []), (14, .getfield 13, 3, [343, 1, 1]), (17, .iload_n 2, 1, []), (18, .aaload, 1, []), (19, .getfield 62, 3, [321, 6, 3]), (22, .ifCond .eq 6, 3, []), (25, .iinc 1 1, 3, []), (28, .iinc 2 1, 3, []), (31, .goto (-27), 3, []), (34, .iload_n 1, 1, []), (35, .ireturn, 1, [])]
def ft_c64_0 : List (Nat × ft_I) := [(0, .iload_n 1, 1, []), (1, .iconst 1, 1, []), (2, .if_icmp .lt 9, 3, []), (5, .iload_n 1, 1, []), (6, .bipush 50, 2, []), (8, .if_icmp .le 6, 3, []), (11, .bipush (-102), 2, []), (13, .ireturn, 1, []), (14, .iconst 0, 1, []), (15, .istore_n 2, 1, []), (16, .iload_n 2, 1, []), (17, .iload_n 1, 1, []), (18, .if_icmp .ge 105, 3, []), (21, .aload_n 0, 1, []), (22, .getfield 30, 3, [473, 0, 0]), (25, .dup, 1, []), (26, .getfield 102, 3, [140, 8, 2]), (29, .iconst 1, 1, []), (30, .iadd, 1, []), (31, .putfield 102, 3, [140, 8, 2]), (34, .aload_n 0, 1, []), (35, .getfield 30, 3, [473, 0, 0]), (38, .getfield 105, 3, [142, 8, 3]), (41, .istore_n 3, 1, []), (42, .iconst 0, 1, []), (43, .istore 4, 2, []), (45, .iconst 0, 1, []), (46, .istore 5, 2, []), (48, .iload 5, 2, []), (50, .iload_n 3, 1, []), (51, .if_icmp .ge 48, 3, []), (54, .aload_n 0, 1, []), (55, .getfield 30, 3, [473, 0, 0]), (58, .iload 4, 2, []), (60, .invokevirtual 108, 3, [0, 65, 666, 669, 72, 667, 668]), (63, .astore 6, 2, []), (65, .aload 6, 2, []), (67, .ifnonnull 9, 3, []), (70, .iinc 4 1, 3, []), (73, .goto 20, 3, []), (76, .aload_n 0, 1, []), (77, .getfield 9, 3, [474, 0, 1]), (80, .aload 6, 2, []), (82, .getfield 112, 3, [121, 9, 2]), (85, .iconst 1, 1, []), (86, .iand, 1, []), (87, .aaload, 1, []), (88, .aload 6, 2, []), (90, .invokevirtual 117, 3, [0, 68, 678, 681, 75, 679, 680]), (93, .iinc 5 1, 3, []), (96, .goto (-48), 3, []), (99, .aload_n 0, 1, []), (100, .getfield 9, 3, [474, 0, 1]), (103, .iconst 0, 1, []), (104, .aaload, 1, []), (105, .invokevirtual 121, 3, [0, 103, 839, 842, 75, 840, 841]), (108, .aload_n 0, 1, []), (109, .getfield 9, 3, [474, 0, 1]), (112, .iconst 1, 1, []), (113, .aaload, 1, [])]
def ft_c64_1 : List (Nat × ft_I) := [(114, .invokevirtual 121, 3, [0, 103, 839, 842, 75, 840, 841]), (117, .iinc 2 1, 3, []), (120, .goto (-104), 3, []), (123, .aload_n 0, 1, []), (124, .getfield 30, 3, [473, 0, 0]), (127, .getfield 102, 3, [140, 8, 2]), (130, .ireturn, 1, [])]
def ft_c64 : List (Nat × ft_I) := ft_c64_0 ++ (ft_c64_1)
def ft_c65 : List (Nat × ft_I) := [(0, .aload_n 0, 1, []), (1, .iload_n 1, 1, []), (2, .invokevirtual 32, 3, [0, 66, 670, 673, 72, 671, 672]), (5, .ifCond .eq 27, 3, []), (8, .aload_n 0, 1, []), (9, .getfield 11, 3, [134, 8, 0]), (12, .iload_n 1, 1, []), (13, .aaload, 1, []), (14, .getfield 36, 3, [122, 9, 3]), (17, .aload_n 0, 1, []), (18, .getfield 39, 3, [139, 8, 2]), (21, .if_icmp .gt 11, 3, []), (24, .aload_n 0, 1, []), (25, .iload_n 1, 1, []), (26, .invokevirtual 42, 3, [0, 67, 674, 677, 72, 675, 676]), (29, .goto 4, 3, []), (32, .aconst_null, 1, []), (33, .areturn, 1, [])]
def ft_c66 : List (Nat × ft_I) := [(0, .iload_n 1, 1, []), (1, .ifCond .lt 24, 3, []), (4, .iload_n 1, 1, []), (5, .aload_n 0, 1, []), (6, .getfield 29, 3, [141, 8, 3]), (9, .if_icmp .ge 16, 3, []), (12, .iload_n 1, 1, []), (13, .aload_n 0, 1, []), (14, .getfield 11, 3, [134, 8, 0]), (17, .arraylength, 1, []), (18, .if_icmp .ge 7, 3, []), (21, .iconst 1, 1, []), (22, .goto 4, 3, []), (25, .iconst 0, 1, []), (26, .ireturn, 1, [])]
def ft_c67 : List (Nat × ft_I) := [(0, .aload_n 0, 1, []), (1, .iload_n 1, 1, []), (2, .invokevirtual 32, 3, [0, 66, 670, 673, 72, 671, 672]), (5, .ifCond .ne 5, 3, []), (8, .aconst_null, 1, []), (9, .areturn, 1, []), (10, .aload_n 0, 1, []), (11, .getfield 22, 3, [146, 8, 5]), (14, .astore_n 2, 1, []), (15, .aload_n 0, 1, []), (16, .aload_n 0, 1, []), (17, .getfield 11, 3, [134, 8, 0]), (20, .iload_n 1, 1, []), (21, .aaload, 1, []), (22, .putfield 22, 3, [146, 8, 5]), (25, .aload_n 0, 1, []), (26, .dup, 1, []), (27, .getfield 29, 3, [141, 8, 3]), (30, .iconst 1, 1, []), (31, .isub, 1, []), (32, .putfield 29, 3, [141, 8, 3]), (35, .iload_n 1, 1, []), (36, .istore_n 3, 1, []), (37, .iload_n 3, 1, []), (38, .aload_n 0, 1, []), (39, .getfield 29, 3, [141, 8, 3]), (42, .if_icmp .ge 23, 3, []), (45, .aload_n 0, 1, []), (46, .getfield 11, 3, [134, 8, 0]), (49, .iload_n 3, 1, []), (50, .aload_n 0, 1, []), (51, .getfield 11, 3, [134, 8, 0]), (54, .iload_n 3, 1, []), (55, .iconst 1, 1, []), (56, .iadd, 1, []), (57, .aaload, 1, []), (58, .aastore, 1, [9]), (59, .iinc 3 1, 3, []), (62, .goto (-25), 3, []), (65, .aload_n 0, 1, []), (66, .getfield 11, 3, [134, 8, 0]), (69, .aload_n 0, 1, []), (70, .getfield 29, 3, [141, 8, 3]), (73, .aload_n 2, 1, []), (74, .aastore, 1, [9]), (75, .aload_n 0, 1, []), (76, .getfield 22, 3, [146, 8, 5]), (79, .areturn, 1, [])]
def ft_c68 : List (Nat × ft_I) := [(0, .aload_n 0, 1, []), (1, .getfield 37, 3, [419, 5, 7]), (4, .iconst 1, 1, []), (5, .dup2, 1, []), (6, .iaload, 1, []), (7, .iconst 1, 1, []), (8, .iadd, 1, []), (9, .iastore, 1, []), (10, .aload_n 1, 1, []), (11, .invokevirtual 186, 3, [0, 69, 682, 685, 74, 683, 684]), (14, .ifCond .ne 14, 3, []), (17, .aload_n 0, 1, []), (18, .getfield 37, 3, [419, 5, 7]), (21, .iconst 2, 1, []), (22, .dup2, 1, []), (23, .iaload, 1, []), (24, .iconst 1, 1, []), (25, .iadd, 1, []), (26, .iastore, 1, []), (27, .return_, 1, []), (28, .aload_n 0, 1, []), (29, .getfield 87, 3, [426, 5, 10]), (32, .tableswitch 77 0 8 #[52, 61, 69, 77, 77, 77, 77, 77, 52], 52, []), (84, .aload_n 0, 1, []), (85, .aload_n 1, 1, []), (86, .iconst 1, 1, []), (87, .invokevirtual 189, 3, [0, 71, 692, 695, 75, 694, 4]), (90, .goto 24, 3, []), (93, .aload_n 0, 1, []), (94, .aload_n 1, 1, []), (95, .invokevirtual 192, 3, [0, 73, 700, 703, 75, 702, 5]), (98, .goto 16, 3, []), (101, .aload_n 0, 1, []), (102, .aload_n 1, 1, []), (103, .invokevirtual 195, 3, [0, 88, 767, 770, 75, 769, 9]), (106, .goto 8, 3, []), (109, .aload_n 0, 1, []), (110, .aload_n 1, 1, []), (111, .invokevirtual 198, 3, [0, 90, 778, 781, 75, 780, 11]), (114, .return_, 1, [])]
def ft_c69_0 : List (Nat × ft_I) := [(0, .aload_n 0, 1, []), (1, .getfield 15, 3, [116, 9, 1]), (4, .bipush 10, 2, []), (6, .if_icmp .lt 25, 3, []), (9, .aload_n 0, 1, []), (10, .getfield 9, 3, [112, 9, 0]), (13, .iconst 0, 1, []), (14, .iaload, 1, []), (15, .bipush 9, 2, []), (17, .if_icmp .gt 14, 3, []), (20, .aload_n 0, 1, []), (21, .getfield 9, 3, [112, 9, 0]), (24, .iconst 1, 1, []), (25, .iaload, 1, []), (26, .bipush 120, 2, []), (28, .if_icmp .le 5, 3, []), (31, .iconst 0, 1, []), (32, .ireturn, 1, []), (33, .aload_n 0, 1, []), (34, .getfield 9, 3, [112, 9, 0]), (37, .iconst 0, 1, []), (38, .iaload, 1, []), (39, .iconst 2, 1, []), (40, .if_icmp .ne 14, 3, []), (43, .aload_n 0, 1, []), (44, .getfield 9, 3, [112, 9, 0]), (47, .iconst 1, 1, []), (48, .iaload, 1, []), (49, .ifCond .le 5, 3, []), (52, .iconst 0, 1, []), (53, .ireturn, 1, []), (54, .aload_n 0, 1, []), (55, .getfield 15, 3, [116, 9, 1]), (58, .aload_n 0, 1, []), (59, .invokevirtual 54, 3, [0, 70, 686, 689, 74, 687, 688]), (62, .isub, 1, []), (63, .istore_n 1, 1, []), (64, .iload_n 1, 1, []), (65, .ifCond .lt 20, 3, []), (68, .iload_n 1, 1, []), (69, .aload_n 0, 1, []), (70, .invokevirtual 57, 3, [0, 41, 691, 560, 74, 558, 559]), (73, .ifCond .eq 8, 3, []), (76, .bipush 40, 2, []), (78, .goto 4, 3, []), (81, .iconst 0, 1, []), (82, .if_icmp .le 5, 3, []), (85, .iconst 0, 1, []), (86, .ireturn, 1, []), (87, .aload_n 0, 1, []), (88, .invokevirtual 51, 3, [0, 47, 585, 588, 74, 586, 587]), (91, .aload_n 0, 1, []), (92, .getfield 9, 3, [112, 9, 0]), (95, .iconst 2, 1, []), (96, .iaload, 1, []), (97, .sipush 256, 3, []), (100, .imul, 1, []), (101, .aload_n 0, 1, []), (102, .getfield 9, 3, [112, 9, 0]), (105, .iconst 3, 1, [])]
def ft_c69_1 : List (Nat × ft_I) := [(106, .iaload, 1, []), (107, .iadd, 1, []), (108, .if_icmp .ne 7, 3, []), (111, .iconst 1, 1, []), (112, .goto 4, 3, []), (115, .iconst 0, 1, []), (116, .ireturn, 1, [])]
def ft_c69 : List (Nat × ft_I) := ft_c69_0 ++ (ft_c69_1)
def ft_c70 : List (Nat × ft_I) := [(0, .aload_n 0, 1, []), (1, .invokevirtual 46, 3, [0, 39, 690, 551, 74, 549, 550]), (4, .aload_n 0, 1, []), (5, .getfield 9, 3, [112, 9, 0]), (8, .iconst 1, 1, []), (9, .iaload, 1, []), (10, .iadd, 1, []), (11, .ireturn, 1, [])]
def ft_c71 : List (Nat × ft_I) := [(0, .aload_n 1, 1, []), (1, .invokevirtual 201, 3, [0, 72, 696, 699, 74, 697, 698]), (4, .bipush 7, 2, []), (6, .if_icmp .eq 17, 3, []), (9, .aload_n 0, 1, []), (10, .bipush 7, 2, []), (12, .aload_n 0, 1, []), (13, .getfield 12, 3, [411, 5, 3]), (16, .getfield 104, 3, [177, 10, 2]), (19, .iload_n 2, 1, []), (20, .invokevirtual 107, 3, [0, 26, 613, 494, 75, 492, 493]), (23, .return_, 1, [])]
def ft_c72 : List (Nat × ft_I) := [(0, .aload_n 0, 1, []), (1, .getfield 9, 3, [112, 9, 0]), (4, .iconst 0, 1, []), (5, .iaload, 1, []), (6, .ireturn, 1, [])]
def ft_c73 : List (Nat × ft_I) := [(0, .aload_n 1, 1, []), (1, .invokevirtual 201, 3, [0, 72, 696, 699, 74, 697, 698]), (4, .ifCond .eq 10, 3, []), (7, .aload_n 0, 1, []), (8, .aload_n 1, 1, []), (9, .iconst 1, 1, []), (10, .invokevirtual 189, 3, [0, 71, 692, 695, 75, 694, 4]), (13, .return_, 1, []), (14, .aload_n 0, 1, []), (15, .getfield 12, 3, [411, 5, 3]), (18, .aload_n 1, 1, []), (19, .iconst 4, 1, []), (20, .invokevirtual 204, 3, [0, 74, 704, 707, 74, 705, 706]), (23, .invokevirtual 208, 3, [0, 75, 709, 712, 76, 710, 711]), (26, .aload_n 0, 1, []), (27, .iconst 3, 1, []), (28, .invokevirtual 71, 3, [0, 15, 365, 368, 75, 367, 0]), (31, .aload_n 0, 1, []), (32, .getfield 64, 3, [409, 5, 2]), (35, .aload_n 1, 1, []), (36, .invokevirtual 212, 3, [0, 76, 713, 716, 79, 714, 715]), (39, .istore_n 2, 1, []), (40, .iload_n 2, 1, []), (41, .ifCond .eq 11, 3, []), (44, .aload_n 0, 1, []), (45, .iload_n 2, 1, []), (46, .invokevirtual 101, 3, [0, 53, 609, 612, 75, 611, 3]), (49, .goto 16, 3, []), (52, .aload_n 0, 1, []), (53, .iconst 1, 1, []), (54, .aload_n 0, 1, []), (55, .getfield 12, 3, [411, 5, 3]), (58, .getfield 104, 3, [177, 10, 2]), (61, .iconst 0, 1, []), (62, .invokevirtual 107, 3, [0, 26, 613, 494, 75, 492, 493]), (65, .return_, 1, [])]
def ft_c74 : List (Nat × ft_I) := [(0, .aload_n 0, 1, []), (1, .iload_n 1, 1, []), (2, .invokevirtual 42, 3, [0, 40, 708, 555, 74, 553, 554]), (5, .ifCond .eq 13, 3, []), (8, .aload_n 0, 1, []), (9, .iload_n 1, 1, []), (10, .iconst 5, 1, []), (11, .iadd, 1, []), (12, .invokevirtual 42, 3, [0, 40, 708, 555, 74, 553, 554]), (15, .ifCond .ne 5, 3, []), (18, .lconst 0, 1, []), (19, .lreturn, 1, []), (20, .lconst 0, 1, []), (21, .lstore_n 2, 1, []), (22, .iconst 0, 1, []), (23, .istore 4, 2, []), (25, .iload 4, 2, []), (27, .bipush 6, 2, []), (29, .if_icmp .ge 25, 3, []), (32, .lload_n 2, 1, []), (33, .bipush 8, 2, []), (35, .lshl, 1, []), (36, .aload_n 0, 1, []), (37, .getfield 9, 3, [112, 9, 0]), (40, .iload_n 1, 1, []), (41, .iload 4, 2, []), (43, .iadd, 1, []), (44, .iaload, 1, []), (45, .i2l, 1, []), (46, .lor, 1, []), (47, .lstore_n 2, 1, []), (48, .iinc 4 1, 3, []), (51, .goto (-26), 3, []), (54, .lload_n 2, 1, []), (55, .lreturn, 1, [])]
def ft_c75 : List (Nat × ft_I) := [(0, .aload_n 0, 1, []), (1, .iconst 1, 1, []), (2, .putfield 19, 3, [172, 10, 0]), (5, .aload_n 0, 1, []), (6, .lload_n 1, 1, []), (7, .putfield 23, 3, [174, 10, 1]), (10, .aload_n 0, 1, []), (11, .lload_n 1, 1, []), (12, .putfield 27, 3, [176, 10, 2]), (15, .aload_n 0, 1, []), (16, .lload_n 1, 1, []), (17, .putfield 30, 3, [179, 10, 3]), (20, .aload_n 0, 1, []), (21, .getfield 9, 3, [181, 10, 4]), (24, .iconst 0, 1, []), (25, .invokestatic 33, 3, [0, 21, 390, 392, 83, 391]), (28, .aload_n 0, 1, []), (29, .getfield 9, 3, [181, 10, 4]), (32, .lload_n 1, 1, []), (33, .ldc2_w 44, 3, [547, 255]), (36, .land, 1, []), (37, .l2i, 1, []), (38, .iconst 1, 1, []), (39, .bastore, 1, [0]), (40, .return_, 1, [])]
def ft_c76_0 : List (Nat × ft_I) := [(0, .aload_n 1, 1, []), (1, .invokevirtual 83, 3, [0, 70, 717, 689, 74, 687, 688]), (4, .istore_n 2, 1, []), (5, .iconst 0, 1, []), (6, .istore_n 3, 1, []), (7, .iconst 1, 1, []), (8, .istore 4, 2, []), (10, .aload_n 1, 1, []), (11, .invokevirtual 87, 3, [0, 39, 718, 551, 74, 549, 550]), (14, .istore 5, 2, []), (16, .iload 5, 2, []), (18, .iload_n 2, 1, []), (19, .if_icmp .ge 169, 3, []), (22, .aload_n 1, 1, []), (23, .iload 5, 2, []), (25, .invokevirtual 90, 3, [0, 77, 719, 722, 74, 720, 721]), (28, .istore 6, 2, []), (30, .iload 6, 2, []), (32, .iconst 1, 1, []), (33, .if_icmp .gt 33, 3, []), (36, .iload_n 3, 1, []), (37, .ifCond .eq 11, 3, []), (40, .iload 6, 2, []), (42, .iconst 1, 1, []), (43, .if_icmp .ne 5, 3, []), (46, .iconst 3, 1, []), (47, .ireturn, 1, []), (48, .iload 6, 2, []), (50, .iconst 1, 1, []), (51, .if_icmp .ne 7, 3, []), (54, .iconst 1, 1, []), (55, .goto 4, 3, []), (58, .iconst 0, 1, []), (59, .istore_n 3, 1, []), (60, .iconst 1, 1, []), (61, .istore 4, 2, []), (63, .goto 115, 3, []), (66, .iload 5, 2, []), (68, .iconst 1, 1, []), (69, .iadd, 1, []), (70, .iload_n 2, 1, []), (71, .if_icmp .ge 14, 3, []), (74, .aload_n 1, 1, []), (75, .iload 5, 2, []), (77, .iconst 1, 1, []), (78, .iadd, 1, []), (79, .invokevirtual 90, 3, [0, 77, 719, 722, 74, 720, 721]), (82, .goto 4, 3, []), (85, .iconst 0, 1, []), (86, .istore 4, 2, []), (88, .iload 4, 2, []), (90, .iconst 2, 1, []), (91, .if_icmp .lt 23, 3, []), (94, .iload 5, 2, []), (96, .iload 4, 2, []), (98, .iadd, 1, []), (99, .iload_n 2, 1, []), (100, .if_icmp .gt 14, 3, []), (103, .aload_n 1, 1, []), (104, .iload 5, 2, [])]
def ft_c76_1 : List (Nat × ft_I) := [(106, .iload 4, 2, []), (108, .invokestatic 93, 3, [0, 78, 723, 725, 79, 724]), (111, .ifCond .ne 5, 3, []), (114, .iconst 3, 1, []), (115, .ireturn, 1, []), (116, .iload_n 3, 1, []), (117, .ifCond .eq 12, 3, []), (120, .iload 6, 2, []), (122, .bipush 6, 2, []), (124, .if_icmp .le 5, 3, []), (127, .iconst 3, 1, []), (128, .ireturn, 1, []), (129, .iconst 0, 1, []), (130, .istore_n 3, 1, []), (131, .iload 6, 2, []), (133, .iconst 2, 1, []), (134, .if_icmp .eq 9, 3, []), (137, .iload 6, 2, []), (139, .iconst 4, 1, []), (140, .if_icmp .ne 12, 3, []), (143, .aload_n 0, 1, []), (144, .aload_n 1, 1, []), (145, .iload 5, 2, []), (147, .iload 4, 2, []), (149, .invokevirtual 97, 3, [0, 79, 726, 729, 79, 728, 6]), (152, .iload 6, 2, []), (154, .iconst 3, 1, []), (155, .if_icmp .eq 9, 3, []), (158, .iload 6, 2, []), (160, .iconst 5, 1, []), (161, .if_icmp .ne 17, 3, []), (164, .aload_n 0, 1, []), (165, .aload_n 1, 1, []), (166, .iload 5, 2, []), (168, .iload 4, 2, []), (170, .invokevirtual 101, 3, [0, 87, 763, 766, 79, 765, 8]), (173, .ifCond .ne 5, 3, []), (176, .iconst 4, 1, []), (177, .ireturn, 1, []), (178, .iload 5, 2, []), (180, .iload 4, 2, []), (182, .iadd, 1, []), (183, .istore 5, 2, []), (185, .goto (-169), 3, []), (188, .iload_n 3, 1, []), (189, .ifCond .eq 7, 3, []), (192, .iconst 3, 1, []), (193, .goto 4, 3, []), (196, .iconst 0, 1, []), (197, .ireturn, 1, [])]
def ft_c76 : List (Nat × ft_I) := ft_c76_0 ++ (ft_c76_1)
def ft_c77 : List (Nat × ft_I) := [(0, .iload_n 1, 1, []), (1, .ifCond .lt 29, 3, []), (4, .iload_n 1, 1, []), (5, .aload_n 0, 1, []), (6, .getfield 15, 3, [116, 9, 1]), (9, .if_icmp .ge 21, 3, []), (12, .iload_n 1, 1, []), (13, .aload_n 0, 1, []), (14, .getfield 9, 3, [112, 9, 0]), (17, .arraylength, 1, []), (18, .if_icmp .ge 12, 3, []), (21, .aload_n 0, 1, []), (22, .getfield 9, 3, [112, 9, 0]), (25, .iload_n 1, 1, []), (26, .iaload, 1, []), (27, .goto 4, 3, []), (30, .iconst 0, 1, []), (31, .ireturn, 1, [])]
def ft_c78 : List (Nat × ft_I) := [(0, .aload_n 0, 1, []), (1, .iload_n 1, 1, []), (2, .invokevirtual 90, 3, [0, 77, 719, 722, 74, 720, 721]), (5, .tableswitch 123 2 6 #[35, 52, 35, 52, 69], 35, []), (40, .iload_n 2, 1, []), (41, .iconst 4, 1, []), (42, .if_icmp .lt 13, 3, []), (45, .iload_n 2, 1, []), (46, .bipush 6, 2, []), (48, .if_icmp .gt 7, 3, []), (51, .iconst 1, 1, []), (52, .goto 4, 3, []), (55, .iconst 0, 1, []), (56, .ireturn, 1, []), (57, .iload_n 2, 1, []), (58, .iconst 3, 1, []), (59, .if_icmp .lt 13, 3, []), (62, .iload_n 2, 1, []), (63, .bipush 7, 2, []), (65, .if_icmp .gt 7, 3, []), (68, .iconst 1, 1, []), (69, .goto 4, 3, []), (72, .iconst 0, 1, []), (73, .ireturn, 1, []), (74, .iload_n 2, 1, []), (75, .iconst 3, 1, []), (76, .if_icmp .lt 9, 3, []), (79, .iload_n 2, 1, []), (80, .bipush 42, 2, []), (82, .if_icmp .le 5, 3, []), (85, .iconst 0, 1, []), (86, .ireturn, 1, []), (87, .iconst 2, 1, []), (88, .istore_n 3, 1, []), (89, .iload_n 3, 1, []), (90, .iload_n 2, 1, []), (91, .if_icmp .ge 35, 3, []), (94, .aload_n 0, 1, []), (95, .iload_n 1, 1, []), (96, .iload_n 3, 1, []), (97, .iadd, 1, []), (98, .invokevirtual 90, 3, [0, 77, 719, 722, 74, 720, 721]), (101, .bipush 6, 2, []), (103, .ishr, 1, []), (104, .istore 4, 2, []), (106, .iload 4, 2, []), (108, .iconst 1, 1, []), (109, .if_icmp .eq 9, 3, []), (112, .iload 4, 2, []), (114, .iconst 2, 1, []), (115, .if_icmp .ne 5, 3, []), (118, .iconst 0, 1, []), (119, .ireturn, 1, []), (120, .iinc 3 1, 3, []), (123, .goto (-34), 3, []), (126, .iconst 1, 1, []), (127, .ireturn, 1, []), (128, .iconst 1, 1, []), (129, .ireturn, 1, [])]
def ft_c79_0 : List (Nat × ft_I) := [(0, .aload_n 1, 1, []), (1, .iload_n 2, 1, []), (2, .invokevirtual 90, 3, [0, 77, 719, 722, 74, 720, 721]), (5, .iconst 4, 1, []), (6, .if_icmp .ne 7, 3, []), (9, .iconst 1, 1, []), (10, .goto 4, 3, []), (13, .iconst 0, 1, []), (14, .istore 4, 2, []), (16, .iload 4, 2, []), (18, .ifCond .eq 7, 3, []), (21, .iconst 3, 1, []), (22, .goto 4, 3, []), (25, .iconst 5, 1, []), (26, .istore 5, 2, []), (28, .aload_n 1, 1, []), (29, .iload_n 2, 1, []), (30, .iconst 2, 1, []), (31, .iadd, 1, []), (32, .invokevirtual 90, 3, [0, 77, 719, 722, 74, 720, 721]), (35, .istore 6, 2, []), (37, .aload_n 0, 1, []), (38, .iload 4, 2, []), (40, .iload 6, 2, []), (42, .invokevirtual 48, 3, [0, 35, 529, 532, 79, 530, 531]), (45, .astore 7, 2, []), (47, .aload 7, 2, []), (49, .ifnonnull 15, 3, []), (52, .aload_n 0, 1, []), (53, .getfield 20, 3, [344, 1, 2]), (56, .iload 5, 2, []), (58, .iload 6, 2, []), (60, .invokevirtual 104, 3, [0, 80, 730, 733, 80, 731, 732]), (63, .return_, 1, []), (64, .aload 7, 2, []), (66, .aload_n 1, 1, []), (67, .iconst 4, 1, []), (68, .invokevirtual 108, 3, [0, 74, 734, 707, 74, 705, 706]), (71, .invokevirtual 112, 3, [0, 81, 735, 738, 82, 736, 737]), (74, .ifCond .ne 4, 3, []), (77, .return_, 1, []), (78, .aload_n 0, 1, []), (79, .getfield 27, 3, [347, 1, 3]), (82, .aload_n 1, 1, []), (83, .iload_n 2, 1, []), (84, .iconst 3, 1, []), (85, .iadd, 1, []), (86, .iload_n 3, 1, []), (87, .iconst 3, 1, []), (88, .isub, 1, []), (89, .invokevirtual 116, 3, [0, 83, 743, 746, 81, 744, 745]), (92, .aload_n 0, 1, []), (93, .getfield 27, 3, [347, 1, 3]), (96, .iload 6, 2, []), (98, .invokevirtual 119, 3, [0, 60, 748, 643, 81, 641, 642]), (101, .ifCond .eq 14, 3, []), (104, .iload 4, 2, []), (106, .ifCond .eq 23, 3, []), (109, .iload 6, 2, []), (111, .iconst 2, 1, [])]
def ft_c79_1 : List (Nat × ft_I) := [(112, .if_icmp .gt 17, 3, []), (115, .aload_n 0, 1, []), (116, .getfield 20, 3, [344, 1, 2]), (119, .iload 5, 2, []), (121, .iload 6, 2, []), (123, .invokevirtual 104, 3, [0, 80, 730, 733, 80, 731, 732]), (126, .goto 74, 3, []), (129, .iload 6, 2, []), (131, .iconst 2, 1, []), (132, .if_icmp .gt 36, 3, []), (135, .aload 7, 2, []), (137, .aload_n 0, 1, []), (138, .getfield 27, 3, [347, 1, 3]), (141, .iconst 0, 1, []), (142, .invokevirtual 79, 3, [0, 33, 521, 524, 81, 522, 523]), (145, .putfield 52, 3, [318, 6, 2]), (148, .aload_n 0, 1, []), (149, .getfield 20, 3, [344, 1, 2]), (152, .iload 5, 2, []), (154, .iload 6, 2, []), (156, .aload 7, 2, []), (158, .getfield 52, 3, [318, 6, 2]), (161, .aconst_null, 1, []), (162, .invokevirtual 123, 3, [0, 84, 749, 752, 80, 750, 751]), (165, .goto 35, 3, []), (168, .aload 7, 2, []), (170, .aload_n 0, 1, []), (171, .aload 7, 2, []), (173, .invokevirtual 127, 3, [0, 85, 755, 758, 79, 757, 7]), (176, .putfield 52, 3, [318, 6, 2]), (179, .aload_n 0, 1, []), (180, .getfield 20, 3, [344, 1, 2]), (183, .iload 5, 2, []), (185, .iload 6, 2, []), (187, .aload 7, 2, []), (189, .getfield 52, 3, [318, 6, 2]), (192, .aload 7, 2, []), (194, .getfield 55, 3, [315, 6, 1]), (197, .invokevirtual 123, 3, [0, 84, 749, 752, 80, 750, 751]), (200, .return_, 1, [])]
def ft_c79 : List (Nat × ft_I) := ft_c79_0 ++ (ft_c79_1)
def ft_c80 : List (Nat × ft_I) := [(0, .aload_n 0, 1, []), (1, .getfield 15, 3, [279, 3, 1]), (4, .bipush 12, 2, []), (6, .if_icmp .lt 4, 3, []), (9, .return_, 1, []), (10, .aload_n 0, 1, []), (11, .dup, 1, []), (12, .getfield 15, 3, [279, 3, 1]), (15, .dup_x1, 1, []), (16, .iconst 1, 1, []), (17, .iadd, 1, []), (18, .putfield 15, 3, [279, 3, 1]), (21, .bipush 7, 2, []), (23, .imul, 1, []), (24, .istore_n 3, 1, []), (25, .aload_n 0, 1, []), (26, .getfield 11, 3, [278, 3, 0]), (29, .iload_n 3, 1, []), (30, .iload_n 1, 1, []), (31, .iastore, 1, []), (32, .aload_n 0, 1, []), (33, .getfield 11, 3, [278, 3, 0]), (36, .iload_n 3, 1, []), (37, .iconst 1, 1, []), (38, .iadd, 1, []), (39, .iconst 3, 1, []), (40, .iastore, 1, []), (41, .aload_n 0, 1, []), (42, .getfield 11, 3, [278, 3, 0]), (45, .iload_n 3, 1, []), (46, .iconst 2, 1, []), (47, .iadd, 1, []), (48, .iload_n 2, 1, []), (49, .iastore, 1, []), (50, .return_, 1, [])]
def ft_c81 : List (Nat × ft_I) := [(0, .aload_n 0, 1, []), (1, .getfield 47, 3, [325, 6, 5]), (4, .ifCond .eq 16, 3, []), (7, .aload_n 0, 1, []), (8, .getfield 50, 3, [326, 6, 6]), (11, .lload_n 1, 1, []), (12, .invokestatic 54, 3, [1, 82, 739, 741, 71, 740]), (15, .ifCond .eq 5, 3, []), (18, .iconst 0, 1, []), (19, .ireturn, 1, []), (20, .aload_n 0, 1, []), (21, .iconst 1, 1, []), (22, .putfield 47, 3, [325, 6, 5]), (25, .aload_n 0, 1, []), (26, .lload_n 1, 1, []), (27, .putfield 50, 3, [326, 6, 6]), (30, .iconst 1, 1, []), (31, .ireturn, 1, [])]
def ft_c82 : List (Nat × ft_I) := [(0, .lload_n 0, 1, []), (1, .lload_n 2, 1, []), (2, .lsub, 1, []), (3, .ldc2_w 34, 3, [161, 281474976710655]), (6, .land, 1, []), (7, .lstore 4, 2, []), (9, .lload 4, 2, []), (11, .lconst 1, 1, []), (12, .lcmp, 1, []), (13, .ifCond .lt 16, 3, []), (16, .lload 4, 2, []), (18, .ldc2_w 280, 3, [742, 140737488355328]), (21, .lcmp, 1, []), (22, .ifCond .ge 7, 3, []), (25, .iconst 1, 1, []), (26, .goto 4, 3, []), (29, .iconst 0, 1, []), (30, .ireturn, 1, [])]
def ft_c83 : List (Nat × ft_I) := [(0, .aload_n 0, 1, []), (1, .iconst 0, 1, []), (2, .putfield 15, 3, [295, 2, 1]), (5, .iconst 0, 1, []), (6, .istore 4, 2, []), (8, .iload 4, 2, []), (10, .iload_n 3, 1, []), (11, .if_icmp .ge 27, 3, []), (14, .iload 4, 2, []), (16, .iconst 3, 1, []), (17, .if_icmp .ge 21, 3, []), (20, .aload_n 0, 1, []), (21, .aload_n 1, 1, []), (22, .iload_n 2, 1, []), (23, .iload 4, 2, []), (25, .iadd, 1, []), (26, .invokevirtual 23, 3, [0, 77, 747, 722, 74, 720, 721]), (29, .invokevirtual 19, 3, [0, 19, 639, 385, 81, 383, 384]), (32, .iinc 4 1, 3, []), (35, .goto (-27), 3, []), (38, .return_, 1, [])]
def ft_c84 : List (Nat × ft_I) := [(0, .aload_n 0, 1, []), (1, .getfield 15, 3, [279, 3, 1]), (4, .bipush 12, 2, []), (6, .if_icmp .lt 4, 3, []), (9, .return_, 1, []), (10, .aload_n 0, 1, []), (11, .getfield 15, 3, [279, 3, 1]), (14, .bipush 7, 2, []), (16, .imul, 1, []), (17, .istore 5, 2, []), (19, .aload_n 0, 1, []), (20, .iload_n 1, 1, []), (21, .iload_n 2, 1, []), (22, .invokevirtual 19, 3, [0, 80, 753, 733, 80, 731, 732]), (25, .aload 4, 2, []), (27, .ifnonnull 7, 3, []), (30, .iconst 0, 1, []), (31, .goto 8, 3, []), (34, .aload 4, 2, []), (36, .getfield 23, 3, [297, 2, 1]), (39, .istore 6, 2, []), (41, .aload_n 0, 1, []), (42, .getfield 11, 3, [278, 3, 0]), (45, .iload 5, 2, []), (47, .iconst 1, 1, []), (48, .iadd, 1, []), (49, .iconst 4, 1, []), (50, .iload 6, 2, []), (52, .iadd, 1, []), (53, .iastore, 1, []), (54, .aload_n 0, 1, []), (55, .getfield 11, 3, [278, 3, 0]), (58, .iload 5, 2, []), (60, .iconst 3, 1, []), (61, .iadd, 1, []), (62, .iload_n 3, 1, []), (63, .iastore, 1, []), (64, .iconst 0, 1, []), (65, .istore 7, 2, []), (67, .iload 7, 2, []), (69, .iload 6, 2, []), (71, .if_icmp .ge 34, 3, []), (74, .iload 7, 2, []), (76, .iconst 3, 1, []), (77, .if_icmp .ge 28, 3, []), (80, .aload_n 0, 1, []), (81, .getfield 11, 3, [278, 3, 0]), (84, .iload 5, 2, []), (86, .iconst 4, 1, []), (87, .iadd, 1, []), (88, .iload 7, 2, []), (90, .iadd, 1, []), (91, .aload 4, 2, []), (93, .iload 7, 2, []), (95, .invokevirtual 28, 3, [0, 33, 754, 524, 81, 522, 523]), (98, .iastore, 1, []), (99, .iinc 7 1, 3, []), (102, .goto (-35), 3, []), (105, .return_, 1, [])]
def ft_c85 : List (Nat × ft_I) := [(0, .aload_n 0, 1, []), (1, .getfield 31, 3, [342, 1, 0]), (4, .ifCond .eq 21, 3, []), (7, .aload_n 1, 1, []), (8, .getfield 55, 3, [315, 6, 1]), (11, .aload_n 0, 1, []), (12, .getfield 27, 3, [347, 1, 3]), (15, .aload_n 1, 1, []), (16, .getfield 52, 3, [318, 6, 2]), (19, .invokevirtual 131, 3, [0, 86, 759, 762, 81, 760, 761]), (22, .goto 18, 3, []), (25, .aload_n 0, 1, []), (26, .getfield 27, 3, [347, 1, 3]), (29, .aload_n 1, 1, []), (30, .getfield 55, 3, [315, 6, 1]), (33, .aload_n 1, 1, []), (34, .getfield 52, 3, [318, 6, 2]), (37, .invokevirtual 131, 3, [0, 86, 759, 762, 81, 760, 761]), (40, .ireturn, 1, [])]
def ft_c86 : List (Nat × ft_I) := [(0, .iconst 0, 1, []), (1, .istore_n 3, 1, []), (2, .iload_n 3, 1, []), (3, .aload_n 0, 1, []), (4, .getfield 15, 3, [295, 2, 1]), (7, .if_icmp .ge 50, 3, []), (10, .iconst 0, 1, []), (11, .istore 4, 2, []), (13, .iload 4, 2, []), (15, .aload_n 1, 1, []), (16, .getfield 15, 3, [295, 2, 1]), (19, .if_icmp .ge 32, 3, []), (22, .aload_n 0, 1, []), (23, .getfield 9, 3, [294, 2, 0]), (26, .iload_n 3, 1, []), (27, .iaload, 1, []), (28, .aload_n 1, 1, []), (29, .getfield 9, 3, [294, 2, 0]), (32, .iload 4, 2, []), (34, .iaload, 1, []), (35, .if_icmp .ne 10, 3, []), (38, .aload_n 0, 1, []), (39, .getfield 9, 3, [294, 2, 0]), (42, .iload_n 3, 1, []), (43, .iaload, 1, []), (44, .ireturn, 1, []), (45, .iinc 4 1, 3, []), (48, .goto (-35), 3, []), (51, .iinc 3 1, 3, []), (54, .goto (-52), 3, []), (57, .iload_n 2, 1, []), (58, .ireturn, 1, [])]
def ft_c87_0 : List (Nat × ft_I) := [(0, .aload_n 1, 1, []), (1, .iload_n 2, 1, []), (2, .iconst 2, 1, []), (3, .iadd, 1, []), (4, .invokevirtual 90, 3, [0, 77, 719, 722, 74, 720, 721]), (7, .istore 4, 2, []), (9, .aload_n 0, 1, []), (10, .aload_n 1, 1, []), (11, .iload_n 2, 1, []), (12, .invokevirtual 90, 3, [0, 77, 719, 722, 74, 720, 721]), (15, .iconst 5, 1, []), (16, .if_icmp .ne 7, 3, []), (19, .iconst 1, 1, []), (20, .goto 4, 3, []), (23, .iconst 0, 1, []), (24, .iload 4, 2, []), (26, .invokevirtual 48, 3, [0, 35, 529, 532, 79, 530, 531]), (29, .astore 5, 2, []), (31, .aload 5, 2, []), (33, .ifnull 24, 3, []), (36, .aload 5, 2, []), (38, .aload_n 1, 1, []), (39, .iconst 4, 1, []), (40, .invokevirtual 108, 3, [0, 74, 734, 707, 74, 705, 706]), (43, .invokevirtual 112, 3, [0, 81, 735, 738, 82, 736, 737]), (46, .ifCond .eq 11, 3, []), (49, .aload 5, 2, []), (51, .getfield 62, 3, [321, 6, 3]), (54, .ifCond .ne 5, 3, []), (57, .iconst 1, 1, []), (58, .ireturn, 1, []), (59, .iload_n 3, 1, []), (60, .iconst 3, 1, []), (61, .if_icmp .ne 11, 3, []), (64, .aload 5, 2, []), (66, .iconst 0, 1, []), (67, .putfield 62, 3, [321, 6, 3]), (70, .iconst 1, 1, []), (71, .ireturn, 1, []), (72, .aload_n 1, 1, []), (73, .iload_n 2, 1, []), (74, .iconst 3, 1, []), (75, .iadd, 1, []), (76, .invokevirtual 90, 3, [0, 77, 719, 722, 74, 720, 721]), (79, .istore 6, 2, []), (81, .iload 4, 2, []), (83, .iconst 2, 1, []), (84, .if_icmp .gt 19, 3, []), (87, .iload 6, 2, []), (89, .aload 5, 2, []), (91, .getfield 55, 3, [315, 6, 1]), (94, .iconst 0, 1, []), (95, .invokevirtual 79, 3, [0, 33, 521, 524, 81, 522, 523]), (98, .if_icmp .eq 44, 3, []), (101, .iconst 1, 1, []), (102, .ireturn, 1, []), (103, .aload_n 0, 1, []), (104, .getfield 27, 3, [347, 1, 3]), (107, .aload_n 1, 1, []), (108, .iload_n 2, 1, [])]
def ft_c87_1 : List (Nat × ft_I) := [(109, .iconst 4, 1, []), (110, .iadd, 1, []), (111, .iload_n 3, 1, []), (112, .iconst 4, 1, []), (113, .isub, 1, []), (114, .invokevirtual 116, 3, [0, 83, 743, 746, 81, 744, 745]), (117, .aload_n 0, 1, []), (118, .getfield 27, 3, [347, 1, 3]), (121, .iload 4, 2, []), (123, .invokevirtual 119, 3, [0, 60, 748, 643, 81, 641, 642]), (126, .ifCond .eq 14, 3, []), (129, .iload 6, 2, []), (131, .aload_n 0, 1, []), (132, .aload 5, 2, []), (134, .invokevirtual 127, 3, [0, 85, 755, 758, 79, 757, 7]), (137, .if_icmp .eq 5, 3, []), (140, .iconst 0, 1, []), (141, .ireturn, 1, []), (142, .aload 5, 2, []), (144, .iload 6, 2, []), (146, .putfield 52, 3, [318, 6, 2]), (149, .aload 5, 2, []), (151, .iconst 0, 1, []), (152, .putfield 62, 3, [321, 6, 3]), (155, .iconst 1, 1, []), (156, .ireturn, 1, [])]
def ft_c87 : List (Nat × ft_I) := ft_c87_0 ++ (ft_c87_1)
def ft_c88_0 : List (Nat × ft_I) := [(0, .aload_n 1, 1, []), (1, .invokevirtual 216, 3, [0, 29, 771, 506, 74, 504, 505]), (4, .ifCond .eq 20, 3, []), (7, .aload_n 0, 1, []), (8, .aload_n 1, 1, []), (9, .bipush 10, 2, []), (11, .invokevirtual 204, 3, [0, 74, 704, 707, 74, 705, 706]), (14, .invokevirtual 219, 3, [0, 89, 772, 775, 75, 774, 10]), (17, .ifCond .eq 7, 3, []), (20, .iconst 1, 1, []), (21, .goto 4, 3, []), (24, .iconst 0, 1, []), (25, .istore_n 2, 1, []), (26, .aload_n 1, 1, []), (27, .invokevirtual 201, 3, [0, 72, 696, 699, 74, 697, 698]), (30, .bipush 7, 2, []), (32, .if_icmp .ne 25, 3, []), (35, .iload_n 2, 1, []), (36, .ifCond .eq 21, 3, []), (39, .aload_n 0, 1, []), (40, .aload_n 1, 1, []), (41, .bipush 16, 2, []), (43, .invokevirtual 223, 3, [0, 77, 777, 722, 74, 720, 721]), (46, .putfield 45, 3, [423, 5, 9]), (49, .aload_n 0, 1, []), (50, .iconst 0, 1, []), (51, .invokevirtual 71, 3, [0, 15, 365, 368, 75, 367, 0]), (54, .goto 75, 3, []), (57, .aload_n 1, 1, []), (58, .invokevirtual 201, 3, [0, 72, 696, 699, 74, 697, 698]), (61, .iconst 1, 1, []), (62, .if_icmp .ne 61, 3, []), (65, .iload_n 2, 1, []), (66, .ifCond .eq 57, 3, []), (69, .aload_n 0, 1, []), (70, .getfield 12, 3, [411, 5, 3]), (73, .aload_n 1, 1, []), (74, .iconst 4, 1, []), (75, .invokevirtual 204, 3, [0, 74, 704, 707, 74, 705, 706]), (78, .invokevirtual 208, 3, [0, 75, 709, 712, 76, 710, 711]), (81, .aload_n 0, 1, []), (82, .iconst 4, 1, []), (83, .invokevirtual 71, 3, [0, 15, 365, 368, 75, 367, 0]), (86, .aload_n 0, 1, []), (87, .getfield 64, 3, [409, 5, 2]), (90, .aload_n 1, 1, []), (91, .invokevirtual 212, 3, [0, 76, 713, 716, 79, 714, 715]), (94, .istore_n 3, 1, []), (95, .iload_n 3, 1, []), (96, .ifCond .eq 11, 3, []), (99, .aload_n 0, 1, []), (100, .iload_n 3, 1, []), (101, .invokevirtual 101, 3, [0, 53, 609, 612, 75, 611, 3]), (104, .goto 16, 3, []), (107, .aload_n 0, 1, []), (108, .iconst 3, 1, []), (109, .aload_n 0, 1, []), (110, .getfield 12, 3, [411, 5, 3]), (113, .getfield 104, 3, [177, 10, 2]), (116, .iconst 0, 1, [])]
def ft_c88_1 : List (Nat × ft_I) := [(117, .invokevirtual 107, 3, [0, 26, 613, 494, 75, 492, 493]), (120, .goto 9, 3, []), (123, .aload_n 0, 1, []), (124, .aload_n 1, 1, []), (125, .iconst 2, 1, []), (126, .invokevirtual 189, 3, [0, 71, 692, 695, 75, 694, 4]), (129, .return_, 1, [])]
def ft_c88 : List (Nat × ft_I) := ft_c88_0 ++ (ft_c88_1)
def ft_c89 : List (Nat × ft_I) := [(0, .aload_n 0, 1, []), (1, .getfield 74, 3, [429, 5, 12]), (4, .lload_n 1, 1, []), (5, .invokestatic 227, 3, [1, 82, 776, 741, 71, 740]), (8, .ifCond .ne 33, 3, []), (11, .aload_n 0, 1, []), (12, .getfield 55, 3, [427, 5, 11]), (15, .lconst 1, 1, []), (16, .lsub, 1, []), (17, .lload_n 1, 1, []), (18, .lsub, 1, []), (19, .ldc2_w 174, 3, [580, 281474976710655]), (22, .land, 1, []), (23, .aload_n 0, 1, []), (24, .getfield 64, 3, [409, 5, 2]), (27, .iconst 1, 1, []), (28, .iconst 1, 1, []), (29, .invokevirtual 138, 3, [0, 34, 525, 528, 79, 526, 527]), (32, .i2l, 1, []), (33, .lcmp, 1, []), (34, .ifCond .ge 7, 3, []), (37, .iconst 1, 1, []), (38, .goto 4, 3, []), (41, .iconst 0, 1, []), (42, .ireturn, 1, [])]
def ft_c90_0 : List (Nat × ft_I) := [(0, .aload_n 1, 1, []), (1, .invokevirtual 201, 3, [0, 72, 696, 699, 74, 697, 698]), (4, .istore_n 2, 1, []), (5, .aload_n 1, 1, []), (6, .iconst 4, 1, []), (7, .invokevirtual 204, 3, [0, 74, 704, 707, 74, 705, 706]), (10, .lstore_n 3, 1, []), (11, .aload_n 0, 1, []), (12, .getfield 12, 3, [411, 5, 3]), (15, .lload_n 3, 1, []), (16, .aload_n 0, 1, []), (17, .getfield 64, 3, [409, 5, 2]), (20, .iconst 0, 1, []), (21, .iconst 1, 1, []), (22, .invokevirtual 138, 3, [0, 34, 525, 528, 79, 526, 527]), (25, .invokevirtual 231, 3, [0, 91, 782, 785, 76, 783, 784]), (28, .istore 5, 2, []), (30, .iload 5, 2, []), (32, .ifCond .eq 23, 3, []), (35, .aload_n 1, 1, []), (36, .invokevirtual 216, 3, [0, 29, 771, 506, 74, 504, 505]), (39, .ifCond .eq 38, 3, []), (42, .aload_n 0, 1, []), (43, .aload_n 1, 1, []), (44, .bipush 10, 2, []), (46, .invokevirtual 204, 3, [0, 74, 704, 707, 74, 705, 706]), (49, .invokevirtual 219, 3, [0, 89, 772, 775, 75, 774, 10]), (52, .ifCond .ne 25, 3, []), (55, .aload_n 0, 1, []), (56, .getfield 37, 3, [419, 5, 7]), (59, .iconst 3, 1, []), (60, .dup2, 1, []), (61, .iaload, 1, []), (62, .iconst 1, 1, []), (63, .iadd, 1, []), (64, .iastore, 1, []), (65, .iload_n 2, 1, []), (66, .bipush 7, 2, []), (68, .if_icmp .ge 8, 3, []), (71, .aload_n 0, 1, []), (72, .lload_n 3, 1, []), (73, .invokevirtual 235, 3, [0, 92, 787, 790, 75, 789, 12]), (76, .return_, 1, []), (77, .iload_n 2, 1, []), (78, .iconst 1, 1, []), (79, .if_icmp .ne 25, 3, []), (82, .aload_n 0, 1, []), (83, .getfield 87, 3, [426, 5, 10]), (86, .iconst 4, 1, []), (87, .if_icmp .ne 17, 3, []), (90, .aload_n 0, 1, []), (91, .iconst 3, 1, []), (92, .aload_n 0, 1, []), (93, .getfield 12, 3, [411, 5, 3]), (96, .getfield 104, 3, [177, 10, 2]), (99, .iconst 0, 1, []), (100, .invokevirtual 107, 3, [0, 26, 613, 494, 75, 492, 493]), (103, .return_, 1, []), (104, .iload_n 2, 1, []), (105, .iconst 1, 1, [])]
def ft_c90_1 : List (Nat × ft_I) := [(106, .if_icmp .eq 28, 3, []), (109, .iload_n 2, 1, []), (110, .ifCond .ne 11, 3, []), (113, .aload_n 0, 1, []), (114, .getfield 87, 3, [426, 5, 10]), (117, .iconst 3, 1, []), (118, .if_icmp .ne 16, 3, []), (121, .iload_n 2, 1, []), (122, .iconst 5, 1, []), (123, .if_icmp .ne 17, 3, []), (126, .aload_n 0, 1, []), (127, .getfield 48, 3, [407, 5, 0]), (130, .iconst 1, 1, []), (131, .if_icmp .ne 9, 3, []), (134, .aload_n 0, 1, []), (135, .lload_n 3, 1, []), (136, .invokevirtual 235, 3, [0, 92, 787, 790, 75, 789, 12]), (139, .return_, 1, []), (140, .aload_n 0, 1, []), (141, .getfield 12, 3, [411, 5, 3]), (144, .lload_n 3, 1, []), (145, .invokevirtual 238, 3, [0, 93, 791, 794, 76, 792, 793]), (148, .ifCond .eq 14, 3, []), (151, .aload_n 0, 1, []), (152, .getfield 37, 3, [419, 5, 7]), (155, .iconst 4, 1, []), (156, .dup2, 1, []), (157, .iaload, 1, []), (158, .iconst 1, 1, []), (159, .iadd, 1, []), (160, .iastore, 1, []), (161, .return_, 1, []), (162, .aload_n 0, 1, []), (163, .getfield 12, 3, [411, 5, 3]), (166, .lload_n 3, 1, []), (167, .invokevirtual 241, 3, [0, 94, 795, 798, 76, 796, 797]), (170, .iload_n 2, 1, []), (171, .iconst 2, 1, []), (172, .if_icmp .ne 7, 3, []), (175, .iconst 0, 1, []), (176, .goto 11, 3, []), (179, .aload_n 0, 1, []), (180, .getfield 64, 3, [409, 5, 2]), (183, .aload_n 1, 1, []), (184, .invokevirtual 212, 3, [0, 76, 713, 716, 79, 714, 715]), (187, .istore 6, 2, []), (189, .iload 6, 2, []), (191, .ifCond .eq 10, 3, []), (194, .aload_n 0, 1, []), (195, .iload 6, 2, []), (197, .invokevirtual 101, 3, [0, 53, 609, 612, 75, 611, 3]), (200, .return_, 1, []), (201, .aload_n 1, 1, []), (202, .invokevirtual 216, 3, [0, 29, 771, 506, 74, 504, 505]), (205, .ifCond .eq 20, 3, []), (208, .iload_n 2, 1, []), (209, .bipush 8, 2, []), (211, .if_icmp .eq 14, 3, []), (214, .iload_n 2, 1, []), (215, .bipush 9, 2, [])]
def ft_c90_2 : List (Nat × ft_I) := [(217, .if_icmp .eq 8, 3, []), (220, .aload_n 0, 1, []), (221, .aload_n 1, 1, []), (222, .invokevirtual 244, 3, [0, 95, 800, 803, 75, 802, 13]), (225, .aload_n 0, 1, []), (226, .getfield 87, 3, [426, 5, 10]), (229, .iconst 3, 1, []), (230, .if_icmp .ne 7, 3, []), (233, .iload_n 2, 1, []), (234, .ifCond .ne 17, 3, []), (237, .aload_n 0, 1, []), (238, .getfield 87, 3, [426, 5, 10]), (241, .iconst 4, 1, []), (242, .if_icmp .ne 13, 3, []), (245, .iload_n 2, 1, []), (246, .bipush 8, 2, []), (248, .if_icmp .eq 7, 3, []), (251, .iconst 1, 1, []), (252, .goto 4, 3, []), (255, .iconst 0, 1, []), (256, .istore 7, 2, []), (258, .iload 7, 2, []), (260, .ifCond .eq 8, 3, []), (263, .aload_n 0, 1, []), (264, .iconst 5, 1, []), (265, .invokevirtual 71, 3, [0, 15, 365, 368, 75, 367, 0]), (268, .aload_n 1, 1, []), (269, .invokevirtual 156, 3, [0, 41, 557, 560, 74, 558, 559]), (272, .ifCond .eq 8, 3, []), (275, .aload_n 0, 1, []), (276, .aload_n 1, 1, []), (277, .invokevirtual 247, 3, [0, 101, 829, 832, 75, 831, 15]), (280, .aload_n 0, 1, []), (281, .iload_n 2, 1, []), (282, .aload_n 1, 1, []), (283, .invokevirtual 250, 3, [0, 102, 835, 838, 75, 837, 16]), (286, .return_, 1, [])]
def ft_c90 : List (Nat × ft_I) := ft_c90_0 ++ (ft_c90_1 ++ (ft_c90_2))
def ft_c91 : List (Nat × ft_I) := [(0, .aload_n 0, 1, []), (1, .getfield 23, 3, [174, 10, 1]), (4, .lload_n 1, 1, []), (5, .invokestatic 46, 3, [1, 82, 786, 741, 71, 740]), (8, .ifCond .ne 30, 3, []), (11, .lload_n 1, 1, []), (12, .aload_n 0, 1, []), (13, .getfield 27, 3, [176, 10, 2]), (16, .lconst 1, 1, []), (17, .ladd, 1, []), (18, .iload_n 3, 1, []), (19, .iconst 4, 1, []), (20, .idiv, 1, []), (21, .i2l, 1, []), (22, .lsub, 1, []), (23, .lsub, 1, []), (24, .ldc2_w 50, 3, [538, 281474976710655]), (27, .land, 1, []), (28, .iload_n 3, 1, []), (29, .i2l, 1, []), (30, .lcmp, 1, []), (31, .ifCond .ge 7, 3, []), (34, .iconst 1, 1, []), (35, .goto 4, 3, []), (38, .iconst 0, 1, []), (39, .ireturn, 1, [])]
def ft_c92 : List (Nat × ft_I) := [(0, .aload_n 0, 1, []), (1, .getfield 163, 3, [433, 5, 15]), (4, .aload_n 0, 1, []), (5, .getfield 51, 3, [408, 5, 1]), (8, .getfield 90, 3, [138, 8, 2]), (11, .if_icmp .ge 11, 3, []), (14, .aload_n 0, 1, []), (15, .bipush 8, 2, []), (17, .lload_n 1, 1, []), (18, .iconst 0, 1, []), (19, .invokevirtual 107, 3, [0, 26, 613, 494, 75, 492, 493]), (22, .return_, 1, [])]
def ft_c93 : List (Nat × ft_I) := [(0, .lload_n 1, 1, []), (1, .aload_n 0, 1, []), (2, .getfield 27, 3, [176, 10, 2]), (5, .invokestatic 46, 3, [1, 82, 786, 741, 71, 740]), (8, .ifCond .ne 22, 3, []), (11, .aload_n 0, 1, []), (12, .getfield 9, 3, [181, 10, 4]), (15, .lload_n 1, 1, []), (16, .ldc2_w 44, 3, [547, 255]), (19, .land, 1, []), (20, .l2i, 1, []), (21, .baload, 1, [0]), (22, .iconst 1, 1, []), (23, .if_icmp .ne 7, 3, []), (26, .iconst 1, 1, []), (27, .goto 4, 3, []), (30, .iconst 0, 1, []), (31, .ireturn, 1, [])]
def ft_c94 : List (Nat × ft_I) := [(0, .lload_n 1, 1, []), (1, .aload_n 0, 1, []), (2, .getfield 27, 3, [176, 10, 2]), (5, .invokestatic 46, 3, [1, 82, 786, 741, 71, 740]), (8, .ifCond .eq 61, 3, []), (11, .ldc2_w 52, 3, [799, 256]), (14, .lload_n 1, 1, []), (15, .aload_n 0, 1, []), (16, .getfield 27, 3, [176, 10, 2]), (19, .lsub, 1, []), (20, .ldc2_w 50, 3, [538, 281474976710655]), (23, .land, 1, []), (24, .invokestatic 54, 3, [0, 37, 539, 541, 73, 540]), (27, .lstore_n 3, 1, []), (28, .iconst 1, 1, []), (29, .istore 5, 2, []), (31, .iload 5, 2, []), (33, .i2l, 1, []), (34, .lload_n 3, 1, []), (35, .lcmp, 1, []), (36, .ifCond .gt 28, 3, []), (39, .aload_n 0, 1, []), (40, .getfield 9, 3, [181, 10, 4]), (43, .aload_n 0, 1, []), (44, .getfield 27, 3, [176, 10, 2]), (47, .iload 5, 2, []), (49, .i2l, 1, []), (50, .ladd, 1, []), (51, .ldc2_w 44, 3, [547, 255]), (54, .land, 1, []), (55, .l2i, 1, []), (56, .iconst 0, 1, []), (57, .bastore, 1, [0]), (58, .iinc 5 1, 3, []), (61, .goto (-30), 3, []), (64, .aload_n 0, 1, []), (65, .lload_n 1, 1, []), (66, .putfield 27, 3, [176, 10, 2]), (69, .aload_n 0, 1, []), (70, .getfield 9, 3, [181, 10, 4]), (73, .lload_n 1, 1, []), (74, .ldc2_w 44, 3, [547, 255]), (77, .land, 1, []), (78, .l2i, 1, []), (79, .iconst 1, 1, []), (80, .bastore, 1, [0]), (81, .return_, 1, [])]
def ft_c95_0 : List (Nat × ft_I) := [(0, .aload_n 1, 1, []), (1, .bipush 10, 2, []), (3, .invokevirtual 204, 3, [0, 74, 704, 707, 74, 705, 706]), (6, .lstore_n 2, 1, []), (7, .aload_n 0, 1, []), (8, .lload_n 2, 1, []), (9, .iconst 1, 1, []), (10, .invokevirtual 254, 3, [0, 96, 804, 807, 75, 806, 14]), (13, .aload_n 1, 1, []), (14, .invokevirtual 258, 3, [0, 70, 820, 689, 74, 687, 688]), (17, .istore 4, 2, []), (19, .iconst 1, 1, []), (20, .istore 5, 2, []), (22, .aload_n 1, 1, []), (23, .invokevirtual 152, 3, [0, 39, 556, 551, 74, 549, 550]), (26, .istore 6, 2, []), (28, .iload 6, 2, []), (30, .iload 4, 2, []), (32, .if_icmp .ge 117, 3, []), (35, .aload_n 1, 1, []), (36, .iload 6, 2, []), (38, .invokevirtual 223, 3, [0, 77, 777, 722, 74, 720, 721]), (41, .iconst 1, 1, []), (42, .if_icmp .gt 7, 3, []), (45, .iconst 1, 1, []), (46, .goto 15, 3, []), (49, .iconst 1, 1, []), (50, .aload_n 1, 1, []), (51, .iload 6, 2, []), (53, .iconst 1, 1, []), (54, .iadd, 1, []), (55, .invokevirtual 223, 3, [0, 77, 777, 722, 74, 720, 721]), (58, .invokestatic 261, 3, [0, 9, 821, 246, 73, 245]), (61, .istore 5, 2, []), (63, .aload_n 1, 1, []), (64, .iload 6, 2, []), (66, .invokevirtual 223, 3, [0, 77, 777, 722, 74, 720, 721]), (69, .bipush 6, 2, []), (71, .if_icmp .eq 6, 3, []), (74, .goto 65, 3, []), (77, .lload_n 2, 1, []), (78, .lstore 7, 2, []), (80, .iconst 2, 1, []), (81, .istore 9, 2, []), (83, .iload 9, 2, []), (85, .iload 5, 2, []), (87, .if_icmp .ge 52, 3, []), (90, .aload_n 1, 1, []), (91, .iload 6, 2, []), (93, .iload 9, 2, []), (95, .iadd, 1, []), (96, .invokevirtual 223, 3, [0, 77, 777, 722, 74, 720, 721]), (99, .istore 10, 2, []), (101, .iload 10, 2, []), (103, .bipush 63, 2, []), (105, .iand, 1, []), (106, .iconst 1, 1, []), (107, .iadd, 1, []), (108, .istore 11, 2, []), (110, .iload 10, 2, [])]
def ft_c95_1 : List (Nat × ft_I) := [(112, .bipush 64, 2, []), (114, .if_icmp .ge 11, 3, []), (117, .aload_n 0, 1, []), (118, .lload 7, 2, []), (120, .iload 11, 2, []), (122, .invokevirtual 254, 3, [0, 96, 804, 807, 75, 806, 14]), (125, .lload 7, 2, []), (127, .iload 11, 2, []), (129, .i2l, 1, []), (130, .lsub, 1, []), (131, .lstore 7, 2, []), (133, .iinc 9 1, 3, []), (136, .goto (-53), 3, []), (139, .iload 6, 2, []), (141, .iload 5, 2, []), (143, .iadd, 1, []), (144, .istore 6, 2, []), (146, .goto (-118), 3, []), (149, .aload_n 0, 1, []), (150, .getfield 21, 3, [413, 5, 4]), (153, .aload_n 0, 1, []), (154, .getfield 55, 3, [427, 5, 11]), (157, .invokevirtual 267, 3, [0, 100, 822, 825, 77, 823, 824]), (160, .return_, 1, [])]
def ft_c95 : List (Nat × ft_I) := ft_c95_0 ++ (ft_c95_1)
def ft_c96 : List (Nat × ft_I) := [(0, .iconst 0, 1, []), (1, .istore 4, 2, []), (3, .iload 4, 2, []), (5, .iload_n 3, 1, []), (6, .if_icmp .ge 75, 3, []), (9, .lload_n 1, 1, []), (10, .iload 4, 2, []), (12, .i2l, 1, []), (13, .lsub, 1, []), (14, .ldc2_w 174, 3, [580, 281474976710655]), (17, .land, 1, []), (18, .lstore 5, 2, []), (20, .aload_n 0, 1, []), (21, .getfield 55, 3, [427, 5, 11]), (24, .lload 5, 2, []), (26, .lsub, 1, []), (27, .ldc2_w 174, 3, [580, 281474976710655]), (30, .land, 1, []), (31, .lstore 7, 2, []), (33, .lload 7, 2, []), (35, .lconst 1, 1, []), (36, .lcmp, 1, []), (37, .ifCond .lt 12, 3, []), (40, .lload 7, 2, []), (42, .ldc2_w 270, 3, [808, 256]), (45, .lcmp, 1, []), (46, .ifCond .lt 4, 3, []), (49, .return_, 1, []), (50, .aload_n 0, 1, []), (51, .getfield 12, 3, [411, 5, 3]), (54, .lload 5, 2, []), (56, .invokevirtual 272, 3, [0, 97, 809, 812, 76, 810, 811]), (59, .aload_n 0, 1, []), (60, .getfield 21, 3, [413, 5, 4]), (63, .lload 5, 2, []), (65, .aload_n 0, 1, []), (66, .getfield 51, 3, [408, 5, 1]), (69, .getfield 90, 3, [138, 8, 2]), (72, .invokevirtual 275, 3, [0, 98, 813, 816, 77, 814, 815]), (75, .iinc 4 1, 3, []), (78, .goto (-75), 3, []), (81, .return_, 1, [])]
def ft_c97 : List (Nat × ft_I) := [(0, .aload_n 0, 1, []), (1, .getfield 15, 3, [182, 10, 5]), (4, .lload_n 1, 1, []), (5, .ldc2_w 44, 3, [547, 255]), (8, .land, 1, []), (9, .l2i, 1, []), (10, .laload, 1, []), (11, .lstore_n 3, 1, []), (12, .lload_n 3, 1, []), (13, .lconst 0, 1, []), (14, .lcmp, 1, []), (15, .ifCond .ge 4, 3, []), (18, .return_, 1, []), (19, .lload_n 3, 1, []), (20, .lconst 1, 1, []), (21, .ladd, 1, []), (22, .ldc2_w 50, 3, [538, 281474976710655]), (25, .land, 1, []), (26, .lstore 5, 2, []), (28, .lload 5, 2, []), (30, .aload_n 0, 1, []), (31, .getfield 30, 3, [179, 10, 3]), (34, .invokestatic 46, 3, [1, 82, 786, 741, 71, 740]), (37, .ifCond .eq 9, 3, []), (40, .aload_n 0, 1, []), (41, .lload 5, 2, []), (43, .putfield 30, 3, [179, 10, 3]), (46, .return_, 1, [])]
def ft_c98_0 : List (Nat × ft_I) := [(0, .lload_n 1, 1, []), (1, .ldc2_w 46, 3, [579, 255]), (4, .land, 1, []), (5, .l2i, 1, []), (6, .istore 4, 2, []), (8, .aload_n 0, 1, []), (9, .getfield 9, 3, [204, 7, 0]), (12, .iload 4, 2, []), (14, .baload, 1, [0]), (15, .iconst 3, 1, []), (16, .if_icmp .ne 11, 3, []), (19, .aload_n 0, 1, []), (20, .getfield 9, 3, [204, 7, 0]), (23, .iload 4, 2, []), (25, .iconst 2, 1, []), (26, .bastore, 1, [0]), (27, .aload_n 0, 1, []), (28, .getfield 9, 3, [204, 7, 0]), (31, .iload 4, 2, []), (33, .baload, 1, [0]), (34, .iconst 1, 1, []), (35, .if_icmp .eq 4, 3, []), (38, .return_, 1, []), (39, .aload_n 0, 1, []), (40, .getfield 9, 3, [204, 7, 0]), (43, .iload 4, 2, []), (45, .iconst 2, 1, []), (46, .bastore, 1, [0]), (47, .aload_n 0, 1, []), (48, .dup, 1, []), (49, .getfield 21, 3, [206, 7, 1]), (52, .iconst 1, 1, []), (53, .isub, 1, []), (54, .putfield 21, 3, [206, 7, 1]), (57, .aload_n 0, 1, []), (58, .bipush 8, 2, []), (60, .putfield 31, 3, [214, 7, 4]), (63, .aload_n 0, 1, []), (64, .iload_n 3, 1, []), (65, .putfield 43, 3, [220, 7, 7]), (68, .aload_n 0, 1, []), (69, .getfield 25, 3, [209, 7, 2]), (72, .aload_n 0, 1, []), (73, .getfield 28, 3, [212, 7, 3]), (76, .if_icmp .ge 19, 3, []), (79, .aload_n 0, 1, []), (80, .bipush 60, 2, []), (82, .aload_n 0, 1, []), (83, .getfield 25, 3, [209, 7, 2]), (86, .iconst 1, 1, []), (87, .iadd, 1, []), (88, .invokestatic 48, 3, [0, 99, 817, 819, 73, 818]), (91, .putfield 25, 3, [209, 7, 2]), (94, .return_, 1, []), (95, .aload_n 0, 1, []), (96, .dup, 1, []), (97, .getfield 34, 3, [216, 7, 5]), (100, .iconst 1, 1, []), (101, .iadd, 1, []), (102, .putfield 34, 3, [216, 7, 5])]
def ft_c98_1 : List (Nat × ft_I) := [(105, .aload_n 0, 1, []), (106, .getfield 34, 3, [216, 7, 5]), (109, .aload_n 0, 1, []), (110, .getfield 25, 3, [209, 7, 2]), (113, .if_icmp .ne 23, 3, []), (116, .aload_n 0, 1, []), (117, .bipush 60, 2, []), (119, .aload_n 0, 1, []), (120, .getfield 25, 3, [209, 7, 2]), (123, .iconst 1, 1, []), (124, .iadd, 1, []), (125, .invokestatic 48, 3, [0, 99, 817, 819, 73, 818]), (128, .putfield 25, 3, [209, 7, 2]), (131, .aload_n 0, 1, []), (132, .iconst 0, 1, []), (133, .putfield 34, 3, [216, 7, 5]), (136, .return_, 1, [])]
def ft_c98 : List (Nat × ft_I) := ft_c98_0 ++ (ft_c98_1)
def ft_c99 : List (Nat × ft_I) := [(0, .iload_n 0, 1, []), (1, .iload_n 1, 1, []), (2, .if_icmp .gt 7, 3, []), (5, .iload_n 0, 1, []), (6, .goto 4, 3, []), (9, .iload_n 1, 1, []), (10, .ireturn, 1, [])]
def ft_c100_0 : List (Nat × ft_I) := [(0, .iconst 0, 1, []), (1, .istore_n 3, 1, []), (2, .aload_n 0, 1, []), (3, .getfield 21, 3, [206, 7, 1]), (6, .istore 4, 2, []), (8, .iconst 0, 1, []), (9, .istore 5, 2, []), (11, .iconst 1, 1, []), (12, .istore 6, 2, []), (14, .iload 6, 2, []), (16, .sipush 256, 3, []), (19, .if_icmp .ge 116, 3, []), (22, .iload 4, 2, []), (24, .ifCond .le 111, 3, []), (27, .lload_n 1, 1, []), (28, .iload 6, 2, []), (30, .i2l, 1, []), (31, .lsub, 1, []), (32, .ldc2_w 54, 3, [826, 281474976710655]), (35, .land, 1, []), (36, .lstore 7, 2, []), (38, .lload 7, 2, []), (40, .ldc2_w 46, 3, [579, 255]), (43, .land, 1, []), (44, .l2i, 1, []), (45, .istore 9, 2, []), (47, .aload_n 0, 1, []), (48, .getfield 9, 3, [204, 7, 0]), (51, .iload 9, 2, []), (53, .baload, 1, [0]), (54, .iconst 2, 1, []), (55, .if_icmp .ne 6, 3, []), (58, .iinc 3 1, 3, []), (61, .aload_n 0, 1, []), (62, .getfield 9, 3, [204, 7, 0]), (65, .iload 9, 2, []), (67, .baload, 1, [0]), (68, .iconst 1, 1, []), (69, .if_icmp .ne 60, 3, []), (72, .iinc 4 (-1), 3, []), (75, .iload_n 3, 1, []), (76, .iconst 3, 1, []), (77, .if_icmp .lt 52, 3, []), (80, .aload_n 0, 1, []), (81, .getfield 9, 3, [204, 7, 0]), (84, .iload 9, 2, []), (86, .iconst 3, 1, []), (87, .bastore, 1, [0]), (88, .aload_n 0, 1, []), (89, .dup, 1, []), (90, .getfield 21, 3, [206, 7, 1]), (93, .iconst 1, 1, []), (94, .isub, 1, []), (95, .putfield 21, 3, [206, 7, 1]), (98, .iload 5, 2, []), (100, .aload_n 0, 1, []), (101, .getfield 39, 3, [218, 7, 6]), (104, .lconst 0, 1, []), (105, .lcmp, 1, []), (106, .ifCond .lt 15, 3, [])]
def ft_c100_1 : List (Nat × ft_I) := [(109, .lload 7, 2, []), (111, .aload_n 0, 1, []), (112, .getfield 39, 3, [218, 7, 6]), (115, .invokestatic 56, 3, [1, 82, 827, 741, 71, 740]), (118, .ifCond .eq 7, 3, []), (121, .iconst 1, 1, []), (122, .goto 4, 3, []), (125, .iconst 0, 1, []), (126, .ior, 1, []), (127, .istore 5, 2, []), (129, .iinc 6 1, 3, []), (132, .goto (-118), 3, []), (135, .iload 5, 2, []), (137, .ifCond .ne 4, 3, []), (140, .return_, 1, []), (141, .aload_n 0, 1, []), (142, .iconst 2, 1, []), (143, .aload_n 0, 1, []), (144, .getfield 25, 3, [209, 7, 2]), (147, .iconst 2, 1, []), (148, .idiv, 1, []), (149, .invokestatic 60, 3, [0, 9, 828, 246, 73, 245]), (152, .putfield 28, 3, [212, 7, 3]), (155, .aload_n 0, 1, []), (156, .iconst 1, 1, []), (157, .aload_n 0, 1, []), (158, .getfield 25, 3, [209, 7, 2]), (161, .iconst 2, 1, []), (162, .idiv, 1, []), (163, .invokestatic 60, 3, [0, 9, 828, 246, 73, 245]), (166, .putfield 25, 3, [209, 7, 2]), (169, .aload_n 0, 1, []), (170, .iconst 0, 1, []), (171, .putfield 34, 3, [216, 7, 5]), (174, .aload_n 0, 1, []), (175, .lload_n 1, 1, []), (176, .lconst 1, 1, []), (177, .lsub, 1, []), (178, .ldc2_w 54, 3, [826, 281474976710655]), (181, .land, 1, []), (182, .putfield 39, 3, [218, 7, 6]), (185, .return_, 1, [])]
def ft_c100 : List (Nat × ft_I) := ft_c100_0 ++ (ft_c100_1)
def ft_c101 : List (Nat × ft_I) := [(0, .aload_n 0, 1, []), (1, .getfield 34, 3, [417, 5, 6]), (4, .invokevirtual 278, 3, [0, 56, 833, 625, 78, 623, 624]), (7, .aload_n 1, 1, []), (8, .invokevirtual 258, 3, [0, 70, 820, 689, 74, 687, 688]), (11, .istore_n 2, 1, []), (12, .iload_n 2, 1, []), (13, .aload_n 1, 1, []), (14, .getfield 149, 3, [117, 9, 1]), (17, .if_icmp .ge 21, 3, []), (20, .aload_n 0, 1, []), (21, .getfield 34, 3, [417, 5, 6]), (24, .aload_n 1, 1, []), (25, .iload_n 2, 1, []), (26, .invokevirtual 223, 3, [0, 77, 777, 722, 74, 720, 721]), (29, .invokevirtual 280, 3, [0, 57, 834, 629, 78, 627, 628]), (32, .iinc 2 1, 3, []), (35, .goto (-23), 3, []), (38, .aload_n 0, 1, []), (39, .getfield 84, 3, [434, 5, 16]), (42, .ifCond .ne 14, 3, []), (45, .aload_n 0, 1, []), (46, .aload_n 0, 1, []), (47, .getfield 51, 3, [408, 5, 1]), (50, .getfield 90, 3, [138, 8, 2]), (53, .putfield 281, 3, [435, 5, 17]), (56, .aload_n 0, 1, []), (57, .dup, 1, []), (58, .getfield 84, 3, [434, 5, 16]), (61, .iconst 1, 1, []), (62, .iadd, 1, []), (63, .putfield 84, 3, [434, 5, 16]), (66, .return_, 1, [])]
def ft_c102 : List (Nat × ft_I) := [(0, .iload_n 1, 1, []), (1, .tableswitch 158 0 8 #[51, 158, 158, 158, 158, 67, 102, 124, 143], 51, []), (52, .aload_n 0, 1, []), (53, .iconst 1, 1, []), (54, .aload_n 0, 1, []), (55, .getfield 12, 3, [411, 5, 3]), (58, .getfield 104, 3, [177, 10, 2]), (61, .iconst 0, 1, []), (62, .invokevirtual 107, 3, [0, 26, 613, 494, 75, 492, 493]), (65, .goto 94, 3, []), (68, .aload_n 0, 1, []), (69, .getfield 87, 3, [426, 5, 10]), (72, .bipush 7, 2, []), (74, .if_icmp .ne 6, 3, []), (77, .goto 82, 3, []), (80, .aload_n 0, 1, []), (81, .bipush 7, 2, []), (83, .invokevirtual 71, 3, [0, 15, 365, 368, 75, 367, 0]), (86, .aload_n 0, 1, []), (87, .bipush 6, 2, []), (89, .aload_n 0, 1, []), (90, .getfield 12, 3, [411, 5, 3]), (93, .getfield 104, 3, [177, 10, 2]), (96, .iconst 0, 1, []), (97, .invokevirtual 107, 3, [0, 26, 613, 494, 75, 492, 493]), (100, .goto 59, 3, []), (103, .aload_n 0, 1, []), (104, .bipush 7, 2, []), (106, .aload_n 0, 1, []), (107, .getfield 12, 3, [411, 5, 3]), (110, .getfield 104, 3, [177, 10, 2]), (113, .iconst 0, 1, []), (114, .invokevirtual 107, 3, [0, 26, 613, 494, 75, 492, 493]), (117, .aload_n 0, 1, []), (118, .iconst 0, 1, []), (119, .invokevirtual 71, 3, [0, 15, 365, 368, 75, 367, 0]), (122, .goto 37, 3, []), (125, .aload_n 0, 1, []), (126, .aload_n 2, 1, []), (127, .bipush 16, 2, []), (129, .invokevirtual 223, 3, [0, 77, 777, 722, 74, 720, 721]), (132, .putfield 45, 3, [423, 5, 9]), (135, .aload_n 0, 1, []), (136, .bipush 8, 2, []), (138, .invokevirtual 71, 3, [0, 15, 365, 368, 75, 367, 0]), (141, .goto 18, 3, []), (144, .aload_n 0, 1, []), (145, .bipush 9, 2, []), (147, .aload_n 2, 1, []), (148, .iconst 4, 1, []), (149, .invokevirtual 204, 3, [0, 74, 704, 707, 74, 705, 706]), (152, .iconst 0, 1, []), (153, .invokevirtual 107, 3, [0, 26, 613, 494, 75, 492, 493]), (156, .goto 3, 3, []), (159, .return_, 1, [])]
def ft_c103 : List (Nat × ft_I) := [(0, .aload_n 0, 1, []), (1, .invokevirtual 284, 3, [0, 104, 843, 846, 75, 845, 17]), (4, .aload_n 0, 1, []), (5, .getfield 87, 3, [426, 5, 10]), (8, .iconst 4, 1, []), (9, .if_icmp .eq 11, 3, []), (12, .aload_n 0, 1, []), (13, .getfield 87, 3, [426, 5, 10]), (16, .iconst 5, 1, []), (17, .if_icmp .ne 25, 3, []), (20, .aload_n 0, 1, []), (21, .getfield 21, 3, [413, 5, 4]), (24, .aload_n 0, 1, []), (25, .getfield 55, 3, [427, 5, 11]), (28, .aload_n 0, 1, []), (29, .getfield 51, 3, [408, 5, 1]), (32, .getfield 90, 3, [138, 8, 2]), (35, .invokevirtual 287, 3, [0, 106, 851, 854, 77, 852, 853]), (38, .aload_n 0, 1, []), (39, .invokevirtual 290, 3, [0, 107, 855, 858, 75, 857, 19]), (42, .aload_n 0, 1, []), (43, .getfield 87, 3, [426, 5, 10]), (46, .iconst 4, 1, []), (47, .if_icmp .lt 32, 3, []), (50, .aload_n 0, 1, []), (51, .getfield 87, 3, [426, 5, 10]), (54, .bipush 7, 2, []), (56, .if_icmp .gt 23, 3, []), (59, .aload_n 0, 1, []), (60, .invokevirtual 293, 3, [0, 108, 860, 863, 75, 862, 20]), (63, .ifCond .eq 16, 3, []), (66, .aload_n 0, 1, []), (67, .iconst 3, 1, []), (68, .aload_n 0, 1, []), (69, .getfield 12, 3, [411, 5, 3]), (72, .getfield 104, 3, [177, 10, 2]), (75, .iconst 0, 1, []), (76, .invokevirtual 107, 3, [0, 26, 613, 494, 75, 492, 493]), (79, .return_, 1, [])]
def ft_c104_0 : List (Nat × ft_I) := [(0, .aload_n 0, 1, []), (1, .getfield 51, 3, [408, 5, 1]), (4, .getfield 90, 3, [138, 8, 2]), (7, .aload_n 0, 1, []), (8, .getfield 95, 3, [431, 5, 13]), (11, .isub, 1, []), (12, .istore_n 1, 1, []), (13, .aload_n 0, 1, []), (14, .getfield 87, 3, [426, 5, 10]), (17, .tableswitch 161 2 8 #[43, 63, 77, 161, 118, 132, 147], 43, []), (60, .iload_n 1, 1, []), (61, .iconst 4, 1, []), (62, .aload_n 0, 1, []), (63, .getfield 98, 3, [432, 5, 14]), (66, .iconst 1, 1, []), (67, .isub, 1, []), (68, .ishl, 1, []), (69, .if_icmp .lt 109, 3, []), (72, .aload_n 0, 1, []), (73, .iconst 0, 1, []), (74, .invokevirtual 296, 3, [0, 105, 847, 850, 75, 849, 18]), (77, .goto 101, 3, []), (80, .iload_n 1, 1, []), (81, .bipush 40, 2, []), (83, .if_icmp .lt 95, 3, []), (86, .aload_n 0, 1, []), (87, .iconst 5, 1, []), (88, .invokevirtual 101, 3, [0, 53, 609, 612, 75, 611, 3]), (91, .goto 87, 3, []), (94, .iload_n 1, 1, []), (95, .bipush 40, 2, []), (97, .if_icmp .lt 11, 3, []), (100, .aload_n 0, 1, []), (101, .iconst 5, 1, []), (102, .invokevirtual 101, 3, [0, 53, 609, 612, 75, 611, 3]), (105, .goto 73, 3, []), (108, .iload_n 1, 1, []), (109, .ifCond .le 69, 3, []), (112, .iload_n 1, 1, []), (113, .iconst 4, 1, []), (114, .irem, 1, []), (115, .ifCond .ne 63, 3, []), (118, .aload_n 0, 1, []), (119, .bipush 8, 2, []), (121, .aload_n 0, 1, []), (122, .getfield 12, 3, [411, 5, 3]), (125, .getfield 104, 3, [177, 10, 2]), (128, .iconst 0, 1, []), (129, .invokevirtual 107, 3, [0, 26, 613, 494, 75, 492, 493]), (132, .goto 46, 3, []), (135, .iload_n 1, 1, []), (136, .bipush 6, 2, []), (138, .if_icmp .lt 40, 3, []), (141, .aload_n 0, 1, []), (142, .iconst 5, 1, []), (143, .invokevirtual 296, 3, [0, 105, 847, 850, 75, 849, 18]), (146, .goto 32, 3, []), (149, .iload_n 1, 1, []), (150, .bipush 6, 2, []), (152, .if_icmp .lt 26, 3, [])]
def ft_c104_1 : List (Nat × ft_I) := [(155, .aload_n 0, 1, []), (156, .bipush 6, 2, []), (158, .invokevirtual 296, 3, [0, 105, 847, 850, 75, 849, 18]), (161, .goto 17, 3, []), (164, .iload_n 1, 1, []), (165, .bipush 12, 2, []), (167, .if_icmp .lt 11, 3, []), (170, .aload_n 0, 1, []), (171, .iconst 0, 1, []), (172, .invokevirtual 71, 3, [0, 15, 365, 368, 75, 367, 0]), (175, .goto 3, 3, []), (178, .return_, 1, [])]
def ft_c104 : List (Nat × ft_I) := ft_c104_0 ++ (ft_c104_1)
def ft_c105 : List (Nat × ft_I) := [(0, .aload_n 0, 1, []), (1, .getfield 98, 3, [432, 5, 14]), (4, .iconst 5, 1, []), (5, .if_icmp .ge 38, 3, []), (8, .aload_n 0, 1, []), (9, .dup, 1, []), (10, .getfield 98, 3, [432, 5, 14]), (13, .iconst 1, 1, []), (14, .iadd, 1, []), (15, .putfield 98, 3, [432, 5, 14]), (18, .aload_n 0, 1, []), (19, .aload_n 0, 1, []), (20, .getfield 51, 3, [408, 5, 1]), (23, .getfield 90, 3, [138, 8, 2]), (26, .putfield 95, 3, [431, 5, 13]), (29, .aload_n 0, 1, []), (30, .iload_n 1, 1, []), (31, .aload_n 0, 1, []), (32, .getfield 12, 3, [411, 5, 3]), (35, .getfield 104, 3, [177, 10, 2]), (38, .iconst 0, 1, []), (39, .invokevirtual 107, 3, [0, 26, 613, 494, 75, 492, 493]), (42, .return_, 1, []), (43, .iload_n 1, 1, []), (44, .ifCond .eq 17, 3, []), (47, .aload_n 0, 1, []), (48, .bipush 7, 2, []), (50, .aload_n 0, 1, []), (51, .getfield 12, 3, [411, 5, 3]), (54, .getfield 104, 3, [177, 10, 2]), (57, .iconst 5, 1, []), (58, .invokevirtual 107, 3, [0, 26, 613, 494, 75, 492, 493]), (61, .aload_n 0, 1, []), (62, .iconst 0, 1, []), (63, .invokevirtual 71, 3, [0, 15, 365, 368, 75, 367, 0]), (66, .return_, 1, [])]
def ft_c106_0 : List (Nat × ft_I) := [(0, .aload_n 0, 1, []), (1, .getfield 21, 3, [206, 7, 1]), (4, .ifCond .eq 16, 3, []), (7, .iload_n 3, 1, []), (8, .aload_n 0, 1, []), (9, .getfield 43, 3, [220, 7, 7]), (12, .isub, 1, []), (13, .aload_n 0, 1, []), (14, .getfield 31, 3, [214, 7, 4]), (17, .if_icmp .ge 4, 3, []), (20, .return_, 1, []), (21, .iconst 0, 1, []), (22, .istore 4, 2, []), (24, .iload 4, 2, []), (26, .sipush 256, 3, []), (29, .if_icmp .ge 28, 3, []), (32, .aload_n 0, 1, []), (33, .getfield 9, 3, [204, 7, 0]), (36, .iload 4, 2, []), (38, .baload, 1, [0]), (39, .iconst 1, 1, []), (40, .if_icmp .ne 11, 3, []), (43, .aload_n 0, 1, []), (44, .getfield 9, 3, [204, 7, 0]), (47, .iload 4, 2, []), (49, .iconst 3, 1, []), (50, .bastore, 1, [0]), (51, .iinc 4 1, 3, []), (54, .goto (-30), 3, []), (57, .aload_n 0, 1, []), (58, .iconst 0, 1, []), (59, .putfield 21, 3, [206, 7, 1]), (62, .aload_n 0, 1, []), (63, .iconst 2, 1, []), (64, .aload_n 0, 1, []), (65, .getfield 25, 3, [209, 7, 2]), (68, .iconst 2, 1, []), (69, .idiv, 1, []), (70, .invokestatic 60, 3, [0, 9, 828, 246, 73, 245]), (73, .putfield 28, 3, [212, 7, 3]), (76, .aload_n 0, 1, []), (77, .iconst 1, 1, []), (78, .putfield 25, 3, [209, 7, 2]), (81, .aload_n 0, 1, []), (82, .iconst 0, 1, []), (83, .putfield 34, 3, [216, 7, 5]), (86, .aload_n 0, 1, []), (87, .lload_n 1, 1, []), (88, .lconst 1, 1, []), (89, .lsub, 1, []), (90, .ldc2_w 54, 3, [826, 281474976710655]), (93, .land, 1, []), (94, .putfield 39, 3, [218, 7, 6]), (97, .aload_n 0, 1, []), (98, .bipush 64, 2, []), (100, .iconst 2, 1, []), (101, .aload_n 0, 1, []), (102, .getfield 31, 3, [214, 7, 4]), (105, .imul, 1, []), (106, .invokestatic 48, 3, [0, 99, 817, 819, 73, 818])]
def ft_c106_1 : List (Nat × ft_I) := [(109, .putfield 31, 3, [214, 7, 4]), (112, .aload_n 0, 1, []), (113, .iload_n 3, 1, []), (114, .putfield 43, 3, [220, 7, 7]), (117, .return_, 1, [])]
def ft_c106 : List (Nat × ft_I) := ft_c106_0 ++ (ft_c106_1)
def ft_c107_0 : List (Nat × ft_I) := [(0, .aload_n 0, 1, []), (1, .getfield 64, 3, [409, 5, 2]), (4, .iconst 1, 1, []), (5, .iconst 4, 1, []), (6, .invokevirtual 138, 3, [0, 34, 525, 528, 79, 526, 527]), (9, .iconst 1, 1, []), (10, .if_icmp .ne 7, 3, []), (13, .iconst 1, 1, []), (14, .goto 4, 3, []), (17, .iconst 0, 1, []), (18, .istore_n 1, 1, []), (19, .iload_n 1, 1, []), (20, .ifCond .eq 7, 3, []), (23, .iconst 4, 1, []), (24, .goto 4, 3, []), (27, .iconst 2, 1, []), (28, .istore_n 2, 1, []), (29, .iconst 0, 1, []), (30, .istore_n 3, 1, []), (31, .iload_n 3, 1, []), (32, .iload_n 2, 1, []), (33, .if_icmp .ge 85, 3, []), (36, .aload_n 0, 1, []), (37, .getfield 30, 3, [415, 5, 5]), (40, .invokevirtual 299, 3, [0, 55, 859, 621, 78, 619, 620]), (43, .ifCond .eq 24, 3, []), (46, .iload_n 1, 1, []), (47, .ifCond .eq 21, 3, []), (50, .aload_n 0, 1, []), (51, .getfield 21, 3, [413, 5, 4]), (54, .getfield 302, 3, [208, 7, 1]), (57, .aload_n 0, 1, []), (58, .getfield 21, 3, [413, 5, 4]), (61, .getfield 305, 3, [211, 7, 2]), (64, .if_icmp .lt 4, 3, []), (67, .return_, 1, []), (68, .aload_n 0, 1, []), (69, .getfield 87, 3, [426, 5, 10]), (72, .iconst 4, 1, []), (73, .if_icmp .eq 10, 3, []), (76, .aload_n 0, 1, []), (77, .invokevirtual 293, 3, [0, 108, 860, 863, 75, 862, 20]), (80, .ifCond .eq 7, 3, []), (83, .iconst 1, 1, []), (84, .goto 4, 3, []), (87, .iconst 0, 1, []), (88, .istore 4, 2, []), (90, .aload_n 0, 1, []), (91, .iload 4, 2, []), (93, .ifCond .eq 7, 3, []), (96, .iconst 4, 1, []), (97, .goto 4, 3, []), (100, .iconst 2, 1, []), (101, .aload_n 0, 1, []), (102, .getfield 12, 3, [411, 5, 3]), (105, .getfield 104, 3, [177, 10, 2]), (108, .iconst 0, 1, []), (109, .invokevirtual 107, 3, [0, 26, 613, 494, 75, 492, 493]), (112, .iinc 3 1, 3, []), (115, .goto (-84), 3, [])]
def ft_c107_1 : List (Nat × ft_I) := [(118, .return_, 1, [])]
def ft_c107 : List (Nat × ft_I) := ft_c107_0 ++ (ft_c107_1)
def ft_c108 : List (Nat × ft_I) := [(0, .aload_n 0, 1, []), (1, .getfield 84, 3, [434, 5, 16]), (4, .ifCond .le 23, 3, []), (7, .aload_n 0, 1, []), (8, .getfield 51, 3, [408, 5, 1]), (11, .getfield 90, 3, [138, 8, 2]), (14, .aload_n 0, 1, []), (15, .getfield 281, 3, [435, 5, 17]), (18, .isub, 1, []), (19, .iconst 2, 1, []), (20, .if_icmp .lt 7, 3, []), (23, .iconst 1, 1, []), (24, .goto 4, 3, []), (27, .iconst 0, 1, []), (28, .istore_n 1, 1, []), (29, .iload_n 1, 1, []), (30, .ifCond .ne 49, 3, []), (33, .aload_n 0, 1, []), (34, .getfield 84, 3, [434, 5, 16]), (37, .aload_n 0, 1, []), (38, .getfield 64, 3, [409, 5, 2]), (41, .iconst 0, 1, []), (42, .iconst 2, 1, []), (43, .invokevirtual 138, 3, [0, 34, 525, 528, 79, 526, 527]), (46, .if_icmp .ge 33, 3, []), (49, .aload_n 0, 1, []), (50, .getfield 64, 3, [409, 5, 2]), (53, .getfield 124, 3, [345, 1, 2]), (56, .getfield 308, 3, [282, 3, 1]), (59, .ifCond .gt 20, 3, []), (62, .aload_n 0, 1, []), (63, .getfield 64, 3, [409, 5, 2]), (66, .aload_n 0, 1, []), (67, .getfield 51, 3, [408, 5, 1]), (70, .getfield 90, 3, [138, 8, 2]), (73, .invokevirtual 311, 3, [0, 109, 864, 867, 79, 865, 866]), (76, .ifCond .eq 7, 3, []), (79, .iconst 1, 1, []), (80, .goto 4, 3, []), (83, .iconst 0, 1, []), (84, .ireturn, 1, [])]
def ft_c109 : List (Nat × ft_I) := [(0, .iconst 0, 1, []), (1, .istore_n 2, 1, []), (2, .iload_n 2, 1, []), (3, .aload_n 0, 1, []), (4, .getfield 13, 3, [343, 1, 1]), (7, .arraylength, 1, []), (8, .if_icmp .ge 42, 3, []), (11, .aload_n 0, 1, []), (12, .getfield 13, 3, [343, 1, 1]), (15, .iload_n 2, 1, []), (16, .aaload, 1, []), (17, .astore_n 3, 1, []), (18, .aload_n 3, 1, []), (19, .getfield 62, 3, [321, 6, 3]), (22, .ifCond .eq 22, 3, []), (25, .aload_n 3, 1, []), (26, .getfield 65, 3, [324, 6, 4]), (29, .ifCond .ne 13, 3, []), (32, .iload_n 1, 1, []), (33, .aload_n 0, 1, []), (34, .getfield 45, 3, [349, 1, 4]), (37, .isub, 1, []), (38, .iconst 4, 1, []), (39, .if_icmp .lt 5, 3, []), (42, .iconst 1, 1, []), (43, .ireturn, 1, []), (44, .iinc 2 1, 3, []), (47, .goto (-45), 3, []), (50, .iconst 0, 1, []), (51, .ireturn, 1, [])]
def ft_c110 : List (Nat × ft_I) := [(0, .aload_n 0, 1, []), (1, .getfield 30, 3, [473, 0, 0]), (4, .iload_n 1, 1, []), (5, .invokevirtual 124, 3, [0, 66, 872, 673, 72, 671, 672]), (8, .ifCond .ne 6, 3, []), (11, .bipush (-101), 2, []), (13, .ireturn, 1, []), (14, .aload_n 0, 1, []), (15, .getfield 30, 3, [473, 0, 0]), (18, .iload_n 1, 1, []), (19, .invokevirtual 127, 3, [0, 67, 873, 677, 72, 675, 676]), (22, .pop, 1, []), (23, .aload_n 0, 1, []), (24, .getfield 30, 3, [473, 0, 0]), (27, .getfield 105, 3, [142, 8, 3]), (30, .ireturn, 1, [])]
def ft_c111 : List (Nat × ft_I) := [(0, .aload_n 0, 1, []), (1, .getfield 30, 3, [473, 0, 0]), (4, .iload_n 1, 1, []), (5, .invokevirtual 124, 3, [0, 66, 872, 673, 72, 671, 672]), (8, .ifCond .ne 6, 3, []), (11, .bipush (-101), 2, []), (13, .ireturn, 1, []), (14, .iload_n 2, 1, []), (15, .ifCond .lt 9, 3, []), (18, .iload_n 2, 1, []), (19, .bipush 50, 2, []), (21, .if_icmp .le 6, 3, []), (24, .bipush (-102), 2, []), (26, .ireturn, 1, []), (27, .aload_n 0, 1, []), (28, .getfield 30, 3, [473, 0, 0]), (31, .getfield 130, 3, [135, 8, 0]), (34, .iload_n 1, 1, []), (35, .aaload, 1, []), (36, .astore_n 3, 1, []), (37, .aload_n 3, 1, []), (38, .dup, 1, []), (39, .getfield 134, 3, [123, 9, 3]), (42, .iload_n 2, 1, []), (43, .iadd, 1, []), (44, .putfield 134, 3, [123, 9, 3]), (47, .aload_n 3, 1, []), (48, .getfield 134, 3, [123, 9, 3]), (51, .ireturn, 1, [])]
def ft_c112 : List (Nat × ft_I) := [(0, .aload_n 0, 1, []), (1, .getfield 30, 3, [473, 0, 0]), (4, .iload_n 1, 1, []), (5, .invokevirtual 124, 3, [0, 66, 872, 673, 72, 671, 672]), (8, .ifCond .ne 6, 3, []), (11, .bipush (-101), 2, []), (13, .ireturn, 1, []), (14, .iload_n 2, 1, []), (15, .ifCond .lt 9, 3, []), (18, .iload_n 2, 1, []), (19, .bipush 50, 2, []), (21, .if_icmp .le 6, 3, []), (24, .bipush (-102), 2, []), (26, .ireturn, 1, []), (27, .aload_n 0, 1, []), (28, .getfield 30, 3, [473, 0, 0]), (31, .getfield 105, 3, [142, 8, 3]), (34, .bipush 60, 2, []), (36, .if_icmp .lt 6, 3, []), (39, .bipush (-104), 2, []), (41, .ireturn, 1, []), (42, .aload_n 0, 1, []), (43, .getfield 30, 3, [473, 0, 0]), (46, .getfield 130, 3, [135, 8, 0]), (49, .iload_n 1, 1, []), (50, .aaload, 1, []), (51, .astore_n 3, 1, []), (52, .aload_n 0, 1, []), (53, .getfield 30, 3, [473, 0, 0]), (56, .getfield 137, 3, [145, 8, 4]), (59, .aload_n 3, 1, []), (60, .getfield 141, 3, [115, 9, 0]), (63, .aload_n 3, 1, []), (64, .getfield 144, 3, [119, 9, 1]), (67, .invokevirtual 147, 3, [0, 113, 882, 885, 74, 883, 884]), (70, .aload_n 0, 1, []), (71, .getfield 30, 3, [473, 0, 0]), (74, .aload_n 3, 1, []), (75, .getfield 112, 3, [121, 9, 2]), (78, .aload_n 3, 1, []), (79, .getfield 134, 3, [123, 9, 3]), (82, .iload_n 2, 1, []), (83, .iadd, 1, []), (84, .invokevirtual 151, 3, [0, 48, 891, 593, 72, 591, 592]), (87, .aload_n 0, 1, []), (88, .getfield 30, 3, [473, 0, 0]), (91, .getfield 105, 3, [142, 8, 3]), (94, .ireturn, 1, [])]
def ft_c113 : List (Nat × ft_I) := [(0, .aload_n 0, 1, []), (1, .iconst 0, 1, []), (2, .iload_n 2, 1, []), (3, .aload_n 1, 1, []), (4, .arraylength, 1, []), (5, .aload_n 0, 1, []), (6, .getfield 9, 3, [112, 9, 0]), (9, .arraylength, 1, []), (10, .invokestatic 19, 3, [0, 99, 886, 819, 73, 818]), (13, .invokestatic 19, 3, [0, 99, 886, 819, 73, 818]), (16, .invokestatic 25, 3, [0, 9, 887, 246, 73, 245]), (19, .putfield 15, 3, [116, 9, 1]), (22, .aload_n 1, 1, []), (23, .iconst 0, 1, []), (24, .aload_n 0, 1, []), (25, .getfield 9, 3, [112, 9, 0]), (28, .iconst 0, 1, []), (29, .aload_n 0, 1, []), (30, .getfield 15, 3, [116, 9, 1]), (33, .invokestatic 28, 3, [888]), (36, .return_, 1, [])]
def ft_c114 : List (Nat × ft_I) := [(0, .aload_n 0, 1, []), (1, .getfield 30, 3, [473, 0, 0]), (4, .iload_n 1, 1, []), (5, .invokevirtual 124, 3, [0, 66, 872, 673, 72, 671, 672]), (8, .ifCond .eq 19, 3, []), (11, .aload_n 0, 1, []), (12, .getfield 30, 3, [473, 0, 0]), (15, .getfield 130, 3, [135, 8, 0]), (18, .iload_n 1, 1, []), (19, .aaload, 1, []), (20, .iload_n 2, 1, []), (21, .invokevirtual 154, 3, [0, 40, 896, 555, 74, 553, 554]), (24, .ifCond .ne 6, 3, []), (27, .bipush (-101), 2, []), (29, .ireturn, 1, []), (30, .aload_n 0, 1, []), (31, .getfield 30, 3, [473, 0, 0]), (34, .getfield 130, 3, [135, 8, 0]), (37, .iload_n 1, 1, []), (38, .aaload, 1, []), (39, .astore 4, 2, []), (41, .aload 4, 2, []), (43, .getfield 141, 3, [115, 9, 0]), (46, .iload_n 2, 1, []), (47, .dup2, 1, []), (48, .iaload, 1, []), (49, .iload_n 3, 1, []), (50, .sipush 255, 3, []), (53, .iand, 1, []), (54, .ixor, 1, []), (55, .iastore, 1, []), (56, .aload 4, 2, []), (58, .getfield 141, 3, [115, 9, 0]), (61, .iload_n 2, 1, []), (62, .iaload, 1, []), (63, .ireturn, 1, [])]
def ft_c115 : List (Nat × ft_I) := [(0, .aload_n 0, 1, []), (1, .getfield 155, 3, [476, 0, 3]), (4, .bipush 20, 2, []), (6, .iadd, 1, []), (7, .sipush 220, 3, []), (10, .if_icmp .le 6, 3, []), (13, .bipush (-104), 2, []), (15, .ireturn, 1, []), (16, .aload_n 0, 1, []), (17, .iload_n 1, 1, []), (18, .invokevirtual 158, 3, [0, 116, 901, 904, 71, 903, 21]), (21, .aload_n 0, 1, []), (22, .iload_n 2, 1, []), (23, .invokevirtual 158, 3, [0, 116, 901, 904, 71, 903, 21]), (26, .aload_n 0, 1, []), (27, .iload_n 3, 1, []), (28, .invokevirtual 158, 3, [0, 116, 901, 904, 71, 903, 21]), (31, .aload_n 0, 1, []), (32, .iload 4, 2, []), (34, .invokevirtual 158, 3, [0, 116, 901, 904, 71, 903, 21]), (37, .aload_n 0, 1, []), (38, .iload 5, 2, []), (40, .invokevirtual 158, 3, [0, 116, 901, 904, 71, 903, 21]), (43, .aload_n 0, 1, []), (44, .getfield 155, 3, [476, 0, 3]), (47, .ireturn, 1, [])]
def ft_c116 : List (Nat × ft_I) := [(0, .bipush 24, 2, []), (2, .istore_n 2, 1, []), (3, .iload_n 2, 1, []), (4, .ifCond .lt 44, 3, []), (7, .aload_n 0, 1, []), (8, .getfield 155, 3, [476, 0, 3]), (11, .aload_n 0, 1, []), (12, .getfield 15, 3, [475, 0, 2]), (15, .arraylength, 1, []), (16, .if_icmp .ge 26, 3, []), (19, .aload_n 0, 1, []), (20, .getfield 15, 3, [475, 0, 2]), (23, .aload_n 0, 1, []), (24, .dup, 1, []), (25, .getfield 155, 3, [476, 0, 3]), (28, .dup_x1, 1, []), (29, .iconst 1, 1, []), (30, .iadd, 1, []), (31, .putfield 155, 3, [476, 0, 3]), (34, .iload_n 1, 1, []), (35, .iload_n 2, 1, []), (36, .ishr, 1, []), (37, .sipush 255, 3, []), (40, .iand, 1, []), (41, .iastore, 1, []), (42, .iinc 2 (-8), 3, []), (45, .goto (-42), 3, []), (48, .return_, 1, [])]
def ft_c117 : List (Nat × ft_I) := [(0, .iload_n 1, 1, []), (1, .invokestatic 50, 3, [0, 51, 602, 604, 71, 603]), (4, .ifCond .ne 6, 3, []), (7, .bipush (-101), 2, []), (9, .ireturn, 1, []), (10, .iload_n 2, 1, []), (11, .ifCond .lt 11, 3, []), (14, .iload_n 2, 1, []), (15, .aload_n 0, 1, []), (16, .getfield 155, 3, [476, 0, 3]), (19, .if_icmp .le 6, 3, []), (22, .bipush (-102), 2, []), (24, .ireturn, 1, []), (25, .aload_n 0, 1, []), (26, .getfield 30, 3, [473, 0, 0]), (29, .getfield 105, 3, [142, 8, 3]), (32, .bipush 60, 2, []), (34, .if_icmp .lt 6, 3, []), (37, .bipush (-104), 2, []), (39, .ireturn, 1, []), (40, .aload_n 0, 1, []), (41, .getfield 30, 3, [473, 0, 0]), (44, .getfield 137, 3, [145, 8, 4]), (47, .aload_n 0, 1, []), (48, .getfield 15, 3, [475, 0, 2]), (51, .iload_n 2, 1, []), (52, .invokevirtual 147, 3, [0, 113, 882, 885, 74, 883, 884]), (55, .iload_n 3, 1, []), (56, .ifCond .eq 13, 3, []), (59, .aload_n 0, 1, []), (60, .getfield 30, 3, [473, 0, 0]), (63, .getfield 137, 3, [145, 8, 4]), (66, .invokevirtual 161, 3, [0, 46, 909, 584, 74, 582, 583]), (69, .aload_n 0, 1, []), (70, .getfield 30, 3, [473, 0, 0]), (73, .iload_n 1, 1, []), (74, .aload_n 0, 1, []), (75, .getfield 30, 3, [473, 0, 0]), (78, .getfield 102, 3, [140, 8, 2]), (81, .iconst 1, 1, []), (82, .iadd, 1, []), (83, .invokevirtual 151, 3, [0, 48, 891, 593, 72, 591, 592]), (86, .aload_n 0, 1, []), (87, .iconst 0, 1, []), (88, .putfield 155, 3, [476, 0, 3]), (91, .aload_n 0, 1, []), (92, .getfield 30, 3, [473, 0, 0]), (95, .getfield 105, 3, [142, 8, 3]), (98, .ireturn, 1, [])]
def ft_c118 : List (Nat × ft_I) := [(0, .aload_n 0, 1, []), (1, .getfield 30, 3, [473, 0, 0]), (4, .getfield 105, 3, [142, 8, 3]), (7, .ireturn, 1, [])]
def ft_c119 : List (Nat × ft_I) := [(0, .aload_n 0, 1, []), (1, .getfield 30, 3, [473, 0, 0]), (4, .iload_n 1, 1, []), (5, .invokevirtual 124, 3, [0, 66, 872, 673, 72, 671, 672]), (8, .ifCond .ne 6, 3, []), (11, .bipush (-101), 2, []), (13, .ireturn, 1, []), (14, .aload_n 0, 1, []), (15, .getfield 30, 3, [473, 0, 0]), (18, .getfield 130, 3, [135, 8, 0]), (21, .iload_n 1, 1, []), (22, .aaload, 1, []), (23, .astore_n 3, 1, []), (24, .iload_n 2, 1, []), (25, .tableswitch 42 0 2 #[27, 32, 37], 27, []), (52, .aload_n 3, 1, []), (53, .getfield 112, 3, [121, 9, 2]), (56, .ireturn, 1, []), (57, .aload_n 3, 1, []), (58, .getfield 134, 3, [123, 9, 3]), (61, .ireturn, 1, []), (62, .aload_n 3, 1, []), (63, .getfield 144, 3, [119, 9, 1]), (66, .ireturn, 1, []), (67, .bipush (-102), 2, []), (69, .ireturn, 1, [])]
def ft_c120 : List (Nat × ft_I) := [(0, .aload_n 0, 1, []), (1, .getfield 30, 3, [473, 0, 0]), (4, .iload_n 1, 1, []), (5, .invokevirtual 124, 3, [0, 66, 872, 673, 72, 671, 672]), (8, .ifCond .eq 19, 3, []), (11, .aload_n 0, 1, []), (12, .getfield 30, 3, [473, 0, 0]), (15, .getfield 130, 3, [135, 8, 0]), (18, .iload_n 1, 1, []), (19, .aaload, 1, []), (20, .iload_n 2, 1, []), (21, .invokevirtual 154, 3, [0, 40, 896, 555, 74, 553, 554]), (24, .ifCond .ne 6, 3, []), (27, .bipush (-101), 2, []), (29, .ireturn, 1, []), (30, .aload_n 0, 1, []), (31, .getfield 30, 3, [473, 0, 0]), (34, .getfield 130, 3, [135, 8, 0]), (37, .iload_n 1, 1, []), (38, .aaload, 1, []), (39, .getfield 141, 3, [115, 9, 0]), (42, .iload_n 2, 1, []), (43, .iaload, 1, []), (44, .ireturn, 1, [])]
def ft_c121 : List (Nat × ft_I) := [(0, .iload_n 1, 1, []), (1, .invokestatic 50, 3, [0, 51, 602, 604, 71, 603]), (4, .ifCond .eq 15, 3, []), (7, .aload_n 0, 1, []), (8, .getfield 9, 3, [474, 0, 1]), (11, .iload_n 1, 1, []), (12, .aaload, 1, []), (13, .getfield 39, 3, [425, 5, 10]), (16, .goto 5, 3, []), (19, .bipush (-101), 2, []), (21, .ireturn, 1, [])]
def ft_c122 : List (Nat × ft_I) := [(0, .iload_n 1, 1, []), (1, .invokestatic 50, 3, [0, 51, 602, 604, 71, 603]), (4, .ifCond .ne 7, 3, []), (7, .ldc2_w 164, 3, [930, 18446744073709551515]), (10, .lreturn, 1, []), (11, .aload_n 0, 1, []), (12, .getfield 9, 3, [474, 0, 1]), (15, .iload_n 1, 1, []), (16, .aaload, 1, []), (17, .astore_n 3, 1, []), (18, .iload_n 2, 1, []), (19, .tableswitch 79 0 5 #[37, 42, 47, 55, 63, 71], 37, []), (56, .aload_n 3, 1, []), (57, .getfield 166, 3, [428, 5, 11]), (60, .lreturn, 1, []), (61, .aload_n 3, 1, []), (62, .getfield 170, 3, [430, 5, 12]), (65, .lreturn, 1, []), (66, .aload_n 3, 1, []), (67, .getfield 173, 3, [412, 5, 3]), (70, .getfield 177, 3, [178, 10, 2]), (73, .lreturn, 1, []), (74, .aload_n 3, 1, []), (75, .getfield 173, 3, [412, 5, 3]), (78, .getfield 182, 3, [175, 10, 1]), (81, .lreturn, 1, []), (82, .aload_n 3, 1, []), (83, .getfield 173, 3, [412, 5, 3]), (86, .getfield 185, 3, [180, 10, 3]), (89, .lreturn, 1, []), (90, .aload_n 3, 1, []), (91, .getfield 188, 3, [414, 5, 4]), (94, .getfield 192, 3, [219, 7, 6]), (97, .lreturn, 1, []), (98, .ldc2_w 197, 3, [931, 18446744073709551514]), (101, .lreturn, 1, [])]
def ft_c123 : List (Nat × ft_I) := [(0, .iload_n 1, 1, []), (1, .invokestatic 50, 3, [0, 51, 602, 604, 71, 603]), (4, .ifCond .eq 10, 3, []), (7, .iload_n 2, 1, []), (8, .invokestatic 73, 3, [0, 18, 634, 379, 71, 378]), (11, .ifCond .ne 6, 3, []), (14, .bipush (-101), 2, []), (16, .ireturn, 1, []), (17, .iload 4, 2, []), (19, .ifCond .lt 9, 3, []), (22, .iload 4, 2, []), (24, .iconst 5, 1, []), (25, .if_icmp .le 6, 3, []), (28, .bipush (-102), 2, []), (30, .ireturn, 1, []), (31, .aload_n 0, 1, []), (32, .getfield 9, 3, [474, 0, 1]), (35, .iload_n 1, 1, []), (36, .aaload, 1, []), (37, .getfield 76, 3, [410, 5, 2]), (40, .iload_n 3, 1, []), (41, .iload_n 2, 1, []), (42, .invokevirtual 199, 3, [0, 35, 936, 532, 79, 530, 531]), (45, .astore 5, 2, []), (47, .aload 5, 2, []), (49, .ifnonnull 6, 3, []), (52, .bipush (-101), 2, []), (54, .ireturn, 1, []), (55, .iload 4, 2, []), (57, .tableswitch 56 0 2 #[27, 33, 47], 27, []), (84, .aload 5, 2, []), (86, .getfield 203, 3, [319, 6, 2]), (89, .ireturn, 1, []), (90, .aload 5, 2, []), (92, .getfield 208, 3, [322, 6, 3]), (95, .ifCond .eq 7, 3, []), (98, .iconst 1, 1, []), (99, .goto 4, 3, []), (102, .iconst 0, 1, []), (103, .ireturn, 1, []), (104, .aload 5, 2, []), (106, .getfield 211, 3, [316, 6, 1]), (109, .getfield 214, 3, [299, 2, 1]), (112, .ireturn, 1, []), (113, .aload 5, 2, []), (115, .getfield 211, 3, [316, 6, 1]), (118, .iload 4, 2, []), (120, .iconst 3, 1, []), (121, .isub, 1, []), (122, .invokevirtual 215, 3, [0, 33, 937, 524, 81, 522, 523]), (125, .ireturn, 1, [])]
def ft_c124_0 : List (Nat × ft_I) := [(0, .iload_n 1, 1, []), (1, .invokestatic 50, 3, [0, 51, 602, 604, 71, 603]), (4, .ifCond .ne 6, 3, []), (7, .bipush (-101), 2, []), (9, .ireturn, 1, []), (10, .iload_n 2, 1, []), (11, .ifCond .lt 9, 3, []), (14, .iload_n 2, 1, []), (15, .bipush 15, 2, []), (17, .if_icmp .le 6, 3, []), (20, .bipush (-102), 2, []), (22, .ireturn, 1, []), (23, .aload_n 0, 1, []), (24, .getfield 9, 3, [474, 0, 1]), (27, .iload_n 1, 1, []), (28, .aaload, 1, []), (29, .astore_n 3, 1, []), (30, .iload_n 2, 1, []), (31, .bipush 6, 2, []), (33, .if_icmp .lt 19, 3, []), (36, .iload_n 2, 1, []), (37, .bipush 10, 2, []), (39, .if_icmp .gt 13, 3, []), (42, .aload_n 3, 1, []), (43, .getfield 219, 3, [420, 5, 7]), (46, .iload_n 2, 1, []), (47, .bipush 6, 2, []), (49, .isub, 1, []), (50, .iaload, 1, []), (51, .ireturn, 1, []), (52, .iload_n 2, 1, []), (53, .tableswitch 155 0 14 #[75, 83, 91, 99, 107, 115, 155, 155, 155, 155, 155, 123, 131, 139, 150], 75, []), (128, .aload_n 3, 1, []), (129, .getfield 188, 3, [414, 5, 4]), (132, .getfield 222, 3, [207, 7, 1]), (135, .ireturn, 1, []), (136, .aload_n 3, 1, []), (137, .getfield 188, 3, [414, 5, 4]), (140, .getfield 225, 3, [210, 7, 2]), (143, .ireturn, 1, []), (144, .aload_n 3, 1, []), (145, .getfield 188, 3, [414, 5, 4]), (148, .getfield 228, 3, [213, 7, 3]), (151, .ireturn, 1, []), (152, .aload_n 3, 1, []), (153, .getfield 188, 3, [414, 5, 4]), (156, .getfield 231, 3, [215, 7, 4]), (159, .ireturn, 1, []), (160, .aload_n 3, 1, []), (161, .getfield 188, 3, [414, 5, 4]), (164, .getfield 234, 3, [217, 7, 5]), (167, .ireturn, 1, []), (168, .aload_n 3, 1, []), (169, .getfield 58, 3, [416, 5, 5]), (172, .invokevirtual 62, 3, [0, 55, 618, 621, 78, 619, 620]), (175, .ireturn, 1, []), (176, .aload_n 3, 1, []), (177, .getfield 237, 3, [418, 5, 6]), (180, .getfield 240, 3, [251, 4, 3]), (183, .ireturn, 1, [])]
def ft_c124_1 : List (Nat × ft_I) := [(184, .aload_n 3, 1, []), (185, .getfield 76, 3, [410, 5, 2]), (188, .invokevirtual 99, 3, [0, 63, 658, 661, 79, 659, 660]), (191, .ireturn, 1, []), (192, .aload_n 3, 1, []), (193, .getfield 76, 3, [410, 5, 2]), (196, .getfield 243, 3, [346, 1, 2]), (199, .getfield 247, 3, [281, 3, 1]), (202, .ireturn, 1, []), (203, .aload_n 3, 1, []), (204, .getfield 250, 3, [422, 5, 8]), (207, .ireturn, 1, []), (208, .aload_n 3, 1, []), (209, .getfield 253, 3, [424, 5, 9]), (212, .ireturn, 1, [])]
def ft_c124 : List (Nat × ft_I) := ft_c124_0 ++ (ft_c124_1)
def ft_c125 : List (Nat × ft_I) := [(0, .iload_n 1, 1, []), (1, .invokestatic 50, 3, [0, 51, 602, 604, 71, 603]), (4, .ifCond .ne 6, 3, []), (7, .bipush (-101), 2, []), (9, .ireturn, 1, []), (10, .aload_n 0, 1, []), (11, .getfield 9, 3, [474, 0, 1]), (14, .iload_n 1, 1, []), (15, .aaload, 1, []), (16, .getfield 237, 3, [418, 5, 6]), (19, .astore 4, 2, []), (21, .iload_n 2, 1, []), (22, .ifCond .lt 24, 3, []), (25, .iload_n 2, 1, []), (26, .aload 4, 2, []), (28, .getfield 240, 3, [251, 4, 3]), (31, .if_icmp .ge 15, 3, []), (34, .iload_n 2, 1, []), (35, .aload 4, 2, []), (37, .getfield 240, 3, [251, 4, 3]), (40, .bipush 40, 2, []), (42, .isub, 1, []), (43, .if_icmp .ge 6, 3, []), (46, .bipush (-101), 2, []), (48, .ireturn, 1, []), (49, .aload 4, 2, []), (51, .iload_n 2, 1, []), (52, .invokevirtual 256, 3, [0, 126, 946, 949, 78, 947, 948]), (55, .istore 5, 2, []), (57, .iload_n 3, 1, []), (58, .iconst (-1), 1, []), (59, .if_icmp .ne 6, 3, []), (62, .iload 5, 2, []), (64, .ireturn, 1, []), (65, .iload_n 3, 1, []), (66, .iconst (-1), 1, []), (67, .if_icmp .lt 9, 3, []), (70, .iload_n 3, 1, []), (71, .iload 5, 2, []), (73, .if_icmp .lt 8, 3, []), (76, .bipush (-101), 2, []), (78, .goto 10, 3, []), (81, .aload 4, 2, []), (83, .iload_n 2, 1, []), (84, .iload_n 3, 1, []), (85, .invokevirtual 259, 3, [0, 127, 950, 953, 78, 951, 952]), (88, .ireturn, 1, [])]
def ft_c126 : List (Nat × ft_I) := [(0, .aload_n 0, 1, []), (1, .getfield 25, 3, [249, 4, 2]), (4, .aload_n 0, 1, []), (5, .iload_n 1, 1, []), (6, .invokevirtual 34, 3, [0, 43, 565, 568, 78, 567, 2]), (9, .iaload, 1, []), (10, .ireturn, 1, [])]
def ft_c127 : List (Nat × ft_I) := [(0, .iload_n 2, 1, []), (1, .ifCond .lt 27, 3, []), (4, .iload_n 2, 1, []), (5, .bipush 40, 2, []), (7, .if_icmp .ge 21, 3, []), (10, .aload_n 0, 1, []), (11, .getfield 21, 3, [248, 4, 1]), (14, .aload_n 0, 1, []), (15, .iload_n 1, 1, []), (16, .invokevirtual 34, 3, [0, 43, 565, 568, 78, 567, 2]), (19, .bipush 40, 2, []), (21, .imul, 1, []), (22, .iload_n 2, 1, []), (23, .iadd, 1, []), (24, .iaload, 1, []), (25, .goto 4, 3, []), (28, .iconst 0, 1, []), (29, .ireturn, 1, [])]
def ft_c128 : List (Nat × ft_I) := [(0, .iload_n 1, 1, []), (1, .invokestatic 50, 3, [0, 51, 602, 604, 71, 603]), (4, .ifCond .ne 6, 3, []), (7, .bipush (-101), 2, []), (9, .ireturn, 1, []), (10, .aload_n 0, 1, []), (11, .getfield 9, 3, [474, 0, 1]), (14, .iload_n 1, 1, []), (15, .aaload, 1, []), (16, .getfield 173, 3, [412, 5, 3]), (19, .astore 4, 2, []), (21, .aload 4, 2, []), (23, .getfield 177, 3, [178, 10, 2]), (26, .lload_n 2, 1, []), (27, .lsub, 1, []), (28, .ldc2_w 34, 3, [161, 281474976710655]), (31, .land, 1, []), (32, .lstore 5, 2, []), (34, .aload 4, 2, []), (36, .getfield 262, 3, [173, 10, 0]), (39, .ifCond .eq 12, 3, []), (42, .lload 5, 2, []), (44, .ldc2_w 265, 3, [958, 256]), (47, .lcmp, 1, []), (48, .ifCond .lt 5, 3, []), (51, .iconst (-1), 1, []), (52, .ireturn, 1, []), (53, .aload 4, 2, []), (55, .lload_n 2, 1, []), (56, .invokevirtual 267, 3, [0, 93, 959, 794, 76, 792, 793]), (59, .ifCond .eq 7, 3, []), (62, .iconst 1, 1, []), (63, .goto 4, 3, []), (66, .iconst 0, 1, []), (67, .ireturn, 1, [])]
def ft_c129 : List (Nat × ft_I) := [(0, .iload_n 1, 1, []), (1, .invokestatic 50, 3, [0, 51, 602, 604, 71, 603]), (4, .ifCond .ne 6, 3, []), (7, .bipush (-101), 2, []), (9, .ireturn, 1, []), (10, .aload_n 0, 1, []), (11, .getfield 9, 3, [474, 0, 1]), (14, .iload_n 1, 1, []), (15, .aaload, 1, []), (16, .astore 4, 2, []), (18, .aload 4, 2, []), (20, .getfield 166, 3, [428, 5, 11]), (23, .lload_n 2, 1, []), (24, .lsub, 1, []), (25, .ldc2_w 34, 3, [161, 281474976710655]), (28, .land, 1, []), (29, .lstore 5, 2, []), (31, .lload 5, 2, []), (33, .lconst 1, 1, []), (34, .lcmp, 1, []), (35, .ifCond .lt 24, 3, []), (38, .lload 5, 2, []), (40, .ldc2_w 265, 3, [958, 256]), (43, .lcmp, 1, []), (44, .ifCond .ge 15, 3, []), (47, .aload 4, 2, []), (49, .getfield 170, 3, [430, 5, 12]), (52, .lload_n 2, 1, []), (53, .invokestatic 270, 3, [0, 82, 964, 741, 71, 740]), (56, .ifCond .eq 5, 3, []), (59, .iconst (-1), 1, []), (60, .ireturn, 1, []), (61, .aload 4, 2, []), (63, .getfield 188, 3, [414, 5, 4]), (66, .getfield 274, 3, [205, 7, 0]), (69, .lload_n 2, 1, []), (70, .ldc2_w 278, 3, [965, 255]), (73, .land, 1, []), (74, .l2i, 1, []), (75, .baload, 1, [0]), (76, .ireturn, 1, [])]
def ft_c130 : List (Nat × ft_I) := [(0, .iload_n 1, 1, []), (1, .aload_n 0, 1, []), (2, .arraylength, 1, []), (3, .if_icmp .ge 9, 3, []), (6, .aload_n 0, 1, []), (7, .iload_n 1, 1, []), (8, .iaload, 1, []), (9, .goto 4, 3, []), (12, .iconst 0, 1, []), (13, .ireturn, 1, [])]
def ft_c131_0 : List (Nat × ft_I) := [(0, .aload_n 0, 1, []), (1, .invokespecial 1, 3, [974, 92, 93]), (4, .aload_n 0, 1, []), (5, .bipush 61, 2, []), (7, .newarray .int, 2, [30, 133]), (9, .putfield 7, 3, [989, 11, 3]), (12, .aload_n 0, 1, []), (13, .bipush 61, 2, []), (15, .newarray .int, 2, [31, 133]), (17, .putfield 13, 3, [990, 11, 4]), (20, .aload_n 0, 1, []), (21, .bipush 61, 2, []), (23, .newarray .int, 2, [32, 133]), (25, .putfield 16, 3, [991, 11, 5]), (28, .aload_n 0, 1, []), (29, .sipush 15616, 3, []), (32, .newarray .int, 2, [33, 133]), (34, .putfield 19, 3, [992, 11, 6]), (37, .aload_n 0, 1, []), (38, .sipush 220, 3, []), (41, .newarray .int, 2, [34, 133]), (43, .putfield 22, 3, [993, 11, 7]), (46, .aload_n 0, 1, []), (47, .iconst 2, 1, []), (48, .newarray .int, 2, [35, 133]), (50, .putfield 25, 3, [995, 11, 9]), (53, .aload_n 0, 1, []), (54, .iconst 2, 1, []), (55, .newarray .long, 2, [36, 197]), (57, .putfield 28, 3, [996, 11, 10]), (60, .aload_n 0, 1, []), (61, .iconst 2, 1, []), (62, .newarray .long, 2, [37, 197]), (64, .putfield 32, 3, [997, 11, 11]), (67, .aload_n 0, 1, []), (68, .iconst 2, 1, []), (69, .newarray .boolean, 2, [38, 1182]), (71, .putfield 35, 3, [998, 11, 12]), (74, .aload_n 0, 1, []), (75, .iconst 2, 1, []), (76, .newarray .long, 2, [39, 197]), (78, .putfield 39, 3, [999, 11, 13]), (81, .aload_n 0, 1, []), (82, .iconst 2, 1, []), (83, .newarray .long, 2, [40, 197]), (85, .putfield 42, 3, [1000, 11, 14]), (88, .aload_n 0, 1, []), (89, .iconst 2, 1, []), (90, .newarray .long, 2, [41, 197]), (92, .putfield 45, 3, [1001, 11, 15]), (95, .aload_n 0, 1, []), (96, .sipush 512, 3, []), (99, .newarray .boolean, 2, [42, 1182]), (101, .putfield 48, 3, [1002, 11, 16]), (104, .aload_n 0, 1, []), (105, .sipush 512, 3, []), (108, .newarray .int, 2, [43, 133]), (110, .putfield 51, 3, [1003, 11, 17]), (113, .aload_n 0, 1, []), (114, .sipush 512, 3, [])]
def ft_c131_1 : List (Nat × ft_I) := [(117, .newarray .boolean, 2, [44, 1182]), (119, .putfield 54, 3, [1004, 11, 18]), (122, .aload_n 0, 1, []), (123, .sipush 512, 3, []), (126, .newarray .long, 2, [45, 197]), (128, .putfield 57, 3, [1005, 11, 19]), (131, .aload_n 0, 1, []), (132, .bipush 20, 2, []), (134, .newarray .int, 2, [46, 133]), (136, .putfield 60, 3, [1006, 11, 20]), (139, .aload_n 0, 1, []), (140, .bipush 20, 2, []), (142, .newarray .int, 2, [47, 133]), (144, .putfield 63, 3, [1007, 11, 21]), (147, .aload_n 0, 1, []), (148, .bipush 60, 2, []), (150, .newarray .int, 2, [48, 133]), (152, .putfield 66, 3, [1008, 11, 22]), (155, .aload_n 0, 1, []), (156, .bipush 20, 2, []), (158, .newarray .boolean, 2, [49, 1182]), (160, .putfield 69, 3, [1009, 11, 23]), (163, .aload_n 0, 1, []), (164, .bipush 20, 2, []), (166, .newarray .boolean, 2, [50, 1182]), (168, .putfield 72, 3, [1010, 11, 24]), (171, .aload_n 0, 1, []), (172, .bipush 20, 2, []), (174, .newarray .long, 2, [51, 197]), (176, .putfield 75, 3, [1011, 11, 25]), (179, .aload_n 0, 1, []), (180, .iconst 2, 1, []), (181, .newarray .int, 2, [52, 133]), (183, .putfield 78, 3, [1012, 11, 26]), (186, .aload_n 0, 1, []), (187, .sipush 192, 3, []), (190, .newarray .int, 2, [53, 133]), (192, .putfield 81, 3, [1013, 11, 27]), (195, .aload_n 0, 1, []), (196, .iconst 2, 1, []), (197, .newarray .int, 2, [54, 133]), (199, .putfield 84, 3, [1014, 11, 28]), (202, .aload_n 0, 1, []), (203, .bipush 40, 2, []), (205, .newarray .int, 2, [55, 133]), (207, .putfield 87, 3, [1015, 11, 29]), (210, .aload_n 0, 1, []), (211, .sipush 1600, 3, []), (214, .newarray .int, 2, [56, 133]), (216, .putfield 90, 3, [1016, 11, 30]), (219, .aload_n 0, 1, []), (220, .iconst 2, 1, []), (221, .newarray .int, 2, [57, 133]), (223, .putfield 93, 3, [1017, 11, 31]), (226, .aload_n 0, 1, []), (227, .bipush 80, 2, []), (229, .newarray .int, 2, [58, 133]), (231, .putfield 96, 3, [1018, 11, 32]), (234, .aload_n 0, 1, []), (235, .sipush 3200, 3, [])]
def ft_c131_2 : List (Nat × ft_I) := [(238, .newarray .int, 2, [59, 133]), (240, .putfield 99, 3, [1019, 11, 33]), (243, .aload_n 0, 1, []), (244, .iconst 2, 1, []), (245, .newarray .int, 2, [60, 133]), (247, .putfield 102, 3, [1020, 11, 34]), (250, .aload_n 0, 1, []), (251, .iconst 2, 1, []), (252, .newarray .int, 2, [61, 133]), (254, .putfield 105, 3, [1021, 11, 35]), (257, .aload_n 0, 1, []), (258, .iconst 2, 1, []), (259, .newarray .int, 2, [62, 133]), (261, .putfield 108, 3, [1022, 11, 36]), (264, .aload_n 0, 1, []), (265, .iconst 2, 1, []), (266, .newarray .int, 2, [63, 133]), (268, .putfield 111, 3, [1023, 11, 37]), (271, .aload_n 0, 1, []), (272, .iconst 2, 1, []), (273, .newarray .boolean, 2, [64, 1182]), (275, .putfield 114, 3, [1024, 11, 38]), (278, .aload_n 0, 1, []), (279, .iconst 2, 1, []), (280, .newarray .long, 2, [65, 197]), (282, .putfield 117, 3, [1025, 11, 39]), (285, .aload_n 0, 1, []), (286, .iconst 2, 1, []), (287, .newarray .int, 2, [66, 133]), (289, .putfield 120, 3, [1026, 11, 40]), (292, .aload_n 0, 1, []), (293, .iconst 2, 1, []), (294, .newarray .int, 2, [67, 133]), (296, .putfield 123, 3, [1027, 11, 41]), (299, .aload_n 0, 1, []), (300, .iconst 2, 1, []), (301, .newarray .int, 2, [68, 133]), (303, .putfield 126, 3, [1028, 11, 42]), (306, .aload_n 0, 1, []), (307, .iconst 2, 1, []), (308, .newarray .int, 2, [69, 133]), (310, .putfield 129, 3, [1029, 11, 43]), (313, .aload_n 0, 1, []), (314, .iconst 2, 1, []), (315, .newarray .int, 2, [70, 133]), (317, .putfield 132, 3, [1030, 11, 44]), (320, .aload_n 0, 1, []), (321, .iconst 2, 1, []), (322, .newarray .int, 2, [71, 133]), (324, .putfield 135, 3, [1031, 11, 45]), (327, .aload_n 0, 1, []), (328, .iconst 2, 1, []), (329, .newarray .boolean, 2, [72, 1182]), (331, .putfield 138, 3, [1032, 11, 46]), (334, .aload_n 0, 1, []), (335, .iconst 2, 1, []), (336, .newarray .int, 2, [73, 133]), (338, .putfield 141, 3, [1033, 11, 47]), (341, .aload_n 0, 1, []), (342, .iconst 2, 1, [])]
def ft_c131_3 : List (Nat × ft_I) := [(343, .newarray .int, 2, [74, 133]), (345, .putfield 144, 3, [1034, 11, 48]), (348, .aload_n 0, 1, []), (349, .iconst 2, 1, []), (350, .newarray .int, 2, [75, 133]), (352, .putfield 147, 3, [1035, 11, 49]), (355, .aload_n 0, 1, []), (356, .iconst 2, 1, []), (357, .newarray .int, 2, [76, 133]), (359, .putfield 150, 3, [1036, 11, 50]), (362, .aload_n 0, 1, []), (363, .iconst 2, 1, []), (364, .newarray .int, 2, [77, 133]), (366, .putfield 153, 3, [1037, 11, 51]), (369, .aload_n 0, 1, []), (370, .iconst 2, 1, []), (371, .newarray .int, 2, [78, 133]), (373, .putfield 156, 3, [1038, 11, 52]), (376, .aload_n 0, 1, []), (377, .iconst 2, 1, []), (378, .newarray .int, 2, [79, 133]), (380, .putfield 159, 3, [1039, 11, 53]), (383, .aload_n 0, 1, []), (384, .iconst 2, 1, []), (385, .newarray .int, 2, [80, 133]), (387, .dup, 1, []), (388, .iconst 0, 1, []), (389, .iconst (-1), 1, []), (390, .iastore, 1, []), (391, .dup, 1, []), (392, .iconst 1, 1, []), (393, .iconst (-1), 1, []), (394, .iastore, 1, []), (395, .putfield 162, 3, [1040, 11, 54]), (398, .aload_n 0, 1, []), (399, .iconst 2, 1, []), (400, .newarray .int, 2, [81, 133]), (402, .dup, 1, []), (403, .iconst 0, 1, []), (404, .iconst (-1), 1, []), (405, .iastore, 1, []), (406, .dup, 1, []), (407, .iconst 1, 1, []), (408, .iconst (-1), 1, []), (409, .iastore, 1, []), (410, .putfield 165, 3, [1041, 11, 55]), (413, .aload_n 0, 1, []), (414, .iconst 4, 1, []), (415, .newarray .int, 2, [82, 133]), (417, .putfield 168, 3, [1042, 11, 56]), (420, .aload_n 0, 1, []), (421, .sipush 256, 3, []), (424, .newarray .int, 2, [83, 133]), (426, .putfield 171, 3, [1044, 11, 58]), (429, .aload_n 0, 1, []), (430, .bipush 40, 2, []), (432, .newarray .int, 2, [84, 133]), (434, .putfield 174, 3, [1047, 11, 61]), (437, .aload_n 0, 1, []), (438, .sipush 256, 3, [])]
def ft_c131_4 : List (Nat × ft_I) := [(441, .newarray .int, 2, [85, 133]), (443, .putfield 177, 3, [1048, 11, 62]), (446, .aload_n 0, 1, []), (447, .sipush 256, 3, []), (450, .newarray .boolean, 2, [86, 1182]), (452, .putfield 180, 3, [1050, 11, 64]), (455, .aload_n 0, 1, []), (456, .iconst 1, 1, []), (457, .iload 5, 2, []), (459, .iconst 5, 1, []), (460, .irem, 1, []), (461, .iconst 5, 1, []), (462, .iadd, 1, []), (463, .iconst 5, 1, []), (464, .irem, 1, []), (465, .iadd, 1, []), (466, .putfield 183, 3, [986, 11, 0]), (469, .aload_n 0, 1, []), (470, .getfield 28, 3, [996, 11, 10]), (473, .iconst 0, 1, []), (474, .lload_n 1, 1, []), (475, .invokestatic 187, 3, [0, 132, 975, 977, 84, 976]), (478, .lastore, 1, []), (479, .aload_n 0, 1, []), (480, .getfield 28, 3, [996, 11, 10]), (483, .iconst 1, 1, []), (484, .lload_n 3, 1, []), (485, .invokestatic 187, 3, [0, 132, 975, 977, 84, 976]), (488, .lastore, 1, []), (489, .aload_n 0, 1, []), (490, .iconst 0, 1, []), (491, .invokevirtual 191, 3, [0, 133, 979, 982, 84, 981, 22]), (494, .aload_n 0, 1, []), (495, .iconst 1, 1, []), (496, .invokevirtual 191, 3, [0, 133, 979, 982, 84, 981, 22]), (499, .return_, 1, [])]
def ft_c131 : List (Nat × ft_I) := ft_c131_0 ++ (ft_c131_1 ++ (ft_c131_2 ++ (ft_c131_3 ++ (ft_c131_4))))
def ft_c132 : List (Nat × ft_I) := [(0, .lload_n 0, 1, []), (1, .ldc2_w 195, 3, [978, 281474976710655]), (4, .land, 1, []), (5, .lreturn, 1, [])]
def ft_c133_0 : List (Nat × ft_I) := [(0, .aload_n 0, 1, []), (1, .getfield 32, 3, [997, 11, 11]), (4, .iload_n 1, 1, []), (5, .aload_n 0, 1, []), (6, .getfield 28, 3, [996, 11, 10]), (9, .iload_n 1, 1, []), (10, .laload, 1, []), (11, .lastore, 1, []), (12, .aload_n 0, 1, []), (13, .getfield 35, 3, [998, 11, 12]), (16, .iload_n 1, 1, []), (17, .iconst 0, 1, []), (18, .bastore, 1, [1]), (19, .aload_n 0, 1, []), (20, .getfield 39, 3, [999, 11, 13]), (23, .iload_n 1, 1, []), (24, .lconst 0, 1, []), (25, .lastore, 1, []), (26, .aload_n 0, 1, []), (27, .getfield 42, 3, [1000, 11, 14]), (30, .iload_n 1, 1, []), (31, .lconst 0, 1, []), (32, .lastore, 1, []), (33, .aload_n 0, 1, []), (34, .getfield 45, 3, [1001, 11, 15]), (37, .iload_n 1, 1, []), (38, .lconst 0, 1, []), (39, .lastore, 1, []), (40, .sipush 256, 3, []), (43, .iload_n 1, 1, []), (44, .imul, 1, []), (45, .istore_n 2, 1, []), (46, .iload_n 2, 1, []), (47, .sipush 256, 3, []), (50, .iload_n 1, 1, []), (51, .imul, 1, []), (52, .sipush 256, 3, []), (55, .iadd, 1, []), (56, .if_icmp .ge 30, 3, []), (59, .aload_n 0, 1, []), (60, .getfield 48, 3, [1002, 11, 16]), (63, .iload_n 2, 1, []), (64, .iconst 0, 1, []), (65, .bastore, 1, [1]), (66, .aload_n 0, 1, []), (67, .getfield 51, 3, [1003, 11, 17]), (70, .iload_n 2, 1, []), (71, .iconst 0, 1, []), (72, .iastore, 1, []), (73, .aload_n 0, 1, []), (74, .getfield 54, 3, [1004, 11, 18]), (77, .iload_n 2, 1, []), (78, .iconst 0, 1, []), (79, .bastore, 1, [1]), (80, .iinc 2 1, 3, []), (83, .goto (-37), 3, []), (86, .iconst 0, 1, []), (87, .istore_n 2, 1, []), (88, .iload_n 2, 1, []), (89, .iconst 2, 1, [])]
def ft_c133_1 : List (Nat × ft_I) := [(90, .if_icmp .ge 127, 3, []), (93, .iconst 1, 1, []), (94, .istore_n 3, 1, []), (95, .iload_n 3, 1, []), (96, .iconst 5, 1, []), (97, .if_icmp .ge 114, 3, []), (100, .iload_n 1, 1, []), (101, .iload_n 2, 1, []), (102, .iload_n 3, 1, []), (103, .invokestatic 209, 3, [0, 134, 983, 985, 84, 984]), (106, .istore 4, 2, []), (108, .aload_n 0, 1, []), (109, .getfield 60, 3, [1006, 11, 20]), (112, .iload 4, 2, []), (114, .iload_n 3, 1, []), (115, .iconst 1, 1, []), (116, .if_icmp .ne 8, 3, []), (119, .bipush 100, 2, []), (121, .goto 13, 3, []), (124, .iload_n 3, 1, []), (125, .iconst 2, 1, []), (126, .if_icmp .ne 7, 3, []), (129, .iconst 2, 1, []), (130, .goto 4, 3, []), (133, .iconst 1, 1, []), (134, .iastore, 1, []), (135, .aload_n 0, 1, []), (136, .getfield 63, 3, [1007, 11, 21]), (139, .iload 4, 2, []), (141, .iload_n 3, 1, []), (142, .iconst 3, 1, []), (143, .if_icmp .ge 7, 3, []), (146, .iconst 1, 1, []), (147, .goto 4, 3, []), (150, .iconst 2, 1, []), (151, .iastore, 1, []), (152, .aload_n 0, 1, []), (153, .getfield 66, 3, [1008, 11, 22]), (156, .iconst 3, 1, []), (157, .iload 4, 2, []), (159, .imul, 1, []), (160, .aload_n 0, 1, []), (161, .getfield 60, 3, [1006, 11, 20]), (164, .iload 4, 2, []), (166, .iaload, 1, []), (167, .iastore, 1, []), (168, .aload_n 0, 1, []), (169, .getfield 66, 3, [1008, 11, 22]), (172, .iconst 3, 1, []), (173, .iload 4, 2, []), (175, .imul, 1, []), (176, .iconst 1, 1, []), (177, .iadd, 1, []), (178, .iload_n 3, 1, []), (179, .iconst 3, 1, []), (180, .if_icmp .ne 7, 3, []), (183, .iconst 0, 1, []), (184, .goto 4, 3, []), (187, .iconst 2, 1, []), (188, .iastore, 1, [])]
def ft_c133_2 : List (Nat × ft_I) := [(189, .aload_n 0, 1, []), (190, .getfield 69, 3, [1009, 11, 23]), (193, .iload 4, 2, []), (195, .iconst 0, 1, []), (196, .bastore, 1, [1]), (197, .aload_n 0, 1, []), (198, .getfield 72, 3, [1010, 11, 24]), (201, .iload 4, 2, []), (203, .iconst 0, 1, []), (204, .bastore, 1, [1]), (205, .iinc 3 1, 3, []), (208, .goto (-113), 3, []), (211, .iinc 2 1, 3, []), (214, .goto (-126), 3, []), (217, .aload_n 0, 1, []), (218, .getfield 78, 3, [1012, 11, 26]), (221, .iload_n 1, 1, []), (222, .iconst 0, 1, []), (223, .iastore, 1, []), (224, .aload_n 0, 1, []), (225, .getfield 84, 3, [1014, 11, 28]), (228, .iload_n 1, 1, []), (229, .iconst 0, 1, []), (230, .iastore, 1, []), (231, .aload_n 0, 1, []), (232, .getfield 102, 3, [1020, 11, 34]), (235, .iload_n 1, 1, []), (236, .iconst 3, 1, []), (237, .iastore, 1, []), (238, .aload_n 0, 1, []), (239, .getfield 105, 3, [1021, 11, 35]), (242, .iload_n 1, 1, []), (243, .bipush 64, 2, []), (245, .iastore, 1, []), (246, .aload_n 0, 1, []), (247, .getfield 108, 3, [1022, 11, 36]), (250, .iload_n 1, 1, []), (251, .bipush 8, 2, []), (253, .iastore, 1, []), (254, .aload_n 0, 1, []), (255, .getfield 111, 3, [1023, 11, 37]), (258, .iload_n 1, 1, []), (259, .iconst 0, 1, []), (260, .iastore, 1, []), (261, .aload_n 0, 1, []), (262, .getfield 114, 3, [1024, 11, 38]), (265, .iload_n 1, 1, []), (266, .iconst 0, 1, []), (267, .bastore, 1, [1]), (268, .aload_n 0, 1, []), (269, .getfield 120, 3, [1026, 11, 40]), (272, .iload_n 1, 1, []), (273, .aload_n 0, 1, []), (274, .getfield 213, 3, [987, 11, 1]), (277, .iastore, 1, []), (278, .aload_n 0, 1, []), (279, .getfield 144, 3, [1034, 11, 48]), (282, .iload_n 1, 1, []), (283, .iconst 0, 1, []), (284, .iastore, 1, [])]
def ft_c133_3 : List (Nat × ft_I) := [(285, .aload_n 0, 1, []), (286, .getfield 132, 3, [1030, 11, 44]), (289, .iload_n 1, 1, []), (290, .aload_n 0, 1, []), (291, .getfield 213, 3, [987, 11, 1]), (294, .iastore, 1, []), (295, .aload_n 0, 1, []), (296, .getfield 135, 3, [1031, 11, 45]), (299, .iload_n 1, 1, []), (300, .iconst (-1), 1, []), (301, .iastore, 1, []), (302, .aload_n 0, 1, []), (303, .getfield 138, 3, [1032, 11, 46]), (306, .iload_n 1, 1, []), (307, .iconst 0, 1, []), (308, .bastore, 1, [1]), (309, .aload_n 0, 1, []), (310, .getfield 126, 3, [1028, 11, 42]), (313, .iload_n 1, 1, []), (314, .iconst 0, 1, []), (315, .iastore, 1, []), (316, .return_, 1, [])]
def ft_c133 : List (Nat × ft_I) := ft_c133_0 ++ (ft_c133_1 ++ (ft_c133_2 ++ (ft_c133_3)))
def ft_c134 : List (Nat × ft_I) := [(0, .bipush 10, 2, []), (2, .iload_n 0, 1, []), (3, .imul, 1, []), (4, .iconst 5, 1, []), (5, .iload_n 1, 1, []), (6, .imul, 1, []), (7, .iadd, 1, []), (8, .iload_n 2, 1, []), (9, .iadd, 1, []), (10, .ireturn, 1, [])]
def ft_c135 : List (Nat × ft_I) := [(0, .aload_n 0, 1, []), (1, .getfield 25, 3, [995, 11, 9]), (4, .iconst 0, 1, []), (5, .iaload, 1, []), (6, .ifCond .eq 6, 3, []), (9, .bipush (-103), 2, []), (11, .ireturn, 1, []), (12, .aload_n 0, 1, []), (13, .iconst 0, 1, []), (14, .invokevirtual 191, 3, [0, 133, 979, 982, 84, 981, 22]), (17, .aload_n 0, 1, []), (18, .iconst 0, 1, []), (19, .iconst 2, 1, []), (20, .invokevirtual 321, 3, [0, 136, 1187, 1190, 84, 1189, 23]), (23, .aload_n 0, 1, []), (24, .iconst 0, 1, []), (25, .iconst 0, 1, []), (26, .invokevirtual 327, 3, [0, 137, 1191, 1194, 84, 1193, 24]), (29, .iconst 1, 1, []), (30, .ireturn, 1, [])]
def ft_c136 : List (Nat × ft_I) := [(0, .aload_n 0, 1, []), (1, .getfield 25, 3, [995, 11, 9]), (4, .iload_n 1, 1, []), (5, .iload_n 2, 1, []), (6, .iastore, 1, []), (7, .aload_n 0, 1, []), (8, .getfield 123, 3, [1027, 11, 41]), (11, .iload_n 1, 1, []), (12, .aload_n 0, 1, []), (13, .getfield 213, 3, [987, 11, 1]), (16, .iastore, 1, []), (17, .aload_n 0, 1, []), (18, .getfield 126, 3, [1028, 11, 42]), (21, .iload_n 1, 1, []), (22, .iconst 1, 1, []), (23, .iastore, 1, []), (24, .aload_n 0, 1, []), (25, .getfield 129, 3, [1029, 11, 43]), (28, .iload_n 1, 1, []), (29, .aload_n 0, 1, []), (30, .getfield 213, 3, [987, 11, 1]), (33, .iastore, 1, []), (34, .return_, 1, [])]
def ft_c137 : List (Nat × ft_I) := [(0, .aload_n 0, 1, []), (1, .iload_n 1, 1, []), (2, .iload_n 2, 1, []), (3, .iconst 0, 1, []), (4, .aload_n 0, 1, []), (5, .getfield 35, 3, [998, 11, 12]), (8, .iload_n 1, 1, []), (9, .baload, 1, [1]), (10, .ifCond .eq 12, 3, []), (13, .aload_n 0, 1, []), (14, .getfield 39, 3, [999, 11, 13]), (17, .iload_n 1, 1, []), (18, .laload, 1, []), (19, .goto 4, 3, []), (22, .lconst 0, 1, []), (23, .invokevirtual 292, 3, [0, 138, 1195, 1198, 84, 1197, 25]), (26, .return_, 1, [])]
def ft_c138_0 : List (Nat × ft_I) := [(0, .aload_n 0, 1, []), (1, .getfield 28, 3, [996, 11, 10]), (4, .iload_n 1, 1, []), (5, .laload, 1, []), (6, .lstore 6, 2, []), (8, .aload_n 0, 1, []), (9, .iload_n 1, 1, []), (10, .invokevirtual 261, 3, [0, 139, 1199, 1202, 84, 1201, 26]), (13, .ifCond .ne 7, 3, []), (16, .iconst 1, 1, []), (17, .goto 4, 3, []), (20, .iconst 0, 1, []), (21, .istore 8, 2, []), (23, .aload_n 0, 1, []), (24, .getfield 28, 3, [996, 11, 10]), (27, .iload_n 1, 1, []), (28, .lload 6, 2, []), (30, .lconst 1, 1, []), (31, .ladd, 1, []), (32, .invokestatic 187, 3, [0, 132, 975, 977, 84, 976]), (35, .lastore, 1, []), (36, .aload_n 0, 1, []), (37, .getfield 51, 3, [1003, 11, 17]), (40, .iload_n 1, 1, []), (41, .lload 6, 2, []), (43, .invokestatic 252, 3, [0, 144, 1218, 1220, 84, 1219]), (46, .iconst 0, 1, []), (47, .iastore, 1, []), (48, .aload_n 0, 1, []), (49, .getfield 54, 3, [1004, 11, 18]), (52, .iload_n 1, 1, []), (53, .lload 6, 2, []), (55, .invokestatic 252, 3, [0, 144, 1218, 1220, 84, 1219]), (58, .iconst 0, 1, []), (59, .bastore, 1, [1]), (60, .aload_n 0, 1, []), (61, .iconst 0, 1, []), (62, .putfield 236, 3, [1045, 11, 59]), (65, .aload_n 0, 1, []), (66, .iconst 0, 1, []), (67, .putfield 242, 3, [1046, 11, 60]), (70, .aload_n 0, 1, []), (71, .iload_n 2, 1, []), (72, .invokevirtual 239, 3, [0, 145, 1221, 1224, 84, 1223, 28]), (75, .aload_n 0, 1, []), (76, .iconst 0, 1, []), (77, .invokevirtual 239, 3, [0, 145, 1221, 1224, 84, 1223, 28]), (80, .aload_n 0, 1, []), (81, .iconst 0, 1, []), (82, .invokevirtual 239, 3, [0, 145, 1221, 1224, 84, 1223, 28]), (85, .aload_n 0, 1, []), (86, .iconst 0, 1, []), (87, .invokevirtual 239, 3, [0, 145, 1221, 1224, 84, 1223, 28]), (90, .aload_n 0, 1, []), (91, .lload 6, 2, []), (93, .invokevirtual 265, 3, [0, 146, 1225, 1228, 84, 1227, 29]), (96, .iload_n 2, 1, []), (97, .invokestatic 269, 3, [0, 147, 1229, 1231, 84, 1230]), (100, .ifCond .eq 9, 3, []), (103, .aload_n 0, 1, [])]
def ft_c138_1 : List (Nat × ft_I) := [(104, .lload 4, 2, []), (106, .invokevirtual 265, 3, [0, 146, 1225, 1228, 84, 1227, 29]), (109, .iload_n 2, 1, []), (110, .bipush 7, 2, []), (112, .if_icmp .ne 15, 3, []), (115, .aload_n 0, 1, []), (116, .iload_n 3, 1, []), (117, .invokevirtual 239, 3, [0, 145, 1221, 1224, 84, 1223, 28]), (120, .aload_n 0, 1, []), (121, .getfield 162, 3, [1040, 11, 54]), (124, .iload_n 1, 1, []), (125, .iload_n 3, 1, []), (126, .iastore, 1, []), (127, .iload_n 2, 1, []), (128, .iconst 2, 1, []), (129, .if_icmp .eq 74, 3, []), (132, .iload_n 2, 1, []), (133, .bipush 7, 2, []), (135, .if_icmp .eq 68, 3, []), (138, .aload_n 0, 1, []), (139, .getfield 132, 3, [1030, 11, 44]), (142, .iload_n 1, 1, []), (143, .aload_n 0, 1, []), (144, .getfield 213, 3, [987, 11, 1]), (147, .iastore, 1, []), (148, .aload_n 0, 1, []), (149, .getfield 138, 3, [1032, 11, 46]), (152, .iload_n 1, 1, []), (153, .iconst 0, 1, []), (154, .bastore, 1, [1]), (155, .aload_n 0, 1, []), (156, .iload_n 1, 1, []), (157, .invokevirtual 272, 3, [0, 148, 1232, 1235, 84, 1234, 30]), (160, .ifCond .eq 43, 3, []), (163, .aload_n 0, 1, []), (164, .iload_n 1, 1, []), (165, .invokevirtual 275, 3, [0, 150, 1240, 1243, 84, 1242, 32]), (168, .ifCond .eq 35, 3, []), (171, .iload_n 2, 1, []), (172, .iconst 3, 1, []), (173, .if_icmp .eq 8, 3, []), (176, .iload_n 2, 1, []), (177, .iconst 4, 1, []), (178, .if_icmp .ne 25, 3, []), (181, .aload_n 0, 1, []), (182, .getfield 60, 3, [1006, 11, 20]), (185, .iload_n 1, 1, []), (186, .iconst 0, 1, []), (187, .iconst 3, 1, []), (188, .invokestatic 209, 3, [0, 134, 983, 985, 84, 984]), (191, .iaload, 1, []), (192, .iconst 1, 1, []), (193, .if_icmp .ne 10, 3, []), (196, .aload_n 0, 1, []), (197, .iload_n 1, 1, []), (198, .lload 6, 2, []), (200, .invokevirtual 278, 3, [0, 151, 1244, 1247, 84, 1246, 33]), (203, .aload_n 0, 1, []), (204, .getfield 171, 3, [1044, 11, 58]), (207, .iconst 1, 1, [])]
def ft_c138_2 : List (Nat × ft_I) := [(208, .aload_n 0, 1, []), (209, .getfield 242, 3, [1046, 11, 60]), (212, .iastore, 1, []), (213, .iload_n 2, 1, []), (214, .iconst 2, 1, []), (215, .if_icmp .eq 8, 3, []), (218, .iload_n 2, 1, []), (219, .iconst 4, 1, []), (220, .if_icmp .ne 75, 3, []), (223, .iload 8, 2, []), (225, .ifCond .eq 13, 3, []), (228, .aload_n 0, 1, []), (229, .getfield 120, 3, [1026, 11, 40]), (232, .iload_n 1, 1, []), (233, .aload_n 0, 1, []), (234, .getfield 213, 3, [987, 11, 1]), (237, .iastore, 1, []), (238, .aload_n 0, 1, []), (239, .getfield 51, 3, [1003, 11, 17]), (242, .iload_n 1, 1, []), (243, .lload 6, 2, []), (245, .invokestatic 252, 3, [0, 144, 1218, 1220, 84, 1219]), (248, .iconst 1, 1, []), (249, .iastore, 1, []), (250, .iconst 0, 1, []), (251, .istore 9, 2, []), (253, .iload 9, 2, []), (255, .aload_n 0, 1, []), (256, .getfield 87, 3, [1015, 11, 29]), (259, .bipush 20, 2, []), (261, .iload_n 1, 1, []), (262, .imul, 1, []), (263, .iaload, 1, []), (264, .if_icmp .ge 26, 3, []), (267, .aload_n 0, 1, []), (268, .aload_n 0, 1, []), (269, .getfield 90, 3, [1016, 11, 30]), (272, .sipush 800, 3, []), (275, .iload_n 1, 1, []), (276, .imul, 1, []), (277, .iload 9, 2, []), (279, .iadd, 1, []), (280, .iaload, 1, []), (281, .invokevirtual 239, 3, [0, 145, 1221, 1224, 84, 1223, 28]), (284, .iinc 9 1, 3, []), (287, .goto (-34), 3, []), (290, .aload_n 0, 1, []), (291, .iload_n 1, 1, []), (292, .invokevirtual 282, 3, [0, 153, 1253, 1256, 84, 1255, 35]), (295, .iload_n 2, 1, []), (296, .iconst 3, 1, []), (297, .if_icmp .eq 8, 3, []), (300, .iload_n 2, 1, []), (301, .iconst 4, 1, []), (302, .if_icmp .ne 10, 3, []), (305, .aload_n 0, 1, []), (306, .getfield 144, 3, [1034, 11, 48]), (309, .iload_n 1, 1, []), (310, .iconst 0, 1, []), (311, .iastore, 1, [])]
def ft_c138_3 : List (Nat × ft_I) := [(312, .aload_n 0, 1, []), (313, .getfield 147, 3, [1035, 11, 49]), (316, .iload_n 1, 1, []), (317, .dup2, 1, []), (318, .iaload, 1, []), (319, .iconst 1, 1, []), (320, .iadd, 1, []), (321, .iastore, 1, []), (322, .aload_n 0, 1, []), (323, .getfield 285, 3, [988, 11, 2]), (326, .bipush 60, 2, []), (328, .if_icmp .ge 134, 3, []), (331, .aload_n 0, 1, []), (332, .getfield 171, 3, [1044, 11, 58]), (335, .iconst 0, 1, []), (336, .aload_n 0, 1, []), (337, .getfield 236, 3, [1045, 11, 59]), (340, .invokestatic 288, 3, [0, 154, 1257, 1259, 84, 1258]), (343, .istore 9, 2, []), (345, .aload_n 0, 1, []), (346, .getfield 171, 3, [1044, 11, 58]), (349, .iconst 2, 1, []), (350, .iload 9, 2, []), (352, .bipush 8, 2, []), (354, .ishr, 1, []), (355, .iastore, 1, []), (356, .aload_n 0, 1, []), (357, .getfield 171, 3, [1044, 11, 58]), (360, .iconst 3, 1, []), (361, .iload 9, 2, []), (363, .sipush 255, 3, []), (366, .iand, 1, []), (367, .iastore, 1, []), (368, .iconst 0, 1, []), (369, .istore 10, 2, []), (371, .iload 10, 2, []), (373, .aload_n 0, 1, []), (374, .getfield 236, 3, [1045, 11, 59]), (377, .if_icmp .ge 32, 3, []), (380, .aload_n 0, 1, []), (381, .getfield 19, 3, [992, 11, 6]), (384, .sipush 256, 3, []), (387, .aload_n 0, 1, []), (388, .getfield 285, 3, [988, 11, 2]), (391, .imul, 1, []), (392, .iload 10, 2, []), (394, .iadd, 1, []), (395, .aload_n 0, 1, []), (396, .getfield 171, 3, [1044, 11, 58]), (399, .iload 10, 2, []), (401, .iaload, 1, []), (402, .iastore, 1, []), (403, .iinc 10 1, 3, []), (406, .goto (-35), 3, []), (409, .aload_n 0, 1, []), (410, .getfield 16, 3, [991, 11, 5]), (413, .aload_n 0, 1, []), (414, .getfield 285, 3, [988, 11, 2]), (417, .aload_n 0, 1, []), (418, .getfield 236, 3, [1045, 11, 59])]
def ft_c138_4 : List (Nat × ft_I) := [(421, .iastore, 1, []), (422, .aload_n 0, 1, []), (423, .getfield 7, 3, [989, 11, 3]), (426, .aload_n 0, 1, []), (427, .getfield 285, 3, [988, 11, 2]), (430, .iconst 1, 1, []), (431, .iload_n 1, 1, []), (432, .isub, 1, []), (433, .iastore, 1, []), (434, .aload_n 0, 1, []), (435, .getfield 13, 3, [990, 11, 4]), (438, .aload_n 0, 1, []), (439, .getfield 285, 3, [988, 11, 2]), (442, .aload_n 0, 1, []), (443, .getfield 213, 3, [987, 11, 1]), (446, .aload_n 0, 1, []), (447, .getfield 183, 3, [986, 11, 0]), (450, .iadd, 1, []), (451, .iastore, 1, []), (452, .aload_n 0, 1, []), (453, .dup, 1, []), (454, .getfield 285, 3, [988, 11, 2]), (457, .iconst 1, 1, []), (458, .iadd, 1, []), (459, .putfield 285, 3, [988, 11, 2]), (462, .return_, 1, [])]
def ft_c138 : List (Nat × ft_I) := ft_c138_0 ++ (ft_c138_1 ++ (ft_c138_2 ++ (ft_c138_3 ++ (ft_c138_4))))
def ft_c139 : List (Nat × ft_I) := [(0, .iconst 0, 1, []), (1, .istore_n 2, 1, []), (2, .iconst 1, 1, []), (3, .istore_n 3, 1, []), (4, .iload_n 3, 1, []), (5, .sipush 256, 3, []), (8, .if_icmp .ge 56, 3, []), (11, .aload_n 0, 1, []), (12, .getfield 28, 3, [996, 11, 10]), (15, .iload_n 1, 1, []), (16, .laload, 1, []), (17, .iload_n 3, 1, []), (18, .i2l, 1, []), (19, .lsub, 1, []), (20, .invokestatic 187, 3, [0, 132, 975, 977, 84, 976]), (23, .lstore 4, 2, []), (25, .iload_n 2, 1, []), (26, .aload_n 0, 1, []), (27, .iload_n 1, 1, []), (28, .lload 4, 2, []), (30, .invokevirtual 297, 3, [0, 140, 1203, 1206, 84, 1205, 27]), (33, .ifCond .eq 22, 3, []), (36, .aload_n 0, 1, []), (37, .getfield 51, 3, [1003, 11, 17]), (40, .iload_n 1, 1, []), (41, .lload 4, 2, []), (43, .invokestatic 252, 3, [0, 144, 1218, 1220, 84, 1219]), (46, .iaload, 1, []), (47, .iconst 1, 1, []), (48, .if_icmp .ne 7, 3, []), (51, .iconst 1, 1, []), (52, .goto 4, 3, []), (55, .iconst 0, 1, []), (56, .iadd, 1, []), (57, .istore_n 2, 1, []), (58, .iinc 3 1, 3, []), (61, .goto (-57), 3, []), (64, .iload_n 2, 1, []), (65, .ireturn, 1, [])]
def ft_c140 : List (Nat × ft_I) := [(0, .aload_n 0, 1, []), (1, .getfield 28, 3, [996, 11, 10]), (4, .iload_n 1, 1, []), (5, .laload, 1, []), (6, .lload_n 2, 1, []), (7, .lsub, 1, []), (8, .invokestatic 187, 3, [0, 132, 975, 977, 84, 976]), (11, .lstore 4, 2, []), (13, .lload 4, 2, []), (15, .lconst 1, 1, []), (16, .ldc2_w 207, 3, [1207, 255]), (19, .invokestatic 199, 3, [0, 141, 1208, 1210, 84, 1209]), (22, .ifCond .eq 20, 3, []), (25, .lload_n 2, 1, []), (26, .aload_n 0, 1, []), (27, .getfield 32, 3, [997, 11, 11]), (30, .iload_n 1, 1, []), (31, .laload, 1, []), (32, .invokestatic 256, 3, [0, 142, 1211, 1213, 84, 1212]), (35, .ifCond .ne 7, 3, []), (38, .iconst 1, 1, []), (39, .goto 4, 3, []), (42, .iconst 0, 1, []), (43, .ireturn, 1, [])]
def ft_c141 : List (Nat × ft_I) := [(0, .lload_n 2, 1, []), (1, .lload_n 0, 1, []), (2, .lcmp, 1, []), (3, .ifCond .gt 14, 3, []), (6, .lload_n 0, 1, []), (7, .lload 4, 2, []), (9, .lcmp, 1, []), (10, .ifCond .gt 7, 3, []), (13, .iconst 1, 1, []), (14, .goto 4, 3, []), (17, .iconst 0, 1, []), (18, .ireturn, 1, [])]
def ft_c142 : List (Nat × ft_I) := [(0, .lload_n 2, 1, []), (1, .lload_n 0, 1, []), (2, .invokestatic 203, 3, [0, 143, 1214, 1216, 84, 1215]), (5, .ireturn, 1, [])]
def ft_c143 : List (Nat × ft_I) := [(0, .lload_n 0, 1, []), (1, .lload_n 2, 1, []), (2, .lsub, 1, []), (3, .invokestatic 187, 3, [0, 132, 975, 977, 84, 976]), (6, .lconst 1, 1, []), (7, .ldc2_w 197, 3, [1217, 140737488355327]), (10, .invokestatic 199, 3, [0, 141, 1208, 1210, 84, 1209]), (13, .ireturn, 1, [])]
def ft_c144 : List (Nat × ft_I) := [(0, .sipush 256, 3, []), (3, .iload_n 0, 1, []), (4, .imul, 1, []), (5, .lload_n 1, 1, []), (6, .ldc2_w 207, 3, [1207, 255]), (9, .land, 1, []), (10, .l2i, 1, []), (11, .iadd, 1, []), (12, .ireturn, 1, [])]
def ft_c145 : List (Nat × ft_I) := [(0, .aload_n 0, 1, []), (1, .getfield 171, 3, [1044, 11, 58]), (4, .aload_n 0, 1, []), (5, .getfield 236, 3, [1045, 11, 59]), (8, .iload_n 1, 1, []), (9, .sipush 255, 3, []), (12, .iand, 1, []), (13, .iastore, 1, []), (14, .aload_n 0, 1, []), (15, .dup, 1, []), (16, .getfield 236, 3, [1045, 11, 59]), (19, .iconst 1, 1, []), (20, .iadd, 1, []), (21, .putfield 236, 3, [1045, 11, 59]), (24, .return_, 1, [])]
def ft_c146 : List (Nat × ft_I) := [(0, .bipush 40, 2, []), (2, .istore_n 3, 1, []), (3, .iload_n 3, 1, []), (4, .ifCond .lt 17, 3, []), (7, .aload_n 0, 1, []), (8, .lload_n 1, 1, []), (9, .iload_n 3, 1, []), (10, .lshr, 1, []), (11, .l2i, 1, []), (12, .invokevirtual 239, 3, [0, 145, 1221, 1224, 84, 1223, 28]), (15, .iinc 3 (-8), 3, []), (18, .goto (-15), 3, []), (21, .return_, 1, [])]
def ft_c147 : List (Nat × ft_I) := [(0, .iload_n 0, 1, []), (1, .ifCond .eq 12, 3, []), (4, .iload_n 0, 1, []), (5, .iconst 2, 1, []), (6, .if_icmp .eq 7, 3, []), (9, .iconst 1, 1, []), (10, .goto 4, 3, []), (13, .iconst 0, 1, []), (14, .ireturn, 1, [])]
def ft_c148_0 : List (Nat × ft_I) := [(0, .iconst 0, 1, []), (1, .istore_n 2, 1, []), (2, .iconst 1, 1, []), (3, .istore_n 3, 1, []), (4, .iload_n 2, 1, []), (5, .aload_n 0, 1, []), (6, .getfield 78, 3, [1012, 11, 26]), (9, .iload_n 1, 1, []), (10, .iaload, 1, []), (11, .if_icmp .ge 93, 3, []), (14, .iload_n 3, 1, []), (15, .ifCond .eq 89, 3, []), (18, .bipush 96, 2, []), (20, .iload_n 1, 1, []), (21, .imul, 1, []), (22, .bipush 8, 2, []), (24, .iload_n 2, 1, []), (25, .imul, 1, []), (26, .iadd, 1, []), (27, .istore 4, 2, []), (29, .aload_n 0, 1, []), (30, .aload_n 0, 1, []), (31, .getfield 81, 3, [1013, 11, 27]), (34, .iload 4, 2, []), (36, .iaload, 1, []), (37, .invokevirtual 245, 3, [0, 149, 1236, 1239, 84, 1238, 31]), (40, .istore_n 3, 1, []), (41, .iload_n 3, 1, []), (42, .ifCond .eq 59, 3, []), (45, .iconst 0, 1, []), (46, .istore 5, 2, []), (48, .iload 5, 2, []), (50, .aload_n 0, 1, []), (51, .getfield 81, 3, [1013, 11, 27]), (54, .iload 4, 2, []), (56, .iaload, 1, []), (57, .if_icmp .ge 25, 3, []), (60, .aload_n 0, 1, []), (61, .aload_n 0, 1, []), (62, .getfield 81, 3, [1013, 11, 27]), (65, .iload 4, 2, []), (67, .iconst 1, 1, []), (68, .iadd, 1, []), (69, .iload 5, 2, []), (71, .iadd, 1, []), (72, .iaload, 1, []), (73, .invokevirtual 239, 3, [0, 145, 1221, 1224, 84, 1223, 28]), (76, .iinc 5 1, 3, []), (79, .goto (-31), 3, []), (82, .aload_n 0, 1, []), (83, .dup, 1, []), (84, .getfield 242, 3, [1046, 11, 60]), (87, .aload_n 0, 1, []), (88, .getfield 81, 3, [1013, 11, 27]), (91, .iload 4, 2, []), (93, .iaload, 1, []), (94, .iadd, 1, []), (95, .putfield 242, 3, [1046, 11, 60]), (98, .iinc 2 1, 3, []), (101, .goto (-97), 3, [])]
def ft_c148_1 : List (Nat × ft_I) := [(104, .iload_n 2, 1, []), (105, .istore 4, 2, []), (107, .iload 4, 2, []), (109, .aload_n 0, 1, []), (110, .getfield 78, 3, [1012, 11, 26]), (113, .iload_n 1, 1, []), (114, .iaload, 1, []), (115, .if_icmp .ge 63, 3, []), (118, .iconst 0, 1, []), (119, .istore 5, 2, []), (121, .iload 5, 2, []), (123, .bipush 8, 2, []), (125, .if_icmp .ge 47, 3, []), (128, .aload_n 0, 1, []), (129, .getfield 81, 3, [1013, 11, 27]), (132, .bipush 96, 2, []), (134, .iload_n 1, 1, []), (135, .imul, 1, []), (136, .bipush 8, 2, []), (138, .iload 4, 2, []), (140, .iload_n 2, 1, []), (141, .isub, 1, []), (142, .imul, 1, []), (143, .iadd, 1, []), (144, .iload 5, 2, []), (146, .iadd, 1, []), (147, .aload_n 0, 1, []), (148, .getfield 81, 3, [1013, 11, 27]), (151, .bipush 96, 2, []), (153, .iload_n 1, 1, []), (154, .imul, 1, []), (155, .bipush 8, 2, []), (157, .iload 4, 2, []), (159, .imul, 1, []), (160, .iadd, 1, []), (161, .iload 5, 2, []), (163, .iadd, 1, []), (164, .iaload, 1, []), (165, .iastore, 1, []), (166, .iinc 5 1, 3, []), (169, .goto (-48), 3, []), (172, .iinc 4 1, 3, []), (175, .goto (-68), 3, []), (178, .aload_n 0, 1, []), (179, .getfield 78, 3, [1012, 11, 26]), (182, .iload_n 1, 1, []), (183, .dup2, 1, []), (184, .iaload, 1, []), (185, .iload_n 2, 1, []), (186, .isub, 1, []), (187, .iastore, 1, []), (188, .iload_n 3, 1, []), (189, .ireturn, 1, [])]
def ft_c148 : List (Nat × ft_I) := ft_c148_0 ++ (ft_c148_1)
def ft_c149 : List (Nat × ft_I) := [(0, .aload_n 0, 1, []), (1, .getfield 242, 3, [1046, 11, 60]), (4, .iload_n 1, 1, []), (5, .iadd, 1, []), (6, .bipush 120, 2, []), (8, .if_icmp .gt 7, 3, []), (11, .iconst 1, 1, []), (12, .goto 4, 3, []), (15, .iconst 0, 1, []), (16, .ireturn, 1, [])]
def ft_c150_0 : List (Nat × ft_I) := [(0, .iconst 0, 1, []), (1, .istore_n 2, 1, []), (2, .iload_n 2, 1, []), (3, .iconst 2, 1, []), (4, .if_icmp .ge 134, 3, []), (7, .iconst 1, 1, []), (8, .istore_n 3, 1, []), (9, .iload_n 3, 1, []), (10, .iconst 5, 1, []), (11, .if_icmp .ge 121, 3, []), (14, .iload_n 1, 1, []), (15, .iload_n 2, 1, []), (16, .iload_n 3, 1, []), (17, .invokestatic 209, 3, [0, 134, 983, 985, 84, 984]), (20, .istore 4, 2, []), (22, .aload_n 0, 1, []), (23, .getfield 69, 3, [1009, 11, 23]), (26, .iload 4, 2, []), (28, .baload, 1, [1]), (29, .ifCond .eq 97, 3, []), (32, .iconst 3, 1, []), (33, .aload_n 0, 1, []), (34, .getfield 63, 3, [1007, 11, 21]), (37, .iload 4, 2, []), (39, .iaload, 1, []), (40, .iadd, 1, []), (41, .istore 5, 2, []), (43, .aload_n 0, 1, []), (44, .iload 5, 2, []), (46, .invokevirtual 245, 3, [0, 149, 1236, 1239, 84, 1238, 31]), (49, .ifCond .ne 5, 3, []), (52, .iconst 0, 1, []), (53, .ireturn, 1, []), (54, .aload_n 0, 1, []), (55, .iload_n 2, 1, []), (56, .ifCond .ne 7, 3, []), (59, .iconst 2, 1, []), (60, .goto 4, 3, []), (63, .iconst 4, 1, []), (64, .invokevirtual 239, 3, [0, 145, 1221, 1224, 84, 1223, 28]), (67, .aload_n 0, 1, []), (68, .iload 5, 2, []), (70, .invokevirtual 239, 3, [0, 145, 1221, 1224, 84, 1223, 28]), (73, .aload_n 0, 1, []), (74, .iload_n 3, 1, []), (75, .invokevirtual 239, 3, [0, 145, 1221, 1224, 84, 1223, 28]), (78, .iconst 0, 1, []), (79, .istore 6, 2, []), (81, .iload 6, 2, []), (83, .aload_n 0, 1, []), (84, .getfield 63, 3, [1007, 11, 21]), (87, .iload 4, 2, []), (89, .iaload, 1, []), (90, .if_icmp .ge 25, 3, []), (93, .aload_n 0, 1, []), (94, .aload_n 0, 1, []), (95, .getfield 66, 3, [1008, 11, 22]), (98, .iconst 3, 1, []), (99, .iload 4, 2, []), (101, .imul, 1, [])]
def ft_c150_1 : List (Nat × ft_I) := [(102, .iload 6, 2, []), (104, .iadd, 1, []), (105, .iaload, 1, []), (106, .invokevirtual 239, 3, [0, 145, 1221, 1224, 84, 1223, 28]), (109, .iinc 6 1, 3, []), (112, .goto (-31), 3, []), (115, .aload_n 0, 1, []), (116, .dup, 1, []), (117, .getfield 242, 3, [1046, 11, 60]), (120, .iload 5, 2, []), (122, .iadd, 1, []), (123, .putfield 242, 3, [1046, 11, 60]), (126, .iinc 3 1, 3, []), (129, .goto (-120), 3, []), (132, .iinc 2 1, 3, []), (135, .goto (-133), 3, []), (138, .iconst 1, 1, []), (139, .ireturn, 1, [])]
def ft_c150 : List (Nat × ft_I) := ft_c150_0 ++ (ft_c150_1)
def ft_c151_0 : List (Nat × ft_I) := [(0, .iconst 0, 1, []), (1, .istore 4, 2, []), (3, .aload_n 0, 1, []), (4, .getfield 39, 3, [999, 11, 13]), (7, .iload_n 1, 1, []), (8, .laload, 1, []), (9, .lstore 5, 2, []), (11, .iload 4, 2, []), (13, .bipush 40, 2, []), (15, .if_icmp .ge 107, 3, []), (18, .aload_n 0, 1, []), (19, .iload_n 1, 1, []), (20, .lload 5, 2, []), (22, .invokevirtual 248, 3, [0, 152, 1248, 1251, 84, 1250, 34]), (25, .ifCond .eq 97, 3, []), (28, .aload_n 0, 1, []), (29, .getfield 48, 3, [1002, 11, 16]), (32, .iload_n 1, 1, []), (33, .lload 5, 2, []), (35, .invokestatic 252, 3, [0, 144, 1218, 1220, 84, 1219]), (38, .baload, 1, [1]), (39, .istore 7, 2, []), (41, .iconst 0, 1, []), (42, .istore 8, 2, []), (44, .iload 8, 2, []), (46, .bipush 64, 2, []), (48, .if_icmp .ge 44, 3, []), (51, .aload_n 0, 1, []), (52, .iload_n 1, 1, []), (53, .lload 5, 2, []), (55, .invokevirtual 248, 3, [0, 152, 1248, 1251, 84, 1250, 34]), (58, .ifCond .eq 34, 3, []), (61, .aload_n 0, 1, []), (62, .getfield 48, 3, [1002, 11, 16]), (65, .iload_n 1, 1, []), (66, .lload 5, 2, []), (68, .invokestatic 252, 3, [0, 144, 1218, 1220, 84, 1219]), (71, .baload, 1, [1]), (72, .iload 7, 2, []), (74, .if_icmp .ne 18, 3, []), (77, .iinc 8 1, 3, []), (80, .lload 5, 2, []), (82, .lconst 1, 1, []), (83, .lsub, 1, []), (84, .invokestatic 187, 3, [0, 132, 975, 977, 84, 976]), (87, .lstore 5, 2, []), (89, .goto (-45), 3, []), (92, .aload_n 0, 1, []), (93, .getfield 174, 3, [1047, 11, 61]), (96, .iload 4, 2, []), (98, .iload 7, 2, []), (100, .ifCond .eq 7, 3, []), (103, .iconst 0, 1, []), (104, .goto 6, 3, []), (107, .sipush 192, 3, []), (110, .iload 8, 2, []), (112, .iadd, 1, []), (113, .iconst 1, 1, []), (114, .isub, 1, []), (115, .iastore, 1, [])]
def ft_c151_1 : List (Nat × ft_I) := [(116, .iinc 4 1, 3, []), (119, .goto (-108), 3, []), (122, .iload 4, 2, []), (124, .ifCond .eq 14, 3, []), (127, .aload_n 0, 1, []), (128, .iconst 2, 1, []), (129, .iload 4, 2, []), (131, .iadd, 1, []), (132, .invokevirtual 245, 3, [0, 149, 1236, 1239, 84, 1238, 31]), (135, .ifCond .ne 4, 3, []), (138, .return_, 1, []), (139, .aload_n 0, 1, []), (140, .bipush 6, 2, []), (142, .invokevirtual 239, 3, [0, 145, 1221, 1224, 84, 1223, 28]), (145, .aload_n 0, 1, []), (146, .iconst 2, 1, []), (147, .iload 4, 2, []), (149, .iadd, 1, []), (150, .invokevirtual 239, 3, [0, 145, 1221, 1224, 84, 1223, 28]), (153, .iconst 0, 1, []), (154, .istore 7, 2, []), (156, .iload 7, 2, []), (158, .iload 4, 2, []), (160, .if_icmp .ge 20, 3, []), (163, .aload_n 0, 1, []), (164, .aload_n 0, 1, []), (165, .getfield 174, 3, [1047, 11, 61]), (168, .iload 7, 2, []), (170, .iaload, 1, []), (171, .invokevirtual 239, 3, [0, 145, 1221, 1224, 84, 1223, 28]), (174, .iinc 7 1, 3, []), (177, .goto (-21), 3, []), (180, .aload_n 0, 1, []), (181, .dup, 1, []), (182, .getfield 242, 3, [1046, 11, 60]), (185, .iconst 2, 1, []), (186, .iload 4, 2, []), (188, .iadd, 1, []), (189, .iadd, 1, []), (190, .putfield 242, 3, [1046, 11, 60]), (193, .aload_n 0, 1, []), (194, .getfield 54, 3, [1004, 11, 18]), (197, .iload_n 1, 1, []), (198, .lload_n 2, 1, []), (199, .invokestatic 252, 3, [0, 144, 1218, 1220, 84, 1219]), (202, .iconst 1, 1, []), (203, .bastore, 1, [1]), (204, .aload_n 0, 1, []), (205, .getfield 57, 3, [1005, 11, 19]), (208, .iload_n 1, 1, []), (209, .lload_n 2, 1, []), (210, .invokestatic 252, 3, [0, 144, 1218, 1220, 84, 1219]), (213, .aload_n 0, 1, []), (214, .getfield 39, 3, [999, 11, 13]), (217, .iload_n 1, 1, []), (218, .laload, 1, []), (219, .lastore, 1, []), (220, .return_, 1, [])]
def ft_c151 : List (Nat × ft_I) := ft_c151_0 ++ (ft_c151_1)
def ft_c152 : List (Nat × ft_I) := [(0, .aload_n 0, 1, []), (1, .getfield 35, 3, [998, 11, 12]), (4, .iload_n 1, 1, []), (5, .baload, 1, [1]), (6, .ifCond .eq 51, 3, []), (9, .lload_n 2, 1, []), (10, .aload_n 0, 1, []), (11, .getfield 42, 3, [1000, 11, 14]), (14, .iload_n 1, 1, []), (15, .laload, 1, []), (16, .invokestatic 256, 3, [0, 142, 1211, 1213, 84, 1212]), (19, .ifCond .ne 38, 3, []), (22, .lload_n 2, 1, []), (23, .aload_n 0, 1, []), (24, .getfield 45, 3, [1001, 11, 15]), (27, .iload_n 1, 1, []), (28, .laload, 1, []), (29, .invokestatic 256, 3, [0, 142, 1211, 1213, 84, 1212]), (32, .ifCond .ne 25, 3, []), (35, .aload_n 0, 1, []), (36, .getfield 39, 3, [999, 11, 13]), (39, .iload_n 1, 1, []), (40, .laload, 1, []), (41, .lload_n 2, 1, []), (42, .lsub, 1, []), (43, .invokestatic 187, 3, [0, 132, 975, 977, 84, 976]), (46, .ldc2_w 259, 3, [1252, 100]), (49, .lcmp, 1, []), (50, .ifCond .ge 7, 3, []), (53, .iconst 1, 1, []), (54, .goto 4, 3, []), (57, .iconst 0, 1, []), (58, .ireturn, 1, [])]
def ft_c153_0 : List (Nat × ft_I) := [(0, .iconst 1, 1, []), (1, .istore_n 2, 1, []), (2, .iload_n 2, 1, []), (3, .aload_n 0, 1, []), (4, .getfield 84, 3, [1014, 11, 28]), (7, .iload_n 1, 1, []), (8, .iaload, 1, []), (9, .if_icmp .ge 83, 3, []), (12, .aload_n 0, 1, []), (13, .getfield 87, 3, [1015, 11, 29]), (16, .bipush 20, 2, []), (18, .iload_n 1, 1, []), (19, .imul, 1, []), (20, .iload_n 2, 1, []), (21, .iadd, 1, []), (22, .iconst 1, 1, []), (23, .isub, 1, []), (24, .aload_n 0, 1, []), (25, .getfield 87, 3, [1015, 11, 29]), (28, .bipush 20, 2, []), (30, .iload_n 1, 1, []), (31, .imul, 1, []), (32, .iload_n 2, 1, []), (33, .iadd, 1, []), (34, .iaload, 1, []), (35, .iastore, 1, []), (36, .iconst 0, 1, []), (37, .istore_n 3, 1, []), (38, .iload_n 3, 1, []), (39, .bipush 40, 2, []), (41, .if_icmp .ge 45, 3, []), (44, .aload_n 0, 1, []), (45, .getfield 90, 3, [1016, 11, 30]), (48, .sipush 800, 3, []), (51, .iload_n 1, 1, []), (52, .imul, 1, []), (53, .bipush 40, 2, []), (55, .iload_n 2, 1, []), (56, .iconst 1, 1, []), (57, .isub, 1, []), (58, .imul, 1, []), (59, .iadd, 1, []), (60, .iload_n 3, 1, []), (61, .iadd, 1, []), (62, .aload_n 0, 1, []), (63, .getfield 90, 3, [1016, 11, 30]), (66, .sipush 800, 3, []), (69, .iload_n 1, 1, []), (70, .imul, 1, []), (71, .bipush 40, 2, []), (73, .iload_n 2, 1, []), (74, .imul, 1, []), (75, .iadd, 1, []), (76, .iload_n 3, 1, []), (77, .iadd, 1, []), (78, .iaload, 1, []), (79, .iastore, 1, []), (80, .iinc 3 1, 3, []), (83, .goto (-45), 3, []), (86, .iinc 2 1, 3, [])]
def ft_c153_1 : List (Nat × ft_I) := [(89, .goto (-87), 3, []), (92, .aload_n 0, 1, []), (93, .getfield 84, 3, [1014, 11, 28]), (96, .iload_n 1, 1, []), (97, .dup2, 1, []), (98, .iaload, 1, []), (99, .iconst 1, 1, []), (100, .isub, 1, []), (101, .iastore, 1, []), (102, .return_, 1, [])]
def ft_c153 : List (Nat × ft_I) := ft_c153_0 ++ (ft_c153_1)
def ft_c154 : List (Nat × ft_I) := [(0, .iconst 0, 1, []), (1, .istore_n 3, 1, []), (2, .iconst 0, 1, []), (3, .istore 4, 2, []), (5, .iload 4, 2, []), (7, .iload_n 2, 1, []), (8, .if_icmp .ge 53, 3, []), (11, .iload 4, 2, []), (13, .iconst 2, 1, []), (14, .if_icmp .eq 9, 3, []), (17, .iload 4, 2, []), (19, .iconst 3, 1, []), (20, .if_icmp .ne 7, 3, []), (23, .iconst 0, 1, []), (24, .goto 9, 3, []), (27, .aload_n 0, 1, []), (28, .iload_n 1, 1, []), (29, .iload 4, 2, []), (31, .iadd, 1, []), (32, .iaload, 1, []), (33, .istore 5, 2, []), (35, .iload_n 3, 1, []), (36, .iload 4, 2, []), (38, .iconst 2, 1, []), (39, .irem, 1, []), (40, .ifCond .ne 11, 3, []), (43, .iload 5, 2, []), (45, .bipush 8, 2, []), (47, .ishl, 1, []), (48, .goto 5, 3, []), (51, .iload 5, 2, []), (53, .iadd, 1, []), (54, .istore_n 3, 1, []), (55, .iinc 4 1, 3, []), (58, .goto (-53), 3, []), (61, .iconst 0, 1, []), (62, .istore 4, 2, []), (64, .iload 4, 2, []), (66, .bipush 8, 2, []), (68, .if_icmp .ge 27, 3, []), (71, .iload_n 3, 1, []), (72, .ldc_w 296, 3, [1260, 65535]), (75, .if_icmp .le 20, 3, []), (78, .iload_n 3, 1, []), (79, .ldc_w 296, 3, [1260, 65535]), (82, .iand, 1, []), (83, .iload_n 3, 1, []), (84, .bipush 16, 2, []), (86, .ishr, 1, []), (87, .iadd, 1, []), (88, .istore_n 3, 1, []), (89, .iinc 4 1, 3, []), (92, .goto (-28), 3, []), (95, .ldc_w 296, 3, [1260, 65535]), (98, .iload_n 3, 1, []), (99, .isub, 1, []), (100, .ireturn, 1, [])]
def ft_c155 : List (Nat × ft_I) := [(0, .aload_n 0, 1, []), (1, .getfield 25, 3, [995, 11, 9]), (4, .iconst 1, 1, []), (5, .iaload, 1, []), (6, .ifCond .eq 6, 3, []), (9, .bipush (-103), 2, []), (11, .ireturn, 1, []), (12, .aload_n 0, 1, []), (13, .iconst 1, 1, []), (14, .invokevirtual 191, 3, [0, 133, 979, 982, 84, 981, 22]), (17, .aload_n 0, 1, []), (18, .iconst 1, 1, []), (19, .iconst 1, 1, []), (20, .invokevirtual 321, 3, [0, 136, 1187, 1190, 84, 1189, 23]), (23, .iconst 1, 1, []), (24, .ireturn, 1, [])]
def ft_c156 : List (Nat × ft_I) := [(0, .iload_n 1, 1, []), (1, .invokestatic 420, 3, [0, 157, 1269, 1271, 84, 1270]), (4, .ifCond .ne 6, 3, []), (7, .bipush (-101), 2, []), (9, .ireturn, 1, []), (10, .aload_n 0, 1, []), (11, .getfield 25, 3, [995, 11, 9]), (14, .iload_n 1, 1, []), (15, .iaload, 1, []), (16, .istore_n 2, 1, []), (17, .iload_n 2, 1, []), (18, .i2l, 1, []), (19, .lconst 1, 1, []), (20, .ldc2_w 363, 3, [1272, 5]), (23, .invokestatic 199, 3, [0, 141, 1208, 1210, 84, 1209]), (26, .ifCond .ne 6, 3, []), (29, .bipush (-103), 2, []), (31, .ireturn, 1, []), (32, .iload_n 2, 1, []), (33, .iconst 4, 1, []), (34, .if_icmp .ge 23, 3, []), (37, .iload_n 2, 1, []), (38, .iconst 1, 1, []), (39, .if_icmp .le 9, 3, []), (42, .aload_n 0, 1, []), (43, .iload_n 1, 1, []), (44, .iconst 0, 1, []), (45, .invokevirtual 314, 3, [0, 158, 1273, 1276, 84, 1275, 36]), (48, .aload_n 0, 1, []), (49, .iload_n 1, 1, []), (50, .iconst 0, 1, []), (51, .invokevirtual 321, 3, [0, 136, 1187, 1190, 84, 1189, 23]), (54, .goto 41, 3, []), (57, .aload_n 0, 1, []), (58, .getfield 84, 3, [1014, 11, 28]), (61, .iload_n 1, 1, []), (62, .iconst 0, 1, []), (63, .iastore, 1, []), (64, .aload_n 0, 1, []), (65, .iload_n 1, 1, []), (66, .iload_n 1, 1, []), (67, .ifCond .ne 8, 3, []), (70, .bipush 7, 2, []), (72, .goto 5, 3, []), (75, .bipush 6, 2, []), (77, .invokevirtual 321, 3, [0, 136, 1187, 1190, 84, 1189, 23]), (80, .aload_n 0, 1, []), (81, .iload_n 1, 1, []), (82, .iload_n 1, 1, []), (83, .ifCond .ne 8, 3, []), (86, .bipush 6, 2, []), (88, .goto 4, 3, []), (91, .iconst 5, 1, []), (92, .invokevirtual 327, 3, [0, 137, 1191, 1194, 84, 1193, 24]), (95, .aload_n 0, 1, []), (96, .getfield 25, 3, [995, 11, 9]), (99, .iload_n 1, 1, []), (100, .iaload, 1, []), (101, .ireturn, 1, [])]
def ft_c157 : List (Nat × ft_I) := [(0, .iload_n 0, 1, []), (1, .i2l, 1, []), (2, .lconst 0, 1, []), (3, .lconst 1, 1, []), (4, .invokestatic 199, 3, [0, 141, 1208, 1210, 84, 1209]), (7, .ireturn, 1, [])]
def ft_c158 : List (Nat × ft_I) := [(0, .aload_n 0, 1, []), (1, .iload_n 1, 1, []), (2, .bipush 7, 2, []), (4, .iload_n 2, 1, []), (5, .aload_n 0, 1, []), (6, .getfield 35, 3, [998, 11, 12]), (9, .iload_n 1, 1, []), (10, .baload, 1, [1]), (11, .ifCond .eq 12, 3, []), (14, .aload_n 0, 1, []), (15, .getfield 39, 3, [999, 11, 13]), (18, .iload_n 1, 1, []), (19, .laload, 1, []), (20, .goto 4, 3, []), (23, .lconst 0, 1, []), (24, .invokevirtual 292, 3, [0, 138, 1195, 1198, 84, 1197, 25]), (27, .return_, 1, [])]
def ft_c159_0 : List (Nat × ft_I) := [(0, .iload_n 1, 1, []), (1, .invokestatic 420, 3, [0, 157, 1269, 1271, 84, 1270]), (4, .ifCond .ne 6, 3, []), (7, .bipush (-101), 2, []), (9, .ireturn, 1, []), (10, .iload_n 2, 1, []), (11, .i2l, 1, []), (12, .lconst 0, 1, []), (13, .ldc2_w 423, 3, [1281, 40]), (16, .invokestatic 199, 3, [0, 141, 1208, 1210, 84, 1209]), (19, .ifCond .ne 6, 3, []), (22, .bipush (-102), 2, []), (24, .ireturn, 1, []), (25, .aload_n 0, 1, []), (26, .getfield 25, 3, [995, 11, 9]), (29, .iload_n 1, 1, []), (30, .iaload, 1, []), (31, .i2l, 1, []), (32, .ldc2_w 220, 3, [1282, 2]), (35, .ldc2_w 363, 3, [1272, 5]), (38, .invokestatic 199, 3, [0, 141, 1208, 1210, 84, 1209]), (41, .ifCond .ne 6, 3, []), (44, .bipush (-103), 2, []), (46, .ireturn, 1, []), (47, .aload_n 0, 1, []), (48, .getfield 84, 3, [1014, 11, 28]), (51, .iload_n 1, 1, []), (52, .iaload, 1, []), (53, .bipush 20, 2, []), (55, .if_icmp .ne 6, 3, []), (58, .bipush (-104), 2, []), (60, .ireturn, 1, []), (61, .aload_n 0, 1, []), (62, .getfield 87, 3, [1015, 11, 29]), (65, .bipush 20, 2, []), (67, .iload_n 1, 1, []), (68, .imul, 1, []), (69, .aload_n 0, 1, []), (70, .getfield 84, 3, [1014, 11, 28]), (73, .iload_n 1, 1, []), (74, .iaload, 1, []), (75, .iadd, 1, []), (76, .iload_n 2, 1, []), (77, .iastore, 1, []), (78, .iconst 0, 1, []), (79, .istore 5, 2, []), (81, .iload 5, 2, []), (83, .iload_n 2, 1, []), (84, .if_icmp .ge 50, 3, []), (87, .aload_n 0, 1, []), (88, .getfield 90, 3, [1016, 11, 30]), (91, .sipush 800, 3, []), (94, .iload_n 1, 1, []), (95, .imul, 1, []), (96, .bipush 40, 2, []), (98, .aload_n 0, 1, []), (99, .getfield 84, 3, [1014, 11, 28]), (102, .iload_n 1, 1, []), (103, .iaload, 1, []), (104, .imul, 1, [])]
def ft_c159_1 : List (Nat × ft_I) := [(105, .iadd, 1, []), (106, .iload 5, 2, []), (108, .iadd, 1, []), (109, .lload_n 3, 1, []), (110, .bipush 8, 2, []), (112, .iload 5, 2, []), (114, .bipush 8, 2, []), (116, .irem, 1, []), (117, .imul, 1, []), (118, .lshr, 1, []), (119, .l2i, 1, []), (120, .iload 5, 2, []), (122, .iadd, 1, []), (123, .sipush 255, 3, []), (126, .iand, 1, []), (127, .iastore, 1, []), (128, .iinc 5 1, 3, []), (131, .goto (-50), 3, []), (134, .aload_n 0, 1, []), (135, .getfield 84, 3, [1014, 11, 28]), (138, .iload_n 1, 1, []), (139, .dup2, 1, []), (140, .iaload, 1, []), (141, .iconst 1, 1, []), (142, .iadd, 1, []), (143, .iastore, 1, []), (144, .aload_n 0, 1, []), (145, .getfield 84, 3, [1014, 11, 28]), (148, .iload_n 1, 1, []), (149, .iaload, 1, []), (150, .ireturn, 1, [])]
def ft_c159 : List (Nat × ft_I) := ft_c159_0 ++ (ft_c159_1)
def ft_c160_0 : List (Nat × ft_I) := [(0, .iload_n 1, 1, []), (1, .invokestatic 420, 3, [0, 157, 1269, 1271, 84, 1270]), (4, .ifCond .eq 15, 3, []), (7, .iload_n 2, 1, []), (8, .i2l, 1, []), (9, .lconst 1, 1, []), (10, .ldc2_w 349, 3, [1287, 4]), (13, .invokestatic 199, 3, [0, 141, 1208, 1210, 84, 1209]), (16, .ifCond .ne 6, 3, []), (19, .bipush (-101), 2, []), (21, .ireturn, 1, []), (22, .iload 4, 2, []), (24, .i2l, 1, []), (25, .lconst 1, 1, []), (26, .ldc2_w 371, 3, [1288, 3]), (29, .invokestatic 199, 3, [0, 141, 1208, 1210, 84, 1209]), (32, .ifCond .eq 12, 3, []), (35, .iload_n 2, 1, []), (36, .iconst 3, 1, []), (37, .if_icmp .ge 10, 3, []), (40, .iload_n 3, 1, []), (41, .ifCond .ne 6, 3, []), (44, .bipush (-102), 2, []), (46, .ireturn, 1, []), (47, .aload_n 0, 1, []), (48, .iload 4, 2, []), (50, .putfield 222, 3, [1043, 11, 57]), (53, .iconst 0, 1, []), (54, .istore 6, 2, []), (56, .iload 6, 2, []), (58, .iload 4, 2, []), (60, .if_icmp .ge 28, 3, []), (63, .aload_n 0, 1, []), (64, .getfield 168, 3, [1042, 11, 56]), (67, .iload 6, 2, []), (69, .iload 5, 2, []), (71, .bipush 8, 2, []), (73, .iload 6, 2, []), (75, .imul, 1, []), (76, .ishr, 1, []), (77, .sipush 255, 3, []), (80, .iand, 1, []), (81, .iastore, 1, []), (82, .iinc 6 1, 3, []), (85, .goto (-29), 3, []), (88, .aload_n 0, 1, []), (89, .iload_n 2, 1, []), (90, .invokevirtual 379, 3, [0, 161, 1289, 1292, 84, 1291, 37]), (93, .ifCond .ne 6, 3, []), (96, .bipush (-102), 2, []), (98, .ireturn, 1, []), (99, .aload_n 0, 1, []), (100, .getfield 25, 3, [995, 11, 9]), (103, .iload_n 1, 1, []), (104, .iaload, 1, []), (105, .ifCond .eq 14, 3, []), (108, .aload_n 0, 1, []), (109, .getfield 25, 3, [995, 11, 9]), (112, .iload_n 1, 1, []), (113, .iaload, 1, [])]
def ft_c160_1 : List (Nat × ft_I) := [(114, .bipush 8, 2, []), (116, .if_icmp .ne 6, 3, []), (119, .bipush (-103), 2, []), (121, .ireturn, 1, []), (122, .iload_n 1, 1, []), (123, .iload_n 3, 1, []), (124, .ifCond .eq 7, 3, []), (127, .iconst 0, 1, []), (128, .goto 4, 3, []), (131, .iconst 1, 1, []), (132, .iload_n 2, 1, []), (133, .invokestatic 209, 3, [0, 134, 983, 985, 84, 984]), (136, .istore 6, 2, []), (138, .aload_n 0, 1, []), (139, .getfield 63, 3, [1007, 11, 21]), (142, .iload 6, 2, []), (144, .iload 4, 2, []), (146, .iastore, 1, []), (147, .iconst 0, 1, []), (148, .istore 7, 2, []), (150, .iload 7, 2, []), (152, .iload 4, 2, []), (154, .if_icmp .ge 28, 3, []), (157, .aload_n 0, 1, []), (158, .getfield 66, 3, [1008, 11, 22]), (161, .iconst 3, 1, []), (162, .iload 6, 2, []), (164, .imul, 1, []), (165, .iload 7, 2, []), (167, .iadd, 1, []), (168, .aload_n 0, 1, []), (169, .getfield 168, 3, [1042, 11, 56]), (172, .iload 7, 2, []), (174, .iaload, 1, []), (175, .iastore, 1, []), (176, .iinc 7 1, 3, []), (179, .goto (-29), 3, []), (182, .aload_n 0, 1, []), (183, .getfield 69, 3, [1009, 11, 23]), (186, .iload 6, 2, []), (188, .iconst 1, 1, []), (189, .bastore, 1, [1]), (190, .aload_n 0, 1, []), (191, .getfield 138, 3, [1032, 11, 46]), (194, .iload_n 1, 1, []), (195, .iconst 1, 1, []), (196, .bastore, 1, [1]), (197, .aload_n 0, 1, []), (198, .iload_n 1, 1, []), (199, .invokevirtual 401, 3, [0, 163, 1298, 1301, 84, 1300, 38]), (202, .ireturn, 1, [])]
def ft_c160 : List (Nat × ft_I) := ft_c160_0 ++ (ft_c160_1)
def ft_c161 : List (Nat × ft_I) := [(0, .aload_n 0, 1, []), (1, .getfield 222, 3, [1043, 11, 57]), (4, .ifCond .eq 16, 3, []), (7, .iload_n 1, 1, []), (8, .iconst 3, 1, []), (9, .if_icmp .ge 13, 3, []), (12, .aload_n 0, 1, []), (13, .getfield 222, 3, [1043, 11, 57]), (16, .iconst 1, 1, []), (17, .if_icmp .le 5, 3, []), (20, .iconst 0, 1, []), (21, .ireturn, 1, []), (22, .iconst 0, 1, []), (23, .istore_n 2, 1, []), (24, .iload_n 2, 1, []), (25, .aload_n 0, 1, []), (26, .getfield 222, 3, [1043, 11, 57]), (29, .if_icmp .ge 54, 3, []), (32, .iload_n 1, 1, []), (33, .aload_n 0, 1, []), (34, .getfield 168, 3, [1042, 11, 56]), (37, .iload_n 2, 1, []), (38, .iaload, 1, []), (39, .invokestatic 225, 3, [0, 162, 1293, 1295, 84, 1294]), (42, .ifCond .ne 5, 3, []), (45, .iconst 0, 1, []), (46, .ireturn, 1, []), (47, .iconst 0, 1, []), (48, .istore_n 3, 1, []), (49, .iload_n 3, 1, []), (50, .iload_n 2, 1, []), (51, .if_icmp .ge 26, 3, []), (54, .aload_n 0, 1, []), (55, .getfield 168, 3, [1042, 11, 56]), (58, .iload_n 3, 1, []), (59, .iaload, 1, []), (60, .aload_n 0, 1, []), (61, .getfield 168, 3, [1042, 11, 56]), (64, .iload_n 2, 1, []), (65, .iaload, 1, []), (66, .if_icmp .ne 5, 3, []), (69, .iconst 0, 1, []), (70, .ireturn, 1, []), (71, .iinc 3 1, 3, []), (74, .goto (-25), 3, []), (77, .iinc 2 1, 3, []), (80, .goto (-56), 3, []), (83, .iconst 1, 1, []), (84, .ireturn, 1, [])]
def ft_c162 : List (Nat × ft_I) := [(0, .iload_n 0, 1, []), (1, .iconst 1, 1, []), (2, .if_icmp .ne 17, 3, []), (5, .iload_n 1, 1, []), (6, .i2l, 1, []), (7, .ldc2_w 216, 3, [1296, 16]), (10, .ldc2_w 207, 3, [1207, 255]), (13, .invokestatic 199, 3, [0, 141, 1208, 1210, 84, 1209]), (16, .goto 44, 3, []), (19, .iload_n 0, 1, []), (20, .iconst 2, 1, []), (21, .if_icmp .ne 15, 3, []), (24, .iload_n 1, 1, []), (25, .i2l, 1, []), (26, .lconst 1, 1, []), (27, .ldc2_w 218, 3, [1297, 20]), (30, .invokestatic 199, 3, [0, 141, 1208, 1210, 84, 1209]), (33, .goto 27, 3, []), (36, .iload_n 0, 1, []), (37, .iconst 3, 1, []), (38, .if_icmp .ne 13, 3, []), (41, .iload_n 1, 1, []), (42, .i2l, 1, []), (43, .lconst 0, 1, []), (44, .lconst 1, 1, []), (45, .invokestatic 199, 3, [0, 141, 1208, 1210, 84, 1209]), (48, .goto 12, 3, []), (51, .iload_n 1, 1, []), (52, .i2l, 1, []), (53, .lconst 1, 1, []), (54, .ldc2_w 220, 3, [1282, 2]), (57, .invokestatic 199, 3, [0, 141, 1208, 1210, 84, 1209]), (60, .ireturn, 1, [])]
def ft_c163 : List (Nat × ft_I) := [(0, .iconst 0, 1, []), (1, .istore_n 2, 1, []), (2, .bipush 10, 2, []), (4, .iload_n 1, 1, []), (5, .imul, 1, []), (6, .istore_n 3, 1, []), (7, .iload_n 3, 1, []), (8, .bipush 10, 2, []), (10, .iload_n 1, 1, []), (11, .imul, 1, []), (12, .bipush 10, 2, []), (14, .iadd, 1, []), (15, .if_icmp .ge 26, 3, []), (18, .iload_n 2, 1, []), (19, .aload_n 0, 1, []), (20, .getfield 69, 3, [1009, 11, 23]), (23, .iload_n 3, 1, []), (24, .baload, 1, [1]), (25, .ifCond .eq 7, 3, []), (28, .iconst 1, 1, []), (29, .goto 4, 3, []), (32, .iconst 0, 1, []), (33, .iadd, 1, []), (34, .istore_n 2, 1, []), (35, .iinc 3 1, 3, []), (38, .goto (-31), 3, []), (41, .iload_n 2, 1, []), (42, .ireturn, 1, [])]
def ft_c164 : List (Nat × ft_I) := [(0, .iload_n 1, 1, []), (1, .i2l, 1, []), (2, .lconst 1, 1, []), (3, .ldc2_w 425, 3, [1306, 50]), (6, .invokestatic 199, 3, [0, 141, 1208, 1210, 84, 1209]), (9, .ifCond .ne 6, 3, []), (12, .bipush (-102), 2, []), (14, .ireturn, 1, []), (15, .iconst 0, 1, []), (16, .istore_n 2, 1, []), (17, .iload_n 2, 1, []), (18, .iload_n 1, 1, []), (19, .if_icmp .ge 13, 3, []), (22, .aload_n 0, 1, []), (23, .invokevirtual 427, 3, [0, 165, 1307, 1310, 84, 1309, 39]), (26, .iinc 2 1, 3, []), (29, .goto (-12), 3, []), (32, .aload_n 0, 1, []), (33, .getfield 213, 3, [987, 11, 1]), (36, .ireturn, 1, [])]
def ft_c165_0 : List (Nat × ft_I) := [(0, .aload_n 0, 1, []), (1, .dup, 1, []), (2, .getfield 213, 3, [987, 11, 1]), (5, .iconst 1, 1, []), (6, .iadd, 1, []), (7, .putfield 213, 3, [987, 11, 1]), (10, .aload_n 0, 1, []), (11, .getfield 285, 3, [988, 11, 2]), (14, .istore_n 1, 1, []), (15, .iconst 0, 1, []), (16, .istore_n 2, 1, []), (17, .iload_n 1, 1, []), (18, .ifCond .le 93, 3, []), (21, .aload_n 0, 1, []), (22, .getfield 13, 3, [990, 11, 4]), (25, .iload_n 2, 1, []), (26, .iaload, 1, []), (27, .aload_n 0, 1, []), (28, .getfield 213, 3, [987, 11, 1]), (31, .if_icmp .gt 71, 3, []), (34, .aload_n 0, 1, []), (35, .getfield 7, 3, [989, 11, 3]), (38, .iload_n 2, 1, []), (39, .iaload, 1, []), (40, .istore_n 3, 1, []), (41, .aload_n 0, 1, []), (42, .aload_n 0, 1, []), (43, .getfield 16, 3, [991, 11, 5]), (46, .iload_n 2, 1, []), (47, .iaload, 1, []), (48, .putfield 300, 3, [1049, 11, 63]), (51, .iconst 0, 1, []), (52, .istore 4, 2, []), (54, .iload 4, 2, []), (56, .aload_n 0, 1, []), (57, .getfield 300, 3, [1049, 11, 63]), (60, .if_icmp .ge 29, 3, []), (63, .aload_n 0, 1, []), (64, .getfield 177, 3, [1048, 11, 62]), (67, .iload 4, 2, []), (69, .aload_n 0, 1, []), (70, .getfield 19, 3, [992, 11, 6]), (73, .sipush 256, 3, []), (76, .iload_n 2, 1, []), (77, .imul, 1, []), (78, .iload 4, 2, []), (80, .iadd, 1, []), (81, .iaload, 1, []), (82, .iastore, 1, []), (83, .iinc 4 1, 3, []), (86, .goto (-32), 3, []), (89, .aload_n 0, 1, []), (90, .iload_n 2, 1, []), (91, .invokevirtual 392, 3, [0, 166, 1311, 1314, 84, 1313, 40]), (94, .aload_n 0, 1, []), (95, .iload_n 3, 1, []), (96, .invokevirtual 395, 3, [0, 167, 1315, 1318, 84, 1317, 41]), (99, .goto 6, 3, []), (102, .iinc 2 1, 3, []), (105, .iinc 1 (-1), 3, [])]
def ft_c165_1 : List (Nat × ft_I) := [(108, .goto (-91), 3, []), (111, .aload_n 0, 1, []), (112, .iconst 0, 1, []), (113, .invokevirtual 398, 3, [0, 189, 1406, 1409, 84, 1408, 63]), (116, .aload_n 0, 1, []), (117, .iconst 1, 1, []), (118, .invokevirtual 398, 3, [0, 189, 1406, 1409, 84, 1408, 63]), (121, .return_, 1, [])]
def ft_c165 : List (Nat × ft_I) := ft_c165_0 ++ (ft_c165_1)
def ft_c166_0 : List (Nat × ft_I) := [(0, .iload_n 1, 1, []), (1, .istore_n 2, 1, []), (2, .iload_n 2, 1, []), (3, .iconst 1, 1, []), (4, .iadd, 1, []), (5, .aload_n 0, 1, []), (6, .getfield 285, 3, [988, 11, 2]), (9, .if_icmp .ge 95, 3, []), (12, .aload_n 0, 1, []), (13, .getfield 7, 3, [989, 11, 3]), (16, .iload_n 2, 1, []), (17, .aload_n 0, 1, []), (18, .getfield 7, 3, [989, 11, 3]), (21, .iload_n 2, 1, []), (22, .iconst 1, 1, []), (23, .iadd, 1, []), (24, .iaload, 1, []), (25, .iastore, 1, []), (26, .aload_n 0, 1, []), (27, .getfield 13, 3, [990, 11, 4]), (30, .iload_n 2, 1, []), (31, .aload_n 0, 1, []), (32, .getfield 13, 3, [990, 11, 4]), (35, .iload_n 2, 1, []), (36, .iconst 1, 1, []), (37, .iadd, 1, []), (38, .iaload, 1, []), (39, .iastore, 1, []), (40, .aload_n 0, 1, []), (41, .getfield 16, 3, [991, 11, 5]), (44, .iload_n 2, 1, []), (45, .aload_n 0, 1, []), (46, .getfield 16, 3, [991, 11, 5]), (49, .iload_n 2, 1, []), (50, .iconst 1, 1, []), (51, .iadd, 1, []), (52, .iaload, 1, []), (53, .iastore, 1, []), (54, .iconst 0, 1, []), (55, .istore_n 3, 1, []), (56, .iload_n 3, 1, []), (57, .aload_n 0, 1, []), (58, .getfield 16, 3, [991, 11, 5]), (61, .iload_n 2, 1, []), (62, .iaload, 1, []), (63, .if_icmp .ge 35, 3, []), (66, .aload_n 0, 1, []), (67, .getfield 19, 3, [992, 11, 6]), (70, .sipush 256, 3, []), (73, .iload_n 2, 1, []), (74, .imul, 1, []), (75, .iload_n 3, 1, []), (76, .iadd, 1, []), (77, .aload_n 0, 1, []), (78, .getfield 19, 3, [992, 11, 6]), (81, .sipush 256, 3, []), (84, .iload_n 2, 1, []), (85, .iconst 1, 1, []), (86, .iadd, 1, []), (87, .imul, 1, [])]
def ft_c166_1 : List (Nat × ft_I) := [(88, .iload_n 3, 1, []), (89, .iadd, 1, []), (90, .iaload, 1, []), (91, .iastore, 1, []), (92, .iinc 3 1, 3, []), (95, .goto (-39), 3, []), (98, .iinc 2 1, 3, []), (101, .goto (-99), 3, []), (104, .aload_n 0, 1, []), (105, .dup, 1, []), (106, .getfield 285, 3, [988, 11, 2]), (109, .iconst 1, 1, []), (110, .isub, 1, []), (111, .putfield 285, 3, [988, 11, 2]), (114, .return_, 1, [])]
def ft_c166 : List (Nat × ft_I) := ft_c166_0 ++ (ft_c166_1)
def ft_c167_0 : List (Nat × ft_I) := [(0, .aload_n 0, 1, []), (1, .getfield 150, 3, [1036, 11, 50]), (4, .iload_n 1, 1, []), (5, .dup2, 1, []), (6, .iaload, 1, []), (7, .iconst 1, 1, []), (8, .iadd, 1, []), (9, .iastore, 1, []), (10, .aload_n 0, 1, []), (11, .invokevirtual 306, 3, [0, 168, 1319, 1322, 84, 1321, 42]), (14, .ifCond .ne 14, 3, []), (17, .aload_n 0, 1, []), (18, .getfield 153, 3, [1037, 11, 51]), (21, .iload_n 1, 1, []), (22, .dup2, 1, []), (23, .iaload, 1, []), (24, .iconst 1, 1, []), (25, .iadd, 1, []), (26, .iastore, 1, []), (27, .return_, 1, []), (28, .aload_n 0, 1, []), (29, .getfield 177, 3, [1048, 11, 62]), (32, .iconst 0, 1, []), (33, .iaload, 1, []), (34, .istore_n 2, 1, []), (35, .aload_n 0, 1, []), (36, .iconst 4, 1, []), (37, .invokevirtual 310, 3, [0, 170, 1327, 1330, 84, 1329, 44]), (40, .lstore_n 3, 1, []), (41, .iload_n 2, 1, []), (42, .invokestatic 269, 3, [0, 147, 1229, 1231, 84, 1230]), (45, .ifCond .eq 12, 3, []), (48, .aload_n 0, 1, []), (49, .bipush 10, 2, []), (51, .invokevirtual 310, 3, [0, 170, 1327, 1330, 84, 1329, 44]), (54, .goto 4, 3, []), (57, .lconst 0, 1, []), (58, .lstore 5, 2, []), (60, .aload_n 0, 1, []), (61, .getfield 25, 3, [995, 11, 9]), (64, .iload_n 1, 1, []), (65, .iaload, 1, []), (66, .istore 7, 2, []), (68, .iload 7, 2, []), (70, .ifCond .eq 10, 3, []), (73, .iload 7, 2, []), (75, .bipush 8, 2, []), (77, .if_icmp .ne 18, 3, []), (80, .iload_n 2, 1, []), (81, .bipush 7, 2, []), (83, .if_icmp .eq 94, 3, []), (86, .aload_n 0, 1, []), (87, .iload_n 1, 1, []), (88, .iconst 1, 1, []), (89, .invokevirtual 314, 3, [0, 158, 1273, 1276, 84, 1275, 36]), (92, .goto 85, 3, []), (95, .iload 7, 2, []), (97, .iconst 1, 1, []), (98, .if_icmp .ne 52, 3, []), (101, .iload_n 2, 1, [])]
def ft_c167_1 : List (Nat × ft_I) := [(102, .ifCond .ne 33, 3, []), (105, .aload_n 0, 1, []), (106, .iload_n 1, 1, []), (107, .lload_n 3, 1, []), (108, .invokevirtual 318, 3, [0, 171, 1331, 1334, 84, 1333, 45]), (111, .aload_n 0, 1, []), (112, .iload_n 1, 1, []), (113, .iconst 3, 1, []), (114, .invokevirtual 321, 3, [0, 136, 1187, 1190, 84, 1189, 23]), (117, .aload_n 0, 1, []), (118, .iload_n 1, 1, []), (119, .lload_n 3, 1, []), (120, .invokevirtual 324, 3, [0, 172, 1335, 1338, 84, 1337, 46]), (123, .ifCond .eq 54, 3, []), (126, .aload_n 0, 1, []), (127, .iload_n 1, 1, []), (128, .iconst 1, 1, []), (129, .invokevirtual 327, 3, [0, 137, 1191, 1194, 84, 1193, 24]), (132, .goto 45, 3, []), (135, .iload_n 2, 1, []), (136, .bipush 7, 2, []), (138, .if_icmp .eq 39, 3, []), (141, .aload_n 0, 1, []), (142, .iload_n 1, 1, []), (143, .iconst 1, 1, []), (144, .invokevirtual 314, 3, [0, 158, 1273, 1276, 84, 1275, 36]), (147, .goto 30, 3, []), (150, .iload 7, 2, []), (152, .iconst 2, 1, []), (153, .if_icmp .ne 15, 3, []), (156, .aload_n 0, 1, []), (157, .iload_n 1, 1, []), (158, .iload_n 2, 1, []), (159, .lload_n 3, 1, []), (160, .lload 5, 2, []), (162, .invokevirtual 330, 3, [0, 180, 1370, 1373, 84, 1372, 54]), (165, .goto 12, 3, []), (168, .aload_n 0, 1, []), (169, .iload_n 1, 1, []), (170, .iload_n 2, 1, []), (171, .lload_n 3, 1, []), (172, .lload 5, 2, []), (174, .invokevirtual 334, 3, [0, 182, 1378, 1381, 84, 1380, 56]), (177, .return_, 1, [])]
def ft_c167 : List (Nat × ft_I) := ft_c167_0 ++ (ft_c167_1)
def ft_c168_0 : List (Nat × ft_I) := [(0, .aload_n 0, 1, []), (1, .getfield 300, 3, [1049, 11, 63]), (4, .bipush 10, 2, []), (6, .if_icmp .lt 25, 3, []), (9, .aload_n 0, 1, []), (10, .getfield 177, 3, [1048, 11, 62]), (13, .iconst 0, 1, []), (14, .iaload, 1, []), (15, .bipush 9, 2, []), (17, .if_icmp .gt 14, 3, []), (20, .aload_n 0, 1, []), (21, .getfield 177, 3, [1048, 11, 62]), (24, .iconst 1, 1, []), (25, .iaload, 1, []), (26, .bipush 120, 2, []), (28, .if_icmp .le 5, 3, []), (31, .iconst 0, 1, []), (32, .ireturn, 1, []), (33, .aload_n 0, 1, []), (34, .getfield 177, 3, [1048, 11, 62]), (37, .iconst 0, 1, []), (38, .iaload, 1, []), (39, .istore_n 1, 1, []), (40, .aload_n 0, 1, []), (41, .getfield 300, 3, [1049, 11, 63]), (44, .aload_n 0, 1, []), (45, .iload_n 1, 1, []), (46, .invokevirtual 303, 3, [0, 169, 1323, 1326, 84, 1325, 43]), (49, .isub, 1, []), (50, .aload_n 0, 1, []), (51, .getfield 177, 3, [1048, 11, 62]), (54, .iconst 1, 1, []), (55, .iaload, 1, []), (56, .isub, 1, []), (57, .istore_n 2, 1, []), (58, .iload_n 1, 1, []), (59, .iconst 2, 1, []), (60, .if_icmp .eq 8, 3, []), (63, .iload_n 1, 1, []), (64, .iconst 4, 1, []), (65, .if_icmp .ne 7, 3, []), (68, .iconst 1, 1, []), (69, .goto 4, 3, []), (72, .iconst 0, 1, []), (73, .istore_n 3, 1, []), (74, .iload_n 2, 1, []), (75, .ifCond .lt 31, 3, []), (78, .iload_n 2, 1, []), (79, .iload_n 3, 1, []), (80, .ifCond .eq 8, 3, []), (83, .bipush 40, 2, []), (85, .goto 4, 3, []), (88, .iconst 0, 1, []), (89, .if_icmp .gt 17, 3, []), (92, .iload_n 1, 1, []), (93, .iconst 2, 1, []), (94, .if_icmp .ne 14, 3, []), (97, .aload_n 0, 1, []), (98, .getfield 177, 3, [1048, 11, 62]), (101, .iconst 1, 1, [])]
def ft_c168_1 : List (Nat × ft_I) := [(102, .iaload, 1, []), (103, .ifCond .le 5, 3, []), (106, .iconst 0, 1, []), (107, .ireturn, 1, []), (108, .aload_n 0, 1, []), (109, .getfield 177, 3, [1048, 11, 62]), (112, .iconst 0, 1, []), (113, .aload_n 0, 1, []), (114, .getfield 300, 3, [1049, 11, 63]), (117, .invokestatic 288, 3, [0, 154, 1257, 1259, 84, 1258]), (120, .aload_n 0, 1, []), (121, .getfield 177, 3, [1048, 11, 62]), (124, .iconst 2, 1, []), (125, .iaload, 1, []), (126, .bipush 8, 2, []), (128, .ishl, 1, []), (129, .aload_n 0, 1, []), (130, .getfield 177, 3, [1048, 11, 62]), (133, .iconst 3, 1, []), (134, .iaload, 1, []), (135, .ior, 1, []), (136, .if_icmp .ne 7, 3, []), (139, .iconst 1, 1, []), (140, .goto 4, 3, []), (143, .iconst 0, 1, []), (144, .ireturn, 1, [])]
def ft_c168 : List (Nat × ft_I) := ft_c168_0 ++ (ft_c168_1)
def ft_c169 : List (Nat × ft_I) := [(0, .bipush 10, 2, []), (2, .iload_n 1, 1, []), (3, .invokestatic 269, 3, [0, 147, 1229, 1231, 84, 1230]), (6, .ifCond .eq 8, 3, []), (9, .bipush 6, 2, []), (11, .goto 4, 3, []), (14, .iconst 0, 1, []), (15, .iadd, 1, []), (16, .iload_n 1, 1, []), (17, .bipush 7, 2, []), (19, .if_icmp .ne 7, 3, []), (22, .iconst 1, 1, []), (23, .goto 4, 3, []), (26, .iconst 0, 1, []), (27, .iadd, 1, []), (28, .ireturn, 1, [])]
def ft_c170 : List (Nat × ft_I) := [(0, .lconst 0, 1, []), (1, .lstore_n 2, 1, []), (2, .iconst 0, 1, []), (3, .istore 4, 2, []), (5, .iload 4, 2, []), (7, .bipush 6, 2, []), (9, .if_icmp .ge 25, 3, []), (12, .lload_n 2, 1, []), (13, .bipush 8, 2, []), (15, .lshl, 1, []), (16, .aload_n 0, 1, []), (17, .getfield 177, 3, [1048, 11, 62]), (20, .iload_n 1, 1, []), (21, .iload 4, 2, []), (23, .iadd, 1, []), (24, .iaload, 1, []), (25, .i2l, 1, []), (26, .lor, 1, []), (27, .lstore_n 2, 1, []), (28, .iinc 4 1, 3, []), (31, .goto (-26), 3, []), (34, .lload_n 2, 1, []), (35, .lreturn, 1, [])]
def ft_c171 : List (Nat × ft_I) := [(0, .aload_n 0, 1, []), (1, .getfield 35, 3, [998, 11, 12]), (4, .iload_n 1, 1, []), (5, .iconst 1, 1, []), (6, .bastore, 1, [1]), (7, .aload_n 0, 1, []), (8, .getfield 39, 3, [999, 11, 13]), (11, .iload_n 1, 1, []), (12, .lload_n 2, 1, []), (13, .lastore, 1, []), (14, .aload_n 0, 1, []), (15, .getfield 42, 3, [1000, 11, 14]), (18, .iload_n 1, 1, []), (19, .lload_n 2, 1, []), (20, .lastore, 1, []), (21, .aload_n 0, 1, []), (22, .getfield 45, 3, [1001, 11, 15]), (25, .iload_n 1, 1, []), (26, .lload_n 2, 1, []), (27, .lastore, 1, []), (28, .sipush 256, 3, []), (31, .iload_n 1, 1, []), (32, .imul, 1, []), (33, .istore 4, 2, []), (35, .iload 4, 2, []), (37, .sipush 256, 3, []), (40, .iload_n 1, 1, []), (41, .imul, 1, []), (42, .sipush 256, 3, []), (45, .iadd, 1, []), (46, .if_icmp .ge 17, 3, []), (49, .aload_n 0, 1, []), (50, .getfield 48, 3, [1002, 11, 16]), (53, .iload 4, 2, []), (55, .iconst 0, 1, []), (56, .bastore, 1, [1]), (57, .iinc 4 1, 3, []), (60, .goto (-25), 3, []), (63, .aload_n 0, 1, []), (64, .getfield 48, 3, [1002, 11, 16]), (67, .iload_n 1, 1, []), (68, .lload_n 2, 1, []), (69, .invokestatic 252, 3, [0, 144, 1218, 1220, 84, 1219]), (72, .iconst 1, 1, []), (73, .bastore, 1, [1]), (74, .return_, 1, [])]
def ft_c172 : List (Nat × ft_I) := [(0, .aload_n 0, 1, []), (1, .iload_n 1, 1, []), (2, .lload_n 2, 1, []), (3, .invokevirtual 356, 3, [0, 173, 1339, 1342, 84, 1341, 47]), (6, .istore 4, 2, []), (8, .iload 4, 2, []), (10, .ifCond .eq 18, 3, []), (13, .aload_n 0, 1, []), (14, .iload_n 1, 1, []), (15, .iload 4, 2, []), (17, .invokevirtual 314, 3, [0, 158, 1273, 1276, 84, 1275, 36]), (20, .aload_n 0, 1, []), (21, .iload_n 1, 1, []), (22, .iconst 0, 1, []), (23, .invokevirtual 321, 3, [0, 136, 1187, 1190, 84, 1189, 23]), (26, .iconst 0, 1, []), (27, .ireturn, 1, []), (28, .iconst 1, 1, []), (29, .ireturn, 1, [])]
def ft_c173_0 : List (Nat × ft_I) := [(0, .aload_n 0, 1, []), (1, .aload_n 0, 1, []), (2, .getfield 177, 3, [1048, 11, 62]), (5, .iconst 0, 1, []), (6, .iaload, 1, []), (7, .invokevirtual 303, 3, [0, 169, 1323, 1326, 84, 1325, 43]), (10, .istore 4, 2, []), (12, .iload 4, 2, []), (14, .aload_n 0, 1, []), (15, .getfield 177, 3, [1048, 11, 62]), (18, .iconst 1, 1, []), (19, .iaload, 1, []), (20, .iadd, 1, []), (21, .istore 5, 2, []), (23, .iconst 0, 1, []), (24, .istore 6, 2, []), (26, .iload 4, 2, []), (28, .iload 5, 2, []), (30, .if_icmp .ge 160, 3, []), (33, .aload_n 0, 1, []), (34, .getfield 177, 3, [1048, 11, 62]), (37, .iload 4, 2, []), (39, .iaload, 1, []), (40, .istore 7, 2, []), (42, .iload 7, 2, []), (44, .ifCond .ne 12, 3, []), (47, .iconst 0, 1, []), (48, .istore 6, 2, []), (50, .iinc 4 1, 3, []), (53, .goto 134, 3, []), (56, .iload 7, 2, []), (58, .iconst 1, 1, []), (59, .if_icmp .ne 19, 3, []), (62, .iload 6, 2, []), (64, .ifCond .eq 5, 3, []), (67, .iconst 3, 1, []), (68, .ireturn, 1, []), (69, .iconst 1, 1, []), (70, .istore 6, 2, []), (72, .iinc 4 1, 3, []), (75, .goto 112, 3, []), (78, .iload 4, 2, []), (80, .iconst 1, 1, []), (81, .iadd, 1, []), (82, .iload 5, 2, []), (84, .if_icmp .ge 15, 3, []), (87, .aload_n 0, 1, []), (88, .getfield 177, 3, [1048, 11, 62]), (91, .iload 4, 2, []), (93, .iconst 1, 1, []), (94, .iadd, 1, []), (95, .iaload, 1, []), (96, .goto 4, 3, []), (99, .iconst 0, 1, []), (100, .istore 8, 2, []), (102, .iload 8, 2, []), (104, .iconst 2, 1, []), (105, .if_icmp .lt 38, 3, []), (108, .iload 4, 2, []), (110, .iload 8, 2, [])]
def ft_c173_1 : List (Nat × ft_I) := [(112, .iadd, 1, []), (113, .iload 5, 2, []), (115, .if_icmp .gt 28, 3, []), (118, .aload_n 0, 1, []), (119, .iload 7, 2, []), (121, .iload 4, 2, []), (123, .iload 8, 2, []), (125, .invokevirtual 359, 3, [0, 174, 1343, 1346, 84, 1345, 48]), (128, .ifCond .eq 15, 3, []), (131, .iload 6, 2, []), (133, .ifCond .eq 12, 3, []), (136, .iload 7, 2, []), (138, .bipush 6, 2, []), (140, .if_icmp .le 5, 3, []), (143, .iconst 3, 1, []), (144, .ireturn, 1, []), (145, .iconst 0, 1, []), (146, .istore 6, 2, []), (148, .iload 7, 2, []), (150, .i2l, 1, []), (151, .ldc2_w 220, 3, [1282, 2]), (154, .ldc2_w 363, 3, [1272, 5]), (157, .invokestatic 199, 3, [0, 141, 1208, 1210, 84, 1209]), (160, .ifCond .eq 20, 3, []), (163, .aload_n 0, 1, []), (164, .iload_n 1, 1, []), (165, .lload_n 2, 1, []), (166, .iload 7, 2, []), (168, .iload 4, 2, []), (170, .iload 8, 2, []), (172, .invokevirtual 365, 3, [0, 175, 1350, 1353, 84, 1352, 49]), (175, .ifCond .ne 5, 3, []), (178, .iconst 4, 1, []), (179, .ireturn, 1, []), (180, .iload 4, 2, []), (182, .iload 8, 2, []), (184, .iadd, 1, []), (185, .istore 4, 2, []), (187, .goto (-161), 3, []), (190, .iload 6, 2, []), (192, .ifCond .eq 7, 3, []), (195, .iconst 3, 1, []), (196, .goto 4, 3, []), (199, .iconst 0, 1, []), (200, .ireturn, 1, [])]
def ft_c173 : List (Nat × ft_I) := ft_c173_0 ++ (ft_c173_1)
def ft_c174_0 : List (Nat × ft_I) := [(0, .iload_n 1, 1, []), (1, .iconst 2, 1, []), (2, .if_icmp .eq 8, 3, []), (5, .iload_n 1, 1, []), (6, .iconst 4, 1, []), (7, .if_icmp .ne 15, 3, []), (10, .iload_n 3, 1, []), (11, .i2l, 1, []), (12, .ldc2_w 349, 3, [1287, 4]), (15, .ldc2_w 369, 3, [1347, 6]), (18, .invokestatic 199, 3, [0, 141, 1208, 1210, 84, 1209]), (21, .ireturn, 1, []), (22, .iload_n 1, 1, []), (23, .iconst 3, 1, []), (24, .if_icmp .eq 8, 3, []), (27, .iload_n 1, 1, []), (28, .iconst 5, 1, []), (29, .if_icmp .ne 15, 3, []), (32, .iload_n 3, 1, []), (33, .i2l, 1, []), (34, .ldc2_w 371, 3, [1288, 3]), (37, .ldc2_w 351, 3, [1348, 7]), (40, .invokestatic 199, 3, [0, 141, 1208, 1210, 84, 1209]), (43, .ireturn, 1, []), (44, .iload_n 1, 1, []), (45, .bipush 6, 2, []), (47, .if_icmp .ne 71, 3, []), (50, .iload_n 3, 1, []), (51, .i2l, 1, []), (52, .ldc2_w 371, 3, [1288, 3]), (55, .ldc2_w 373, 3, [1349, 42]), (58, .invokestatic 199, 3, [0, 141, 1208, 1210, 84, 1209]), (61, .istore 4, 2, []), (63, .iconst 2, 1, []), (64, .istore 5, 2, []), (66, .iload 5, 2, []), (68, .iload_n 3, 1, []), (69, .if_icmp .ge 46, 3, []), (72, .iload 4, 2, []), (74, .ifCond .eq 41, 3, []), (77, .aload_n 0, 1, []), (78, .getfield 177, 3, [1048, 11, 62]), (81, .iload_n 2, 1, []), (82, .iload 5, 2, []), (84, .iadd, 1, []), (85, .iaload, 1, []), (86, .bipush 6, 2, []), (88, .ishr, 1, []), (89, .istore 6, 2, []), (91, .iload 6, 2, []), (93, .ifCond .eq 9, 3, []), (96, .iload 6, 2, []), (98, .iconst 3, 1, []), (99, .if_icmp .ne 7, 3, []), (102, .iconst 1, 1, []), (103, .goto 4, 3, []), (106, .iconst 0, 1, []), (107, .istore 4, 2, []), (109, .iinc 5 1, 3, []), (112, .goto (-46), 3, [])]
def ft_c174_1 : List (Nat × ft_I) := [(115, .iload 4, 2, []), (117, .ireturn, 1, []), (118, .iconst 1, 1, []), (119, .ireturn, 1, [])]
def ft_c174 : List (Nat × ft_I) := ft_c174_0 ++ (ft_c174_1)
def ft_c175_0 : List (Nat × ft_I) := [(0, .aload_n 0, 1, []), (1, .getfield 177, 3, [1048, 11, 62]), (4, .iload 5, 2, []), (6, .iconst 2, 1, []), (7, .iadd, 1, []), (8, .iaload, 1, []), (9, .istore 7, 2, []), (11, .iload 4, 2, []), (13, .iconst 2, 1, []), (14, .if_icmp .eq 9, 3, []), (17, .iload 4, 2, []), (19, .iconst 4, 1, []), (20, .if_icmp .ne 7, 3, []), (23, .iconst 1, 1, []), (24, .goto 4, 3, []), (27, .iconst 0, 1, []), (28, .istore 8, 2, []), (30, .iload 4, 2, []), (32, .iconst 4, 1, []), (33, .if_icmp .ge 7, 3, []), (36, .iconst 1, 1, []), (37, .goto 4, 3, []), (40, .iconst 0, 1, []), (41, .istore 9, 2, []), (43, .iload 4, 2, []), (45, .iconst 2, 1, []), (46, .if_icmp .ne 7, 3, []), (49, .iconst 5, 1, []), (50, .goto 4, 3, []), (53, .iconst 3, 1, []), (54, .istore 10, 2, []), (56, .iload 7, 2, []), (58, .i2l, 1, []), (59, .lconst 1, 1, []), (60, .ldc2_w 349, 3, [1287, 4]), (63, .invokestatic 199, 3, [0, 141, 1208, 1210, 84, 1209]), (66, .ifCond .ne 21, 3, []), (69, .iload 8, 2, []), (71, .ifCond .eq 14, 3, []), (74, .aload_n 0, 1, []), (75, .iload_n 1, 1, []), (76, .iload 10, 2, []), (78, .iload 7, 2, []), (80, .iconst 0, 1, []), (81, .iconst 0, 1, []), (82, .invokevirtual 375, 3, [0, 176, 1354, 1357, 84, 1356, 50]), (85, .iconst 1, 1, []), (86, .ireturn, 1, []), (87, .iload_n 1, 1, []), (88, .iload 9, 2, []), (90, .ifCond .eq 7, 3, []), (93, .iconst 1, 1, []), (94, .goto 4, 3, []), (97, .iconst 0, 1, []), (98, .iload 7, 2, []), (100, .invokestatic 209, 3, [0, 134, 983, 985, 84, 984]), (103, .istore 11, 2, []), (105, .aload_n 0, 1, []), (106, .getfield 72, 3, [1010, 11, 24]), (109, .iload 11, 2, [])]
def ft_c175_1 : List (Nat × ft_I) := [(111, .baload, 1, [1]), (112, .ifCond .eq 19, 3, []), (115, .lload_n 2, 1, []), (116, .aload_n 0, 1, []), (117, .getfield 75, 3, [1011, 11, 25]), (120, .iload 11, 2, []), (122, .laload, 1, []), (123, .invokestatic 256, 3, [0, 142, 1211, 1213, 84, 1212]), (126, .ifCond .eq 5, 3, []), (129, .iconst 1, 1, []), (130, .ireturn, 1, []), (131, .aload_n 0, 1, []), (132, .getfield 72, 3, [1010, 11, 24]), (135, .iload 11, 2, []), (137, .iconst 1, 1, []), (138, .bastore, 1, [1]), (139, .aload_n 0, 1, []), (140, .getfield 75, 3, [1011, 11, 25]), (143, .iload 11, 2, []), (145, .lload_n 2, 1, []), (146, .lastore, 1, []), (147, .iload 8, 2, []), (149, .ifCond .eq 7, 3, []), (152, .iconst 3, 1, []), (153, .goto 4, 3, []), (156, .iconst 4, 1, []), (157, .istore 12, 2, []), (159, .aload_n 0, 1, []), (160, .iconst 0, 1, []), (161, .putfield 222, 3, [1043, 11, 57]), (164, .iload 12, 2, []), (166, .istore 13, 2, []), (168, .iload 13, 2, []), (170, .iload 6, 2, []), (172, .if_icmp .ge 38, 3, []), (175, .aload_n 0, 1, []), (176, .getfield 168, 3, [1042, 11, 56]), (179, .aload_n 0, 1, []), (180, .getfield 222, 3, [1043, 11, 57]), (183, .aload_n 0, 1, []), (184, .getfield 177, 3, [1048, 11, 62]), (187, .iload 5, 2, []), (189, .iload 13, 2, []), (191, .iadd, 1, []), (192, .iaload, 1, []), (193, .iastore, 1, []), (194, .aload_n 0, 1, []), (195, .dup, 1, []), (196, .getfield 222, 3, [1043, 11, 57]), (199, .iconst 1, 1, []), (200, .iadd, 1, []), (201, .putfield 222, 3, [1043, 11, 57]), (204, .iinc 13 1, 3, []), (207, .goto (-39), 3, []), (210, .iload 8, 2, []), (212, .ifCond .eq 81, 3, []), (215, .aload_n 0, 1, []), (216, .iload 7, 2, []), (218, .invokevirtual 379, 3, [0, 161, 1289, 1292, 84, 1291, 37]), (221, .ifCond .eq 15, 3, [])]
def ft_c175_2 : List (Nat × ft_I) := [(224, .iload 4, 2, []), (226, .iconst 4, 1, []), (227, .if_icmp .ne 23, 3, []), (230, .iload 7, 2, []), (232, .iconst 3, 1, []), (233, .if_icmp .ge 17, 3, []), (236, .aload_n 0, 1, []), (237, .iload_n 1, 1, []), (238, .iload 10, 2, []), (240, .iload 7, 2, []), (242, .iconst 0, 1, []), (243, .iconst 0, 1, []), (244, .invokevirtual 375, 3, [0, 176, 1354, 1357, 84, 1356, 50]), (247, .goto 44, 3, []), (250, .aload_n 0, 1, []), (251, .getfield 60, 3, [1006, 11, 20]), (254, .iload 11, 2, []), (256, .iload 7, 2, []), (258, .iconst 3, 1, []), (259, .if_icmp .ge 12, 3, []), (262, .aload_n 0, 1, []), (263, .getfield 168, 3, [1042, 11, 56]), (266, .iconst 0, 1, []), (267, .iaload, 1, []), (268, .goto 10, 3, []), (271, .aload_n 0, 1, []), (272, .iload_n 1, 1, []), (273, .iload 11, 2, []), (275, .invokevirtual 382, 3, [0, 177, 1358, 1361, 84, 1360, 51]), (278, .iastore, 1, []), (279, .aload_n 0, 1, []), (280, .iload_n 1, 1, []), (281, .iload 10, 2, []), (283, .iload 7, 2, []), (285, .iconst 1, 1, []), (286, .iload 11, 2, []), (288, .invokevirtual 375, 3, [0, 176, 1354, 1357, 84, 1356, 50]), (291, .iconst 1, 1, []), (292, .ireturn, 1, []), (293, .aload_n 0, 1, []), (294, .getfield 69, 3, [1009, 11, 23]), (297, .iload 11, 2, []), (299, .baload, 1, [1]), (300, .ifCond .ne 5, 3, []), (303, .iconst 1, 1, []), (304, .ireturn, 1, []), (305, .iload 6, 2, []), (307, .iconst 3, 1, []), (308, .if_icmp .ne 13, 3, []), (311, .aload_n 0, 1, []), (312, .getfield 69, 3, [1009, 11, 23]), (315, .iload 11, 2, []), (317, .iconst 0, 1, []), (318, .bastore, 1, [1]), (319, .iconst 1, 1, []), (320, .ireturn, 1, []), (321, .aload_n 0, 1, []), (322, .getfield 177, 3, [1048, 11, 62]), (325, .iload 5, 2, []), (327, .iconst 3, 1, [])]
def ft_c175_3 : List (Nat × ft_I) := [(328, .iadd, 1, []), (329, .iaload, 1, []), (330, .istore 13, 2, []), (332, .iload 7, 2, []), (334, .iconst 3, 1, []), (335, .if_icmp .ge 36, 3, []), (338, .iload 13, 2, []), (340, .aload_n 0, 1, []), (341, .getfield 66, 3, [1008, 11, 22]), (344, .iconst 3, 1, []), (345, .iload 11, 2, []), (347, .imul, 1, []), (348, .iaload, 1, []), (349, .if_icmp .ne 20, 3, []), (352, .aload_n 0, 1, []), (353, .getfield 60, 3, [1006, 11, 20]), (356, .iload 11, 2, []), (358, .iload 13, 2, []), (360, .iastore, 1, []), (361, .aload_n 0, 1, []), (362, .getfield 69, 3, [1009, 11, 23]), (365, .iload 11, 2, []), (367, .iconst 0, 1, []), (368, .bastore, 1, [1]), (369, .iconst 1, 1, []), (370, .ireturn, 1, []), (371, .aload_n 0, 1, []), (372, .iload 7, 2, []), (374, .invokevirtual 379, 3, [0, 161, 1289, 1292, 84, 1291, 37]), (377, .ifCond .eq 15, 3, []), (380, .iload 13, 2, []), (382, .aload_n 0, 1, []), (383, .iload_n 1, 1, []), (384, .iload 11, 2, []), (386, .invokevirtual 382, 3, [0, 177, 1358, 1361, 84, 1360, 51]), (389, .if_icmp .eq 5, 3, []), (392, .iconst 0, 1, []), (393, .ireturn, 1, []), (394, .aload_n 0, 1, []), (395, .getfield 60, 3, [1006, 11, 20]), (398, .iload 11, 2, []), (400, .iload 13, 2, []), (402, .iastore, 1, []), (403, .aload_n 0, 1, []), (404, .getfield 69, 3, [1009, 11, 23]), (407, .iload 11, 2, []), (409, .iconst 0, 1, []), (410, .bastore, 1, [1]), (411, .iconst 1, 1, []), (412, .ireturn, 1, [])]
def ft_c175 : List (Nat × ft_I) := ft_c175_0 ++ (ft_c175_1 ++ (ft_c175_2 ++ (ft_c175_3)))
def ft_c176_0 : List (Nat × ft_I) := [(0, .aload_n 0, 1, []), (1, .getfield 78, 3, [1012, 11, 26]), (4, .iload_n 1, 1, []), (5, .iaload, 1, []), (6, .bipush 12, 2, []), (8, .if_icmp .ne 4, 3, []), (11, .return_, 1, []), (12, .bipush 96, 2, []), (14, .iload_n 1, 1, []), (15, .imul, 1, []), (16, .bipush 8, 2, []), (18, .aload_n 0, 1, []), (19, .getfield 78, 3, [1012, 11, 26]), (22, .iload_n 1, 1, []), (23, .iaload, 1, []), (24, .imul, 1, []), (25, .iadd, 1, []), (26, .istore 6, 2, []), (28, .aload_n 0, 1, []), (29, .getfield 78, 3, [1012, 11, 26]), (32, .iload_n 1, 1, []), (33, .dup2, 1, []), (34, .iaload, 1, []), (35, .iconst 1, 1, []), (36, .iadd, 1, []), (37, .iastore, 1, []), (38, .aload_n 0, 1, []), (39, .getfield 81, 3, [1013, 11, 27]), (42, .iload 6, 2, []), (44, .iconst 1, 1, []), (45, .iadd, 1, []), (46, .iload_n 2, 1, []), (47, .iastore, 1, []), (48, .aload_n 0, 1, []), (49, .getfield 81, 3, [1013, 11, 27]), (52, .iload 6, 2, []), (54, .iconst 3, 1, []), (55, .iadd, 1, []), (56, .iload_n 3, 1, []), (57, .iastore, 1, []), (58, .iconst 3, 1, []), (59, .istore 7, 2, []), (61, .iload 4, 2, []), (63, .ifCond .eq 75, 3, []), (66, .aload_n 0, 1, []), (67, .getfield 81, 3, [1013, 11, 27]), (70, .iload 6, 2, []), (72, .iconst 4, 1, []), (73, .iadd, 1, []), (74, .aload_n 0, 1, []), (75, .getfield 60, 3, [1006, 11, 20]), (78, .iload 5, 2, []), (80, .iaload, 1, []), (81, .iastore, 1, []), (82, .iconst 4, 1, []), (83, .istore 7, 2, []), (85, .iconst 0, 1, []), (86, .istore 8, 2, []), (88, .iload 8, 2, []), (90, .aload_n 0, 1, [])]
def ft_c176_1 : List (Nat × ft_I) := [(91, .getfield 63, 3, [1007, 11, 21]), (94, .iload 5, 2, []), (96, .iaload, 1, []), (97, .if_icmp .ge 41, 3, []), (100, .iload_n 3, 1, []), (101, .iconst 2, 1, []), (102, .if_icmp .le 36, 3, []), (105, .aload_n 0, 1, []), (106, .getfield 81, 3, [1013, 11, 27]), (109, .iload 6, 2, []), (111, .iconst 1, 1, []), (112, .iadd, 1, []), (113, .iload 7, 2, []), (115, .iadd, 1, []), (116, .aload_n 0, 1, []), (117, .getfield 66, 3, [1008, 11, 22]), (120, .iconst 3, 1, []), (121, .iload 5, 2, []), (123, .imul, 1, []), (124, .iload 8, 2, []), (126, .iadd, 1, []), (127, .iaload, 1, []), (128, .iastore, 1, []), (129, .iinc 7 1, 3, []), (132, .iinc 8 1, 3, []), (135, .goto (-47), 3, []), (138, .aload_n 0, 1, []), (139, .getfield 81, 3, [1013, 11, 27]), (142, .iload 6, 2, []), (144, .iconst 2, 1, []), (145, .iadd, 1, []), (146, .iload 7, 2, []), (148, .iastore, 1, []), (149, .aload_n 0, 1, []), (150, .getfield 81, 3, [1013, 11, 27]), (153, .iload 6, 2, []), (155, .iload 7, 2, []), (157, .iastore, 1, []), (158, .return_, 1, [])]
def ft_c176 : List (Nat × ft_I) := ft_c176_0 ++ (ft_c176_1)
def ft_c177 : List (Nat × ft_I) := [(0, .iload_n 1, 1, []), (1, .iconst 1, 1, []), (2, .if_icmp .ne 52, 3, []), (5, .iconst 0, 1, []), (6, .istore_n 3, 1, []), (7, .iload_n 3, 1, []), (8, .aload_n 0, 1, []), (9, .getfield 63, 3, [1007, 11, 21]), (12, .iload_n 2, 1, []), (13, .iaload, 1, []), (14, .if_icmp .ge 37, 3, []), (17, .aload_n 0, 1, []), (18, .aload_n 0, 1, []), (19, .getfield 66, 3, [1008, 11, 22]), (22, .iconst 3, 1, []), (23, .iload_n 2, 1, []), (24, .imul, 1, []), (25, .iload_n 3, 1, []), (26, .iadd, 1, []), (27, .iaload, 1, []), (28, .invokevirtual 229, 3, [0, 178, 1362, 1365, 84, 1364, 52]), (31, .ifCond .eq 14, 3, []), (34, .aload_n 0, 1, []), (35, .getfield 66, 3, [1008, 11, 22]), (38, .iconst 3, 1, []), (39, .iload_n 2, 1, []), (40, .imul, 1, []), (41, .iload_n 3, 1, []), (42, .iadd, 1, []), (43, .iaload, 1, []), (44, .ireturn, 1, []), (45, .iinc 3 1, 3, []), (48, .goto (-41), 3, []), (51, .goto 40, 3, []), (54, .iconst 0, 1, []), (55, .istore_n 3, 1, []), (56, .iload_n 3, 1, []), (57, .aload_n 0, 1, []), (58, .getfield 222, 3, [1043, 11, 57]), (61, .if_icmp .ge 30, 3, []), (64, .aload_n 0, 1, []), (65, .iload_n 2, 1, []), (66, .aload_n 0, 1, []), (67, .getfield 168, 3, [1042, 11, 56]), (70, .iload_n 3, 1, []), (71, .iaload, 1, []), (72, .invokevirtual 233, 3, [0, 179, 1366, 1369, 84, 1368, 53]), (75, .ifCond .eq 10, 3, []), (78, .aload_n 0, 1, []), (79, .getfield 168, 3, [1042, 11, 56]), (82, .iload_n 3, 1, []), (83, .iaload, 1, []), (84, .ireturn, 1, []), (85, .iinc 3 1, 3, []), (88, .goto (-32), 3, []), (91, .aload_n 0, 1, []), (92, .getfield 60, 3, [1006, 11, 20]), (95, .iload_n 2, 1, []), (96, .iaload, 1, []), (97, .ireturn, 1, [])]
def ft_c178 : List (Nat × ft_I) := [(0, .iconst 0, 1, []), (1, .istore_n 2, 1, []), (2, .iload_n 2, 1, []), (3, .aload_n 0, 1, []), (4, .getfield 222, 3, [1043, 11, 57]), (7, .if_icmp .ge 21, 3, []), (10, .aload_n 0, 1, []), (11, .getfield 168, 3, [1042, 11, 56]), (14, .iload_n 2, 1, []), (15, .iaload, 1, []), (16, .iload_n 1, 1, []), (17, .if_icmp .ne 5, 3, []), (20, .iconst 1, 1, []), (21, .ireturn, 1, []), (22, .iinc 2 1, 3, []), (25, .goto (-23), 3, []), (28, .iconst 0, 1, []), (29, .ireturn, 1, [])]
def ft_c179 : List (Nat × ft_I) := [(0, .iconst 0, 1, []), (1, .istore_n 3, 1, []), (2, .iload_n 3, 1, []), (3, .aload_n 0, 1, []), (4, .getfield 63, 3, [1007, 11, 21]), (7, .iload_n 1, 1, []), (8, .iaload, 1, []), (9, .if_icmp .ge 25, 3, []), (12, .aload_n 0, 1, []), (13, .getfield 66, 3, [1008, 11, 22]), (16, .iconst 3, 1, []), (17, .iload_n 1, 1, []), (18, .imul, 1, []), (19, .iload_n 3, 1, []), (20, .iadd, 1, []), (21, .iaload, 1, []), (22, .iload_n 2, 1, []), (23, .if_icmp .ne 5, 3, []), (26, .iconst 1, 1, []), (27, .ireturn, 1, []), (28, .iinc 3 1, 3, []), (31, .goto (-29), 3, []), (34, .iconst 0, 1, []), (35, .ireturn, 1, [])]
def ft_c180 : List (Nat × ft_I) := [(0, .iload_n 2, 1, []), (1, .iconst 1, 1, []), (2, .if_icmp .ne 43, 3, []), (5, .aload_n 0, 1, []), (6, .iload_n 1, 1, []), (7, .lload 5, 2, []), (9, .invokevirtual 337, 3, [0, 181, 1374, 1377, 84, 1376, 55]), (12, .ifCond .eq 33, 3, []), (15, .aload_n 0, 1, []), (16, .iload_n 1, 1, []), (17, .lload_n 3, 1, []), (18, .invokevirtual 318, 3, [0, 171, 1331, 1334, 84, 1333, 45]), (21, .aload_n 0, 1, []), (22, .iload_n 1, 1, []), (23, .iconst 4, 1, []), (24, .invokevirtual 321, 3, [0, 136, 1187, 1190, 84, 1189, 23]), (27, .aload_n 0, 1, []), (28, .iload_n 1, 1, []), (29, .lload_n 3, 1, []), (30, .invokevirtual 324, 3, [0, 172, 1335, 1338, 84, 1337, 46]), (33, .ifCond .eq 62, 3, []), (36, .aload_n 0, 1, []), (37, .iload_n 1, 1, []), (38, .iconst 3, 1, []), (39, .invokevirtual 327, 3, [0, 137, 1191, 1194, 84, 1193, 24]), (42, .goto 53, 3, []), (45, .iload_n 2, 1, []), (46, .bipush 7, 2, []), (48, .if_icmp .ne 35, 3, []), (51, .aload_n 0, 1, []), (52, .iload_n 1, 1, []), (53, .lload 5, 2, []), (55, .invokevirtual 337, 3, [0, 181, 1374, 1377, 84, 1376, 55]), (58, .ifCond .eq 25, 3, []), (61, .aload_n 0, 1, []), (62, .getfield 165, 3, [1041, 11, 55]), (65, .iload_n 1, 1, []), (66, .aload_n 0, 1, []), (67, .getfield 177, 3, [1048, 11, 62]), (70, .bipush 16, 2, []), (72, .iaload, 1, []), (73, .iastore, 1, []), (74, .aload_n 0, 1, []), (75, .iload_n 1, 1, []), (76, .iconst 0, 1, []), (77, .invokevirtual 321, 3, [0, 136, 1187, 1190, 84, 1189, 23]), (80, .goto 15, 3, []), (83, .iload_n 2, 1, []), (84, .bipush 7, 2, []), (86, .if_icmp .eq 9, 3, []), (89, .aload_n 0, 1, []), (90, .iload_n 1, 1, []), (91, .iconst 2, 1, []), (92, .invokevirtual 314, 3, [0, 158, 1273, 1276, 84, 1275, 36]), (95, .return_, 1, [])]
def ft_c181 : List (Nat × ft_I) := [(0, .lload_n 2, 1, []), (1, .aload_n 0, 1, []), (2, .getfield 32, 3, [997, 11, 11]), (5, .iload_n 1, 1, []), (6, .laload, 1, []), (7, .invokestatic 256, 3, [0, 142, 1211, 1213, 84, 1212]), (10, .ifCond .ne 36, 3, []), (13, .aload_n 0, 1, []), (14, .getfield 28, 3, [996, 11, 10]), (17, .iload_n 1, 1, []), (18, .laload, 1, []), (19, .lconst 1, 1, []), (20, .lsub, 1, []), (21, .lload_n 2, 1, []), (22, .lsub, 1, []), (23, .invokestatic 187, 3, [0, 132, 975, 977, 84, 976]), (26, .aload_n 0, 1, []), (27, .getfield 60, 3, [1006, 11, 20]), (30, .iload_n 1, 1, []), (31, .iconst 0, 1, []), (32, .iconst 1, 1, []), (33, .invokestatic 209, 3, [0, 134, 983, 985, 84, 984]), (36, .iaload, 1, []), (37, .i2l, 1, []), (38, .lcmp, 1, []), (39, .ifCond .ge 7, 3, []), (42, .iconst 1, 1, []), (43, .goto 4, 3, []), (46, .iconst 0, 1, []), (47, .ireturn, 1, [])]
def ft_c182_0 : List (Nat × ft_I) := [(0, .aload_n 0, 1, []), (1, .iload_n 1, 1, []), (2, .lload_n 3, 1, []), (3, .invokevirtual 340, 3, [0, 183, 1382, 1385, 84, 1384, 57]), (6, .ifCond .eq 20, 3, []), (9, .iload_n 2, 1, []), (10, .invokestatic 269, 3, [0, 147, 1229, 1231, 84, 1230]), (13, .ifCond .eq 48, 3, []), (16, .aload_n 0, 1, []), (17, .iload_n 1, 1, []), (18, .lload 5, 2, []), (20, .invokevirtual 337, 3, [0, 181, 1374, 1377, 84, 1376, 55]), (23, .ifCond .ne 38, 3, []), (26, .aload_n 0, 1, []), (27, .getfield 156, 3, [1038, 11, 52]), (30, .iload_n 1, 1, []), (31, .dup2, 1, []), (32, .iaload, 1, []), (33, .iconst 1, 1, []), (34, .iadd, 1, []), (35, .iastore, 1, []), (36, .iload_n 2, 1, []), (37, .bipush 7, 2, []), (39, .if_icmp .eq 21, 3, []), (42, .iload_n 2, 1, []), (43, .bipush 8, 2, []), (45, .if_icmp .eq 15, 3, []), (48, .iload_n 2, 1, []), (49, .bipush 9, 2, []), (51, .if_icmp .eq 9, 3, []), (54, .aload_n 0, 1, []), (55, .iload_n 1, 1, []), (56, .lload_n 3, 1, []), (57, .invokevirtual 343, 3, [0, 184, 1386, 1389, 84, 1388, 58]), (60, .return_, 1, []), (61, .iload_n 2, 1, []), (62, .iconst 1, 1, []), (63, .if_icmp .ne 20, 3, []), (66, .aload_n 0, 1, []), (67, .getfield 25, 3, [995, 11, 9]), (70, .iload_n 1, 1, []), (71, .iaload, 1, []), (72, .iconst 4, 1, []), (73, .if_icmp .ne 10, 3, []), (76, .aload_n 0, 1, []), (77, .iload_n 1, 1, []), (78, .iconst 3, 1, []), (79, .invokevirtual 327, 3, [0, 137, 1191, 1194, 84, 1193, 24]), (82, .return_, 1, []), (83, .iload_n 2, 1, []), (84, .iconst 1, 1, []), (85, .if_icmp .eq 27, 3, []), (88, .iload_n 2, 1, []), (89, .ifCond .ne 13, 3, []), (92, .aload_n 0, 1, []), (93, .getfield 25, 3, [995, 11, 9]), (96, .iload_n 1, 1, []), (97, .iaload, 1, []), (98, .iconst 3, 1, []), (99, .if_icmp .ne 13, 3, [])]
def ft_c182_1 : List (Nat × ft_I) := [(102, .iload_n 2, 1, []), (103, .iconst 5, 1, []), (104, .if_icmp .ne 15, 3, []), (107, .iload_n 1, 1, []), (108, .iconst 1, 1, []), (109, .if_icmp .ne 10, 3, []), (112, .aload_n 0, 1, []), (113, .iload_n 1, 1, []), (114, .lload_n 3, 1, []), (115, .invokevirtual 343, 3, [0, 184, 1386, 1389, 84, 1388, 58]), (118, .return_, 1, []), (119, .lload_n 3, 1, []), (120, .aload_n 0, 1, []), (121, .getfield 39, 3, [999, 11, 13]), (124, .iload_n 1, 1, []), (125, .laload, 1, []), (126, .invokestatic 203, 3, [0, 143, 1214, 1216, 84, 1215]), (129, .ifCond .ne 7, 3, []), (132, .iconst 1, 1, []), (133, .goto 4, 3, []), (136, .iconst 0, 1, []), (137, .istore 7, 2, []), (139, .iload 7, 2, []), (141, .ifCond .eq 27, 3, []), (144, .aload_n 0, 1, []), (145, .getfield 48, 3, [1002, 11, 16]), (148, .iload_n 1, 1, []), (149, .lload_n 3, 1, []), (150, .invokestatic 252, 3, [0, 144, 1218, 1220, 84, 1219]), (153, .baload, 1, [1]), (154, .ifCond .eq 14, 3, []), (157, .aload_n 0, 1, []), (158, .getfield 159, 3, [1039, 11, 53]), (161, .iload_n 1, 1, []), (162, .dup2, 1, []), (163, .iaload, 1, []), (164, .iconst 1, 1, []), (165, .iadd, 1, []), (166, .iastore, 1, []), (167, .return_, 1, []), (168, .iload 7, 2, []), (170, .ifCond .ne 50, 3, []), (173, .aload_n 0, 1, []), (174, .getfield 39, 3, [999, 11, 13]), (177, .iload_n 1, 1, []), (178, .laload, 1, []), (179, .lload_n 3, 1, []), (180, .lcmp, 1, []), (181, .ifCond .eq 39, 3, []), (184, .aload_n 0, 1, []), (185, .getfield 39, 3, [999, 11, 13]), (188, .iload_n 1, 1, []), (189, .aload_n 0, 1, []), (190, .getfield 39, 3, [999, 11, 13]), (193, .iload_n 1, 1, []), (194, .laload, 1, []), (195, .lconst 1, 1, []), (196, .ladd, 1, []), (197, .invokestatic 187, 3, [0, 132, 975, 977, 84, 976]), (200, .lastore, 1, [])]
def ft_c182_2 : List (Nat × ft_I) := [(201, .aload_n 0, 1, []), (202, .getfield 48, 3, [1002, 11, 16]), (205, .iload_n 1, 1, []), (206, .aload_n 0, 1, []), (207, .getfield 39, 3, [999, 11, 13]), (210, .iload_n 1, 1, []), (211, .laload, 1, []), (212, .invokestatic 252, 3, [0, 144, 1218, 1220, 84, 1219]), (215, .iconst 0, 1, []), (216, .bastore, 1, [1]), (217, .goto (-44), 3, []), (220, .aload_n 0, 1, []), (221, .getfield 48, 3, [1002, 11, 16]), (224, .iload_n 1, 1, []), (225, .lload_n 3, 1, []), (226, .invokestatic 252, 3, [0, 144, 1218, 1220, 84, 1219]), (229, .iconst 1, 1, []), (230, .bastore, 1, [1]), (231, .iload_n 2, 1, []), (232, .iconst 2, 1, []), (233, .if_icmp .eq 13, 3, []), (236, .aload_n 0, 1, []), (237, .iload_n 1, 1, []), (238, .lload_n 3, 1, []), (239, .invokevirtual 324, 3, [0, 172, 1335, 1338, 84, 1337, 46]), (242, .ifCond .ne 4, 3, []), (245, .return_, 1, []), (246, .iload_n 2, 1, []), (247, .invokestatic 269, 3, [0, 147, 1229, 1231, 84, 1230]), (250, .ifCond .eq 22, 3, []), (253, .iload_n 2, 1, []), (254, .bipush 8, 2, []), (256, .if_icmp .eq 16, 3, []), (259, .iload_n 2, 1, []), (260, .bipush 9, 2, []), (262, .if_icmp .eq 10, 3, []), (265, .aload_n 0, 1, []), (266, .iload_n 1, 1, []), (267, .lload 5, 2, []), (269, .invokevirtual 346, 3, [0, 185, 1390, 1393, 84, 1392, 59]), (272, .aload_n 0, 1, []), (273, .getfield 25, 3, [995, 11, 9]), (276, .iload_n 1, 1, []), (277, .iaload, 1, []), (278, .iconst 3, 1, []), (279, .if_icmp .ne 7, 3, []), (282, .iload_n 2, 1, []), (283, .ifCond .ne 19, 3, []), (286, .aload_n 0, 1, []), (287, .getfield 25, 3, [995, 11, 9]), (290, .iload_n 1, 1, []), (291, .iaload, 1, []), (292, .iconst 4, 1, []), (293, .if_icmp .ne 15, 3, []), (296, .iload_n 2, 1, []), (297, .bipush 8, 2, []), (299, .if_icmp .eq 9, 3, []), (302, .aload_n 0, 1, []), (303, .iload_n 1, 1, []), (304, .iconst 5, 1, [])]
def ft_c182_3 : List (Nat × ft_I) := [(305, .invokevirtual 321, 3, [0, 136, 1187, 1190, 84, 1189, 23]), (308, .iload_n 2, 1, []), (309, .iconst 2, 1, []), (310, .if_icmp .eq 8, 3, []), (313, .iload_n 2, 1, []), (314, .iconst 4, 1, []), (315, .if_icmp .ne 39, 3, []), (318, .aload_n 0, 1, []), (319, .getfield 25, 3, [995, 11, 9]), (322, .iload_n 1, 1, []), (323, .iaload, 1, []), (324, .i2l, 1, []), (325, .ldc2_w 349, 3, [1287, 4]), (328, .ldc2_w 351, 3, [1348, 7]), (331, .invokestatic 199, 3, [0, 141, 1208, 1210, 84, 1209]), (334, .ifCond .eq 20, 3, []), (337, .aload_n 0, 1, []), (338, .iload_n 1, 1, []), (339, .aload_n 0, 1, []), (340, .iload_n 2, 1, []), (341, .invokevirtual 303, 3, [0, 169, 1323, 1326, 84, 1325, 43]), (344, .aload_n 0, 1, []), (345, .getfield 177, 3, [1048, 11, 62]), (348, .iconst 1, 1, []), (349, .iaload, 1, []), (350, .iadd, 1, []), (351, .invokevirtual 353, 3, [0, 188, 1402, 1405, 84, 1404, 62]), (354, .iload_n 2, 1, []), (355, .tableswitch 136 0 8 #[49, 136, 136, 136, 136, 58, 86, 101, 124], 49, []), (404, .aload_n 0, 1, []), (405, .iload_n 1, 1, []), (406, .iconst 1, 1, []), (407, .invokevirtual 327, 3, [0, 137, 1191, 1194, 84, 1193, 24]), (410, .goto 81, 3, []), (413, .aload_n 0, 1, []), (414, .getfield 25, 3, [995, 11, 9]), (417, .iload_n 1, 1, []), (418, .iaload, 1, []), (419, .bipush 7, 2, []), (421, .if_icmp .eq 70, 3, []), (424, .aload_n 0, 1, []), (425, .iload_n 1, 1, []), (426, .bipush 7, 2, []), (428, .invokevirtual 321, 3, [0, 136, 1187, 1190, 84, 1189, 23]), (431, .aload_n 0, 1, []), (432, .iload_n 1, 1, []), (433, .bipush 6, 2, []), (435, .invokevirtual 327, 3, [0, 137, 1191, 1194, 84, 1193, 24]), (438, .goto 53, 3, []), (441, .aload_n 0, 1, []), (442, .iload_n 1, 1, []), (443, .iconst 0, 1, []), (444, .invokevirtual 314, 3, [0, 158, 1273, 1276, 84, 1275, 36]), (447, .aload_n 0, 1, []), (448, .iload_n 1, 1, []), (449, .iconst 0, 1, []), (450, .invokevirtual 321, 3, [0, 136, 1187, 1190, 84, 1189, 23]), (453, .goto 38, 3, []), (456, .aload_n 0, 1, []), (457, .getfield 165, 3, [1041, 11, 55])]
def ft_c182_4 : List (Nat × ft_I) := [(460, .iload_n 1, 1, []), (461, .aload_n 0, 1, []), (462, .getfield 177, 3, [1048, 11, 62]), (465, .bipush 16, 2, []), (467, .iaload, 1, []), (468, .iastore, 1, []), (469, .aload_n 0, 1, []), (470, .iload_n 1, 1, []), (471, .bipush 8, 2, []), (473, .invokevirtual 321, 3, [0, 136, 1187, 1190, 84, 1189, 23]), (476, .goto 15, 3, []), (479, .aload_n 0, 1, []), (480, .iload_n 1, 1, []), (481, .bipush 9, 2, []), (483, .iconst 0, 1, []), (484, .lload_n 3, 1, []), (485, .invokevirtual 292, 3, [0, 138, 1195, 1198, 84, 1197, 25]), (488, .goto 3, 3, []), (491, .return_, 1, [])]
def ft_c182 : List (Nat × ft_I) := ft_c182_0 ++ (ft_c182_1 ++ (ft_c182_2 ++ (ft_c182_3 ++ (ft_c182_4))))
def ft_c183 : List (Nat × ft_I) := [(0, .aload_n 0, 1, []), (1, .getfield 60, 3, [1006, 11, 20]), (4, .iload_n 1, 1, []), (5, .iconst 1, 1, []), (6, .iconst 1, 1, []), (7, .invokestatic 209, 3, [0, 134, 983, 985, 84, 984]), (10, .iaload, 1, []), (11, .istore 4, 2, []), (13, .lload_n 2, 1, []), (14, .aload_n 0, 1, []), (15, .getfield 42, 3, [1000, 11, 14]), (18, .iload_n 1, 1, []), (19, .laload, 1, []), (20, .invokestatic 256, 3, [0, 142, 1211, 1213, 84, 1212]), (23, .ifCond .ne 36, 3, []), (26, .lload_n 2, 1, []), (27, .aload_n 0, 1, []), (28, .getfield 39, 3, [999, 11, 13]), (31, .iload_n 1, 1, []), (32, .laload, 1, []), (33, .lconst 1, 1, []), (34, .ladd, 1, []), (35, .iload 4, 2, []), (37, .iconst 4, 1, []), (38, .idiv, 1, []), (39, .i2l, 1, []), (40, .lsub, 1, []), (41, .invokestatic 187, 3, [0, 132, 975, 977, 84, 976]), (44, .lsub, 1, []), (45, .invokestatic 187, 3, [0, 132, 975, 977, 84, 976]), (48, .iload 4, 2, []), (50, .i2l, 1, []), (51, .lcmp, 1, []), (52, .ifCond .ge 7, 3, []), (55, .iconst 1, 1, []), (56, .goto 4, 3, []), (59, .iconst 0, 1, []), (60, .ireturn, 1, [])]
def ft_c184 : List (Nat × ft_I) := [(0, .aload_n 0, 1, []), (1, .getfield 135, 3, [1031, 11, 45]), (4, .iload_n 1, 1, []), (5, .iaload, 1, []), (6, .aload_n 0, 1, []), (7, .getfield 213, 3, [987, 11, 1]), (10, .if_icmp .eq 22, 3, []), (13, .aload_n 0, 1, []), (14, .getfield 135, 3, [1031, 11, 45]), (17, .iload_n 1, 1, []), (18, .aload_n 0, 1, []), (19, .getfield 213, 3, [987, 11, 1]), (22, .iastore, 1, []), (23, .aload_n 0, 1, []), (24, .iload_n 1, 1, []), (25, .bipush 8, 2, []), (27, .iconst 0, 1, []), (28, .lload_n 2, 1, []), (29, .invokevirtual 292, 3, [0, 138, 1195, 1198, 84, 1197, 25]), (32, .return_, 1, [])]
def ft_c185_0 : List (Nat × ft_I) := [(0, .iconst 0, 1, []), (1, .istore 4, 2, []), (3, .iload 4, 2, []), (5, .sipush 256, 3, []), (8, .if_icmp .ge 17, 3, []), (11, .aload_n 0, 1, []), (12, .getfield 180, 3, [1050, 11, 64]), (15, .iload 4, 2, []), (17, .iconst 0, 1, []), (18, .bastore, 1, [1]), (19, .iinc 4 1, 3, []), (22, .goto (-19), 3, []), (25, .aload_n 0, 1, []), (26, .getfield 180, 3, [1050, 11, 64]), (29, .iconst 0, 1, []), (30, .iconst 1, 1, []), (31, .bastore, 1, [1]), (32, .aload_n 0, 1, []), (33, .aload_n 0, 1, []), (34, .getfield 177, 3, [1048, 11, 62]), (37, .iconst 0, 1, []), (38, .iaload, 1, []), (39, .invokevirtual 303, 3, [0, 169, 1323, 1326, 84, 1325, 43]), (42, .istore 4, 2, []), (44, .iload 4, 2, []), (46, .aload_n 0, 1, []), (47, .getfield 177, 3, [1048, 11, 62]), (50, .iconst 1, 1, []), (51, .iaload, 1, []), (52, .iadd, 1, []), (53, .istore 5, 2, []), (55, .iload 4, 2, []), (57, .iload 5, 2, []), (59, .if_icmp .ge 139, 3, []), (62, .aload_n 0, 1, []), (63, .getfield 177, 3, [1048, 11, 62]), (66, .iload 4, 2, []), (68, .iaload, 1, []), (69, .iconst 2, 1, []), (70, .if_icmp .ge 9, 3, []), (73, .iinc 4 1, 3, []), (76, .goto (-21), 3, []), (79, .aload_n 0, 1, []), (80, .getfield 177, 3, [1048, 11, 62]), (83, .iload 4, 2, []), (85, .iconst 1, 1, []), (86, .iadd, 1, []), (87, .iaload, 1, []), (88, .istore 6, 2, []), (90, .aload_n 0, 1, []), (91, .getfield 177, 3, [1048, 11, 62]), (94, .iload 4, 2, []), (96, .iaload, 1, []), (97, .bipush 6, 2, []), (99, .if_icmp .ne 89, 3, []), (102, .iconst 0, 1, []), (103, .istore 7, 2, []), (105, .iconst 2, 1, []), (106, .istore 8, 2, []), (108, .iload 8, 2, [])]
def ft_c185_1 : List (Nat × ft_I) := [(110, .iload 6, 2, []), (112, .if_icmp .ge 76, 3, []), (115, .aload_n 0, 1, []), (116, .getfield 177, 3, [1048, 11, 62]), (119, .iload 4, 2, []), (121, .iload 8, 2, []), (123, .iadd, 1, []), (124, .iaload, 1, []), (125, .bipush 63, 2, []), (127, .iand, 1, []), (128, .iconst 1, 1, []), (129, .iadd, 1, []), (130, .istore 9, 2, []), (132, .iconst 0, 1, []), (133, .istore 10, 2, []), (135, .iload 10, 2, []), (137, .iload 9, 2, []), (139, .if_icmp .ge 43, 3, []), (142, .iload 7, 2, []), (144, .sipush 256, 3, []), (147, .if_icmp .ge 26, 3, []), (150, .aload_n 0, 1, []), (151, .getfield 177, 3, [1048, 11, 62]), (154, .iload 4, 2, []), (156, .iload 8, 2, []), (158, .iadd, 1, []), (159, .iaload, 1, []), (160, .bipush 64, 2, []), (162, .if_icmp .ge 11, 3, []), (165, .aload_n 0, 1, []), (166, .getfield 180, 3, [1050, 11, 64]), (169, .iload 7, 2, []), (171, .iconst 1, 1, []), (172, .bastore, 1, [1]), (173, .iinc 7 1, 3, []), (176, .iinc 10 1, 3, []), (179, .goto (-44), 3, []), (182, .iinc 8 1, 3, []), (185, .goto (-77), 3, []), (188, .iload 4, 2, []), (190, .iload 6, 2, []), (192, .iadd, 1, []), (193, .istore 4, 2, []), (195, .goto (-140), 3, []), (198, .iconst 0, 1, []), (199, .istore 6, 2, []), (201, .iload 6, 2, []), (203, .sipush 256, 3, []), (206, .if_icmp .ge 46, 3, []), (209, .lload_n 2, 1, []), (210, .iload 6, 2, []), (212, .i2l, 1, []), (213, .lsub, 1, []), (214, .invokestatic 187, 3, [0, 132, 975, 977, 84, 976]), (217, .lstore 7, 2, []), (219, .aload_n 0, 1, []), (220, .getfield 180, 3, [1050, 11, 64]), (223, .iload 6, 2, []), (225, .baload, 1, [1]), (226, .ifCond .eq 20, 3, [])]
def ft_c185_2 : List (Nat × ft_I) := [(229, .aload_n 0, 1, []), (230, .iload_n 1, 1, []), (231, .lload 7, 2, []), (233, .invokevirtual 297, 3, [0, 140, 1203, 1206, 84, 1205, 27]), (236, .ifCond .eq 10, 3, []), (239, .aload_n 0, 1, []), (240, .iload_n 1, 1, []), (241, .lload 7, 2, []), (243, .invokevirtual 386, 3, [0, 186, 1394, 1397, 84, 1396, 60]), (246, .iinc 6 1, 3, []), (249, .goto (-48), 3, []), (252, .aload_n 0, 1, []), (253, .iload_n 1, 1, []), (254, .invokevirtual 389, 3, [0, 187, 1398, 1401, 84, 1400, 61]), (257, .return_, 1, [])]
def ft_c185 : List (Nat × ft_I) := ft_c185_0 ++ (ft_c185_1 ++ (ft_c185_2))
def ft_c186_0 : List (Nat × ft_I) := [(0, .iload_n 1, 1, []), (1, .lload_n 2, 1, []), (2, .invokestatic 252, 3, [0, 144, 1218, 1220, 84, 1219]), (5, .istore 4, 2, []), (7, .aload_n 0, 1, []), (8, .getfield 54, 3, [1004, 11, 18]), (11, .iload 4, 2, []), (13, .baload, 1, [1]), (14, .ifCond .eq 45, 3, []), (17, .aload_n 0, 1, []), (18, .getfield 57, 3, [1005, 11, 19]), (21, .iload 4, 2, []), (23, .laload, 1, []), (24, .lconst 1, 1, []), (25, .ladd, 1, []), (26, .invokestatic 187, 3, [0, 132, 975, 977, 84, 976]), (29, .aload_n 0, 1, []), (30, .getfield 45, 3, [1001, 11, 15]), (33, .iload_n 1, 1, []), (34, .laload, 1, []), (35, .invokestatic 203, 3, [0, 143, 1214, 1216, 84, 1215]), (38, .ifCond .eq 21, 3, []), (41, .aload_n 0, 1, []), (42, .getfield 45, 3, [1001, 11, 15]), (45, .iload_n 1, 1, []), (46, .aload_n 0, 1, []), (47, .getfield 57, 3, [1005, 11, 19]), (50, .iload 4, 2, []), (52, .laload, 1, []), (53, .lconst 1, 1, []), (54, .ladd, 1, []), (55, .invokestatic 187, 3, [0, 132, 975, 977, 84, 976]), (58, .lastore, 1, []), (59, .aload_n 0, 1, []), (60, .getfield 51, 3, [1003, 11, 17]), (63, .iload 4, 2, []), (65, .iaload, 1, []), (66, .iconst 3, 1, []), (67, .if_icmp .ne 14, 3, []), (70, .aload_n 0, 1, []), (71, .getfield 51, 3, [1003, 11, 17]), (74, .iload 4, 2, []), (76, .iconst 2, 1, []), (77, .iastore, 1, []), (78, .goto 138, 3, []), (81, .aload_n 0, 1, []), (82, .getfield 51, 3, [1003, 11, 17]), (85, .iload 4, 2, []), (87, .iaload, 1, []), (88, .iconst 1, 1, []), (89, .if_icmp .ne 127, 3, []), (92, .aload_n 0, 1, []), (93, .getfield 51, 3, [1003, 11, 17]), (96, .iload 4, 2, []), (98, .iconst 2, 1, []), (99, .iastore, 1, []), (100, .aload_n 0, 1, []), (101, .getfield 102, 3, [1020, 11, 34]), (104, .iload_n 1, 1, []), (105, .iaload, 1, [])]
def ft_c186_1 : List (Nat × ft_I) := [(106, .aload_n 0, 1, []), (107, .getfield 105, 3, [1021, 11, 35]), (110, .iload_n 1, 1, []), (111, .iaload, 1, []), (112, .if_icmp .ge 16, 3, []), (115, .aload_n 0, 1, []), (116, .getfield 102, 3, [1020, 11, 34]), (119, .iload_n 1, 1, []), (120, .dup2, 1, []), (121, .iaload, 1, []), (122, .iconst 1, 1, []), (123, .iadd, 1, []), (124, .iastore, 1, []), (125, .goto 45, 3, []), (128, .aload_n 0, 1, []), (129, .getfield 111, 3, [1023, 11, 37]), (132, .iload_n 1, 1, []), (133, .dup2, 1, []), (134, .iaload, 1, []), (135, .iconst 1, 1, []), (136, .iadd, 1, []), (137, .iastore, 1, []), (138, .aload_n 0, 1, []), (139, .getfield 111, 3, [1023, 11, 37]), (142, .iload_n 1, 1, []), (143, .iaload, 1, []), (144, .aload_n 0, 1, []), (145, .getfield 102, 3, [1020, 11, 34]), (148, .iload_n 1, 1, []), (149, .iaload, 1, []), (150, .if_icmp .ne 20, 3, []), (153, .aload_n 0, 1, []), (154, .getfield 102, 3, [1020, 11, 34]), (157, .iload_n 1, 1, []), (158, .dup2, 1, []), (159, .iaload, 1, []), (160, .iconst 1, 1, []), (161, .iadd, 1, []), (162, .iastore, 1, []), (163, .aload_n 0, 1, []), (164, .getfield 111, 3, [1023, 11, 37]), (167, .iload_n 1, 1, []), (168, .iconst 0, 1, []), (169, .iastore, 1, []), (170, .aload_n 0, 1, []), (171, .getfield 102, 3, [1020, 11, 34]), (174, .iload_n 1, 1, []), (175, .aload_n 0, 1, []), (176, .getfield 102, 3, [1020, 11, 34]), (179, .iload_n 1, 1, []), (180, .iaload, 1, []), (181, .bipush 60, 2, []), (183, .if_icmp .le 8, 3, []), (186, .bipush 60, 2, []), (188, .goto 9, 3, []), (191, .aload_n 0, 1, []), (192, .getfield 102, 3, [1020, 11, 34]), (195, .iload_n 1, 1, []), (196, .iaload, 1, []), (197, .iastore, 1, [])]
def ft_c186_2 : List (Nat × ft_I) := [(198, .aload_n 0, 1, []), (199, .getfield 108, 3, [1022, 11, 36]), (202, .iload_n 1, 1, []), (203, .bipush 8, 2, []), (205, .iastore, 1, []), (206, .aload_n 0, 1, []), (207, .getfield 120, 3, [1026, 11, 40]), (210, .iload_n 1, 1, []), (211, .aload_n 0, 1, []), (212, .getfield 213, 3, [987, 11, 1]), (215, .iastore, 1, []), (216, .return_, 1, [])]
def ft_c186 : List (Nat × ft_I) := ft_c186_0 ++ (ft_c186_1 ++ (ft_c186_2))
def ft_c187_0 : List (Nat × ft_I) := [(0, .sipush 255, 3, []), (3, .istore_n 2, 1, []), (4, .iload_n 2, 1, []), (5, .ifCond .le 230, 3, []), (8, .aload_n 0, 1, []), (9, .getfield 28, 3, [996, 11, 10]), (12, .iload_n 1, 1, []), (13, .laload, 1, []), (14, .iload_n 2, 1, []), (15, .i2l, 1, []), (16, .lsub, 1, []), (17, .invokestatic 187, 3, [0, 132, 975, 977, 84, 976]), (20, .lstore_n 3, 1, []), (21, .aload_n 0, 1, []), (22, .iload_n 1, 1, []), (23, .lload_n 3, 1, []), (24, .invokevirtual 297, 3, [0, 140, 1203, 1206, 84, 1205, 27]), (27, .ifCond .eq 202, 3, []), (30, .aload_n 0, 1, []), (31, .getfield 51, 3, [1003, 11, 17]), (34, .iload_n 1, 1, []), (35, .lload_n 3, 1, []), (36, .invokestatic 252, 3, [0, 144, 1218, 1220, 84, 1219]), (39, .iaload, 1, []), (40, .iconst 1, 1, []), (41, .if_icmp .ne 188, 3, []), (44, .iconst 0, 1, []), (45, .istore 5, 2, []), (47, .iload_n 2, 1, []), (48, .iconst 1, 1, []), (49, .isub, 1, []), (50, .istore 6, 2, []), (52, .iload 6, 2, []), (54, .ifCond .le 59, 3, []), (57, .aload_n 0, 1, []), (58, .getfield 28, 3, [996, 11, 10]), (61, .iload_n 1, 1, []), (62, .laload, 1, []), (63, .iload 6, 2, []), (65, .i2l, 1, []), (66, .lsub, 1, []), (67, .invokestatic 187, 3, [0, 132, 975, 977, 84, 976]), (70, .lstore 7, 2, []), (72, .iload 5, 2, []), (74, .aload_n 0, 1, []), (75, .iload_n 1, 1, []), (76, .lload 7, 2, []), (78, .invokevirtual 297, 3, [0, 140, 1203, 1206, 84, 1205, 27]), (81, .ifCond .eq 22, 3, []), (84, .aload_n 0, 1, []), (85, .getfield 51, 3, [1003, 11, 17]), (88, .iload_n 1, 1, []), (89, .lload 7, 2, []), (91, .invokestatic 252, 3, [0, 144, 1218, 1220, 84, 1219]), (94, .iaload, 1, []), (95, .iconst 2, 1, []), (96, .if_icmp .ne 7, 3, []), (99, .iconst 1, 1, []), (100, .goto 4, 3, []), (103, .iconst 0, 1, [])]
def ft_c187_1 : List (Nat × ft_I) := [(104, .iadd, 1, []), (105, .istore 5, 2, []), (107, .iinc 6 (-1), 3, []), (110, .goto (-58), 3, []), (113, .iload 5, 2, []), (115, .iconst 3, 1, []), (116, .if_icmp .lt 113, 3, []), (119, .aload_n 0, 1, []), (120, .getfield 51, 3, [1003, 11, 17]), (123, .iload_n 1, 1, []), (124, .lload_n 3, 1, []), (125, .invokestatic 252, 3, [0, 144, 1218, 1220, 84, 1219]), (128, .iconst 3, 1, []), (129, .iastore, 1, []), (130, .aload_n 0, 1, []), (131, .getfield 114, 3, [1024, 11, 38]), (134, .iload_n 1, 1, []), (135, .baload, 1, [1]), (136, .ifCond .eq 16, 3, []), (139, .lload_n 3, 1, []), (140, .aload_n 0, 1, []), (141, .getfield 117, 3, [1025, 11, 39]), (144, .iload_n 1, 1, []), (145, .laload, 1, []), (146, .invokestatic 203, 3, [0, 143, 1214, 1216, 84, 1215]), (149, .ifCond .eq 80, 3, []), (152, .aload_n 0, 1, []), (153, .getfield 102, 3, [1020, 11, 34]), (156, .iload_n 1, 1, []), (157, .iaload, 1, []), (158, .iconst 2, 1, []), (159, .idiv, 1, []), (160, .istore 6, 2, []), (162, .aload_n 0, 1, []), (163, .getfield 105, 3, [1021, 11, 35]), (166, .iload_n 1, 1, []), (167, .iload 6, 2, []), (169, .iconst 2, 1, []), (170, .if_icmp .ge 7, 3, []), (173, .iconst 2, 1, []), (174, .goto 5, 3, []), (177, .iload 6, 2, []), (179, .iastore, 1, []), (180, .aload_n 0, 1, []), (181, .getfield 102, 3, [1020, 11, 34]), (184, .iload_n 1, 1, []), (185, .iload 6, 2, []), (187, .iconst 1, 1, []), (188, .if_icmp .ge 7, 3, []), (191, .iconst 1, 1, []), (192, .goto 5, 3, []), (195, .iload 6, 2, []), (197, .iastore, 1, []), (198, .aload_n 0, 1, []), (199, .getfield 111, 3, [1023, 11, 37]), (202, .iload_n 1, 1, []), (203, .iconst 0, 1, []), (204, .iastore, 1, []), (205, .aload_n 0, 1, []), (206, .getfield 114, 3, [1024, 11, 38])]
def ft_c187_2 : List (Nat × ft_I) := [(209, .iload_n 1, 1, []), (210, .iconst 1, 1, []), (211, .bastore, 1, [1]), (212, .aload_n 0, 1, []), (213, .getfield 117, 3, [1025, 11, 39]), (216, .iload_n 1, 1, []), (217, .aload_n 0, 1, []), (218, .getfield 28, 3, [996, 11, 10]), (221, .iload_n 1, 1, []), (222, .laload, 1, []), (223, .lconst 1, 1, []), (224, .lsub, 1, []), (225, .invokestatic 187, 3, [0, 132, 975, 977, 84, 976]), (228, .lastore, 1, []), (229, .iinc 2 (-1), 3, []), (232, .goto (-228), 3, []), (235, .return_, 1, [])]
def ft_c187 : List (Nat × ft_I) := ft_c187_0 ++ (ft_c187_1 ++ (ft_c187_2))
def ft_c188_0 : List (Nat × ft_I) := [(0, .bipush 40, 2, []), (2, .iload_n 1, 1, []), (3, .imul, 1, []), (4, .aload_n 0, 1, []), (5, .getfield 93, 3, [1017, 11, 31]), (8, .iload_n 1, 1, []), (9, .iaload, 1, []), (10, .bipush 40, 2, []), (12, .irem, 1, []), (13, .iadd, 1, []), (14, .istore_n 3, 1, []), (15, .aload_n 0, 1, []), (16, .getfield 96, 3, [1018, 11, 32]), (19, .iload_n 3, 1, []), (20, .aload_n 0, 1, []), (21, .getfield 300, 3, [1049, 11, 63]), (24, .iload_n 2, 1, []), (25, .isub, 1, []), (26, .iastore, 1, []), (27, .iload_n 2, 1, []), (28, .istore 4, 2, []), (30, .iload 4, 2, []), (32, .aload_n 0, 1, []), (33, .getfield 300, 3, [1049, 11, 63]), (36, .if_icmp .ge 30, 3, []), (39, .aload_n 0, 1, []), (40, .getfield 99, 3, [1019, 11, 33]), (43, .bipush 40, 2, []), (45, .iload_n 3, 1, []), (46, .imul, 1, []), (47, .iload 4, 2, []), (49, .iadd, 1, []), (50, .iload_n 2, 1, []), (51, .isub, 1, []), (52, .aload_n 0, 1, []), (53, .getfield 177, 3, [1048, 11, 62]), (56, .iload 4, 2, []), (58, .iaload, 1, []), (59, .iastore, 1, []), (60, .iinc 4 1, 3, []), (63, .goto (-33), 3, []), (66, .aload_n 0, 1, []), (67, .getfield 93, 3, [1017, 11, 31]), (70, .iload_n 1, 1, []), (71, .dup2, 1, []), (72, .iaload, 1, []), (73, .iconst 1, 1, []), (74, .iadd, 1, []), (75, .iastore, 1, []), (76, .aload_n 0, 1, []), (77, .getfield 144, 3, [1034, 11, 48]), (80, .iload_n 1, 1, []), (81, .iaload, 1, []), (82, .ifCond .ne 13, 3, []), (85, .aload_n 0, 1, []), (86, .getfield 141, 3, [1033, 11, 47]), (89, .iload_n 1, 1, []), (90, .aload_n 0, 1, []), (91, .getfield 213, 3, [987, 11, 1]), (94, .iastore, 1, [])]
def ft_c188_1 : List (Nat × ft_I) := [(95, .aload_n 0, 1, []), (96, .getfield 144, 3, [1034, 11, 48]), (99, .iload_n 1, 1, []), (100, .dup2, 1, []), (101, .iaload, 1, []), (102, .iconst 1, 1, []), (103, .iadd, 1, []), (104, .iastore, 1, []), (105, .return_, 1, [])]
def ft_c188 : List (Nat × ft_I) := ft_c188_0 ++ (ft_c188_1)
def ft_c189_0 : List (Nat × ft_I) := [(0, .aload_n 0, 1, []), (1, .iload_n 1, 1, []), (2, .invokevirtual 404, 3, [0, 190, 1410, 1413, 84, 1412, 64]), (5, .aload_n 0, 1, []), (6, .getfield 25, 3, [995, 11, 9]), (9, .iload_n 1, 1, []), (10, .iaload, 1, []), (11, .iconst 4, 1, []), (12, .if_icmp .eq 13, 3, []), (15, .aload_n 0, 1, []), (16, .getfield 25, 3, [995, 11, 9]), (19, .iload_n 1, 1, []), (20, .iaload, 1, []), (21, .iconst 5, 1, []), (22, .if_icmp .ne 113, 3, []), (25, .aload_n 0, 1, []), (26, .iload_n 1, 1, []), (27, .invokevirtual 407, 3, [0, 192, 1418, 1421, 84, 1420, 66]), (30, .iconst 0, 1, []), (31, .istore_n 2, 1, []), (32, .aload_n 0, 1, []), (33, .getfield 84, 3, [1014, 11, 28]), (36, .iload_n 1, 1, []), (37, .iaload, 1, []), (38, .ifCond .le 97, 3, []), (41, .iload_n 2, 1, []), (42, .iconst 4, 1, []), (43, .if_icmp .ge 92, 3, []), (46, .aload_n 0, 1, []), (47, .getfield 60, 3, [1006, 11, 20]), (50, .iload_n 1, 1, []), (51, .iconst 0, 1, []), (52, .iconst 4, 1, []), (53, .invokestatic 209, 3, [0, 134, 983, 985, 84, 984]), (56, .iaload, 1, []), (57, .iconst 1, 1, []), (58, .if_icmp .ne 20, 3, []), (61, .aload_n 0, 1, []), (62, .iload_n 1, 1, []), (63, .invokevirtual 261, 3, [0, 139, 1199, 1202, 84, 1201, 26]), (66, .aload_n 0, 1, []), (67, .getfield 102, 3, [1020, 11, 34]), (70, .iload_n 1, 1, []), (71, .iaload, 1, []), (72, .if_icmp .ge 63, 3, []), (75, .goto 8, 3, []), (78, .iload_n 2, 1, []), (79, .iconst 2, 1, []), (80, .if_icmp .ge 55, 3, []), (83, .aload_n 0, 1, []), (84, .getfield 25, 3, [995, 11, 9]), (87, .iload_n 1, 1, []), (88, .iaload, 1, []), (89, .iconst 4, 1, []), (90, .if_icmp .eq 19, 3, []), (93, .aload_n 0, 1, []), (94, .iload_n 1, 1, []), (95, .invokevirtual 410, 3, [0, 193, 1422, 1425, 84, 1424, 67]), (98, .ifCond .ne 11, 3, []), (101, .aload_n 0, 1, [])]
def ft_c189_1 : List (Nat × ft_I) := [(102, .iload_n 1, 1, []), (103, .invokevirtual 413, 3, [0, 194, 1426, 1429, 84, 1428, 68]), (106, .ifCond .eq 7, 3, []), (109, .iconst 1, 1, []), (110, .goto 4, 3, []), (113, .iconst 0, 1, []), (114, .istore_n 3, 1, []), (115, .aload_n 0, 1, []), (116, .iload_n 1, 1, []), (117, .iload_n 3, 1, []), (118, .ifCond .eq 7, 3, []), (121, .iconst 4, 1, []), (122, .goto 4, 3, []), (125, .iconst 2, 1, []), (126, .invokevirtual 327, 3, [0, 137, 1191, 1194, 84, 1193, 24]), (129, .iinc 2 1, 3, []), (132, .goto (-100), 3, []), (135, .aload_n 0, 1, []), (136, .getfield 25, 3, [995, 11, 9]), (139, .iload_n 1, 1, []), (140, .iaload, 1, []), (141, .i2l, 1, []), (142, .ldc2_w 349, 3, [1287, 4]), (145, .ldc2_w 351, 3, [1348, 7]), (148, .invokestatic 199, 3, [0, 141, 1208, 1210, 84, 1209]), (151, .ifCond .eq 25, 3, []), (154, .aload_n 0, 1, []), (155, .iload_n 1, 1, []), (156, .invokevirtual 410, 3, [0, 193, 1422, 1425, 84, 1424, 67]), (159, .ifCond .ne 11, 3, []), (162, .aload_n 0, 1, []), (163, .iload_n 1, 1, []), (164, .invokevirtual 413, 3, [0, 194, 1426, 1429, 84, 1428, 68]), (167, .ifCond .eq 9, 3, []), (170, .aload_n 0, 1, []), (171, .iload_n 1, 1, []), (172, .iconst 3, 1, []), (173, .invokevirtual 327, 3, [0, 137, 1191, 1194, 84, 1193, 24]), (176, .return_, 1, [])]
def ft_c189 : List (Nat × ft_I) := ft_c189_0 ++ (ft_c189_1)
def ft_c190_0 : List (Nat × ft_I) := [(0, .aload_n 0, 1, []), (1, .getfield 213, 3, [987, 11, 1]), (4, .aload_n 0, 1, []), (5, .getfield 123, 3, [1027, 11, 41]), (8, .iload_n 1, 1, []), (9, .iaload, 1, []), (10, .isub, 1, []), (11, .istore_n 2, 1, []), (12, .aload_n 0, 1, []), (13, .getfield 25, 3, [995, 11, 9]), (16, .iload_n 1, 1, []), (17, .iaload, 1, []), (18, .tableswitch 258 2 8 #[42, 129, 150, 258, 201, 201, 243], 42, []), (60, .aload_n 0, 1, []), (61, .getfield 126, 3, [1028, 11, 42]), (64, .iload_n 1, 1, []), (65, .iaload, 1, []), (66, .iconst 1, 1, []), (67, .if_icmp .ne 7, 3, []), (70, .iconst 4, 1, []), (71, .goto 50, 3, []), (74, .aload_n 0, 1, []), (75, .getfield 126, 3, [1028, 11, 42]), (78, .iload_n 1, 1, []), (79, .iaload, 1, []), (80, .iconst 2, 1, []), (81, .if_icmp .ne 8, 3, []), (84, .bipush 8, 2, []), (86, .goto 35, 3, []), (89, .aload_n 0, 1, []), (90, .getfield 126, 3, [1028, 11, 42]), (93, .iload_n 1, 1, []), (94, .iaload, 1, []), (95, .iconst 3, 1, []), (96, .if_icmp .ne 8, 3, []), (99, .bipush 16, 2, []), (101, .goto 20, 3, []), (104, .aload_n 0, 1, []), (105, .getfield 126, 3, [1028, 11, 42]), (108, .iload_n 1, 1, []), (109, .iaload, 1, []), (110, .iconst 4, 1, []), (111, .if_icmp .ne 8, 3, []), (114, .bipush 32, 2, []), (116, .goto 5, 3, []), (119, .bipush 64, 2, []), (121, .istore_n 3, 1, []), (122, .aload_n 0, 1, []), (123, .getfield 213, 3, [987, 11, 1]), (126, .aload_n 0, 1, []), (127, .getfield 129, 3, [1029, 11, 43]), (130, .iload_n 1, 1, []), (131, .iaload, 1, []), (132, .isub, 1, []), (133, .iload_n 3, 1, []), (134, .if_icmp .lt 142, 3, []), (137, .aload_n 0, 1, []), (138, .iload_n 1, 1, []), (139, .iconst 0, 1, []), (140, .iconst (-1), 1, [])]
def ft_c190_1 : List (Nat × ft_I) := [(141, .invokevirtual 416, 3, [0, 191, 1414, 1417, 84, 1416, 65]), (144, .goto 132, 3, []), (147, .iload_n 2, 1, []), (148, .bipush 40, 2, []), (150, .if_icmp .lt 126, 3, []), (153, .aload_n 0, 1, []), (154, .iload_n 1, 1, []), (155, .iconst 5, 1, []), (156, .invokevirtual 314, 3, [0, 158, 1273, 1276, 84, 1275, 36]), (159, .aload_n 0, 1, []), (160, .iload_n 1, 1, []), (161, .iconst 0, 1, []), (162, .invokevirtual 321, 3, [0, 136, 1187, 1190, 84, 1189, 23]), (165, .goto 111, 3, []), (168, .iload_n 2, 1, []), (169, .bipush 40, 2, []), (171, .if_icmp .lt 18, 3, []), (174, .aload_n 0, 1, []), (175, .iload_n 1, 1, []), (176, .iconst 5, 1, []), (177, .invokevirtual 314, 3, [0, 158, 1273, 1276, 84, 1275, 36]), (180, .aload_n 0, 1, []), (181, .iload_n 1, 1, []), (182, .iconst 0, 1, []), (183, .invokevirtual 321, 3, [0, 136, 1187, 1190, 84, 1189, 23]), (186, .goto 90, 3, []), (189, .iload_n 2, 1, []), (190, .ifCond .le 86, 3, []), (193, .iload_n 2, 1, []), (194, .iconst 4, 1, []), (195, .irem, 1, []), (196, .ifCond .ne 80, 3, []), (199, .aload_n 0, 1, []), (200, .getfield 135, 3, [1031, 11, 45]), (203, .iload_n 1, 1, []), (204, .aload_n 0, 1, []), (205, .getfield 213, 3, [987, 11, 1]), (208, .iastore, 1, []), (209, .aload_n 0, 1, []), (210, .iload_n 1, 1, []), (211, .bipush 8, 2, []), (213, .invokevirtual 327, 3, [0, 137, 1191, 1194, 84, 1193, 24]), (216, .goto 60, 3, []), (219, .aload_n 0, 1, []), (220, .getfield 213, 3, [987, 11, 1]), (223, .aload_n 0, 1, []), (224, .getfield 129, 3, [1029, 11, 43]), (227, .iload_n 1, 1, []), (228, .iaload, 1, []), (229, .isub, 1, []), (230, .bipush 6, 2, []), (232, .if_icmp .lt 44, 3, []), (235, .aload_n 0, 1, []), (236, .iload_n 1, 1, []), (237, .aload_n 0, 1, []), (238, .getfield 25, 3, [995, 11, 9]), (241, .iload_n 1, 1, []), (242, .iaload, 1, []), (243, .bipush 6, 2, []), (245, .if_icmp .ne 7, 3, [])]
def ft_c190_2 : List (Nat × ft_I) := [(248, .iconst 5, 1, []), (249, .goto 5, 3, []), (252, .bipush 6, 2, []), (254, .iconst 5, 1, []), (255, .invokevirtual 416, 3, [0, 191, 1414, 1417, 84, 1416, 65]), (258, .goto 18, 3, []), (261, .iload_n 2, 1, []), (262, .bipush 12, 2, []), (264, .if_icmp .lt 12, 3, []), (267, .aload_n 0, 1, []), (268, .iload_n 1, 1, []), (269, .iconst 0, 1, []), (270, .invokevirtual 321, 3, [0, 136, 1187, 1190, 84, 1189, 23]), (273, .goto 3, 3, []), (276, .return_, 1, [])]
def ft_c190 : List (Nat × ft_I) := ft_c190_0 ++ (ft_c190_1 ++ (ft_c190_2))
def ft_c191 : List (Nat × ft_I) := [(0, .aload_n 0, 1, []), (1, .getfield 126, 3, [1028, 11, 42]), (4, .iload_n 1, 1, []), (5, .iaload, 1, []), (6, .iconst 5, 1, []), (7, .if_icmp .ge 32, 3, []), (10, .aload_n 0, 1, []), (11, .getfield 126, 3, [1028, 11, 42]), (14, .iload_n 1, 1, []), (15, .dup2, 1, []), (16, .iaload, 1, []), (17, .iconst 1, 1, []), (18, .iadd, 1, []), (19, .iastore, 1, []), (20, .aload_n 0, 1, []), (21, .getfield 129, 3, [1029, 11, 43]), (24, .iload_n 1, 1, []), (25, .aload_n 0, 1, []), (26, .getfield 213, 3, [987, 11, 1]), (29, .iastore, 1, []), (30, .aload_n 0, 1, []), (31, .iload_n 1, 1, []), (32, .iload_n 2, 1, []), (33, .invokevirtual 327, 3, [0, 137, 1191, 1194, 84, 1193, 24]), (36, .goto 19, 3, []), (39, .iload_n 3, 1, []), (40, .ifCond .le 9, 3, []), (43, .aload_n 0, 1, []), (44, .iload_n 1, 1, []), (45, .iload_n 3, 1, []), (46, .invokevirtual 314, 3, [0, 158, 1273, 1276, 84, 1275, 36]), (49, .aload_n 0, 1, []), (50, .iload_n 1, 1, []), (51, .iconst 0, 1, []), (52, .invokevirtual 321, 3, [0, 136, 1187, 1190, 84, 1189, 23]), (55, .return_, 1, [])]
def ft_c192_0 : List (Nat × ft_I) := [(0, .aload_n 0, 1, []), (1, .iload_n 1, 1, []), (2, .invokevirtual 261, 3, [0, 139, 1199, 1202, 84, 1201, 26]), (5, .ifCond .eq 23, 3, []), (8, .aload_n 0, 1, []), (9, .getfield 213, 3, [987, 11, 1]), (12, .aload_n 0, 1, []), (13, .getfield 120, 3, [1026, 11, 40]), (16, .iload_n 1, 1, []), (17, .iaload, 1, []), (18, .isub, 1, []), (19, .aload_n 0, 1, []), (20, .getfield 108, 3, [1022, 11, 36]), (23, .iload_n 1, 1, []), (24, .iaload, 1, []), (25, .if_icmp .ge 4, 3, []), (28, .return_, 1, []), (29, .iconst 1, 1, []), (30, .istore_n 2, 1, []), (31, .iload_n 2, 1, []), (32, .sipush 256, 3, []), (35, .if_icmp .ge 56, 3, []), (38, .aload_n 0, 1, []), (39, .getfield 28, 3, [996, 11, 10]), (42, .iload_n 1, 1, []), (43, .laload, 1, []), (44, .iload_n 2, 1, []), (45, .i2l, 1, []), (46, .lsub, 1, []), (47, .invokestatic 187, 3, [0, 132, 975, 977, 84, 976]), (50, .lstore_n 3, 1, []), (51, .aload_n 0, 1, []), (52, .iload_n 1, 1, []), (53, .lload_n 3, 1, []), (54, .invokevirtual 297, 3, [0, 140, 1203, 1206, 84, 1205, 27]), (57, .ifCond .eq 28, 3, []), (60, .aload_n 0, 1, []), (61, .getfield 51, 3, [1003, 11, 17]), (64, .iload_n 1, 1, []), (65, .lload_n 3, 1, []), (66, .invokestatic 252, 3, [0, 144, 1218, 1220, 84, 1219]), (69, .iaload, 1, []), (70, .iconst 1, 1, []), (71, .if_icmp .ne 14, 3, []), (74, .aload_n 0, 1, []), (75, .getfield 51, 3, [1003, 11, 17]), (78, .iload_n 1, 1, []), (79, .lload_n 3, 1, []), (80, .invokestatic 252, 3, [0, 144, 1218, 1220, 84, 1219]), (83, .iconst 3, 1, []), (84, .iastore, 1, []), (85, .iinc 2 1, 3, []), (88, .goto (-57), 3, []), (91, .aload_n 0, 1, []), (92, .getfield 102, 3, [1020, 11, 34]), (95, .iload_n 1, 1, []), (96, .iaload, 1, []), (97, .iconst 2, 1, []), (98, .idiv, 1, []), (99, .istore_n 2, 1, [])]
def ft_c192_1 : List (Nat × ft_I) := [(100, .aload_n 0, 1, []), (101, .getfield 105, 3, [1021, 11, 35]), (104, .iload_n 1, 1, []), (105, .iload_n 2, 1, []), (106, .iconst 2, 1, []), (107, .if_icmp .ge 7, 3, []), (110, .iconst 2, 1, []), (111, .goto 4, 3, []), (114, .iload_n 2, 1, []), (115, .iastore, 1, []), (116, .aload_n 0, 1, []), (117, .getfield 102, 3, [1020, 11, 34]), (120, .iload_n 1, 1, []), (121, .iconst 1, 1, []), (122, .iastore, 1, []), (123, .aload_n 0, 1, []), (124, .getfield 111, 3, [1023, 11, 37]), (127, .iload_n 1, 1, []), (128, .iconst 0, 1, []), (129, .iastore, 1, []), (130, .aload_n 0, 1, []), (131, .getfield 114, 3, [1024, 11, 38]), (134, .iload_n 1, 1, []), (135, .iconst 1, 1, []), (136, .bastore, 1, [1]), (137, .aload_n 0, 1, []), (138, .getfield 117, 3, [1025, 11, 39]), (141, .iload_n 1, 1, []), (142, .aload_n 0, 1, []), (143, .getfield 28, 3, [996, 11, 10]), (146, .iload_n 1, 1, []), (147, .laload, 1, []), (148, .lconst 1, 1, []), (149, .lsub, 1, []), (150, .invokestatic 187, 3, [0, 132, 975, 977, 84, 976]), (153, .lastore, 1, []), (154, .aload_n 0, 1, []), (155, .getfield 108, 3, [1022, 11, 36]), (158, .iload_n 1, 1, []), (159, .iconst 2, 1, []), (160, .aload_n 0, 1, []), (161, .getfield 108, 3, [1022, 11, 36]), (164, .iload_n 1, 1, []), (165, .iaload, 1, []), (166, .imul, 1, []), (167, .bipush 64, 2, []), (169, .if_icmp .le 8, 3, []), (172, .bipush 64, 2, []), (174, .goto 11, 3, []), (177, .iconst 2, 1, []), (178, .aload_n 0, 1, []), (179, .getfield 108, 3, [1022, 11, 36]), (182, .iload_n 1, 1, []), (183, .iaload, 1, []), (184, .imul, 1, []), (185, .iastore, 1, []), (186, .aload_n 0, 1, []), (187, .getfield 120, 3, [1026, 11, 40]), (190, .iload_n 1, 1, []), (191, .aload_n 0, 1, [])]
def ft_c192_2 : List (Nat × ft_I) := [(192, .getfield 213, 3, [987, 11, 1]), (195, .iastore, 1, []), (196, .return_, 1, [])]
def ft_c192 : List (Nat × ft_I) := ft_c192_0 ++ (ft_c192_1 ++ (ft_c192_2))
def ft_c193 : List (Nat × ft_I) := [(0, .aload_n 0, 1, []), (1, .getfield 60, 3, [1006, 11, 20]), (4, .iload_n 1, 1, []), (5, .iconst 1, 1, []), (6, .iconst 2, 1, []), (7, .invokestatic 209, 3, [0, 134, 983, 985, 84, 984]), (10, .iaload, 1, []), (11, .istore_n 2, 1, []), (12, .aload_n 0, 1, []), (13, .getfield 144, 3, [1034, 11, 48]), (16, .iload_n 1, 1, []), (17, .iaload, 1, []), (18, .ifCond .le 32, 3, []), (21, .aload_n 0, 1, []), (22, .getfield 144, 3, [1034, 11, 48]), (25, .iload_n 1, 1, []), (26, .iaload, 1, []), (27, .iload_n 2, 1, []), (28, .if_icmp .ge 18, 3, []), (31, .aload_n 0, 1, []), (32, .getfield 213, 3, [987, 11, 1]), (35, .aload_n 0, 1, []), (36, .getfield 141, 3, [1033, 11, 47]), (39, .iload_n 1, 1, []), (40, .iaload, 1, []), (41, .isub, 1, []), (42, .iconst 2, 1, []), (43, .if_icmp .lt 7, 3, []), (46, .iconst 1, 1, []), (47, .goto 4, 3, []), (50, .iconst 0, 1, []), (51, .ireturn, 1, [])]
def ft_c194 : List (Nat × ft_I) := [(0, .aload_n 0, 1, []), (1, .getfield 78, 3, [1012, 11, 26]), (4, .iload_n 1, 1, []), (5, .iaload, 1, []), (6, .ifCond .gt 35, 3, []), (9, .aload_n 0, 1, []), (10, .iload_n 1, 1, []), (11, .invokevirtual 401, 3, [0, 163, 1298, 1301, 84, 1300, 38]), (14, .ifCond .le 31, 3, []), (17, .aload_n 0, 1, []), (18, .getfield 138, 3, [1032, 11, 46]), (21, .iload_n 1, 1, []), (22, .baload, 1, [1]), (23, .ifCond .ne 18, 3, []), (26, .aload_n 0, 1, []), (27, .getfield 213, 3, [987, 11, 1]), (30, .aload_n 0, 1, []), (31, .getfield 132, 3, [1030, 11, 44]), (34, .iload_n 1, 1, []), (35, .iaload, 1, []), (36, .isub, 1, []), (37, .iconst 4, 1, []), (38, .if_icmp .lt 7, 3, []), (41, .iconst 1, 1, []), (42, .goto 4, 3, []), (45, .iconst 0, 1, []), (46, .ireturn, 1, [])]
def ft_c195 : List (Nat × ft_I) := [(0, .aload_n 0, 1, []), (1, .iload_n 1, 1, []), (2, .invokevirtual 430, 3, [0, 196, 1434, 1437, 84, 1436, 69]), (5, .ifCond .ne 6, 3, []), (8, .bipush (-101), 2, []), (10, .ireturn, 1, []), (11, .aload_n 0, 1, []), (12, .iload_n 1, 1, []), (13, .invokevirtual 392, 3, [0, 166, 1311, 1314, 84, 1313, 40]), (16, .aload_n 0, 1, []), (17, .getfield 285, 3, [988, 11, 2]), (20, .ireturn, 1, [])]
def ft_c196 : List (Nat × ft_I) := [(0, .iload_n 1, 1, []), (1, .i2l, 1, []), (2, .lconst 0, 1, []), (3, .aload_n 0, 1, []), (4, .getfield 285, 3, [988, 11, 2]), (7, .iconst 1, 1, []), (8, .isub, 1, []), (9, .i2l, 1, []), (10, .invokestatic 199, 3, [0, 141, 1208, 1210, 84, 1209]), (13, .ireturn, 1, [])]
def ft_c197 : List (Nat × ft_I) := [(0, .aload_n 0, 1, []), (1, .iload_n 1, 1, []), (2, .invokevirtual 430, 3, [0, 196, 1434, 1437, 84, 1436, 69]), (5, .ifCond .ne 6, 3, []), (8, .bipush (-101), 2, []), (10, .ireturn, 1, []), (11, .iload_n 2, 1, []), (12, .i2l, 1, []), (13, .lconst 0, 1, []), (14, .ldc2_w 425, 3, [1306, 50]), (17, .invokestatic 199, 3, [0, 141, 1208, 1210, 84, 1209]), (20, .ifCond .ne 6, 3, []), (23, .bipush (-102), 2, []), (25, .ireturn, 1, []), (26, .aload_n 0, 1, []), (27, .getfield 13, 3, [990, 11, 4]), (30, .iload_n 1, 1, []), (31, .dup2, 1, []), (32, .iaload, 1, []), (33, .iload_n 2, 1, []), (34, .iadd, 1, []), (35, .iastore, 1, []), (36, .aload_n 0, 1, []), (37, .getfield 13, 3, [990, 11, 4]), (40, .iload_n 1, 1, []), (41, .iaload, 1, []), (42, .ireturn, 1, [])]
def ft_c198_0 : List (Nat × ft_I) := [(0, .aload_n 0, 1, []), (1, .iload_n 1, 1, []), (2, .invokevirtual 430, 3, [0, 196, 1434, 1437, 84, 1436, 69]), (5, .ifCond .ne 6, 3, []), (8, .bipush (-101), 2, []), (10, .ireturn, 1, []), (11, .iload_n 2, 1, []), (12, .i2l, 1, []), (13, .lconst 0, 1, []), (14, .ldc2_w 425, 3, [1306, 50]), (17, .invokestatic 199, 3, [0, 141, 1208, 1210, 84, 1209]), (20, .ifCond .ne 6, 3, []), (23, .bipush (-102), 2, []), (25, .ireturn, 1, []), (26, .aload_n 0, 1, []), (27, .getfield 285, 3, [988, 11, 2]), (30, .bipush 60, 2, []), (32, .if_icmp .ne 6, 3, []), (35, .bipush (-104), 2, []), (37, .ireturn, 1, []), (38, .aload_n 0, 1, []), (39, .getfield 7, 3, [989, 11, 3]), (42, .aload_n 0, 1, []), (43, .getfield 285, 3, [988, 11, 2]), (46, .aload_n 0, 1, []), (47, .getfield 7, 3, [989, 11, 3]), (50, .iload_n 1, 1, []), (51, .iaload, 1, []), (52, .iastore, 1, []), (53, .aload_n 0, 1, []), (54, .getfield 13, 3, [990, 11, 4]), (57, .aload_n 0, 1, []), (58, .getfield 285, 3, [988, 11, 2]), (61, .aload_n 0, 1, []), (62, .getfield 13, 3, [990, 11, 4]), (65, .iload_n 1, 1, []), (66, .iaload, 1, []), (67, .iload_n 2, 1, []), (68, .iadd, 1, []), (69, .iastore, 1, []), (70, .aload_n 0, 1, []), (71, .getfield 16, 3, [991, 11, 5]), (74, .aload_n 0, 1, []), (75, .getfield 285, 3, [988, 11, 2]), (78, .aload_n 0, 1, []), (79, .getfield 16, 3, [991, 11, 5]), (82, .iload_n 1, 1, []), (83, .iaload, 1, []), (84, .iastore, 1, []), (85, .iconst 0, 1, []), (86, .istore_n 3, 1, []), (87, .iload_n 3, 1, []), (88, .aload_n 0, 1, []), (89, .getfield 16, 3, [991, 11, 5]), (92, .iload_n 1, 1, []), (93, .iaload, 1, []), (94, .if_icmp .ge 36, 3, []), (97, .aload_n 0, 1, []), (98, .getfield 19, 3, [992, 11, 6]), (101, .sipush 256, 3, [])]
def ft_c198_1 : List (Nat × ft_I) := [(104, .aload_n 0, 1, []), (105, .getfield 285, 3, [988, 11, 2]), (108, .imul, 1, []), (109, .iload_n 3, 1, []), (110, .iadd, 1, []), (111, .aload_n 0, 1, []), (112, .getfield 19, 3, [992, 11, 6]), (115, .sipush 256, 3, []), (118, .iload_n 1, 1, []), (119, .imul, 1, []), (120, .iload_n 3, 1, []), (121, .iadd, 1, []), (122, .iaload, 1, []), (123, .iastore, 1, []), (124, .iinc 3 1, 3, []), (127, .goto (-40), 3, []), (130, .aload_n 0, 1, []), (131, .dup, 1, []), (132, .getfield 285, 3, [988, 11, 2]), (135, .iconst 1, 1, []), (136, .iadd, 1, []), (137, .putfield 285, 3, [988, 11, 2]), (140, .aload_n 0, 1, []), (141, .getfield 285, 3, [988, 11, 2]), (144, .ireturn, 1, [])]
def ft_c198 : List (Nat × ft_I) := ft_c198_0 ++ (ft_c198_1)
def ft_c199 : List (Nat × ft_I) := [(0, .aload_n 0, 1, []), (1, .iload_n 1, 1, []), (2, .invokevirtual 430, 3, [0, 196, 1434, 1437, 84, 1436, 69]), (5, .ifCond .eq 21, 3, []), (8, .iload_n 2, 1, []), (9, .i2l, 1, []), (10, .lconst 0, 1, []), (11, .aload_n 0, 1, []), (12, .getfield 16, 3, [991, 11, 5]), (15, .iload_n 1, 1, []), (16, .iaload, 1, []), (17, .iconst 1, 1, []), (18, .isub, 1, []), (19, .i2l, 1, []), (20, .invokestatic 199, 3, [0, 141, 1208, 1210, 84, 1209]), (23, .ifCond .ne 6, 3, []), (26, .bipush (-101), 2, []), (28, .ireturn, 1, []), (29, .aload_n 0, 1, []), (30, .getfield 19, 3, [992, 11, 6]), (33, .sipush 256, 3, []), (36, .iload_n 1, 1, []), (37, .imul, 1, []), (38, .iload_n 2, 1, []), (39, .iadd, 1, []), (40, .dup2, 1, []), (41, .iaload, 1, []), (42, .iload_n 3, 1, []), (43, .sipush 255, 3, []), (46, .iand, 1, []), (47, .ixor, 1, []), (48, .iastore, 1, []), (49, .aload_n 0, 1, []), (50, .getfield 19, 3, [992, 11, 6]), (53, .sipush 256, 3, []), (56, .iload_n 1, 1, []), (57, .imul, 1, []), (58, .iload_n 2, 1, []), (59, .iadd, 1, []), (60, .iaload, 1, []), (61, .ireturn, 1, [])]
def ft_c200_0 : List (Nat × ft_I) := [(0, .aload_n 0, 1, []), (1, .getfield 433, 3, [994, 11, 8]), (4, .bipush 20, 2, []), (6, .iadd, 1, []), (7, .sipush 220, 3, []), (10, .if_icmp .le 6, 3, []), (13, .bipush (-104), 2, []), (15, .ireturn, 1, []), (16, .iconst 0, 1, []), (17, .istore 6, 2, []), (19, .iload 6, 2, []), (21, .bipush 20, 2, []), (23, .if_icmp .ge 93, 3, []), (26, .iload 6, 2, []), (28, .iconst 4, 1, []), (29, .if_icmp .ge 7, 3, []), (32, .iload_n 1, 1, []), (33, .goto 39, 3, []), (36, .iload 6, 2, []), (38, .bipush 8, 2, []), (40, .if_icmp .ge 7, 3, []), (43, .iload_n 2, 1, []), (44, .goto 28, 3, []), (47, .iload 6, 2, []), (49, .bipush 12, 2, []), (51, .if_icmp .ge 7, 3, []), (54, .iload_n 3, 1, []), (55, .goto 17, 3, []), (58, .iload 6, 2, []), (60, .bipush 16, 2, []), (62, .if_icmp .ge 8, 3, []), (65, .iload 4, 2, []), (67, .goto 5, 3, []), (70, .iload 5, 2, []), (72, .istore 7, 2, []), (74, .aload_n 0, 1, []), (75, .getfield 22, 3, [993, 11, 7]), (78, .aload_n 0, 1, []), (79, .getfield 433, 3, [994, 11, 8]), (82, .iload 7, 2, []), (84, .bipush 24, 2, []), (86, .bipush 8, 2, []), (88, .iload 6, 2, []), (90, .iconst 4, 1, []), (91, .irem, 1, []), (92, .imul, 1, []), (93, .isub, 1, []), (94, .ishr, 1, []), (95, .sipush 255, 3, []), (98, .iand, 1, []), (99, .iastore, 1, []), (100, .aload_n 0, 1, []), (101, .dup, 1, []), (102, .getfield 433, 3, [994, 11, 8]), (105, .iconst 1, 1, []), (106, .iadd, 1, []), (107, .putfield 433, 3, [994, 11, 8]), (110, .iinc 6 1, 3, []), (113, .goto (-94), 3, []), (116, .aload_n 0, 1, [])]
def ft_c200_1 : List (Nat × ft_I) := [(117, .getfield 433, 3, [994, 11, 8]), (120, .ireturn, 1, [])]
def ft_c200 : List (Nat × ft_I) := ft_c200_0 ++ (ft_c200_1)
def ft_c201_0 : List (Nat × ft_I) := [(0, .iload_n 1, 1, []), (1, .invokestatic 420, 3, [0, 157, 1269, 1271, 84, 1270]), (4, .ifCond .ne 6, 3, []), (7, .bipush (-101), 2, []), (9, .ireturn, 1, []), (10, .iload_n 2, 1, []), (11, .i2l, 1, []), (12, .lconst 0, 1, []), (13, .aload_n 0, 1, []), (14, .getfield 433, 3, [994, 11, 8]), (17, .i2l, 1, []), (18, .invokestatic 199, 3, [0, 141, 1208, 1210, 84, 1209]), (21, .ifCond .ne 6, 3, []), (24, .bipush (-102), 2, []), (26, .ireturn, 1, []), (27, .aload_n 0, 1, []), (28, .getfield 285, 3, [988, 11, 2]), (31, .bipush 60, 2, []), (33, .if_icmp .ne 6, 3, []), (36, .bipush (-104), 2, []), (38, .ireturn, 1, []), (39, .iconst 0, 1, []), (40, .istore 4, 2, []), (42, .iload 4, 2, []), (44, .iload_n 2, 1, []), (45, .if_icmp .ge 32, 3, []), (48, .aload_n 0, 1, []), (49, .getfield 19, 3, [992, 11, 6]), (52, .sipush 256, 3, []), (55, .aload_n 0, 1, []), (56, .getfield 285, 3, [988, 11, 2]), (59, .imul, 1, []), (60, .iload 4, 2, []), (62, .iadd, 1, []), (63, .aload_n 0, 1, []), (64, .getfield 22, 3, [993, 11, 7]), (67, .iload 4, 2, []), (69, .iaload, 1, []), (70, .iastore, 1, []), (71, .iinc 4 1, 3, []), (74, .goto (-32), 3, []), (77, .iload_n 3, 1, []), (78, .ifCond .eq 67, 3, []), (81, .iload_n 2, 1, []), (82, .iconst 4, 1, []), (83, .if_icmp .lt 62, 3, []), (86, .aload_n 0, 1, []), (87, .getfield 19, 3, [992, 11, 6]), (90, .sipush 256, 3, []), (93, .aload_n 0, 1, []), (94, .getfield 285, 3, [988, 11, 2]), (97, .imul, 1, []), (98, .iload_n 2, 1, []), (99, .invokestatic 288, 3, [0, 154, 1257, 1259, 84, 1258]), (102, .istore 4, 2, []), (104, .aload_n 0, 1, []), (105, .getfield 19, 3, [992, 11, 6]), (108, .sipush 256, 3, []), (111, .aload_n 0, 1, []), (112, .getfield 285, 3, [988, 11, 2])]
def ft_c201_1 : List (Nat × ft_I) := [(115, .imul, 1, []), (116, .iconst 2, 1, []), (117, .iadd, 1, []), (118, .iload 4, 2, []), (120, .bipush 8, 2, []), (122, .ishr, 1, []), (123, .iastore, 1, []), (124, .aload_n 0, 1, []), (125, .getfield 19, 3, [992, 11, 6]), (128, .sipush 256, 3, []), (131, .aload_n 0, 1, []), (132, .getfield 285, 3, [988, 11, 2]), (135, .imul, 1, []), (136, .iconst 3, 1, []), (137, .iadd, 1, []), (138, .iload 4, 2, []), (140, .sipush 255, 3, []), (143, .iand, 1, []), (144, .iastore, 1, []), (145, .aload_n 0, 1, []), (146, .getfield 7, 3, [989, 11, 3]), (149, .aload_n 0, 1, []), (150, .getfield 285, 3, [988, 11, 2]), (153, .iload_n 1, 1, []), (154, .iastore, 1, []), (155, .aload_n 0, 1, []), (156, .getfield 13, 3, [990, 11, 4]), (159, .aload_n 0, 1, []), (160, .getfield 285, 3, [988, 11, 2]), (163, .aload_n 0, 1, []), (164, .getfield 213, 3, [987, 11, 1]), (167, .iconst 1, 1, []), (168, .iadd, 1, []), (169, .iastore, 1, []), (170, .aload_n 0, 1, []), (171, .getfield 16, 3, [991, 11, 5]), (174, .aload_n 0, 1, []), (175, .getfield 285, 3, [988, 11, 2]), (178, .iload_n 2, 1, []), (179, .iastore, 1, []), (180, .aload_n 0, 1, []), (181, .dup, 1, []), (182, .getfield 285, 3, [988, 11, 2]), (185, .iconst 1, 1, []), (186, .iadd, 1, []), (187, .putfield 285, 3, [988, 11, 2]), (190, .aload_n 0, 1, []), (191, .iconst 0, 1, []), (192, .putfield 433, 3, [994, 11, 8]), (195, .aload_n 0, 1, []), (196, .getfield 285, 3, [988, 11, 2]), (199, .ireturn, 1, [])]
def ft_c201 : List (Nat × ft_I) := ft_c201_0 ++ (ft_c201_1)
def ft_c202 : List (Nat × ft_I) := [(0, .aload_n 0, 1, []), (1, .getfield 285, 3, [988, 11, 2]), (4, .ireturn, 1, [])]
def ft_c203 : List (Nat × ft_I) := [(0, .aload_n 0, 1, []), (1, .iload_n 1, 1, []), (2, .invokevirtual 430, 3, [0, 196, 1434, 1437, 84, 1436, 69]), (5, .ifCond .ne 6, 3, []), (8, .bipush (-101), 2, []), (10, .ireturn, 1, []), (11, .iload_n 2, 1, []), (12, .ifCond .ne 12, 3, []), (15, .aload_n 0, 1, []), (16, .getfield 7, 3, [989, 11, 3]), (19, .iload_n 1, 1, []), (20, .iaload, 1, []), (21, .goto 33, 3, []), (24, .iload_n 2, 1, []), (25, .iconst 1, 1, []), (26, .if_icmp .ne 12, 3, []), (29, .aload_n 0, 1, []), (30, .getfield 13, 3, [990, 11, 4]), (33, .iload_n 1, 1, []), (34, .iaload, 1, []), (35, .goto 19, 3, []), (38, .iload_n 2, 1, []), (39, .iconst 2, 1, []), (40, .if_icmp .ne 12, 3, []), (43, .aload_n 0, 1, []), (44, .getfield 16, 3, [991, 11, 5]), (47, .iload_n 1, 1, []), (48, .iaload, 1, []), (49, .goto 5, 3, []), (52, .bipush (-102), 2, []), (54, .ireturn, 1, [])]
def ft_c204 : List (Nat × ft_I) := [(0, .aload_n 0, 1, []), (1, .iload_n 1, 1, []), (2, .invokevirtual 430, 3, [0, 196, 1434, 1437, 84, 1436, 69]), (5, .ifCond .eq 36, 3, []), (8, .iload_n 2, 1, []), (9, .i2l, 1, []), (10, .lconst 0, 1, []), (11, .aload_n 0, 1, []), (12, .getfield 16, 3, [991, 11, 5]), (15, .iload_n 1, 1, []), (16, .iaload, 1, []), (17, .iconst 1, 1, []), (18, .isub, 1, []), (19, .i2l, 1, []), (20, .invokestatic 199, 3, [0, 141, 1208, 1210, 84, 1209]), (23, .ifCond .eq 18, 3, []), (26, .aload_n 0, 1, []), (27, .getfield 19, 3, [992, 11, 6]), (30, .sipush 256, 3, []), (33, .iload_n 1, 1, []), (34, .imul, 1, []), (35, .iload_n 2, 1, []), (36, .iadd, 1, []), (37, .iaload, 1, []), (38, .goto 5, 3, []), (41, .bipush (-101), 2, []), (43, .ireturn, 1, [])]
def ft_c205 : List (Nat × ft_I) := [(0, .iload_n 1, 1, []), (1, .invokestatic 420, 3, [0, 157, 1269, 1271, 84, 1270]), (4, .ifCond .eq 12, 3, []), (7, .aload_n 0, 1, []), (8, .getfield 25, 3, [995, 11, 9]), (11, .iload_n 1, 1, []), (12, .iaload, 1, []), (13, .goto 5, 3, []), (16, .bipush (-101), 2, []), (18, .ireturn, 1, [])]
def ft_c206 : List (Nat × ft_I) := [(0, .iload_n 1, 1, []), (1, .invokestatic 420, 3, [0, 157, 1269, 1271, 84, 1270]), (4, .ifCond .ne 7, 3, []), (7, .ldc2_w 436, 3, [1478, 18446744073709551515]), (10, .lreturn, 1, []), (11, .iload_n 2, 1, []), (12, .tableswitch 97 0 5 #[40, 47, 54, 61, 68, 75], 40, []), (52, .aload_n 0, 1, []), (53, .getfield 28, 3, [996, 11, 10]), (56, .iload_n 1, 1, []), (57, .laload, 1, []), (58, .lreturn, 1, []), (59, .aload_n 0, 1, []), (60, .getfield 32, 3, [997, 11, 11]), (63, .iload_n 1, 1, []), (64, .laload, 1, []), (65, .lreturn, 1, []), (66, .aload_n 0, 1, []), (67, .getfield 39, 3, [999, 11, 13]), (70, .iload_n 1, 1, []), (71, .laload, 1, []), (72, .lreturn, 1, []), (73, .aload_n 0, 1, []), (74, .getfield 42, 3, [1000, 11, 14]), (77, .iload_n 1, 1, []), (78, .laload, 1, []), (79, .lreturn, 1, []), (80, .aload_n 0, 1, []), (81, .getfield 45, 3, [1001, 11, 15]), (84, .iload_n 1, 1, []), (85, .laload, 1, []), (86, .lreturn, 1, []), (87, .aload_n 0, 1, []), (88, .getfield 114, 3, [1024, 11, 38]), (91, .iload_n 1, 1, []), (92, .baload, 1, [1]), (93, .ifCond .eq 12, 3, []), (96, .aload_n 0, 1, []), (97, .getfield 117, 3, [1025, 11, 39]), (100, .iload_n 1, 1, []), (101, .laload, 1, []), (102, .goto 6, 3, []), (105, .ldc2_w 438, 3, [1479, 18446744073709551615]), (108, .lreturn, 1, []), (109, .ldc2_w 440, 3, [1480, 18446744073709551514]), (112, .lreturn, 1, [])]
def ft_c207_0 : List (Nat × ft_I) := [(0, .iload_n 1, 1, []), (1, .invokestatic 420, 3, [0, 157, 1269, 1271, 84, 1270]), (4, .ifCond .eq 15, 3, []), (7, .iload_n 2, 1, []), (8, .i2l, 1, []), (9, .lconst 1, 1, []), (10, .ldc2_w 349, 3, [1287, 4]), (13, .invokestatic 199, 3, [0, 141, 1208, 1210, 84, 1209]), (16, .ifCond .ne 6, 3, []), (19, .bipush (-101), 2, []), (21, .ireturn, 1, []), (22, .iload_n 1, 1, []), (23, .iload_n 3, 1, []), (24, .ifCond .eq 7, 3, []), (27, .iconst 0, 1, []), (28, .goto 4, 3, []), (31, .iconst 1, 1, []), (32, .iload_n 2, 1, []), (33, .invokestatic 209, 3, [0, 134, 983, 985, 84, 984]), (36, .istore 5, 2, []), (38, .iload 4, 2, []), (40, .ifCond .ne 11, 3, []), (43, .aload_n 0, 1, []), (44, .getfield 60, 3, [1006, 11, 20]), (47, .iload 5, 2, []), (49, .iaload, 1, []), (50, .ireturn, 1, []), (51, .iload 4, 2, []), (53, .iconst 1, 1, []), (54, .if_icmp .ne 19, 3, []), (57, .aload_n 0, 1, []), (58, .getfield 69, 3, [1009, 11, 23]), (61, .iload 5, 2, []), (63, .baload, 1, [1]), (64, .ifCond .eq 7, 3, []), (67, .iconst 1, 1, []), (68, .goto 4, 3, []), (71, .iconst 0, 1, []), (72, .ireturn, 1, []), (73, .iload 4, 2, []), (75, .iconst 2, 1, []), (76, .if_icmp .ne 11, 3, []), (79, .aload_n 0, 1, []), (80, .getfield 63, 3, [1007, 11, 21]), (83, .iload 5, 2, []), (85, .iaload, 1, []), (86, .ireturn, 1, []), (87, .iload 4, 2, []), (89, .i2l, 1, []), (90, .ldc2_w 371, 3, [1288, 3]), (93, .ldc2_w 363, 3, [1272, 5]), (96, .invokestatic 199, 3, [0, 141, 1208, 1210, 84, 1209]), (99, .ifCond .ne 6, 3, []), (102, .bipush (-102), 2, []), (104, .ireturn, 1, []), (105, .iload 4, 2, []), (107, .iconst 3, 1, []), (108, .isub, 1, []), (109, .aload_n 0, 1, []), (110, .getfield 63, 3, [1007, 11, 21])]
def ft_c207_1 : List (Nat × ft_I) := [(113, .iload 5, 2, []), (115, .iaload, 1, []), (116, .if_icmp .ge 20, 3, []), (119, .aload_n 0, 1, []), (120, .getfield 66, 3, [1008, 11, 22]), (123, .iconst 3, 1, []), (124, .iload 5, 2, []), (126, .imul, 1, []), (127, .iload 4, 2, []), (129, .iadd, 1, []), (130, .iconst 3, 1, []), (131, .isub, 1, []), (132, .iaload, 1, []), (133, .goto 4, 3, []), (136, .iconst (-1), 1, []), (137, .ireturn, 1, [])]
def ft_c207 : List (Nat × ft_I) := ft_c207_0 ++ (ft_c207_1)
def ft_c208_0 : List (Nat × ft_I) := [(0, .iload_n 1, 1, []), (1, .invokestatic 420, 3, [0, 157, 1269, 1271, 84, 1270]), (4, .ifCond .ne 6, 3, []), (7, .bipush (-101), 2, []), (9, .ireturn, 1, []), (10, .iload_n 2, 1, []), (11, .tableswitch 187 0 15 #[77, 83, 90, 97, 104, 111, 118, 125, 132, 139, 146, 153, 160, 166, 173, 180], 77, []), (88, .aload_n 0, 1, []), (89, .iload_n 1, 1, []), (90, .invokevirtual 261, 3, [0, 139, 1199, 1202, 84, 1201, 26]), (93, .ireturn, 1, []), (94, .aload_n 0, 1, []), (95, .getfield 102, 3, [1020, 11, 34]), (98, .iload_n 1, 1, []), (99, .iaload, 1, []), (100, .ireturn, 1, []), (101, .aload_n 0, 1, []), (102, .getfield 105, 3, [1021, 11, 35]), (105, .iload_n 1, 1, []), (106, .iaload, 1, []), (107, .ireturn, 1, []), (108, .aload_n 0, 1, []), (109, .getfield 108, 3, [1022, 11, 36]), (112, .iload_n 1, 1, []), (113, .iaload, 1, []), (114, .ireturn, 1, []), (115, .aload_n 0, 1, []), (116, .getfield 111, 3, [1023, 11, 37]), (119, .iload_n 1, 1, []), (120, .iaload, 1, []), (121, .ireturn, 1, []), (122, .aload_n 0, 1, []), (123, .getfield 84, 3, [1014, 11, 28]), (126, .iload_n 1, 1, []), (127, .iaload, 1, []), (128, .ireturn, 1, []), (129, .aload_n 0, 1, []), (130, .getfield 147, 3, [1035, 11, 49]), (133, .iload_n 1, 1, []), (134, .iaload, 1, []), (135, .ireturn, 1, []), (136, .aload_n 0, 1, []), (137, .getfield 150, 3, [1036, 11, 50]), (140, .iload_n 1, 1, []), (141, .iaload, 1, []), (142, .ireturn, 1, []), (143, .aload_n 0, 1, []), (144, .getfield 153, 3, [1037, 11, 51]), (147, .iload_n 1, 1, []), (148, .iaload, 1, []), (149, .ireturn, 1, []), (150, .aload_n 0, 1, []), (151, .getfield 156, 3, [1038, 11, 52]), (154, .iload_n 1, 1, []), (155, .iaload, 1, []), (156, .ireturn, 1, []), (157, .aload_n 0, 1, []), (158, .getfield 159, 3, [1039, 11, 53]), (161, .iload_n 1, 1, []), (162, .iaload, 1, [])]
def ft_c208_1 : List (Nat × ft_I) := [(163, .ireturn, 1, []), (164, .aload_n 0, 1, []), (165, .getfield 93, 3, [1017, 11, 31]), (168, .iload_n 1, 1, []), (169, .iaload, 1, []), (170, .ireturn, 1, []), (171, .aload_n 0, 1, []), (172, .iload_n 1, 1, []), (173, .invokevirtual 401, 3, [0, 163, 1298, 1301, 84, 1300, 38]), (176, .ireturn, 1, []), (177, .aload_n 0, 1, []), (178, .getfield 78, 3, [1012, 11, 26]), (181, .iload_n 1, 1, []), (182, .iaload, 1, []), (183, .ireturn, 1, []), (184, .aload_n 0, 1, []), (185, .getfield 162, 3, [1040, 11, 54]), (188, .iload_n 1, 1, []), (189, .iaload, 1, []), (190, .ireturn, 1, []), (191, .aload_n 0, 1, []), (192, .getfield 165, 3, [1041, 11, 55]), (195, .iload_n 1, 1, []), (196, .iaload, 1, []), (197, .ireturn, 1, []), (198, .bipush (-102), 2, []), (200, .ireturn, 1, [])]
def ft_c208 : List (Nat × ft_I) := ft_c208_0 ++ (ft_c208_1)
def ft_c209 : List (Nat × ft_I) := [(0, .iload_n 1, 1, []), (1, .invokestatic 420, 3, [0, 157, 1269, 1271, 84, 1270]), (4, .ifCond .eq 30, 3, []), (7, .iload_n 2, 1, []), (8, .ifCond .lt 26, 3, []), (11, .iload_n 2, 1, []), (12, .aload_n 0, 1, []), (13, .getfield 93, 3, [1017, 11, 31]), (16, .iload_n 1, 1, []), (17, .iaload, 1, []), (18, .if_icmp .ge 16, 3, []), (21, .iload_n 2, 1, []), (22, .aload_n 0, 1, []), (23, .getfield 93, 3, [1017, 11, 31]), (26, .iload_n 1, 1, []), (27, .iaload, 1, []), (28, .bipush 40, 2, []), (30, .isub, 1, []), (31, .if_icmp .ge 6, 3, []), (34, .bipush (-101), 2, []), (36, .ireturn, 1, []), (37, .bipush 40, 2, []), (39, .iload_n 1, 1, []), (40, .imul, 1, []), (41, .iload_n 2, 1, []), (42, .bipush 40, 2, []), (44, .irem, 1, []), (45, .iadd, 1, []), (46, .istore 4, 2, []), (48, .iload_n 3, 1, []), (49, .iconst (-1), 1, []), (50, .if_icmp .ne 11, 3, []), (53, .aload_n 0, 1, []), (54, .getfield 96, 3, [1018, 11, 32]), (57, .iload 4, 2, []), (59, .iaload, 1, []), (60, .ireturn, 1, []), (61, .iload_n 3, 1, []), (62, .i2l, 1, []), (63, .lconst 0, 1, []), (64, .aload_n 0, 1, []), (65, .getfield 96, 3, [1018, 11, 32]), (68, .iload 4, 2, []), (70, .iaload, 1, []), (71, .iconst 1, 1, []), (72, .isub, 1, []), (73, .i2l, 1, []), (74, .invokestatic 199, 3, [0, 141, 1208, 1210, 84, 1209]), (77, .ifCond .eq 18, 3, []), (80, .aload_n 0, 1, []), (81, .getfield 99, 3, [1019, 11, 33]), (84, .bipush 40, 2, []), (86, .iload 4, 2, []), (88, .imul, 1, []), (89, .iload_n 3, 1, []), (90, .iadd, 1, []), (91, .iaload, 1, []), (92, .goto 5, 3, []), (95, .bipush (-101), 2, []), (97, .ireturn, 1, [])]
def ft_c210 : List (Nat × ft_I) := [(0, .iload_n 1, 1, []), (1, .invokestatic 420, 3, [0, 157, 1269, 1271, 84, 1270]), (4, .ifCond .ne 6, 3, []), (7, .bipush (-101), 2, []), (9, .ireturn, 1, []), (10, .lload_n 2, 1, []), (11, .invokestatic 187, 3, [0, 132, 975, 977, 84, 976]), (14, .lstore 4, 2, []), (16, .aload_n 0, 1, []), (17, .getfield 35, 3, [998, 11, 12]), (20, .iload_n 1, 1, []), (21, .baload, 1, [1]), (22, .ifCond .eq 22, 3, []), (25, .aload_n 0, 1, []), (26, .getfield 39, 3, [999, 11, 13]), (29, .iload_n 1, 1, []), (30, .laload, 1, []), (31, .lload 4, 2, []), (33, .lsub, 1, []), (34, .invokestatic 187, 3, [0, 132, 975, 977, 84, 976]), (37, .ldc2_w 207, 3, [1207, 255]), (40, .lcmp, 1, []), (41, .ifCond .le 5, 3, []), (44, .iconst (-1), 1, []), (45, .ireturn, 1, []), (46, .aload_n 0, 1, []), (47, .getfield 48, 3, [1002, 11, 16]), (50, .iload_n 1, 1, []), (51, .lload 4, 2, []), (53, .invokestatic 252, 3, [0, 144, 1218, 1220, 84, 1219]), (56, .baload, 1, [1]), (57, .ifCond .eq 7, 3, []), (60, .iconst 1, 1, []), (61, .goto 4, 3, []), (64, .iconst 0, 1, []), (65, .ireturn, 1, [])]
def ft_c211 : List (Nat × ft_I) := [(0, .iload_n 1, 1, []), (1, .invokestatic 420, 3, [0, 157, 1269, 1271, 84, 1270]), (4, .ifCond .ne 6, 3, []), (7, .bipush (-101), 2, []), (9, .ireturn, 1, []), (10, .lload_n 2, 1, []), (11, .invokestatic 187, 3, [0, 132, 975, 977, 84, 976]), (14, .lstore 4, 2, []), (16, .aload_n 0, 1, []), (17, .iload_n 1, 1, []), (18, .lload 4, 2, []), (20, .invokevirtual 297, 3, [0, 140, 1203, 1206, 84, 1205, 27]), (23, .ifCond .eq 17, 3, []), (26, .aload_n 0, 1, []), (27, .getfield 51, 3, [1003, 11, 17]), (30, .iload_n 1, 1, []), (31, .lload 4, 2, []), (33, .invokestatic 252, 3, [0, 144, 1218, 1220, 84, 1219]), (36, .iaload, 1, []), (37, .goto 4, 3, []), (40, .iconst (-1), 1, []), (41, .ireturn, 1, [])]
def ft_cs : List (List (Nat × ft_I)) := [ft_c0, ft_c1, ft_c2, ft_c3, ft_c4, ft_c5, ft_c6, ft_c7, ft_c8, ft_c9, ft_c10, ft_c11, ft_c12, ft_c13, ft_c14, ft_c15, ft_c16, ft_c17, ft_c18, ft_c19, ft_c20, ft_c21, ft_c22, ft_c23, ft_c24, ft_c25, ft_c26, ft_c27, ft_c28, ft_c29, ft_c30, ft_c31, ft_c32, ft_c33, ft_c34, ft_c35, ft_c36, ft_c37, ft_c38, ft_c39, ft_c40, ft_c41, ft_c42, ft_c43, ft_c44, ft_c45, ft_c46, ft_c47, ft_c48, ft_c49, ft_c50, ft_c51, ft_c52, ft_c53, ft_c54, ft_c55, ft_c56, ft_c57, ft_c58, ft_c59, ft_c60, ft_c61, ft_c62, ft_c63, ft_c64, ft_c65, ft_c66, ft_c67, ft_c68, ft_c69, ft_c70, ft_c71, ft_c72, ft_c73, ft_c74, ft_c75, ft_c76, ft_c77, ft_c78, ft_c79, ft_c80, ft_c81, ft_c82, ft_c83, ft_c84, ft_c85, ft_c86, ft_c87, ft_c88, ft_c89, ft_c90, ft_c91, ft_c92, ft_c93, ft_c94, ft_c95, ft_c96, ft_c97, ft_c98, ft_c99, ft_c100, ft_c101, ft_c102, ft_c103, ft_c104, ft_c105, ft_c106, ft_c107, ft_c108, ft_c109, ft_c110, ft_c111, ft_c112, ft_c113, ft_c114, ft_c115, ft_c116, ft_c117, ft_c118, ft_c119, ft_c120, ft_c121, ft_c122, ft_c123, ft_c124, ft_c125, ft_c126, ft_c127, ft_c128, ft_c129, ft_c130, ft_c131, ft_c132, ft_c133, ft_c134, ft_c135, ft_c136, ft_c137, ft_c138, ft_c139, ft_c140, ft_c141, ft_c142, ft_c143, ft_c144, ft_c145, ft_c146, ft_c147, ft_c148, ft_c149, ft_c150, ft_c151, ft_c152, ft_c153, ft_c154, ft_c155, ft_c156, ft_c157, ft_c158, ft_c159, ft_c160, ft_c161, ft_c162, ft_c163, ft_c164, ft_c165, ft_c166, ft_c167, ft_c168, ft_c169, ft_c170, ft_c171, ft_c172, ft_c173, ft_c174, ft_c175, ft_c176, ft_c177, ft_c178, ft_c179, ft_c180, ft_c181, ft_c182, ft_c183, ft_c184, ft_c185, ft_c186, ft_c187, ft_c188, ft_c189, ft_c190, ft_c191, ft_c192, ft_c193, ft_c194, ft_c195, ft_c196, ft_c197, ft_c198, ft_c199, ft_c200, ft_c201, ft_c202, ft_c203, ft_c204, ft_c205, ft_c206, ft_c207, ft_c208, ft_c209, ft_c210, ft_c211]
def ft_c (y : Nat) : List (Nat × ft_I) := ft_cs.getD y []
end
section
/-! the pictured heap: what each place of each cell holds, which kind of cell it is (0: not pictured; 1 ..: an object of a class of ft_cl; behind these: arrays, by ft_ak) and how long, the next address -/
abbrev ft_H : Type := (Nat → Nat → Value) × (Nat → Nat × Nat) × Nat
def ft_set (h : ft_H) (a k : Nat) (v : Value) : ft_H := (fun b j => if b = a ∧ j = k then v else h.1 b j, h.2)
def ft_new (h : ft_H) (kd : Nat × Nat) (f : Nat → Value) : ft_H := (fun b j => if b = h.2.2 then f j else h.1 b j, fun b => if b = h.2.2 then kd else h.2.1 b, h.2.2 + 1)
def ft_kd (c : Nat) : Option (Nat ⊕ FieldType) := match c with
  | 0 => none
  | c + 1 => if c < ft_nc then some (.inl c) else (ft_ak[c - ft_nc]?).map .inr
/-- classes' numbers, fields' slots, classes of arrays, the first address that is ours, the static arrays, the script -/
abbrev ft_G : Type := (Nat → ClassId) × (Nat → Nat → Nat) × (FieldType → ClassId) × Nat × (Nat → Nat) × Nat × Nat × (Nat → Int32)
/-- what the static arrays hold (AT_FIRST, LEAST, MOST) -/
def ft_sv (k j : Nat) : Int32 := (([[100, 2, 1, 1], [16, 1, 0, 1], [255, 20, 1, 2]] : List (List Int32)).getD k []).getD j 0
/-- the words that keep no method's list, but travel with the world -/
def ft_nestW : Jvm.Cond → Bool
  | .methodLinkNest _ _ _ _ => true
  | .fieldLinkNest _ _ _ _ _ _ => true
  | .arrayOver (.object _) => true
  | _ => false
/-- the words that are used -/
def ft_tb : List Jvm.Cond := lw_tbl.filter (fun w => goodWord w || ft_nestW w)
def ft_good : List Jvm.Cond := lw_tbl.filter goodWord
abbrev ft_B (D : ft_G) : Nat := D.2.2.2.1
abbrev ft_own (D : ft_G) : Nat → Prop := fun q => D.2.2.2.1 ≤ q
def ft_at (D : ft_G) (h : ft_H) (H : Heap) (a : Nat) : Prop := match ft_kd (h.2.1 a).1 with
  | none => True
  | some (.inl ci) => ∃ r : vw_C, ft_cl[ci]? = some r ∧ t_OB a (D.1 ci) r.2.2 (D.2.1 ci) H (h.1 a)
  | some (.inr ty) => H[a]? = some (arrV (D.2.2.1 ty) (h.2.1 a).2 (h.1 a))
def ft_A (D : ft_G) (h : ft_H) (H : Heap) : Prop := H.size = h.2.2 ∧ ft_B D ≤ h.2.2 ∧ ∀ a : Nat, ft_at D h H a
/-- what the tables say, of a state -/
def ft_K (D : ft_G) (U : State) : Prop := (∀ (c : Nat) (q : vw_C), ft_cl[c]? = some q → u_Kn U q.1 q.2.1 q.2.2 (D.1 c) (D.2.1 c)) ∧ (∀ ty ∈ ft_ak, ArrOfT U (D.2.2.1 ty) ty ∧ va_RA U (D.2.2.1 ty) ty) ∧
  (∀ (k : Nat) (q : String × String × String), ft_st[k]? = some q → va_Z q.1 q.2.1 q.2.2 (.ref (D.2.2.2.2.1 k)) (ft_own D) U U.heap ∧ va_T .int (D.2.2.2.2.1 k) 4 (fun j => .int (ft_sv k j)) (ft_own D) U U.heap) ∧
  (∀ w ∈ ft_tb, ft_nestW w = true → w.before #[] U = true) ∧ va_X D.2.2.2.2.2.1 D.2.2.2.2.2.2.1 D.2.2.2.2.2.2.2 U U.heap ∧ D.2.2.2.2.2.1 < ft_B D ∧ ft_B D ≤ U.heap.size
def ft_C (D : ft_G) (y : Nat) (p : Program) (R : Room) (s : State) (m : MethodId) (args : Array Value) (meth : Method) (c : Code) : Prop :=
  p.tables.exec = Jvm.exec ∧ c.code = (ft_m y).2.1 ∧ c.maxLocals = (ft_m y).2.2.1 ∧ s.vm.findClass (ft_m y).1.cls = some m.cls ∧ (∀ w ∈ ft_tb, w.before args s = true) ∧ ft_K D s ∧ meth.name = (ft_m y).1.name ∧ meth.locks = false ∧ meth.sig.returnType = (ft_m y).2.2.2.1 ∧
  (ft_m y).2.2.2.2.1 ≤ R.frames ∧ (ft_m y).2.2.2.2.2.1 ≤ R.locals ∧ (ft_m y).2.2.2.2.2.2.1 ≤ R.cells ∧ (ft_m y).2.2.2.2.2.2.2 ≤ R.slots ∧ ft_B D ≤ s.heap.size
abbrev ft_mc (y : Nat) : Nat := (ft_m y).2.2.2.2.2.2.1
abbrev ft_mz (y : Nat) : Nat := (ft_m y).2.2.2.2.2.2.2
abbrev ft_nL (y : Nat) : Nat := (ft_m y).2.2.1
/-- an answer of a kind, and the instruction that gives it -/
def ft_ret (ty : Option FieldType) (v : Option Value) (i : Instr) : Prop := match ty, v, i with
  | none, none, .return_ => True
  | some .int, some (.int _), .ireturn => True
  | some .boolean, some (.int x), .ireturn => narrow .boolean (.int x) = .int x
  | some .long, some (.long _), .lreturn => True
  | some (.object _), some .null, .areturn => True
  | some (.object _), some (.ref _), .areturn => True
  | _, _, _ => False
/-- FROM HERE method y comes to an end, with an answer and a heap of Q -/
def sm (D : ft_G) (y pc : Nat) (lv : List (Nat × Value)) (st : List Value) (h : ft_H) (uc us : Nat) (Q : Option Value → ft_H → Prop) : Prop :=
  ∀ (p : Program) (l : Launch) (e : Env) (R : Room) (s : State) (m : MethodId) (args : Array Value) (below : List Frame) (meth : Method) (c : Code) (H : Heap) (locs : List Loc) (Z : State → Prop) (ls : Array Slot),
    ft_C D y p R s m args meth c →
    (∀ (pc' : Nat) (ls' : Array Slot) (i : Instr) (v : Option Value) (h' : ft_H) (H' : Heap) (locs' : List Loc), Q v h' → ft_A D h' H' → va_S (ft_own D) s.heap H' locs' → ft_ret (ft_m y).2.2.2.1 v i → decode (ft_m y).2.1 pc' = .ok (i, 1) →
      W p l e R s m args below meth c H' locs' (ft_mc y) (ft_mz y) Z (F0 m pc' ls' v.toList)) →
    lv_has ls (ft_nL y) lv → ft_A D h H → va_S (ft_own D) s.heap H locs →
    W p l e R s m args below meth c H locs uc us Z (F0 m pc ls st)
theorem sm.mono {D : ft_G} {y pc : Nat} {lv : List (Nat × Value)} {st : List Value} {h : ft_H} {uc us : Nat} {Q Q' : Option Value → ft_H → Prop} (k : sm D y pc lv st h uc us Q) (hq : ∀ v h', Q v h' → Q' v h') : sm D y pc lv st h uc us Q' := by
  intro p l e R s m args below meth c H locs Z ls C r hl hA hS
  exact k p l e R s m args below meth c H locs Z ls C (fun pc' ls' i v h' H' locs' q a b d f => r pc' ls' i v h' H' locs' (hq v h' q) a b d f) hl hA hS
/-- a row of the kit that leaves the heap as it is -/
theorem sm_pure {D : ft_G} {y pc pc' : Nat} {lv lv' : List (Nat × Value)} {st st' : List Value} {h : ft_H} {uc us : Nat} {Q : Option Value → ft_H → Prop}
    (row : ∀ (p : Program) (l : Launch) (e : Env) (R : Room) (s : State) (m : MethodId) (args : Array Value) (below : List Frame) (meth : Method) (c : Code) (H : Heap) (locs : List Loc) (Z : State → Prop) (ls : Array Slot), ft_C D y p R s m args meth c → lv_has ls (ft_nL y) lv → ft_A D h H → va_S (ft_own D) s.heap H locs →
      (∀ ls' : Array Slot, lv_has ls' (ft_nL y) lv' → W p l e R s m args below meth c H locs uc us Z (F0 m pc' ls' st')) → W p l e R s m args below meth c H locs uc us Z (F0 m pc ls st))
    (k : sm D y pc' lv' st' h uc us Q) : sm D y pc lv st h uc us Q := by
  intro p l e R s m args below meth c H locs Z ls C r hl hA hS
  exact row p l e R s m args below meth c H locs Z ls C hl hA hS (fun ls' hl' => k p l e R s m args below meth c H locs Z ls' C r hl' hA hS)
end
section
def ft_lk {α : Type} (k : Nat) : List (Nat × α) → Option α
  | [] => none
  | (j, a) :: r => if j = k then some a else ft_lk k r
theorem ft_lk_mem {α : Type} {k : Nat} {a : α} : ∀ {l : List (Nat × α)}, ft_lk k l = some a → (k, a) ∈ l
  | [], h => by cases h
  | (j, b) :: r, h => by
    unfold ft_lk at h
    split at h
    · rename_i e
      cases h
      subst e
      exact List.mem_cons_self
    · exact List.mem_cons_of_mem _ (ft_lk_mem h)
theorem ft_lv {ls : Array Slot} {n k : Nat} {lv : List (Nat × Value)} {v : Value} (hl : lv_has ls n lv) (h : ft_lk k lv = some v) : ls[k]? = some (.val v) := hl.2.2 _ (ft_lk_mem h)
def ft_s1 (lv : List (Nat × Value)) (i : Nat) (v : Value) : List (Nat × Value) := (i, v) :: lv.filter (fun q => !(q.1 == i) && !(q.1 + 1 == i && q.2.category == 2))
def ft_s2 (lv : List (Nat × Value)) (i : Nat) (v : Value) : List (Nat × Value) := (i, v) :: lv.filter (fun q => !(q.1 == i) && (!(q.1 == i + 1) && !(q.1 + 1 == i && q.2.category == 2)))
abbrev ft_PR : Type := List Prop × Nat × List (Nat × Value) × List Value
def ft_tgt (pc : Nat) (off : Int) : Nat := ((pc : Int) + off).toNat
theorem ft_k8 : ∀ k : Nat, k < 128 → (Int8.ofInt (Int.ofNat k)).toInt32 = nI k := by decide +kernel
theorem ft_k16 (k : Nat) (hk : k < 32768) : (Int16.ofInt (Int.ofNat k)).toInt32 = nI k := by
  apply Int32.toInt_inj.mp
  rw [nI_toInt (by omega), Int16.toInt_toInt32, Int16.toInt_ofInt]
  exact Int.bmod_eq_of_le (by simp <;> omega) (by simp <;> omega)
theorem ft_k32 (k : Nat) : Int32.ofInt (Int.ofNat k) = nI k := Int32.ofInt_eq_ofNat
def ft_p (i : Instr) (pr : List Nat) (pc nL : Nat) (lv : List (Nat × Value)) (st : List Value) : Option ft_PR := match i with
  | .iconst n => match n with
    | .ofNat k => some ([], pc + 1, lv, .int (nI k) :: st)
    | .negSucc k => some ([], pc + 1, lv, .int (Int32.ofInt (.negSucc k)) :: st)
  | .bipush n => match n with
    | .ofNat k => if k < 128 then some ([], pc + 2, lv, .int (nI k) :: st) else none
    | .negSucc k => some ([], pc + 2, lv, .int (Int8.ofInt (.negSucc k)).toInt32 :: st)
  | .sipush n => match n with
    | .ofNat k => if k < 32768 then some ([], pc + 3, lv, .int (nI k) :: st) else none
    | .negSucc k => some ([], pc + 3, lv, .int (Int16.ofInt (.negSucc k)).toInt32 :: st)
  | .lconst n => some ([], pc + 1, lv, .long (lN (n : Nat)) :: st)
  | .aconst_null => some ([], pc + 1, lv, .null :: st)
  | .ldc _ => match pr with
    | [_, v] => some ([], pc + 2, lv, .int (nI v) :: st)
    | _ => none
  | .ldc_w _ => match pr with
    | [_, v] => some ([], pc + 3, lv, .int (nI v) :: st)
    | _ => none
  | .ldc2_w _ => match pr with
    | [_, v] => some ([], pc + 3, lv, .long (lN v) :: st)
    | _ => none
  | .iload k => match ft_lk k lv with
    | some (.int x) => some ([], pc + 2, lv, .int x :: st)
    | _ => none
  | .iload_n k => match ft_lk (k : Nat) lv with
    | some (.int x) => some ([], pc + 1, lv, .int x :: st)
    | _ => none
  | .lload k => match ft_lk k lv with
    | some (.long x) => some ([], pc + 2, lv, .long x :: st)
    | _ => none
  | .lload_n k => match ft_lk (k : Nat) lv with
    | some (.long x) => some ([], pc + 1, lv, .long x :: st)
    | _ => none
  | .aload k => match ft_lk k lv with
    | some (.ref x) => some ([], pc + 2, lv, .ref x :: st)
    | some .null => some ([], pc + 2, lv, .null :: st)
    | _ => none
  | .istore k => match st with
    | .int x :: r => if k < nL then some ([], pc + 2, ft_s1 lv k (.int x), r) else none
    | _ => none
  | .lstore k => match st with
    | .long x :: r => if k + 1 < nL then some ([], pc + 2, ft_s2 lv k (.long x), r) else none
    | _ => none
  | .astore k => match st with
    | .ref x :: r => if k < nL then some ([], pc + 2, ft_s1 lv k (.ref x), r) else none
    | .null :: r => if k < nL then some ([], pc + 2, ft_s1 lv k .null, r) else none
    | _ => none
  | .aload_n k => match ft_lk (k : Nat) lv with
    | some (.ref x) => some ([], pc + 1, lv, .ref x :: st)
    | some .null => some ([], pc + 1, lv, .null :: st)
    | _ => none
  | .istore_n k => match st with
    | .int x :: r => if (k : Nat) < nL then some ([], pc + 1, ft_s1 lv (k : Nat) (.int x), r) else none
    | _ => none
  | .lstore_n k => match st with
    | .long x :: r => if (k : Nat) + 1 < nL then some ([], pc + 1, ft_s2 lv (k : Nat) (.long x), r) else none
    | _ => none
  | .astore_n k => match st with
    | .ref x :: r => if (k : Nat) < nL then some ([], pc + 1, ft_s1 lv (k : Nat) (.ref x), r) else none
    | .null :: r => if (k : Nat) < nL then some ([], pc + 1, ft_s1 lv (k : Nat) .null, r) else none
    | _ => none
  | .iinc k n => match ft_lk k lv with
    | some (.int x) => if k < nL then (match n with
      | .ofNat c => some ([], pc + 3, ft_s1 lv k (.int (x + nI c)), st)
      | .negSucc c => some ([], pc + 3, ft_s1 lv k (.int (x + Int32.ofInt (.negSucc c))), st)) else none
    | _ => none
  | .iadd => match st with
    | .int y :: .int x :: r => some ([], pc + 1, lv, .int (x + y) :: r)
    | _ => none
  | .isub => match st with
    | .int y :: .int x :: r => some ([], pc + 1, lv, .int (x - y) :: r)
    | _ => none
  | .imul => match st with
    | .int y :: .int x :: r => some ([], pc + 1, lv, .int (x * y) :: r)
    | _ => none
  | .iand => match st with
    | .int y :: .int x :: r => some ([], pc + 1, lv, .int (x &&& y) :: r)
    | _ => none
  | .ior => match st with
    | .int y :: .int x :: r => some ([], pc + 1, lv, .int (x ||| y) :: r)
    | _ => none
  | .ixor => match st with
    | .int y :: .int x :: r => some ([], pc + 1, lv, .int (x ^^^ y) :: r)
    | _ => none
  | .ishl => match st with
    | .int y :: .int x :: r => some ([], pc + 1, lv, .int (x <<< (y &&& 31)) :: r)
    | _ => none
  | .ishr => match st with
    | .int y :: .int x :: r => some ([], pc + 1, lv, .int (x >>> (y &&& 31)) :: r)
    | _ => none
  | .ladd => match st with
    | .long y :: .long x :: r => some ([], pc + 1, lv, .long (x + y) :: r)
    | _ => none
  | .lsub => match st with
    | .long y :: .long x :: r => some ([], pc + 1, lv, .long (x - y) :: r)
    | _ => none
  | .lmul => match st with
    | .long y :: .long x :: r => some ([], pc + 1, lv, .long (x * y) :: r)
    | _ => none
  | .land => match st with
    | .long y :: .long x :: r => some ([], pc + 1, lv, .long (x &&& y) :: r)
    | _ => none
  | .lor => match st with
    | .long y :: .long x :: r => some ([], pc + 1, lv, .long (x ||| y) :: r)
    | _ => none
  | .lxor => match st with
    | .long y :: .long x :: r => some ([], pc + 1, lv, .long (x ^^^ y) :: r)
    | _ => none
  | .idiv => match st with
    | .int y :: .int x :: r => some ([¬ y = 0], pc + 1, lv, .int (x / y) :: r)
    | _ => none
  | .irem => match st with
    | .int y :: .int x :: r => some ([¬ y = 0], pc + 1, lv, .int (x - x / y * y) :: r)
    | _ => none
  | .lshl => match st with
    | .int y :: .long x :: r => some ([], pc + 1, lv, .long (x <<< (y.toInt64 &&& 63)) :: r)
    | _ => none
  | .lshr => match st with
    | .int y :: .long x :: r => some ([], pc + 1, lv, .long (x >>> (y.toInt64 &&& 63)) :: r)
    | _ => none
  | .lcmp => match st with
    | .long y :: .long x :: r => some ([], pc + 1, lv, .int (lg_cmp x y) :: r)
    | _ => none
  | .i2l => match st with
    | .int x :: r => some ([], pc + 1, lv, .long x.toInt64 :: r)
    | _ => none
  | .l2i => match st with
    | .long x :: r => some ([], pc + 1, lv, .int x.toInt32 :: r)
    | _ => none
  | .i2b => match st with
    | .int x :: r => some ([], pc + 1, lv, .int x.toInt8.toInt32 :: r)
    | _ => none
  | .dup => match st with
    | v :: r => if v.category = 1 then some ([], pc + 1, lv, v :: v :: r) else none
    | _ => none
  | .pop => match st with
    | v :: r => if v.category = 1 then some ([], pc + 1, lv, r) else none
    | _ => none
  | .dup_x1 => match st with
    | v :: u :: r => if v.category = 1 ∧ u.category = 1 then some ([], pc + 1, lv, v :: u :: v :: r) else none
    | _ => none
  | .dup_x2 => match st with
    | v :: u :: t :: r => if v.category = 1 ∧ u.category = 1 ∧ t.category = 1 then some ([], pc + 1, lv, v :: u :: t :: v :: r) else none
    | _ => none
  | .dup2 => match st with
    | v :: u :: r => if v.category = 1 ∧ u.category = 1 then some ([], pc + 1, lv, v :: u :: v :: u :: r) else none
    | _ => none
  | .goto off => if 0 ≤ (pc : Int) + off then some ([], ft_tgt pc off, lv, st) else none
  | .ifnull off => match st with
    | .ref _ :: r => some ([], pc + 3, lv, r)
    | .null :: r => if 0 ≤ (pc : Int) + off then some ([], ft_tgt pc off, lv, r) else none
    | _ => none
  | .ifnonnull off => match st with
    | .ref _ :: r => if 0 ≤ (pc : Int) + off then some ([], ft_tgt pc off, lv, r) else none
    | .null :: r => some ([], pc + 3, lv, r)
    | _ => none
  | _ => none
def ft_all : List Prop → Prop
  | [] => True
  | p :: r => p ∧ ft_all r
def ft_len (i : Instr) (n : Nat) : Nat := match i with
  | .bipush _ | .ldc _ | .iload _ | .lload _ | .aload _ | .istore _ | .lstore _ | .astore _ | .newarray _ => 2
  | .sipush _ | .ldc_w _ | .ldc2_w _ | .iinc _ _ | .ifCond _ _ | .if_icmp _ _ | .goto _ | .ifnull _ | .ifnonnull _ | .getfield _ | .putfield _ | .getstatic _ | .invokevirtual _ | .invokespecial _ | .invokestatic _ | .new _ | .anewarray _ => 3
  | .tableswitch _ _ _ _ => n
  | _ => 1
theorem ft_tgt_ok {pc : Nat} {off : Int} (h : 0 ≤ (pc : Int) + off) : (pc : Int) + off = (ft_tgt pc off : Int) := (Int.toNat_of_nonneg h).symm
/-- constants of the pool, by the tables -/
def ft_okC (own : String) (i : Instr) (pr : List Nat) : Prop := match i, pr with
  | .ldc ix, [_, v] => Cond.constant own ix (Int32.ofNat v) ∈ ft_tb
  | .ldc_w ix, [_, v] => Cond.constant own ix (Int32.ofNat v) ∈ ft_tb
  | .ldc2_w ix, [_, v] => Cond.constantLong own ix (Int64.ofNat v) ∈ ft_tb
  | _, _ => True
set_option maxHeartbeats 4000000 in
set_option maxRecDepth 100000 in
theorem ft_p_ok {D : ft_G} {y pc pc' n : Nat} {i : Instr} {pr : List Nat} {gs : List Prop} {lv lv' : List (Nat × Value)} {st st' : List Value} {h : ft_H} {uc us : Nat} {Q : Option Value → ft_H → Prop}
    (hd : decode (ft_m y).2.1 pc = .ok (i, n)) (hn : n = ft_len i n) (hc : ft_okC (ft_m y).1.cls i pr) (hp : ft_p i pr pc (ft_nL y) lv st = some (gs, pc', lv', st')) (hg : ft_all gs) (k : sm D y pc' lv' st' h uc us Q) : sm D y pc lv st h uc us Q := by
  match i, hd, hn, hc, hp with
  | .lconst _, hd, hn, hc, hp =>
    rw [hn] at hd
    cases hp
    exact sm_pure (fun p l en R s m args below meth c H locs Z ls C hl hA hS kk => lv_lconst C.1 C.2.1 hd rfl (kk ls hl)) k
  | .aconst_null, hd, hn, hc, hp =>
    rw [hn] at hd
    cases hp
    exact sm_pure (fun p l en R s m args below meth c H locs Z ls C hl hA hS kk => lv_null C.1 C.2.1 hd (kk ls hl)) k
  | .iconst _, hd, hn, hc, hp =>
    rw [hn] at hd
    unfold ft_p at hp
    dsimp only at hp
    split at hp
    · cases hp
      exact sm_pure (fun p l en R s m args below meth c H locs Z ls C hl hA hS kk => lv_iconst C.1 C.2.1 hd (ft_k32 _) (kk ls hl)) k
    · cases hp
      exact sm_pure (fun p l en R s m args below meth c H locs Z ls C hl hA hS kk => lv_iconst C.1 C.2.1 hd rfl (kk ls hl)) k
  | .bipush _, hd, hn, hc, hp =>
    rw [hn] at hd
    unfold ft_p at hp
    dsimp only at hp
    split at hp
    · split at hp
      · rename_i e
        cases hp
        exact sm_pure (fun p l en R s m args below meth c H locs Z ls C hl hA hS kk => lv_bipush C.1 C.2.1 hd (ft_k8 _ e) (kk ls hl)) k
      · cases hp
    · cases hp
      exact sm_pure (fun p l en R s m args below meth c H locs Z ls C hl hA hS kk => lv_bipush C.1 C.2.1 hd rfl (kk ls hl)) k
  | .sipush _, hd, hn, hc, hp =>
    rw [hn] at hd
    unfold ft_p at hp
    dsimp only at hp
    split at hp
    · split at hp
      · rename_i e
        cases hp
        exact sm_pure (fun p l en R s m args below meth c H locs Z ls C hl hA hS kk => lv_sipush C.1 C.2.1 hd (ft_k16 _ e) (kk ls hl)) k
      · cases hp
    · cases hp
      exact sm_pure (fun p l en R s m args below meth c H locs Z ls C hl hA hS kk => lv_sipush C.1 C.2.1 hd rfl (kk ls hl)) k
  | .ldc _, hd, hn, hc, hp =>
    rw [hn] at hd
    unfold ft_p at hp
    dsimp only at hp
    split at hp
    · cases hp
      exact sm_pure (fun p l en R s m args below meth c H locs Z ls C hl hA hS kk => lv_ldc C.1 C.2.1 C.2.2.2.1 (C.2.2.2.2.1 _ hc) hd (kk ls hl)) k
    · cases hp
  | .ldc_w _, hd, hn, hc, hp =>
    rw [hn] at hd
    unfold ft_p at hp
    dsimp only at hp
    split at hp
    · cases hp
      exact sm_pure (fun p l en R s m args below meth c H locs Z ls C hl hA hS kk => lv_ldcw C.1 C.2.1 C.2.2.2.1 (C.2.2.2.2.1 _ hc) hd (kk ls hl)) k
    · cases hp
  | .ldc2_w _, hd, hn, hc, hp =>
    rw [hn] at hd
    unfold ft_p at hp
    dsimp only at hp
    split at hp
    · cases hp
      exact sm_pure (fun p l en R s m args below meth c H locs Z ls C hl hA hS kk => lv_ldc2 C.1 C.2.1 C.2.2.2.1 (C.2.2.2.2.1 _ hc) hd (kk ls hl)) k
    · cases hp
  | .iload _, hd, hn, hc, hp =>
    rw [hn] at hd
    unfold ft_p at hp
    dsimp only at hp
    split at hp
    · rename_i e
      cases hp
      exact sm_pure (fun p l en R s m args below meth c H locs Z ls C hl hA hS kk => lv_iload C.1 C.2.1 hd (ft_lv hl e) (kk ls hl)) k
    · cases hp
  | .iload_n _, hd, hn, hc, hp =>
    rw [hn] at hd
    unfold ft_p at hp
    dsimp only at hp
    split at hp
    · rename_i e
      cases hp
      exact sm_pure (fun p l en R s m args below meth c H locs Z ls C hl hA hS kk => lv_iload_n C.1 C.2.1 hd rfl (ft_lv hl e) (kk ls hl)) k
    · cases hp
  | .lload _, hd, hn, hc, hp =>
    rw [hn] at hd
    unfold ft_p at hp
    dsimp only at hp
    split at hp
    · rename_i e
      cases hp
      exact sm_pure (fun p l en R s m args below meth c H locs Z ls C hl hA hS kk => lv_lload C.1 C.2.1 hd (ft_lv hl e) (kk ls hl)) k
    · cases hp
  | .lload_n _, hd, hn, hc, hp =>
    rw [hn] at hd
    unfold ft_p at hp
    dsimp only at hp
    split at hp
    · rename_i e
      cases hp
      exact sm_pure (fun p l en R s m args below meth c H locs Z ls C hl hA hS kk => lv_lload_n C.1 C.2.1 hd rfl (ft_lv hl e) (kk ls hl)) k
    · cases hp
  | .aload _, hd, hn, hc, hp =>
    rw [hn] at hd
    unfold ft_p at hp
    dsimp only at hp
    split at hp
    · rename_i e
      cases hp
      exact sm_pure (fun p l en R s m args below meth c H locs Z ls C hl hA hS kk => lv_aload C.1 C.2.1 hd (ft_lv hl e) (kk ls hl)) k
    · rename_i e
      cases hp
      exact sm_pure (fun p l en R s m args below meth c H locs Z ls C hl hA hS kk => lv_aloadN C.1 C.2.1 hd (ft_lv hl e) (kk ls hl)) k
    · cases hp
  | .aload_n _, hd, hn, hc, hp =>
    rw [hn] at hd
    unfold ft_p at hp
    dsimp only at hp
    split at hp
    · rename_i e
      cases hp
      exact sm_pure (fun p l en R s m args below meth c H locs Z ls C hl hA hS kk => lv_aload_n C.1 C.2.1 hd rfl (ft_lv hl e) (kk ls hl)) k
    · rename_i e
      cases hp
      exact sm_pure (fun p l en R s m args below meth c H locs Z ls C hl hA hS kk => lv_aload_nN C.1 C.2.1 hd rfl (ft_lv hl e) (kk ls hl)) k
    · cases hp
  | .istore _, hd, hn, hc, hp =>
    rw [hn] at hd
    unfold ft_p at hp
    dsimp only at hp
    split at hp
    · split at hp
      · rename_i e
        cases hp
        exact sm_pure (fun p l en R s m args below meth c H locs Z ls C hl hA hS kk => lv_istore C.1 C.2.1 hd hl e rfl kk) k
      · cases hp
    · cases hp
  | .istore_n _, hd, hn, hc, hp =>
    rw [hn] at hd
    unfold ft_p at hp
    dsimp only at hp
    split at hp
    · split at hp
      · rename_i e
        cases hp
        exact sm_pure (fun p l en R s m args below meth c H locs Z ls C hl hA hS kk => lv_istore_n C.1 C.2.1 hd rfl hl e rfl kk) k
      · cases hp
    · cases hp
  | .lstore _, hd, hn, hc, hp =>
    rw [hn] at hd
    unfold ft_p at hp
    dsimp only at hp
    split at hp
    · split at hp
      · rename_i e
        cases hp
        exact sm_pure (fun p l en R s m args below meth c H locs Z ls C hl hA hS kk => lv_lstore C.1 C.2.1 hd hl e rfl kk) k
      · cases hp
    · cases hp
  | .lstore_n _, hd, hn, hc, hp =>
    rw [hn] at hd
    unfold ft_p at hp
    dsimp only at hp
    split at hp
    · split at hp
      · rename_i e
        cases hp
        exact sm_pure (fun p l en R s m args below meth c H locs Z ls C hl hA hS kk => lv_lstore_n C.1 C.2.1 hd rfl hl e rfl kk) k
      · cases hp
    · cases hp
  | .astore _, hd, hn, hc, hp =>
    rw [hn] at hd
    unfold ft_p at hp
    dsimp only at hp
    split at hp
    · split at hp
      · rename_i e
        cases hp
        exact sm_pure (fun p l en R s m args below meth c H locs Z ls C hl hA hS kk => lv_astore C.1 C.2.1 hd hl e rfl kk) k
      · cases hp
    · split at hp
      · rename_i e
        cases hp
        exact sm_pure (fun p l en R s m args below meth c H locs Z ls C hl hA hS kk => lv_astoreN C.1 C.2.1 hd hl e rfl kk) k
      · cases hp
    · cases hp
  | .astore_n _, hd, hn, hc, hp =>
    rw [hn] at hd
    unfold ft_p at hp
    dsimp only at hp
    split at hp
    · split at hp
      · rename_i e
        cases hp
        exact sm_pure (fun p l en R s m args below meth c H locs Z ls C hl hA hS kk => lv_astore_n C.1 C.2.1 hd rfl hl e rfl kk) k
      · cases hp
    · split at hp
      · rename_i e
        cases hp
        exact sm_pure (fun p l en R s m args below meth c H locs Z ls C hl hA hS kk => lv_astore_nN C.1 C.2.1 hd rfl hl e rfl kk) k
      · cases hp
    · cases hp
  | .iinc _ _, hd, hn, hc, hp =>
    rw [hn] at hd
    unfold ft_p at hp
    dsimp only at hp
    split at hp
    · rename_i e0
      split at hp
      · rename_i e
        split at hp <;> cases hp
        obtain ⟨j, hj⟩ := List.getElem?_of_mem (ft_lk_mem e0)
        exact sm_pure (fun p l en R s m args below meth c H locs Z ls C hl hA hS kk => lv_iinc C.1 C.2.1 hd hl (k := j) hj (by rw [ft_k32]) e rfl kk) k
        obtain ⟨j, hj⟩ := List.getElem?_of_mem (ft_lk_mem e0)
        exact sm_pure (fun p l en R s m args below meth c H locs Z ls C hl hA hS kk => lv_iinc C.1 C.2.1 hd hl (k := j) hj rfl e rfl kk) k
      · cases hp
    · cases hp
  | .iadd, hd, hn, hc, hp =>
    rw [hn] at hd
    unfold ft_p at hp
    dsimp only at hp
    split at hp
    · cases hp
      exact sm_pure (fun p l en R s m args below meth c H locs Z ls C hl hA hS kk => lv_iadd C.1 C.2.1 hd (kk ls hl)) k
    · cases hp
  | .isub, hd, hn, hc, hp =>
    rw [hn] at hd
    unfold ft_p at hp
    dsimp only at hp
    split at hp
    · cases hp
      exact sm_pure (fun p l en R s m args below meth c H locs Z ls C hl hA hS kk => lv_isub C.1 C.2.1 hd (kk ls hl)) k
    · cases hp
  | .imul, hd, hn, hc, hp =>
    rw [hn] at hd
    unfold ft_p at hp
    dsimp only at hp
    split at hp
    · cases hp
      exact sm_pure (fun p l en R s m args below meth c H locs Z ls C hl hA hS kk => lv_imul C.1 C.2.1 hd (kk ls hl)) k
    · cases hp
  | .iand, hd, hn, hc, hp =>
    rw [hn] at hd
    unfold ft_p at hp
    dsimp only at hp
    split at hp
    · cases hp
      exact sm_pure (fun p l en R s m args below meth c H locs Z ls C hl hA hS kk => lv_iand C.1 C.2.1 hd (kk ls hl)) k
    · cases hp
  | .ior, hd, hn, hc, hp =>
    rw [hn] at hd
    unfold ft_p at hp
    dsimp only at hp
    split at hp
    · cases hp
      exact sm_pure (fun p l en R s m args below meth c H locs Z ls C hl hA hS kk => lv_ior C.1 C.2.1 hd (kk ls hl)) k
    · cases hp
  | .ixor, hd, hn, hc, hp =>
    rw [hn] at hd
    unfold ft_p at hp
    dsimp only at hp
    split at hp
    · cases hp
      exact sm_pure (fun p l en R s m args below meth c H locs Z ls C hl hA hS kk => lv_ixor C.1 C.2.1 hd (kk ls hl)) k
    · cases hp
  | .ishl, hd, hn, hc, hp =>
    rw [hn] at hd
    unfold ft_p at hp
    dsimp only at hp
    split at hp
    · cases hp
      exact sm_pure (fun p l en R s m args below meth c H locs Z ls C hl hA hS kk => lv_ishl C.1 C.2.1 hd (kk ls hl)) k
    · cases hp
  | .ishr, hd, hn, hc, hp =>
    rw [hn] at hd
    unfold ft_p at hp
    dsimp only at hp
    split at hp
    · cases hp
      exact sm_pure (fun p l en R s m args below meth c H locs Z ls C hl hA hS kk => lv_ishr C.1 C.2.1 hd (kk ls hl)) k
    · cases hp
  | .ladd, hd, hn, hc, hp =>
    rw [hn] at hd
    unfold ft_p at hp
    dsimp only at hp
    split at hp
    · cases hp
      exact sm_pure (fun p l en R s m args below meth c H locs Z ls C hl hA hS kk => lv_ladd C.1 C.2.1 hd (kk ls hl)) k
    · cases hp
  | .lsub, hd, hn, hc, hp =>
    rw [hn] at hd
    unfold ft_p at hp
    dsimp only at hp
    split at hp
    · cases hp
      exact sm_pure (fun p l en R s m args below meth c H locs Z ls C hl hA hS kk => lv_lsub C.1 C.2.1 hd (kk ls hl)) k
    · cases hp
  | .lmul, hd, hn, hc, hp =>
    rw [hn] at hd
    unfold ft_p at hp
    dsimp only at hp
    split at hp
    · cases hp
      exact sm_pure (fun p l en R s m args below meth c H locs Z ls C hl hA hS kk => lv_lmul C.1 C.2.1 hd (kk ls hl)) k
    · cases hp
  | .land, hd, hn, hc, hp =>
    rw [hn] at hd
    unfold ft_p at hp
    dsimp only at hp
    split at hp
    · cases hp
      exact sm_pure (fun p l en R s m args below meth c H locs Z ls C hl hA hS kk => lv_land C.1 C.2.1 hd (kk ls hl)) k
    · cases hp
  | .lor, hd, hn, hc, hp =>
    rw [hn] at hd
    unfold ft_p at hp
    dsimp only at hp
    split at hp
    · cases hp
      exact sm_pure (fun p l en R s m args below meth c H locs Z ls C hl hA hS kk => lv_lor C.1 C.2.1 hd (kk ls hl)) k
    · cases hp
  | .lxor, hd, hn, hc, hp =>
    rw [hn] at hd
    unfold ft_p at hp
    dsimp only at hp
    split at hp
    · cases hp
      exact sm_pure (fun p l en R s m args below meth c H locs Z ls C hl hA hS kk => lv_lxor C.1 C.2.1 hd (kk ls hl)) k
    · cases hp
  | .idiv, hd, hn, hc, hp =>
    rw [hn] at hd
    unfold ft_p at hp
    dsimp only at hp
    split at hp
    · cases hp
      exact sm_pure (fun p l en R s m args below meth c H locs Z ls C hl hA hS kk => lv_idiv C.1 C.2.1 hd hg.1 (kk ls hl)) k
    · cases hp
  | .irem, hd, hn, hc, hp =>
    rw [hn] at hd
    unfold ft_p at hp
    dsimp only at hp
    split at hp
    · cases hp
      exact sm_pure (fun p l en R s m args below meth c H locs Z ls C hl hA hS kk => lv_irem C.1 C.2.1 hd hg.1 (kk ls hl)) k
    · cases hp
  | .lshl, hd, hn, hc, hp =>
    rw [hn] at hd
    unfold ft_p at hp
    dsimp only at hp
    split at hp
    · cases hp
      exact sm_pure (fun p l en R s m args below meth c H locs Z ls C hl hA hS kk => lv_lshl C.1 C.2.1 hd rfl (kk ls hl)) k
    · cases hp
  | .lshr, hd, hn, hc, hp =>
    rw [hn] at hd
    unfold ft_p at hp
    dsimp only at hp
    split at hp
    · cases hp
      exact sm_pure (fun p l en R s m args below meth c H locs Z ls C hl hA hS kk => lv_lshr C.1 C.2.1 hd rfl (kk ls hl)) k
    · cases hp
  | .i2l, hd, hn, hc, hp =>
    rw [hn] at hd
    unfold ft_p at hp
    dsimp only at hp
    split at hp
    · cases hp
      exact sm_pure (fun p l en R s m args below meth c H locs Z ls C hl hA hS kk => lv_i2l C.1 C.2.1 hd rfl (kk ls hl)) k
    · cases hp
  | .l2i, hd, hn, hc, hp =>
    rw [hn] at hd
    unfold ft_p at hp
    dsimp only at hp
    split at hp
    · cases hp
      exact sm_pure (fun p l en R s m args below meth c H locs Z ls C hl hA hS kk => lv_l2i C.1 C.2.1 hd rfl (kk ls hl)) k
    · cases hp
  | .i2b, hd, hn, hc, hp =>
    rw [hn] at hd
    unfold ft_p at hp
    dsimp only at hp
    split at hp
    · cases hp
      exact sm_pure (fun p l en R s m args below meth c H locs Z ls C hl hA hS kk => lv_i2b C.1 C.2.1 hd rfl (kk ls hl)) k
    · cases hp
  | .lcmp, hd, hn, hc, hp =>
    rw [hn] at hd
    unfold ft_p at hp
    dsimp only at hp
    split at hp
    · cases hp
      exact sm_pure (fun p l en R s m args below meth c H locs Z ls C hl hA hS kk => W.lcmp C.1 C.2.1 hd (kk ls hl)) k
    · cases hp
  | .dup, hd, hn, hc, hp =>
    rw [hn] at hd
    unfold ft_p at hp
    dsimp only at hp
    split at hp
    · split at hp
      · rename_i e
        cases hp
        exact sm_pure (fun p l en R s m args below meth c H locs Z ls C hl hA hS kk => lv_dup C.1 C.2.1 hd e (kk ls hl)) k
      · cases hp
    · cases hp
  | .pop, hd, hn, hc, hp =>
    rw [hn] at hd
    unfold ft_p at hp
    dsimp only at hp
    split at hp
    · split at hp
      · rename_i e
        cases hp
        exact sm_pure (fun p l en R s m args below meth c H locs Z ls C hl hA hS kk => lv_pop C.1 C.2.1 hd e (kk ls hl)) k
      · cases hp
    · cases hp
  | .dup_x1, hd, hn, hc, hp =>
    rw [hn] at hd
    unfold ft_p at hp
    dsimp only at hp
    split at hp
    · split at hp
      · rename_i e
        cases hp
        exact sm_pure (fun p l en R s m args below meth c H locs Z ls C hl hA hS kk => lv_dup_x1 C.1 C.2.1 hd e.1 e.2 (kk ls hl)) k
      · cases hp
    · cases hp
  | .dup_x2, hd, hn, hc, hp =>
    rw [hn] at hd
    unfold ft_p at hp
    dsimp only at hp
    split at hp
    · split at hp
      · rename_i e
        cases hp
        exact sm_pure (fun p l en R s m args below meth c H locs Z ls C hl hA hS kk => lv_dup_x2 C.1 C.2.1 hd e.1 e.2.1 e.2.2 (kk ls hl)) k
      · cases hp
    · cases hp
  | .dup2, hd, hn, hc, hp =>
    rw [hn] at hd
    unfold ft_p at hp
    dsimp only at hp
    split at hp
    · split at hp
      · rename_i e
        cases hp
        exact sm_pure (fun p l en R s m args below meth c H locs Z ls C hl hA hS kk => lv_dup2_11 C.1 C.2.1 hd e.1 e.2 (kk ls hl)) k
      · cases hp
    · cases hp
  | .goto _, hd, hn, hc, hp =>
    rw [hn] at hd
    unfold ft_p at hp
    dsimp only at hp
    split at hp
    · rename_i e
      cases hp
      exact sm_pure (fun p l en R s m args below meth c H locs Z ls C hl hA hS kk => lv_goto C.1 C.2.1 hd (ft_tgt_ok e) (kk ls hl)) k
    · cases hp
  | .ifnull _, hd, hn, hc, hp =>
    rw [hn] at hd
    unfold ft_p at hp
    dsimp only at hp
    split at hp
    · cases hp
      exact sm_pure (fun p l en R s m args below meth c H locs Z ls C hl hA hS kk => lv_ifnull C.1 C.2.1 hd (kk ls hl)) k
    · split at hp
      · rename_i e
        cases hp
        exact sm_pure (fun p l en R s m args below meth c H locs Z ls C hl hA hS kk => lv_ifnullN C.1 C.2.1 hd (ft_tgt_ok e) (kk ls hl)) k
      · cases hp
    · cases hp
  | .ifnonnull _, hd, hn, hc, hp =>
    rw [hn] at hd
    unfold ft_p at hp
    dsimp only at hp
    split at hp
    · split at hp
      · rename_i e
        cases hp
        exact sm_pure (fun p l en R s m args below meth c H locs Z ls C hl hA hS kk => lv_ifnonnull C.1 C.2.1 hd (ft_tgt_ok e) (kk ls hl)) k
      · cases hp
    · cases hp
      exact sm_pure (fun p l en R s m args below meth c H locs Z ls C hl hA hS kk => lv_ifnonnullN C.1 C.2.1 hd (kk ls hl)) k
    · cases hp
  | .aaload, hd, hn, hc, hp => cases hp
  | .aastore, hd, hn, hc, hp => cases hp
  | .anewarray _, hd, hn, hc, hp => cases hp
  | .areturn, hd, hn, hc, hp => cases hp
  | .arraylength, hd, hn, hc, hp => cases hp
  | .athrow, hd, hn, hc, hp => cases hp
  | .baload, hd, hn, hc, hp => cases hp
  | .bastore, hd, hn, hc, hp => cases hp
  | .caload, hd, hn, hc, hp => cases hp
  | .castore, hd, hn, hc, hp => cases hp
  | .checkcast _, hd, hn, hc, hp => cases hp
  | .d2f, hd, hn, hc, hp => cases hp
  | .d2i, hd, hn, hc, hp => cases hp
  | .d2l, hd, hn, hc, hp => cases hp
  | .dadd, hd, hn, hc, hp => cases hp
  | .daload, hd, hn, hc, hp => cases hp
  | .dastore, hd, hn, hc, hp => cases hp
  | .dcmp _, hd, hn, hc, hp => cases hp
  | .dconst _, hd, hn, hc, hp => cases hp
  | .ddiv, hd, hn, hc, hp => cases hp
  | .dload _, hd, hn, hc, hp => cases hp
  | .dload_n _, hd, hn, hc, hp => cases hp
  | .dmul, hd, hn, hc, hp => cases hp
  | .dneg, hd, hn, hc, hp => cases hp
  | .drem, hd, hn, hc, hp => cases hp
  | .dreturn, hd, hn, hc, hp => cases hp
  | .dstore _, hd, hn, hc, hp => cases hp
  | .dstore_n _, hd, hn, hc, hp => cases hp
  | .dsub, hd, hn, hc, hp => cases hp
  | .dup2_x1, hd, hn, hc, hp => cases hp
  | .dup2_x2, hd, hn, hc, hp => cases hp
  | .f2d, hd, hn, hc, hp => cases hp
  | .f2i, hd, hn, hc, hp => cases hp
  | .f2l, hd, hn, hc, hp => cases hp
  | .fadd, hd, hn, hc, hp => cases hp
  | .faload, hd, hn, hc, hp => cases hp
  | .fastore, hd, hn, hc, hp => cases hp
  | .fcmp _, hd, hn, hc, hp => cases hp
  | .fconst _, hd, hn, hc, hp => cases hp
  | .fdiv, hd, hn, hc, hp => cases hp
  | .fload _, hd, hn, hc, hp => cases hp
  | .fload_n _, hd, hn, hc, hp => cases hp
  | .fmul, hd, hn, hc, hp => cases hp
  | .fneg, hd, hn, hc, hp => cases hp
  | .frem, hd, hn, hc, hp => cases hp
  | .freturn, hd, hn, hc, hp => cases hp
  | .fstore _, hd, hn, hc, hp => cases hp
  | .fstore_n _, hd, hn, hc, hp => cases hp
  | .fsub, hd, hn, hc, hp => cases hp
  | .getfield _, hd, hn, hc, hp => cases hp
  | .getstatic _, hd, hn, hc, hp => cases hp
  | .goto_w _, hd, hn, hc, hp => cases hp
  | .i2c, hd, hn, hc, hp => cases hp
  | .i2d, hd, hn, hc, hp => cases hp
  | .i2f, hd, hn, hc, hp => cases hp
  | .i2s, hd, hn, hc, hp => cases hp
  | .iaload, hd, hn, hc, hp => cases hp
  | .iastore, hd, hn, hc, hp => cases hp
  | .if_acmp _ _, hd, hn, hc, hp => cases hp
  | .if_icmp _ _, hd, hn, hc, hp => cases hp
  | .ifCond _ _, hd, hn, hc, hp => cases hp
  | .ineg, hd, hn, hc, hp => cases hp
  | .instanceof _, hd, hn, hc, hp => cases hp
  | .invokedynamic _, hd, hn, hc, hp => cases hp
  | .invokeinterface _ _, hd, hn, hc, hp => cases hp
  | .invokespecial _, hd, hn, hc, hp => cases hp
  | .invokestatic _, hd, hn, hc, hp => cases hp
  | .invokevirtual _, hd, hn, hc, hp => cases hp
  | .ireturn, hd, hn, hc, hp => cases hp
  | .iushr, hd, hn, hc, hp => cases hp
  | .jsr _, hd, hn, hc, hp => cases hp
  | .jsr_w _, hd, hn, hc, hp => cases hp
  | .l2d, hd, hn, hc, hp => cases hp
  | .l2f, hd, hn, hc, hp => cases hp
  | .laload, hd, hn, hc, hp => cases hp
  | .lastore, hd, hn, hc, hp => cases hp
  | .ldiv, hd, hn, hc, hp => cases hp
  | .lneg, hd, hn, hc, hp => cases hp
  | .lookupswitch _ _, hd, hn, hc, hp => cases hp
  | .lrem, hd, hn, hc, hp => cases hp
  | .lreturn, hd, hn, hc, hp => cases hp
  | .lushr, hd, hn, hc, hp => cases hp
  | .monitorenter, hd, hn, hc, hp => cases hp
  | .monitorexit, hd, hn, hc, hp => cases hp
  | .multianewarray _ _, hd, hn, hc, hp => cases hp
  | .new _, hd, hn, hc, hp => cases hp
  | .newarray _, hd, hn, hc, hp => cases hp
  | .nop, hd, hn, hc, hp => cases hp
  | .pop2, hd, hn, hc, hp => cases hp
  | .putfield _, hd, hn, hc, hp => cases hp
  | .putstatic _, hd, hn, hc, hp => cases hp
  | .ret _, hd, hn, hc, hp => cases hp
  | .return_, hd, hn, hc, hp => cases hp
  | .saload, hd, hn, hc, hp => cases hp
  | .sastore, hd, hn, hc, hp => cases hp
  | .swap, hd, hn, hc, hp => cases hp
  | .tableswitch _ _ _ _, hd, hn, hc, hp => cases hp
end
section
def ft_ty (c k : Nat) : FieldType := (ft_tys.getD c []).getD k .int
def ft_cd (c : Nat) : vw_C := ft_cl.getD c ("", fun _ => ("", "", "", false), 0)
set_option maxRecDepth 100000 in
theorem ft_cl_in : ∀ q ∈ ft_cl, ∀ w ∈ u_ws q.1 q.2.1 q.2.2, w ∈ ft_tb := by decide +kernel
set_option maxRecDepth 100000 in
theorem ft_tok : ∀ c, c < ft_nc → ∀ k, k < (ft_cd c).2.2 → parseFieldDescriptor ((ft_cd c).2.1 k).2.2.1 = some (ft_ty c k) := by decide +kernel
set_option maxRecDepth 100000 in
theorem ft_nm : ∀ c, c < ft_nc → ∀ a, a < (ft_cd c).2.2 → ∀ b, b < (ft_cd c).2.2 → a ≠ b → ((ft_cd c).2.1 a).2.1 ≠ ((ft_cd c).2.1 b).2.1 := by decide +kernel
theorem ft_cl_len : ft_cl.length = ft_nc := by decide +kernel
theorem ft_cd_at {c : Nat} (h : c < ft_nc) : ft_cl[c]? = some (ft_cd c) := by
  have h1 : c < ft_cl.length := by rw [ft_cl_len]; exact h
  unfold ft_cd
  rw [List.getD_eq_getElem?_getD, List.getElem?_eq_getElem h1]
  rfl
theorem ft_kd_obj {c : Nat} (h : c < ft_nc) : ft_kd (c + 1) = some (.inl c) := by
  unfold ft_kd
  dsimp only
  rw [if_pos h]
theorem ft_kd_mem {c : Nat} {ty : FieldType} (h : ft_kd c = some (.inr ty)) : ty ∈ ft_ak := by
  unfold ft_kd at h
  split at h
  · cases h
  · split at h
    · cases h
    · rename_i c' _
      cases hq : ft_ak[c' - ft_nc]? with
      | none => rw [hq] at h; cases h
      | some t =>
        rw [hq] at h
        cases h
        exact List.mem_of_getElem? hq
theorem ft_at.kept {D : ft_G} {h h1 : ft_H} {H H1 : Heap} {a : Nat} (hq : H1[a]? = H[a]?) (hv : h1.1 a = h.1 a) (hk : h1.2.1 a = h.2.1 a) (q : ft_at D h H a) : ft_at D h1 H1 a := by
  unfold ft_at at q ⊢
  rw [hk, hv]
  split at q
  · trivial
  · obtain ⟨r, e1, e2⟩ := q
    exact ⟨r, e1, e2.kept hq⟩
  · rw [hq]
    exact q
theorem ft_set_ne {h : ft_H} {a k b : Nat} {v : Value} (hb : b ≠ a) : (ft_set h a k v).1 b = h.1 b := by
  funext j
  simp [ft_set, hb]
theorem ft_set_V {h : ft_H} {a k : Nat} {v : Value} : (ft_set h a k v).1 a = updV (h.1 a) k v := by
  funext j
  simp [ft_set, updV]
/-- an object's places -/
theorem ft_A.obj {D : ft_G} {h : ft_H} {H : Heap} {a ci : Nat} (hA : ft_A D h H) (hci : ci < ft_nc) (hk : (h.2.1 a).1 = ci + 1) : t_OB a (D.1 ci) (ft_cd ci).2.2 (D.2.1 ci) H (h.1 a) := by
  have q := hA.2.2 a
  unfold ft_at at q
  rw [hk, ft_kd_obj hci] at q
  obtain ⟨r, e1, e2⟩ := q
  rw [ft_cd_at hci] at e1
  cases e1
  exact e2
theorem ft_A.arr {D : ft_G} {h : ft_H} {H : Heap} {a : Nat} {ty : FieldType} (hA : ft_A D h H) (hk : ft_kd (h.2.1 a).1 = some (.inr ty)) : H[a]? = some (arrV (D.2.2.1 ty) (h.2.1 a).2 (h.1 a)) := by
  have q := hA.2.2 a
  unfold ft_at at q
  rw [hk] at q
  exact q
theorem ft_A.set {D : ft_G} {h : ft_H} {H H1 : Heap} {a k : Nat} {v : Value} (hA : ft_A D h H) (z : H1.size = H.size) (oq : ∀ q : Nat, q ≠ a → H1[q]? = H[q]?) (ha : ft_at D (ft_set h a k v) H1 a) : ft_A D (ft_set h a k v) H1 := by
  refine ⟨z.trans hA.1, hA.2.1, fun b => ?_⟩
  by_cases hb : b = a
  · subst hb; exact ha
  · exact ft_at.kept (oq b hb) (ft_set_ne hb) rfl (hA.2.2 b)
theorem ft_A.setArr {D : ft_G} {h : ft_H} {H H1 : Heap} {a k : Nat} {v : Value} {ty : FieldType} (hA : ft_A D h H) (hk : ft_kd (h.2.1 a).1 = some (.inr ty)) (e : H1[a]? = some ((arrV (D.2.2.1 ty) (h.2.1 a).2 (h.1 a)).setSlot k v)) (z : H1.size = H.size) (oq : ∀ q : Nat, q ≠ a → H1[q]? = H[q]?) : ft_A D (ft_set h a k v) H1 := by
  refine hA.set z oq ?_
  unfold ft_at
  rw [show (ft_set h a k v).2.1 = h.2.1 from rfl, hk, ft_set_V]
  rw [e, arrV_store]
section FTM
variable {D : ft_G} {y pc : Nat} {lv : List (Nat × Value)} {r : List Value} {h : ft_H} {uc us : Nat} {Q : Option Value → ft_H → Prop}
theorem sm_get {ix ci k a : Nat} {v : Value} (hd : decode (ft_m y).2.1 pc = .ok (.getfield ix, 3)) (hci : ci < ft_nc) (hkN : k < (ft_cd ci).2.2) (hlk : Cond.fieldLink (ft_m y).1.cls ix ((ft_cd ci).2.1 k).1 ((ft_cd ci).2.1 k).2.1 ((ft_cd ci).2.1 k).2.2.1 ∈ ft_tb)
    (hk : (h.2.1 a).1 = ci + 1) (hv : h.1 a k = v) (kk : sm D y (pc + 3) lv (v :: r) h uc us Q) : sm D y pc lv (.ref a :: r) h uc us Q := by
  refine sm_pure (fun p l en R s m args below meth c H locs Z ls C hl hA hS kk => ?_) kk
  obtain ⟨cell, q1, q2, q3, q4⟩ := hA.obj hci hk
  have hc := ft_cd_at hci
  obtain ⟨hS', hfc, kC, hkC, hkind⟩ := C.2.2.2.2.2.1.1 ci _ hc
  obtain ⟨cf, kf, fi, f, hi, hsl⟩ := hS' k hkN
  refine W.getf C.1 C.2.1 C.2.2.2.1 (C.2.2.2.2.1 _ hlk) hi (u_facts hfc hkC (u_lays C.2.2.2.2.1 (ft_cl_in _ (List.mem_of_getElem? hc)) hkN) hi).1 q1 (by rw [q3]; exact fun h => by cases h) (v := v) ?_ rfl rfl hd (kk ls hl)
  rw [hsl, q4 k hkN, hv]
theorem sm_put {ix ci k a : Nat} {v : Value} (hd : decode (ft_m y).2.1 pc = .ok (.putfield ix, 3)) (hci : ci < ft_nc) (hkN : k < (ft_cd ci).2.2) (hlk : Cond.fieldLink (ft_m y).1.cls ix ((ft_cd ci).2.1 k).1 ((ft_cd ci).2.1 k).2.1 ((ft_cd ci).2.1 k).2.2.1 ∈ ft_tb)
    (hfin : ((ft_cd ci).2.1 k).2.2.2 = false ∨ (((ft_cd ci).2.1 k).2.2.2 = true ∧ (ft_m y).1.name = "<init>" ∧ ((ft_cd ci).2.1 k).1 = (ft_m y).1.cls))
    (hk : (h.2.1 a).1 = ci + 1) (hB : ft_B D ≤ a) (hn : narrow (ft_ty ci k) v = v) (hfit : fits (ft_ty ci k) v = true) (kk : sm D y (pc + 3) lv r (ft_set h a k v) uc us Q) : sm D y pc lv (v :: .ref a :: r) h uc us Q := by
  intro p l e R s m args below meth c H locs Z ls C rt hl hA hS
  obtain ⟨cell, q1, q2, q3, q4⟩ := hA.obj hci hk
  have hc := ft_cd_at hci
  have hin := ft_cl_in _ (List.mem_of_getElem? hc)
  obtain ⟨hS', hfc, kC, hkC, hkind⟩ := C.2.2.2.2.2.1.1 ci _ hc
  have hap : ∀ x y, x < (ft_cd ci).2.2 → y < (ft_cd ci).2.2 → x ≠ y → (D.2.1 ci) x ≠ (D.2.1 ci) y := by
    intro x z hx hz hne
    obtain ⟨_, _, _, fa, hia, ea⟩ := hS' x hx
    obtain ⟨_, _, _, fb, hib, eb⟩ := hS' z hz
    rw [← ea, ← eb]
    refine u_apart (u_lays C.2.2.2.2.1 hin hx) (u_lays C.2.2.2.2.1 hin hz) hia hib ?_
    rw [(State.fieldFound?_type hia (ft_tok ci hci x hx)).1, (State.fieldFound?_type hib (ft_tok ci hci z hz)).1]
    exact ft_nm ci hci x hx z hz hne
  obtain ⟨cf, kf, fi, f, hi, hsl⟩ := hS' k hkN
  have hlay := C.2.2.2.2.1 _ (hin _ (u_in_lay hkN))
  have hst := (u_facts hfc hkC (u_lays C.2.2.2.2.1 hin hkN) hi).1
  have fin : ∀ H' : Heap, H'[a]? = some (cell.setSlot f.slot v) → H'.size = H.size → (∀ q, q ≠ a → H'[q]? = H[q]?) → W p l e R s m args below meth c H' (locs ++ [⟨a, f.slot⟩]) uc us Z { F0 m pc ls (v :: .ref a :: r) with pc := pc + 3, stack := r } := by
    intro H' e1 e2 e3
    refine kk p l e R s m args below meth c H' _ Z ls C rt hl (hA.set e2 e3 ?_) (hS.put e2 e3 hB)
    unfold ft_at
    rw [show (ft_set h a k v).2.1 = h.2.1 from rfl, hk, ft_kd_obj hci, ft_set_V]
    rw [hsl] at e1
    exact ⟨_, hc, ⟨_, e1, q2, q3, t_set q4 hap hkN v⟩⟩
  rcases hfin with hfin | ⟨hfin, hnm, hdecl⟩
  · unfold u_lay at hlay
    rw [if_neg (by rw [hfin]; decide)] at hlay
    have h6 := u_store hfc hkC hkind hlay hi (ft_tok ci hci k hkN) hn hfit
    exact W.putK C.1 C.2.1 (f := f) ⟨C.2.2.2.1, C.2.2.2.2.1 _ hlk, ⟨_, _, _, hi⟩, hst⟩ (by rw [q2]; exact h6) q1 q3 (by rw [hsl]; exact k2_hasslot (q4 k hkN)) rfl rfl hd fin
  · unfold u_lay at hlay
    rw [if_pos hfin] at hlay
    have hcf : m.cls = cf := by
      obtain ⟨_, _, c', _, _, _, -, -, hf', -, -, -, hown2, -⟩ := Cond.laysFinal_spec hlay
      have e1 : c' = cf := by have := hi.symm.trans hf'; simp at this; exact this.1.symm
      rw [hdecl] at hown2
      rw [← e1]; exact Option.some.inj (C.2.2.2.1.symm.trans hown2)
    have h6 := u_fits hfc hkC hkind (Or.inr hlay) hi (ft_tok ci hci k hkN) hn hfit
    exact W.putFinK C.1 C.2.1 C.2.2.2.1 (C.2.2.2.2.1 _ hlk) hi hst hcf (C.2.2.2.2.2.2.1.trans hnm) (by rw [q2]; exact h6) q1 q3 (by rw [hsl]; exact k2_hasslot (q4 k hkN)) rfl rfl hd fin
theorem sm_ald {i : Instr} {a : Nat} {j : Int32} {v : Value} {ty : FieldType} (hd : decode (ft_m y).2.1 pc = .ok (i, 1)) (hi : (i = .iaload ∧ ty = .int) ∨ (i = .laload ∧ ty = .long) ∨ (i = .baload ∧ ty = .byte) ∨ (i = .baload ∧ ty = .boolean) ∨ (i = .aaload ∧ ty.isReference = true))
    (hk : ft_kd (h.2.1 a).1 = some (.inr ty)) (hin : vp_in j (h.2.1 a).2) (hv : h.1 a j.toNatClampNeg = v) (kk : sm D y (pc + 1) lv (v :: r) h uc us Q) : sm D y pc lv (.int j :: .ref a :: r) h uc us Q := by
  refine sm_pure (fun p l en R s m args below meth c H locs Z ls C hl hA hS kk => ?_) kk
  have hcell := hA.arr hk
  have hAr := (C.2.2.2.2.2.1.2.1 ty (ft_kd_mem hk)).1 (h.2.1 a).2 (h.1 a)
  have hlt : j.toNatClampNeg < (h.2.1 a).2 := Nat.not_le.mp fun q => hin (Or.inr q)
  have hi1 : ¬ (j < 0 ∨ (arrV (D.2.2.1 ty) (h.2.1 a).2 (h.1 a)).slots.size ≤ j.toNatClampNeg) := by rw [arrV_size]; exact hin
  have hr : (arrV (D.2.2.1 ty) (h.2.1 a).2 (h.1 a)).slots[j.toNatClampNeg]? = some v := by rw [arrV_read _ _ hlt, hv]
  have hkn : (arrV (D.2.2.1 ty) (h.2.1 a).2 (h.1 a)).vm ≠ .unknown := fun q => by cases q
  rcases hi with ⟨rfl, rfl⟩ | ⟨rfl, rfl⟩ | ⟨rfl, rfl⟩ | ⟨rfl, rfl⟩ | ⟨rfl, hty⟩
  · exact W.iald C.1 C.2.1 hcell hAr hkn hi1 hr rfl rfl hd (kk ls hl)
  · exact W.lald C.1 C.2.1 hcell hAr hkn hi1 hr rfl rfl hd (kk ls hl)
  · exact W.bald C.1 C.2.1 hcell hAr hkn hi1 hr rfl rfl hd (kk ls hl)
  · exact W.zald C.1 C.2.1 hcell hAr hkn hi1 hr rfl rfl hd (kk ls hl)
  · exact W.aald C.1 C.2.1 hcell hAr hty hkn hi1 hr rfl rfl hd (kk ls hl)
theorem sm_ast {i : Instr} {a : Nat} {j : Int32} {v w : Value} {ty : FieldType} (hd : decode (ft_m y).2.1 pc = .ok (i, 1))
    (hi : (i = .iastore ∧ ty = .int ∧ ∃ x : Int32, v = .int x ∧ w = .int x) ∨ (i = .lastore ∧ ty = .long ∧ ∃ x : Int64, v = .long x ∧ w = .long x) ∨ (i = .bastore ∧ ty = .byte ∧ ∃ x : Int32, v = .int x ∧ w = narrow .byte (.int x)) ∨ (i = .bastore ∧ ty = .boolean ∧ ∃ x : Int32, v = .int x ∧ w = narrow .boolean (.int x)))
    (hk : ft_kd (h.2.1 a).1 = some (.inr ty)) (hB : ft_B D ≤ a) (hin : vp_in j (h.2.1 a).2) (kk : sm D y (pc + 1) lv r (ft_set h a j.toNatClampNeg w) uc us Q) : sm D y pc lv (v :: .int j :: .ref a :: r) h uc us Q := by
  intro p l e R s m args below meth c H locs Z ls C rt hl hA hS
  have hcell := hA.arr hk
  have hAr := (C.2.2.2.2.2.1.2.1 ty (ft_kd_mem hk)).1 (h.2.1 a).2 (h.1 a)
  have hi1 : ¬ (j < 0 ∨ (arrV (D.2.2.1 ty) (h.2.1 a).2 (h.1 a)).slots.size ≤ j.toNatClampNeg) := by rw [arrV_size]; exact hin
  have hkn : (arrV (D.2.2.1 ty) (h.2.1 a).2 (h.1 a)).vm ≠ .unknown := fun q => by cases q
  rcases hi with ⟨rfl, rfl, x, rfl, rfl⟩ | ⟨rfl, rfl, x, rfl, rfl⟩ | ⟨rfl, rfl, x, rfl, rfl⟩ | ⟨rfl, rfl, x, rfl, rfl⟩
  · exact W.iast C.1 C.2.1 hcell hAr hkn hi1 rfl rfl hd (fun H' e1 e2 e3 => kk p l e R s m args below meth c H' _ Z ls C rt hl (hA.setArr hk e1 e2 e3) (hS.put e2 e3 hB))
  · exact W.last C.1 C.2.1 hcell hAr hkn hi1 rfl rfl hd (fun H' e1 e2 e3 => kk p l e R s m args below meth c H' _ Z ls C rt hl (hA.setArr hk e1 e2 e3) (hS.put e2 e3 hB))
  · exact W.bast C.1 C.2.1 hcell hAr hkn hi1 rfl rfl hd (fun H' e1 e2 e3 => kk p l e R s m args below meth c H' _ Z ls C rt hl (hA.setArr hk e1 e2 e3) (hS.put e2 e3 hB))
  · exact W.zast C.1 C.2.1 hcell hAr hkn hi1 rfl rfl hd (fun H' e1 e2 e3 => kk p l e R s m args below meth c H' _ Z ls C rt hl (hA.setArr hk e1 e2 e3) (hS.put e2 e3 hB))
theorem sm_aast {a v ci : Nat} {j : Int32} (hd : decode (ft_m y).2.1 pc = .ok (.aastore, 1)) (hci : ci < ft_nc) (hk : ft_kd (h.2.1 a).1 = some (.inr (.object (ft_cd ci).1))) (hkv : (h.2.1 v).1 = ci + 1)
    (hB : ft_B D ≤ a) (hin : vp_in j (h.2.1 a).2) (kk : sm D y (pc + 1) lv r (ft_set h a j.toNatClampNeg (.ref v)) uc us Q) : sm D y pc lv (.ref v :: .int j :: .ref a :: r) h uc us Q := by
  intro p l e R s m args below meth c H locs Z ls C rt hl hA hS
  have hcell := hA.arr hk
  obtain ⟨cellV, g1, g2, g3, -⟩ := hA.obj hci hkv
  have hcls := (C.2.2.2.2.2.1.1 ci _ (ft_cd_at hci)).2
  obtain ⟨kA, comp, k1, k2, k3, -⟩ := (C.2.2.2.2.2.1.2.1 _ (ft_kd_mem hk)).2
  have hcomp : comp = D.1 ci := Option.some.inj (k3.symm.trans hcls.1)
  subst hcomp
  obtain ⟨kC, hkC, -⟩ := hcls.2
  have h0 : ¬ j < 0 := fun q => hin (Or.inl q)
  have hlt : j.toNatClampNeg < (h.2.1 a).2 := Nat.not_le.mp fun q => hin (Or.inr q)
  exact W.aast C.1 C.2.1 hcell (fun q h => by cases h) (fun h => by cases h) k1 k2 rfl hkC ⟨h0, by rw [arrV_size]; exact hlt⟩ g1 (fun q h => by rw [g3] at h; cases h) (by rw [g2]; exact hkC) (by rw [g2]; exact va_assign hcls) rfl rfl hd (fun H' e1 e2 e3 => kk p l e R s m args below meth c H' _ Z ls C rt hl (hA.setArr hk e1 e2 e3) (hS.put e2 e3 hB))
theorem sm_alen {a : Nat} {ty : FieldType} {v : Value} (hd : decode (ft_m y).2.1 pc = .ok (.arraylength, 1)) (hk : ft_kd (h.2.1 a).1 = some (.inr ty)) (hv : Value.int (Int32.ofNat (h.2.1 a).2) = v) (kk : sm D y (pc + 1) lv (v :: r) h uc us Q) : sm D y pc lv (.ref a :: r) h uc us Q := by
  subst hv
  refine sm_pure (fun p l en R s m args below meth c H locs Z ls C hl hA hS kk => ?_) kk
  have hAr := (C.2.2.2.2.2.1.2.1 ty (ft_kd_mem hk)).1 (h.2.1 a).2 (h.1 a)
  exact W.alen C.1 C.2.1 (hA.arr hk) hAr (by rw [arrV_size]) rfl rfl hd (kk ls hl)
theorem sm_gets {ix k : Nat} {q : String × String × String} {host : String} (hd : decode (ft_m y).2.1 pc = .ok (.getstatic ix, 3)) (hq : ft_st[k]? = some q) (hlk : Cond.fieldLinkNest (ft_m y).1.cls ix q.1 q.2.1 q.2.2 host ∈ ft_tb) (kk : sm D y (pc + 3) lv (.ref (D.2.2.2.2.1 k) :: r) h uc us Q) : sm D y pc lv r h uc us Q :=
  sm_pure (fun p l en R s m args below meth c H locs Z ls C hl hA hS kk => va_getsN C.1 C.2.1 (C.2.2.2.2.2.1.2.2.1 k q hq).1 hS C.2.2.2.1 (C.2.2.2.2.1 _ hlk) (fun _ x => x) hd (kk ls hl)) kk
theorem sm_tld {k : Nat} {q : String × String × String} {j : Int32} (hd : decode (ft_m y).2.1 pc = .ok (.iaload, 1)) (hq : ft_st[k]? = some q) (hin : vp_in j 4) (kk : sm D y (pc + 1) lv (.int (ft_sv k j.toNatClampNeg) :: r) h uc us Q) : sm D y pc lv (.int j :: .ref (D.2.2.2.2.1 k) :: r) h uc us Q :=
  sm_pure (fun p l en R s m args below meth c H locs Z ls C hl hA hS kk => va_ti C.1 C.2.1 (C.2.2.2.2.2.1.2.2.1 k q hq).2 hS hin rfl hd (kk ls hl)) kk
theorem sm_sld {j : Int32} (hd : decode (ft_m y).2.1 pc = .ok (.iaload, 1)) (hin : vp_in j D.2.2.2.2.2.2.1) (kk : sm D y (pc + 1) lv (.int (D.2.2.2.2.2.2.2 j.toNatClampNeg) :: r) h uc us Q) : sm D y pc lv (.int j :: .ref D.2.2.2.2.2.1 :: r) h uc us Q :=
  sm_pure (fun p l en R s m args below meth c H locs Z ls C hl hA hS kk => va_sld C.1 C.2.1 C.2.2.2.2.2.1.2.2.2.2.1 (Nat.lt_of_lt_of_le C.2.2.2.2.2.1.2.2.2.2.2.1 C.2.2.2.2.2.1.2.2.2.2.2.2) (Nat.not_le.mpr C.2.2.2.2.2.1.2.2.2.2.2.1) hS hin hd (kk ls hl)) kk
theorem sm_slen {v : Value} (hd : decode (ft_m y).2.1 pc = .ok (.arraylength, 1)) (hv : Value.int (Int32.ofNat D.2.2.2.2.2.2.1) = v) (kk : sm D y (pc + 1) lv (v :: r) h uc us Q) : sm D y pc lv (.ref D.2.2.2.2.2.1 :: r) h uc us Q := by
  subst hv
  exact sm_pure (fun p l en R s m args below meth c H locs Z ls C hl hA hS kk => va_slen C.1 C.2.1 C.2.2.2.2.2.1.2.2.2.2.1 (Nat.lt_of_lt_of_le C.2.2.2.2.2.1.2.2.2.2.2.1 C.2.2.2.2.2.1.2.2.2.2.2.2) (Nat.not_le.mpr C.2.2.2.2.2.1.2.2.2.2.2.1) hS hd (kk ls hl)) kk
end FTM
end
section
section FTB
variable {D : ft_G} {y pc : Nat} {lv : List (Nat × Value)} {r : List Value} {h : ft_H} {uc us : Nat} {Q : Option Value → ft_H → Prop}
/-- the branches: the condition, in the kit's words -/
def ft_cond1 (c : Jvm.ClassFile.Cond) (x : Int32) : Prop := match c with
  | .eq => x = 0
  | .ne => ¬ x = 0
  | .lt => x < 0
  | .ge => 0 ≤ x
  | .gt => 0 < x
  | .le => x ≤ 0
def ft_cond2 (c : Jvm.ClassFile.Cond) (x y : Int32) : Prop := match c with
  | .eq => x = y
  | .ne => ¬ x = y
  | .lt => x < y
  | .ge => y ≤ x
  | .gt => y < x
  | .le => x ≤ y
theorem sm_if {cn : Jvm.ClassFile.Cond} {off : Int} {x : Int32} {tgt : Nat} (hd : decode (ft_m y).2.1 pc = .ok (.ifCond cn off, 3)) (ht : (pc : Int) + off = (tgt : Int)) (kt : ft_cond1 cn x → sm D y tgt lv r h uc us Q) (kf : ¬ ft_cond1 cn x → sm D y (pc + 3) lv r h uc us Q) : sm D y pc lv (.int x :: r) h uc us Q := by
  intro p l e R s m args below meth c H locs Z ls C rt hl hA hS
  have k1 := fun q => kt q p l e R s m args below meth c H locs Z ls C rt hl hA hS
  have k2 := fun q => kf q p l e R s m args below meth c H locs Z ls C rt hl hA hS
  match cn, hd, k1, k2 with
  | .eq, hd, k1, k2 => exact lv_if_eq C.1 C.2.1 hd ht k1 k2
  | .ne, hd, k1, k2 => exact lv_if_ne C.1 C.2.1 hd ht k1 (fun q => k2 (fun z => z q))
  | .lt, hd, k1, k2 => exact lv_if_lt C.1 C.2.1 hd ht k1 k2
  | .ge, hd, k1, k2 => exact lv_if_ge C.1 C.2.1 hd ht k1 k2
  | .gt, hd, k1, k2 => exact lv_if_gt C.1 C.2.1 hd ht k1 k2
  | .le, hd, k1, k2 => exact lv_if_le C.1 C.2.1 hd ht k1 k2
theorem sm_icmp {cn : Jvm.ClassFile.Cond} {off : Int} {x z : Int32} {tgt : Nat} (hd : decode (ft_m y).2.1 pc = .ok (.if_icmp cn off, 3)) (ht : (pc : Int) + off = (tgt : Int)) (kt : ft_cond2 cn x z → sm D y tgt lv r h uc us Q) (kf : ¬ ft_cond2 cn x z → sm D y (pc + 3) lv r h uc us Q) : sm D y pc lv (.int z :: .int x :: r) h uc us Q := by
  intro p l e R s m args below meth c H locs Z ls C rt hl hA hS
  have k1 := fun q => kt q p l e R s m args below meth c H locs Z ls C rt hl hA hS
  have k2 := fun q => kf q p l e R s m args below meth c H locs Z ls C rt hl hA hS
  match cn, hd, k1, k2 with
  | .eq, hd, k1, k2 => exact lv_icmp_eq C.1 C.2.1 hd ht k1 k2
  | .ne, hd, k1, k2 => exact lv_icmp_ne C.1 C.2.1 hd ht k1 (fun q => k2 (fun z => z q))
  | .lt, hd, k1, k2 => exact lv_icmp_lt C.1 C.2.1 hd ht k1 k2
  | .ge, hd, k1, k2 => exact lv_icmp_ge C.1 C.2.1 hd ht k1 k2
  | .gt, hd, k1, k2 => exact lv_icmp_gt C.1 C.2.1 hd ht k1 k2
  | .le, hd, k1, k2 => exact lv_icmp_le C.1 C.2.1 hd ht k1 k2
theorem sm_swOut {dflt lo hi : Int} {offs : Array Int} {len tgt : Nat} {x : Int32} (hd : decode (ft_m y).2.1 pc = .ok (.tableswitch dflt lo hi offs, len)) (hx : x.toInt < lo ∨ hi < x.toInt) (ht : (pc : Int) + dflt = (tgt : Int)) (k : sm D y tgt lv r h uc us Q) : sm D y pc lv (.int x :: r) h uc us Q :=
  sm_pure (fun p l en R s m args below meth c H locs Z ls C hl hA hS kk => lv_tableOut C.1 C.2.1 hd hx ht (kk ls hl)) k
theorem sm_swIn {dflt lo hi off : Int} {offs : Array Int} {len tgt : Nat} {x : Int32} (hd : decode (ft_m y).2.1 pc = .ok (.tableswitch dflt lo hi offs, len)) (h1 : ¬ x.toInt < lo) (h2 : ¬ hi < x.toInt) (ho : offs[(x.toInt - lo).toNat]? = some off) (ht : (pc : Int) + off = (tgt : Int)) (k : sm D y tgt lv r h uc us Q) : sm D y pc lv (.int x :: r) h uc us Q :=
  sm_pure (fun p l en R s m args below meth c H locs Z ls C hl hA hS kk => lv_tableIn C.1 C.2.1 hd h1 h2 ho ht (kk ls hl)) k
/-- the end -/
theorem sm_ret {i : Instr} {v : Option Value} (hd : decode (ft_m y).2.1 pc = .ok (i, 1)) (hi : ft_ret (ft_m y).2.2.2.1 v i) (h1 : uc ≤ ft_mc y) (h2 : us ≤ ft_mz y) (hq : Q v h) : sm D y pc lv v.toList h uc us Q := by
  intro p l e R s m args below meth c H locs Z ls C rt hl hA hS
  exact W.widen h1 h2 (rt pc ls i v h H locs hq hA hS hi hd)
/-- Object's constructor -/
theorem sm_objInit {ix a : Nat} (hd : decode (ft_m y).2.1 pc = .ok (.invokespecial ix, 3)) (h1 : Cond.methodLink (ft_m y).1.cls ix Lib.objectInit ∈ ft_tb) (h2 : Cond.instanceMethod Lib.objectInit ∈ ft_tb) (h3 : Cond.code Lib.objectInit ⟨#[0xb1]⟩ 1 none ∈ ft_tb) (hf : 1 ≤ (ft_m y).2.2.2.2.1) (hw : 20 ≤ (ft_m y).2.2.2.2.2.1) (hr : (r.map fun v => v.category).sum ≤ 8)
    (k : sm D y (pc + 3) lv r h uc us Q) : sm D y pc lv (.ref a :: r) h uc us Q := by
  refine sm_pure (fun p l en R s m args below meth c H locs Z ls C hl hA hS kk => ?_) k
  have hR := C.2.2.2.2.2.2.2.2.2.1
  have hL := C.2.2.2.2.2.2.2.2.2.2.1
  exact W.objInit C.1 C.2.1 C.2.2.2.1 (C.2.2.2.2.1 _ h1) (C.2.2.2.2.1 _ h2) (C.2.2.2.2.1 _ h3) rfl (by rw [C.2.2.1]; exact hl.1) rfl hd (Nat.le_trans hf hR) (by show 2 * 0 + _ + 12 ≤ _; omega) (kk ls hl)
theorem ft_new_ne {h : ft_H} {kd : Nat × Nat} {f : Nat → Value} {b : Nat} (hb : b ≠ h.2.2) : (ft_new h kd f).1 b = h.1 b ∧ (ft_new h kd f).2.1 b = h.2.1 b := by
  refine ⟨?_, ?_⟩
  · funext j
    simp [ft_new, hb]
  · simp [ft_new, hb]
theorem ft_new_V {h : ft_H} {kd : Nat × Nat} {f : Nat → Value} : (ft_new h kd f).1 h.2.2 = f := by
  funext j
  simp [ft_new]
theorem ft_new_K {h : ft_H} {kd : Nat × Nat} {f : Nat → Value} : (ft_new h kd f).2.1 h.2.2 = kd := by simp [ft_new]
theorem ft_at.lt {h : ft_H} {H : Heap} {a : Nat} (q : ft_at D h H a) (hn : ft_kd (h.2.1 a).1 ≠ none) : a < H.size := by
  unfold ft_at at q
  split at q
  · rename_i e; exact absurd e hn
  · obtain ⟨r, e1, cell, e2, -⟩ := q
    exact (Array.getElem?_eq_some_iff.mp e2).1
  · exact (Array.getElem?_eq_some_iff.mp q).1
/-- what isn't there yet isn't pictured, so a new cell takes nobody's place -/
theorem ft_A.new {h : ft_H} {H H1 : Heap} {kd : Nat × Nat} {f : Nat → Value} (hA : ft_A D h H) (z : H1.size = H.size + 1) (oq : ∀ q : Nat, q < H.size → H1[q]? = H[q]?) (ha : ft_at D (ft_new h kd f) H1 h.2.2) : ft_A D (ft_new h kd f) H1 := by
  refine ⟨by rw [z, hA.1]; rfl, Nat.le_succ_of_le hA.2.1, fun b => ?_⟩
  by_cases hb : b = h.2.2
  · subst hb; exact ha
  · obtain ⟨e1, e2⟩ := ft_new_ne (kd := kd) (f := f) hb
    by_cases hn : ft_kd (h.2.1 b).1 = none
    · unfold ft_at
      rw [e2, hn]
      trivial
    · exact ft_at.kept (oq b ((hA.2.2 b).lt hn)) e1 e2 (hA.2.2 b)
theorem sm_newA {at_ : ArrayType} {n : Int32} {N kd : Nat} (hd : decode (ft_m y).2.1 pc = .ok (.newarray at_, 2)) (hw : Cond.arrayClass (newarray.typeOf at_) ∈ ft_tb) (hkd : ft_kd kd = some (.inr (newarray.typeOf at_))) (hra : ∀ C, newarray.typeOf at_ ≠ .object C) (hn : ¬ n < 0) (hN : n.toNatClampNeg = N) (hb : N * componentBytes (newarray.typeOf at_) ≤ 536870912) (h1 : uc + 1 ≤ ft_mc y) (h2 : us + N ≤ ft_mz y)
    (k : sm D y (pc + 2) lv (.ref h.2.2 :: r) (ft_new h (kd, N) (fun _ => defaultValue (newarray.typeOf at_))) (uc + 1) (us + N) Q) : sm D y pc lv (.int n :: r) h uc us Q := by
  intro p l e R s m args below meth c H locs Z ls C rt hl hA hS
  have hc1 := C.2.2.2.2.2.2.2.2.2.2.2.1
  have hc2 := C.2.2.2.2.2.2.2.2.2.2.2.2.1
  refine va_newaK C.1 C.2.1 (C.2.2.2.2.1 _ hw) rfl hd rfl hn hN hb (Nat.le_trans h1 hc1) (Nat.le_trans h2 hc2) hA.1 fun H' cA e1 e2 e3 hAr hnm => ?_
  have hRA := (C.2.2.2.2.2.1.2.1 _ (ft_kd_mem hkd)).2
  have hcA : s.vm.findClass ("[" ++ (newarray.typeOf at_).toString) = some (D.2.2.1 (newarray.typeOf at_)) := by
    unfold va_RA at hRA
    split at hRA
    · rename_i C' e; exact absurd e (hra C')
    · exact hRA
  have hcc : cA = D.2.2.1 (newarray.typeOf at_) := Option.some.inj (hnm.symm.trans hcA)
  subst hcc
  refine k p l e R s m args below meth c H' locs Z ls C rt hl (hA.new (by rw [e2, hA.1]) (fun q hq => e3 q (by rw [← hA.1]; exact hq)) ?_) ⟨Nat.le_trans hS.1 (by rw [e2, hA.1]; omega), fun x q1 q2 => (e3 x (by rw [← hA.1]; exact Nat.lt_of_lt_of_le q1 hS.1)).trans (hS.2.1 x q1 q2), hS.2.2⟩
  unfold ft_at
  rw [ft_new_K, ft_new_V]
  simp only [hkd]
  exact e1
end FTB
end
section
theorem ft_K.go {D : ft_G} {s U : State} {H : Heap} {locs : List Loc} (hK : ft_K D s) (hS : va_S (ft_own D) s.heap H locs) (hU : U.heap = H) (hW : s.WarmedH U.vm) : ft_K D U := by
  obtain ⟨h1, h2, h3, h4, h5, h6, h7⟩ := hK
  have ha := hW.alike
  have hq : ∀ a : Nat, a < s.heap.size → ¬ ft_own D a → U.heap[a]? = s.heap[a]? := fun a p1 p2 => by rw [hU]; exact hS.2.1 a p1 p2
  refine ⟨fun c q hc => u_Kn_moved ha (h1 c q hc), fun ty ht => ⟨arrOfT_moved ha (h2 ty ht).1, (h2 ty ht).2.moved ha⟩, fun k q hk => ⟨((h3 k q hk).1.moved ha).kept hq, ((h3 k q hk).2.moved ha).kept hq⟩, fun w hw hn => ?_, (h5.moved ha).kept (hq _ (Nat.lt_of_lt_of_le h6 h7) (Nat.not_le.mpr h6)), h6, ?_⟩
  · have hb := h4 w hw hn
    match w, hn, hb with
    | .methodLinkNest a i x hst, _, hb => exact va_Nw.warmM hW hb
    | .fieldLinkNest a i b n d hst, _, hb => exact va_Nw.warmF hW hb
    | .arrayOver (.object C), _, hb => exact va_AO.moved ha hb
  · rw [hU]
    exact Nat.le_trans h7 hS.1
theorem ft_K.at {D : ft_G} {u U : State} (hvm : u.vm.Alike U.vm) (hh : U.heap = u.heap) (hw : ∀ w ∈ ft_tb, ft_nestW w = true → w.before #[] u = true → w.before #[] U = true) (hK : ft_K D u) : ft_K D U := by
  obtain ⟨h1, h2, h3, h4, h5, h6, h7⟩ := hK
  exact ⟨fun c q hc => u_Kn_moved hvm (h1 c q hc), fun ty ht => ⟨arrOfT_moved hvm (h2 ty ht).1, (h2 ty ht).2.moved hvm⟩, fun k q hk => by rw [hh]; exact ⟨(h3 k q hk).1.moved hvm, (h3 k q hk).2.moved hvm⟩, fun w hq hn => hw w hq hn (h4 w hq hn), by rw [hh]; exact h5.moved hvm, h6, by rw [hh]; exact h7⟩
/-- the words of a method: its code first, then the good ones -/
def ft_ws (y : Nat) : List Jvm.Cond := Cond.code (ft_m y).1 (ft_m y).2.1 (ft_m y).2.2.1 (ft_m y).2.2.2.1 :: ft_good
def ft_rm (y : Nat) : Room := { frames := (ft_m y).2.2.2.2.1, cells := ft_mc y, slots := ft_mz y, locals := (ft_m y).2.2.2.2.2.1 }
theorem ft_goodIn {y : Nat} (h : Cond.code (ft_m y).1 (ft_m y).2.1 (ft_m y).2.2.1 (ft_m y).2.2.2.1 ∈ ft_tb) : GoodIn ft_tb (ft_ws y) := by
  intro w hw
  rcases List.mem_cons.mp hw with rfl | hw
  · exact ⟨h, Or.inl rfl⟩
  · obtain ⟨h1, h2⟩ := List.mem_filter.mp hw
    exact ⟨List.mem_filter.mpr ⟨h1, by rw [h2]; rfl⟩, good_of_word h2⟩
/-- what a call starts with, and what it ends with -/
def ft_Pc (D : ft_G) (as : List Value) (h : ft_H) : Array Value → State → Prop := fun v U => v = as.toArray ∧ ft_A D h U.heap ∧ ft_K D U
def ft_Qc (D : ft_G) (Q : Option Value → ft_H → Prop) : Array Value → State → Outcome → State → Prop := fun _ st oc t => (∃ (v : Option Value) (h' : ft_H), oc = .returned v ∧ Q v h' ∧ ft_A D h' t.heap) ∧ va_F (ft_own D) st t
theorem ft_ofW {l : Launch} {y : MethodName} {ws ws' : List Jvm.Cond} {rm : Room} {Pc : Array Value → State → Prop} {Qc : Array Value → State → Outcome → State → Prop} {mc ms : Nat} {free : Addr → Prop} {cc : ByteArray} {maxL : Nat} {ret : Option FieldType}
    (hy : plainFor y = true) (hw : ws = Cond.code y cc maxL ret :: ws')
    (body : ∀ p e s m args below meth c s₁, BodyLoose p l y (headSpec ws rm) cc maxL ret e s m args below meth c s₁ → c.maxLocals = maxL → Pc args s →
      W p l e (headSpec ws rm).room s m args below meth c s.heap [] 0 0 (MQ below Qc args s mc ms free) (entryFrame m args maxL)) : Met l y ws rm Pc Qc mc ms free := by
  refine MetFree.of_bodySF (code := cc) (maxLocals := maxL) (ret := ret) hy ?_ ?_
  · intro args s m h hn
    obtain ⟨meth, c, h1, h2, h3, h4, h5, h6, -, -⟩ := Cond.code_spec hn (atoms_spec (ws := ws) h _ (by rw [hw]; exact List.mem_cons_self))
    exact ⟨meth, c, h1, h2, h3, h4, h5, h6⟩
  · intro p e s m args below meth c s₁ B hml hP _
    have hh0 : s₁.heap = s.heap := by rw [B.state]; rfl
    obtain ⟨t, a1, o, b1, b2, b3⟩ := body p e s m args below meth c s₁ B hml hP s₁ hh0 (Stand.of_body B)
    exact ⟨t, o, a1, b1, b2, ⟨b3.1, b3.2⟩⟩
theorem ft_met {D : ft_G} {y : Nat} {as : List Value} {h : ft_H} {Q : Option Value → ft_H → Prop} (l : Launch) (hy : plainFor (ft_m y).1 = true) (hle : (lg_sl as).length ≤ ft_nL y) (k : sm D y 0 (lv_args 0 as) [] h 0 0 Q) : Met l (ft_m y).1 (ft_ws y) (ft_rm y) (ft_Pc D as h) (ft_Qc D Q) (ft_mc y) (ft_mz y) (ft_own D) := by
  refine ft_ofW (cc := (ft_m y).2.1) (maxL := ft_nL y) (ret := (ft_m y).2.2.2.1) hy rfl ?_
  intro p e s m args below meth c s₁ B hml hv
  obtain ⟨rfl, hA, hK⟩ := hv
  have hts0 := atoms_spec (ws := ft_ws y) B.pre
  have hts : ∀ w ∈ ft_tb, w.before as.toArray s = true := by
    intro w hw
    obtain ⟨h1, h2⟩ := List.mem_filter.mp hw
    by_cases hg : goodWord w = true
    · exact hts0 w (List.mem_cons_of_mem _ (List.mem_filter.mpr ⟨h1, hg⟩))
    · have hn : ft_nestW w = true := by simpa [hg] using h2
      have hb := hK.2.2.2.1 w hw hn
      match w, hn, hb with
      | .methodLinkNest a i x hst, _, hb => exact va_Nw.use rfl hb
      | .fieldLinkNest a i b n d hst, _, hb => exact va_Nw.use rfl hb
      | .arrayOver (.object C), _, hb => exact va_AO.use hb
  have hC : ft_C D y p (headSpec (ft_ws y) (ft_rm y)).room s m as.toArray meth c := ⟨B.exec, B.bytes, hml, findClass_of_methodNamed B.named, hts, hK, (name_of_methodNamed B.named B.method).1, B.notSynchronized, B.returns, Nat.le_refl _, Nat.le_refl _, Nat.le_refl _, Nat.le_refl _, hK.2.2.2.2.2.2⟩
  have hl := lv_entry as (n := ft_nL y) hle
  rw [lg_entry_eq]
  refine k p l e _ s m as.toArray below meth c s.heap [] _ _ hC ?_ hl hA va_S.rf
  intro pc' ls' i v h' H' locs' hq hA' hS' hr hd
  have hlocks := B.notSynchronized
  have hret := B.returns
  have fin : ∀ t : State, t.heap = H' → s.WarmedH t.vm → ft_Qc D Q as.toArray s (.returned v) t := fun t ht hW => ⟨⟨v, h', rfl, hq, by rw [ht]; exact hA'⟩, hS'.F ht⟩
  unfold ft_ret at hr
  split at hr
  · rename_i e1
    exact W.vret B.exec B.bytes (hret.trans e1) fin hS'.2.2 hd
  · rename_i e1
    exact W.iret B.exec B.bytes (hret.trans e1) fin hS'.2.2 hd
  · rename_i e1
    exact W.zret B.exec B.bytes (hret.trans e1) hr fin hS'.2.2 hd
  · rename_i e1
    exact W.lret B.exec B.bytes (hret.trans e1) fin hS'.2.2 hd
  · rename_i e1
    exact W.aret B.exec B.bytes (hret.trans e1) (Or.inl ⟨_, rfl⟩) (Or.inl rfl) fin hS'.2.2 hd
  · rename_i e1
    exact W.aret B.exec B.bytes (hret.trans e1) (Or.inl ⟨_, rfl⟩) (Or.inr ⟨_, rfl⟩) fin hS'.2.2 hd
  · cases hr
section FTK
variable {D : ft_G} {y pc : Nat} {lv : List (Nat × Value)} {r : List Value} {h : ft_H} {uc us : Nat} {Q : Option Value → ft_H → Prop}
theorem ft_blind {as : List Value} : FrameBlind (ft_Pc D as h) := by
  intro a U g mk q
  obtain ⟨q1, q2, q3⟩ := q
  refine ⟨q1, q2, ft_K.at (u := U) (U := U.calling g mk a) (Vm.Alike.refl U.vm) rfl (fun w _ hn hb => ?_) q3⟩
  match w, hn, hb with
  | .methodLinkNest a i x hst, _, hb => exact hb
  | .fieldLinkNest a i b n d hst, _, hb => exact hb
  | .arrayOver (.object C), _, hb => exact hb
/-- behind a call -/
theorem sm_ran {z : Nat} {as st0 : List Value} {Qz : Option Value → ft_H → Prop} (kk : ∀ (v : Option Value) (h' : ft_H), Qz v h' → sm D y (pc + 3) lv (v.toList ++ r) h' (uc + ft_mc z) (us + ft_mz z) Q)
    (run : ∀ (p : Program) (l : Launch) (e : Env) (R : Room) (s : State) (m : MethodId) (args : Array Value) (below : List Frame) (meth : Method) (c : Code) (H : Heap) (locs : List Loc) (ls : Array Slot), ft_C D y p R s m args meth c → ls.size = ft_nL y → ft_A D h H → va_S (ft_own D) s.heap H locs →
      va_Run p l e R s m args below meth c H locs uc us (ft_mc z) (ft_mz z) (F0 m pc ls st0) r (ft_Qc D Qz as.toArray) (ft_own D)) : sm D y pc lv st0 h uc us Q := by
  intro p l e R s m args below meth c H locs Z ls C rt hl hA hS T hT X
  obtain ⟨v, st₀, t, T', L, h0, X', hL, e1, e2, ⟨⟨v', h', hv, hq, hA'⟩, hz, hk⟩, st⟩ := run p l e R s m args below meth c H locs ls C hl.1 hA hS T hT X
  cases hv
  rw [h0] at hz hk
  rw [← e1] at hz hk hA'
  have hS' : va_S (ft_own D) s.heap T'.heap (locs ++ L) := ⟨Nat.le_trans hS.1 hz, fun q h1 h2 => by rw [hk q (Nat.lt_of_lt_of_le h1 hS.1) h2]; exact hS.2.1 q h1 h2, fun q hq => (List.mem_append.mp hq).elim (hS.2.2 q) (hL q)⟩
  obtain ⟨t2, a1, b1⟩ := kk v h' hq p l e R s m args below meth c T'.heap (locs ++ L) Z ls C rt hl hA' hS' T' rfl X'
  exact ⟨t2, st t2 a1, b1⟩
theorem ft_pre {as : List Value} {s : State} {H : Heap} {locs : List Loc} (hK : ft_K D s) (hA : ft_A D h H) (hS : va_S (ft_own D) s.heap H locs) : ∀ U : State, U.heap = H → s.WarmedH U.vm → ft_Pc D as h as.toArray U :=
  fun U hU hW => ⟨rfl, by rw [hU]; exact hA, hK.go hS hU hW⟩
/-- what a call asks of the tables and of the room; n: how many arguments -/
def ft_cok (y z n : Nat) : Prop := Cond.code (ft_m z).1 (ft_m z).2.1 (ft_m z).2.2.1 (ft_m z).2.2.2.1 ∈ ft_tb ∧ Cond.initialized (ft_m z).1.cls ∈ ft_tb ∧ plainFor (ft_m z).1 = true ∧
  ((ft_m z).1.cls ≠ "java/lang/invoke/MethodHandle" ∧ (ft_m z).1.cls ≠ "java/lang/invoke/VarHandle" ∧ (parseMethodDescriptor (ft_m z).1.desc).map (fun d => d.parameters.length) = some n) ∧
  (ft_m z).2.2.2.2.1 + 1 ≤ (ft_m y).2.2.2.2.1 ∧ 8 + ((ft_m z).2.2.1 + 11) + (ft_m z).2.2.2.2.2.1 ≤ (ft_m y).2.2.2.2.2.1
theorem sm_callS {z ix : Nat} {as : List Value} {Qz : Option Value → ft_H → Prop} (hd : decode (ft_m y).2.1 pc = .ok (.invokestatic ix, 3)) (hok : ft_cok y z as.length) (hl : (∃ host, Cond.methodLinkNest (ft_m y).1.cls ix (ft_m z).1 host ∈ ft_tb) ∨ Cond.methodLink (ft_m y).1.cls ix (ft_m z).1 ∈ ft_tb) (hst : Cond.static (ft_m z).1 ∈ ft_tb)
    (hw : (r.map fun v => v.category).sum ≤ 8) (hle : (lg_sl as).length ≤ ft_nL z) (h1 : uc + ft_mc z ≤ ft_mc y) (h2 : us + ft_mz z ≤ ft_mz y)
    (kz : sm D z 0 (lv_args 0 as) [] h 0 0 Qz) (kk : ∀ (v : Option Value) (h' : ft_H), Qz v h' → sm D y (pc + 3) lv (v.toList ++ r) h' (uc + ft_mc z) (us + ft_mz z) Q) : sm D y pc lv (as.reverse ++ r) h uc us Q := by
  refine sm_ran (z := z) (as := as) kk (fun p l e R s m args below meth c H locs ls C hsz hA hS => ?_)
  obtain ⟨hc, hin, hpl, hdd, hfr, hlo⟩ := hok
  obtain ⟨c1, c2, c3, c4, c5, c6, c7, c8, c9, c10, c11, c12, c13, c14⟩ := C
  have hM := ft_met l hpl hle kz
  rcases hl with ⟨host, hl⟩ | hl
  · exact va_runSN (nL := ft_nL y) (n := as.length) ⟨c1, c2, c3, c4, c5⟩ hM ⟨va_cnB as.length c5 (ft_goodIn hc) rfl rfl rfl (c6.2.2.2.1 _ hl rfl) (c5 _ hin) hdd ⟨Nat.le_trans hfr c10, Nat.le_trans hlo c11⟩, c5 _ hst, trivial⟩ ⟨ft_blind, ft_pre c6 hA hS⟩ rfl rfl hsz rfl (lv_room hw) hd ⟨Nat.le_trans h1 c12, Nat.le_trans h2 c13⟩
  · exact va_runS (nL := ft_nL y) (n := as.length) ⟨c1, c2, c3, c4, c5⟩ hM ⟨callB_of as.length c5 (ft_goodIn hc) rfl rfl rfl (c5 _ hin) (c5 _ hl) hdd ⟨Nat.le_trans hfr c10, Nat.le_trans hlo c11⟩, c5 _ hst⟩ ⟨ft_blind, ft_pre c6 hA hS⟩ rfl rfl hsz rfl (lv_room hw) hd ⟨Nat.le_trans h1 c12, Nat.le_trans h2 c13⟩
theorem sm_callI {z ix a : Nat} {as : List Value} {Qz : Option Value → ft_H → Prop} (hd : decode (ft_m y).2.1 pc = .ok (.invokespecial ix, 3)) (hok : ft_cok y z as.length) (hl : (∃ host, Cond.methodLinkNest (ft_m y).1.cls ix (ft_m z).1 host ∈ ft_tb) ∨ Cond.methodLink (ft_m y).1.cls ix (ft_m z).1 ∈ ft_tb) (hst : Cond.instanceMethod (ft_m z).1 ∈ ft_tb) (hnm : (ft_m z).1.name = "<init>") (hrt : (ft_m z).2.2.2.1 = none)
    (hw : (r.map fun v => v.category).sum ≤ 8) (hle : (lg_sl (.ref a :: as)).length ≤ ft_nL z) (h1 : uc + ft_mc z ≤ ft_mc y) (h2 : us + ft_mz z ≤ ft_mz y)
    (kz : sm D z 0 (lv_args 0 (.ref a :: as)) [] h 0 0 Qz) (kk : ∀ (v : Option Value) (h' : ft_H), Qz v h' → sm D y (pc + 3) lv (v.toList ++ r) h' (uc + ft_mc z) (us + ft_mz z) Q) : sm D y pc lv (as.reverse ++ .ref a :: r) h uc us Q := by
  refine sm_ran (z := z) (as := .ref a :: as) kk (fun p l e R s m args below meth c H locs ls C hsz hA hS => ?_)
  obtain ⟨hc, hin, hpl, hdd, hfr, hlo⟩ := hok
  obtain ⟨c1, c2, c3, c4, c5, c6, c7, c8, c9, c10, c11, c12, c13, c14⟩ := C
  have hM := ft_met l hpl hle kz
  have hG := ft_goodIn hc
  have hws : ft_ws z = Cond.code (ft_m z).1 (ft_m z).2.1 (ft_m z).2.2.1 none :: ft_good := by unfold ft_ws; rw [hrt]
  rcases hl with ⟨host, hl⟩ | hl
  · exact va_runIN (nL := ft_nL y) (n := as.length) ⟨c1, c2, c3, c4, c5⟩ hM ⟨va_cnB as.length c5 hG hws rfl rfl (c6.2.2.2.1 _ hl rfl) (c5 _ hin) hdd ⟨Nat.le_trans hfr c10, Nat.le_trans hlo c11⟩, hnm, c5 _ hst⟩ ⟨ft_blind, ft_pre c6 hA hS⟩ rfl rfl hsz rfl (lv_room hw) hd ⟨Nat.le_trans h1 c12, Nat.le_trans h2 c13⟩
  · exact va_runI (nL := ft_nL y) (n := as.length) ⟨c1, c2, c3, c4, c5⟩ hM (cwI as.length c5 hG hws rfl rfl (c5 _ hin) (c5 _ hl) (c5 _ hst) hnm hdd ⟨Nat.le_trans hfr c10, Nat.le_trans hlo c11⟩) ⟨ft_blind, ft_pre c6 hA hS⟩ rfl rfl hsz rfl (lv_room hw) hd ⟨Nat.le_trans h1 c12, Nat.le_trans h2 c13⟩
theorem sm_callV {z ix a ci : Nat} {as : List Value} {Qz : Option Value → ft_H → Prop} (hd : decode (ft_m y).2.1 pc = .ok (.invokevirtual ix, 3)) (hok : ft_cok y z as.length) (hl : (∃ host, Cond.methodLinkNest (ft_m y).1.cls ix (ft_m z).1 host ∈ ft_tb) ∨ Cond.methodLink (ft_m y).1.cls ix (ft_m z).1 ∈ ft_tb) (hst : Cond.instanceMethod (ft_m z).1 ∈ ft_tb) (hse : Cond.selects (ft_m z).1.cls (ft_m z).1 (ft_m z).1 ∈ ft_tb)
    (hci : ci < ft_nc) (hcc : (ft_cd ci).1 = (ft_m z).1.cls) (hka : (h.2.1 a).1 = ci + 1)
    (hw : (r.map fun v => v.category).sum ≤ 8) (hle : (lg_sl (.ref a :: as)).length ≤ ft_nL z) (h1 : uc + ft_mc z ≤ ft_mc y) (h2 : us + ft_mz z ≤ ft_mz y)
    (kz : sm D z 0 (lv_args 0 (.ref a :: as)) [] h 0 0 Qz) (kk : ∀ (v : Option Value) (h' : ft_H), Qz v h' → sm D y (pc + 3) lv (v.toList ++ r) h' (uc + ft_mc z) (us + ft_mz z) Q) : sm D y pc lv (as.reverse ++ .ref a :: r) h uc us Q := by
  refine sm_ran (z := z) (as := .ref a :: as) kk (fun p l e R s m args below meth c H locs ls C hsz hA hS => ?_)
  obtain ⟨hc, hin, hpl, hdd, hfr, hlo⟩ := hok
  obtain ⟨c1, c2, c3, c4, c5, c6, c7, c8, c9, c10, c11, c12, c13, c14⟩ := C
  have hM := ft_met l hpl hle kz
  have hG := ft_goodIn hc
  have hrecv : ∃ cellB : Cell, H[a]? = some cellB ∧ cellB.vm.isStatics = false ∧ s.vm.findClass (ft_m z).1.cls = some cellB.cls := by
    obtain ⟨cell, q1, q2, q3, q4⟩ := hA.obj hci hka
    exact ⟨cell, q1, by rw [q3]; rfl, by rw [q2, ← hcc]; exact (c6.1 ci _ (ft_cd_at hci)).2.1⟩
  rcases hl with ⟨host, hl⟩ | hl
  · exact va_runVN (nL := ft_nL y) (n := as.length) ⟨c1, c2, c3, c4, c5⟩ hM ⟨va_cnB as.length c5 hG rfl rfl rfl (c6.2.2.2.1 _ hl rfl) (c5 _ hin) hdd ⟨Nat.le_trans hfr c10, Nat.le_trans hlo c11⟩, c5 _ hst, c5 _ hse⟩ ⟨ft_blind, hrecv, ft_pre c6 hA hS⟩ rfl rfl hsz rfl (lv_room hw) hd ⟨Nat.le_trans h1 c12, Nat.le_trans h2 c13⟩
  · exact va_runV (nL := ft_nL y) (n := as.length) ⟨c1, c2, c3, c4, c5⟩ hM ⟨callB_of as.length c5 hG rfl rfl rfl (c5 _ hin) (c5 _ hl) hdd ⟨Nat.le_trans hfr c10, Nat.le_trans hlo c11⟩, c5 _ hst, c5 _ hse⟩ ⟨ft_blind, hrecv, ft_pre c6 hA hS⟩ rfl rfl hsz rfl (lv_room hw) hd ⟨Nat.le_trans h1 c12, Nat.le_trans h2 c13⟩
end FTK
end
section
def ft_row (h : ft_H) (a : Nat) (f : Nat → Value) : ft_H := (fun b j => if b = a then f j else h.1 b j, h.2)
section FTN
variable {D : ft_G} {y pc : Nat} {lv : List (Nat × Value)} {r : List Value} {h : ft_H} {uc us : Nat} {Q : Option Value → ft_H → Prop}
theorem sm_newO {ix ci g : Nat} (hd : decode (ft_m y).2.1 pc = .ok (.new ix, 3)) (hci : ci < ft_nc) (hcl : Cond.classLink (ft_m y).1.cls ix (ft_cd ci).1 ∈ ft_tb) (hins : Cond.instantiable (ft_cd ci).1 (ft_cd ci).2.2 ∈ ft_tb) (hini : Cond.initialized (ft_cd ci).1 ∈ ft_tb) (h1 : uc + 1 ≤ ft_mc y) (h2 : us + (ft_cd ci).2.2 ≤ ft_mz y)
    (k : sm D y (pc + 3) lv (.ref h.2.2 :: r) (ft_new h (ci + 1, g) (fun k => defaultValue (ft_ty ci k))) (uc + 1) (us + (ft_cd ci).2.2) Q) : sm D y pc lv r h uc us Q := by
  intro p l e R s m args below meth c H locs Z ls C rt hl hA hS
  have hc1 := C.2.2.2.2.2.2.2.2.2.2.2.1
  have hc2 := C.2.2.2.2.2.2.2.2.2.2.2.2.1
  have hc := ft_cd_at hci
  have hKn := C.2.2.2.2.2.1.1 ci _ hc
  refine W.newcK C.1 C.2.1 C.2.2.2.1 (C.2.2.2.2.1 _ hcl) (C.2.2.2.2.1 _ hins) (C.2.2.2.2.1 _ hini) rfl hd (Nat.le_trans h1 hc1) (Nat.le_trans h2 hc2) hKn.2.1 hA.1 fun H1 kC hkC e1 z1 o1 => ?_
  refine k p l e R s m args below meth c H1 locs Z ls C rt hl (hA.new (by rw [z1, hA.1]) (fun q hq => o1 q (by rw [← hA.1]; exact hq)) ?_) ⟨Nat.le_trans hS.1 (by rw [z1, hA.1]; omega), fun x q1 q2 => (o1 x (by rw [← hA.1]; exact Nat.lt_of_lt_of_le q1 hS.1)).trans (hS.2.1 x q1 q2), hS.2.2⟩
  unfold ft_at
  rw [ft_new_K, ft_new_V]
  simp only [ft_kd_obj hci]
  exact ⟨_, hc, u_born (ft_ty ci) C.2.2.2.2.1 (ft_cl_in _ (List.mem_of_getElem? hc)) hKn hkC e1 (ft_tok ci hci)⟩
theorem sm_newQ {ix ci kd : Nat} {n : Int32} {N : Nat} (hd : decode (ft_m y).2.1 pc = .ok (.anewarray ix, 3)) (hcl : Cond.classLink (ft_m y).1.cls ix (ft_cd ci).1 ∈ ft_tb) (hov : Cond.arrayOver (.object (ft_cd ci).1) ∈ ft_tb) (hkd : ft_kd kd = some (.inr (.object (ft_cd ci).1))) (hn : ¬ n < 0) (hN : n.toNatClampNeg = N) (hb : N * 4 ≤ 536870912) (h1 : uc + 1 ≤ ft_mc y) (h2 : us + N ≤ ft_mz y)
    (k : sm D y (pc + 3) lv (.ref h.2.2 :: r) (ft_new h (kd, N) (fun _ => .null)) (uc + 1) (us + N) Q) : sm D y pc lv (.int n :: r) h uc us Q := by
  subst hN
  intro p l e R s m args below meth c H locs Z ls C rt hl hA hS
  have hc1 := C.2.2.2.2.2.2.2.2.2.2.2.1
  have hc2 := C.2.2.2.2.2.2.2.2.2.2.2.2.1
  refine W.anew C.1 C.2.1 C.2.2.2.1 (C.2.2.2.2.1 _ hcl) (C.2.2.2.2.1 _ hov) rfl hd rfl hn hb (Nat.le_trans h1 hc1) (Nat.le_trans h2 hc2) fun cA kA comp f1 f2 f3 f4 => ?_
  obtain ⟨kA', comp', -, -, -, g4⟩ := (C.2.2.2.2.2.1.2.1 _ (ft_kd_mem hkd)).2
  have hcc : cA = D.2.2.1 (.object (ft_cd ci).1) := Option.some.inj (f1.symm.trans g4)
  subst hcc
  generalize hH1 : H.push ({ cls := D.2.2.1 (.object (ft_cd ci).1), slots := Array.replicate n.toNatClampNeg .null, vm := .none } : Cell) = H1
  have z1 : H1.size = H.size + 1 := by rw [← hH1, Array.size_push]
  have e1 : H1[H.size]? = some (arrV (D.2.2.1 (.object (ft_cd ci).1)) n.toNatClampNeg (fun _ => .null)) := by rw [← hH1, Array.getElem?_push_size, ← arrV_new]
  have o1 : ∀ q : Nat, q < H.size → H1[q]? = H[q]? := fun q hq => by rw [← hH1, Array.getElem?_push, if_neg (Nat.ne_of_lt hq)]
  have g := k p l e R s m args below meth c H1 locs Z ls C rt hl (hA.new z1 o1 ?_) ⟨Nat.le_trans hS.1 (by rw [z1]; omega), fun x q1 q2 => (o1 x (Nat.lt_of_lt_of_le q1 hS.1)).trans (hS.2.1 x q1 q2), hS.2.2⟩
  · rw [← hA.1] at g
    exact g
  · unfold ft_at
    rw [ft_new_K, ft_new_V]
    simp only [hkd]
    rw [← hA.1]
    exact e1
theorem sm_copy {ix a0 a : Nat} {sp dp n : Int32} (hd : decode (ft_m y).2.1 pc = .ok (.invokestatic ix, 3)) (hl1 : Cond.methodLink (ft_m y).1.cls ix arraycopyName ∈ ft_tb) (hl2 : Cond.native arraycopyName ∈ ft_tb) (hl3 : Cond.static arraycopyName ∈ ft_tb) (hl4 : Cond.initialized "java/lang/System" ∈ ft_tb)
    (hk0 : ft_kd (h.2.1 a0).1 = some (.inr .int)) (hk1 : ft_kd (h.2.1 a).1 = some (.inr .int)) (hB : ft_B D ≤ a) (h1 : ¬ sp < 0) (h2 : ¬ dp < 0) (h3 : ¬ n < 0) (h4 : sp.toNatClampNeg + n.toNatClampNeg ≤ (h.2.1 a0).2) (h5 : dp.toNatClampNeg + n.toNatClampNeg ≤ (h.2.1 a).2) (hfit : ∀ i, i < n.toNatClampNeg → ∃ x : Int32, h.1 a0 (sp.toNatClampNeg + i) = .int x)
    (hf : 1 ≤ (ft_m y).2.2.2.2.1) (hw : (r.map fun v => v.category).sum + (nativeFrameWords "java/lang/System" "arraycopy" 5 + 11) ≤ (ft_m y).2.2.2.2.2.1)
    (k : sm D y (pc + 3) lv r (ft_row h a (va_cpy (h.1 a0) (h.1 a) sp.toNatClampNeg dp.toNatClampNeg n.toNatClampNeg)) uc us Q) : sm D y pc lv (.int n :: .int dp :: .ref a :: .int sp :: .ref a0 :: r) h uc us Q := by
  intro p l e R s m args below meth c H locs Z ls C rt hl hA hS
  have nn : ∀ z : Int32, ¬ z < 0 → z.toInt = (z.toNatClampNeg : Int) := by
    intro z hz
    have hz0 : (0 : Int) ≤ z.toInt := by
      have := Int32.not_lt.mp hz
      simpa using Int32.le_iff_toInt_le.mp this
    show z.toInt = ((z.toInt.toNat : Nat) : Int)
    omega
  intro T hT X
  have hc0 := hA.arr hk0
  have hc1 := hA.arr hk1
  obtain ⟨-, k0, hq0, cm0, hkk0⟩ := (C.2.2.2.2.2.1.2.1 _ (ft_kd_mem hk0)).1 (h.2.1 a0).2 (h.1 a0)
  have hfr := Nat.le_trans hf C.2.2.2.2.2.2.2.2.2.1
  have hlo := Nat.le_trans hw C.2.2.2.2.2.2.2.2.2.2.1
  obtain ⟨vm', X', step⟩ := X.arraycopy C.1 C.2.2.2.1 (C.2.2.2.2.1 _ hl1) (C.2.2.2.2.1 _ hl2) (C.2.2.2.2.1 _ hl3) (C.2.2.2.2.1 _ hl4) (src := a0) (dst := a) (cs := arrV (D.2.2.1 .int) (h.2.1 a0).2 (h.1 a0)) (cd := arrV (D.2.2.1 .int) (h.2.1 a).2 (h.1 a)) (srcPos := sp) (destPos := dp) (n := n) (by rw [hT]; exact hc0) (by rw [hT]; exact hc1)
    (fun _ h => by cases h) (fun _ h => by cases h) (fun h => by cases h) (fun h => by cases h) hq0 hq0 hkk0 hkk0 (by simp [refKind]) h1 h2 h3
    (by rw [nn sp h1, nn n h3, arrV_size]; omega)
    (by rw [nn dp h2, nn n h3, arrV_size]; omega)
    (fun vm₁ _ i hi => by
      obtain ⟨x, hx⟩ := hfit i hi
      have e : (arrV (D.2.2.1 .int) (h.2.1 a0).2 (h.1 a0)).slots.getD (sp.toNatClampNeg + i) .null = .int x := by
        rw [Array.getD_eq_getD_getElem?, arrV_read _ _ (by omega), hx]
        rfl
      refine ⟨?_, ?_⟩
      · rw [e]
        rfl
      · rw [e]
        exact trivial)
    (g := F0 m pc ls (.int n :: .int dp :: .ref a :: .int sp :: .ref a0 :: r)) rfl (by rw [C.2.2.1]; exact hl.1) (rest := r) rfl (by rw [C.2.1]; exact hd) hfr (by show 2 * 0 + _ + _ ≤ _; omega)
  have e1 : copied (arrV (D.2.2.1 .int) (h.2.1 a0).2 (h.1 a0)) (arrV (D.2.2.1 .int) (h.2.1 a).2 (h.1 a)) sp dp n = arrV (D.2.2.1 .int) (h.2.1 a).2 (va_cpy (h.1 a0) (h.1 a) sp.toNatClampNeg dp.toNatClampNeg n.toNatClampNeg) := va_copied (fun z => z) _ _ (h.1 a0) (h.1 a) h4
  rw [e1] at X' step
  have hal : a < H.size := (Array.getElem?_eq_some_iff.mp hc1).1
  generalize va_cpy (h.1 a0) (h.1 a) sp.toNatClampNeg dp.toNatClampNeg n.toNatClampNeg = fc at k X' step
  have oq : ∀ q : Nat, q ≠ a → (H.setIfInBounds a (arrV (D.2.2.1 .int) (h.2.1 a).2 fc))[q]? = H[q]? := fun q hq => by simp [Array.getElem?_setIfInBounds, Ne.symm hq]
  have hA' : ft_A D (ft_row h a fc) (H.setIfInBounds a (arrV (D.2.2.1 .int) (h.2.1 a).2 fc)) := by
    refine ⟨by simp; exact hA.1, hA.2.1, fun b => ?_⟩
    by_cases hb : b = a
    · subst hb
      unfold ft_at
      rw [show (ft_row h b fc).2.1 = h.2.1 from rfl, hk1, show (ft_row h b fc).1 b = fc from by funext j; simp [ft_row]]
      simp [Array.getElem?_setIfInBounds, hal]
    · exact ft_at.kept (h := h) (oq b hb) (by funext j; simp [ft_row, hb]) rfl (hA.2.2 b)
  obtain ⟨t, a1, b1⟩ := k p l e R s m args below meth c _ _ Z ls C rt hl hA' ⟨by simp; exact hS.1, fun q g1 g2 => by
      rw [oq q (fun e => g2 (by rw [e]; exact hB))]
      exact hS.2.1 q g1 g2, fun q hq => by
      rcases List.mem_append.mp hq with h | h
      · exact hS.2.2 q h
      · obtain ⟨z, -, hz⟩ := List.mem_map.mp h
        rw [← hz]
        exact hB⟩ _ (by rw [← hT]; rfl) X'
  exact ⟨t, step t a1, b1⟩
end FTN
end
section
def ft_has (j : Nat) (w : Jvm.Cond) : Bool := decide (lw_tbl[j]? = some w) && (goodWord w || ft_nestW w)
theorem ft_has_in {j : Nat} {w : Jvm.Cond} (h : ft_has j w = true) : w ∈ ft_tb := by
  unfold ft_has at h
  rw [Bool.and_eq_true] at h
  exact List.mem_filter.mpr ⟨List.mem_of_getElem? (of_decide_eq_true h.1), h.2⟩
def ft_np (z : Nat) : Nat := ((parseMethodDescriptor (ft_m z).1.desc).map (fun d => d.parameters.length)).getD 0
/-- what a method that is called asks of the tables (its code's word by rfl: a comparison of code bytes is dear) -/
def ft_zok (z : Nat) : Prop := (∃ j : Nat, lw_tbl[j]? = some (Cond.code (ft_m z).1 (ft_m z).2.1 (ft_m z).2.2.1 (ft_m z).2.2.2.1)) ∧ (∃ j : Nat, ft_has j (Cond.initialized (ft_m z).1.cls) = true) ∧ plainFor (ft_m z).1 = true ∧
  ((ft_m z).1.cls ≠ "java/lang/invoke/MethodHandle" ∧ (ft_m z).1.cls ≠ "java/lang/invoke/VarHandle" ∧ (parseMethodDescriptor (ft_m z).1.desc).map (fun d => d.parameters.length) = some (ft_np z))
def ft_cokB (y z : Nat) : Bool := decide ((ft_m z).2.2.2.2.1 + 1 ≤ (ft_m y).2.2.2.2.1 ∧ 8 + ((ft_m z).2.2.1 + 11) + (ft_m z).2.2.2.2.2.1 ≤ (ft_m y).2.2.2.2.2.1)
theorem ft_cokB_ok {y z : Nat} (hz : ft_zok z) (h : ft_cokB y z = true) : ft_cok y z (ft_np z) := by
  have h5 := of_decide_eq_true h
  obtain ⟨⟨j, h1⟩, ⟨j2, h2⟩, h3, h4⟩ := hz
  exact ⟨List.mem_filter.mpr ⟨List.mem_of_getElem? h1, rfl⟩, ft_has_in h2, h3, h4, h5.1, h5.2⟩
def ft_lnk (y nest ix z jl : Nat) : Bool := if nest = 1 then ft_has jl (Cond.methodLinkNest (ft_m y).1.cls ix (ft_m z).1 "FlowTalk") else ft_has jl (Cond.methodLink (ft_m y).1.cls ix (ft_m z).1)
theorem ft_lnk_ok {y nest ix z jl : Nat} (h : ft_lnk y nest ix z jl = true) : (∃ host, Cond.methodLinkNest (ft_m y).1.cls ix (ft_m z).1 host ∈ ft_tb) ∨ Cond.methodLink (ft_m y).1.cls ix (ft_m z).1 ∈ ft_tb := by
  unfold ft_lnk at h
  split at h
  · exact Or.inl ⟨_, ft_has_in h⟩
  · exact Or.inr (ft_has_in h)
/-- an instruction's row of the table is right: what it links stands in the words -/
def ft_ok (y : Nat) (i : Instr) (pr : List Nat) : Bool := match i with
  | .ldc ix => match pr with
    | [j, v] => ft_has j (Cond.constant (ft_m y).1.cls ix (Int32.ofNat v))
    | _ => false
  | .ldc_w ix => match pr with
    | [j, v] => ft_has j (Cond.constant (ft_m y).1.cls ix (Int32.ofNat v))
    | _ => false
  | .ldc2_w ix => match pr with
    | [j, v] => ft_has j (Cond.constantLong (ft_m y).1.cls ix (Int64.ofNat v))
    | _ => false
  | .getfield ix => match pr with
    | [j, ci, k] => decide (ci < ft_nc) && decide (k < (ft_cd ci).2.2) && ft_has j (Cond.fieldLink (ft_m y).1.cls ix ((ft_cd ci).2.1 k).1 ((ft_cd ci).2.1 k).2.1 ((ft_cd ci).2.1 k).2.2.1)
    | _ => false
  | .putfield ix => match pr with
    | [j, ci, k] => decide (ci < ft_nc) && decide (k < (ft_cd ci).2.2) && ft_has j (Cond.fieldLink (ft_m y).1.cls ix ((ft_cd ci).2.1 k).1 ((ft_cd ci).2.1 k).2.1 ((ft_cd ci).2.1 k).2.2.1) &&
      decide (((ft_cd ci).2.1 k).2.2.2 = false ∨ (((ft_cd ci).2.1 k).2.2.2 = true ∧ (ft_m y).1.name = "<init>" ∧ ((ft_cd ci).2.1 k).1 = (ft_m y).1.cls))
    | _ => false
  | .getstatic ix => match pr with
    | [j, k] => decide (k < 3) && ft_has j (Cond.fieldLinkNest (ft_m y).1.cls ix (ft_st.getD k ("", "", "")).1 (ft_st.getD k ("", "", "")).2.1 (ft_st.getD k ("", "", "")).2.2 "FlowTalk")
    | _ => false
  | .invokevirtual ix => match pr with
    | [nest, z, jl, jc, ji, js, je] => ft_cokB y z && ft_lnk y nest ix z jl && ft_has js (Cond.instanceMethod (ft_m z).1) && ft_has je (Cond.selects (ft_m z).1.cls (ft_m z).1 (ft_m z).1)
    | _ => false
  | .invokestatic ix => match pr with
    | [nest, z, jl, jc, ji, js] => ft_cokB y z && ft_lnk y nest ix z jl && ft_has js (Cond.static (ft_m z).1)
    | [_] => true
    | _ => false
  | .invokespecial ix => match pr with
    | [nest, z, jl, jc, ji, js] => ft_cokB y z && ft_lnk y nest ix z jl && ft_has js (Cond.instanceMethod (ft_m z).1) && decide ((ft_m z).1.name = "<init>") && decide ((ft_m z).2.2.2.1 = none)
    | [jl, js, jc] => ft_has jl (Cond.methodLink (ft_m y).1.cls ix Lib.objectInit) && ft_has js (Cond.instanceMethod Lib.objectInit) && ft_has jc (Cond.code Lib.objectInit ⟨#[0xb1]⟩ 1 none) && decide (1 ≤ (ft_m y).2.2.2.2.1) && decide (20 ≤ (ft_m y).2.2.2.2.2.1)
    | _ => false
  | .new ix => match pr with
    | [ci, jl, jn, ji] => decide (ci < ft_nc) && ft_has jl (Cond.classLink (ft_m y).1.cls ix (ft_cd ci).1) && ft_has jn (Cond.instantiable (ft_cd ci).1 (ft_cd ci).2.2) && ft_has ji (Cond.initialized (ft_cd ci).1)
    | _ => false
  | .newarray t => match pr with
    | [kd, j] => ft_has j (Cond.arrayClass (newarray.typeOf t)) && decide (ft_kd kd = some (.inr (newarray.typeOf t)))
    | _ => false
  | .anewarray ix => match pr with
    | [kd, jl, jo, ci] => decide (ci < ft_nc) && ft_has jl (Cond.classLink (ft_m y).1.cls ix (ft_cd ci).1) && ft_has jo (Cond.arrayOver (.object (ft_cd ci).1)) && decide (ft_kd kd = some (.inr (.object (ft_cd ci).1)))
    | _ => false
  | _ => true
def ft_chkL (y : Nat) (l : List (Nat × ft_I)) : Bool := l.all (fun q => decide (decode (ft_m y).2.1 q.1 = .ok (q.2.1, q.2.2.1)) && decide (q.2.2.1 = ft_len q.2.1 q.2.2.1) && ft_ok y q.2.1 q.2.2.2)
def ft_chk (y : Nat) : Bool := ft_chkL y (ft_c y)
theorem ft_chk_app {y : Nat} {a b : List (Nat × ft_I)} (h1 : ft_chkL y a = true) (h2 : ft_chkL y b = true) : ft_chkL y (a ++ b) = true := by
  unfold ft_chkL at h1 h2 ⊢
  rw [List.all_append, h1, h2]
  rfl
theorem ft_row_ok {y pc : Nat} {i : Instr} {n : Nat} {pr : List Nat} (hc : ft_chk y = true) (hk : ft_lk pc (ft_c y) = some (i, n, pr)) : decode (ft_m y).2.1 pc = .ok (i, n) ∧ n = ft_len i n ∧ ft_ok y i pr = true := by
  have h := List.all_eq_true.mp hc _ (ft_lk_mem hk)
  simp only [Bool.and_eq_true] at h
  exact ⟨of_decide_eq_true h.1.1, of_decide_eq_true h.1.2, h.2⟩
theorem ft_okC_of {y : Nat} {i : Instr} {pr : List Nat} (h : ft_ok y i pr = true) : ft_okC (ft_m y).1.cls i pr := by
  unfold ft_okC
  split
  · exact ft_has_in h
  · exact ft_has_in h
  · exact ft_has_in h
  · trivial
abbrev ft_ER : Type := List Prop × Nat × List (Nat × Value) × List Value × ft_H × List Value
/-- a step, reads told by an oracle -/
def ft_e (D : ft_G) (y : Nat) (i : Instr) (pr : List Nat) (pc : Nat) (lv : List (Nat × Value)) (st : List Value) (h : ft_H) (os : List Value) : Option ft_ER := match i with
  | .getfield _ => match pr, st, os with
    | [_, ci, k], .ref a :: r, v :: o => some ([(h.2.1 a).1 = ci + 1, h.1 a k = v], pc + 3, lv, v :: r, h, o)
    | _, _, _ => none
  | .putfield _ => match pr, st with
    | [_, ci, k], v :: .ref a :: r => some ([(h.2.1 a).1 = ci + 1, ft_B D ≤ a, narrow (ft_ty ci k) v = v, fits (ft_ty ci k) v = true], pc + 3, lv, r, ft_set h a k v, os)
    | _, _ => none
  | .getstatic _ => match pr with
    | [_, k] => some ([], pc + 3, lv, .ref (D.2.2.2.2.1 k) :: st, h, os)
    | _ => none
  | .iaload => match st, os with
    | .int j :: .ref a :: r, v :: o => some ([ft_kd (h.2.1 a).1 = some (.inr .int), vp_in j (h.2.1 a).2, h.1 a j.toNatClampNeg = v], pc + 1, lv, v :: r, h, o)
    | _, _ => none
  | .laload => match st, os with
    | .int j :: .ref a :: r, v :: o => some ([ft_kd (h.2.1 a).1 = some (.inr .long), vp_in j (h.2.1 a).2, h.1 a j.toNatClampNeg = v], pc + 1, lv, v :: r, h, o)
    | _, _ => none
  | .baload => match pr, st, os with
    | [0], .int j :: .ref a :: r, v :: o => some ([ft_kd (h.2.1 a).1 = some (.inr .byte), vp_in j (h.2.1 a).2, h.1 a j.toNatClampNeg = v], pc + 1, lv, v :: r, h, o)
    | [1], .int j :: .ref a :: r, v :: o => some ([ft_kd (h.2.1 a).1 = some (.inr .boolean), vp_in j (h.2.1 a).2, h.1 a j.toNatClampNeg = v], pc + 1, lv, v :: r, h, o)
    | _, _, _ => none
  | .aaload => match st, os with
    | .int j :: .ref a :: r, v :: o => some ([∃ C, ft_kd (h.2.1 a).1 = some (.inr (.object C)), vp_in j (h.2.1 a).2, h.1 a j.toNatClampNeg = v], pc + 1, lv, v :: r, h, o)
    | _, _ => none
  | .iastore => match st with
    | .int x :: .int j :: .ref a :: r => some ([ft_kd (h.2.1 a).1 = some (.inr .int), ft_B D ≤ a, vp_in j (h.2.1 a).2], pc + 1, lv, r, ft_set h a j.toNatClampNeg (.int x), os)
    | _ => none
  | .lastore => match st with
    | .long x :: .int j :: .ref a :: r => some ([ft_kd (h.2.1 a).1 = some (.inr .long), ft_B D ≤ a, vp_in j (h.2.1 a).2], pc + 1, lv, r, ft_set h a j.toNatClampNeg (.long x), os)
    | _ => none
  | .bastore => match pr, st with
    | [0], .int x :: .int j :: .ref a :: r => some ([ft_kd (h.2.1 a).1 = some (.inr .byte), ft_B D ≤ a, vp_in j (h.2.1 a).2], pc + 1, lv, r, ft_set h a j.toNatClampNeg (narrow .byte (.int x)), os)
    | [1], .int x :: .int j :: .ref a :: r => some ([ft_kd (h.2.1 a).1 = some (.inr .boolean), ft_B D ≤ a, vp_in j (h.2.1 a).2], pc + 1, lv, r, ft_set h a j.toNatClampNeg (narrow .boolean (.int x)), os)
    | _, _ => none
  | .aastore => match pr, st with
    | [ci], .ref v :: .int j :: .ref a :: r => some ([ci < ft_nc, ft_kd (h.2.1 a).1 = some (.inr (.object (ft_cd ci).1)), (h.2.1 v).1 = ci + 1, ft_B D ≤ a, vp_in j (h.2.1 a).2], pc + 1, lv, r, ft_set h a j.toNatClampNeg (.ref v), os)
    | _, _ => none
  | .arraylength => match st, os with
    | .ref a :: r, v :: o => some ([∃ ty, ft_kd (h.2.1 a).1 = some (.inr ty), Value.int (Int32.ofNat (h.2.1 a).2) = v], pc + 1, lv, v :: r, h, o)
    | _, _ => none
  | .invokespecial _ => match pr, st with
    | [_, _, _], .ref _ :: r => some ([(r.map fun v => v.category).sum ≤ 8], pc + 3, lv, r, h, os)
    | _, _ => none
  | i => match ft_p i pr pc (ft_nL y) lv st with
    | some (gs, pc', lv', st') => some (gs, pc', lv', st', h, os)
    | none => none
set_option maxHeartbeats 4000000 in
theorem ft_e_ok {D : ft_G} {y pc pc' n : Nat} {i : Instr} {pr : List Nat} {gs : List Prop} {lv lv' : List (Nat × Value)} {st st' os os' : List Value} {h h' : ft_H} {uc us : Nat} {Q : Option Value → ft_H → Prop}
    (hc : ft_chk y = true) (hk : ft_lk pc (ft_c y) = some (i, n, pr)) (he : ft_e D y i pr pc lv st h os = some (gs, pc', lv', st', h', os')) (hg : ft_all gs) (k : sm D y pc' lv' st' h' uc us Q) : sm D y pc lv st h uc us Q := by
  obtain ⟨hd, hn, ho⟩ := ft_row_ok hc hk
  unfold ft_e at he
  split at he
  · rw [hn] at hd
    split at he
    · cases he
      simp only [ft_ok, Bool.and_eq_true, decide_eq_true_eq] at ho
      exact sm_get hd ho.1.1 ho.1.2 (ft_has_in ho.2) hg.1 hg.2.1 k
    · cases he
  · rw [hn] at hd
    split at he
    · cases he
      simp only [ft_ok, Bool.and_eq_true, decide_eq_true_eq] at ho
      exact sm_put hd ho.1.1.1 ho.1.1.2 (ft_has_in ho.1.2) ho.2 hg.1 hg.2.1 hg.2.2.1 hg.2.2.2.1 k
    · cases he
  · rw [hn] at hd
    split at he
    · cases he
      simp only [ft_ok, Bool.and_eq_true, decide_eq_true_eq] at ho
      rename_i k'
      have hq : ft_st[k']? = some (ft_st.getD k' ("", "", "")) := by
        have h3 : k' < ft_st.length := ho.1
        rw [List.getD_eq_getElem?_getD, List.getElem?_eq_getElem h3]
        rfl
      exact sm_gets hd hq (ft_has_in ho.2) k
    · cases he
  · rw [hn] at hd
    split at he
    · cases he
      exact sm_ald hd (Or.inl ⟨rfl, rfl⟩) hg.1 hg.2.1 hg.2.2.1 k
    · cases he
  · rw [hn] at hd
    split at he
    · cases he
      exact sm_ald hd (Or.inr (Or.inl ⟨rfl, rfl⟩)) hg.1 hg.2.1 hg.2.2.1 k
    · cases he
  · rw [hn] at hd
    split at he
    · cases he
      exact sm_ald hd (Or.inr (Or.inr (Or.inl ⟨rfl, rfl⟩))) hg.1 hg.2.1 hg.2.2.1 k
    · cases he
      exact sm_ald hd (Or.inr (Or.inr (Or.inr (Or.inl ⟨rfl, rfl⟩)))) hg.1 hg.2.1 hg.2.2.1 k
    · cases he
  · rw [hn] at hd
    split at he
    · cases he
      obtain ⟨C, hC⟩ := hg.1
      exact sm_ald hd (Or.inr (Or.inr (Or.inr (Or.inr ⟨rfl, rfl⟩)))) hC hg.2.1 hg.2.2.1 k
    · cases he
  · rw [hn] at hd
    split at he
    · cases he
      exact sm_ast hd (Or.inl ⟨rfl, rfl, _, rfl, rfl⟩) hg.1 hg.2.1 hg.2.2.1 k
    · cases he
  · rw [hn] at hd
    split at he
    · cases he
      exact sm_ast hd (Or.inr (Or.inl ⟨rfl, rfl, _, rfl, rfl⟩)) hg.1 hg.2.1 hg.2.2.1 k
    · cases he
  · rw [hn] at hd
    split at he
    · cases he
      exact sm_ast hd (Or.inr (Or.inr (Or.inl ⟨rfl, rfl, _, rfl, rfl⟩))) hg.1 hg.2.1 hg.2.2.1 k
    · cases he
      exact sm_ast hd (Or.inr (Or.inr (Or.inr ⟨rfl, rfl, _, rfl, rfl⟩))) hg.1 hg.2.1 hg.2.2.1 k
    · cases he
  · rw [hn] at hd
    split at he
    · cases he
      exact sm_aast hd hg.1 hg.2.1 hg.2.2.1 hg.2.2.2.1 hg.2.2.2.2.1 k
    · cases he
  · rw [hn] at hd
    split at he
    · cases he
      obtain ⟨ty, hty⟩ := hg.1
      exact sm_alen hd hty hg.2.1 k
    · cases he
  · rw [hn] at hd
    split at he
    · cases he
      simp only [ft_ok, Bool.and_eq_true, decide_eq_true_eq] at ho
      exact sm_objInit hd (ft_has_in ho.1.1.1.1) (ft_has_in ho.1.1.1.2) (ft_has_in ho.1.1.2) ho.1.2 ho.2 hg.1 k
    · cases he
  · split at he
    · rename_i e
      cases he
      exact ft_p_ok hd hn (ft_okC_of ho) e hg k
    · cases he
def ft_run (D : ft_G) (y : Nat) : Nat → Nat → List (Nat × Value) → List Value → ft_H → List Value → Option ft_ER
  | 0, pc, lv, st, h, os => some ([], pc, lv, st, h, os)
  | n + 1, pc, lv, st, h, os => match ft_lk pc (ft_c y) with
    | none => none
    | some (i, _, pr) => match ft_e D y i pr pc lv st h os with
      | none => none
      | some (gs, pc', lv', st', h', os') => match ft_run D y n pc' lv' st' h' os' with
        | none => none
        | some (gs', e) => some (gs ++ gs', e)
theorem ft_all_app : ∀ {a b : List Prop}, ft_all (a ++ b) → ft_all a ∧ ft_all b
  | [], _, h => ⟨trivial, h⟩
  | _ :: _, _, h => ⟨⟨h.1, (ft_all_app h.2).1⟩, (ft_all_app h.2).2⟩
theorem ft_run_ok {D : ft_G} {y : Nat} {uc us : Nat} {Q : Option Value → ft_H → Prop} (hc : ft_chk y = true) : ∀ (n pc : Nat) (lv : List (Nat × Value)) (st : List Value) (h : ft_H) (os : List Value) {gs : List Prop} {pc' : Nat} {lv' : List (Nat × Value)} {st' os' : List Value} {h' : ft_H},
    ft_run D y n pc lv st h os = some (gs, pc', lv', st', h', os') → ft_all gs → sm D y pc' lv' st' h' uc us Q → sm D y pc lv st h uc us Q
  | 0, pc, lv, st, h, os, gs, pc', lv', st', os', h', he, hg, k => by
    cases he
    exact k
  | n + 1, pc, lv, st, h, os, gs, pc', lv', st', os', h', he, hg, k => by
    unfold ft_run at he
    split at he
    · cases he
    · rename_i hk
      split at he
      · cases he
      · rename_i he1
        split at he
        · cases he
        · rename_i he2
          cases he
          obtain ⟨g1, g2⟩ := ft_all_app hg
          exact ft_e_ok hc hk he1 g1 (ft_run_ok hc n _ _ _ _ _ he2 g2 k)
end
section
section FTR
variable {D : ft_G} {y pc : Nat} {lv : List (Nat × Value)} {r : List Value} {h : ft_H} {uc us : Nat} {Q : Option Value → ft_H → Prop}
theorem r_if {cn : Jvm.ClassFile.Cond} {off : Int} {x : Int32} {tgt : Nat} (hc : ft_chk y = true) (hk : ft_lk pc (ft_c y) = some (.ifCond cn off, 3, [])) (ht : (pc : Int) + off = (tgt : Int)) (kt : ft_cond1 cn x → sm D y tgt lv r h uc us Q) (kf : ¬ ft_cond1 cn x → sm D y (pc + 3) lv r h uc us Q) : sm D y pc lv (.int x :: r) h uc us Q :=
  sm_if (ft_row_ok hc hk).1 ht kt kf
theorem r_icmp {cn : Jvm.ClassFile.Cond} {off : Int} {x z : Int32} {tgt : Nat} (hc : ft_chk y = true) (hk : ft_lk pc (ft_c y) = some (.if_icmp cn off, 3, [])) (ht : (pc : Int) + off = (tgt : Int)) (kt : ft_cond2 cn x z → sm D y tgt lv r h uc us Q) (kf : ¬ ft_cond2 cn x z → sm D y (pc + 3) lv r h uc us Q) : sm D y pc lv (.int z :: .int x :: r) h uc us Q :=
  sm_icmp (ft_row_ok hc hk).1 ht kt kf
theorem r_swOut {dflt lo hi : Int} {offs : Array Int} {len tgt : Nat} {x : Int32} (hc : ft_chk y = true) (hk : ft_lk pc (ft_c y) = some (.tableswitch dflt lo hi offs, len, [])) (hx : x.toInt < lo ∨ hi < x.toInt) (ht : (pc : Int) + dflt = (tgt : Int)) (k : sm D y tgt lv r h uc us Q) : sm D y pc lv (.int x :: r) h uc us Q :=
  sm_swOut (ft_row_ok hc hk).1 hx ht k
theorem r_swIn {dflt lo hi off : Int} {offs : Array Int} {len tgt : Nat} {x : Int32} (hc : ft_chk y = true) (hk : ft_lk pc (ft_c y) = some (.tableswitch dflt lo hi offs, len, [])) (h1 : ¬ x.toInt < lo) (h2 : ¬ hi < x.toInt) (ho : offs[(x.toInt - lo).toNat]? = some off) (ht : (pc : Int) + off = (tgt : Int)) (k : sm D y tgt lv r h uc us Q) : sm D y pc lv (.int x :: r) h uc us Q :=
  sm_swIn (ft_row_ok hc hk).1 h1 h2 ho ht k
theorem r_ret {i : Instr} {v : Option Value} (hc : ft_chk y = true) (hk : ft_lk pc (ft_c y) = some (i, 1, [])) (hi : ft_ret (ft_m y).2.2.2.1 v i) (h1 : uc ≤ ft_mc y) (h2 : us ≤ ft_mz y) (hq : Q v h) : sm D y pc lv v.toList h uc us Q :=
  sm_ret (ft_row_ok hc hk).1 hi h1 h2 hq
theorem r_callV {z ix a ci nest jl jc ji js je : Nat} {as : List Value} {Qz : Option Value → ft_H → Prop} (hc : ft_chk y = true) (hk : ft_lk pc (ft_c y) = some (.invokevirtual ix, 3, [nest, z, jl, jc, ji, js, je])) (hz : ft_zok z) (hn : as.length = ft_np z) (hci : ci < ft_nc) (hcc : (ft_cd ci).1 = (ft_m z).1.cls) (hka : (h.2.1 a).1 = ci + 1)
    (hw : (r.map fun v => v.category).sum ≤ 8) (hle : (lg_sl (.ref a :: as)).length ≤ ft_nL z) (h1 : uc + ft_mc z ≤ ft_mc y) (h2 : us + ft_mz z ≤ ft_mz y)
    (kz : sm D z 0 (lv_args 0 (.ref a :: as)) [] h 0 0 Qz) (kk : ∀ (v : Option Value) (h' : ft_H), Qz v h' → sm D y (pc + 3) lv (v.toList ++ r) h' (uc + ft_mc z) (us + ft_mz z) Q) : sm D y pc lv (as.reverse ++ .ref a :: r) h uc us Q := by
  obtain ⟨hd, -, ho⟩ := ft_row_ok hc hk
  simp only [ft_ok, Bool.and_eq_true] at ho
  exact sm_callV hd (by rw [hn]; exact ft_cokB_ok hz ho.1.1.1) (ft_lnk_ok ho.1.1.2) (ft_has_in ho.1.2) (ft_has_in ho.2) hci hcc hka hw hle h1 h2 kz kk
theorem r_callS {z ix nest jl jc ji js : Nat} {as : List Value} {Qz : Option Value → ft_H → Prop} (hc : ft_chk y = true) (hk : ft_lk pc (ft_c y) = some (.invokestatic ix, 3, [nest, z, jl, jc, ji, js])) (hz : ft_zok z) (hn : as.length = ft_np z)
    (hw : (r.map fun v => v.category).sum ≤ 8) (hle : (lg_sl as).length ≤ ft_nL z) (h1 : uc + ft_mc z ≤ ft_mc y) (h2 : us + ft_mz z ≤ ft_mz y)
    (kz : sm D z 0 (lv_args 0 as) [] h 0 0 Qz) (kk : ∀ (v : Option Value) (h' : ft_H), Qz v h' → sm D y (pc + 3) lv (v.toList ++ r) h' (uc + ft_mc z) (us + ft_mz z) Q) : sm D y pc lv (as.reverse ++ r) h uc us Q := by
  obtain ⟨hd, -, ho⟩ := ft_row_ok hc hk
  simp only [ft_ok, Bool.and_eq_true] at ho
  exact sm_callS hd (by rw [hn]; exact ft_cokB_ok hz ho.1.1) (ft_lnk_ok ho.1.2) (ft_has_in ho.2) hw hle h1 h2 kz kk
theorem r_callI {z ix a nest jl jc ji js : Nat} {as : List Value} {Qz : Option Value → ft_H → Prop} (hc : ft_chk y = true) (hk : ft_lk pc (ft_c y) = some (.invokespecial ix, 3, [nest, z, jl, jc, ji, js])) (hz : ft_zok z) (hn : as.length = ft_np z)
    (hw : (r.map fun v => v.category).sum ≤ 8) (hle : (lg_sl (.ref a :: as)).length ≤ ft_nL z) (h1 : uc + ft_mc z ≤ ft_mc y) (h2 : us + ft_mz z ≤ ft_mz y)
    (kz : sm D z 0 (lv_args 0 (.ref a :: as)) [] h 0 0 Qz) (kk : ∀ (v : Option Value) (h' : ft_H), Qz v h' → sm D y (pc + 3) lv (v.toList ++ r) h' (uc + ft_mc z) (us + ft_mz z) Q) : sm D y pc lv (as.reverse ++ .ref a :: r) h uc us Q := by
  obtain ⟨hd, -, ho⟩ := ft_row_ok hc hk
  simp only [ft_ok, Bool.and_eq_true, decide_eq_true_eq] at ho
  exact sm_callI hd (by rw [hn]; exact ft_cokB_ok hz ho.1.1.1.1) (ft_lnk_ok ho.1.1.1.2) (ft_has_in ho.1.1.2) ho.1.2 ho.2 hw hle h1 h2 kz kk
theorem r_newO (g : Nat) {ix ci jl jn ji : Nat} (hc : ft_chk y = true) (hk : ft_lk pc (ft_c y) = some (.new ix, 3, [ci, jl, jn, ji])) (h1 : uc + 1 ≤ ft_mc y) (h2 : us + (ft_cd ci).2.2 ≤ ft_mz y)
    (k : sm D y (pc + 3) lv (.ref h.2.2 :: r) (ft_new h (ci + 1, g) (fun k => defaultValue (ft_ty ci k))) (uc + 1) (us + (ft_cd ci).2.2) Q) : sm D y pc lv r h uc us Q := by
  obtain ⟨hd, -, ho⟩ := ft_row_ok hc hk
  simp only [ft_ok, Bool.and_eq_true, decide_eq_true_eq] at ho
  exact sm_newO hd ho.1.1.1 (ft_has_in ho.1.1.2) (ft_has_in ho.1.2) (ft_has_in ho.2) h1 h2 k
theorem r_newA {at_ : ArrayType} {n : Int32} {N kd j : Nat} (hc : ft_chk y = true) (hk : ft_lk pc (ft_c y) = some (.newarray at_, 2, [kd, j])) (hn : ¬ n < 0) (hN : n.toNatClampNeg = N) (hb : N * componentBytes (newarray.typeOf at_) ≤ 536870912) (h1 : uc + 1 ≤ ft_mc y) (h2 : us + N ≤ ft_mz y)
    (k : sm D y (pc + 2) lv (.ref h.2.2 :: r) (ft_new h (kd, N) (fun _ => defaultValue (newarray.typeOf at_))) (uc + 1) (us + N) Q) : sm D y pc lv (.int n :: r) h uc us Q := by
  obtain ⟨hd, -, ho⟩ := ft_row_ok hc hk
  simp only [ft_ok, Bool.and_eq_true, decide_eq_true_eq] at ho
  exact sm_newA hd (ft_has_in ho.1) ho.2 (by intro C; cases at_ <;> simp [newarray.typeOf]) hn hN hb h1 h2 k
theorem r_newQ {ix ci kd jl jo : Nat} {n : Int32} {N : Nat} (hc : ft_chk y = true) (hk : ft_lk pc (ft_c y) = some (.anewarray ix, 3, [kd, jl, jo, ci])) (hn : ¬ n < 0) (hN : n.toNatClampNeg = N) (hb : N * 4 ≤ 536870912) (h1 : uc + 1 ≤ ft_mc y) (h2 : us + N ≤ ft_mz y)
    (k : sm D y (pc + 3) lv (.ref h.2.2 :: r) (ft_new h (kd, N) (fun _ => .null)) (uc + 1) (us + N) Q) : sm D y pc lv (.int n :: r) h uc us Q := by
  obtain ⟨hd, -, ho⟩ := ft_row_ok hc hk
  simp only [ft_ok, Bool.and_eq_true, decide_eq_true_eq] at ho
  exact sm_newQ hd (ft_has_in ho.1.1.2) (ft_has_in ho.1.2) ho.2 hn hN hb h1 h2 k
end FTR
end
section
-- names of methods (y_), of kinds of cells (kd_), of places (pl_); the tables of each method are right (k_)
abbrev y_L_law : Nat := 0
abbrev y_F_init : Nat := 1
abbrev y_Math_floorMod : Nat := 2
abbrev y_Li_init : Nat := 3
abbrev y_Pa_init : Nat := 4
abbrev y_En_init : Nat := 5
abbrev y_Re_init : Nat := 6
abbrev y_Fl_init : Nat := 7
abbrev y_Da_init : Nat := 8
abbrev y_Math_max : Nat := 9
abbrev y_Ag_init : Nat := 10
abbrev y_Co_init : Nat := 11
abbrev y_Ch_init : Nat := 12
abbrev y_Fe_init : Nat := 13
abbrev y_En_restart : Nat := 14
abbrev y_En_enter : Nat := 15
abbrev y_Ag_restart : Nat := 16
abbrev y_Fe_restart : Nat := 17
abbrev y_F_isFeature : Nat := 18
abbrev y_Ch_add : Nat := 19
abbrev y_Re_restart : Nat := 20
abbrev y_Arrays_fill : Nat := 21
abbrev y_Arrays_fill2 : Nat := 22
abbrev y_Fl_restart : Nat := 23
abbrev y_Da_clear : Nat := 24
abbrev y_F_open : Nat := 25
abbrev y_En_send : Nat := 26
abbrev y_Pa_begin : Nat := 27
abbrev y_Pa_appendNumber : Nat := 28
abbrev y_Pa_hasAck : Nat := 29
abbrev y_Pa_append : Nat := 30
abbrev y_Co_moveTo : Nat := 31
abbrev y_Ag_writeChanges : Nat := 32
abbrev y_Ch_item : Nat := 33
abbrev y_Ag_valueOf : Nat := 34
abbrev y_Ag_find : Nat := 35
abbrev y_Re_writeVector : Nat := 36
abbrev y_Math_min : Nat := 37
abbrev y_Re_markBehind : Nat := 38
abbrev y_Pa_optionsAt : Nat := 39
abbrev y_Pa_has : Nat := 40
abbrev y_Pa_hasData : Nat := 41
abbrev y_Da_moveFirstTo : Nat := 42
abbrev y_Da_row : Nat := 43
abbrev y_Re_noteOwn : Nat := 44
abbrev y_Fl_note : Nat := 45
abbrev y_Pa_makeCheckRight : Nat := 46
abbrev y_Pa_check : Nat := 47
abbrev y_Li_post : Nat := 48
abbrev y_F_listen : Nat := 49
abbrev y_F_close : Nat := 50
abbrev y_F_isEnd : Nat := 51
abbrev y_En_leave : Nat := 52
abbrev y_En_abort : Nat := 53
abbrev y_F_give : Nat := 54
abbrev y_Da_waiting : Nat := 55
abbrev y_Da_begin : Nat := 56
abbrev y_Da_append : Nat := 57
abbrev y_F_want : Nat := 58
abbrev y_Ch_unpack : Nat := 59
abbrev y_Ch_isRightFor : Nat := 60
abbrev y_Ag_wish : Nat := 61
abbrev y_Ch_copy : Nat := 62
abbrev y_Ag_changing : Nat := 63
abbrev y_F_tick : Nat := 64
abbrev y_Li_takeIfDue : Nat := 65
abbrev y_Li_has : Nat := 66
abbrev y_Li_take : Nat := 67
abbrev y_En_come : Nat := 68
abbrev y_Pa_isAsTold : Nat := 69
abbrev y_Pa_optionsEnd : Nat := 70
abbrev y_En_reject : Nat := 71
abbrev y_Pa_kind : Nat := 72
abbrev y_En_comeListening : Nat := 73
abbrev y_Pa_numberAt : Nat := 74
abbrev y_Re_meet : Nat := 75
abbrev y_Ag_hear : Nat := 76
abbrev y_Pa_byteAt : Nat := 77
abbrev y_Ag_isRight : Nat := 78
abbrev y_Ag_hearChange : Nat := 79
abbrev y_Co_addEmpty : Nat := 80
abbrev y_Fe_hears : Nat := 81
abbrev y_F_isAfter : Nat := 82
abbrev y_Ch_read : Nat := 83
abbrev y_Co_add : Nat := 84
abbrev y_Ag_reconciled : Nat := 85
abbrev y_Ch_firstThatIsIn : Nat := 86
abbrev y_Ag_hearConfirm : Nat := 87
abbrev y_En_comeRequesting : Nat := 88
abbrev y_En_ackFits : Nat := 89
abbrev y_En_comeLive : Nat := 90
abbrev y_Re_fits : Nat := 91
abbrev y_En_sync : Nat := 92
abbrev y_Re_has : Nat := 93
abbrev y_Re_add : Nat := 94
abbrev y_En_tell : Nat := 95
abbrev y_En_tellRow : Nat := 96
abbrev y_Re_ownIsTold : Nat := 97
abbrev y_Fl_isTold : Nat := 98
abbrev y_Math_min2 : Nat := 99
abbrev y_Fl_findLost : Nat := 100
abbrev y_En_deliver : Nat := 101
abbrev y_En_answer : Nat := 102
abbrev y_En_pass : Nat := 103
abbrev y_En_passState : Nat := 104
abbrev y_En_sayAgain : Nat := 105
abbrev y_Fl_loseIfTooLong : Nat := 106
abbrev y_En_sendDatagrams : Nat := 107
abbrev y_En_mustSpeak : Nat := 108
abbrev y_Ag_isChangeDue : Nat := 109
abbrev y_F_lose : Nat := 110
abbrev y_F_hold : Nat := 111
abbrev y_F_repeat : Nat := 112
abbrev y_Pa_fill : Nat := 113
abbrev y_F_alter : Nat := 114
abbrev y_F_feed : Nat := 115
abbrev y_F_feedOne : Nat := 116
abbrev y_F_put : Nat := 117
abbrev y_F_way : Nat := 118
abbrev y_F_packet : Nat := 119
abbrev y_F_octet : Nat := 120
abbrev y_F_state : Nat := 121
abbrev y_F_number : Nat := 122
abbrev y_F_feature : Nat := 123
abbrev y_F_count : Nat := 124
abbrev y_F_got : Nat := 125
abbrev y_Da_sizeOf : Nat := 126
abbrev y_Da_byteOf : Nat := 127
abbrev y_F_seen : Nat := 128
abbrev y_F_sent : Nat := 129
abbrev y_L_cell : Nat := 130
abbrev y_M_init : Nat := 131
abbrev y_M_around : Nat := 132
abbrev y_M_atFirst : Nat := 133
abbrev y_M_feat : Nat := 134
abbrev y_M_open : Nat := 135
abbrev y_M_become : Nat := 136
abbrev y_M_sendPlain : Nat := 137
abbrev y_M_send : Nat := 138
abbrev y_M_pipe : Nat := 139
abbrev y_M_isOwn : Nat := 140
abbrev y_M_in : Nat := 141
abbrev y_M_before : Nat := 142
abbrev y_M_after : Nat := 143
abbrev y_M_at : Nat := 144
abbrev y_M_byteOf : Nat := 145
abbrev y_M_six : Nat := 146
abbrev y_M_hasAck : Nat := 147
abbrev y_M_putConfirms : Nat := 148
abbrev y_M_fits : Nat := 149
abbrev y_M_putChanges : Nat := 150
abbrev y_M_putRow : Nat := 151
abbrev y_M_inRow : Nat := 152
abbrev y_M_shift : Nat := 153
abbrev y_M_checkOf : Nat := 154
abbrev y_M_listen : Nat := 155
abbrev y_M_close : Nat := 156
abbrev y_M_isEnd : Nat := 157
abbrev y_M_reset : Nat := 158
abbrev y_M_give : Nat := 159
abbrev y_M_want : Nat := 160
abbrev y_M_isList : Nat := 161
abbrev y_M_mayBe : Nat := 162
abbrev y_M_changes : Nat := 163
abbrev y_M_tick : Nat := 164
abbrev y_M_one : Nat := 165
abbrev y_M_drop : Nat := 166
abbrev y_M_take : Nat := 167
abbrev y_M_isRight : Nat := 168
abbrev y_M_headOf : Nat := 169
abbrev y_M_sixAt : Nat := 170
abbrev y_M_meet : Nat := 171
abbrev y_M_hear : Nat := 172
abbrev y_M_heard : Nat := 173
abbrev y_M_isGood : Nat := 174
abbrev y_M_hearFeature : Nat := 175
abbrev y_M_confirm : Nat := 176
abbrev y_M_reconciled : Nat := 177
abbrev y_M_hasTold : Nat := 178
abbrev y_M_hasOwn : Nat := 179
abbrev y_M_asking : Nat := 180
abbrev y_M_fitsAck : Nat := 181
abbrev y_M_running : Nat := 182
abbrev y_M_fitsNumber : Nat := 183
abbrev y_M_sync : Nat := 184
abbrev y_M_hearAck : Nat := 185
abbrev y_M_isGot : Nat := 186
abbrev y_M_missing : Nat := 187
abbrev y_M_deliver : Nat := 188
abbrev y_M_turn : Nat := 189
abbrev y_M_timers : Nat := 190
abbrev y_M_repeatOr : Nat := 191
abbrev y_M_tooLong : Nat := 192
abbrev y_M_ackDue : Nat := 193
abbrev y_M_wantsOptions : Nat := 194
abbrev y_M_lose : Nat := 195
abbrev y_M_isThere : Nat := 196
abbrev y_M_hold : Nat := 197
abbrev y_M_repeat : Nat := 198
abbrev y_M_alter : Nat := 199
abbrev y_M_feed : Nat := 200
abbrev y_M_put : Nat := 201
abbrev y_M_way : Nat := 202
abbrev y_M_packet : Nat := 203
abbrev y_M_octet : Nat := 204
abbrev y_M_state : Nat := 205
abbrev y_M_number : Nat := 206
abbrev y_M_feature : Nat := 207
abbrev y_M_count : Nat := 208
abbrev y_M_got : Nat := 209
abbrev y_M_seen : Nat := 210
abbrev y_M_sent : Nat := 211
abbrev kd_F : Nat := 1
abbrev kd_Ag : Nat := 2
abbrev kd_Ch : Nat := 3
abbrev kd_Co : Nat := 4
abbrev kd_Da : Nat := 5
abbrev kd_En : Nat := 6
abbrev kd_Fe : Nat := 7
abbrev kd_Fl : Nat := 8
abbrev kd_Li : Nat := 9
abbrev kd_Pa : Nat := 10
abbrev kd_Re : Nat := 11
abbrev kd_M : Nat := 12
abbrev pl_F_link : Nat := 0
abbrev pl_F_ends : Nat := 1
abbrev kd_F_ends : Nat := 17
abbrev pl_F_tape : Nat := 2
abbrev kd_F_tape : Nat := 18
abbrev pl_F_taped : Nat := 3
abbrev pl_Ag_isEndOne : Nat := 0
abbrev pl_Ag_features : Nat := 1
abbrev kd_Ag_features : Nat := 19
abbrev pl_Ag_confirms : Nat := 2
abbrev pl_Ag_scratch : Nat := 3
abbrev pl_Ag_spokeAt : Nat := 4
abbrev pl_Ch_items : Nat := 0
abbrev kd_Ch_items : Nat := 20
abbrev pl_Ch_size : Nat := 1
abbrev pl_Co_rows : Nat := 0
abbrev kd_Co_rows : Nat := 21
abbrev pl_Co_due : Nat := 1
abbrev pl_Da_kept : Nat := 0
abbrev pl_Da_bytes : Nat := 1
abbrev kd_Da_bytes : Nat := 22
abbrev pl_Da_sizes : Nat := 2
abbrev kd_Da_sizes : Nat := 23
abbrev pl_Da_begun : Nat := 3
abbrev pl_Da_gone : Nat := 4
abbrev pl_En_side : Nat := 0
abbrev pl_En_link : Nat := 1
abbrev pl_En_agreements : Nat := 2
abbrev pl_En_receipts : Nat := 3
abbrev pl_En_flight : Nat := 4
abbrev pl_En_outbox : Nat := 5
abbrev pl_En_inbox : Nat := 6
abbrev pl_En_tally : Nat := 7
abbrev kd_En_tally : Nat := 24
abbrev pl_En_codeSent : Nat := 8
abbrev pl_En_codeHeard : Nat := 9
abbrev pl_En_state : Nat := 10
abbrev pl_En_next : Nat := 11
abbrev pl_En_first : Nat := 12
abbrev pl_En_since : Nat := 13
abbrev pl_En_tries : Nat := 14
abbrev pl_En_syncAt : Nat := 15
abbrev pl_En_unanswered : Nat := 16
abbrev pl_En_unansweredSince : Nat := 17
abbrev pl_Fe_id : Nat := 0
abbrev pl_Fe_list : Nat := 1
abbrev pl_Fe_value : Nat := 2
abbrev pl_Fe_changing : Nat := 3
abbrev pl_Fe_untold : Nat := 4
abbrev pl_Fe_heard : Nat := 5
abbrev pl_Fe_latest : Nat := 6
abbrev pl_Fl_marks : Nat := 0
abbrev kd_Fl_marks : Nat := 25
abbrev pl_Fl_pipe : Nat := 1
abbrev pl_Fl_cwnd : Nat := 2
abbrev pl_Fl_edge : Nat := 3
abbrev pl_Fl_rto : Nat := 4
abbrev pl_Fl_grown : Nat := 5
abbrev pl_Fl_recover : Nat := 6
abbrev pl_Fl_clock : Nat := 7
abbrev pl_Li_packets : Nat := 0
abbrev kd_Li_packets : Nat := 26
abbrev pl_Li_delay : Nat := 1
abbrev pl_Li_time : Nat := 2
abbrev pl_Li_load : Nat := 3
abbrev pl_Li_draft : Nat := 4
abbrev pl_Li_taken : Nat := 5
abbrev pl_Pa_bytes : Nat := 0
abbrev kd_Pa_bytes : Nat := 27
abbrev pl_Pa_size : Nat := 1
abbrev pl_Pa_to : Nat := 2
abbrev pl_Pa_due : Nat := 3
abbrev pl_Re_any : Nat := 0
abbrev pl_Re_met : Nat := 1
abbrev pl_Re_high : Nat := 2
abbrev pl_Re_base : Nat := 3
abbrev pl_Re_marks : Nat := 4
abbrev kd_Re_marks : Nat := 28
abbrev pl_Re_highThen : Nat := 5
abbrev kd_Re_highThen : Nat := 29
abbrev pl_M_delay : Nat := 0
abbrev pl_M_now : Nat := 1
abbrev pl_M_onWay : Nat := 2
abbrev pl_M_goesTo : Nat := 3
abbrev kd_M_goesTo : Nat := 30
abbrev pl_M_comesAt : Nat := 4
abbrev kd_M_comesAt : Nat := 31
abbrev pl_M_sizeOf : Nat := 5
abbrev kd_M_sizeOf : Nat := 32
abbrev pl_M_octets : Nat := 6
abbrev kd_M_octets : Nat := 33
abbrev pl_M_tape : Nat := 7
abbrev kd_M_tape : Nat := 34
abbrev pl_M_taped : Nat := 8
abbrev pl_M_state : Nat := 9
abbrev kd_M_state : Nat := 35
abbrev pl_M_next : Nat := 10
abbrev kd_M_next : Nat := 36
abbrev pl_M_first : Nat := 11
abbrev kd_M_first : Nat := 37
abbrev pl_M_met : Nat := 12
abbrev kd_M_met : Nat := 38
abbrev pl_M_high : Nat := 13
abbrev kd_M_high : Nat := 39
abbrev pl_M_lowest : Nat := 14
abbrev kd_M_lowest : Nat := 40
abbrev pl_M_base : Nat := 15
abbrev kd_M_base : Nat := 41
abbrev pl_M_gotten : Nat := 16
abbrev kd_M_gotten : Nat := 42
abbrev pl_M_sentAs : Nat := 17
abbrev kd_M_sentAs : Nat := 43
abbrev pl_M_withRow : Nat := 18
abbrev kd_M_withRow : Nat := 44
abbrev pl_M_rowHigh : Nat := 19
abbrev kd_M_rowHigh : Nat := 45
abbrev pl_M_value : Nat := 20
abbrev kd_M_value : Nat := 46
abbrev pl_M_listSize : Nat := 21
abbrev kd_M_listSize : Nat := 47
abbrev pl_M_lists : Nat := 22
abbrev kd_M_lists : Nat := 48
abbrev pl_M_changing : Nat := 23
abbrev kd_M_changing : Nat := 49
abbrev pl_M_asked : Nat := 24
abbrev kd_M_asked : Nat := 50
abbrev pl_M_latest : Nat := 25
abbrev kd_M_latest : Nat := 51
abbrev pl_M_dueCount : Nat := 26
abbrev kd_M_dueCount : Nat := 52
abbrev pl_M_due : Nat := 27
abbrev kd_M_due : Nat := 53
abbrev pl_M_toSend : Nat := 28
abbrev kd_M_toSend : Nat := 54
abbrev pl_M_sendSizes : Nat := 29
abbrev kd_M_sendSizes : Nat := 55
abbrev pl_M_sendBytes : Nat := 30
abbrev kd_M_sendBytes : Nat := 56
abbrev pl_M_delivered : Nat := 31
abbrev kd_M_delivered : Nat := 57
abbrev pl_M_gotSizes : Nat := 32
abbrev kd_M_gotSizes : Nat := 58
abbrev pl_M_gotBytes : Nat := 33
abbrev kd_M_gotBytes : Nat := 59
abbrev pl_M_cwnd : Nat := 34
abbrev kd_M_cwnd : Nat := 60
abbrev pl_M_edge : Nat := 35
abbrev kd_M_edge : Nat := 61
abbrev pl_M_rto : Nat := 36
abbrev kd_M_rto : Nat := 62
abbrev pl_M_grown : Nat := 37
abbrev kd_M_grown : Nat := 63
abbrev pl_M_recovers : Nat := 38
abbrev kd_M_recovers : Nat := 64
abbrev pl_M_recover : Nat := 39
abbrev kd_M_recover : Nat := 65
abbrev pl_M_clock : Nat := 40
abbrev kd_M_clock : Nat := 66
abbrev pl_M_begun : Nat := 41
abbrev kd_M_begun : Nat := 67
abbrev pl_M_times : Nat := 42
abbrev kd_M_times : Nat := 68
abbrev pl_M_lastTime : Nat := 43
abbrev kd_M_lastTime : Nat := 69
abbrev pl_M_optionsAt : Nat := 44
abbrev kd_M_optionsAt : Nat := 70
abbrev pl_M_syncAt : Nat := 45
abbrev kd_M_syncAt : Nat := 71
abbrev pl_M_fresh : Nat := 46
abbrev kd_M_fresh : Nat := 72
abbrev pl_M_since : Nat := 47
abbrev kd_M_since : Nat := 73
abbrev pl_M_waitingFor : Nat := 48
abbrev kd_M_waitingFor : Nat := 74
abbrev pl_M_packetsSent : Nat := 49
abbrev kd_M_packetsSent : Nat := 75
abbrev pl_M_packetsCome : Nat := 50
abbrev kd_M_packetsCome : Nat := 76
abbrev pl_M_bad : Nat := 51
abbrev kd_M_bad : Nat := 77
abbrev pl_M_outside : Nat := 52
abbrev kd_M_outside : Nat := 78
abbrev pl_M_again : Nat := 53
abbrev kd_M_again : Nat := 79
abbrev pl_M_codeSent : Nat := 54
abbrev kd_M_codeSent : Nat := 80
abbrev pl_M_codeHeard : Nat := 55
abbrev kd_M_codeHeard : Nat := 81
abbrev pl_M_told : Nat := 56
abbrev kd_M_told : Nat := 82
abbrev pl_M_toldSize : Nat := 57
abbrev pl_M_made : Nat := 58
abbrev kd_M_made : Nat := 83
abbrev pl_M_madeSize : Nat := 59
abbrev pl_M_optionBytes : Nat := 60
abbrev pl_M_rows : Nat := 61
abbrev kd_M_rows : Nat := 84
abbrev pl_M_came : Nat := 62
abbrev kd_M_came : Nat := 85
abbrev pl_M_cameSize : Nat := 63
abbrev pl_M_toldGot : Nat := 64
abbrev kd_M_toldGot : Nat := 86
end
section
set_option maxRecDepth 100000 in
theorem z_M_around : ft_zok 132 := ⟨⟨977, rfl⟩, ⟨84, by decide +kernel⟩, by decide +kernel, by decide +kernel⟩
set_option maxRecDepth 100000 in
theorem z_M_feat : ft_zok 134 := ⟨⟨985, rfl⟩, ⟨84, by decide +kernel⟩, by decide +kernel, by decide +kernel⟩
set_option maxRecDepth 100000 in
theorem z_M_pipe : ft_zok 139 := ⟨⟨1202, rfl⟩, ⟨84, by decide +kernel⟩, by decide +kernel, by decide +kernel⟩
set_option maxRecDepth 100000 in
theorem z_M_isOwn : ft_zok 140 := ⟨⟨1206, rfl⟩, ⟨84, by decide +kernel⟩, by decide +kernel, by decide +kernel⟩
set_option maxRecDepth 100000 in
theorem z_M_in : ft_zok 141 := ⟨⟨1210, rfl⟩, ⟨84, by decide +kernel⟩, by decide +kernel, by decide +kernel⟩
set_option maxRecDepth 100000 in
theorem z_M_before : ft_zok 142 := ⟨⟨1213, rfl⟩, ⟨84, by decide +kernel⟩, by decide +kernel, by decide +kernel⟩
set_option maxRecDepth 100000 in
theorem z_M_after : ft_zok 143 := ⟨⟨1216, rfl⟩, ⟨84, by decide +kernel⟩, by decide +kernel, by decide +kernel⟩
set_option maxRecDepth 100000 in
theorem z_M_at : ft_zok 144 := ⟨⟨1220, rfl⟩, ⟨84, by decide +kernel⟩, by decide +kernel, by decide +kernel⟩
set_option maxRecDepth 100000 in
theorem z_M_byteOf : ft_zok 145 := ⟨⟨1224, rfl⟩, ⟨84, by decide +kernel⟩, by decide +kernel, by decide +kernel⟩
set_option maxRecDepth 100000 in
theorem z_M_hasAck : ft_zok 147 := ⟨⟨1231, rfl⟩, ⟨84, by decide +kernel⟩, by decide +kernel, by decide +kernel⟩
set_option maxRecDepth 100000 in
theorem z_M_isEnd : ft_zok 157 := ⟨⟨1271, rfl⟩, ⟨84, by decide +kernel⟩, by decide +kernel, by decide +kernel⟩
set_option maxRecDepth 100000 in
theorem z_M_mayBe : ft_zok 162 := ⟨⟨1295, rfl⟩, ⟨84, by decide +kernel⟩, by decide +kernel, by decide +kernel⟩
set_option maxRecDepth 100000 in
theorem z_M_changes : ft_zok 163 := ⟨⟨1301, rfl⟩, ⟨84, by decide +kernel⟩, by decide +kernel, by decide +kernel⟩
set_option maxRecDepth 100000 in
theorem z_M_hasTold : ft_zok 178 := ⟨⟨1365, rfl⟩, ⟨84, by decide +kernel⟩, by decide +kernel, by decide +kernel⟩
set_option maxRecDepth 100000 in
theorem z_M_hasOwn : ft_zok 179 := ⟨⟨1369, rfl⟩, ⟨84, by decide +kernel⟩, by decide +kernel, by decide +kernel⟩
set_option maxRecDepth 100000 in
theorem z_M_isThere : ft_zok 196 := ⟨⟨1437, rfl⟩, ⟨84, by decide +kernel⟩, by decide +kernel, by decide +kernel⟩
set_option maxRecDepth 100000 in
theorem k_M_around : ft_chk 132 = true := by decide +kernel
set_option maxRecDepth 100000 in
theorem k_M_feat : ft_chk 134 = true := by decide +kernel
set_option maxRecDepth 100000 in
theorem k_M_become : ft_chk 136 = true := by decide +kernel
set_option maxRecDepth 100000 in
theorem k_M_pipe : ft_chk 139 = true := by decide +kernel
set_option maxRecDepth 100000 in
theorem k_M_isOwn : ft_chk 140 = true := by decide +kernel
set_option maxRecDepth 100000 in
theorem k_M_in : ft_chk 141 = true := by decide +kernel
set_option maxRecDepth 100000 in
theorem k_M_before : ft_chk 142 = true := by decide +kernel
set_option maxRecDepth 100000 in
theorem k_M_after : ft_chk 143 = true := by decide +kernel
set_option maxRecDepth 100000 in
theorem k_M_at : ft_chk 144 = true := by decide +kernel
set_option maxRecDepth 100000 in
theorem k_M_byteOf : ft_chk 145 = true := by decide +kernel
set_option maxRecDepth 100000 in
theorem k_M_six : ft_chk 146 = true := by decide +kernel
set_option maxRecDepth 100000 in
theorem k_M_hasAck : ft_chk 147 = true := by decide +kernel
set_option maxRecDepth 100000 in
theorem k_M_fits : ft_chk 149 = true := by decide +kernel
set_option maxRecDepth 100000 in
theorem k_M_inRow : ft_chk 152 = true := by decide +kernel
set_option maxRecDepth 100000 in
theorem k_M_checkOf : ft_chk 154 = true := by decide +kernel
set_option maxRecDepth 100000 in
theorem k_M_isEnd : ft_chk 157 = true := by decide +kernel
set_option maxRecDepth 100000 in
theorem k_M_isList : ft_chk 161 = true := by decide +kernel
set_option maxRecDepth 100000 in
theorem k_M_mayBe : ft_chk 162 = true := by decide +kernel
set_option maxRecDepth 100000 in
theorem k_M_changes : ft_chk 163 = true := by decide +kernel
set_option maxRecDepth 100000 in
theorem k_M_headOf : ft_chk 169 = true := by decide +kernel
set_option maxRecDepth 100000 in
theorem k_M_sixAt : ft_chk 170 = true := by decide +kernel
set_option maxRecDepth 100000 in
theorem k_M_meet : ft_chk 171 = true := by decide +kernel
set_option maxRecDepth 100000 in
theorem k_M_reconciled : ft_chk 177 = true := by decide +kernel
set_option maxRecDepth 100000 in
theorem k_M_hasTold : ft_chk 178 = true := by decide +kernel
set_option maxRecDepth 100000 in
theorem k_M_hasOwn : ft_chk 179 = true := by decide +kernel
set_option maxRecDepth 100000 in
theorem k_M_fitsAck : ft_chk 181 = true := by decide +kernel
set_option maxRecDepth 100000 in
theorem k_M_fitsNumber : ft_chk 183 = true := by decide +kernel
set_option maxRecDepth 100000 in
theorem k_M_isGot_0 : ft_chkL 186 ft_c186_0 = true := by decide +kernel
set_option maxRecDepth 100000 in
theorem k_M_isGot_1 : ft_chkL 186 ft_c186_1 = true := by decide +kernel
set_option maxRecDepth 100000 in
theorem k_M_isGot_2 : ft_chkL 186 ft_c186_2 = true := by decide +kernel
theorem k_M_isGot : ft_chk 186 = true := ft_chk_app k_M_isGot_0 (ft_chk_app k_M_isGot_1 (k_M_isGot_2))
set_option maxRecDepth 100000 in
theorem k_M_missing_0 : ft_chkL 187 ft_c187_0 = true := by decide +kernel
set_option maxRecDepth 100000 in
theorem k_M_missing_1 : ft_chkL 187 ft_c187_1 = true := by decide +kernel
set_option maxRecDepth 100000 in
theorem k_M_missing_2 : ft_chkL 187 ft_c187_2 = true := by decide +kernel
theorem k_M_missing : ft_chk 187 = true := ft_chk_app k_M_missing_0 (ft_chk_app k_M_missing_1 (k_M_missing_2))
set_option maxRecDepth 100000 in
theorem k_M_tooLong_0 : ft_chkL 192 ft_c192_0 = true := by decide +kernel
set_option maxRecDepth 100000 in
theorem k_M_tooLong_1 : ft_chkL 192 ft_c192_1 = true := by decide +kernel
set_option maxRecDepth 100000 in
theorem k_M_tooLong_2 : ft_chkL 192 ft_c192_2 = true := by decide +kernel
theorem k_M_tooLong : ft_chk 192 = true := ft_chk_app k_M_tooLong_0 (ft_chk_app k_M_tooLong_1 (k_M_tooLong_2))
set_option maxRecDepth 100000 in
theorem k_M_ackDue : ft_chk 193 = true := by decide +kernel
set_option maxRecDepth 100000 in
theorem k_M_wantsOptions : ft_chk 194 = true := by decide +kernel
set_option maxRecDepth 100000 in
theorem k_M_isThere : ft_chk 196 = true := by decide +kernel
set_option maxRecDepth 100000 in
theorem k_M_way : ft_chk 202 = true := by decide +kernel
set_option maxRecDepth 100000 in
theorem k_M_packet : ft_chk 203 = true := by decide +kernel
set_option maxRecDepth 100000 in
theorem k_M_octet : ft_chk 204 = true := by decide +kernel
set_option maxRecDepth 100000 in
theorem k_M_state : ft_chk 205 = true := by decide +kernel
set_option maxRecDepth 100000 in
theorem k_M_number : ft_chk 206 = true := by decide +kernel
set_option maxRecDepth 100000 in
theorem k_M_count_0 : ft_chkL 208 ft_c208_0 = true := by decide +kernel
set_option maxRecDepth 100000 in
theorem k_M_count_1 : ft_chkL 208 ft_c208_1 = true := by decide +kernel
theorem k_M_count : ft_chk 208 = true := ft_chk_app k_M_count_0 (k_M_count_1)
set_option maxRecDepth 100000 in
theorem k_M_seen : ft_chk 210 = true := by decide +kernel
set_option maxRecDepth 100000 in
theorem k_M_sent : ft_chk 211 = true := by decide +kernel
end
section
/-! the forms of the places, by kinds: written by wip/gen_inv.py -/
def iv_O : List (List (Nat × Nat × Nat)) := [[(4, 9, 0), (4, 17, 2), (4, 18, 220), (1, 220, 0)],
  [(0, 0, 0), (4, 19, 8), (4, 4, 0), (4, 3, 0), (0, 0, 0)],
  [(4, 20, 3), (1, 3, 0)],
  [(4, 21, 84), (1, 12, 0)],
  [(8, 0, 0), (9, 22, 40), (9, 23, 1), (0, 0, 0), (0, 0, 0)],
  [(1, 1, 0), (4, 9, 0), (4, 2, 0), (4, 11, 0), (4, 8, 0), (4, 5, 20), (4, 5, 40), (4, 24, 5), (0, 0, 0), (0, 0, 0), (0, 0, 0), (2, 0, 0), (2, 0, 0), (0, 0, 0), (0, 0, 0), (0, 0, 0), (0, 0, 0), (0, 0, 0)],
  [(0, 0, 0), (4, 3, 0), (0, 0, 0), (0, 0, 0), (0, 0, 0), (0, 0, 0), (2, 0, 0)],
  [(4, 25, 256), (0, 0, 0), (0, 0, 0), (0, 0, 0), (0, 0, 0), (0, 0, 0), (2, 0, 0), (0, 0, 0)],
  [(4, 26, 60), (0, 0, 0), (6, 0, 0), (1, 60, 0), (4, 10, 0), (4, 10, 0)],
  [(4, 27, 220), (1, 220, 0), (0, 0, 0), (0, 0, 0)],
  [(0, 0, 0), (2, 0, 0), (2, 0, 0), (2, 0, 0), (4, 28, 256), (4, 29, 256)],
  [(0, 0, 0), (6, 1, 0), (1, 60, 0), (4, 30, 61), (4, 31, 61), (4, 32, 61), (4, 33, 15616), (4, 34, 220), (1, 220, 0), (4, 35, 2), (4, 36, 2), (4, 37, 2), (4, 38, 2), (4, 39, 2), (4, 40, 2), (4, 41, 2), (4, 42, 512), (4, 43, 512), (4, 44, 512), (4, 45, 512), (4, 46, 20), (4, 47, 20), (4, 48, 60), (4, 49, 20), (4, 50, 20), (4, 51, 20), (4, 52, 2), (4, 53, 192), (4, 54, 2), (4, 55, 40), (4, 56, 1600), (4, 57, 2), (4, 58, 80), (4, 59, 3200), (4, 60, 2), (4, 61, 2), (4, 62, 2), (4, 63, 2), (4, 64, 2), (4, 65, 2), (4, 66, 2), (4, 67, 2), (4, 68, 2), (4, 69, 2), (4, 70, 2), (4, 71, 2), (4, 72, 2), (4, 73, 2), (4, 74, 2), (4, 75, 2), (4, 76, 2), (4, 77, 2), (4, 78, 2), (4, 79, 2), (4, 80, 2), (4, 81, 2), (4, 82, 4), (1, 3, 0), (4, 83, 256), (6, 3, 0), (6, 4, 0), (4, 84, 40), (4, 85, 256), (6, 7, 0), (4, 86, 256)]]
def iv_R : List (Nat × Nat × Nat) := [(5, 0, 0), (5, 0, 0), (5, 0, 0), (5, 0, 0), (4, 6, 0), (1, 255, 0), (4, 7, 0), (0, 0, 0), (0, 0, 0), (0, 0, 0), (1, 40, 0), (0, 0, 0), (0, 0, 0), (4, 10, 0), (1, 255, 0), (0, 0, 0), (2, 0, 0), (1, 1, 0), (0, 0, 0), (1, 256, 0), (1, 255, 0), (1, 255, 0), (0, 0, 0), (2, 0, 0), (2, 0, 0), (0, 0, 0), (3, 0, 0), (2, 0, 0), (2, 0, 0), (0, 0, 0), (0, 0, 0), (0, 0, 0), (2, 0, 0), (0, 0, 0), (1, 3, 0), (0, 0, 0), (0, 0, 0), (0, 0, 0), (2, 0, 0), (1, 12, 0), (0, 0, 0), (1, 20, 0), (1, 40, 0), (0, 0, 0), (7, 2, 0), (1, 40, 0), (0, 0, 0), (0, 0, 0), (0, 0, 0), (0, 0, 0), (0, 0, 0), (0, 0, 0), (2, 0, 0), (0, 0, 0), (0, 0, 0), (0, 0, 0), (0, 0, 0), (0, 0, 0), (0, 0, 0), (0, 0, 0), (0, 0, 0), (0, 0, 0), (0, 0, 0), (0, 0, 0), (0, 0, 0), (0, 0, 0), (0, 0, 0), (0, 0, 0), (0, 0, 0), (0, 0, 0), (1, 255, 0), (0, 0, 0), (0, 0, 0), (0, 0, 0)]
def iv_code (c k : Nat) : Nat × Nat × Nat :=
  if c = 53 then (if k % 8 = 0 then (1, 7, 0) else (0, 0, 0))
  else if c = 85 then (if k = 0 then (6, 5, 0) else if k = 1 then (6, 6, 0) else (1, 255, 0))
  else if c = 54 then (if k = 0 then (6, 8, 0) else if k = 1 then (6, 9, 0) else (5, 0, 0))
  else if c ≤ 12 then (iv_O.getD (c - 1) []).getD k (5, 0, 0) else iv_R.getD (c - 13) (5, 0, 0)
/-- forms: (0) an int; (1, b) a number up to b; (2) a long; (3) a long below 2^48; (4, c, n) a reference to a cell of kind c and length n that is whole; (5) anything; (6, i) the number P i; (7, i) a number up to P i; (8) the cell's own length; (9, c, n) a reference to a cell of kind c and n times the own length -/
def iv_ok (κ : Nat → Nat × Nat) (E : Nat → Prop) (P : Nat → Nat) (m : Nat) (c : Nat × Nat × Nat) (v : Value) : Prop := match c.1 with
  | 0 => ∃ x : Int32, v = .int x
  | 1 => ∃ n : Nat, n ≤ c.2.1 ∧ v = .int (nI n)
  | 2 => ∃ x : Int64, v = .long x
  | 3 => ∃ n : Nat, n < 281474976710656 ∧ v = .long (lN n)
  | 4 => ∃ q : Nat, v = .ref q ∧ κ q = (c.2.1, c.2.2) ∧ ¬ E q
  | 6 => v = .int (nI (P c.2.1))
  | 7 => ∃ n : Nat, n ≤ P c.2.1 ∧ v = .int (nI n)
  | 8 => v = .int (nI m)
  | 9 => ∃ q : Nat, v = .ref q ∧ κ q = (c.2.1, c.2.2 * m) ∧ ¬ E q
  | _ => True
/-- kinds of which there is one cell only -/
def iv_one (c : Nat) : Bool := c == kd_M || c == kd_Li || c == kd_M_came || c == kd_M_toSend
/-- how large the numbers may be -/
def Pok (P : Nat → Nat) : Prop := P 5 ≤ 255 ∧ P 6 ≤ 255 ∧ P 7 ≤ 256 ∧ P 8 ≤ 20 ∧ P 9 ≤ 20
/-- the whole pictured heap but for the cells of E, which are being made: kinds κ, next address n, numbers P -/
def Iv (D : ft_G) (κ : Nat → Nat × Nat) (n : Nat) (E : Nat → Prop) (P : Nat → Nat) (h : ft_H) : Prop :=
  h.2 = (κ, n) ∧ (∀ a : Nat, (κ a).1 ≠ 0 → ft_B D ≤ a) ∧ (∀ a k : Nat, (κ a).1 ≠ 0 → ¬ E a → iv_ok κ E P (κ a).2 (iv_code (κ a).1 k) (h.1 a k)) ∧ (∀ a b : Nat, (κ a).1 = (κ b).1 → iv_one (κ a).1 = true → a = b) ∧ Pok P
section IV
variable {D : ft_G} {κ : Nat → Nat × Nat} {n : Nat} {E : Nat → Prop} {P : Nat → Nat} {h : ft_H}
theorem Iv.kinds (I : Iv D κ n E P h) : h.2.1 = κ := by rw [I.1]
theorem Iv.K (I : Iv D κ n E P h) {a c m : Nat} (ha : κ a = (c, m)) : (h.2.1 a).1 = c := by rw [I.kinds, ha]
theorem Iv.Kn (I : Iv D κ n E P h) {a c m : Nat} (ha : κ a = (c, m)) : (h.2.1 a).2 = m := by rw [I.kinds, ha]
theorem Iv.Kd (I : Iv D κ n E P h) {a c m : Nat} (ha : κ a = (c, m)) {x : Option (Nat ⊕ FieldType)} (hx : ft_kd c = x) : ft_kd (h.2.1 a).1 = x := by rw [I.K ha]; exact hx
theorem Iv.vi (I : Iv D κ n E P h) {a c m j : Nat} (ha : κ a = (c, m)) (hj : j < m) (hm : m < 2 ^ 31) : vp_in (nI j) (h.2.1 a).2 := by rw [I.Kn ha]; exact vp_in_nI hj hm
theorem Iv.B (I : Iv D κ n E P h) {a c m : Nat} (ha : κ a = (c + 1, m)) : ft_B D ≤ a := I.2.1 a (by rw [ha]; exact Nat.succ_ne_zero c)
theorem Iv.get (I : Iv D κ n E P h) {a c m : Nat} (ha : κ a = (c + 1, m)) (hE : ¬ E a) (k : Nat) : iv_ok κ E P m (iv_code (c + 1) k) (h.1 a k) := by
  have q := I.2.2.1 a k (by rw [ha]; exact Nat.succ_ne_zero c) hE
  rw [ha] at q
  exact q
theorem iv_ok.mono {Q : Nat → Nat} {m : Nat} {c : Nat × Nat × Nat} {v : Value} (q : iv_ok κ E P m c v) (hq : ∀ i, c.1 = 6 ∧ c.2.1 = i → Q i = P i) (hq7 : ∀ i, P i ≤ Q i ∨ c.1 ≠ 7 ∨ c.2.1 ≠ i) : iv_ok κ E Q m c v := by
  unfold iv_ok at q ⊢
  split at q <;> simp_all
  · obtain ⟨z, h1, h2⟩ := q
    rename_i h7
    rcases hq7 c.2.1 with h | h
    · exact ⟨z, Nat.le_trans h1 h, h2⟩
    · exact absurd rfl h
theorem Iv.set (I : Iv D κ n E P h) {a c m k : Nat} {v : Value} (ha : κ a = (c + 1, m)) (hv : iv_ok κ E P m (iv_code (c + 1) k) v) : Iv D κ n E P (ft_set h a k v) := by
  refine ⟨I.1, I.2.1, fun b j hb hE => ?_, I.2.2.2.1, I.2.2.2.2⟩
  by_cases e : b = a ∧ j = k
  · obtain ⟨e1, e2⟩ := e
    subst e1; subst e2
    rw [ha]
    simp only [ft_set, and_self, if_true]
    exact hv
  · simp only [ft_set, if_neg e]
    exact I.2.2.1 b j hb hE
/-- a place whose form is one of the numbers: the number changes with it; no other cell of any kind has that form there -/
theorem Iv.setP (I : Iv D κ n E P h) {Q : Nat → Nat} (hQ : Pok Q) {a c m k : Nat} {v : Value} (ha : κ a = (c + 1, m)) (hv : iv_ok κ E Q m (iv_code (c + 1) k) v) (ho : ∀ b j : Nat, (κ b).1 ≠ 0 → ¬ E b → ¬ (b = a ∧ j = k) → iv_ok κ E P (κ b).2 (iv_code (κ b).1 j) (h.1 b j) → iv_ok κ E Q (κ b).2 (iv_code (κ b).1 j) (h.1 b j)) : Iv D κ n E Q (ft_set h a k v) := by
  refine ⟨I.1, I.2.1, fun b j hb hE => ?_, I.2.2.2.1, hQ⟩
  by_cases e : b = a ∧ j = k
  · obtain ⟨e1, e2⟩ := e
    subst e1; subst e2
    rw [ha]
    simp only [ft_set, and_self, if_true]
    exact hv
  · simp only [ft_set, if_neg e]
    exact ho b j hb hE e (I.2.2.1 b j hb hE)
theorem Iv.vx (I : Iv D κ n E P h) {a c m j : Nat} {x : Int32} (ha : κ a = (c, m)) (hx : x = nI j) (hj : j < m) (hm : m < 2 ^ 31) : vp_in x (h.2.1 a).2 := by rw [hx]; exact I.vi ha hj hm
def Pu (P : Nat → Nat) (i x : Nat) : Nat → Nat := fun j => if j = i then x else P j
theorem Pu_s {i x : Nat} : Pu P i x i = x := by simp [Pu]
theorem Pu_n {i j x : Nat} (hj : j ≠ i) : Pu P i x j = P j := by simp [Pu, hj]
/-- where the numbers stand -/
def iv_where : List (Nat × Nat × Nat) := [(0, kd_Li, pl_Li_time), (1, kd_M, pl_M_now), (3, kd_M, pl_M_madeSize), (4, kd_M, pl_M_optionBytes), (5, kd_M_came, 0), (6, kd_M_came, 1), (7, kd_M, pl_M_cameSize), (8, kd_M_toSend, 0), (9, kd_M_toSend, 1)]
theorem iv_R6 : ∀ x ∈ iv_R, x.1 ≠ 6 ∧ (x.1 = 7 → x.2.1 = 2) := by decide
def iv_at (c j : Nat) : Nat × Nat × Nat := (iv_O.getD (c - 1) []).getD j (5, 0, 0)
theorem iv_O6b : ((List.range 13).all fun c => (List.range 66).all fun j => ((iv_at c j).1 != 6) || iv_where.contains ((iv_at c j).2.1, (if c = 0 then 1 else c), j)) = true := by decide +kernel
theorem iv_O7b : ((List.range 13).all fun c => (List.range 66).all fun j => ((iv_at c j).1 != 7)) = true := by decide +kernel
theorem iv_O6 (c : Nat) (hc : c < 13) (j : Nat) (hj : j < 66) (h6 : ((iv_O.getD (c - 1) []).getD j (5, 0, 0)).1 = 6) : (((iv_O.getD (c - 1) []).getD j (5, 0, 0)).2.1, (if c = 0 then 1 else c), j) ∈ iv_where := by
  have q := List.all_eq_true.mp (List.all_eq_true.mp iv_O6b c (List.mem_range.mpr hc)) j (List.mem_range.mpr hj)
  have h6' : (iv_at c j).1 = 6 := h6
  rw [h6'] at q
  have q2 : iv_where.contains ((iv_at c j).2.1, (if c = 0 then 1 else c), j) = true := by simpa using q
  exact List.contains_iff_mem.mp q2
theorem iv_O7 (c : Nat) (hc : c < 13) (j : Nat) (hj : j < 66) : ((iv_O.getD (c - 1) []).getD j (5, 0, 0)).1 ≠ 7 := by
  have q := List.all_eq_true.mp (List.all_eq_true.mp iv_O7b c (List.mem_range.mpr hc)) j (List.mem_range.mpr hj)
  have q2 : (iv_at c j).1 ≠ 7 := by simpa using q
  exact q2
theorem iv_Olen : ∀ l ∈ iv_O, l.length ≤ 66 := by decide
theorem iv_big {c j : Nat} (hj : 66 ≤ j) : (iv_O.getD (c - 1) []).getD j (5, 0, 0) = (5, 0, 0) := by
  have hl : (iv_O.getD (c - 1) []).length ≤ 66 := by
    rw [List.getD_eq_getElem?_getD]
    cases hq : iv_O[c - 1]? with
    | none => simp
    | some l => exact iv_Olen l (List.mem_of_getElem? hq)
  rw [List.getD_eq_getElem?_getD, List.getElem?_eq_none (by omega)]
  rfl
theorem iv_getR {c : Nat} : iv_R.getD c (5, 0, 0) ∈ iv_R ∨ iv_R.getD c (5, 0, 0) = (5, 0, 0) := by
  rw [List.getD_eq_getElem?_getD]
  cases hq : iv_R[c]? with
  | none => exact Or.inr rfl
  | some l => exact Or.inl (List.mem_of_getElem? hq)
theorem iv_six {c j : Nat} (h0 : c ≠ 0) (h6 : (iv_code c j).1 = 6) : ((iv_code c j).2.1, c, j) ∈ iv_where := by
  unfold iv_code at h6 ⊢
  split at h6
  · split at h6 <;> simp at h6
  · rename_i n1
    rw [if_neg n1]
    split at h6
    · rename_i e2
      rw [if_pos e2]
      subst e2
      split at h6
      · rename_i e3
        rw [if_pos e3]; subst e3; decide
      · rename_i n3
        rw [if_neg n3]
        split at h6
        · rename_i e4
          rw [if_pos e4]; subst e4; decide
        · simp at h6
    · rename_i n2
      rw [if_neg n2]
      split at h6
      · rename_i e2
        rw [if_pos e2]
        subst e2
        split at h6
        · rename_i e3
          rw [if_pos e3]; subst e3; decide
        · rename_i n3
          rw [if_neg n3]
          split at h6
          · rename_i e4
            rw [if_pos e4]; subst e4; decide
          · simp at h6
      rename_i n2'
      rw [if_neg n2']
      split at h6
      · rename_i e5
        rw [if_pos e5]
        by_cases hj : j < 66
        · have q := iv_O6 c (by omega) j hj h6
          rw [if_neg h0] at q
          exact q
        · rw [iv_big (by omega)] at h6
          simp at h6
      · rcases iv_getR (c := c - 13) with q | q
        · exact absurd h6 (iv_R6 _ q).1
        · rw [q] at h6; simp at h6
theorem iv_seven {c j : Nat} (h7 : (iv_code c j).1 = 7) : (iv_code c j).2.1 = 2 := by
  unfold iv_code at h7 ⊢
  split at h7
  · split at h7 <;> simp at h7
  · rename_i n1
    rw [if_neg n1]
    split at h7
    · split at h7
      · simp at h7
      · split at h7 <;> simp at h7
    · rename_i n2
      rw [if_neg n2]
      split at h7
      · split at h7
        · simp at h7
        · split at h7 <;> simp at h7
      rename_i n2'
      rw [if_neg n2']
      split at h7
      · rename_i e5
        by_cases hj : j < 66
        · exact absurd h7 (iv_O7 c (by omega) j hj)
        · rw [iv_big (by omega)] at h7
          simp at h7
      · rename_i n5
        rw [if_neg n5]
        rcases iv_getR (c := c - 13) with q | q
        · exact (iv_R6 _ q).2 h7
        · rw [q] at h7; simp at h7
theorem iv_where1 : ∀ q ∈ iv_where, ∀ r ∈ iv_where, q.1 = r.1 → q = r := by decide
theorem iv_whereO : ∀ q ∈ iv_where, iv_one q.2.1 = true := by decide
/-- one of the numbers changes, at its place -/
theorem Iv.upd (I : Iv D κ n E P h) {o c m k : Nat} (i x : Nat) (hQ : Pok (Pu P i x)) (ho : κ o = (c + 1, m)) (hw : (i, c + 1, k) ∈ iv_where) (h2 : i ≠ 2) (hv : iv_ok κ E (Pu P i x) m (iv_code (c + 1) k) (.int (nI x))) : Iv D κ n E (Pu P i x) (ft_set h o k (.int (nI x))) := by
  refine I.setP hQ ho hv (fun b j hb hE hne q => q.mono (fun i' hi => ?_) (fun i' => ?_))
  · by_cases e : i' = i
    · subst e
      exfalso
      have q1 := iv_six hb hi.1
      rw [hi.2] at q1
      have q2 := iv_where1 _ q1 _ hw rfl
      have q3 : (κ b).1 = c + 1 := congrArg (fun z => z.2.1) q2
      have q4 : j = k := congrArg (fun z => z.2.2) q2
      exact hne ⟨I.2.2.2.1 b o (by rw [q3, ho]) (by rw [q3]; exact iv_whereO _ hw), q4⟩
    · exact Pu_n e
  · by_cases h7 : (iv_code (κ b).1 j).1 = 7
    · have q7 := iv_seven h7
      by_cases e : i' = 2
      · subst e
        exact Or.inl (by rw [Pu_n (Ne.symm h2)]; exact Nat.le_refl _)
      · exact Or.inr (Or.inr (by rw [q7]; exact fun z => e z.symm))
    · exact Or.inr (Or.inl h7)
end IV
theorem Pok.pu {P : Nat → Nat} {i x : Nat} (h : Pok P) (hi : i < 5) : Pok (Pu P i x) := by
  obtain ⟨h5, h6, h7, h8, h9⟩ := h
  refine ⟨?_, ?_, ?_, ?_, ?_⟩ <;> rw [Pu_n (by omega)] <;> assumption
section IV2
variable {D : ft_G} {κ : Nat → Nat × Nat} {n : Nat} {E : Nat → Prop} {P : Nat → Nat} {h : ft_H}
theorem Iv.ok (I : Iv D κ n E P h) : Pok P := I.2.2.2.2
/-- how many datagrams there are to send -/
theorem Iv.ts (I : Iv D κ n E P h) {a e m : Nat} (ha : κ a = (kd_M_toSend, m)) (hE : ¬ E a) (he : e < 2) : h.1 a (nI e).toNatClampNeg = .int (nI (P (8 + e))) := by
  rcases (show e = 0 ∨ e = 1 by omega) with rfl | rfl
  · exact I.get ha hE 0
  · exact I.get ha hE 1
theorem Iv.tsb (I : Iv D κ n E P h) {e : Nat} (he : e < 2) : P (8 + e) ≤ 20 := by
  rcases (show e = 0 ∨ e = 1 by omega) with rfl | rfl
  · exact I.ok.2.2.2.1
  · exact I.ok.2.2.2.2
theorem Iv.tset (I : Iv D κ n E P h) {a e m x : Nat} (ha : κ a = (kd_M_toSend, m)) (he : e < 2) (hx : x ≤ 20) : Iv D κ n E (Pu P (8 + e) x) (ft_set h a (nI e).toNatClampNeg (.int (nI x))) := by
  have hq : Pok (Pu P (8 + e) x) := by
    obtain ⟨h5, h6, h7, h8, h9⟩ := I.ok
    rcases (show e = 0 ∨ e = 1 by omega) with rfl | rfl
    · exact ⟨by rw [Pu_n (by omega)]; exact h5, by rw [Pu_n (by omega)]; exact h6, by rw [Pu_n (by omega)]; exact h7, by rw [Pu_s]; exact hx, by rw [Pu_n (by omega)]; exact h9⟩
    · exact ⟨by rw [Pu_n (by omega)]; exact h5, by rw [Pu_n (by omega)]; exact h6, by rw [Pu_n (by omega)]; exact h7, by rw [Pu_n (by omega)]; exact h8, by rw [Pu_s]; exact hx⟩
  rcases (show e = 0 ∨ e = 1 by omega) with rfl | rfl
  · exact I.upd 8 x hq ha (k := 0) (by decide) (by decide) (by show Value.int (nI x) = Value.int (nI (Pu P 8 x 8)); rw [Pu_s])
  · exact I.upd 9 x hq ha (k := 1) (by decide) (by decide) (by show Value.int (nI x) = Value.int (nI (Pu P 9 x 9)); rw [Pu_s])
/-- a byte of the packet that came -/
theorem Iv.came (I : Iv D κ n E P h) {a m : Nat} (ha : κ a = (kd_M_came, m)) (hE : ¬ E a) (k : Nat) : ∃ x : Nat, x ≤ 255 ∧ h.1 a k = .int (nI x) := by
  by_cases h0 : k = 0
  · subst h0; exact ⟨_, I.ok.1, I.get ha hE 0⟩
  · by_cases h1 : k = 1
    · subst h1; exact ⟨_, I.ok.2.1, I.get ha hE 1⟩
    · have q := I.get ha hE k
      rw [show iv_code kd_M_came k = (1, 255, 0) from by unfold iv_code; rw [if_neg (by decide), if_pos rfl, if_neg h0, if_neg h1]] at q
      obtain ⟨x, hx, hv⟩ := q
      exact ⟨x, hx, hv⟩
/-- what is due: its length, and any byte of it -/
theorem Iv.due0 (I : Iv D κ n E P h) {a m : Nat} (ha : κ a = (kd_M_due, m)) (hE : ¬ E a) {k : Nat} (hk : k % 8 = 0) : ∃ x : Nat, x ≤ 7 ∧ h.1 a k = .int (nI x) := by
  have q := I.get ha hE k
  rw [show iv_code kd_M_due k = (1, 7, 0) from by unfold iv_code; rw [if_pos rfl, if_pos hk]] at q
  obtain ⟨x, hx, hv⟩ := q
  exact ⟨x, hx, hv⟩
theorem Iv.due (I : Iv D κ n E P h) {a m : Nat} (ha : κ a = (kd_M_due, m)) (hE : ¬ E a) (k : Nat) : ∃ x : Int32, h.1 a k = .int x := by
  by_cases hk : k % 8 = 0
  · obtain ⟨x, _, hv⟩ := I.due0 ha hE hk
    exact ⟨_, hv⟩
  · have q := I.get ha hE k
    rw [show iv_code kd_M_due k = (0, 0, 0) from by unfold iv_code; rw [if_pos rfl, if_neg hk]] at q
    exact q
theorem Iv.dset (I : Iv D κ n E P h) {a m k : Nat} {x : Int32} (ha : κ a = (kd_M_due, m)) (hx : k % 8 = 0 → ∃ z : Nat, z ≤ 7 ∧ x = nI z) : Iv D κ n E P (ft_set h a k (.int x)) := by
  refine I.set ha ?_
  by_cases hk : k % 8 = 0
  · rw [show iv_code kd_M_due k = (1, 7, 0) from by unfold iv_code; rw [if_pos rfl, if_pos hk]]
    obtain ⟨z, hz, e⟩ := hx hk
    exact ⟨z, hz, by rw [e]⟩
  · rw [show iv_code kd_M_due k = (0, 0, 0) from by unfold iv_code; rw [if_pos rfl, if_neg hk]]
    exact ⟨_, rfl⟩
end IV2
theorem sm_sub {D : ft_G} {y pc : Nat} {lv lv' : List (Nat × Value)} {st : List Value} {h : ft_H} {uc us : Nat} {Q : Option Value → ft_H → Prop} (ks : List Nat) (hl : lv_pick lv ks = lv') (k : sm D y pc lv' st h uc us Q) : sm D y pc lv st h uc us Q := by
  intro p l e R s m args below meth c H locs Z ls C rt hls hA hS
  exact k p l e R s m args below meth c H locs Z ls C rt (lv_sub hls ks hl) hA hS
theorem ft_nb {b : Nat} (hb : b ≤ 1) : narrow .boolean (.int (nI b)) = .int (nI b) := by
  rcases (show b = 0 ∨ b = 1 by omega) with rfl | rfl <;> rfl
end
section
theorem wb_tb (n : Nat) : (lN n).toBitVec = BitVec.ofNat 64 n := rfl
theorem wb_inj {a b : Int64} (h : a.toBitVec = b.toBitVec) : a = b := Int64.toBitVec_inj.mp h
theorem wb_tn {n : Nat} (h : n < 2 ^ 64) : (lN n).toBitVec.toNat = n := by rw [wb_tb, BitVec.toNat_ofNat, Nat.mod_eq_of_lt h]
theorem wb_of (x : Int64) : ∃ n, n < 2 ^ 64 ∧ x = lN n := ⟨x.toBitVec.toNat, x.toBitVec.isLt, wb_inj (by rw [wb_tb]; simp)⟩
theorem wb_of32 (x : Int32) : ∃ n, n < 2 ^ 32 ∧ x = nI n := ⟨x.toBitVec.toNat, x.toBitVec.isLt, Int32.toBitVec_inj.mp (by show _ = BitVec.ofNat 32 _; simp)⟩
theorem wb_c : ∀ k, k < 64 → ((nI k).toInt64 &&& 63) = lN k := by decide +kernel
theorem wb_cu : ∀ k, k < 64 → ((nI k).toInt64.toUInt64 &&& Int64.toUInt64 63) = UInt64.ofNat k := by decide +kernel
theorem wb_sm : ∀ k, k < 64 → (BitVec.ofNat 64 k).smod 64 = BitVec.ofNat 64 k := by decide +kernel
theorem wb_pw {a b : Nat} (h : a ≤ b) : 2 ^ b = 2 ^ a * 2 ^ (b - a) := by rw [← Nat.pow_add]; congr 1; omega
theorem wb_lt2 {a b : Nat} (h : a < b) : 2 ^ a < 2 ^ b := Nat.pow_lt_pow_right (by decide) h
theorem wb_mod (n : Nat) : lN n = lN (n % 2 ^ 64) := wb_inj (by rw [wb_tb, wb_tb]; apply BitVec.eq_of_toNat_eq; rw [BitVec.toNat_ofNat, BitVec.toNat_ofNat, Nat.mod_mod])
theorem wb_shr {n k : Nat} (hn : n < 2 ^ 64) (hk : k < 64) : ((lN n).toUInt64 >>> ((nI k).toInt64.toUInt64 &&& Int64.toUInt64 63)).toInt64 = lN (n / 2 ^ k) := by
  rw [wb_cu k hk]
  apply wb_inj
  apply BitVec.eq_of_toNat_eq
  show ((lN n).toUInt64 >>> UInt64.ofNat k).toNat = (BitVec.ofNat 64 _).toNat
  have h1 : (UInt64.ofNat k).toNat = k := by
    show (BitVec.ofNat 64 k).toNat = k
    rw [BitVec.toNat_ofNat, Nat.mod_eq_of_lt (by omega)]
  have h2 : (lN n).toUInt64.toNat = n := wb_tn hn
  rw [UInt64.toNat_shiftRight, h1, h2, Nat.mod_eq_of_lt hk, Nat.shiftRight_eq_div_pow, BitVec.toNat_ofNat, Nat.mod_eq_of_lt (Nat.lt_of_le_of_lt (Nat.div_le_self _ _) hn)]
theorem wb_shl (n : Nat) {k : Nat} (hk : k < 64) : lN n <<< ((nI k).toInt64 &&& 63) = lN (n * 2 ^ k) := by
  rw [wb_c k hk]
  apply wb_inj
  rw [Int64.toBitVec_shiftLeft, wb_tb, wb_tb, wb_tb, wb_sm k hk]
  apply BitVec.eq_of_toNat_eq
  rw [BitVec.shiftLeft_eq', BitVec.toNat_shiftLeft, BitVec.toNat_ofNat, BitVec.toNat_ofNat, BitVec.toNat_ofNat, Nat.mod_eq_of_lt (show k < 2 ^ 64 by omega), Nat.shiftLeft_eq, Nat.mul_mod, Nat.mod_mod, ← Nat.mul_mod]
theorem wb_and {a b : Nat} (ha : a < 2 ^ 64) (hb : b < 2 ^ 64) : lN a &&& lN b = lN (a &&& b) := by
  apply wb_inj
  rw [Int64.toBitVec_and, wb_tb, wb_tb, wb_tb]
  apply BitVec.eq_of_toNat_eq
  rw [BitVec.toNat_and, BitVec.toNat_ofNat, BitVec.toNat_ofNat, BitVec.toNat_ofNat, Nat.mod_eq_of_lt ha, Nat.mod_eq_of_lt hb, Nat.mod_eq_of_lt (Nat.and_lt_two_pow _ hb)]
theorem wb_or {a b : Nat} (ha : a < 2 ^ 64) (hb : b < 2 ^ 64) : lN a ||| lN b = lN (a ||| b) := by
  apply wb_inj
  rw [Int64.toBitVec_or, wb_tb, wb_tb, wb_tb]
  apply BitVec.eq_of_toNat_eq
  rw [BitVec.toNat_or, BitVec.toNat_ofNat, BitVec.toNat_ofNat, BitVec.toNat_ofNat, Nat.mod_eq_of_lt ha, Nat.mod_eq_of_lt hb, Nat.mod_eq_of_lt (Nat.or_lt_two_pow ha hb)]
theorem wb_mask {n k : Nat} (hn : n < 2 ^ 64) (hk : k < 64) : lN n &&& lN (2 ^ k - 1) = lN (n % 2 ^ k) := by
  rw [wb_and hn (by have := wb_lt2 hk; omega), Nat.and_two_pow_sub_one_eq_mod]
theorem wb_a1 {n : Nat} (hn : n < 2 ^ 64) : lN n &&& 1 = lN (n % 2) := wb_mask (k := 1) hn (by decide)
theorem ft_and255 (x : Int64) : ∃ j : Nat, j < 256 ∧ (x &&& lN 255).toInt32 = nI j := by
  refine ⟨x.toBitVec.toNat % 256, Nat.mod_lt _ (by decide), ?_⟩
  apply Int32.toBitVec_inj.mp
  apply BitVec.eq_of_toNat_eq
  rw [Int64.toBitVec_toInt32, Int64.toBitVec_and]
  show (BitVec.signExtend 32 (x.toBitVec &&& BitVec.ofNat 64 255)).toNat = (BitVec.ofNat 32 (x.toBitVec.toNat % 256)).toNat
  rw [BitVec.signExtend_eq_setWidth_of_le _ (by decide)]
  simp only [BitVec.toNat_setWidth, BitVec.toNat_and, BitVec.toNat_ofNat]
  rw [show (255 : Nat) % 2 ^ 64 = 2 ^ 8 - 1 from rfl, Nat.and_two_pow_sub_one_eq_mod]
/-- a comparison that fell, of two numbers -/
theorem ft_nle {a b : Nat} (ha : a < 2 ^ 31) (hb : b < 2 ^ 31) (h : ¬ nI b ≤ nI a) : a < b := Nat.not_le.mp (fun z => h ((nI_leI hb ha).mpr z))
theorem ft_le {a b : Nat} (ha : a < 2 ^ 31) (hb : b < 2 ^ 31) (h : nI a ≤ nI b) : a ≤ b := (nI_leI ha hb).mp h
theorem ft_lt {a b : Nat} (ha : a < 2 ^ 31) (hb : b < 2 ^ 31) (h : nI a < nI b) : a < b := (nI_ltI ha hb).mp h
theorem ft_nlt {a b : Nat} (ha : a < 2 ^ 31) (hb : b < 2 ^ 31) (h : ¬ nI a < nI b) : b ≤ a := Nat.not_lt.mp (fun z => h ((nI_ltI ha hb).mpr z))
theorem ft_eq {a b : Nat} (ha : a < 2 ^ 31) (hb : b < 2 ^ 31) (h : nI a = nI b) : a = b := (nI_eq ha hb).mp h
theorem ft_neq {a b : Nat} (_ : a < 2 ^ 31) (_ : b < 2 ^ 31) (h : ¬ nI a = nI b) : a ≠ b := fun z => h (by rw [z])
theorem ft_nneq {a b : Nat} (ha : a < 2 ^ 31) (hb : b < 2 ^ 31) (h : ¬ ¬ nI a = nI b) : a = b := (nI_eq ha hb).mp (Classical.not_not.mp h)
theorem ft_eq0 {a : Nat} (ha : a < 2 ^ 31) (h : nI a = 0) : a = 0 := (nI_eq ha (by decide)).mp (by rw [h, nI_0])
theorem ft_ne0 {a : Nat} (h : ¬ nI a = 0) : a ≠ 0 := fun z => h (by rw [z, nI_0])
theorem ft_rng {x : Int32} {a b : Nat} (h1 : lN a ≤ x.toInt64) (h2 : x.toInt64 ≤ lN b) (ha : a < 2 ^ 31) (hb : b < 2 ^ 31) : ∃ e : Nat, a ≤ e ∧ e ≤ b ∧ x = nI e := by
  have q1 := Int64.le_iff_toInt_le.mp h1
  have q2 := Int64.le_iff_toInt_le.mp h2
  rw [Int32.toInt_toInt64] at q1 q2
  rw [lN_toInt ha] at q1
  rw [lN_toInt hb] at q2
  refine ⟨x.toInt.toNat, by omega, by omega, ?_⟩
  apply Int32.toInt_inj.mp
  rw [nI_toInt (by omega)]
  omega
theorem ft_rngm {x : Int32} {w : Nat} (h1 : lN 0 ≤ x.toInt64) (h2 : x.toInt64 ≤ (nI w - nI 1).toInt64) (hw : w < 2 ^ 30) : ∃ e : Nat, e < w ∧ x = nI e := by
  have q1 := Int64.le_iff_toInt_le.mp h1
  have q2 := Int64.le_iff_toInt_le.mp h2
  rw [Int32.toInt_toInt64] at q1 q2
  rw [lN_toInt (by decide)] at q1
  rw [Int32.toInt_toInt64, pk_sub_toInt hw (by decide)] at q2
  refine ⟨x.toInt.toNat, by omega, ?_⟩
  apply Int32.toInt_inj.mp
  rw [nI_toInt (by omega)]
  omega
theorem ft_dec {a c : Nat} (h : c + 1 ≤ a) : nI a + Int32.ofInt (Int.negSucc c) = nI (a - (c + 1)) := by
  rw [← ft_k32 a, ← Int32.ofInt_add, ← ft_k32 (a - (c + 1))]
  have e : Int.ofNat a + Int.negSucc c = Int.ofNat (a - (c + 1)) := by
    rw [Int.negSucc_eq]
    simp only [Int.ofNat_eq_natCast]
    omega
  rw [e]
theorem ft_le0 {a : Nat} (ha : a < 2 ^ 31) (h : nI a ≤ 0) : a = 0 := by
  have q := ft_le ha (b := 0) (by decide) (by rw [nI_0]; exact h)
  omega
theorem ft_gt0 {a : Nat} (h : 0 < nI a) : 0 < a := by
  rcases Nat.eq_zero_or_pos a with q | q
  · subst q; rw [nI_0] at h; exact absurd h (by decide)
  · exact q
theorem ft_shl8 {a x : Nat} (ha : a < 2 ^ 48) (hx : x < 256) : (lN a <<< ((nI 8).toInt64 &&& 63)) ||| (nI x).toInt64 = lN (a * 256 + x) := by
  rw [wb_shl a (by decide), nI_l (by omega), wb_or (by omega) (by omega)]
  congr 1
  have e : a * 2 ^ 8 ||| x = a * 2 ^ 8 + x := by
    rw [Nat.mul_comm]
    exact (Nat.two_pow_add_eq_or_of_lt (i := 8) hx a).symm
  exact e
end
section
section M1
variable {D : ft_G} {h : ft_H} {κ : Nat → Nat × Nat} {n : Nat} {E : Nat → Prop} {P : Nat → Nat}
theorem t_M_around {x : Int64} : sm D y_M_around 0 (lv_args 0 [.long x]) [] h 0 0 (fun v h' => (∃ y : Nat, y < 281474976710656 ∧ v = some (.long (lN y))) ∧ h' = h) := by
  obtain ⟨z, hz, rfl⟩ := wb_of x
  refine ft_run_ok k_M_around 3 0 _ _ _ [] rfl trivial ?_
  exact r_ret (v := some (.long _)) k_M_around rfl trivial (Nat.le_refl 0) (Nat.le_refl 0) ⟨⟨z % 2 ^ 48, Nat.mod_lt _ (by decide), congrArg (fun q => some (Value.long q)) (wb_mask (n := z) (k := 48) hz (by decide))⟩, rfl⟩
theorem t_M_in {x lo up : Int64} : sm D y_M_in 0 (lv_args 0 [.long x, .long lo, .long up]) [] h 0 0 (fun v h' => (∃ b : Nat, b ≤ 1 ∧ v = some (.int (nI b)) ∧ (b = 1 ↔ lo ≤ x ∧ x ≤ up)) ∧ h' = h) := by
  refine ft_run_ok k_M_in 3 0 _ _ _ [] rfl trivial ?_
  refine r_if k_M_in rfl rfl (fun c1 => ?_) (fun c1 => ?_)
  · refine ft_run_ok k_M_in 1 _ _ _ _ [] rfl trivial ?_
    exact r_ret (v := some (.int (nI 0))) k_M_in rfl rfl (Nat.le_refl 0) (Nat.le_refl 0) ⟨⟨0, by omega, rfl, ⟨fun z => by omega, fun z => absurd ((lg_cmp_gt _ _).mp c1) (Int64.not_lt.mpr z.1)⟩⟩, rfl⟩
  · refine ft_run_ok k_M_in 3 _ _ _ _ [] rfl trivial ?_
    refine r_if k_M_in rfl rfl (fun c2 => ?_) (fun c2 => ?_)
    · refine ft_run_ok k_M_in 1 _ _ _ _ [] rfl trivial ?_
      exact r_ret (v := some (.int (nI 0))) k_M_in rfl rfl (Nat.le_refl 0) (Nat.le_refl 0) ⟨⟨0, by omega, rfl, ⟨fun z => by omega, fun z => absurd ((lg_cmp_gt _ _).mp c2) (Int64.not_lt.mpr z.2)⟩⟩, rfl⟩
    · refine ft_run_ok k_M_in 2 _ _ _ _ [] rfl trivial ?_
      exact r_ret (v := some (.int (nI 1))) k_M_in rfl rfl (Nat.le_refl 0) (Nat.le_refl 0) ⟨⟨1, by omega, rfl, ⟨fun _ => ⟨Int64.not_lt.mp (fun z => c1 ((lg_cmp_gt _ _).mpr z)), Int64.not_lt.mp (fun z => c2 ((lg_cmp_gt _ _).mpr z))⟩, fun _ => rfl⟩⟩, rfl⟩
set_option maxRecDepth 100000 in
theorem t_M_after {a : Int64} {b : Int64}  : sm D y_M_after 0 (lv_args 0 [.long a, .long b]) [] h 0 0 (fun v h' => (∃ b : Nat, b ≤ 1 ∧ v = some (.int (nI b))) ∧ h' = h) := by
  refine ft_run_ok k_M_after 3 _ _ _ _ [] rfl trivial ?_
  refine r_callS (as := [.long ((a) - (b))]) (r := []) k_M_after rfl z_M_around rfl (Nat.le_of_ble_eq_true rfl) (Nat.le_of_ble_eq_true rfl) (Nat.le_of_ble_eq_true rfl) (Nat.le_of_ble_eq_true rfl) (t_M_around) ?_
  rintro v h' ⟨⟨n1, b2, rfl⟩, rfl⟩
  refine ft_run_ok k_M_after 2 _ _ _ _ [] rfl trivial ?_
  refine r_callS (as := [.long (lN n1), .long (lN 1), .long (lN 140737488355327)]) (r := []) k_M_after rfl z_M_in rfl (Nat.le_of_ble_eq_true rfl) (Nat.le_of_ble_eq_true rfl) (Nat.le_of_ble_eq_true rfl) (Nat.le_of_ble_eq_true rfl) (t_M_in) ?_
  rintro v h' ⟨⟨n3, b4, rfl, m5⟩, rfl⟩
  exact r_ret (v := some (.int (nI n3))) k_M_after rfl (ft_nb (by omega)) (Nat.le_of_ble_eq_true rfl) (Nat.le_of_ble_eq_true rfl) ⟨⟨n3, by omega, rfl⟩, rfl⟩
set_option maxRecDepth 100000 in
theorem t_M_before {a : Int64} {b : Int64}  : sm D y_M_before 0 (lv_args 0 [.long a, .long b]) [] h 0 0 (fun v h' => (∃ b : Nat, b ≤ 1 ∧ v = some (.int (nI b))) ∧ h' = h) := by
  refine ft_run_ok k_M_before 2 _ _ _ _ [] rfl trivial ?_
  refine r_callS (as := [.long (b), .long (a)]) (r := []) k_M_before rfl z_M_after rfl (Nat.le_of_ble_eq_true rfl) (Nat.le_of_ble_eq_true rfl) (Nat.le_of_ble_eq_true rfl) (Nat.le_of_ble_eq_true rfl) (t_M_after) ?_
  rintro v h' ⟨⟨n1, b2, rfl⟩, rfl⟩
  exact r_ret (v := some (.int (nI n1))) k_M_before rfl (ft_nb (by omega)) (Nat.le_of_ble_eq_true rfl) (Nat.le_of_ble_eq_true rfl) ⟨⟨n1, by omega, rfl⟩, rfl⟩
theorem t_M_at {e : Nat} {x_e : Int32} {x : Int64} (q_e : x_e = nI e) (h_e : e < 2) : sm D y_M_at 0 (lv_args 0 [.int x_e, .long x]) [] h 0 0 (fun v h' => (∃ j : Nat, j < 512 ∧ v = some (.int (nI j))) ∧ h' = h) := by
  subst q_e
  refine ft_run_ok k_M_at 8 0 _ _ _ [] rfl trivial ?_
  obtain ⟨j, hj, ej⟩ := ft_and255 x
  exact r_ret (v := some (.int _)) k_M_at rfl trivial (Nat.le_refl 0) (Nat.le_refl 0) ⟨⟨256 * e + j, by omega, by rw [ej]; simp only [nI_add, pk_mul]⟩, rfl⟩
set_option maxRecDepth 100000 in
theorem t_M_feat {e : Nat} {x_e : Int32} {w : Nat} {x_w : Int32} {f : Nat} {x_f : Int32} (q_e : x_e = nI e) (h_e : e < 2) (q_w : x_w = nI w) (h_w : w < 2) (q_f : x_f = nI f) (h_f : f < 5) : sm D y_M_feat 0 (lv_args 0 [.int x_e, .int x_w, .int x_f]) [] h 0 0 (fun v h' => (∃ j : Nat, j < 20 ∧ v = some (.int (nI j))) ∧ h' = h) := by
  subst q_e
  subst q_w
  subst q_f
  refine ft_run_ok k_M_feat 9 _ _ _ _ [] rfl trivial ?_
  exact r_ret (v := some (.int ((((nI 10) * (nI e)) + ((nI 5) * (nI w))) + (nI f)))) k_M_feat rfl trivial (Nat.le_of_ble_eq_true rfl) (Nat.le_of_ble_eq_true rfl) ⟨⟨(((10) * (e)) + ((5) * (w))) + (f), by omega, (by simp only [nI_add, pk_mul])⟩, rfl⟩
theorem t_M_hasAck {k : Nat} {x_k : Int32} (q_k : x_k = nI k) (h_k : k < 256) : sm D y_M_hasAck 0 (lv_args 0 [.int x_k]) [] h 0 0 (fun v h' => (∃ b : Nat, b ≤ 1 ∧ v = some (.int (nI b)) ∧ (b = 1 ↔ k ≠ 0 ∧ k ≠ 2)) ∧ h' = h) := by
  subst q_k
  refine ft_run_ok k_M_hasAck 1 _ _ _ _ [] rfl trivial ?_
  refine r_if k_M_hasAck rfl rfl (fun c1 => ?_) (fun c1 => ?_)
  · have g1 := ft_eq0 (a := k) (by omega) c1
    refine ft_run_ok k_M_hasAck 1 _ _ _ _ [] rfl trivial ?_
    exact r_ret (v := some (.int (nI 0))) k_M_hasAck rfl rfl (Nat.le_of_ble_eq_true rfl) (Nat.le_of_ble_eq_true rfl) ⟨⟨0, by omega, rfl, by omega⟩, rfl⟩
  · have g1 := ft_ne0 (a := k) c1
    refine ft_run_ok k_M_hasAck 2 _ _ _ _ [] rfl trivial ?_
    refine r_icmp k_M_hasAck rfl rfl (fun c2 => ?_) (fun c2 => ?_)
    · have g2 := ft_eq (a := k) (b := 2) (by omega) (by omega) c2
      refine ft_run_ok k_M_hasAck 1 _ _ _ _ [] rfl trivial ?_
      exact r_ret (v := some (.int (nI 0))) k_M_hasAck rfl rfl (Nat.le_of_ble_eq_true rfl) (Nat.le_of_ble_eq_true rfl) ⟨⟨0, by omega, rfl, by omega⟩, rfl⟩
    · have g2 := ft_neq (a := k) (b := 2) (by omega) (by omega) c2
      refine ft_run_ok k_M_hasAck 2 _ _ _ _ [] rfl trivial ?_
      exact r_ret (v := some (.int (nI 1))) k_M_hasAck rfl rfl (Nat.le_of_ble_eq_true rfl) (Nat.le_of_ble_eq_true rfl) ⟨⟨1, by omega, rfl, by omega⟩, rfl⟩
set_option maxRecDepth 100000 in
theorem t_M_become {o : Nat} {e : Nat} {x_e : Int32} {s : Int32} (I : Iv D κ n E P h) (ho : κ o = (kd_M, 0)) (hE : ¬ E o) (q_e : x_e = nI e) (h_e : e < 2) : sm D y_M_become 0 (lv_args 0 [.ref o, .int x_e, .int s]) [] h 0 0 (fun v h' => (v = none) ∧ Iv D κ n E P h') := by
  subst q_e
  obtain ⟨a2, r1, k3, e4⟩ := I.get ho hE (9)
  have k3 : κ a2 = (35, 2) := k3
  have I5 := I.set (k := (nI e).toNatClampNeg) (v := .int (s)) k3 ⟨_, rfl⟩
  obtain ⟨a7, r6, k8, e9⟩ := I5.get ho hE (41)
  have k8 : κ a7 = (67, 2) := k8
  have r10 := I5.get ho hE (1)
  have I11 := I5.set (k := (nI e).toNatClampNeg) (v := .int (nI (P 1))) k8 ⟨_, rfl⟩
  obtain ⟨a13, r12, k14, e15⟩ := I11.get ho hE (42)
  have k14 : κ a13 = (68, 2) := k14
  have I16 := I11.set (k := (nI e).toNatClampNeg) (v := .int (nI 1)) k14 ⟨_, rfl⟩
  obtain ⟨a18, r17, k19, e20⟩ := I16.get ho hE (43)
  have k19 : κ a18 = (69, 2) := k19
  have r21 := I16.get ho hE (1)
  have I22 := I16.set (k := (nI e).toNatClampNeg) (v := .int (nI (P 1))) k19 ⟨_, rfl⟩
  refine ft_run_ok k_M_become 22 _ _ _ _ [.ref a2, .ref a7, .int (nI (P 1)), .ref a13, .ref a18, .int (nI (P 1))] rfl ⟨I.K ho, r1, I.Kd k3 rfl, I.B k3, I.vi k3 (by omega) (by decide), I5.K ho, r6, I5.K ho, r10, I5.Kd k8 rfl, I5.B k8, I5.vi k8 (by omega) (by decide), I11.K ho, r12, I11.Kd k14 rfl, I11.B k14, I11.vi k14 (by omega) (by decide), I16.K ho, r17, I16.K ho, r21, I16.Kd k19 rfl, I16.B k19, I16.vi k19 (by omega) (by decide), trivial⟩ ?_
  exact r_ret (v := none) k_M_become rfl trivial (Nat.le_of_ble_eq_true rfl) (Nat.le_of_ble_eq_true rfl) ⟨rfl, I22⟩
set_option maxRecDepth 100000 in
theorem t_M_isOwn {o : Nat} {e : Nat} {x_e : Int32} {x : Int64} (I : Iv D κ n E P h) (ho : κ o = (kd_M, 0)) (hE : ¬ E o) (q_e : x_e = nI e) (h_e : e < 2) : sm D y_M_isOwn 0 (lv_args 0 [.ref o, .int x_e, .long x]) [] h 0 0 (fun v h' => (∃ b : Nat, b ≤ 1 ∧ v = some (.int (nI b))) ∧ h' = h) := by
  subst q_e
  obtain ⟨a2, r1, k3, e4⟩ := I.get ho hE (10)
  have k3 : κ a2 = (36, 2) := k3
  obtain ⟨x6, r5⟩ := I.get k3 e4 ((nI e).toNatClampNeg)
  refine ft_run_ok k_M_isOwn 6 _ _ _ _ [.ref a2, .long (x6)] rfl ⟨I.K ho, r1, I.Kd k3 rfl, I.vi k3 (by omega) (by decide), r5, trivial⟩ ?_
  refine r_callS (as := [.long ((x6) - (x))]) (r := []) k_M_isOwn rfl z_M_around rfl (Nat.le_of_ble_eq_true rfl) (Nat.le_of_ble_eq_true rfl) (Nat.le_of_ble_eq_true rfl) (Nat.le_of_ble_eq_true rfl) (t_M_around) ?_
  rintro v h' ⟨⟨n7, b8, rfl⟩, rfl⟩
  refine ft_run_ok k_M_isOwn 4 _ _ _ _ [] rfl trivial ?_
  refine r_callS (as := [.long (lN n7), .long (lN 1), .long (lN 255)]) (r := []) k_M_isOwn rfl z_M_in rfl (Nat.le_of_ble_eq_true rfl) (Nat.le_of_ble_eq_true rfl) (Nat.le_of_ble_eq_true rfl) (Nat.le_of_ble_eq_true rfl) (t_M_in) ?_
  rintro v h' ⟨⟨n9, b10, rfl, m11⟩, rfl⟩
  refine r_if k_M_isOwn rfl rfl (fun c12 => ?_) (fun c12 => ?_)
  · have g13 := ft_eq0 (a := n9) (by omega) c12
    refine ft_run_ok k_M_isOwn 1 _ _ _ _ [] rfl trivial ?_
    exact r_ret (v := some (.int (nI 0))) k_M_isOwn rfl rfl (Nat.le_of_ble_eq_true rfl) (Nat.le_of_ble_eq_true rfl) ⟨⟨0, by omega, rfl⟩, rfl⟩
  · have g14 := ft_ne0 (a := n9) c12
    obtain ⟨a16, r15, k17, e18⟩ := I.get ho hE (11)
    have k17 : κ a16 = (37, 2) := k17
    obtain ⟨x20, r19⟩ := I.get k17 e18 ((nI e).toNatClampNeg)
    refine ft_run_ok k_M_isOwn 5 _ _ _ _ [.ref a16, .long (x20)] rfl ⟨I.K ho, r15, I.Kd k17 rfl, I.vi k17 (by omega) (by decide), r19, trivial⟩ ?_
    refine r_callS (as := [.long (x), .long (x20)]) (r := []) k_M_isOwn rfl z_M_before rfl (Nat.le_of_ble_eq_true rfl) (Nat.le_of_ble_eq_true rfl) (Nat.le_of_ble_eq_true rfl) (Nat.le_of_ble_eq_true rfl) (t_M_before) ?_
    rintro v h' ⟨⟨n21, b22, rfl⟩, rfl⟩
    refine r_if k_M_isOwn rfl rfl (fun c23 => ?_) (fun c23 => ?_)
    · have g24 := ft_ne0 (a := n21) c23
      refine ft_run_ok k_M_isOwn 1 _ _ _ _ [] rfl trivial ?_
      exact r_ret (v := some (.int (nI 0))) k_M_isOwn rfl rfl (Nat.le_of_ble_eq_true rfl) (Nat.le_of_ble_eq_true rfl) ⟨⟨0, by omega, rfl⟩, rfl⟩
    · have g25 := ft_eq0 (a := n21) (by omega) (Classical.not_not.mp c23)
      refine ft_run_ok k_M_isOwn 2 _ _ _ _ [] rfl trivial ?_
      exact r_ret (v := some (.int (nI 1))) k_M_isOwn rfl rfl (Nat.le_of_ble_eq_true rfl) (Nat.le_of_ble_eq_true rfl) ⟨⟨1, by omega, rfl⟩, rfl⟩
set_option maxRecDepth 100000 in
theorem t_M_inRow {o : Nat} {e : Nat} {x_e : Int32} {x : Int64} (I : Iv D κ n E P h) (ho : κ o = (kd_M, 0)) (hE : ¬ E o) (q_e : x_e = nI e) (h_e : e < 2) : sm D y_M_inRow 0 (lv_args 0 [.ref o, .int x_e, .long x]) [] h 0 0 (fun v h' => (∃ b : Nat, b ≤ 1 ∧ v = some (.int (nI b))) ∧ h' = h) := by
  subst q_e
  obtain ⟨a2, r1, k3, e4⟩ := I.get ho hE (12)
  have k3 : κ a2 = (38, 2) := k3
  obtain ⟨x6, r5⟩ := I.get k3 e4 ((nI e).toNatClampNeg)
  refine ft_run_ok k_M_inRow 4 _ _ _ _ [.ref a2, .int (x6)] rfl ⟨I.K ho, r1, I.Kd k3 rfl, I.vi k3 (by omega) (by decide), r5, trivial⟩ ?_
  refine r_if k_M_inRow rfl rfl (fun c7 => ?_) (fun c7 => ?_)
  · refine ft_run_ok k_M_inRow 1 _ _ _ _ [] rfl trivial ?_
    exact r_ret (v := some (.int (nI 0))) k_M_inRow rfl rfl (Nat.le_of_ble_eq_true rfl) (Nat.le_of_ble_eq_true rfl) ⟨⟨0, by omega, rfl⟩, rfl⟩
  · obtain ⟨a11, r10, k12, e13⟩ := I.get ho hE (14)
    have k12 : κ a11 = (40, 2) := k12
    obtain ⟨x15, r14⟩ := I.get k12 e13 ((nI e).toNatClampNeg)
    refine ft_run_ok k_M_inRow 5 _ _ _ _ [.ref a11, .long (x15)] rfl ⟨I.K ho, r10, I.Kd k12 rfl, I.vi k12 (by omega) (by decide), r14, trivial⟩ ?_
    refine r_callS (as := [.long (x), .long (x15)]) (r := []) k_M_inRow rfl z_M_before rfl (Nat.le_of_ble_eq_true rfl) (Nat.le_of_ble_eq_true rfl) (Nat.le_of_ble_eq_true rfl) (Nat.le_of_ble_eq_true rfl) (t_M_before) ?_
    rintro v h' ⟨⟨n16, b17, rfl⟩, rfl⟩
    refine r_if k_M_inRow rfl rfl (fun c18 => ?_) (fun c18 => ?_)
    · have g19 := ft_ne0 (a := n16) c18
      refine ft_run_ok k_M_inRow 1 _ _ _ _ [] rfl trivial ?_
      exact r_ret (v := some (.int (nI 0))) k_M_inRow rfl rfl (Nat.le_of_ble_eq_true rfl) (Nat.le_of_ble_eq_true rfl) ⟨⟨0, by omega, rfl⟩, rfl⟩
    · have g20 := ft_eq0 (a := n16) (by omega) (Classical.not_not.mp c18)
      obtain ⟨a22, r21, k23, e24⟩ := I.get ho hE (15)
      have k23 : κ a22 = (41, 2) := k23
      obtain ⟨x26, r25⟩ := I.get k23 e24 ((nI e).toNatClampNeg)
      refine ft_run_ok k_M_inRow 5 _ _ _ _ [.ref a22, .long (x26)] rfl ⟨I.K ho, r21, I.Kd k23 rfl, I.vi k23 (by omega) (by decide), r25, trivial⟩ ?_
      refine r_callS (as := [.long (x), .long (x26)]) (r := []) k_M_inRow rfl z_M_before rfl (Nat.le_of_ble_eq_true rfl) (Nat.le_of_ble_eq_true rfl) (Nat.le_of_ble_eq_true rfl) (Nat.le_of_ble_eq_true rfl) (t_M_before) ?_
      rintro v h' ⟨⟨n27, b28, rfl⟩, rfl⟩
      refine r_if k_M_inRow rfl rfl (fun c29 => ?_) (fun c29 => ?_)
      · have g30 := ft_ne0 (a := n27) c29
        refine ft_run_ok k_M_inRow 1 _ _ _ _ [] rfl trivial ?_
        exact r_ret (v := some (.int (nI 0))) k_M_inRow rfl rfl (Nat.le_of_ble_eq_true rfl) (Nat.le_of_ble_eq_true rfl) ⟨⟨0, by omega, rfl⟩, rfl⟩
      · have g31 := ft_eq0 (a := n27) (by omega) (Classical.not_not.mp c29)
        obtain ⟨a33, r32, k34, e35⟩ := I.get ho hE (13)
        have k34 : κ a33 = (39, 2) := k34
        obtain ⟨n37, b38, r36⟩ := I.get k34 e35 ((nI e).toNatClampNeg)
        refine ft_run_ok k_M_inRow 6 _ _ _ _ [.ref a33, .long (lN n37)] rfl ⟨I.K ho, r32, I.Kd k34 rfl, I.vi k34 (by omega) (by decide), r36, trivial⟩ ?_
        refine r_callS (as := [.long ((lN n37) - (x))]) (r := []) k_M_inRow rfl z_M_around rfl (Nat.le_of_ble_eq_true rfl) (Nat.le_of_ble_eq_true rfl) (Nat.le_of_ble_eq_true rfl) (Nat.le_of_ble_eq_true rfl) (t_M_around) ?_
        rintro v h' ⟨⟨n39, b40, rfl⟩, rfl⟩
        refine ft_run_ok k_M_inRow 2 _ _ _ _ [] rfl trivial ?_
        refine r_if k_M_inRow rfl rfl (fun c41 => ?_) (fun c41 => ?_)
        · refine ft_run_ok k_M_inRow 1 _ _ _ _ [] rfl trivial ?_
          exact r_ret (v := some (.int (nI 0))) k_M_inRow rfl rfl (Nat.le_of_ble_eq_true rfl) (Nat.le_of_ble_eq_true rfl) ⟨⟨0, by omega, rfl⟩, rfl⟩
        · refine ft_run_ok k_M_inRow 2 _ _ _ _ [] rfl trivial ?_
          exact r_ret (v := some (.int (nI 1))) k_M_inRow rfl rfl (Nat.le_of_ble_eq_true rfl) (Nat.le_of_ble_eq_true rfl) ⟨⟨1, by omega, rfl⟩, rfl⟩
set_option maxRecDepth 100000 in
theorem t_M_fitsAck {o : Nat} {e : Nat} {x_e : Int32} {x : Int64} (I : Iv D κ n E P h) (ho : κ o = (kd_M, 0)) (hE : ¬ E o) (q_e : x_e = nI e) (h_e : e < 2) : sm D y_M_fitsAck 0 (lv_args 0 [.ref o, .int x_e, .long x]) [] h 0 0 (fun v h' => (∃ b : Nat, b ≤ 1 ∧ v = some (.int (nI b))) ∧ h' = h) := by
  subst q_e
  obtain ⟨a2, r1, k3, e4⟩ := I.get ho hE (11)
  have k3 : κ a2 = (37, 2) := k3
  obtain ⟨x6, r5⟩ := I.get k3 e4 ((nI e).toNatClampNeg)
  refine ft_run_ok k_M_fitsAck 5 _ _ _ _ [.ref a2, .long (x6)] rfl ⟨I.K ho, r1, I.Kd k3 rfl, I.vi k3 (by omega) (by decide), r5, trivial⟩ ?_
  refine r_callS (as := [.long (x), .long (x6)]) (r := []) k_M_fitsAck rfl z_M_before rfl (Nat.le_of_ble_eq_true rfl) (Nat.le_of_ble_eq_true rfl) (Nat.le_of_ble_eq_true rfl) (Nat.le_of_ble_eq_true rfl) (t_M_before) ?_
  rintro v h' ⟨⟨n7, b8, rfl⟩, rfl⟩
  refine r_if k_M_fitsAck rfl rfl (fun c9 => ?_) (fun c9 => ?_)
  · have g10 := ft_ne0 (a := n7) c9
    refine ft_run_ok k_M_fitsAck 1 _ _ _ _ [] rfl trivial ?_
    exact r_ret (v := some (.int (nI 0))) k_M_fitsAck rfl rfl (Nat.le_of_ble_eq_true rfl) (Nat.le_of_ble_eq_true rfl) ⟨⟨0, by omega, rfl⟩, rfl⟩
  · have g11 := ft_eq0 (a := n7) (by omega) (Classical.not_not.mp c9)
    obtain ⟨a13, r12, k14, e15⟩ := I.get ho hE (10)
    have k14 : κ a13 = (36, 2) := k14
    obtain ⟨x17, r16⟩ := I.get k14 e15 ((nI e).toNatClampNeg)
    refine ft_run_ok k_M_fitsAck 8 _ _ _ _ [.ref a13, .long (x17)] rfl ⟨I.K ho, r12, I.Kd k14 rfl, I.vi k14 (by omega) (by decide), r16, trivial⟩ ?_
    refine r_callS (as := [.long (((x17) - (lN 1)) - (x))]) (r := []) k_M_fitsAck rfl z_M_around rfl (Nat.le_of_ble_eq_true rfl) (Nat.le_of_ble_eq_true rfl) (Nat.le_of_ble_eq_true rfl) (Nat.le_of_ble_eq_true rfl) (t_M_around) ?_
    rintro v h' ⟨⟨n18, b19, rfl⟩, rfl⟩
    obtain ⟨a21, r20, k22, e23⟩ := I.get ho hE (20)
    have k22 : κ a21 = (46, 20) := k22
    refine ft_run_ok k_M_fitsAck 5 _ _ _ _ [.ref a21] rfl ⟨I.K ho, r20, trivial⟩ ?_
    refine r_callS (as := [.int (nI e), .int (nI 0), .int (nI 1)]) (r := [.ref a21, .long (lN n18)]) k_M_fitsAck rfl z_M_feat rfl (Nat.le_of_ble_eq_true rfl) (Nat.le_of_ble_eq_true rfl) (Nat.le_of_ble_eq_true rfl) (Nat.le_of_ble_eq_true rfl) (t_M_feat (e := e) rfl (by omega) (w := 0) rfl (by omega) (f := 1) rfl (by omega)) ?_
    rintro v h' ⟨⟨n24, b25, rfl⟩, rfl⟩
    obtain ⟨x27, r26⟩ := I.get k22 e23 ((nI n24).toNatClampNeg)
    refine ft_run_ok k_M_fitsAck 3 _ _ _ _ [.int (x27)] rfl ⟨I.Kd k22 rfl, I.vi k22 (by omega) (by decide), r26, trivial⟩ ?_
    refine r_if k_M_fitsAck rfl rfl (fun c28 => ?_) (fun c28 => ?_)
    · refine ft_run_ok k_M_fitsAck 1 _ _ _ _ [] rfl trivial ?_
      exact r_ret (v := some (.int (nI 0))) k_M_fitsAck rfl rfl (Nat.le_of_ble_eq_true rfl) (Nat.le_of_ble_eq_true rfl) ⟨⟨0, by omega, rfl⟩, rfl⟩
    · refine ft_run_ok k_M_fitsAck 2 _ _ _ _ [] rfl trivial ?_
      exact r_ret (v := some (.int (nI 1))) k_M_fitsAck rfl rfl (Nat.le_of_ble_eq_true rfl) (Nat.le_of_ble_eq_true rfl) ⟨⟨1, by omega, rfl⟩, rfl⟩
set_option maxRecDepth 100000 in
theorem t_M_fitsNumber {o : Nat} {e : Nat} {x_e : Int32} {x : Int64} (I : Iv D κ n E P h) (ho : κ o = (kd_M, 0)) (hE : ¬ E o) (q_e : x_e = nI e) (h_e : e < 2) : sm D y_M_fitsNumber 0 (lv_args 0 [.ref o, .int x_e, .long x]) [] h 0 0 (fun v h' => (∃ b : Nat, b ≤ 1 ∧ v = some (.int (nI b))) ∧ h' = h) := by
  subst q_e
  obtain ⟨a2, r1, k3, e4⟩ := I.get ho hE (20)
  have k3 : κ a2 = (46, 20) := k3
  refine ft_run_ok k_M_fitsNumber 5 _ _ _ _ [.ref a2] rfl ⟨I.K ho, r1, trivial⟩ ?_
  refine r_callS (as := [.int (nI e), .int (nI 1), .int (nI 1)]) (r := [.ref a2]) k_M_fitsNumber rfl z_M_feat rfl (Nat.le_of_ble_eq_true rfl) (Nat.le_of_ble_eq_true rfl) (Nat.le_of_ble_eq_true rfl) (Nat.le_of_ble_eq_true rfl) (t_M_feat (e := e) rfl (by omega) (w := 1) rfl (by omega) (f := 1) rfl (by omega)) ?_
  rintro v h' ⟨⟨n5, b6, rfl⟩, rfl⟩
  obtain ⟨x8, r7⟩ := I.get k3 e4 ((nI n5).toNatClampNeg)
  obtain ⟨a10, r9, k11, e12⟩ := I.get ho hE (14)
  have k11 : κ a10 = (40, 2) := k11
  obtain ⟨x14, r13⟩ := I.get k11 e12 ((nI e).toNatClampNeg)
  refine ft_run_ok k_M_fitsNumber 7 _ _ _ _ [.int (x8), .ref a10, .long (x14)] rfl ⟨I.Kd k3 rfl, I.vi k3 (by omega) (by decide), r7, I.K ho, r9, I.Kd k11 rfl, I.vi k11 (by omega) (by decide), r13, trivial⟩ ?_
  refine r_callS (as := [.long (x), .long (x14)]) (r := []) k_M_fitsNumber rfl z_M_before rfl (Nat.le_of_ble_eq_true rfl) (Nat.le_of_ble_eq_true rfl) (Nat.le_of_ble_eq_true rfl) (Nat.le_of_ble_eq_true rfl) (t_M_before) ?_
  rintro v h' ⟨⟨n15, b16, rfl⟩, rfl⟩
  refine r_if k_M_fitsNumber rfl rfl (fun c17 => ?_) (fun c17 => ?_)
  · have g18 := ft_ne0 (a := n15) c17
    refine ft_run_ok k_M_fitsNumber 1 _ _ _ _ [] rfl trivial ?_
    exact r_ret (v := some (.int (nI 0))) k_M_fitsNumber rfl rfl (Nat.le_of_ble_eq_true rfl) (Nat.le_of_ble_eq_true rfl) ⟨⟨0, by omega, rfl⟩, rfl⟩
  · have g19 := ft_eq0 (a := n15) (by omega) (Classical.not_not.mp c17)
    obtain ⟨a21, r20, k22, e23⟩ := I.get ho hE (13)
    have k22 : κ a21 = (39, 2) := k22
    obtain ⟨n25, b26, r24⟩ := I.get k22 e23 ((nI e).toNatClampNeg)
    refine ft_run_ok k_M_fitsNumber 12 _ _ _ _ [.ref a21, .long (lN n25)] rfl ⟨I.K ho, r20, I.Kd k22 rfl, I.vi k22 (by omega) (by decide), r24, (by decide), trivial⟩ ?_
    refine r_callS (as := [.long (((lN n25) + (lN 1)) - (((x8) / (nI 4)).toInt64))]) (r := [.long (x)]) k_M_fitsNumber rfl z_M_around rfl (Nat.le_of_ble_eq_true rfl) (Nat.le_of_ble_eq_true rfl) (Nat.le_of_ble_eq_true rfl) (Nat.le_of_ble_eq_true rfl) (t_M_around) ?_
    rintro v h' ⟨⟨n27, b28, rfl⟩, rfl⟩
    refine ft_run_ok k_M_fitsNumber 1 _ _ _ _ [] rfl trivial ?_
    refine r_callS (as := [.long ((x) - (lN n27))]) (r := []) k_M_fitsNumber rfl z_M_around rfl (Nat.le_of_ble_eq_true rfl) (Nat.le_of_ble_eq_true rfl) (Nat.le_of_ble_eq_true rfl) (Nat.le_of_ble_eq_true rfl) (t_M_around) ?_
    rintro v h' ⟨⟨n29, b30, rfl⟩, rfl⟩
    refine ft_run_ok k_M_fitsNumber 3 _ _ _ _ [] rfl trivial ?_
    refine r_if k_M_fitsNumber rfl rfl (fun c31 => ?_) (fun c31 => ?_)
    · refine ft_run_ok k_M_fitsNumber 1 _ _ _ _ [] rfl trivial ?_
      exact r_ret (v := some (.int (nI 0))) k_M_fitsNumber rfl rfl (Nat.le_of_ble_eq_true rfl) (Nat.le_of_ble_eq_true rfl) ⟨⟨0, by omega, rfl⟩, rfl⟩
    · refine ft_run_ok k_M_fitsNumber 2 _ _ _ _ [] rfl trivial ?_
      exact r_ret (v := some (.int (nI 1))) k_M_fitsNumber rfl rfl (Nat.le_of_ble_eq_true rfl) (Nat.le_of_ble_eq_true rfl) ⟨⟨1, by omega, rfl⟩, rfl⟩
set_option maxRecDepth 100000 in
theorem t_M_changes {o : Nat} {e : Nat} {x_e : Int32} (I : Iv D κ n E P h) (ho : κ o = (kd_M, 0)) (hE : ¬ E o) (q_e : x_e = nI e) (h_e : e < 2) : sm D y_M_changes 0 (lv_args 0 [.ref o, .int x_e]) [] h 0 0 (fun v h' => (∃ x : Int32, v = some (.int x)) ∧ h' = h) := by
  subst q_e
  have L7 : ∀ (t7 : Nat) (y2 : Int32) (j : Nat), 10 * e ≤ j ∧ j ≤ 10 * e + 10 → 10 * e + 10 - j < t7 → sm D y_M_changes 7 [(0, .ref o), (1, .int (nI e)), (2, .int (y2)), (3, .int (nI j))] [] h 0 0 (fun v h' => (∃ x : Int32, v = some (.int x)) ∧ h' = h) := by
    intro t7
    induction t7 with
    | zero => intro y2 j f7_0 ht7; exact absurd ht7 (Nat.not_lt_zero _)
    | succ t7 ih7 =>
      intro y2 j f7_0 ht7
      refine ft_run_ok k_M_changes 6 _ _ _ _ [] rfl trivial ?_
      refine r_icmp k_M_changes rfl rfl (fun c1 => ?_) (fun c1 => ?_)
      · have g2 := ft_le (a := ((10) * (e)) + (10)) (b := j) (by omega) (by omega) (by have q := c1; simp only [ft_cond2, nI_add, pk_mul] at q; exact q)
        refine ft_run_ok k_M_changes 1 _ _ _ _ [] rfl trivial ?_
        exact r_ret (v := some (.int (y2))) k_M_changes rfl trivial (Nat.le_of_ble_eq_true rfl) (Nat.le_of_ble_eq_true rfl) ⟨⟨_, rfl⟩, rfl⟩
      · have g3 := ft_nle (a := j) (b := ((10) * (e)) + (10)) (by omega) (by omega) (by have q := c1; simp only [ft_cond2, nI_add, pk_mul] at q; exact q)
        obtain ⟨a5, r4, k6, e7⟩ := I.get ho hE (23)
        have k6 : κ a5 = (49, 20) := k6
        obtain ⟨x9, r8⟩ := I.get k6 e7 ((nI j).toNatClampNeg)
        refine ft_run_ok k_M_changes 5 _ _ _ _ [.ref a5, .int (x9)] rfl ⟨I.K ho, r4, I.Kd k6 rfl, I.vi k6 (by omega) (by decide), r8, trivial⟩ ?_
        refine r_if k_M_changes rfl rfl (fun c10 => ?_) (fun c10 => ?_)
        · refine ft_run_ok k_M_changes 5 _ _ _ _ [] rfl trivial ?_
          rw [show ((nI j) + nI 1) = nI (j + 1) from by simp only [nI_add, pk_mul]]
          exact sm_sub [2, 3, 1, 0] rfl (ih7 ((y2) + (nI 0)) (j + 1) (by omega) (by omega))
        · refine ft_run_ok k_M_changes 6 _ _ _ _ [] rfl trivial ?_
          rw [show ((nI j) + nI 1) = nI (j + 1) from by simp only [nI_add, pk_mul]]
          exact sm_sub [2, 3, 1, 0] rfl (ih7 ((y2) + (nI 1)) (j + 1) (by omega) (by omega))
  refine ft_run_ok k_M_changes 6 _ _ _ _ [] rfl trivial ?_
  rw [show ((nI 10) * (nI e)) = nI ((10) * (e)) from by simp only [nI_add, pk_mul]]
  exact sm_sub [2, 3, 1, 0] rfl (L7 _ (nI 0) ((10) * (e)) (by omega) (Nat.lt_succ_self _))
set_option maxRecDepth 100000 in
theorem t_M_pipe {o : Nat} {e : Nat} {x_e : Int32} (I : Iv D κ n E P h) (ho : κ o = (kd_M, 0)) (hE : ¬ E o) (q_e : x_e = nI e) (h_e : e < 2) : sm D y_M_pipe 0 (lv_args 0 [.ref o, .int x_e]) [] h 0 0 (fun v h' => (∃ x : Int32, v = some (.int x)) ∧ h' = h) := by
  subst q_e
  have L4 : ∀ (t4 : Nat) (y2 : Int32) (j : Nat), j ≤ 256 → 256 - j < t4 → sm D y_M_pipe 4 [(0, .ref o), (1, .int (nI e)), (2, .int (y2)), (3, .int (nI j))] [] h 0 0 (fun v h' => (∃ x : Int32, v = some (.int x)) ∧ h' = h) := by
    intro t4
    induction t4 with
    | zero => intro y2 j f4_0 ht4; exact absurd ht4 (Nat.not_lt_zero _)
    | succ t4 ih4 =>
      intro y2 j f4_0 ht4
      refine ft_run_ok k_M_pipe 2 _ _ _ _ [] rfl trivial ?_
      refine r_icmp k_M_pipe rfl rfl (fun c1 => ?_) (fun c1 => ?_)
      · have g2 := ft_le (a := 256) (b := j) (by omega) (by omega) c1
        refine ft_run_ok k_M_pipe 1 _ _ _ _ [] rfl trivial ?_
        exact r_ret (v := some (.int (y2))) k_M_pipe rfl trivial (Nat.le_of_ble_eq_true rfl) (Nat.le_of_ble_eq_true rfl) ⟨⟨_, rfl⟩, rfl⟩
      · have g3 := ft_nle (a := j) (b := 256) (by omega) (by omega) c1
        obtain ⟨a5, r4, k6, e7⟩ := I.get ho hE (10)
        have k6 : κ a5 = (36, 2) := k6
        obtain ⟨x9, r8⟩ := I.get k6 e7 ((nI e).toNatClampNeg)
        refine ft_run_ok k_M_pipe 7 _ _ _ _ [.ref a5, .long (x9)] rfl ⟨I.K ho, r4, I.Kd k6 rfl, I.vi k6 (by omega) (by decide), r8, trivial⟩ ?_
        refine r_callS (as := [.long ((x9) - ((nI j).toInt64))]) (r := []) k_M_pipe rfl z_M_around rfl (Nat.le_of_ble_eq_true rfl) (Nat.le_of_ble_eq_true rfl) (Nat.le_of_ble_eq_true rfl) (Nat.le_of_ble_eq_true rfl) (t_M_around) ?_
        rintro v h' ⟨⟨n10, b11, rfl⟩, rfl⟩
        refine ft_run_ok k_M_pipe 5 _ _ _ _ [] rfl trivial ?_
        refine r_callV (as := [.int (nI e), .long (lN n10)]) (a := o) (ci := 11) (r := [.int (y2)]) k_M_pipe rfl z_M_isOwn rfl (by decide) rfl (I.K ho) (Nat.le_of_ble_eq_true rfl) (Nat.le_of_ble_eq_true rfl) (Nat.le_of_ble_eq_true rfl) (Nat.le_of_ble_eq_true rfl) (t_M_isOwn I ho hE (e := e) rfl (by omega)) ?_
        rintro v h' ⟨⟨n12, b13, rfl⟩, rfl⟩
        refine r_if k_M_pipe rfl rfl (fun c14 => ?_) (fun c14 => ?_)
        · have g15 := ft_eq0 (a := n12) (by omega) c14
          refine ft_run_ok k_M_pipe 5 _ _ _ _ [] rfl trivial ?_
          rw [show ((nI j) + nI 1) = nI (j + 1) from by simp only [nI_add, pk_mul]]
          exact sm_sub [3, 4, 1, 0] rfl (ih4 ((y2) + (nI 0)) (j + 1) (by omega) (by omega))
        · have g16 := ft_ne0 (a := n12) c14
          obtain ⟨a18, r17, k19, e20⟩ := I.get ho hE (17)
          have k19 : κ a18 = (43, 512) := k19
          refine ft_run_ok k_M_pipe 4 _ _ _ _ [.ref a18] rfl ⟨I.K ho, r17, trivial⟩ ?_
          refine r_callS (as := [.int (nI e), .long (lN n10)]) (r := [.ref a18, .int (y2)]) k_M_pipe rfl z_M_at rfl (Nat.le_of_ble_eq_true rfl) (Nat.le_of_ble_eq_true rfl) (Nat.le_of_ble_eq_true rfl) (Nat.le_of_ble_eq_true rfl) (t_M_at (e := e) rfl (by omega)) ?_
          rintro v h' ⟨⟨n21, b22, rfl⟩, rfl⟩
          obtain ⟨x24, r23⟩ := I.get k19 e20 ((nI n21).toNatClampNeg)
          refine ft_run_ok k_M_pipe 2 _ _ _ _ [.int (x24)] rfl ⟨I.Kd k19 rfl, I.vi k19 (by omega) (by decide), r23, trivial⟩ ?_
          refine r_icmp k_M_pipe rfl rfl (fun c25 => ?_) (fun c25 => ?_)
          · refine ft_run_ok k_M_pipe 5 _ _ _ _ [] rfl trivial ?_
            rw [show ((nI j) + nI 1) = nI (j + 1) from by simp only [nI_add, pk_mul]]
            exact sm_sub [3, 4, 1, 0] rfl (ih4 ((y2) + (nI 0)) (j + 1) (by omega) (by omega))
          · refine ft_run_ok k_M_pipe 6 _ _ _ _ [] rfl trivial ?_
            rw [show ((nI j) + nI 1) = nI (j + 1) from by simp only [nI_add, pk_mul]]
            exact sm_sub [3, 4, 1, 0] rfl (ih4 ((y2) + (nI 1)) (j + 1) (by omega) (by omega))
  refine ft_run_ok k_M_pipe 4 _ _ _ _ [] rfl trivial ?_
  exact sm_sub [2, 3, 1, 0] rfl (L4 _ (nI 0) (1) (by omega) (Nat.lt_succ_self _))
set_option maxRecDepth 100000 in
theorem t_M_mayBe {f : Int32} {x : Int32}  : sm D y_M_mayBe 0 (lv_args 0 [.int f, .int x]) [] h 0 0 (fun v h' => (∃ b : Nat, b ≤ 1 ∧ v = some (.int (nI b))) ∧ h' = h) := by
  refine ft_run_ok k_M_mayBe 2 _ _ _ _ [] rfl trivial ?_
  refine r_icmp k_M_mayBe rfl rfl (fun c1 => ?_) (fun c1 => ?_)
  · refine ft_run_ok k_M_mayBe 2 _ _ _ _ [] rfl trivial ?_
    refine r_icmp k_M_mayBe rfl rfl (fun c3 => ?_) (fun c3 => ?_)
    · refine ft_run_ok k_M_mayBe 2 _ _ _ _ [] rfl trivial ?_
      refine r_icmp k_M_mayBe rfl rfl (fun c5 => ?_) (fun c5 => ?_)
      · refine ft_run_ok k_M_mayBe 4 _ _ _ _ [] rfl trivial ?_
        refine r_callS (as := [.long ((x).toInt64), .long (lN 1), .long (lN 2)]) (r := []) k_M_mayBe rfl z_M_in rfl (Nat.le_of_ble_eq_true rfl) (Nat.le_of_ble_eq_true rfl) (Nat.le_of_ble_eq_true rfl) (Nat.le_of_ble_eq_true rfl) (t_M_in) ?_
        rintro v h' ⟨⟨n7, b8, rfl, m9⟩, rfl⟩
        exact r_ret (v := some (.int (nI n7))) k_M_mayBe rfl (ft_nb (by omega)) (Nat.le_of_ble_eq_true rfl) (Nat.le_of_ble_eq_true rfl) ⟨⟨n7, by omega, rfl⟩, rfl⟩
      · refine ft_run_ok k_M_mayBe 4 _ _ _ _ [] rfl trivial ?_
        refine r_callS (as := [.long ((x).toInt64), .long (lN 0), .long (lN 1)]) (r := []) k_M_mayBe rfl z_M_in rfl (Nat.le_of_ble_eq_true rfl) (Nat.le_of_ble_eq_true rfl) (Nat.le_of_ble_eq_true rfl) (Nat.le_of_ble_eq_true rfl) (t_M_in) ?_
        rintro v h' ⟨⟨n11, b12, rfl, m13⟩, rfl⟩
        refine ft_run_ok k_M_mayBe 1 _ _ _ _ [] rfl trivial ?_
        exact r_ret (v := some (.int (nI n11))) k_M_mayBe rfl (ft_nb (by omega)) (Nat.le_of_ble_eq_true rfl) (Nat.le_of_ble_eq_true rfl) ⟨⟨n11, by omega, rfl⟩, rfl⟩
    · refine ft_run_ok k_M_mayBe 4 _ _ _ _ [] rfl trivial ?_
      refine r_callS (as := [.long ((x).toInt64), .long (lN 1), .long (lN 20)]) (r := []) k_M_mayBe rfl z_M_in rfl (Nat.le_of_ble_eq_true rfl) (Nat.le_of_ble_eq_true rfl) (Nat.le_of_ble_eq_true rfl) (Nat.le_of_ble_eq_true rfl) (t_M_in) ?_
      rintro v h' ⟨⟨n15, b16, rfl, m17⟩, rfl⟩
      refine ft_run_ok k_M_mayBe 1 _ _ _ _ [] rfl trivial ?_
      exact r_ret (v := some (.int (nI n15))) k_M_mayBe rfl (ft_nb (by omega)) (Nat.le_of_ble_eq_true rfl) (Nat.le_of_ble_eq_true rfl) ⟨⟨n15, by omega, rfl⟩, rfl⟩
  · refine ft_run_ok k_M_mayBe 4 _ _ _ _ [] rfl trivial ?_
    refine r_callS (as := [.long ((x).toInt64), .long (lN 16), .long (lN 255)]) (r := []) k_M_mayBe rfl z_M_in rfl (Nat.le_of_ble_eq_true rfl) (Nat.le_of_ble_eq_true rfl) (Nat.le_of_ble_eq_true rfl) (Nat.le_of_ble_eq_true rfl) (t_M_in) ?_
    rintro v h' ⟨⟨n19, b20, rfl, m21⟩, rfl⟩
    refine ft_run_ok k_M_mayBe 1 _ _ _ _ [] rfl trivial ?_
    exact r_ret (v := some (.int (nI n19))) k_M_mayBe rfl (ft_nb (by omega)) (Nat.le_of_ble_eq_true rfl) (Nat.le_of_ble_eq_true rfl) ⟨⟨n19, by omega, rfl⟩, rfl⟩
set_option maxRecDepth 100000 in
theorem t_M_hasTold {o : Nat} {x : Int32} (I : Iv D κ n E P h) (ho : κ o = (kd_M, 0)) (hE : ¬ E o) : sm D y_M_hasTold 0 (lv_args 0 [.ref o, .int x]) [] h 0 0 (fun v h' => (∃ b : Nat, b ≤ 1 ∧ v = some (.int (nI b))) ∧ h' = h) := by
  have L2 : ∀ (t2 : Nat) (j : Nat), j ≤ 3 → 4 - j < t2 → sm D y_M_hasTold 2 [(0, .ref o), (1, .int (x)), (2, .int (nI j))] [] h 0 0 (fun v h' => (∃ b : Nat, b ≤ 1 ∧ v = some (.int (nI b))) ∧ h' = h) := by
    intro t2
    induction t2 with
    | zero => intro j f2_0 ht2; exact absurd ht2 (Nat.not_lt_zero _)
    | succ t2 ih2 =>
      intro j f2_0 ht2
      obtain ⟨n2, b3, r1⟩ := I.get ho hE (57)
      have b3 : n2 ≤ 3 := b3
      refine ft_run_ok k_M_hasTold 3 _ _ _ _ [.int (nI n2)] rfl ⟨I.K ho, r1, trivial⟩ ?_
      refine r_icmp k_M_hasTold rfl rfl (fun c4 => ?_) (fun c4 => ?_)
      · have g5 := ft_le (a := n2) (b := j) (by omega) (by omega) c4
        refine ft_run_ok k_M_hasTold 1 _ _ _ _ [] rfl trivial ?_
        exact r_ret (v := some (.int (nI 0))) k_M_hasTold rfl rfl (Nat.le_of_ble_eq_true rfl) (Nat.le_of_ble_eq_true rfl) ⟨⟨0, by omega, rfl⟩, rfl⟩
      · have g6 := ft_nle (a := j) (b := n2) (by omega) (by omega) c4
        obtain ⟨a8, r7, k9, e10⟩ := I.get ho hE (56)
        have k9 : κ a8 = (82, 4) := k9
        obtain ⟨x12, r11⟩ := I.get k9 e10 ((nI j).toNatClampNeg)
        refine ft_run_ok k_M_hasTold 5 _ _ _ _ [.ref a8, .int (x12)] rfl ⟨I.K ho, r7, I.Kd k9 rfl, I.vi k9 (by omega) (by decide), r11, trivial⟩ ?_
        refine r_icmp k_M_hasTold rfl rfl (fun c13 => ?_) (fun c13 => ?_)
        · refine ft_run_ok k_M_hasTold 2 _ _ _ _ [] rfl trivial ?_
          rw [show ((nI j) + nI 1) = nI (j + 1) from by simp only [nI_add, pk_mul]]
          exact sm_sub [1, 2, 0] rfl (ih2 (j + 1) (by omega) (by omega))
        · refine ft_run_ok k_M_hasTold 1 _ _ _ _ [] rfl trivial ?_
          exact r_ret (v := some (.int (nI 1))) k_M_hasTold rfl rfl (Nat.le_of_ble_eq_true rfl) (Nat.le_of_ble_eq_true rfl) ⟨⟨1, by omega, rfl⟩, rfl⟩
  refine ft_run_ok k_M_hasTold 2 _ _ _ _ [] rfl trivial ?_
  exact sm_sub [1, 2, 0] rfl (L2 _ (0) (by omega) (Nat.lt_succ_self _))
set_option maxRecDepth 100000 in
theorem t_M_hasOwn {o : Nat} {k : Nat} {x_k : Int32} {x : Int32} (I : Iv D κ n E P h) (ho : κ o = (kd_M, 0)) (hE : ¬ E o) (q_k : x_k = nI k) (h_k : k < 20) : sm D y_M_hasOwn 0 (lv_args 0 [.ref o, .int x_k, .int x]) [] h 0 0 (fun v h' => (∃ b : Nat, b ≤ 1 ∧ v = some (.int (nI b))) ∧ h' = h) := by
  subst q_k
  have L2 : ∀ (t2 : Nat) (j : Nat), j ≤ 3 → 4 - j < t2 → sm D y_M_hasOwn 2 [(0, .ref o), (1, .int (nI k)), (2, .int (x)), (3, .int (nI j))] [] h 0 0 (fun v h' => (∃ b : Nat, b ≤ 1 ∧ v = some (.int (nI b))) ∧ h' = h) := by
    intro t2
    induction t2 with
    | zero => intro j f2_0 ht2; exact absurd ht2 (Nat.not_lt_zero _)
    | succ t2 ih2 =>
      intro j f2_0 ht2
      obtain ⟨a2, r1, k3, e4⟩ := I.get ho hE (21)
      have k3 : κ a2 = (47, 20) := k3
      obtain ⟨n6, b7, r5⟩ := I.get k3 e4 ((nI k).toNatClampNeg)
      have b7 : n6 ≤ 3 := b7
      refine ft_run_ok k_M_hasOwn 5 _ _ _ _ [.ref a2, .int (nI n6)] rfl ⟨I.K ho, r1, I.Kd k3 rfl, I.vi k3 (by omega) (by decide), r5, trivial⟩ ?_
      refine r_icmp k_M_hasOwn rfl rfl (fun c8 => ?_) (fun c8 => ?_)
      · have g9 := ft_le (a := n6) (b := j) (by omega) (by omega) c8
        refine ft_run_ok k_M_hasOwn 1 _ _ _ _ [] rfl trivial ?_
        exact r_ret (v := some (.int (nI 0))) k_M_hasOwn rfl rfl (Nat.le_of_ble_eq_true rfl) (Nat.le_of_ble_eq_true rfl) ⟨⟨0, by omega, rfl⟩, rfl⟩
      · have g10 := ft_nle (a := j) (b := n6) (by omega) (by omega) c8
        obtain ⟨a12, r11, k13, e14⟩ := I.get ho hE (22)
        have k13 : κ a12 = (48, 60) := k13
        obtain ⟨x16, r15⟩ := I.get k13 e14 ((((nI 3) * (nI k)) + (nI j)).toNatClampNeg)
        refine ft_run_ok k_M_hasOwn 9 _ _ _ _ [.ref a12, .int (x16)] rfl ⟨I.K ho, r11, I.Kd k13 rfl, (by simp only [nI_add, pk_mul]; exact I.vi k13 (by omega) (by decide)), r15, trivial⟩ ?_
        refine r_icmp k_M_hasOwn rfl rfl (fun c17 => ?_) (fun c17 => ?_)
        · refine ft_run_ok k_M_hasOwn 2 _ _ _ _ [] rfl trivial ?_
          rw [show ((nI j) + nI 1) = nI (j + 1) from by simp only [nI_add, pk_mul]]
          exact sm_sub [1, 2, 3, 0] rfl (ih2 (j + 1) (by omega) (by omega))
        · refine ft_run_ok k_M_hasOwn 1 _ _ _ _ [] rfl trivial ?_
          exact r_ret (v := some (.int (nI 1))) k_M_hasOwn rfl rfl (Nat.le_of_ble_eq_true rfl) (Nat.le_of_ble_eq_true rfl) ⟨⟨1, by omega, rfl⟩, rfl⟩
  refine ft_run_ok k_M_hasOwn 2 _ _ _ _ [] rfl trivial ?_
  exact sm_sub [1, 2, 3, 0] rfl (L2 _ (0) (by omega) (Nat.lt_succ_self _))
/-- how long the head of a packet of a kind is -/
def hdN (k : Nat) : Nat := 10 + (if k ≠ 0 ∧ k ≠ 2 then 6 else 0) + (if k = 7 then 1 else 0)
theorem hdN_le (k : Nat) : 10 ≤ hdN k ∧ hdN k ≤ 17 := by
  unfold hdN
  split <;> split <;> omega
theorem t_M_headOf {o k : Nat} {x_k : Int32} (I : Iv D κ n E P h) (ho : κ o = (kd_M, 0)) (hE : ¬ E o) (q_k : x_k = nI k) (h_k : k < 256) : sm D y_M_headOf 0 (lv_args 0 [.ref o, .int x_k]) [] h 0 0 (fun v h' => v = some (.int (nI (hdN k))) ∧ h' = h) := by
  subst q_k
  have T : ∀ a : Nat, (a = if k ≠ 0 ∧ k ≠ 2 then 6 else 0) → sm D y_M_headOf 15 [(1, .int (nI k))] [.int (nI a), .int (nI 10)] h (0 + ft_mc y_M_hasAck) (0 + ft_mz y_M_hasAck) (fun v h' => v = some (.int (nI (hdN k))) ∧ h' = h) := by
    intro a ha
    refine ft_run_ok k_M_headOf 3 _ _ _ _ [] rfl trivial ?_
    refine r_icmp k_M_headOf rfl rfl (fun c2 => ?_) (fun c2 => ?_)
    · have g2 := ft_neq (a := k) (b := 7) (by omega) (by omega) c2
      refine ft_run_ok k_M_headOf 2 _ _ _ _ [] rfl trivial ?_
      exact r_ret (v := some (.int ((nI 10 + nI a) + nI 0))) k_M_headOf rfl trivial (Nat.le_of_ble_eq_true rfl) (Nat.le_of_ble_eq_true rfl) ⟨by rw [nI_add, nI_add]; unfold hdN; rw [if_neg g2, ← ha], rfl⟩
    · have g2 := ft_nneq (a := k) (b := 7) (by omega) (by omega) c2
      refine ft_run_ok k_M_headOf 3 _ _ _ _ [] rfl trivial ?_
      exact r_ret (v := some (.int ((nI 10 + nI a) + nI 1))) k_M_headOf rfl trivial (Nat.le_of_ble_eq_true rfl) (Nat.le_of_ble_eq_true rfl) ⟨by rw [nI_add, nI_add]; unfold hdN; rw [if_pos g2, ← ha], rfl⟩
  refine ft_run_ok k_M_headOf 2 _ _ _ _ [] rfl trivial ?_
  refine r_callS (as := [.int (nI k)]) (r := [.int (nI 10)]) k_M_headOf rfl z_M_hasAck rfl (Nat.le_of_ble_eq_true rfl) (Nat.le_of_ble_eq_true rfl) (Nat.le_of_ble_eq_true rfl) (Nat.le_of_ble_eq_true rfl) (t_M_hasAck rfl h_k) ?_
  rintro v h' ⟨⟨n1, b1, rfl, m1⟩, rfl⟩
  refine r_if k_M_headOf rfl rfl (fun c1 => ?_) (fun c1 => ?_)
  · have g1 := ft_eq0 (a := n1) (by omega) c1
    refine ft_run_ok k_M_headOf 1 _ _ _ _ [] rfl trivial ?_
    exact sm_sub [1] rfl (T 0 (by rw [if_neg (fun q => by have := m1.mpr q; omega)]))
  · have g1 := ft_ne0 (a := n1) c1
    refine ft_run_ok k_M_headOf 2 _ _ _ _ [] rfl trivial ?_
    exact sm_sub [1] rfl (T 6 (by rw [if_pos (m1.mp (by omega))]))
set_option maxRecDepth 100000 in
theorem t_M_ackDue {o : Nat} {e : Nat} {x_e : Int32} (I : Iv D κ n E P h) (ho : κ o = (kd_M, 0)) (hE : ¬ E o) (q_e : x_e = nI e) (h_e : e < 2) : sm D y_M_ackDue 0 (lv_args 0 [.ref o, .int x_e]) [] h 0 0 (fun v h' => (∃ b : Nat, b ≤ 1 ∧ v = some (.int (nI b))) ∧ h' = h) := by
  subst q_e
  obtain ⟨a2, r1, k3, e4⟩ := I.get ho hE (20)
  have k3 : κ a2 = (46, 20) := k3
  refine ft_run_ok k_M_ackDue 5 _ _ _ _ [.ref a2] rfl ⟨I.K ho, r1, trivial⟩ ?_
  refine r_callS (as := [.int (nI e), .int (nI 1), .int (nI 2)]) (r := [.ref a2]) k_M_ackDue rfl z_M_feat rfl (Nat.le_of_ble_eq_true rfl) (Nat.le_of_ble_eq_true rfl) (Nat.le_of_ble_eq_true rfl) (Nat.le_of_ble_eq_true rfl) (t_M_feat (e := e) rfl (by omega) (w := 1) rfl (by omega) (f := 2) rfl (by omega)) ?_
  rintro v h' ⟨⟨n5, b6, rfl⟩, rfl⟩
  obtain ⟨x8, r7⟩ := I.get k3 e4 ((nI n5).toNatClampNeg)
  obtain ⟨a10, r9, k11, e12⟩ := I.get ho hE (48)
  have k11 : κ a10 = (74, 2) := k11
  obtain ⟨x14, r13⟩ := I.get k11 e12 ((nI e).toNatClampNeg)
  refine ft_run_ok k_M_ackDue 6 _ _ _ _ [.int (x8), .ref a10, .int (x14)] rfl ⟨I.Kd k3 rfl, I.vi k3 (by omega) (by decide), r7, I.K ho, r9, I.Kd k11 rfl, I.vi k11 (by omega) (by decide), r13, trivial⟩ ?_
  refine r_if k_M_ackDue rfl rfl (fun c15 => ?_) (fun c15 => ?_)
  · refine ft_run_ok k_M_ackDue 1 _ _ _ _ [] rfl trivial ?_
    exact r_ret (v := some (.int (nI 0))) k_M_ackDue rfl rfl (Nat.le_of_ble_eq_true rfl) (Nat.le_of_ble_eq_true rfl) ⟨⟨0, by omega, rfl⟩, rfl⟩
  · obtain ⟨a19, r18, k20, e21⟩ := I.get ho hE (48)
    have k20 : κ a19 = (74, 2) := k20
    obtain ⟨x23, r22⟩ := I.get k20 e21 ((nI e).toNatClampNeg)
    refine ft_run_ok k_M_ackDue 5 _ _ _ _ [.ref a19, .int (x23)] rfl ⟨I.K ho, r18, I.Kd k20 rfl, I.vi k20 (by omega) (by decide), r22, trivial⟩ ?_
    refine r_icmp k_M_ackDue rfl rfl (fun c24 => ?_) (fun c24 => ?_)
    · refine ft_run_ok k_M_ackDue 2 _ _ _ _ [] rfl trivial ?_
      exact r_ret (v := some (.int (nI 1))) k_M_ackDue rfl rfl (Nat.le_of_ble_eq_true rfl) (Nat.le_of_ble_eq_true rfl) ⟨⟨1, by omega, rfl⟩, rfl⟩
    · have r27 := I.get ho hE (1)
      obtain ⟨a29, r28, k30, e31⟩ := I.get ho hE (47)
      have k30 : κ a29 = (73, 2) := k30
      obtain ⟨x33, r32⟩ := I.get k30 e31 ((nI e).toNatClampNeg)
      refine ft_run_ok k_M_ackDue 8 _ _ _ _ [.int (nI (P 1)), .ref a29, .int (x33)] rfl ⟨I.K ho, r27, I.K ho, r28, I.Kd k30 rfl, I.vi k30 (by omega) (by decide), r32, trivial⟩ ?_
      refine r_icmp k_M_ackDue rfl rfl (fun c34 => ?_) (fun c34 => ?_)
      · refine ft_run_ok k_M_ackDue 1 _ _ _ _ [] rfl trivial ?_
        exact r_ret (v := some (.int (nI 0))) k_M_ackDue rfl rfl (Nat.le_of_ble_eq_true rfl) (Nat.le_of_ble_eq_true rfl) ⟨⟨0, by omega, rfl⟩, rfl⟩
      · refine ft_run_ok k_M_ackDue 2 _ _ _ _ [] rfl trivial ?_
        exact r_ret (v := some (.int (nI 1))) k_M_ackDue rfl rfl (Nat.le_of_ble_eq_true rfl) (Nat.le_of_ble_eq_true rfl) ⟨⟨1, by omega, rfl⟩, rfl⟩
set_option maxRecDepth 100000 in
theorem t_M_wantsOptions {o : Nat} {e : Nat} {x_e : Int32} (I : Iv D κ n E P h) (ho : κ o = (kd_M, 0)) (hE : ¬ E o) (q_e : x_e = nI e) (h_e : e < 2) : sm D y_M_wantsOptions 0 (lv_args 0 [.ref o, .int x_e]) [] h 0 0 (fun v h' => (∃ b : Nat, b ≤ 1 ∧ v = some (.int (nI b))) ∧ h' = h) := by
  subst q_e
  obtain ⟨a2, r1, k3, e4⟩ := I.get ho hE (26)
  have k3 : κ a2 = (52, 2) := k3
  obtain ⟨n6, b7, r5⟩ := I.get k3 e4 ((nI e).toNatClampNeg)
  have b7 : n6 ≤ 12 := b7
  refine ft_run_ok k_M_wantsOptions 4 _ _ _ _ [.ref a2, .int (nI n6)] rfl ⟨I.K ho, r1, I.Kd k3 rfl, I.vi k3 (by omega) (by decide), r5, trivial⟩ ?_
  refine r_if k_M_wantsOptions rfl rfl (fun c8 => ?_) (fun c8 => ?_)
  · have g9 := ft_gt0 (a := n6) c8
    refine ft_run_ok k_M_wantsOptions 2 _ _ _ _ [] rfl trivial ?_
    exact r_ret (v := some (.int (nI 1))) k_M_wantsOptions rfl rfl (Nat.le_of_ble_eq_true rfl) (Nat.le_of_ble_eq_true rfl) ⟨⟨1, by omega, rfl⟩, rfl⟩
  · have g10 := ft_le0 (a := n6) (by omega) (Int32.not_lt.mp c8)
    refine ft_run_ok k_M_wantsOptions 2 _ _ _ _ [] rfl trivial ?_
    refine r_callV (as := [.int (nI e)]) (a := o) (ci := 11) (r := []) k_M_wantsOptions rfl z_M_changes rfl (by decide) rfl (I.K ho) (Nat.le_of_ble_eq_true rfl) (Nat.le_of_ble_eq_true rfl) (Nat.le_of_ble_eq_true rfl) (Nat.le_of_ble_eq_true rfl) (t_M_changes I ho hE (e := e) rfl (by omega)) ?_
    rintro v h' ⟨⟨x11, rfl⟩, rfl⟩
    refine r_if k_M_wantsOptions rfl rfl (fun c12 => ?_) (fun c12 => ?_)
    · refine ft_run_ok k_M_wantsOptions 1 _ _ _ _ [] rfl trivial ?_
      exact r_ret (v := some (.int (nI 0))) k_M_wantsOptions rfl rfl (Nat.le_of_ble_eq_true rfl) (Nat.le_of_ble_eq_true rfl) ⟨⟨0, by omega, rfl⟩, rfl⟩
    · obtain ⟨a16, r15, k17, e18⟩ := I.get ho hE (46)
      have k17 : κ a16 = (72, 2) := k17
      obtain ⟨x20, r19⟩ := I.get k17 e18 ((nI e).toNatClampNeg)
      refine ft_run_ok k_M_wantsOptions 4 _ _ _ _ [.ref a16, .int (x20)] rfl ⟨I.K ho, r15, I.Kd k17 rfl, I.vi k17 (by omega) (by decide), r19, trivial⟩ ?_
      refine r_if k_M_wantsOptions rfl rfl (fun c21 => ?_) (fun c21 => ?_)
      · refine ft_run_ok k_M_wantsOptions 2 _ _ _ _ [] rfl trivial ?_
        exact r_ret (v := some (.int (nI 1))) k_M_wantsOptions rfl rfl (Nat.le_of_ble_eq_true rfl) (Nat.le_of_ble_eq_true rfl) ⟨⟨1, by omega, rfl⟩, rfl⟩
      · have r24 := I.get ho hE (1)
        obtain ⟨a26, r25, k27, e28⟩ := I.get ho hE (44)
        have k27 : κ a26 = (70, 2) := k27
        obtain ⟨x30, r29⟩ := I.get k27 e28 ((nI e).toNatClampNeg)
        refine ft_run_ok k_M_wantsOptions 8 _ _ _ _ [.int (nI (P 1)), .ref a26, .int (x30)] rfl ⟨I.K ho, r24, I.K ho, r25, I.Kd k27 rfl, I.vi k27 (by omega) (by decide), r29, trivial⟩ ?_
        refine r_icmp k_M_wantsOptions rfl rfl (fun c31 => ?_) (fun c31 => ?_)
        · refine ft_run_ok k_M_wantsOptions 1 _ _ _ _ [] rfl trivial ?_
          exact r_ret (v := some (.int (nI 0))) k_M_wantsOptions rfl rfl (Nat.le_of_ble_eq_true rfl) (Nat.le_of_ble_eq_true rfl) ⟨⟨0, by omega, rfl⟩, rfl⟩
        · refine ft_run_ok k_M_wantsOptions 2 _ _ _ _ [] rfl trivial ?_
          exact r_ret (v := some (.int (nI 1))) k_M_wantsOptions rfl rfl (Nat.le_of_ble_eq_true rfl) (Nat.le_of_ble_eq_true rfl) ⟨⟨1, by omega, rfl⟩, rfl⟩
theorem t_M_isEnd {x : Int32} : sm D y_M_isEnd 0 (lv_args 0 [.int x]) [] h 0 0 (fun v h' => (∃ b : Nat, b ≤ 1 ∧ v = some (.int (nI b)) ∧ (b = 1 → ∃ e : Nat, e < 2 ∧ x = nI e)) ∧ h' = h) := by
  refine ft_run_ok k_M_isEnd 4 0 _ _ _ [] rfl trivial ?_
  refine r_callS (as := [.long (x.toInt64), .long (lN 0), .long (lN 1)]) (r := []) k_M_isEnd rfl z_M_in rfl (Nat.le_of_ble_eq_true rfl) (Nat.le_of_ble_eq_true rfl) (Nat.le_of_ble_eq_true rfl) (Nat.le_of_ble_eq_true rfl) t_M_in ?_
  rintro v h' ⟨⟨n1, b1, rfl, m1⟩, rfl⟩
  exact r_ret (v := some (.int (nI n1))) k_M_isEnd rfl (ft_nb (by omega)) (Nat.le_of_ble_eq_true rfl) (Nat.le_of_ble_eq_true rfl) ⟨⟨n1, b1, rfl, fun q => by
    obtain ⟨e, _, h2, h3⟩ := ft_rng (m1.mp q).1 (m1.mp q).2 (by decide) (by decide)
    exact ⟨e, by omega, h3⟩⟩, rfl⟩
set_option maxRecDepth 100000 in
theorem t_M_state {o : Nat} {x : Int32} (I : Iv D κ n E P h) (ho : κ o = (kd_M, 0)) (hE : ¬ E o) : sm D y_M_state 0 (lv_args 0 [.ref o, .int x]) [] h 0 0 (fun v h' => (∃ x : Int32, v = some (.int x)) ∧ h' = h) := by
  refine ft_run_ok k_M_state 1 _ _ _ _ [] rfl trivial ?_
  refine r_callS (as := [.int (x)]) (r := []) k_M_state rfl z_M_isEnd rfl (Nat.le_of_ble_eq_true rfl) (Nat.le_of_ble_eq_true rfl) (Nat.le_of_ble_eq_true rfl) (Nat.le_of_ble_eq_true rfl) (t_M_isEnd) ?_
  rintro v h' ⟨⟨n1, b2, rfl, m3⟩, rfl⟩
  refine r_if k_M_state rfl rfl (fun c4 => ?_) (fun c4 => ?_)
  · have g5 := ft_eq0 (a := n1) (by omega) c4
    refine ft_run_ok k_M_state 1 _ _ _ _ [] rfl trivial ?_
    exact r_ret (v := some (.int ((Int8.ofInt (Int.negSucc 100)).toInt32))) k_M_state rfl trivial (Nat.le_of_ble_eq_true rfl) (Nat.le_of_ble_eq_true rfl) ⟨⟨_, rfl⟩, rfl⟩
  · have g6 := ft_ne0 (a := n1) c4
    obtain ⟨e, h_e, rfl⟩ := m3 (by omega)
    obtain ⟨a8, r7, k9, e10⟩ := I.get ho hE (9)
    have k9 : κ a8 = (35, 2) := k9
    obtain ⟨x12, r11⟩ := I.get k9 e10 ((nI e).toNatClampNeg)
    refine ft_run_ok k_M_state 5 _ _ _ _ [.ref a8, .int (x12)] rfl ⟨I.K ho, r7, I.Kd k9 rfl, I.vi k9 (by omega) (by decide), r11, trivial⟩ ?_
    exact r_ret (v := some (.int (x12))) k_M_state rfl trivial (Nat.le_of_ble_eq_true rfl) (Nat.le_of_ble_eq_true rfl) ⟨⟨_, rfl⟩, rfl⟩
set_option maxRecDepth 100000 in
theorem t_M_way {o : Nat} (I : Iv D κ n E P h) (ho : κ o = (kd_M, 0)) (hE : ¬ E o) : sm D y_M_way 0 (lv_args 0 [.ref o]) [] h 0 0 (fun v h' => (∃ x : Int32, v = some (.int x)) ∧ h' = h) := by
  obtain ⟨n2, b3, r1⟩ := I.get ho hE (2)
  have b3 : n2 ≤ 60 := b3
  refine ft_run_ok k_M_way 2 _ _ _ _ [.int (nI n2)] rfl ⟨I.K ho, r1, trivial⟩ ?_
  exact r_ret (v := some (.int (nI n2))) k_M_way rfl trivial (Nat.le_of_ble_eq_true rfl) (Nat.le_of_ble_eq_true rfl) ⟨⟨_, rfl⟩, rfl⟩
set_option maxRecDepth 100000 in
theorem t_M_number {o : Nat} {x : Int32} {w : Int32} (I : Iv D κ n E P h) (ho : κ o = (kd_M, 0)) (hE : ¬ E o) : sm D y_M_number 0 (lv_args 0 [.ref o, .int x, .int w]) [] h 0 0 (fun v h' => (∃ x : Int64, v = some (.long x)) ∧ h' = h) := by
  refine ft_run_ok k_M_number 1 _ _ _ _ [] rfl trivial ?_
  refine r_callS (as := [.int (x)]) (r := []) k_M_number rfl z_M_isEnd rfl (Nat.le_of_ble_eq_true rfl) (Nat.le_of_ble_eq_true rfl) (Nat.le_of_ble_eq_true rfl) (Nat.le_of_ble_eq_true rfl) (t_M_isEnd) ?_
  rintro v h' ⟨⟨n1, b2, rfl, m3⟩, rfl⟩
  refine r_if k_M_number rfl rfl (fun c4 => ?_) (fun c4 => ?_)
  · have g5 := ft_ne0 (a := n1) c4
    obtain ⟨e, h_e, rfl⟩ := m3 (by omega)
    refine ft_run_ok k_M_number 1 _ _ _ _ [] rfl trivial ?_
    by_cases sw : (w).toInt < 0 ∨ 5 < (w).toInt
    · refine r_swOut k_M_number rfl sw rfl ?_
      refine ft_run_ok k_M_number 1 _ _ _ _ [] rfl trivial ?_
      exact r_ret (v := some (.long (lN 18446744073709551514))) k_M_number rfl trivial (Nat.le_of_ble_eq_true rfl) (Nat.le_of_ble_eq_true rfl) ⟨⟨_, rfl⟩, rfl⟩
    · have s1 : ¬ (w).toInt < 0 := fun q => sw (Or.inl q)
      have s2 : ¬ 5 < (w).toInt := fun q => sw (Or.inr q)
      rcases (show (w).toInt = 0 ∨ (w).toInt = 1 ∨ (w).toInt = 2 ∨ (w).toInt = 3 ∨ (w).toInt = 4 ∨ (w).toInt = 5 by omega) with sv | sv | sv | sv | sv | sv
      · refine r_swIn k_M_number rfl s1 s2 (by rw [sv]; rfl) rfl ?_
        obtain ⟨a7, r6, k8, e9⟩ := I.get ho hE (10)
        have k8 : κ a7 = (36, 2) := k8
        obtain ⟨x11, r10⟩ := I.get k8 e9 ((nI e).toNatClampNeg)
        refine ft_run_ok k_M_number 4 _ _ _ _ [.ref a7, .long (x11)] rfl ⟨I.K ho, r6, I.Kd k8 rfl, I.vi k8 (by omega) (by decide), r10, trivial⟩ ?_
        exact r_ret (v := some (.long (x11))) k_M_number rfl trivial (Nat.le_of_ble_eq_true rfl) (Nat.le_of_ble_eq_true rfl) ⟨⟨_, rfl⟩, rfl⟩
      · refine r_swIn k_M_number rfl s1 s2 (by rw [sv]; rfl) rfl ?_
        obtain ⟨a13, r12, k14, e15⟩ := I.get ho hE (11)
        have k14 : κ a13 = (37, 2) := k14
        obtain ⟨x17, r16⟩ := I.get k14 e15 ((nI e).toNatClampNeg)
        refine ft_run_ok k_M_number 4 _ _ _ _ [.ref a13, .long (x17)] rfl ⟨I.K ho, r12, I.Kd k14 rfl, I.vi k14 (by omega) (by decide), r16, trivial⟩ ?_
        exact r_ret (v := some (.long (x17))) k_M_number rfl trivial (Nat.le_of_ble_eq_true rfl) (Nat.le_of_ble_eq_true rfl) ⟨⟨_, rfl⟩, rfl⟩
      · refine r_swIn k_M_number rfl s1 s2 (by rw [sv]; rfl) rfl ?_
        obtain ⟨a19, r18, k20, e21⟩ := I.get ho hE (13)
        have k20 : κ a19 = (39, 2) := k20
        obtain ⟨n23, b24, r22⟩ := I.get k20 e21 ((nI e).toNatClampNeg)
        refine ft_run_ok k_M_number 4 _ _ _ _ [.ref a19, .long (lN n23)] rfl ⟨I.K ho, r18, I.Kd k20 rfl, I.vi k20 (by omega) (by decide), r22, trivial⟩ ?_
        exact r_ret (v := some (.long (lN n23))) k_M_number rfl trivial (Nat.le_of_ble_eq_true rfl) (Nat.le_of_ble_eq_true rfl) ⟨⟨_, rfl⟩, rfl⟩
      · refine r_swIn k_M_number rfl s1 s2 (by rw [sv]; rfl) rfl ?_
        obtain ⟨a26, r25, k27, e28⟩ := I.get ho hE (14)
        have k27 : κ a26 = (40, 2) := k27
        obtain ⟨x30, r29⟩ := I.get k27 e28 ((nI e).toNatClampNeg)
        refine ft_run_ok k_M_number 4 _ _ _ _ [.ref a26, .long (x30)] rfl ⟨I.K ho, r25, I.Kd k27 rfl, I.vi k27 (by omega) (by decide), r29, trivial⟩ ?_
        exact r_ret (v := some (.long (x30))) k_M_number rfl trivial (Nat.le_of_ble_eq_true rfl) (Nat.le_of_ble_eq_true rfl) ⟨⟨_, rfl⟩, rfl⟩
      · refine r_swIn k_M_number rfl s1 s2 (by rw [sv]; rfl) rfl ?_
        obtain ⟨a32, r31, k33, e34⟩ := I.get ho hE (15)
        have k33 : κ a32 = (41, 2) := k33
        obtain ⟨x36, r35⟩ := I.get k33 e34 ((nI e).toNatClampNeg)
        refine ft_run_ok k_M_number 4 _ _ _ _ [.ref a32, .long (x36)] rfl ⟨I.K ho, r31, I.Kd k33 rfl, I.vi k33 (by omega) (by decide), r35, trivial⟩ ?_
        exact r_ret (v := some (.long (x36))) k_M_number rfl trivial (Nat.le_of_ble_eq_true rfl) (Nat.le_of_ble_eq_true rfl) ⟨⟨_, rfl⟩, rfl⟩
      · refine r_swIn k_M_number rfl s1 s2 (by rw [sv]; rfl) rfl ?_
        obtain ⟨a38, r37, k39, e40⟩ := I.get ho hE (38)
        have k39 : κ a38 = (64, 2) := k39
        obtain ⟨x42, r41⟩ := I.get k39 e40 ((nI e).toNatClampNeg)
        refine ft_run_ok k_M_number 4 _ _ _ _ [.ref a38, .int (x42)] rfl ⟨I.K ho, r37, I.Kd k39 rfl, I.vi k39 (by omega) (by decide), r41, trivial⟩ ?_
        refine r_if k_M_number rfl rfl (fun c43 => ?_) (fun c43 => ?_)
        · refine ft_run_ok k_M_number 1 _ _ _ _ [] rfl trivial ?_
          exact r_ret (v := some (.long (lN 18446744073709551615))) k_M_number rfl trivial (Nat.le_of_ble_eq_true rfl) (Nat.le_of_ble_eq_true rfl) ⟨⟨_, rfl⟩, rfl⟩
        · obtain ⟨a47, r46, k48, e49⟩ := I.get ho hE (39)
          have k48 : κ a47 = (65, 2) := k48
          obtain ⟨x51, r50⟩ := I.get k48 e49 ((nI e).toNatClampNeg)
          refine ft_run_ok k_M_number 5 _ _ _ _ [.ref a47, .long (x51)] rfl ⟨I.K ho, r46, I.Kd k48 rfl, I.vi k48 (by omega) (by decide), r50, trivial⟩ ?_
          exact r_ret (v := some (.long (x51))) k_M_number rfl trivial (Nat.le_of_ble_eq_true rfl) (Nat.le_of_ble_eq_true rfl) ⟨⟨_, rfl⟩, rfl⟩
  · have g52 := ft_eq0 (a := n1) (by omega) (Classical.not_not.mp c4)
    refine ft_run_ok k_M_number 1 _ _ _ _ [] rfl trivial ?_
    exact r_ret (v := some (.long (lN 18446744073709551515))) k_M_number rfl trivial (Nat.le_of_ble_eq_true rfl) (Nat.le_of_ble_eq_true rfl) ⟨⟨_, rfl⟩, rfl⟩
theorem t_M_isThere {o : Nat} {x : Int32} (I : Iv D κ n E P h) (ho : κ o = (kd_M, 0)) (hE : ¬ E o) : sm D y_M_isThere 0 (lv_args 0 [.ref o, .int x]) [] h 0 0 (fun v h' => (∃ b : Nat, b ≤ 1 ∧ v = some (.int (nI b)) ∧ (b = 1 → ∃ j w : Nat, x = nI j ∧ h.1 o pl_M_onWay = .int (nI w) ∧ j < w ∧ w ≤ 60)) ∧ h' = h) := by
  obtain ⟨w, hw, r1⟩ := I.get ho hE pl_M_onWay
  have hw : w ≤ 60 := hw
  refine ft_run_ok k_M_isThere 8 0 _ _ _ [.int (nI w)] rfl ⟨I.K ho, r1, trivial⟩ ?_
  refine r_callS (as := [.long (x.toInt64), .long (lN 0), .long (((nI w) - (nI 1)).toInt64)]) (r := []) k_M_isThere rfl z_M_in rfl (Nat.le_of_ble_eq_true rfl) (Nat.le_of_ble_eq_true rfl) (Nat.le_of_ble_eq_true rfl) (Nat.le_of_ble_eq_true rfl) t_M_in ?_
  rintro v h' ⟨⟨n1, b1, rfl, m1⟩, rfl⟩
  exact r_ret (v := some (.int (nI n1))) k_M_isThere rfl (ft_nb (by omega)) (Nat.le_of_ble_eq_true rfl) (Nat.le_of_ble_eq_true rfl) ⟨⟨n1, b1, rfl, fun q => by
    obtain ⟨j, hj, hx⟩ := ft_rngm (m1.mp q).1 (m1.mp q).2 (by omega)
    exact ⟨j, w, hx, r1, hj, hw⟩⟩, rfl⟩
set_option maxRecDepth 100000 in
theorem t_M_packet {o : Nat} {x : Int32} {w : Int32} (I : Iv D κ n E P h) (ho : κ o = (kd_M, 0)) (hE : ¬ E o) : sm D y_M_packet 0 (lv_args 0 [.ref o, .int x, .int w]) [] h 0 0 (fun v h' => (∃ x : Int32, v = some (.int x)) ∧ h' = h) := by
  refine ft_run_ok k_M_packet 2 _ _ _ _ [] rfl trivial ?_
  refine r_callV (as := [.int (x)]) (a := o) (ci := 11) (r := []) k_M_packet rfl z_M_isThere rfl (by decide) rfl (I.K ho) (Nat.le_of_ble_eq_true rfl) (Nat.le_of_ble_eq_true rfl) (Nat.le_of_ble_eq_true rfl) (Nat.le_of_ble_eq_true rfl) (t_M_isThere I ho hE) ?_
  rintro v h' ⟨⟨n1, b2, rfl, m3⟩, rfl⟩
  refine r_if k_M_packet rfl rfl (fun c4 => ?_) (fun c4 => ?_)
  · have g5 := ft_ne0 (a := n1) c4
    obtain ⟨j, w_j, rfl, hw_j, h_j, hv_j⟩ := m3 (by omega)
    refine ft_run_ok k_M_packet 1 _ _ _ _ [] rfl trivial ?_
    refine r_if k_M_packet rfl rfl (fun c6 => ?_) (fun c6 => ?_)
    · refine ft_run_ok k_M_packet 2 _ _ _ _ [] rfl trivial ?_
      refine r_icmp k_M_packet rfl rfl (fun c8 => ?_) (fun c8 => ?_)
      · refine ft_run_ok k_M_packet 2 _ _ _ _ [] rfl trivial ?_
        refine r_icmp k_M_packet rfl rfl (fun c10 => ?_) (fun c10 => ?_)
        · refine ft_run_ok k_M_packet 1 _ _ _ _ [] rfl trivial ?_
          exact r_ret (v := some (.int ((Int8.ofInt (Int.negSucc 101)).toInt32))) k_M_packet rfl trivial (Nat.le_of_ble_eq_true rfl) (Nat.le_of_ble_eq_true rfl) ⟨⟨_, rfl⟩, rfl⟩
        · obtain ⟨a14, r13, k15, e16⟩ := I.get ho hE (5)
          have k15 : κ a14 = (32, 61) := k15
          obtain ⟨n18, b19, r17⟩ := I.get k15 e16 ((nI j).toNatClampNeg)
          have b19 : n18 ≤ 256 := b19
          refine ft_run_ok k_M_packet 5 _ _ _ _ [.ref a14, .int (nI n18)] rfl ⟨I.K ho, r13, I.Kd k15 rfl, I.vi k15 (by omega) (by decide), r17, trivial⟩ ?_
          exact r_ret (v := some (.int (nI n18))) k_M_packet rfl trivial (Nat.le_of_ble_eq_true rfl) (Nat.le_of_ble_eq_true rfl) ⟨⟨_, rfl⟩, rfl⟩
      · obtain ⟨a22, r21, k23, e24⟩ := I.get ho hE (4)
        have k23 : κ a22 = (31, 61) := k23
        obtain ⟨x26, r25⟩ := I.get k23 e24 ((nI j).toNatClampNeg)
        refine ft_run_ok k_M_packet 5 _ _ _ _ [.ref a22, .int (x26)] rfl ⟨I.K ho, r21, I.Kd k23 rfl, I.vi k23 (by omega) (by decide), r25, trivial⟩ ?_
        exact r_ret (v := some (.int (x26))) k_M_packet rfl trivial (Nat.le_of_ble_eq_true rfl) (Nat.le_of_ble_eq_true rfl) ⟨⟨_, rfl⟩, rfl⟩
    · obtain ⟨a29, r28, k30, e31⟩ := I.get ho hE (3)
      have k30 : κ a29 = (30, 61) := k30
      obtain ⟨n33, b34, r32⟩ := I.get k30 e31 ((nI j).toNatClampNeg)
      have b34 : n33 ≤ 1 := b34
      refine ft_run_ok k_M_packet 5 _ _ _ _ [.ref a29, .int (nI n33)] rfl ⟨I.K ho, r28, I.Kd k30 rfl, I.vi k30 (by omega) (by decide), r32, trivial⟩ ?_
      exact r_ret (v := some (.int (nI n33))) k_M_packet rfl trivial (Nat.le_of_ble_eq_true rfl) (Nat.le_of_ble_eq_true rfl) ⟨⟨_, rfl⟩, rfl⟩
  · have g35 := ft_eq0 (a := n1) (by omega) (Classical.not_not.mp c4)
    refine ft_run_ok k_M_packet 1 _ _ _ _ [] rfl trivial ?_
    exact r_ret (v := some (.int ((Int8.ofInt (Int.negSucc 100)).toInt32))) k_M_packet rfl trivial (Nat.le_of_ble_eq_true rfl) (Nat.le_of_ble_eq_true rfl) ⟨⟨_, rfl⟩, rfl⟩
set_option maxRecDepth 100000 in
theorem t_M_octet {o : Nat} {x : Int32} {k : Int32} (I : Iv D κ n E P h) (ho : κ o = (kd_M, 0)) (hE : ¬ E o) : sm D y_M_octet 0 (lv_args 0 [.ref o, .int x, .int k]) [] h 0 0 (fun v h' => (∃ x : Int32, v = some (.int x)) ∧ h' = h) := by
  refine ft_run_ok k_M_octet 2 _ _ _ _ [] rfl trivial ?_
  refine r_callV (as := [.int (x)]) (a := o) (ci := 11) (r := []) k_M_octet rfl z_M_isThere rfl (by decide) rfl (I.K ho) (Nat.le_of_ble_eq_true rfl) (Nat.le_of_ble_eq_true rfl) (Nat.le_of_ble_eq_true rfl) (Nat.le_of_ble_eq_true rfl) (t_M_isThere I ho hE) ?_
  rintro v h' ⟨⟨n1, b2, rfl, m3⟩, rfl⟩
  refine r_if k_M_octet rfl rfl (fun c4 => ?_) (fun c4 => ?_)
  · have g5 := ft_eq0 (a := n1) (by omega) c4
    refine ft_run_ok k_M_octet 1 _ _ _ _ [] rfl trivial ?_
    exact r_ret (v := some (.int ((Int8.ofInt (Int.negSucc 100)).toInt32))) k_M_octet rfl trivial (Nat.le_of_ble_eq_true rfl) (Nat.le_of_ble_eq_true rfl) ⟨⟨_, rfl⟩, rfl⟩
  · have g6 := ft_ne0 (a := n1) c4
    obtain ⟨j, w_j, rfl, hw_j, h_j, hv_j⟩ := m3 (by omega)
    obtain ⟨a8, r7, k9, e10⟩ := I.get ho hE (5)
    have k9 : κ a8 = (32, 61) := k9
    obtain ⟨n12, b13, r11⟩ := I.get k9 e10 ((nI j).toNatClampNeg)
    have b13 : n12 ≤ 256 := b13
    refine ft_run_ok k_M_octet 10 _ _ _ _ [.ref a8, .int (nI n12)] rfl ⟨I.K ho, r7, I.Kd k9 rfl, I.vi k9 (by omega) (by decide), r11, trivial⟩ ?_
    refine r_callS (as := [.long ((k).toInt64), .long (lN 0), .long (((nI n12) - (nI 1)).toInt64)]) (r := []) k_M_octet rfl z_M_in rfl (Nat.le_of_ble_eq_true rfl) (Nat.le_of_ble_eq_true rfl) (Nat.le_of_ble_eq_true rfl) (Nat.le_of_ble_eq_true rfl) (t_M_in) ?_
    rintro v h' ⟨⟨n14, b15, rfl, m16⟩, rfl⟩
    refine r_if k_M_octet rfl rfl (fun c17 => ?_) (fun c17 => ?_)
    · have g18 := ft_eq0 (a := n14) (by omega) c17
      refine ft_run_ok k_M_octet 1 _ _ _ _ [] rfl trivial ?_
      exact r_ret (v := some (.int ((Int8.ofInt (Int.negSucc 100)).toInt32))) k_M_octet rfl trivial (Nat.le_of_ble_eq_true rfl) (Nat.le_of_ble_eq_true rfl) ⟨⟨_, rfl⟩, rfl⟩
    · have g19 := ft_ne0 (a := n14) c17
      obtain ⟨q, h_q, rfl⟩ := ft_rngm (m16.mp (by omega)).1 (m16.mp (by omega)).2 (by omega)
      obtain ⟨a21, r20, k22, e23⟩ := I.get ho hE (6)
      have k22 : κ a21 = (33, 15616) := k22
      obtain ⟨n25, b26, r24⟩ := I.get k22 e23 ((((nI 256) * (nI j)) + (nI q)).toNatClampNeg)
      have b26 : n25 ≤ 255 := b26
      refine ft_run_ok k_M_octet 9 _ _ _ _ [.ref a21, .int (nI n25)] rfl ⟨I.K ho, r20, I.Kd k22 rfl, (by simp only [nI_add, pk_mul]; exact I.vi k22 (by omega) (by decide)), r24, trivial⟩ ?_
      exact r_ret (v := some (.int (nI n25))) k_M_octet rfl trivial (Nat.le_of_ble_eq_true rfl) (Nat.le_of_ble_eq_true rfl) ⟨⟨_, rfl⟩, rfl⟩
set_option maxRecDepth 100000 in
theorem t_M_seen {o : Nat} {x : Int32} {m : Int64} (I : Iv D κ n E P h) (ho : κ o = (kd_M, 0)) (hE : ¬ E o) : sm D y_M_seen 0 (lv_args 0 [.ref o, .int x, .long m]) [] h 0 0 (fun v h' => (∃ x : Int32, v = some (.int x)) ∧ h' = h) := by
  refine ft_run_ok k_M_seen 1 _ _ _ _ [] rfl trivial ?_
  refine r_callS (as := [.int (x)]) (r := []) k_M_seen rfl z_M_isEnd rfl (Nat.le_of_ble_eq_true rfl) (Nat.le_of_ble_eq_true rfl) (Nat.le_of_ble_eq_true rfl) (Nat.le_of_ble_eq_true rfl) (t_M_isEnd) ?_
  rintro v h' ⟨⟨n1, b2, rfl, m3⟩, rfl⟩
  refine r_if k_M_seen rfl rfl (fun c4 => ?_) (fun c4 => ?_)
  · have g5 := ft_ne0 (a := n1) c4
    obtain ⟨e, h_e, rfl⟩ := m3 (by omega)
    refine ft_run_ok k_M_seen 1 _ _ _ _ [] rfl trivial ?_
    refine r_callS (as := [.long (m)]) (r := []) k_M_seen rfl z_M_around rfl (Nat.le_of_ble_eq_true rfl) (Nat.le_of_ble_eq_true rfl) (Nat.le_of_ble_eq_true rfl) (Nat.le_of_ble_eq_true rfl) (t_M_around) ?_
    rintro v h' ⟨⟨n6, b7, rfl⟩, rfl⟩
    obtain ⟨a9, r8, k10, e11⟩ := I.get ho hE (12)
    have k10 : κ a9 = (38, 2) := k10
    obtain ⟨x13, r12⟩ := I.get k10 e11 ((nI e).toNatClampNeg)
    refine ft_run_ok k_M_seen 5 _ _ _ _ [.ref a9, .int (x13)] rfl ⟨I.K ho, r8, I.Kd k10 rfl, I.vi k10 (by omega) (by decide), r12, trivial⟩ ?_
    refine r_if k_M_seen rfl rfl (fun c14 => ?_) (fun c14 => ?_)
    · refine ft_run_ok k_M_seen 1 _ _ _ _ [] rfl trivial ?_
      exact r_ret (v := some (.int (Int32.ofInt (Int.negSucc 0)))) k_M_seen rfl trivial (Nat.le_of_ble_eq_true rfl) (Nat.le_of_ble_eq_true rfl) ⟨⟨_, rfl⟩, rfl⟩
    · obtain ⟨a18, r17, k19, e20⟩ := I.get ho hE (13)
      have k19 : κ a18 = (39, 2) := k19
      obtain ⟨n22, b23, r21⟩ := I.get k19 e20 ((nI e).toNatClampNeg)
      refine ft_run_ok k_M_seen 6 _ _ _ _ [.ref a18, .long (lN n22)] rfl ⟨I.K ho, r17, I.Kd k19 rfl, I.vi k19 (by omega) (by decide), r21, trivial⟩ ?_
      refine r_callS (as := [.long ((lN n22) - (lN n6))]) (r := []) k_M_seen rfl z_M_around rfl (Nat.le_of_ble_eq_true rfl) (Nat.le_of_ble_eq_true rfl) (Nat.le_of_ble_eq_true rfl) (Nat.le_of_ble_eq_true rfl) (t_M_around) ?_
      rintro v h' ⟨⟨n24, b25, rfl⟩, rfl⟩
      refine ft_run_ok k_M_seen 2 _ _ _ _ [] rfl trivial ?_
      refine r_if k_M_seen rfl rfl (fun c26 => ?_) (fun c26 => ?_)
      · obtain ⟨a29, r28, k30, e31⟩ := I.get ho hE (16)
        have k30 : κ a29 = (42, 512) := k30
        refine ft_run_ok k_M_seen 4 _ _ _ _ [.ref a29] rfl ⟨I.K ho, r28, trivial⟩ ?_
        refine r_callS (as := [.int (nI e), .long (lN n6)]) (r := [.ref a29]) k_M_seen rfl z_M_at rfl (Nat.le_of_ble_eq_true rfl) (Nat.le_of_ble_eq_true rfl) (Nat.le_of_ble_eq_true rfl) (Nat.le_of_ble_eq_true rfl) (t_M_at (e := e) rfl (by omega)) ?_
        rintro v h' ⟨⟨n32, b33, rfl⟩, rfl⟩
        obtain ⟨x35, r34⟩ := I.get k30 e31 ((nI n32).toNatClampNeg)
        refine ft_run_ok k_M_seen 1 _ _ _ _ [.int (x35)] rfl ⟨I.Kd k30 rfl, I.vi k30 (by omega) (by decide), r34, trivial⟩ ?_
        refine r_if k_M_seen rfl rfl (fun c36 => ?_) (fun c36 => ?_)
        · refine ft_run_ok k_M_seen 1 _ _ _ _ [] rfl trivial ?_
          exact r_ret (v := some (.int (nI 0))) k_M_seen rfl trivial (Nat.le_of_ble_eq_true rfl) (Nat.le_of_ble_eq_true rfl) ⟨⟨_, rfl⟩, rfl⟩
        · refine ft_run_ok k_M_seen 2 _ _ _ _ [] rfl trivial ?_
          exact r_ret (v := some (.int (nI 1))) k_M_seen rfl trivial (Nat.le_of_ble_eq_true rfl) (Nat.le_of_ble_eq_true rfl) ⟨⟨_, rfl⟩, rfl⟩
      · refine ft_run_ok k_M_seen 1 _ _ _ _ [] rfl trivial ?_
        exact r_ret (v := some (.int (Int32.ofInt (Int.negSucc 0)))) k_M_seen rfl trivial (Nat.le_of_ble_eq_true rfl) (Nat.le_of_ble_eq_true rfl) ⟨⟨_, rfl⟩, rfl⟩
  · have g40 := ft_eq0 (a := n1) (by omega) (Classical.not_not.mp c4)
    refine ft_run_ok k_M_seen 1 _ _ _ _ [] rfl trivial ?_
    exact r_ret (v := some (.int ((Int8.ofInt (Int.negSucc 100)).toInt32))) k_M_seen rfl trivial (Nat.le_of_ble_eq_true rfl) (Nat.le_of_ble_eq_true rfl) ⟨⟨_, rfl⟩, rfl⟩
set_option maxRecDepth 100000 in
theorem t_M_sent {o : Nat} {x : Int32} {m : Int64} (I : Iv D κ n E P h) (ho : κ o = (kd_M, 0)) (hE : ¬ E o) : sm D y_M_sent 0 (lv_args 0 [.ref o, .int x, .long m]) [] h 0 0 (fun v h' => (∃ x : Int32, v = some (.int x)) ∧ h' = h) := by
  refine ft_run_ok k_M_sent 1 _ _ _ _ [] rfl trivial ?_
  refine r_callS (as := [.int (x)]) (r := []) k_M_sent rfl z_M_isEnd rfl (Nat.le_of_ble_eq_true rfl) (Nat.le_of_ble_eq_true rfl) (Nat.le_of_ble_eq_true rfl) (Nat.le_of_ble_eq_true rfl) (t_M_isEnd) ?_
  rintro v h' ⟨⟨n1, b2, rfl, m3⟩, rfl⟩
  refine r_if k_M_sent rfl rfl (fun c4 => ?_) (fun c4 => ?_)
  · have g5 := ft_ne0 (a := n1) c4
    obtain ⟨e, h_e, rfl⟩ := m3 (by omega)
    refine ft_run_ok k_M_sent 1 _ _ _ _ [] rfl trivial ?_
    refine r_callS (as := [.long (m)]) (r := []) k_M_sent rfl z_M_around rfl (Nat.le_of_ble_eq_true rfl) (Nat.le_of_ble_eq_true rfl) (Nat.le_of_ble_eq_true rfl) (Nat.le_of_ble_eq_true rfl) (t_M_around) ?_
    rintro v h' ⟨⟨n6, b7, rfl⟩, rfl⟩
    refine ft_run_ok k_M_sent 4 _ _ _ _ [] rfl trivial ?_
    refine r_callV (as := [.int (nI e), .long (lN n6)]) (a := o) (ci := 11) (r := []) k_M_sent rfl z_M_isOwn rfl (by decide) rfl (I.K ho) (Nat.le_of_ble_eq_true rfl) (Nat.le_of_ble_eq_true rfl) (Nat.le_of_ble_eq_true rfl) (Nat.le_of_ble_eq_true rfl) (t_M_isOwn I ho hE (e := e) rfl (by omega)) ?_
    rintro v h' ⟨⟨n8, b9, rfl⟩, rfl⟩
    refine r_if k_M_sent rfl rfl (fun c10 => ?_) (fun c10 => ?_)
    · have g11 := ft_eq0 (a := n8) (by omega) c10
      refine ft_run_ok k_M_sent 1 _ _ _ _ [] rfl trivial ?_
      exact r_ret (v := some (.int (Int32.ofInt (Int.negSucc 0)))) k_M_sent rfl trivial (Nat.le_of_ble_eq_true rfl) (Nat.le_of_ble_eq_true rfl) ⟨⟨_, rfl⟩, rfl⟩
    · have g12 := ft_ne0 (a := n8) c10
      obtain ⟨a14, r13, k15, e16⟩ := I.get ho hE (17)
      have k15 : κ a14 = (43, 512) := k15
      refine ft_run_ok k_M_sent 4 _ _ _ _ [.ref a14] rfl ⟨I.K ho, r13, trivial⟩ ?_
      refine r_callS (as := [.int (nI e), .long (lN n6)]) (r := [.ref a14]) k_M_sent rfl z_M_at rfl (Nat.le_of_ble_eq_true rfl) (Nat.le_of_ble_eq_true rfl) (Nat.le_of_ble_eq_true rfl) (Nat.le_of_ble_eq_true rfl) (t_M_at (e := e) rfl (by omega)) ?_
      rintro v h' ⟨⟨n17, b18, rfl⟩, rfl⟩
      obtain ⟨x20, r19⟩ := I.get k15 e16 ((nI n17).toNatClampNeg)
      refine ft_run_ok k_M_sent 2 _ _ _ _ [.int (x20)] rfl ⟨I.Kd k15 rfl, I.vi k15 (by omega) (by decide), r19, trivial⟩ ?_
      exact r_ret (v := some (.int (x20))) k_M_sent rfl trivial (Nat.le_of_ble_eq_true rfl) (Nat.le_of_ble_eq_true rfl) ⟨⟨_, rfl⟩, rfl⟩
  · have g21 := ft_eq0 (a := n1) (by omega) (Classical.not_not.mp c4)
    refine ft_run_ok k_M_sent 1 _ _ _ _ [] rfl trivial ?_
    exact r_ret (v := some (.int ((Int8.ofInt (Int.negSucc 100)).toInt32))) k_M_sent rfl trivial (Nat.le_of_ble_eq_true rfl) (Nat.le_of_ble_eq_true rfl) ⟨⟨_, rfl⟩, rfl⟩
set_option maxRecDepth 100000 in
theorem t_M_count {o : Nat} {x : Int32} {w : Int32} (I : Iv D κ n E P h) (ho : κ o = (kd_M, 0)) (hE : ¬ E o) : sm D y_M_count 0 (lv_args 0 [.ref o, .int x, .int w]) [] h 0 0 (fun v h' => (∃ x : Int32, v = some (.int x)) ∧ h' = h) := by
  refine ft_run_ok k_M_count 1 _ _ _ _ [] rfl trivial ?_
  refine r_callS (as := [.int (x)]) (r := []) k_M_count rfl z_M_isEnd rfl (Nat.le_of_ble_eq_true rfl) (Nat.le_of_ble_eq_true rfl) (Nat.le_of_ble_eq_true rfl) (Nat.le_of_ble_eq_true rfl) (t_M_isEnd) ?_
  rintro v h' ⟨⟨n1, b2, rfl, m3⟩, rfl⟩
  refine r_if k_M_count rfl rfl (fun c4 => ?_) (fun c4 => ?_)
  · have g5 := ft_ne0 (a := n1) c4
    obtain ⟨e, h_e, rfl⟩ := m3 (by omega)
    refine ft_run_ok k_M_count 1 _ _ _ _ [] rfl trivial ?_
    by_cases sw : (w).toInt < 0 ∨ 15 < (w).toInt
    · refine r_swOut k_M_count rfl sw rfl ?_
      refine ft_run_ok k_M_count 1 _ _ _ _ [] rfl trivial ?_
      exact r_ret (v := some (.int ((Int8.ofInt (Int.negSucc 101)).toInt32))) k_M_count rfl trivial (Nat.le_of_ble_eq_true rfl) (Nat.le_of_ble_eq_true rfl) ⟨⟨_, rfl⟩, rfl⟩
    · have s1 : ¬ (w).toInt < 0 := fun q => sw (Or.inl q)
      have s2 : ¬ 15 < (w).toInt := fun q => sw (Or.inr q)
      rcases (show (w).toInt = 0 ∨ (w).toInt = 1 ∨ (w).toInt = 2 ∨ (w).toInt = 3 ∨ (w).toInt = 4 ∨ (w).toInt = 5 ∨ (w).toInt = 6 ∨ (w).toInt = 7 ∨ (w).toInt = 8 ∨ (w).toInt = 9 ∨ (w).toInt = 10 ∨ (w).toInt = 11 ∨ (w).toInt = 12 ∨ (w).toInt = 13 ∨ (w).toInt = 14 ∨ (w).toInt = 15 by omega) with sv | sv | sv | sv | sv | sv | sv | sv | sv | sv | sv | sv | sv | sv | sv | sv
      · refine r_swIn k_M_count rfl s1 s2 (by rw [sv]; rfl) rfl ?_
        refine ft_run_ok k_M_count 2 _ _ _ _ [] rfl trivial ?_
        refine r_callV (as := [.int (nI e)]) (a := o) (ci := 11) (r := []) k_M_count rfl z_M_pipe rfl (by decide) rfl (I.K ho) (Nat.le_of_ble_eq_true rfl) (Nat.le_of_ble_eq_true rfl) (Nat.le_of_ble_eq_true rfl) (Nat.le_of_ble_eq_true rfl) (t_M_pipe I ho hE (e := e) rfl (by omega)) ?_
        rintro v h' ⟨⟨x6, rfl⟩, rfl⟩
        exact r_ret (v := some (.int (x6))) k_M_count rfl trivial (Nat.le_of_ble_eq_true rfl) (Nat.le_of_ble_eq_true rfl) ⟨⟨_, rfl⟩, rfl⟩
      · refine r_swIn k_M_count rfl s1 s2 (by rw [sv]; rfl) rfl ?_
        obtain ⟨a8, r7, k9, e10⟩ := I.get ho hE (34)
        have k9 : κ a8 = (60, 2) := k9
        obtain ⟨x12, r11⟩ := I.get k9 e10 ((nI e).toNatClampNeg)
        refine ft_run_ok k_M_count 4 _ _ _ _ [.ref a8, .int (x12)] rfl ⟨I.K ho, r7, I.Kd k9 rfl, I.vi k9 (by omega) (by decide), r11, trivial⟩ ?_
        exact r_ret (v := some (.int (x12))) k_M_count rfl trivial (Nat.le_of_ble_eq_true rfl) (Nat.le_of_ble_eq_true rfl) ⟨⟨_, rfl⟩, rfl⟩
      · refine r_swIn k_M_count rfl s1 s2 (by rw [sv]; rfl) rfl ?_
        obtain ⟨a14, r13, k15, e16⟩ := I.get ho hE (35)
        have k15 : κ a14 = (61, 2) := k15
        obtain ⟨x18, r17⟩ := I.get k15 e16 ((nI e).toNatClampNeg)
        refine ft_run_ok k_M_count 4 _ _ _ _ [.ref a14, .int (x18)] rfl ⟨I.K ho, r13, I.Kd k15 rfl, I.vi k15 (by omega) (by decide), r17, trivial⟩ ?_
        exact r_ret (v := some (.int (x18))) k_M_count rfl trivial (Nat.le_of_ble_eq_true rfl) (Nat.le_of_ble_eq_true rfl) ⟨⟨_, rfl⟩, rfl⟩
      · refine r_swIn k_M_count rfl s1 s2 (by rw [sv]; rfl) rfl ?_
        obtain ⟨a20, r19, k21, e22⟩ := I.get ho hE (36)
        have k21 : κ a20 = (62, 2) := k21
        obtain ⟨x24, r23⟩ := I.get k21 e22 ((nI e).toNatClampNeg)
        refine ft_run_ok k_M_count 4 _ _ _ _ [.ref a20, .int (x24)] rfl ⟨I.K ho, r19, I.Kd k21 rfl, I.vi k21 (by omega) (by decide), r23, trivial⟩ ?_
        exact r_ret (v := some (.int (x24))) k_M_count rfl trivial (Nat.le_of_ble_eq_true rfl) (Nat.le_of_ble_eq_true rfl) ⟨⟨_, rfl⟩, rfl⟩
      · refine r_swIn k_M_count rfl s1 s2 (by rw [sv]; rfl) rfl ?_
        obtain ⟨a26, r25, k27, e28⟩ := I.get ho hE (37)
        have k27 : κ a26 = (63, 2) := k27
        obtain ⟨x30, r29⟩ := I.get k27 e28 ((nI e).toNatClampNeg)
        refine ft_run_ok k_M_count 4 _ _ _ _ [.ref a26, .int (x30)] rfl ⟨I.K ho, r25, I.Kd k27 rfl, I.vi k27 (by omega) (by decide), r29, trivial⟩ ?_
        exact r_ret (v := some (.int (x30))) k_M_count rfl trivial (Nat.le_of_ble_eq_true rfl) (Nat.le_of_ble_eq_true rfl) ⟨⟨_, rfl⟩, rfl⟩
      · refine r_swIn k_M_count rfl s1 s2 (by rw [sv]; rfl) rfl ?_
        obtain ⟨a32, r31, k33, e34⟩ := I.get ho hE (28)
        have k33 : κ a32 = (54, 2) := k33
        have r35 := I.ts k33 e34 (show e < 2 by omega)
        have b36 := I.tsb (show e < 2 by omega)
        refine ft_run_ok k_M_count 4 _ _ _ _ [.ref a32, .int (nI (P (8 + e)))] rfl ⟨I.K ho, r31, I.Kd k33 rfl, I.vi k33 (by omega) (by decide), r35, trivial⟩ ?_
        exact r_ret (v := some (.int (nI (P (8 + e))))) k_M_count rfl trivial (Nat.le_of_ble_eq_true rfl) (Nat.le_of_ble_eq_true rfl) ⟨⟨_, rfl⟩, rfl⟩
      · refine r_swIn k_M_count rfl s1 s2 (by rw [sv]; rfl) rfl ?_
        obtain ⟨a38, r37, k39, e40⟩ := I.get ho hE (49)
        have k39 : κ a38 = (75, 2) := k39
        obtain ⟨x42, r41⟩ := I.get k39 e40 ((nI e).toNatClampNeg)
        refine ft_run_ok k_M_count 4 _ _ _ _ [.ref a38, .int (x42)] rfl ⟨I.K ho, r37, I.Kd k39 rfl, I.vi k39 (by omega) (by decide), r41, trivial⟩ ?_
        exact r_ret (v := some (.int (x42))) k_M_count rfl trivial (Nat.le_of_ble_eq_true rfl) (Nat.le_of_ble_eq_true rfl) ⟨⟨_, rfl⟩, rfl⟩
      · refine r_swIn k_M_count rfl s1 s2 (by rw [sv]; rfl) rfl ?_
        obtain ⟨a44, r43, k45, e46⟩ := I.get ho hE (50)
        have k45 : κ a44 = (76, 2) := k45
        obtain ⟨x48, r47⟩ := I.get k45 e46 ((nI e).toNatClampNeg)
        refine ft_run_ok k_M_count 4 _ _ _ _ [.ref a44, .int (x48)] rfl ⟨I.K ho, r43, I.Kd k45 rfl, I.vi k45 (by omega) (by decide), r47, trivial⟩ ?_
        exact r_ret (v := some (.int (x48))) k_M_count rfl trivial (Nat.le_of_ble_eq_true rfl) (Nat.le_of_ble_eq_true rfl) ⟨⟨_, rfl⟩, rfl⟩
      · refine r_swIn k_M_count rfl s1 s2 (by rw [sv]; rfl) rfl ?_
        obtain ⟨a50, r49, k51, e52⟩ := I.get ho hE (51)
        have k51 : κ a50 = (77, 2) := k51
        obtain ⟨x54, r53⟩ := I.get k51 e52 ((nI e).toNatClampNeg)
        refine ft_run_ok k_M_count 4 _ _ _ _ [.ref a50, .int (x54)] rfl ⟨I.K ho, r49, I.Kd k51 rfl, I.vi k51 (by omega) (by decide), r53, trivial⟩ ?_
        exact r_ret (v := some (.int (x54))) k_M_count rfl trivial (Nat.le_of_ble_eq_true rfl) (Nat.le_of_ble_eq_true rfl) ⟨⟨_, rfl⟩, rfl⟩
      · refine r_swIn k_M_count rfl s1 s2 (by rw [sv]; rfl) rfl ?_
        obtain ⟨a56, r55, k57, e58⟩ := I.get ho hE (52)
        have k57 : κ a56 = (78, 2) := k57
        obtain ⟨x60, r59⟩ := I.get k57 e58 ((nI e).toNatClampNeg)
        refine ft_run_ok k_M_count 4 _ _ _ _ [.ref a56, .int (x60)] rfl ⟨I.K ho, r55, I.Kd k57 rfl, I.vi k57 (by omega) (by decide), r59, trivial⟩ ?_
        exact r_ret (v := some (.int (x60))) k_M_count rfl trivial (Nat.le_of_ble_eq_true rfl) (Nat.le_of_ble_eq_true rfl) ⟨⟨_, rfl⟩, rfl⟩
      · refine r_swIn k_M_count rfl s1 s2 (by rw [sv]; rfl) rfl ?_
        obtain ⟨a62, r61, k63, e64⟩ := I.get ho hE (53)
        have k63 : κ a62 = (79, 2) := k63
        obtain ⟨x66, r65⟩ := I.get k63 e64 ((nI e).toNatClampNeg)
        refine ft_run_ok k_M_count 4 _ _ _ _ [.ref a62, .int (x66)] rfl ⟨I.K ho, r61, I.Kd k63 rfl, I.vi k63 (by omega) (by decide), r65, trivial⟩ ?_
        exact r_ret (v := some (.int (x66))) k_M_count rfl trivial (Nat.le_of_ble_eq_true rfl) (Nat.le_of_ble_eq_true rfl) ⟨⟨_, rfl⟩, rfl⟩
      · refine r_swIn k_M_count rfl s1 s2 (by rw [sv]; rfl) rfl ?_
        obtain ⟨a68, r67, k69, e70⟩ := I.get ho hE (31)
        have k69 : κ a68 = (57, 2) := k69
        obtain ⟨n72, b73, r71⟩ := I.get k69 e70 ((nI e).toNatClampNeg)
        have b73 : n72 ≤ P 2 := b73
        refine ft_run_ok k_M_count 4 _ _ _ _ [.ref a68, .int (nI n72)] rfl ⟨I.K ho, r67, I.Kd k69 rfl, I.vi k69 (by omega) (by decide), r71, trivial⟩ ?_
        exact r_ret (v := some (.int (nI n72))) k_M_count rfl trivial (Nat.le_of_ble_eq_true rfl) (Nat.le_of_ble_eq_true rfl) ⟨⟨_, rfl⟩, rfl⟩
      · refine r_swIn k_M_count rfl s1 s2 (by rw [sv]; rfl) rfl ?_
        refine ft_run_ok k_M_count 2 _ _ _ _ [] rfl trivial ?_
        refine r_callV (as := [.int (nI e)]) (a := o) (ci := 11) (r := []) k_M_count rfl z_M_changes rfl (by decide) rfl (I.K ho) (Nat.le_of_ble_eq_true rfl) (Nat.le_of_ble_eq_true rfl) (Nat.le_of_ble_eq_true rfl) (Nat.le_of_ble_eq_true rfl) (t_M_changes I ho hE (e := e) rfl (by omega)) ?_
        rintro v h' ⟨⟨x74, rfl⟩, rfl⟩
        exact r_ret (v := some (.int (x74))) k_M_count rfl trivial (Nat.le_of_ble_eq_true rfl) (Nat.le_of_ble_eq_true rfl) ⟨⟨_, rfl⟩, rfl⟩
      · refine r_swIn k_M_count rfl s1 s2 (by rw [sv]; rfl) rfl ?_
        obtain ⟨a76, r75, k77, e78⟩ := I.get ho hE (26)
        have k77 : κ a76 = (52, 2) := k77
        obtain ⟨n80, b81, r79⟩ := I.get k77 e78 ((nI e).toNatClampNeg)
        have b81 : n80 ≤ 12 := b81
        refine ft_run_ok k_M_count 4 _ _ _ _ [.ref a76, .int (nI n80)] rfl ⟨I.K ho, r75, I.Kd k77 rfl, I.vi k77 (by omega) (by decide), r79, trivial⟩ ?_
        exact r_ret (v := some (.int (nI n80))) k_M_count rfl trivial (Nat.le_of_ble_eq_true rfl) (Nat.le_of_ble_eq_true rfl) ⟨⟨_, rfl⟩, rfl⟩
      · refine r_swIn k_M_count rfl s1 s2 (by rw [sv]; rfl) rfl ?_
        obtain ⟨a83, r82, k84, e85⟩ := I.get ho hE (54)
        have k84 : κ a83 = (80, 2) := k84
        obtain ⟨x87, r86⟩ := I.get k84 e85 ((nI e).toNatClampNeg)
        refine ft_run_ok k_M_count 4 _ _ _ _ [.ref a83, .int (x87)] rfl ⟨I.K ho, r82, I.Kd k84 rfl, I.vi k84 (by omega) (by decide), r86, trivial⟩ ?_
        exact r_ret (v := some (.int (x87))) k_M_count rfl trivial (Nat.le_of_ble_eq_true rfl) (Nat.le_of_ble_eq_true rfl) ⟨⟨_, rfl⟩, rfl⟩
      · refine r_swIn k_M_count rfl s1 s2 (by rw [sv]; rfl) rfl ?_
        obtain ⟨a89, r88, k90, e91⟩ := I.get ho hE (55)
        have k90 : κ a89 = (81, 2) := k90
        obtain ⟨x93, r92⟩ := I.get k90 e91 ((nI e).toNatClampNeg)
        refine ft_run_ok k_M_count 4 _ _ _ _ [.ref a89, .int (x93)] rfl ⟨I.K ho, r88, I.Kd k90 rfl, I.vi k90 (by omega) (by decide), r92, trivial⟩ ?_
        exact r_ret (v := some (.int (x93))) k_M_count rfl trivial (Nat.le_of_ble_eq_true rfl) (Nat.le_of_ble_eq_true rfl) ⟨⟨_, rfl⟩, rfl⟩
  · have g94 := ft_eq0 (a := n1) (by omega) (Classical.not_not.mp c4)
    refine ft_run_ok k_M_count 1 _ _ _ _ [] rfl trivial ?_
    exact r_ret (v := some (.int ((Int8.ofInt (Int.negSucc 100)).toInt32))) k_M_count rfl trivial (Nat.le_of_ble_eq_true rfl) (Nat.le_of_ble_eq_true rfl) ⟨⟨_, rfl⟩, rfl⟩
set_option maxRecDepth 100000 in
theorem t_M_isList {o : Nat} {f : Int32} (I : Iv D κ n E P h) (ho : κ o = (kd_M, 0)) (hE : ¬ E o) : sm D y_M_isList 0 (lv_args 0 [.ref o, .int f]) [] h 0 0 (fun v h' => (∃ b : Nat, b ≤ 1 ∧ v = some (.int (nI b))) ∧ h' = h) := by
  have L24 : ∀ (t24 : Nat) (k : Nat), k ≤ 3 → 4 - k < t24 → sm D y_M_isList 24 [(0, .ref o), (1, .int (f)), (2, .int (nI k))] [] h 0 0 (fun v h' => (∃ b : Nat, b ≤ 1 ∧ v = some (.int (nI b))) ∧ h' = h) := by
    intro t24
    induction t24 with
    | zero => intro k f24_0 ht24; exact absurd ht24 (Nat.not_lt_zero _)
    | succ t24 ih24 =>
      intro k f24_0 ht24
      have L49 : ∀ (t49 : Nat) (j : Nat), j ≤ k ∧ k ≤ 2 → k - j < t49 → sm D y_M_isList 49 [(0, .ref o), (1, .int (f)), (2, .int (nI k)), (3, .int (nI j))] [] h 0 0 (fun v h' => (∃ b : Nat, b ≤ 1 ∧ v = some (.int (nI b))) ∧ h' = h) := by
        intro t49
        induction t49 with
        | zero => intro j f49_0 ht49; exact absurd ht49 (Nat.not_lt_zero _)
        | succ t49 ih49 =>
          intro j f49_0 ht49
          refine ft_run_ok k_M_isList 2 _ _ _ _ [] rfl trivial ?_
          refine r_icmp k_M_isList rfl rfl (fun c1 => ?_) (fun c1 => ?_)
          · have g2 := ft_le (a := k) (b := j) (by omega) (by omega) c1
            refine ft_run_ok k_M_isList 2 _ _ _ _ [] rfl trivial ?_
            rw [show ((nI k) + nI 1) = nI (k + 1) from by simp only [nI_add, pk_mul]]
            exact sm_sub [1, 2, 0] rfl (ih24 (k + 1) (by omega) (by omega))
          · have g3 := ft_nle (a := j) (b := k) (by omega) (by omega) c1
            obtain ⟨a5, r4, k6, e7⟩ := I.get ho hE (56)
            have k6 : κ a5 = (82, 4) := k6
            obtain ⟨x9, r8⟩ := I.get k6 e7 ((nI j).toNatClampNeg)
            obtain ⟨a11, r10, k12, e13⟩ := I.get ho hE (56)
            have k12 : κ a11 = (82, 4) := k12
            obtain ⟨x15, r14⟩ := I.get k12 e13 ((nI k).toNatClampNeg)
            refine ft_run_ok k_M_isList 8 _ _ _ _ [.ref a5, .int (x9), .ref a11, .int (x15)] rfl ⟨I.K ho, r4, I.Kd k6 rfl, I.vi k6 (by omega) (by decide), r8, I.K ho, r10, I.Kd k12 rfl, I.vi k12 (by omega) (by decide), r14, trivial⟩ ?_
            refine r_icmp k_M_isList rfl rfl (fun c16 => ?_) (fun c16 => ?_)
            · refine ft_run_ok k_M_isList 2 _ _ _ _ [] rfl trivial ?_
              rw [show ((nI j) + nI 1) = nI (j + 1) from by simp only [nI_add, pk_mul]]
              exact sm_sub [1, 2, 3, 0] rfl (ih49 (j + 1) (by omega) (by omega))
            · refine ft_run_ok k_M_isList 1 _ _ _ _ [] rfl trivial ?_
              exact r_ret (v := some (.int (nI 0))) k_M_isList rfl rfl (Nat.le_of_ble_eq_true rfl) (Nat.le_of_ble_eq_true rfl) ⟨⟨0, by omega, rfl⟩, rfl⟩
      obtain ⟨n20, b21, r19⟩ := I.get ho hE (57)
      have b21 : n20 ≤ 3 := b21
      refine ft_run_ok k_M_isList 3 _ _ _ _ [.int (nI n20)] rfl ⟨I.K ho, r19, trivial⟩ ?_
      refine r_icmp k_M_isList rfl rfl (fun c22 => ?_) (fun c22 => ?_)
      · have g23 := ft_le (a := n20) (b := k) (by omega) (by omega) c22
        refine ft_run_ok k_M_isList 1 _ _ _ _ [] rfl trivial ?_
        exact r_ret (v := some (.int (nI 1))) k_M_isList rfl rfl (Nat.le_of_ble_eq_true rfl) (Nat.le_of_ble_eq_true rfl) ⟨⟨1, by omega, rfl⟩, rfl⟩
      · have g24 := ft_nle (a := k) (b := n20) (by omega) (by omega) c22
        obtain ⟨a26, r25, k27, e28⟩ := I.get ho hE (56)
        have k27 : κ a26 = (82, 4) := k27
        obtain ⟨x30, r29⟩ := I.get k27 e28 ((nI k).toNatClampNeg)
        refine ft_run_ok k_M_isList 5 _ _ _ _ [.ref a26, .int (x30)] rfl ⟨I.K ho, r25, I.Kd k27 rfl, I.vi k27 (by omega) (by decide), r29, trivial⟩ ?_
        refine r_callS (as := [.int (f), .int (x30)]) (r := []) k_M_isList rfl z_M_mayBe rfl (Nat.le_of_ble_eq_true rfl) (Nat.le_of_ble_eq_true rfl) (Nat.le_of_ble_eq_true rfl) (Nat.le_of_ble_eq_true rfl) (t_M_mayBe) ?_
        rintro v h' ⟨⟨n31, b32, rfl⟩, rfl⟩
        refine r_if k_M_isList rfl rfl (fun c33 => ?_) (fun c33 => ?_)
        · have g34 := ft_ne0 (a := n31) c33
          refine ft_run_ok k_M_isList 2 _ _ _ _ [] rfl trivial ?_
          exact sm_sub [1, 2, 3, 0] rfl (L49 _ (0) (by omega) (Nat.lt_succ_self _))
        · have g35 := ft_eq0 (a := n31) (by omega) (Classical.not_not.mp c33)
          refine ft_run_ok k_M_isList 1 _ _ _ _ [] rfl trivial ?_
          exact r_ret (v := some (.int (nI 0))) k_M_isList rfl rfl (Nat.le_of_ble_eq_true rfl) (Nat.le_of_ble_eq_true rfl) ⟨⟨0, by omega, rfl⟩, rfl⟩
  obtain ⟨n37, b38, r36⟩ := I.get ho hE (57)
  have b38 : n37 ≤ 3 := b38
  refine ft_run_ok k_M_isList 2 _ _ _ _ [.int (nI n37)] rfl ⟨I.K ho, r36, trivial⟩ ?_
  refine r_if k_M_isList rfl rfl (fun c39 => ?_) (fun c39 => ?_)
  · have g40 := ft_eq0 (a := n37) (by omega) c39
    refine ft_run_ok k_M_isList 1 _ _ _ _ [] rfl trivial ?_
    exact r_ret (v := some (.int (nI 0))) k_M_isList rfl rfl (Nat.le_of_ble_eq_true rfl) (Nat.le_of_ble_eq_true rfl) ⟨⟨0, by omega, rfl⟩, rfl⟩
  · have g41 := ft_ne0 (a := n37) c39
    refine ft_run_ok k_M_isList 2 _ _ _ _ [] rfl trivial ?_
    refine r_icmp k_M_isList rfl rfl (fun c42 => ?_) (fun c42 => ?_)
    · refine ft_run_ok k_M_isList 2 _ _ _ _ [] rfl trivial ?_
      exact sm_sub [1, 2, 0] rfl (L24 _ (0) (by omega) (Nat.lt_succ_self _))
    · obtain ⟨n46, b47, r45⟩ := I.get ho hE (57)
      have b47 : n46 ≤ 3 := b47
      refine ft_run_ok k_M_isList 3 _ _ _ _ [.int (nI n46)] rfl ⟨I.K ho, r45, trivial⟩ ?_
      refine r_icmp k_M_isList rfl rfl (fun c48 => ?_) (fun c48 => ?_)
      · have g49 := ft_le (a := n46) (b := 1) (by omega) (by omega) c48
        refine ft_run_ok k_M_isList 2 _ _ _ _ [] rfl trivial ?_
        exact sm_sub [1, 2, 0] rfl (L24 _ (0) (by omega) (Nat.lt_succ_self _))
      · have g50 := ft_nle (a := 1) (b := n46) (by omega) (by omega) c48
        refine ft_run_ok k_M_isList 1 _ _ _ _ [] rfl trivial ?_
        exact r_ret (v := some (.int (nI 0))) k_M_isList rfl rfl (Nat.le_of_ble_eq_true rfl) (Nat.le_of_ble_eq_true rfl) ⟨⟨0, by omega, rfl⟩, rfl⟩
set_option maxRecDepth 100000 in
theorem t_M_reconciled {o : Nat} {e : Nat} {x_e : Int32} {k : Nat} {x_k : Int32} (I : Iv D κ n E P h) (ho : κ o = (kd_M, 0)) (hE : ¬ E o) (q_e : x_e = nI e) (h_e : e < 2) (q_k : x_k = nI k) (h_k : k < 20) : sm D y_M_reconciled 0 (lv_args 0 [.ref o, .int x_e, .int x_k]) [] h 0 0 (fun v h' => (∃ x : Int32, v = some (.int x)) ∧ h' = h) := by
  subst q_e
  subst q_k
  have L7 : ∀ (t7 : Nat) (j : Nat), j ≤ 3 → 4 - j < t7 → sm D y_M_reconciled 7 [(0, .ref o), (2, .int (nI k)), (3, .int (nI j))] [] h 0 0 (fun v h' => (∃ x : Int32, v = some (.int x)) ∧ h' = h) := by
    intro t7
    induction t7 with
    | zero => intro j f7_0 ht7; exact absurd ht7 (Nat.not_lt_zero _)
    | succ t7 ih7 =>
      intro j f7_0 ht7
      obtain ⟨a2, r1, k3, e4⟩ := I.get ho hE (21)
      have k3 : κ a2 = (47, 20) := k3
      obtain ⟨n6, b7, r5⟩ := I.get k3 e4 ((nI k).toNatClampNeg)
      have b7 : n6 ≤ 3 := b7
      refine ft_run_ok k_M_reconciled 5 _ _ _ _ [.ref a2, .int (nI n6)] rfl ⟨I.K ho, r1, I.Kd k3 rfl, I.vi k3 (by omega) (by decide), r5, trivial⟩ ?_
      refine r_icmp k_M_reconciled rfl rfl (fun c8 => ?_) (fun c8 => ?_)
      · have g9 := ft_le (a := n6) (b := j) (by omega) (by omega) c8
        obtain ⟨a11, r10, k12, e13⟩ := I.get ho hE (20)
        have k12 : κ a11 = (46, 20) := k12
        obtain ⟨x15, r14⟩ := I.get k12 e13 ((nI k).toNatClampNeg)
        refine ft_run_ok k_M_reconciled 5 _ _ _ _ [.ref a11, .int (x15)] rfl ⟨I.K ho, r10, I.Kd k12 rfl, I.vi k12 (by omega) (by decide), r14, trivial⟩ ?_
        exact r_ret (v := some (.int (x15))) k_M_reconciled rfl trivial (Nat.le_of_ble_eq_true rfl) (Nat.le_of_ble_eq_true rfl) ⟨⟨_, rfl⟩, rfl⟩
      · have g16 := ft_nle (a := j) (b := n6) (by omega) (by omega) c8
        obtain ⟨a18, r17, k19, e20⟩ := I.get ho hE (22)
        have k19 : κ a18 = (48, 60) := k19
        obtain ⟨x22, r21⟩ := I.get k19 e20 ((((nI 3) * (nI k)) + (nI j)).toNatClampNeg)
        refine ft_run_ok k_M_reconciled 9 _ _ _ _ [.ref a18, .int (x22)] rfl ⟨I.K ho, r17, I.Kd k19 rfl, (by simp only [nI_add, pk_mul]; exact I.vi k19 (by omega) (by decide)), r21, trivial⟩ ?_
        refine r_callV (as := [.int (x22)]) (a := o) (ci := 11) (r := []) k_M_reconciled rfl z_M_hasTold rfl (by decide) rfl (I.K ho) (Nat.le_of_ble_eq_true rfl) (Nat.le_of_ble_eq_true rfl) (Nat.le_of_ble_eq_true rfl) (Nat.le_of_ble_eq_true rfl) (t_M_hasTold I ho hE) ?_
        rintro v h' ⟨⟨n23, b24, rfl⟩, rfl⟩
        refine r_if k_M_reconciled rfl rfl (fun c25 => ?_) (fun c25 => ?_)
        · have g26 := ft_eq0 (a := n23) (by omega) c25
          refine ft_run_ok k_M_reconciled 2 _ _ _ _ [] rfl trivial ?_
          rw [show ((nI j) + nI 1) = nI (j + 1) from by simp only [nI_add, pk_mul]]
          exact sm_sub [1, 2, 0] rfl (ih7 (j + 1) (by omega) (by omega))
        · have g27 := ft_ne0 (a := n23) c25
          obtain ⟨a29, r28, k30, e31⟩ := I.get ho hE (22)
          have k30 : κ a29 = (48, 60) := k30
          obtain ⟨x33, r32⟩ := I.get k30 e31 ((((nI 3) * (nI k)) + (nI j)).toNatClampNeg)
          refine ft_run_ok k_M_reconciled 8 _ _ _ _ [.ref a29, .int (x33)] rfl ⟨I.K ho, r28, I.Kd k30 rfl, (by simp only [nI_add, pk_mul]; exact I.vi k30 (by omega) (by decide)), r32, trivial⟩ ?_
          exact r_ret (v := some (.int (x33))) k_M_reconciled rfl trivial (Nat.le_of_ble_eq_true rfl) (Nat.le_of_ble_eq_true rfl) ⟨⟨_, rfl⟩, rfl⟩
  have L56 : ∀ (t56 : Nat) (j : Nat), j ≤ 3 → 4 - j < t56 → sm D y_M_reconciled 56 [(0, .ref o), (2, .int (nI k)), (3, .int (nI j))] [] h 0 0 (fun v h' => (∃ x : Int32, v = some (.int x)) ∧ h' = h) := by
    intro t56
    induction t56 with
    | zero => intro j f56_0 ht56; exact absurd ht56 (Nat.not_lt_zero _)
    | succ t56 ih56 =>
      intro j f56_0 ht56
      obtain ⟨n35, b36, r34⟩ := I.get ho hE (57)
      have b36 : n35 ≤ 3 := b36
      refine ft_run_ok k_M_reconciled 3 _ _ _ _ [.int (nI n35)] rfl ⟨I.K ho, r34, trivial⟩ ?_
      refine r_icmp k_M_reconciled rfl rfl (fun c37 => ?_) (fun c37 => ?_)
      · have g38 := ft_le (a := n35) (b := j) (by omega) (by omega) c37
        obtain ⟨a40, r39, k41, e42⟩ := I.get ho hE (20)
        have k41 : κ a40 = (46, 20) := k41
        obtain ⟨x44, r43⟩ := I.get k41 e42 ((nI k).toNatClampNeg)
        refine ft_run_ok k_M_reconciled 4 _ _ _ _ [.ref a40, .int (x44)] rfl ⟨I.K ho, r39, I.Kd k41 rfl, I.vi k41 (by omega) (by decide), r43, trivial⟩ ?_
        exact r_ret (v := some (.int (x44))) k_M_reconciled rfl trivial (Nat.le_of_ble_eq_true rfl) (Nat.le_of_ble_eq_true rfl) ⟨⟨_, rfl⟩, rfl⟩
      · have g45 := ft_nle (a := j) (b := n35) (by omega) (by omega) c37
        obtain ⟨a47, r46, k48, e49⟩ := I.get ho hE (56)
        have k48 : κ a47 = (82, 4) := k48
        obtain ⟨x51, r50⟩ := I.get k48 e49 ((nI j).toNatClampNeg)
        refine ft_run_ok k_M_reconciled 6 _ _ _ _ [.ref a47, .int (x51)] rfl ⟨I.K ho, r46, I.Kd k48 rfl, I.vi k48 (by omega) (by decide), r50, trivial⟩ ?_
        refine r_callV (as := [.int (nI k), .int (x51)]) (a := o) (ci := 11) (r := []) k_M_reconciled rfl z_M_hasOwn rfl (by decide) rfl (I.K ho) (Nat.le_of_ble_eq_true rfl) (Nat.le_of_ble_eq_true rfl) (Nat.le_of_ble_eq_true rfl) (Nat.le_of_ble_eq_true rfl) (t_M_hasOwn I ho hE (k := k) rfl (by omega)) ?_
        rintro v h' ⟨⟨n52, b53, rfl⟩, rfl⟩
        refine r_if k_M_reconciled rfl rfl (fun c54 => ?_) (fun c54 => ?_)
        · have g55 := ft_eq0 (a := n52) (by omega) c54
          refine ft_run_ok k_M_reconciled 2 _ _ _ _ [] rfl trivial ?_
          rw [show ((nI j) + nI 1) = nI (j + 1) from by simp only [nI_add, pk_mul]]
          exact sm_sub [1, 2, 0] rfl (ih56 (j + 1) (by omega) (by omega))
        · have g56 := ft_ne0 (a := n52) c54
          obtain ⟨a58, r57, k59, e60⟩ := I.get ho hE (56)
          have k59 : κ a58 = (82, 4) := k59
          obtain ⟨x62, r61⟩ := I.get k59 e60 ((nI j).toNatClampNeg)
          refine ft_run_ok k_M_reconciled 4 _ _ _ _ [.ref a58, .int (x62)] rfl ⟨I.K ho, r57, I.Kd k59 rfl, I.vi k59 (by omega) (by decide), r61, trivial⟩ ?_
          exact r_ret (v := some (.int (x62))) k_M_reconciled rfl trivial (Nat.le_of_ble_eq_true rfl) (Nat.le_of_ble_eq_true rfl) ⟨⟨_, rfl⟩, rfl⟩
  refine ft_run_ok k_M_reconciled 2 _ _ _ _ [] rfl trivial ?_
  refine r_icmp k_M_reconciled rfl rfl (fun c63 => ?_) (fun c63 => ?_)
  · have g64 := ft_neq (a := e) (b := 1) (by omega) (by omega) c63
    refine ft_run_ok k_M_reconciled 2 _ _ _ _ [] rfl trivial ?_
    exact sm_sub [1, 3, 0] rfl (L56 _ (0) (by omega) (Nat.lt_succ_self _))
  · have g65 := ft_nneq (a := e) (b := 1) (by omega) (by omega) c63
    refine ft_run_ok k_M_reconciled 2 _ _ _ _ [] rfl trivial ?_
    exact sm_sub [1, 3, 0] rfl (L7 _ (0) (by omega) (Nat.lt_succ_self _))
end M1
end
section
/-- the two numbers of a packet in the making: b bytes of options, m bytes in all -/
def P34 (P : Nat → Nat) (b m : Nat) : Nat → Nat := Pu (Pu P 4 b) 3 m
theorem P34_3 {P : Nat → Nat} {b m : Nat} : P34 P b m 3 = m := Pu_s
theorem P34_4 {P : Nat → Nat} {b m : Nat} : P34 P b m 4 = b := by unfold P34; rw [Pu_n (by decide), Pu_s]
theorem P34_n {P : Nat → Nat} {b m i : Nat} (h3 : i ≠ 3) (h4 : i ≠ 4) : P34 P b m i = P i := by unfold P34; rw [Pu_n h3, Pu_n h4]
theorem P34_u3 {P : Nat → Nat} {b m x : Nat} : Pu (P34 P b m) 3 x = P34 P b x := by
  funext i
  by_cases h : i = 3
  · subst h; rw [Pu_s, P34_3]
  · unfold P34; rw [Pu_n h, Pu_n h, Pu_n h]
theorem P34_u4 {P : Nat → Nat} {b m x : Nat} : Pu (P34 P b m) 4 x = P34 P x m := by
  funext i
  by_cases h : i = 4
  · subst h; rw [Pu_s, P34_4]
  · by_cases h3 : i = 3
    · subst h3; rw [Pu_n h, P34_3, P34_3]
    · rw [Pu_n h, P34_n h3 h, P34_n h3 h]
/-- but for these two the numbers are the same -/
def PS (P Q : Nat → Nat) : Prop := ∀ i, i ≠ 3 → i ≠ 4 → Q i = P i
theorem PS.rf {P : Nat → Nat} : PS P P := fun _ _ _ => rfl
theorem PS.tr {P Q R : Nat → Nat} (h1 : PS P Q) (h2 : PS Q R) : PS P R := fun i a b => (h2 i a b).trans (h1 i a b)
theorem PS.p34 {P : Nat → Nat} {b m : Nat} : PS P (P34 P b m) := fun _ a b => P34_n a b
section M2
variable {D : ft_G} {h : ft_H} {κ : Nat → Nat × Nat} {n : Nat} {E : Nat → Prop} {P : Nat → Nat}
theorem t_M_byteOf {o b m : Nat} {x : Int32} (I : Iv D κ n E (P34 P b m) h) (ho : κ o = (kd_M, 0)) (hE : ¬ E o) (hm : m < 256) : sm D y_M_byteOf 0 (lv_args 0 [.ref o, .int x]) [] h 0 0 (fun v h' => v = none ∧ Iv D κ n E (P34 P b (m + 1)) h') := by
  obtain ⟨a1, r1, k1, e1⟩ := I.get ho hE pl_M_made
  have k1 : κ a1 = (kd_M_made, 256) := k1
  have r2 : h.1 o pl_M_madeSize = .int (nI (P34 P b m 3)) := I.get ho hE pl_M_madeSize
  rw [P34_3] at r2
  obtain ⟨j, hj, ej⟩ := pk_andE x (m := nI 255) 8 (by decide)
  have I1 := I.set (k := (nI m).toNatClampNeg) (v := .int (x &&& nI 255)) k1 ⟨j, (show j ≤ 255 by omega), by rw [ej]⟩
  have r3 : (ft_set h a1 (nI m).toNatClampNeg (.int (x &&& nI 255))).1 o pl_M_madeSize = .int (nI (P34 P b m 3)) := I1.get ho hE pl_M_madeSize
  rw [P34_3] at r3
  have I2 := I1.upd 3 (m + 1) (I1.ok.pu (by decide)) ho (k := pl_M_madeSize) (by decide) (by decide) (by show Value.int (nI (m + 1)) = Value.int (nI (Pu (P34 P b m) 3 (m + 1) 3)); rw [Pu_s])
  rw [P34_u3] at I2
  refine ft_run_ok k_M_byteOf 14 _ _ _ _ [.ref a1, .int (nI m), .int (nI m)] rfl ⟨I.K ho, r1, I.K ho, r2, I.Kd k1 rfl, I.B k1, I.vi k1 hm (by decide), I1.K ho, r3, I1.K ho, I1.B ho, rfl, rfl, trivial⟩ ?_
  rw [show nI m + nI 1 = nI (m + 1) from nI_add m 1]
  exact r_ret (v := none) k_M_byteOf rfl trivial (Nat.le_refl 0) (Nat.le_refl 0) ⟨rfl, I2⟩
theorem t_M_fits {o b m e : Nat} {x_e : Int32} (I : Iv D κ n E (P34 P b m) h) (ho : κ o = (kd_M, 0)) (hE : ¬ E o) (q_e : x_e = nI e) (h_e : e < 1000) (hb : b ≤ 120) : sm D y_M_fits 0 (lv_args 0 [.ref o, .int x_e]) [] h 0 0 (fun v h' => (∃ c : Nat, c ≤ 1 ∧ v = some (.int (nI c)) ∧ (c = 1 → b + e ≤ 120)) ∧ h' = h) := by
  subst q_e
  have r2 : h.1 o pl_M_optionBytes = .int (nI (P34 P b m 4)) := I.get ho hE pl_M_optionBytes
  rw [P34_4] at r2
  refine ft_run_ok k_M_fits 5 _ _ _ _ [.int (nI b)] rfl ⟨I.K ho, r2, trivial⟩ ?_
  refine r_icmp k_M_fits rfl rfl (fun c1 => ?_) (fun c1 => ?_)
  · refine ft_run_ok k_M_fits 1 _ _ _ _ [] rfl trivial ?_
    exact r_ret (v := some (.int (nI 0))) k_M_fits rfl rfl (Nat.le_refl 0) (Nat.le_refl 0) ⟨⟨0, by omega, rfl, fun q => by omega⟩, rfl⟩
  · have g1 := ft_nlt (a := 120) (b := b + e) (by omega) (by omega) (by have q := c1; simp only [ft_cond2, nI_add] at q; exact q)
    refine ft_run_ok k_M_fits 2 _ _ _ _ [] rfl trivial ?_
    exact r_ret (v := some (.int (nI 1))) k_M_fits rfl rfl (Nat.le_refl 0) (Nat.le_refl 0) ⟨⟨1, by omega, rfl, fun _ => g1⟩, rfl⟩
theorem t_M_six {o b m : Nat} {x : Int64} (I : Iv D κ n E (P34 P b m) h) (ho : κ o = (kd_M, 0)) (hE : ¬ E o) (hm : m + 6 ≤ 256) : sm D y_M_six 0 (lv_args 0 [.ref o, .long x]) [] h 0 0 (fun v h' => v = none ∧ Iv D κ n E (P34 P b (m + 6)) h') := by
  have L : ∀ (c : Nat), c ≤ 6 → ∀ h : ft_H, Iv D κ n E (P34 P b (m + 6 - c)) h → sm D y_M_six 3 [(0, .ref o), (1, .long x), (3, .int (nI (8 * c) - nI 8))] [] h 0 0 (fun v h' => v = none ∧ Iv D κ n E (P34 P b (m + 6)) h') := by
    intro c
    induction c with
    | zero =>
      intro _ h I
      refine ft_run_ok k_M_six 1 _ _ _ _ [] rfl trivial ?_
      refine r_if k_M_six rfl rfl (fun c1 => ?_) (fun c1 => ?_)
      · exact r_ret (v := none) k_M_six rfl trivial (Nat.le_refl 0) (Nat.le_refl 0) ⟨rfl, I⟩
      · exact absurd (show nI (8 * 0) - nI 8 < 0 by decide) c1
    | succ c ih =>
      intro hc h I
      have e1 : nI (8 * (c + 1)) - nI 8 = nI (8 * c) := by rw [pk_sub (by omega)]; congr 1
      rw [e1]
      refine ft_run_ok k_M_six 1 _ _ _ _ [] rfl trivial ?_
      refine r_if k_M_six rfl rfl (fun c1 => ?_) (fun c1 => ?_)
      · exact absurd c1 (nI_pos (by omega))
      · refine ft_run_ok k_M_six 5 _ _ _ _ [] rfl trivial ?_
        refine r_callV (as := [.int ((x >>> ((nI (8 * c)).toInt64 &&& 63)).toInt32)]) (a := o) (ci := 11) (r := []) k_M_six rfl z_M_byteOf rfl (by decide) rfl (I.K ho) (Nat.le_of_ble_eq_true rfl) (Nat.le_of_ble_eq_true rfl) (Nat.le_of_ble_eq_true rfl) (Nat.le_of_ble_eq_true rfl) (t_M_byteOf I ho hE (by omega)) ?_
        rintro v h' ⟨rfl, I2⟩
        rw [show m + 6 - (c + 1) + 1 = m + 6 - c by omega] at I2
        refine ft_run_ok k_M_six 2 _ _ _ _ [] rfl trivial ?_
        rw [show nI (8 * c) + Int32.ofInt (Int.negSucc 7) = nI (8 * c) - nI 8 from by rw [Int32.sub_eq_add_neg]; rfl]
        exact sm_sub [1, 2, 0] rfl (ih (by omega) _ I2)
  refine ft_run_ok k_M_six 2 _ _ _ _ [] rfl trivial ?_
  refine sm_sub [1, 2, 0] ?_ (L 6 (by omega) _ (by rw [show m + 6 - 6 = m by omega]; exact I))
  rfl
theorem t_M_sixAt {o k : Nat} {x_k : Int32} (I : Iv D κ n E P h) (ho : κ o = (kd_M, 0)) (hE : ¬ E o) (q_k : x_k = nI k) (h_k : k < 250) : sm D y_M_sixAt 0 (lv_args 0 [.ref o, .int x_k]) [] h 0 0 (fun v h' => (∃ x : Nat, x < 281474976710656 ∧ v = some (.long (lN x))) ∧ h' = h) := by
  subst q_k
  obtain ⟨a1, r1, k1, e1⟩ := I.get ho hE pl_M_came
  have k1 : κ a1 = (kd_M_came, 256) := k1
  have L : ∀ (c j a : Nat), j + c = 6 → a < 256 ^ j → sm D y_M_sixAt 5 [(0, .ref o), (1, .int (nI k)), (2, .long (lN a)), (4, .int (nI j))] [] h 0 0 (fun v h' => (∃ x : Nat, x < 281474976710656 ∧ v = some (.long (lN x))) ∧ h' = h) := by
    intro c
    induction c with
    | zero =>
      intro j a hj ha
      have hj : j = 6 := by omega
      subst hj
      refine ft_run_ok k_M_sixAt 2 _ _ _ _ [] rfl trivial ?_
      refine r_icmp k_M_sixAt rfl rfl (fun c1 => ?_) (fun c1 => ?_)
      · refine ft_run_ok k_M_sixAt 1 _ _ _ _ [] rfl trivial ?_
        exact r_ret (v := some (.long (lN a))) k_M_sixAt rfl trivial (Nat.le_refl 0) (Nat.le_refl 0) ⟨⟨a, ha, rfl⟩, rfl⟩
      · exact absurd (show nI 6 ≤ nI 6 by decide) c1
    | succ c ih =>
      intro j a hj ha
      have hb : a < 256 ^ 5 := Nat.lt_of_lt_of_le ha (Nat.pow_le_pow_right (by decide) (by omega))
      have hb : a < 1099511627776 := hb
      refine ft_run_ok k_M_sixAt 2 _ _ _ _ [] rfl trivial ?_
      refine r_icmp k_M_sixAt rfl rfl (fun c1 => ?_) (fun c1 => ?_)
      · exact absurd (ft_le (a := 6) (b := j) (by omega) (by omega) c1) (by omega)
      · obtain ⟨x, hx, r2⟩ := I.came k1 e1 ((nI k + nI j).toNatClampNeg)
        refine ft_run_ok k_M_sixAt 14 _ _ _ _ [.ref a1, .int (nI x)] rfl ⟨I.K ho, r1, I.Kd k1 rfl, (by simp only [nI_add]; exact I.vi k1 (by omega) (by decide)), r2, trivial⟩ ?_
        rw [ft_shl8 (by omega) (by omega), show nI j + nI 1 = nI (j + 1) from nI_add j 1]
        exact sm_sub [2, 3, 1, 0] rfl (ih (j + 1) (a * 256 + x) (by omega) (by rw [Nat.pow_succ]; omega))
  refine ft_run_ok k_M_sixAt 4 _ _ _ _ [] rfl trivial ?_
  exact sm_sub [2, 3, 1, 0] rfl (L 6 0 0 rfl (by decide))
end M2
end
section
section M3
variable {D : ft_G} {h : ft_H} {κ : Nat → Nat × Nat} {n : Nat} {E : Nat → Prop} {P : Nat → Nat}
set_option maxRecDepth 100000 in
theorem t_M_meet {o : Nat} {e : Nat} {x_e : Int32} {x : Nat} (I : Iv D κ n E P h) (ho : κ o = (kd_M, 0)) (hE : ¬ E o) (q_e : x_e = nI e) (h_e : e < 2) (h_x : x < 281474976710656) : sm D y_M_meet 0 (lv_args 0 [.ref o, .int x_e, .long (lN x)]) [] h 0 0 (fun v h' => (v = none) ∧ Iv D κ n E P h') := by
  subst q_e
  have L35 : ∀ (t35 : Nat) (k : Nat), 256 * e ≤ k ∧ k ≤ 256 * e + 256 → 256 * e + 256 - k < t35 → ∀ h : ft_H, Iv D κ n E P h → sm D y_M_meet 35 [(0, .ref o), (1, .int (nI e)), (2, .long (lN x)), (4, .int (nI k))] [] h 0 0 (fun v h' => (v = none) ∧ Iv D κ n E P h') := by
    intro t35
    induction t35 with
    | zero => intro k f35_0 ht35; exact absurd ht35 (Nat.not_lt_zero _)
    | succ t35 ih35 =>
      intro k f35_0 ht35 h I
      refine ft_run_ok k_M_meet 6 _ _ _ _ [] rfl trivial ?_
      refine r_icmp k_M_meet rfl rfl (fun c1 => ?_) (fun c1 => ?_)
      · have g2 := ft_le (a := ((256) * (e)) + (256)) (b := k) (by omega) (by omega) (by have q := c1; simp only [ft_cond2, nI_add, pk_mul] at q; exact q)
        obtain ⟨a4, r3, k5, e6⟩ := I.get ho hE (16)
        have k5 : κ a4 = (42, 512) := k5
        refine ft_run_ok k_M_meet 4 _ _ _ _ [.ref a4] rfl ⟨I.K ho, r3, trivial⟩ ?_
        refine r_callS (as := [.int (nI e), .long (lN x)]) (r := [.ref a4]) k_M_meet rfl z_M_at rfl (Nat.le_of_ble_eq_true rfl) (Nat.le_of_ble_eq_true rfl) (Nat.le_of_ble_eq_true rfl) (Nat.le_of_ble_eq_true rfl) (t_M_at (e := e) rfl (by omega)) ?_
        rintro v h' ⟨⟨n7, b8, rfl⟩, rfl⟩
        have I9 := I.set (k := (nI n7).toNatClampNeg) (v := narrow .boolean (.int (nI 1))) k5 ⟨_, rfl⟩
        refine ft_run_ok k_M_meet 2 _ _ _ _ [] rfl ⟨I.Kd k5 rfl, I.B k5, I.vi k5 (by omega) (by decide), trivial⟩ ?_
        exact r_ret (v := none) k_M_meet rfl trivial (Nat.le_of_ble_eq_true rfl) (Nat.le_of_ble_eq_true rfl) ⟨rfl, I9⟩
      · have g10 := ft_nle (a := k) (b := ((256) * (e)) + (256)) (by omega) (by omega) (by have q := c1; simp only [ft_cond2, nI_add, pk_mul] at q; exact q)
        obtain ⟨a12, r11, k13, e14⟩ := I.get ho hE (16)
        have k13 : κ a12 = (42, 512) := k13
        have I15 := I.set (k := (nI k).toNatClampNeg) (v := narrow .boolean (.int (nI 0))) k13 ⟨_, rfl⟩
        refine ft_run_ok k_M_meet 7 _ _ _ _ [.ref a12] rfl ⟨I.K ho, r11, I.Kd k13 rfl, I.B k13, I.vi k13 (by omega) (by decide), trivial⟩ ?_
        rw [show ((nI k) + nI 1) = nI (k + 1) from by simp only [nI_add, pk_mul]]
        exact sm_sub [1, 2, 3, 0] rfl (ih35 (k + 1) (by omega) (by omega) _ I15)
  obtain ⟨a17, r16, k18, e19⟩ := I.get ho hE (12)
  have k18 : κ a17 = (38, 2) := k18
  have I20 := I.set (k := (nI e).toNatClampNeg) (v := narrow .boolean (.int (nI 1))) k18 ⟨_, rfl⟩
  obtain ⟨a22, r21, k23, e24⟩ := I20.get ho hE (13)
  have k23 : κ a22 = (39, 2) := k23
  have I25 := I20.set (k := (nI e).toNatClampNeg) (v := .long (lN x)) k23 ⟨x, (show x < 281474976710656 by omega), rfl⟩
  obtain ⟨a27, r26, k28, e29⟩ := I25.get ho hE (14)
  have k28 : κ a27 = (40, 2) := k28
  have I30 := I25.set (k := (nI e).toNatClampNeg) (v := .long (lN x)) k28 ⟨_, rfl⟩
  obtain ⟨a32, r31, k33, e34⟩ := I30.get ho hE (15)
  have k33 : κ a32 = (41, 2) := k33
  have I35 := I30.set (k := (nI e).toNatClampNeg) (v := .long (lN x)) k33 ⟨_, rfl⟩
  refine ft_run_ok k_M_meet 24 _ _ _ _ [.ref a17, .ref a22, .ref a27, .ref a32] rfl ⟨I.K ho, r16, I.Kd k18 rfl, I.B k18, I.vi k18 (by omega) (by decide), I20.K ho, r21, I20.Kd k23 rfl, I20.B k23, I20.vi k23 (by omega) (by decide), I25.K ho, r26, I25.Kd k28 rfl, I25.B k28, I25.vi k28 (by omega) (by decide), I30.K ho, r31, I30.Kd k33 rfl, I30.B k33, I30.vi k33 (by omega) (by decide), trivial⟩ ?_
  rw [show ((nI 256) * (nI e)) = nI ((256) * (e)) from by simp only [nI_add, pk_mul]]
  exact sm_sub [1, 2, 3, 0] rfl (L35 _ ((256) * (e)) (by omega) (Nat.lt_succ_self _) _ I35)
set_option maxRecDepth 100000 in
theorem t_M_isGot {o : Nat} {e : Nat} {x_e : Int32} {x : Int64} (I : Iv D κ n E P h) (ho : κ o = (kd_M, 0)) (hE : ¬ E o) (q_e : x_e = nI e) (h_e : e < 2) : sm D y_M_isGot 0 (lv_args 0 [.ref o, .int x_e, .long x]) [] h 0 0 (fun v h' => (v = none) ∧ Iv D κ n E P h') := by
  subst q_e
  refine ft_run_ok k_M_isGot 2 _ _ _ _ [] rfl trivial ?_
  refine r_callS (as := [.int (nI e), .long (x)]) (r := []) k_M_isGot rfl z_M_at rfl (Nat.le_of_ble_eq_true rfl) (Nat.le_of_ble_eq_true rfl) (Nat.le_of_ble_eq_true rfl) (Nat.le_of_ble_eq_true rfl) (t_M_at (e := e) rfl (by omega)) ?_
  rintro v h' ⟨⟨n1, b2, rfl⟩, rfl⟩
  obtain ⟨a4, r3, k5, e6⟩ := I.get ho hE (18)
  have k5 : κ a4 = (44, 512) := k5
  obtain ⟨x8, r7⟩ := I.get k5 e6 ((nI n1).toNatClampNeg)
  refine ft_run_ok k_M_isGot 5 _ _ _ _ [.ref a4, .int (x8)] rfl ⟨I.K ho, r3, I.Kd k5 rfl, I.vi k5 (by omega) (by decide), r7, trivial⟩ ?_
  refine r_if k_M_isGot rfl rfl (fun c9 => ?_) (fun c9 => ?_)
  · obtain ⟨a12, r11, k13, e14⟩ := I.get ho hE (17)
    have k13 : κ a12 = (43, 512) := k13
    obtain ⟨x16, r15⟩ := I.get k13 e14 ((nI n1).toNatClampNeg)
    refine ft_run_ok k_M_isGot 5 _ _ _ _ [.ref a12, .int (x16)] rfl ⟨I.K ho, r11, I.Kd k13 rfl, I.vi k13 (by omega) (by decide), r15, trivial⟩ ?_
    refine r_icmp k_M_isGot rfl rfl (fun c17 => ?_) (fun c17 => ?_)
    · obtain ⟨a20, r19, k21, e22⟩ := I.get ho hE (17)
      have k21 : κ a20 = (43, 512) := k21
      obtain ⟨x24, r23⟩ := I.get k21 e22 ((nI n1).toNatClampNeg)
      refine ft_run_ok k_M_isGot 5 _ _ _ _ [.ref a20, .int (x24)] rfl ⟨I.K ho, r19, I.Kd k21 rfl, I.vi k21 (by omega) (by decide), r23, trivial⟩ ?_
      refine r_icmp k_M_isGot rfl rfl (fun c25 => ?_) (fun c25 => ?_)
      · exact r_ret (v := none) k_M_isGot rfl trivial (Nat.le_of_ble_eq_true rfl) (Nat.le_of_ble_eq_true rfl) ⟨rfl, I⟩
      · obtain ⟨a29, r28, k30, e31⟩ := I.get ho hE (17)
        have k30 : κ a29 = (43, 512) := k30
        have I32 := I.set (k := (nI n1).toNatClampNeg) (v := .int (nI 2)) k30 ⟨_, rfl⟩
        obtain ⟨a34, r33, k35, e36⟩ := I32.get ho hE (34)
        have k35 : κ a34 = (60, 2) := k35
        obtain ⟨x38, r37⟩ := I32.get k35 e36 ((nI e).toNatClampNeg)
        obtain ⟨a40, r39, k41, e42⟩ := I32.get ho hE (35)
        have k41 : κ a40 = (61, 2) := k41
        obtain ⟨x44, r43⟩ := I32.get k41 e42 ((nI e).toNatClampNeg)
        refine ft_run_ok k_M_isGot 13 _ _ _ _ [.ref a29, .ref a34, .int (x38), .ref a40, .int (x44)] rfl ⟨I.K ho, r28, I.Kd k30 rfl, I.B k30, I.vi k30 (by omega) (by decide), I32.K ho, r33, I32.Kd k35 rfl, I32.vi k35 (by omega) (by decide), r37, I32.K ho, r39, I32.Kd k41 rfl, I32.vi k41 (by omega) (by decide), r43, trivial⟩ ?_
        refine r_icmp k_M_isGot rfl rfl (fun c45 => ?_) (fun c45 => ?_)
        · obtain ⟨a48, r47, k49, e50⟩ := I32.get ho hE (37)
          have k49 : κ a48 = (63, 2) := k49
          obtain ⟨x52, r51⟩ := I32.get k49 e50 ((nI e).toNatClampNeg)
          have I53 := I32.set (k := (nI e).toNatClampNeg) (v := .int ((x52) + (nI 1))) k49 ⟨_, rfl⟩
          obtain ⟨a55, r54, k56, e57⟩ := I53.get ho hE (37)
          have k56 : κ a55 = (63, 2) := k56
          obtain ⟨x59, r58⟩ := I53.get k56 e57 ((nI e).toNatClampNeg)
          obtain ⟨a61, r60, k62, e63⟩ := I53.get ho hE (34)
          have k62 : κ a61 = (60, 2) := k62
          obtain ⟨x65, r64⟩ := I53.get k62 e63 ((nI e).toNatClampNeg)
          refine ft_run_ok k_M_isGot 16 _ _ _ _ [.ref a48, .int (x52), .ref a55, .int (x59), .ref a61, .int (x65)] rfl ⟨I32.K ho, r47, I32.Kd k49 rfl, I32.vi k49 (by omega) (by decide), r51, I32.Kd k49 rfl, I32.B k49, I32.vi k49 (by omega) (by decide), I53.K ho, r54, I53.Kd k56 rfl, I53.vi k56 (by omega) (by decide), r58, I53.K ho, r60, I53.Kd k62 rfl, I53.vi k62 (by omega) (by decide), r64, trivial⟩ ?_
          refine r_icmp k_M_isGot rfl rfl (fun c66 => ?_) (fun c66 => ?_)
          · obtain ⟨a69, r68, k70, e71⟩ := I53.get ho hE (34)
            have k70 : κ a69 = (60, 2) := k70
            obtain ⟨a73, r72, k74, e75⟩ := I53.get ho hE (34)
            have k74 : κ a73 = (60, 2) := k74
            obtain ⟨x77, r76⟩ := I53.get k74 e75 ((nI e).toNatClampNeg)
            refine ft_run_ok k_M_isGot 8 _ _ _ _ [.ref a69, .ref a73, .int (x77)] rfl ⟨I53.K ho, r68, I53.K ho, r72, I53.Kd k74 rfl, I53.vi k74 (by omega) (by decide), r76, trivial⟩ ?_
            refine r_icmp k_M_isGot rfl rfl (fun c78 => ?_) (fun c78 => ?_)
            · obtain ⟨a81, r80, k82, e83⟩ := I53.get ho hE (34)
              have k82 : κ a81 = (60, 2) := k82
              obtain ⟨x85, r84⟩ := I53.get k82 e83 ((nI e).toNatClampNeg)
              have I86 := I53.set (k := (nI e).toNatClampNeg) (v := .int (x85)) k70 ⟨_, rfl⟩
              obtain ⟨a88, r87, k89, e90⟩ := I86.get ho hE (36)
              have k89 : κ a88 = (62, 2) := k89
              have I91 := I86.set (k := (nI e).toNatClampNeg) (v := .int (nI 8)) k89 ⟨_, rfl⟩
              obtain ⟨a93, r92, k94, e95⟩ := I91.get ho hE (40)
              have k94 : κ a93 = (66, 2) := k94
              have r96 := I91.get ho hE (1)
              have I97 := I91.set (k := (nI e).toNatClampNeg) (v := .int (nI (P 1))) k94 ⟨_, rfl⟩
              refine ft_run_ok k_M_isGot 16 _ _ _ _ [.ref a81, .int (x85), .ref a88, .ref a93, .int (nI (P 1))] rfl ⟨I53.K ho, r80, I53.Kd k82 rfl, I53.vi k82 (by omega) (by decide), r84, I53.Kd k70 rfl, I53.B k70, I53.vi k70 (by omega) (by decide), I86.K ho, r87, I86.Kd k89 rfl, I86.B k89, I86.vi k89 (by omega) (by decide), I91.K ho, r92, I91.K ho, r96, I91.Kd k94 rfl, I91.B k94, I91.vi k94 (by omega) (by decide), trivial⟩ ?_
              exact r_ret (v := none) k_M_isGot rfl trivial (Nat.le_of_ble_eq_true rfl) (Nat.le_of_ble_eq_true rfl) ⟨rfl, I97⟩
            · have I99 := I53.set (k := (nI e).toNatClampNeg) (v := .int (nI 60)) k70 ⟨_, rfl⟩
              obtain ⟨a101, r100, k102, e103⟩ := I99.get ho hE (36)
              have k102 : κ a101 = (62, 2) := k102
              have I104 := I99.set (k := (nI e).toNatClampNeg) (v := .int (nI 8)) k102 ⟨_, rfl⟩
              obtain ⟨a106, r105, k107, e108⟩ := I104.get ho hE (40)
              have k107 : κ a106 = (66, 2) := k107
              have r109 := I104.get ho hE (1)
              have I110 := I104.set (k := (nI e).toNatClampNeg) (v := .int (nI (P 1))) k107 ⟨_, rfl⟩
              refine ft_run_ok k_M_isGot 14 _ _ _ _ [.ref a101, .ref a106, .int (nI (P 1))] rfl ⟨I53.Kd k70 rfl, I53.B k70, I53.vi k70 (by omega) (by decide), I99.K ho, r100, I99.Kd k102 rfl, I99.B k102, I99.vi k102 (by omega) (by decide), I104.K ho, r105, I104.K ho, r109, I104.Kd k107 rfl, I104.B k107, I104.vi k107 (by omega) (by decide), trivial⟩ ?_
              exact r_ret (v := none) k_M_isGot rfl trivial (Nat.le_of_ble_eq_true rfl) (Nat.le_of_ble_eq_true rfl) ⟨rfl, I110⟩
          · obtain ⟨a113, r112, k114, e115⟩ := I53.get ho hE (34)
            have k114 : κ a113 = (60, 2) := k114
            obtain ⟨x117, r116⟩ := I53.get k114 e115 ((nI e).toNatClampNeg)
            have I118 := I53.set (k := (nI e).toNatClampNeg) (v := .int ((x117) + (nI 1))) k114 ⟨_, rfl⟩
            obtain ⟨a120, r119, k121, e122⟩ := I118.get ho hE (37)
            have k121 : κ a120 = (63, 2) := k121
            have I123 := I118.set (k := (nI e).toNatClampNeg) (v := .int (nI 0)) k121 ⟨_, rfl⟩
            obtain ⟨a125, r124, k126, e127⟩ := I123.get ho hE (34)
            have k126 : κ a125 = (60, 2) := k126
            obtain ⟨a129, r128, k130, e131⟩ := I123.get ho hE (34)
            have k130 : κ a129 = (60, 2) := k130
            obtain ⟨x133, r132⟩ := I123.get k130 e131 ((nI e).toNatClampNeg)
            refine ft_run_ok k_M_isGot 21 _ _ _ _ [.ref a113, .int (x117), .ref a120, .ref a125, .ref a129, .int (x133)] rfl ⟨I53.K ho, r112, I53.Kd k114 rfl, I53.vi k114 (by omega) (by decide), r116, I53.Kd k114 rfl, I53.B k114, I53.vi k114 (by omega) (by decide), I118.K ho, r119, I118.Kd k121 rfl, I118.B k121, I118.vi k121 (by omega) (by decide), I123.K ho, r124, I123.K ho, r128, I123.Kd k130 rfl, I123.vi k130 (by omega) (by decide), r132, trivial⟩ ?_
            refine r_icmp k_M_isGot rfl rfl (fun c134 => ?_) (fun c134 => ?_)
            · obtain ⟨a137, r136, k138, e139⟩ := I123.get ho hE (34)
              have k138 : κ a137 = (60, 2) := k138
              obtain ⟨x141, r140⟩ := I123.get k138 e139 ((nI e).toNatClampNeg)
              have I142 := I123.set (k := (nI e).toNatClampNeg) (v := .int (x141)) k126 ⟨_, rfl⟩
              obtain ⟨a144, r143, k145, e146⟩ := I142.get ho hE (36)
              have k145 : κ a144 = (62, 2) := k145
              have I147 := I142.set (k := (nI e).toNatClampNeg) (v := .int (nI 8)) k145 ⟨_, rfl⟩
              obtain ⟨a149, r148, k150, e151⟩ := I147.get ho hE (40)
              have k150 : κ a149 = (66, 2) := k150
              have r152 := I147.get ho hE (1)
              have I153 := I147.set (k := (nI e).toNatClampNeg) (v := .int (nI (P 1))) k150 ⟨_, rfl⟩
              refine ft_run_ok k_M_isGot 16 _ _ _ _ [.ref a137, .int (x141), .ref a144, .ref a149, .int (nI (P 1))] rfl ⟨I123.K ho, r136, I123.Kd k138 rfl, I123.vi k138 (by omega) (by decide), r140, I123.Kd k126 rfl, I123.B k126, I123.vi k126 (by omega) (by decide), I142.K ho, r143, I142.Kd k145 rfl, I142.B k145, I142.vi k145 (by omega) (by decide), I147.K ho, r148, I147.K ho, r152, I147.Kd k150 rfl, I147.B k150, I147.vi k150 (by omega) (by decide), trivial⟩ ?_
              exact r_ret (v := none) k_M_isGot rfl trivial (Nat.le_of_ble_eq_true rfl) (Nat.le_of_ble_eq_true rfl) ⟨rfl, I153⟩
            · have I155 := I123.set (k := (nI e).toNatClampNeg) (v := .int (nI 60)) k126 ⟨_, rfl⟩
              obtain ⟨a157, r156, k158, e159⟩ := I155.get ho hE (36)
              have k158 : κ a157 = (62, 2) := k158
              have I160 := I155.set (k := (nI e).toNatClampNeg) (v := .int (nI 8)) k158 ⟨_, rfl⟩
              obtain ⟨a162, r161, k163, e164⟩ := I160.get ho hE (40)
              have k163 : κ a162 = (66, 2) := k163
              have r165 := I160.get ho hE (1)
              have I166 := I160.set (k := (nI e).toNatClampNeg) (v := .int (nI (P 1))) k163 ⟨_, rfl⟩
              refine ft_run_ok k_M_isGot 14 _ _ _ _ [.ref a157, .ref a162, .int (nI (P 1))] rfl ⟨I123.Kd k126 rfl, I123.B k126, I123.vi k126 (by omega) (by decide), I155.K ho, r156, I155.Kd k158 rfl, I155.B k158, I155.vi k158 (by omega) (by decide), I160.K ho, r161, I160.K ho, r165, I160.Kd k163 rfl, I160.B k163, I160.vi k163 (by omega) (by decide), trivial⟩ ?_
              exact r_ret (v := none) k_M_isGot rfl trivial (Nat.le_of_ble_eq_true rfl) (Nat.le_of_ble_eq_true rfl) ⟨rfl, I166⟩
        · obtain ⟨a169, r168, k170, e171⟩ := I32.get ho hE (34)
          have k170 : κ a169 = (60, 2) := k170
          obtain ⟨x173, r172⟩ := I32.get k170 e171 ((nI e).toNatClampNeg)
          have I174 := I32.set (k := (nI e).toNatClampNeg) (v := .int ((x173) + (nI 1))) k170 ⟨_, rfl⟩
          obtain ⟨a176, r175, k177, e178⟩ := I174.get ho hE (34)
          have k177 : κ a176 = (60, 2) := k177
          obtain ⟨a180, r179, k181, e182⟩ := I174.get ho hE (34)
          have k181 : κ a180 = (60, 2) := k181
          obtain ⟨x184, r183⟩ := I174.get k181 e182 ((nI e).toNatClampNeg)
          refine ft_run_ok k_M_isGot 17 _ _ _ _ [.ref a169, .int (x173), .ref a176, .ref a180, .int (x184)] rfl ⟨I32.K ho, r168, I32.Kd k170 rfl, I32.vi k170 (by omega) (by decide), r172, I32.Kd k170 rfl, I32.B k170, I32.vi k170 (by omega) (by decide), I174.K ho, r175, I174.K ho, r179, I174.Kd k181 rfl, I174.vi k181 (by omega) (by decide), r183, trivial⟩ ?_
          refine r_icmp k_M_isGot rfl rfl (fun c185 => ?_) (fun c185 => ?_)
          · obtain ⟨a188, r187, k189, e190⟩ := I174.get ho hE (34)
            have k189 : κ a188 = (60, 2) := k189
            obtain ⟨x192, r191⟩ := I174.get k189 e190 ((nI e).toNatClampNeg)
            have I193 := I174.set (k := (nI e).toNatClampNeg) (v := .int (x192)) k177 ⟨_, rfl⟩
            obtain ⟨a195, r194, k196, e197⟩ := I193.get ho hE (36)
            have k196 : κ a195 = (62, 2) := k196
            have I198 := I193.set (k := (nI e).toNatClampNeg) (v := .int (nI 8)) k196 ⟨_, rfl⟩
            obtain ⟨a200, r199, k201, e202⟩ := I198.get ho hE (40)
            have k201 : κ a200 = (66, 2) := k201
            have r203 := I198.get ho hE (1)
            have I204 := I198.set (k := (nI e).toNatClampNeg) (v := .int (nI (P 1))) k201 ⟨_, rfl⟩
            refine ft_run_ok k_M_isGot 16 _ _ _ _ [.ref a188, .int (x192), .ref a195, .ref a200, .int (nI (P 1))] rfl ⟨I174.K ho, r187, I174.Kd k189 rfl, I174.vi k189 (by omega) (by decide), r191, I174.Kd k177 rfl, I174.B k177, I174.vi k177 (by omega) (by decide), I193.K ho, r194, I193.Kd k196 rfl, I193.B k196, I193.vi k196 (by omega) (by decide), I198.K ho, r199, I198.K ho, r203, I198.Kd k201 rfl, I198.B k201, I198.vi k201 (by omega) (by decide), trivial⟩ ?_
            exact r_ret (v := none) k_M_isGot rfl trivial (Nat.le_of_ble_eq_true rfl) (Nat.le_of_ble_eq_true rfl) ⟨rfl, I204⟩
          · have I206 := I174.set (k := (nI e).toNatClampNeg) (v := .int (nI 60)) k177 ⟨_, rfl⟩
            obtain ⟨a208, r207, k209, e210⟩ := I206.get ho hE (36)
            have k209 : κ a208 = (62, 2) := k209
            have I211 := I206.set (k := (nI e).toNatClampNeg) (v := .int (nI 8)) k209 ⟨_, rfl⟩
            obtain ⟨a213, r212, k214, e215⟩ := I211.get ho hE (40)
            have k214 : κ a213 = (66, 2) := k214
            have r216 := I211.get ho hE (1)
            have I217 := I211.set (k := (nI e).toNatClampNeg) (v := .int (nI (P 1))) k214 ⟨_, rfl⟩
            refine ft_run_ok k_M_isGot 14 _ _ _ _ [.ref a208, .ref a213, .int (nI (P 1))] rfl ⟨I174.Kd k177 rfl, I174.B k177, I174.vi k177 (by omega) (by decide), I206.K ho, r207, I206.Kd k209 rfl, I206.B k209, I206.vi k209 (by omega) (by decide), I211.K ho, r212, I211.K ho, r216, I211.Kd k214 rfl, I211.B k214, I211.vi k214 (by omega) (by decide), trivial⟩ ?_
            exact r_ret (v := none) k_M_isGot rfl trivial (Nat.le_of_ble_eq_true rfl) (Nat.le_of_ble_eq_true rfl) ⟨rfl, I217⟩
    · obtain ⟨a220, r219, k221, e222⟩ := I.get ho hE (17)
      have k221 : κ a220 = (43, 512) := k221
      have I223 := I.set (k := (nI n1).toNatClampNeg) (v := .int (nI 2)) k221 ⟨_, rfl⟩
      refine ft_run_ok k_M_isGot 6 _ _ _ _ [.ref a220] rfl ⟨I.K ho, r219, I.Kd k221 rfl, I.B k221, I.vi k221 (by omega) (by decide), trivial⟩ ?_
      exact r_ret (v := none) k_M_isGot rfl trivial (Nat.le_of_ble_eq_true rfl) (Nat.le_of_ble_eq_true rfl) ⟨rfl, I223⟩
  · obtain ⟨a226, r225, k227, e228⟩ := I.get ho hE (19)
    have k227 : κ a226 = (45, 512) := k227
    obtain ⟨x230, r229⟩ := I.get k227 e228 ((nI n1).toNatClampNeg)
    refine ft_run_ok k_M_isGot 6 _ _ _ _ [.ref a226, .long (x230)] rfl ⟨I.K ho, r225, I.Kd k227 rfl, I.vi k227 (by omega) (by decide), r229, trivial⟩ ?_
    refine r_callS (as := [.long ((x230) + (lN 1))]) (r := []) k_M_isGot rfl z_M_around rfl (Nat.le_of_ble_eq_true rfl) (Nat.le_of_ble_eq_true rfl) (Nat.le_of_ble_eq_true rfl) (Nat.le_of_ble_eq_true rfl) (t_M_around) ?_
    rintro v h' ⟨⟨n231, b232, rfl⟩, rfl⟩
    obtain ⟨a234, r233, k235, e236⟩ := I.get ho hE (15)
    have k235 : κ a234 = (41, 2) := k235
    obtain ⟨x238, r237⟩ := I.get k235 e236 ((nI e).toNatClampNeg)
    refine ft_run_ok k_M_isGot 4 _ _ _ _ [.ref a234, .long (x238)] rfl ⟨I.K ho, r233, I.Kd k235 rfl, I.vi k235 (by omega) (by decide), r237, trivial⟩ ?_
    refine r_callS (as := [.long (lN n231), .long (x238)]) (r := []) k_M_isGot rfl z_M_after rfl (Nat.le_of_ble_eq_true rfl) (Nat.le_of_ble_eq_true rfl) (Nat.le_of_ble_eq_true rfl) (Nat.le_of_ble_eq_true rfl) (t_M_after) ?_
    rintro v h' ⟨⟨n239, b240, rfl⟩, rfl⟩
    refine r_if k_M_isGot rfl rfl (fun c241 => ?_) (fun c241 => ?_)
    · have g242 := ft_eq0 (a := n239) (by omega) c241
      obtain ⟨a244, r243, k245, e246⟩ := I.get ho hE (17)
      have k245 : κ a244 = (43, 512) := k245
      obtain ⟨x248, r247⟩ := I.get k245 e246 ((nI n1).toNatClampNeg)
      refine ft_run_ok k_M_isGot 5 _ _ _ _ [.ref a244, .int (x248)] rfl ⟨I.K ho, r243, I.Kd k245 rfl, I.vi k245 (by omega) (by decide), r247, trivial⟩ ?_
      refine r_icmp k_M_isGot rfl rfl (fun c249 => ?_) (fun c249 => ?_)
      · obtain ⟨a252, r251, k253, e254⟩ := I.get ho hE (17)
        have k253 : κ a252 = (43, 512) := k253
        obtain ⟨x256, r255⟩ := I.get k253 e254 ((nI n1).toNatClampNeg)
        refine ft_run_ok k_M_isGot 5 _ _ _ _ [.ref a252, .int (x256)] rfl ⟨I.K ho, r251, I.Kd k253 rfl, I.vi k253 (by omega) (by decide), r255, trivial⟩ ?_
        refine r_icmp k_M_isGot rfl rfl (fun c257 => ?_) (fun c257 => ?_)
        · exact r_ret (v := none) k_M_isGot rfl trivial (Nat.le_of_ble_eq_true rfl) (Nat.le_of_ble_eq_true rfl) ⟨rfl, I⟩
        · obtain ⟨a261, r260, k262, e263⟩ := I.get ho hE (17)
          have k262 : κ a261 = (43, 512) := k262
          have I264 := I.set (k := (nI n1).toNatClampNeg) (v := .int (nI 2)) k262 ⟨_, rfl⟩
          obtain ⟨a266, r265, k267, e268⟩ := I264.get ho hE (34)
          have k267 : κ a266 = (60, 2) := k267
          obtain ⟨x270, r269⟩ := I264.get k267 e268 ((nI e).toNatClampNeg)
          obtain ⟨a272, r271, k273, e274⟩ := I264.get ho hE (35)
          have k273 : κ a272 = (61, 2) := k273
          obtain ⟨x276, r275⟩ := I264.get k273 e274 ((nI e).toNatClampNeg)
          refine ft_run_ok k_M_isGot 13 _ _ _ _ [.ref a261, .ref a266, .int (x270), .ref a272, .int (x276)] rfl ⟨I.K ho, r260, I.Kd k262 rfl, I.B k262, I.vi k262 (by omega) (by decide), I264.K ho, r265, I264.Kd k267 rfl, I264.vi k267 (by omega) (by decide), r269, I264.K ho, r271, I264.Kd k273 rfl, I264.vi k273 (by omega) (by decide), r275, trivial⟩ ?_
          refine r_icmp k_M_isGot rfl rfl (fun c277 => ?_) (fun c277 => ?_)
          · obtain ⟨a280, r279, k281, e282⟩ := I264.get ho hE (37)
            have k281 : κ a280 = (63, 2) := k281
            obtain ⟨x284, r283⟩ := I264.get k281 e282 ((nI e).toNatClampNeg)
            have I285 := I264.set (k := (nI e).toNatClampNeg) (v := .int ((x284) + (nI 1))) k281 ⟨_, rfl⟩
            obtain ⟨a287, r286, k288, e289⟩ := I285.get ho hE (37)
            have k288 : κ a287 = (63, 2) := k288
            obtain ⟨x291, r290⟩ := I285.get k288 e289 ((nI e).toNatClampNeg)
            obtain ⟨a293, r292, k294, e295⟩ := I285.get ho hE (34)
            have k294 : κ a293 = (60, 2) := k294
            obtain ⟨x297, r296⟩ := I285.get k294 e295 ((nI e).toNatClampNeg)
            refine ft_run_ok k_M_isGot 16 _ _ _ _ [.ref a280, .int (x284), .ref a287, .int (x291), .ref a293, .int (x297)] rfl ⟨I264.K ho, r279, I264.Kd k281 rfl, I264.vi k281 (by omega) (by decide), r283, I264.Kd k281 rfl, I264.B k281, I264.vi k281 (by omega) (by decide), I285.K ho, r286, I285.Kd k288 rfl, I285.vi k288 (by omega) (by decide), r290, I285.K ho, r292, I285.Kd k294 rfl, I285.vi k294 (by omega) (by decide), r296, trivial⟩ ?_
            refine r_icmp k_M_isGot rfl rfl (fun c298 => ?_) (fun c298 => ?_)
            · obtain ⟨a301, r300, k302, e303⟩ := I285.get ho hE (34)
              have k302 : κ a301 = (60, 2) := k302
              obtain ⟨a305, r304, k306, e307⟩ := I285.get ho hE (34)
              have k306 : κ a305 = (60, 2) := k306
              obtain ⟨x309, r308⟩ := I285.get k306 e307 ((nI e).toNatClampNeg)
              refine ft_run_ok k_M_isGot 8 _ _ _ _ [.ref a301, .ref a305, .int (x309)] rfl ⟨I285.K ho, r300, I285.K ho, r304, I285.Kd k306 rfl, I285.vi k306 (by omega) (by decide), r308, trivial⟩ ?_
              refine r_icmp k_M_isGot rfl rfl (fun c310 => ?_) (fun c310 => ?_)
              · obtain ⟨a313, r312, k314, e315⟩ := I285.get ho hE (34)
                have k314 : κ a313 = (60, 2) := k314
                obtain ⟨x317, r316⟩ := I285.get k314 e315 ((nI e).toNatClampNeg)
                have I318 := I285.set (k := (nI e).toNatClampNeg) (v := .int (x317)) k302 ⟨_, rfl⟩
                obtain ⟨a320, r319, k321, e322⟩ := I318.get ho hE (36)
                have k321 : κ a320 = (62, 2) := k321
                have I323 := I318.set (k := (nI e).toNatClampNeg) (v := .int (nI 8)) k321 ⟨_, rfl⟩
                obtain ⟨a325, r324, k326, e327⟩ := I323.get ho hE (40)
                have k326 : κ a325 = (66, 2) := k326
                have r328 := I323.get ho hE (1)
                have I329 := I323.set (k := (nI e).toNatClampNeg) (v := .int (nI (P 1))) k326 ⟨_, rfl⟩
                refine ft_run_ok k_M_isGot 16 _ _ _ _ [.ref a313, .int (x317), .ref a320, .ref a325, .int (nI (P 1))] rfl ⟨I285.K ho, r312, I285.Kd k314 rfl, I285.vi k314 (by omega) (by decide), r316, I285.Kd k302 rfl, I285.B k302, I285.vi k302 (by omega) (by decide), I318.K ho, r319, I318.Kd k321 rfl, I318.B k321, I318.vi k321 (by omega) (by decide), I323.K ho, r324, I323.K ho, r328, I323.Kd k326 rfl, I323.B k326, I323.vi k326 (by omega) (by decide), trivial⟩ ?_
                exact r_ret (v := none) k_M_isGot rfl trivial (Nat.le_of_ble_eq_true rfl) (Nat.le_of_ble_eq_true rfl) ⟨rfl, I329⟩
              · have I331 := I285.set (k := (nI e).toNatClampNeg) (v := .int (nI 60)) k302 ⟨_, rfl⟩
                obtain ⟨a333, r332, k334, e335⟩ := I331.get ho hE (36)
                have k334 : κ a333 = (62, 2) := k334
                have I336 := I331.set (k := (nI e).toNatClampNeg) (v := .int (nI 8)) k334 ⟨_, rfl⟩
                obtain ⟨a338, r337, k339, e340⟩ := I336.get ho hE (40)
                have k339 : κ a338 = (66, 2) := k339
                have r341 := I336.get ho hE (1)
                have I342 := I336.set (k := (nI e).toNatClampNeg) (v := .int (nI (P 1))) k339 ⟨_, rfl⟩
                refine ft_run_ok k_M_isGot 14 _ _ _ _ [.ref a333, .ref a338, .int (nI (P 1))] rfl ⟨I285.Kd k302 rfl, I285.B k302, I285.vi k302 (by omega) (by decide), I331.K ho, r332, I331.Kd k334 rfl, I331.B k334, I331.vi k334 (by omega) (by decide), I336.K ho, r337, I336.K ho, r341, I336.Kd k339 rfl, I336.B k339, I336.vi k339 (by omega) (by decide), trivial⟩ ?_
                exact r_ret (v := none) k_M_isGot rfl trivial (Nat.le_of_ble_eq_true rfl) (Nat.le_of_ble_eq_true rfl) ⟨rfl, I342⟩
            · obtain ⟨a345, r344, k346, e347⟩ := I285.get ho hE (34)
              have k346 : κ a345 = (60, 2) := k346
              obtain ⟨x349, r348⟩ := I285.get k346 e347 ((nI e).toNatClampNeg)
              have I350 := I285.set (k := (nI e).toNatClampNeg) (v := .int ((x349) + (nI 1))) k346 ⟨_, rfl⟩
              obtain ⟨a352, r351, k353, e354⟩ := I350.get ho hE (37)
              have k353 : κ a352 = (63, 2) := k353
              have I355 := I350.set (k := (nI e).toNatClampNeg) (v := .int (nI 0)) k353 ⟨_, rfl⟩
              obtain ⟨a357, r356, k358, e359⟩ := I355.get ho hE (34)
              have k358 : κ a357 = (60, 2) := k358
              obtain ⟨a361, r360, k362, e363⟩ := I355.get ho hE (34)
              have k362 : κ a361 = (60, 2) := k362
              obtain ⟨x365, r364⟩ := I355.get k362 e363 ((nI e).toNatClampNeg)
              refine ft_run_ok k_M_isGot 21 _ _ _ _ [.ref a345, .int (x349), .ref a352, .ref a357, .ref a361, .int (x365)] rfl ⟨I285.K ho, r344, I285.Kd k346 rfl, I285.vi k346 (by omega) (by decide), r348, I285.Kd k346 rfl, I285.B k346, I285.vi k346 (by omega) (by decide), I350.K ho, r351, I350.Kd k353 rfl, I350.B k353, I350.vi k353 (by omega) (by decide), I355.K ho, r356, I355.K ho, r360, I355.Kd k362 rfl, I355.vi k362 (by omega) (by decide), r364, trivial⟩ ?_
              refine r_icmp k_M_isGot rfl rfl (fun c366 => ?_) (fun c366 => ?_)
              · obtain ⟨a369, r368, k370, e371⟩ := I355.get ho hE (34)
                have k370 : κ a369 = (60, 2) := k370
                obtain ⟨x373, r372⟩ := I355.get k370 e371 ((nI e).toNatClampNeg)
                have I374 := I355.set (k := (nI e).toNatClampNeg) (v := .int (x373)) k358 ⟨_, rfl⟩
                obtain ⟨a376, r375, k377, e378⟩ := I374.get ho hE (36)
                have k377 : κ a376 = (62, 2) := k377
                have I379 := I374.set (k := (nI e).toNatClampNeg) (v := .int (nI 8)) k377 ⟨_, rfl⟩
                obtain ⟨a381, r380, k382, e383⟩ := I379.get ho hE (40)
                have k382 : κ a381 = (66, 2) := k382
                have r384 := I379.get ho hE (1)
                have I385 := I379.set (k := (nI e).toNatClampNeg) (v := .int (nI (P 1))) k382 ⟨_, rfl⟩
                refine ft_run_ok k_M_isGot 16 _ _ _ _ [.ref a369, .int (x373), .ref a376, .ref a381, .int (nI (P 1))] rfl ⟨I355.K ho, r368, I355.Kd k370 rfl, I355.vi k370 (by omega) (by decide), r372, I355.Kd k358 rfl, I355.B k358, I355.vi k358 (by omega) (by decide), I374.K ho, r375, I374.Kd k377 rfl, I374.B k377, I374.vi k377 (by omega) (by decide), I379.K ho, r380, I379.K ho, r384, I379.Kd k382 rfl, I379.B k382, I379.vi k382 (by omega) (by decide), trivial⟩ ?_
                exact r_ret (v := none) k_M_isGot rfl trivial (Nat.le_of_ble_eq_true rfl) (Nat.le_of_ble_eq_true rfl) ⟨rfl, I385⟩
              · have I387 := I355.set (k := (nI e).toNatClampNeg) (v := .int (nI 60)) k358 ⟨_, rfl⟩
                obtain ⟨a389, r388, k390, e391⟩ := I387.get ho hE (36)
                have k390 : κ a389 = (62, 2) := k390
                have I392 := I387.set (k := (nI e).toNatClampNeg) (v := .int (nI 8)) k390 ⟨_, rfl⟩
                obtain ⟨a394, r393, k395, e396⟩ := I392.get ho hE (40)
                have k395 : κ a394 = (66, 2) := k395
                have r397 := I392.get ho hE (1)
                have I398 := I392.set (k := (nI e).toNatClampNeg) (v := .int (nI (P 1))) k395 ⟨_, rfl⟩
                refine ft_run_ok k_M_isGot 14 _ _ _ _ [.ref a389, .ref a394, .int (nI (P 1))] rfl ⟨I355.Kd k358 rfl, I355.B k358, I355.vi k358 (by omega) (by decide), I387.K ho, r388, I387.Kd k390 rfl, I387.B k390, I387.vi k390 (by omega) (by decide), I392.K ho, r393, I392.K ho, r397, I392.Kd k395 rfl, I392.B k395, I392.vi k395 (by omega) (by decide), trivial⟩ ?_
                exact r_ret (v := none) k_M_isGot rfl trivial (Nat.le_of_ble_eq_true rfl) (Nat.le_of_ble_eq_true rfl) ⟨rfl, I398⟩
          · obtain ⟨a401, r400, k402, e403⟩ := I264.get ho hE (34)
            have k402 : κ a401 = (60, 2) := k402
            obtain ⟨x405, r404⟩ := I264.get k402 e403 ((nI e).toNatClampNeg)
            have I406 := I264.set (k := (nI e).toNatClampNeg) (v := .int ((x405) + (nI 1))) k402 ⟨_, rfl⟩
            obtain ⟨a408, r407, k409, e410⟩ := I406.get ho hE (34)
            have k409 : κ a408 = (60, 2) := k409
            obtain ⟨a412, r411, k413, e414⟩ := I406.get ho hE (34)
            have k413 : κ a412 = (60, 2) := k413
            obtain ⟨x416, r415⟩ := I406.get k413 e414 ((nI e).toNatClampNeg)
            refine ft_run_ok k_M_isGot 17 _ _ _ _ [.ref a401, .int (x405), .ref a408, .ref a412, .int (x416)] rfl ⟨I264.K ho, r400, I264.Kd k402 rfl, I264.vi k402 (by omega) (by decide), r404, I264.Kd k402 rfl, I264.B k402, I264.vi k402 (by omega) (by decide), I406.K ho, r407, I406.K ho, r411, I406.Kd k413 rfl, I406.vi k413 (by omega) (by decide), r415, trivial⟩ ?_
            refine r_icmp k_M_isGot rfl rfl (fun c417 => ?_) (fun c417 => ?_)
            · obtain ⟨a420, r419, k421, e422⟩ := I406.get ho hE (34)
              have k421 : κ a420 = (60, 2) := k421
              obtain ⟨x424, r423⟩ := I406.get k421 e422 ((nI e).toNatClampNeg)
              have I425 := I406.set (k := (nI e).toNatClampNeg) (v := .int (x424)) k409 ⟨_, rfl⟩
              obtain ⟨a427, r426, k428, e429⟩ := I425.get ho hE (36)
              have k428 : κ a427 = (62, 2) := k428
              have I430 := I425.set (k := (nI e).toNatClampNeg) (v := .int (nI 8)) k428 ⟨_, rfl⟩
              obtain ⟨a432, r431, k433, e434⟩ := I430.get ho hE (40)
              have k433 : κ a432 = (66, 2) := k433
              have r435 := I430.get ho hE (1)
              have I436 := I430.set (k := (nI e).toNatClampNeg) (v := .int (nI (P 1))) k433 ⟨_, rfl⟩
              refine ft_run_ok k_M_isGot 16 _ _ _ _ [.ref a420, .int (x424), .ref a427, .ref a432, .int (nI (P 1))] rfl ⟨I406.K ho, r419, I406.Kd k421 rfl, I406.vi k421 (by omega) (by decide), r423, I406.Kd k409 rfl, I406.B k409, I406.vi k409 (by omega) (by decide), I425.K ho, r426, I425.Kd k428 rfl, I425.B k428, I425.vi k428 (by omega) (by decide), I430.K ho, r431, I430.K ho, r435, I430.Kd k433 rfl, I430.B k433, I430.vi k433 (by omega) (by decide), trivial⟩ ?_
              exact r_ret (v := none) k_M_isGot rfl trivial (Nat.le_of_ble_eq_true rfl) (Nat.le_of_ble_eq_true rfl) ⟨rfl, I436⟩
            · have I438 := I406.set (k := (nI e).toNatClampNeg) (v := .int (nI 60)) k409 ⟨_, rfl⟩
              obtain ⟨a440, r439, k441, e442⟩ := I438.get ho hE (36)
              have k441 : κ a440 = (62, 2) := k441
              have I443 := I438.set (k := (nI e).toNatClampNeg) (v := .int (nI 8)) k441 ⟨_, rfl⟩
              obtain ⟨a445, r444, k446, e447⟩ := I443.get ho hE (40)
              have k446 : κ a445 = (66, 2) := k446
              have r448 := I443.get ho hE (1)
              have I449 := I443.set (k := (nI e).toNatClampNeg) (v := .int (nI (P 1))) k446 ⟨_, rfl⟩
              refine ft_run_ok k_M_isGot 14 _ _ _ _ [.ref a440, .ref a445, .int (nI (P 1))] rfl ⟨I406.Kd k409 rfl, I406.B k409, I406.vi k409 (by omega) (by decide), I438.K ho, r439, I438.Kd k441 rfl, I438.B k441, I438.vi k441 (by omega) (by decide), I443.K ho, r444, I443.K ho, r448, I443.Kd k446 rfl, I443.B k446, I443.vi k446 (by omega) (by decide), trivial⟩ ?_
              exact r_ret (v := none) k_M_isGot rfl trivial (Nat.le_of_ble_eq_true rfl) (Nat.le_of_ble_eq_true rfl) ⟨rfl, I449⟩
      · obtain ⟨a452, r451, k453, e454⟩ := I.get ho hE (17)
        have k453 : κ a452 = (43, 512) := k453
        have I455 := I.set (k := (nI n1).toNatClampNeg) (v := .int (nI 2)) k453 ⟨_, rfl⟩
        refine ft_run_ok k_M_isGot 6 _ _ _ _ [.ref a452] rfl ⟨I.K ho, r451, I.Kd k453 rfl, I.B k453, I.vi k453 (by omega) (by decide), trivial⟩ ?_
        exact r_ret (v := none) k_M_isGot rfl trivial (Nat.le_of_ble_eq_true rfl) (Nat.le_of_ble_eq_true rfl) ⟨rfl, I455⟩
    · have g456 := ft_ne0 (a := n239) c241
      obtain ⟨a458, r457, k459, e460⟩ := I.get ho hE (15)
      have k459 : κ a458 = (41, 2) := k459
      obtain ⟨a462, r461, k463, e464⟩ := I.get ho hE (19)
      have k463 : κ a462 = (45, 512) := k463
      obtain ⟨x466, r465⟩ := I.get k463 e464 ((nI n1).toNatClampNeg)
      refine ft_run_ok k_M_isGot 9 _ _ _ _ [.ref a458, .ref a462, .long (x466)] rfl ⟨I.K ho, r457, I.K ho, r461, I.Kd k463 rfl, I.vi k463 (by omega) (by decide), r465, trivial⟩ ?_
      refine r_callS (as := [.long ((x466) + (lN 1))]) (r := [.int (nI e), .ref a458]) k_M_isGot rfl z_M_around rfl (Nat.le_of_ble_eq_true rfl) (Nat.le_of_ble_eq_true rfl) (Nat.le_of_ble_eq_true rfl) (Nat.le_of_ble_eq_true rfl) (t_M_around) ?_
      rintro v h' ⟨⟨n467, b468, rfl⟩, rfl⟩
      have I469 := I.set (k := (nI e).toNatClampNeg) (v := .long (lN n467)) k459 ⟨_, rfl⟩
      obtain ⟨a471, r470, k472, e473⟩ := I469.get ho hE (17)
      have k472 : κ a471 = (43, 512) := k472
      obtain ⟨x475, r474⟩ := I469.get k472 e473 ((nI n1).toNatClampNeg)
      refine ft_run_ok k_M_isGot 6 _ _ _ _ [.ref a471, .int (x475)] rfl ⟨I.Kd k459 rfl, I.B k459, I.vi k459 (by omega) (by decide), I469.K ho, r470, I469.Kd k472 rfl, I469.vi k472 (by omega) (by decide), r474, trivial⟩ ?_
      refine r_icmp k_M_isGot rfl rfl (fun c476 => ?_) (fun c476 => ?_)
      · obtain ⟨a479, r478, k480, e481⟩ := I469.get ho hE (17)
        have k480 : κ a479 = (43, 512) := k480
        obtain ⟨x483, r482⟩ := I469.get k480 e481 ((nI n1).toNatClampNeg)
        refine ft_run_ok k_M_isGot 5 _ _ _ _ [.ref a479, .int (x483)] rfl ⟨I469.K ho, r478, I469.Kd k480 rfl, I469.vi k480 (by omega) (by decide), r482, trivial⟩ ?_
        refine r_icmp k_M_isGot rfl rfl (fun c484 => ?_) (fun c484 => ?_)
        · exact r_ret (v := none) k_M_isGot rfl trivial (Nat.le_of_ble_eq_true rfl) (Nat.le_of_ble_eq_true rfl) ⟨rfl, I469⟩
        · obtain ⟨a488, r487, k489, e490⟩ := I469.get ho hE (17)
          have k489 : κ a488 = (43, 512) := k489
          have I491 := I469.set (k := (nI n1).toNatClampNeg) (v := .int (nI 2)) k489 ⟨_, rfl⟩
          obtain ⟨a493, r492, k494, e495⟩ := I491.get ho hE (34)
          have k494 : κ a493 = (60, 2) := k494
          obtain ⟨x497, r496⟩ := I491.get k494 e495 ((nI e).toNatClampNeg)
          obtain ⟨a499, r498, k500, e501⟩ := I491.get ho hE (35)
          have k500 : κ a499 = (61, 2) := k500
          obtain ⟨x503, r502⟩ := I491.get k500 e501 ((nI e).toNatClampNeg)
          refine ft_run_ok k_M_isGot 13 _ _ _ _ [.ref a488, .ref a493, .int (x497), .ref a499, .int (x503)] rfl ⟨I469.K ho, r487, I469.Kd k489 rfl, I469.B k489, I469.vi k489 (by omega) (by decide), I491.K ho, r492, I491.Kd k494 rfl, I491.vi k494 (by omega) (by decide), r496, I491.K ho, r498, I491.Kd k500 rfl, I491.vi k500 (by omega) (by decide), r502, trivial⟩ ?_
          refine r_icmp k_M_isGot rfl rfl (fun c504 => ?_) (fun c504 => ?_)
          · obtain ⟨a507, r506, k508, e509⟩ := I491.get ho hE (37)
            have k508 : κ a507 = (63, 2) := k508
            obtain ⟨x511, r510⟩ := I491.get k508 e509 ((nI e).toNatClampNeg)
            have I512 := I491.set (k := (nI e).toNatClampNeg) (v := .int ((x511) + (nI 1))) k508 ⟨_, rfl⟩
            obtain ⟨a514, r513, k515, e516⟩ := I512.get ho hE (37)
            have k515 : κ a514 = (63, 2) := k515
            obtain ⟨x518, r517⟩ := I512.get k515 e516 ((nI e).toNatClampNeg)
            obtain ⟨a520, r519, k521, e522⟩ := I512.get ho hE (34)
            have k521 : κ a520 = (60, 2) := k521
            obtain ⟨x524, r523⟩ := I512.get k521 e522 ((nI e).toNatClampNeg)
            refine ft_run_ok k_M_isGot 16 _ _ _ _ [.ref a507, .int (x511), .ref a514, .int (x518), .ref a520, .int (x524)] rfl ⟨I491.K ho, r506, I491.Kd k508 rfl, I491.vi k508 (by omega) (by decide), r510, I491.Kd k508 rfl, I491.B k508, I491.vi k508 (by omega) (by decide), I512.K ho, r513, I512.Kd k515 rfl, I512.vi k515 (by omega) (by decide), r517, I512.K ho, r519, I512.Kd k521 rfl, I512.vi k521 (by omega) (by decide), r523, trivial⟩ ?_
            refine r_icmp k_M_isGot rfl rfl (fun c525 => ?_) (fun c525 => ?_)
            · obtain ⟨a528, r527, k529, e530⟩ := I512.get ho hE (34)
              have k529 : κ a528 = (60, 2) := k529
              obtain ⟨a532, r531, k533, e534⟩ := I512.get ho hE (34)
              have k533 : κ a532 = (60, 2) := k533
              obtain ⟨x536, r535⟩ := I512.get k533 e534 ((nI e).toNatClampNeg)
              refine ft_run_ok k_M_isGot 8 _ _ _ _ [.ref a528, .ref a532, .int (x536)] rfl ⟨I512.K ho, r527, I512.K ho, r531, I512.Kd k533 rfl, I512.vi k533 (by omega) (by decide), r535, trivial⟩ ?_
              refine r_icmp k_M_isGot rfl rfl (fun c537 => ?_) (fun c537 => ?_)
              · obtain ⟨a540, r539, k541, e542⟩ := I512.get ho hE (34)
                have k541 : κ a540 = (60, 2) := k541
                obtain ⟨x544, r543⟩ := I512.get k541 e542 ((nI e).toNatClampNeg)
                have I545 := I512.set (k := (nI e).toNatClampNeg) (v := .int (x544)) k529 ⟨_, rfl⟩
                obtain ⟨a547, r546, k548, e549⟩ := I545.get ho hE (36)
                have k548 : κ a547 = (62, 2) := k548
                have I550 := I545.set (k := (nI e).toNatClampNeg) (v := .int (nI 8)) k548 ⟨_, rfl⟩
                obtain ⟨a552, r551, k553, e554⟩ := I550.get ho hE (40)
                have k553 : κ a552 = (66, 2) := k553
                have r555 := I550.get ho hE (1)
                have I556 := I550.set (k := (nI e).toNatClampNeg) (v := .int (nI (P 1))) k553 ⟨_, rfl⟩
                refine ft_run_ok k_M_isGot 16 _ _ _ _ [.ref a540, .int (x544), .ref a547, .ref a552, .int (nI (P 1))] rfl ⟨I512.K ho, r539, I512.Kd k541 rfl, I512.vi k541 (by omega) (by decide), r543, I512.Kd k529 rfl, I512.B k529, I512.vi k529 (by omega) (by decide), I545.K ho, r546, I545.Kd k548 rfl, I545.B k548, I545.vi k548 (by omega) (by decide), I550.K ho, r551, I550.K ho, r555, I550.Kd k553 rfl, I550.B k553, I550.vi k553 (by omega) (by decide), trivial⟩ ?_
                exact r_ret (v := none) k_M_isGot rfl trivial (Nat.le_of_ble_eq_true rfl) (Nat.le_of_ble_eq_true rfl) ⟨rfl, I556⟩
              · have I558 := I512.set (k := (nI e).toNatClampNeg) (v := .int (nI 60)) k529 ⟨_, rfl⟩
                obtain ⟨a560, r559, k561, e562⟩ := I558.get ho hE (36)
                have k561 : κ a560 = (62, 2) := k561
                have I563 := I558.set (k := (nI e).toNatClampNeg) (v := .int (nI 8)) k561 ⟨_, rfl⟩
                obtain ⟨a565, r564, k566, e567⟩ := I563.get ho hE (40)
                have k566 : κ a565 = (66, 2) := k566
                have r568 := I563.get ho hE (1)
                have I569 := I563.set (k := (nI e).toNatClampNeg) (v := .int (nI (P 1))) k566 ⟨_, rfl⟩
                refine ft_run_ok k_M_isGot 14 _ _ _ _ [.ref a560, .ref a565, .int (nI (P 1))] rfl ⟨I512.Kd k529 rfl, I512.B k529, I512.vi k529 (by omega) (by decide), I558.K ho, r559, I558.Kd k561 rfl, I558.B k561, I558.vi k561 (by omega) (by decide), I563.K ho, r564, I563.K ho, r568, I563.Kd k566 rfl, I563.B k566, I563.vi k566 (by omega) (by decide), trivial⟩ ?_
                exact r_ret (v := none) k_M_isGot rfl trivial (Nat.le_of_ble_eq_true rfl) (Nat.le_of_ble_eq_true rfl) ⟨rfl, I569⟩
            · obtain ⟨a572, r571, k573, e574⟩ := I512.get ho hE (34)
              have k573 : κ a572 = (60, 2) := k573
              obtain ⟨x576, r575⟩ := I512.get k573 e574 ((nI e).toNatClampNeg)
              have I577 := I512.set (k := (nI e).toNatClampNeg) (v := .int ((x576) + (nI 1))) k573 ⟨_, rfl⟩
              obtain ⟨a579, r578, k580, e581⟩ := I577.get ho hE (37)
              have k580 : κ a579 = (63, 2) := k580
              have I582 := I577.set (k := (nI e).toNatClampNeg) (v := .int (nI 0)) k580 ⟨_, rfl⟩
              obtain ⟨a584, r583, k585, e586⟩ := I582.get ho hE (34)
              have k585 : κ a584 = (60, 2) := k585
              obtain ⟨a588, r587, k589, e590⟩ := I582.get ho hE (34)
              have k589 : κ a588 = (60, 2) := k589
              obtain ⟨x592, r591⟩ := I582.get k589 e590 ((nI e).toNatClampNeg)
              refine ft_run_ok k_M_isGot 21 _ _ _ _ [.ref a572, .int (x576), .ref a579, .ref a584, .ref a588, .int (x592)] rfl ⟨I512.K ho, r571, I512.Kd k573 rfl, I512.vi k573 (by omega) (by decide), r575, I512.Kd k573 rfl, I512.B k573, I512.vi k573 (by omega) (by decide), I577.K ho, r578, I577.Kd k580 rfl, I577.B k580, I577.vi k580 (by omega) (by decide), I582.K ho, r583, I582.K ho, r587, I582.Kd k589 rfl, I582.vi k589 (by omega) (by decide), r591, trivial⟩ ?_
              refine r_icmp k_M_isGot rfl rfl (fun c593 => ?_) (fun c593 => ?_)
              · obtain ⟨a596, r595, k597, e598⟩ := I582.get ho hE (34)
                have k597 : κ a596 = (60, 2) := k597
                obtain ⟨x600, r599⟩ := I582.get k597 e598 ((nI e).toNatClampNeg)
                have I601 := I582.set (k := (nI e).toNatClampNeg) (v := .int (x600)) k585 ⟨_, rfl⟩
                obtain ⟨a603, r602, k604, e605⟩ := I601.get ho hE (36)
                have k604 : κ a603 = (62, 2) := k604
                have I606 := I601.set (k := (nI e).toNatClampNeg) (v := .int (nI 8)) k604 ⟨_, rfl⟩
                obtain ⟨a608, r607, k609, e610⟩ := I606.get ho hE (40)
                have k609 : κ a608 = (66, 2) := k609
                have r611 := I606.get ho hE (1)
                have I612 := I606.set (k := (nI e).toNatClampNeg) (v := .int (nI (P 1))) k609 ⟨_, rfl⟩
                refine ft_run_ok k_M_isGot 16 _ _ _ _ [.ref a596, .int (x600), .ref a603, .ref a608, .int (nI (P 1))] rfl ⟨I582.K ho, r595, I582.Kd k597 rfl, I582.vi k597 (by omega) (by decide), r599, I582.Kd k585 rfl, I582.B k585, I582.vi k585 (by omega) (by decide), I601.K ho, r602, I601.Kd k604 rfl, I601.B k604, I601.vi k604 (by omega) (by decide), I606.K ho, r607, I606.K ho, r611, I606.Kd k609 rfl, I606.B k609, I606.vi k609 (by omega) (by decide), trivial⟩ ?_
                exact r_ret (v := none) k_M_isGot rfl trivial (Nat.le_of_ble_eq_true rfl) (Nat.le_of_ble_eq_true rfl) ⟨rfl, I612⟩
              · have I614 := I582.set (k := (nI e).toNatClampNeg) (v := .int (nI 60)) k585 ⟨_, rfl⟩
                obtain ⟨a616, r615, k617, e618⟩ := I614.get ho hE (36)
                have k617 : κ a616 = (62, 2) := k617
                have I619 := I614.set (k := (nI e).toNatClampNeg) (v := .int (nI 8)) k617 ⟨_, rfl⟩
                obtain ⟨a621, r620, k622, e623⟩ := I619.get ho hE (40)
                have k622 : κ a621 = (66, 2) := k622
                have r624 := I619.get ho hE (1)
                have I625 := I619.set (k := (nI e).toNatClampNeg) (v := .int (nI (P 1))) k622 ⟨_, rfl⟩
                refine ft_run_ok k_M_isGot 14 _ _ _ _ [.ref a616, .ref a621, .int (nI (P 1))] rfl ⟨I582.Kd k585 rfl, I582.B k585, I582.vi k585 (by omega) (by decide), I614.K ho, r615, I614.Kd k617 rfl, I614.B k617, I614.vi k617 (by omega) (by decide), I619.K ho, r620, I619.K ho, r624, I619.Kd k622 rfl, I619.B k622, I619.vi k622 (by omega) (by decide), trivial⟩ ?_
                exact r_ret (v := none) k_M_isGot rfl trivial (Nat.le_of_ble_eq_true rfl) (Nat.le_of_ble_eq_true rfl) ⟨rfl, I625⟩
          · obtain ⟨a628, r627, k629, e630⟩ := I491.get ho hE (34)
            have k629 : κ a628 = (60, 2) := k629
            obtain ⟨x632, r631⟩ := I491.get k629 e630 ((nI e).toNatClampNeg)
            have I633 := I491.set (k := (nI e).toNatClampNeg) (v := .int ((x632) + (nI 1))) k629 ⟨_, rfl⟩
            obtain ⟨a635, r634, k636, e637⟩ := I633.get ho hE (34)
            have k636 : κ a635 = (60, 2) := k636
            obtain ⟨a639, r638, k640, e641⟩ := I633.get ho hE (34)
            have k640 : κ a639 = (60, 2) := k640
            obtain ⟨x643, r642⟩ := I633.get k640 e641 ((nI e).toNatClampNeg)
            refine ft_run_ok k_M_isGot 17 _ _ _ _ [.ref a628, .int (x632), .ref a635, .ref a639, .int (x643)] rfl ⟨I491.K ho, r627, I491.Kd k629 rfl, I491.vi k629 (by omega) (by decide), r631, I491.Kd k629 rfl, I491.B k629, I491.vi k629 (by omega) (by decide), I633.K ho, r634, I633.K ho, r638, I633.Kd k640 rfl, I633.vi k640 (by omega) (by decide), r642, trivial⟩ ?_
            refine r_icmp k_M_isGot rfl rfl (fun c644 => ?_) (fun c644 => ?_)
            · obtain ⟨a647, r646, k648, e649⟩ := I633.get ho hE (34)
              have k648 : κ a647 = (60, 2) := k648
              obtain ⟨x651, r650⟩ := I633.get k648 e649 ((nI e).toNatClampNeg)
              have I652 := I633.set (k := (nI e).toNatClampNeg) (v := .int (x651)) k636 ⟨_, rfl⟩
              obtain ⟨a654, r653, k655, e656⟩ := I652.get ho hE (36)
              have k655 : κ a654 = (62, 2) := k655
              have I657 := I652.set (k := (nI e).toNatClampNeg) (v := .int (nI 8)) k655 ⟨_, rfl⟩
              obtain ⟨a659, r658, k660, e661⟩ := I657.get ho hE (40)
              have k660 : κ a659 = (66, 2) := k660
              have r662 := I657.get ho hE (1)
              have I663 := I657.set (k := (nI e).toNatClampNeg) (v := .int (nI (P 1))) k660 ⟨_, rfl⟩
              refine ft_run_ok k_M_isGot 16 _ _ _ _ [.ref a647, .int (x651), .ref a654, .ref a659, .int (nI (P 1))] rfl ⟨I633.K ho, r646, I633.Kd k648 rfl, I633.vi k648 (by omega) (by decide), r650, I633.Kd k636 rfl, I633.B k636, I633.vi k636 (by omega) (by decide), I652.K ho, r653, I652.Kd k655 rfl, I652.B k655, I652.vi k655 (by omega) (by decide), I657.K ho, r658, I657.K ho, r662, I657.Kd k660 rfl, I657.B k660, I657.vi k660 (by omega) (by decide), trivial⟩ ?_
              exact r_ret (v := none) k_M_isGot rfl trivial (Nat.le_of_ble_eq_true rfl) (Nat.le_of_ble_eq_true rfl) ⟨rfl, I663⟩
            · have I665 := I633.set (k := (nI e).toNatClampNeg) (v := .int (nI 60)) k636 ⟨_, rfl⟩
              obtain ⟨a667, r666, k668, e669⟩ := I665.get ho hE (36)
              have k668 : κ a667 = (62, 2) := k668
              have I670 := I665.set (k := (nI e).toNatClampNeg) (v := .int (nI 8)) k668 ⟨_, rfl⟩
              obtain ⟨a672, r671, k673, e674⟩ := I670.get ho hE (40)
              have k673 : κ a672 = (66, 2) := k673
              have r675 := I670.get ho hE (1)
              have I676 := I670.set (k := (nI e).toNatClampNeg) (v := .int (nI (P 1))) k673 ⟨_, rfl⟩
              refine ft_run_ok k_M_isGot 14 _ _ _ _ [.ref a667, .ref a672, .int (nI (P 1))] rfl ⟨I633.Kd k636 rfl, I633.B k636, I633.vi k636 (by omega) (by decide), I665.K ho, r666, I665.Kd k668 rfl, I665.B k668, I665.vi k668 (by omega) (by decide), I670.K ho, r671, I670.K ho, r675, I670.Kd k673 rfl, I670.B k673, I670.vi k673 (by omega) (by decide), trivial⟩ ?_
              exact r_ret (v := none) k_M_isGot rfl trivial (Nat.le_of_ble_eq_true rfl) (Nat.le_of_ble_eq_true rfl) ⟨rfl, I676⟩
      · obtain ⟨a679, r678, k680, e681⟩ := I469.get ho hE (17)
        have k680 : κ a679 = (43, 512) := k680
        have I682 := I469.set (k := (nI n1).toNatClampNeg) (v := .int (nI 2)) k680 ⟨_, rfl⟩
        refine ft_run_ok k_M_isGot 6 _ _ _ _ [.ref a679] rfl ⟨I469.K ho, r678, I469.Kd k680 rfl, I469.B k680, I469.vi k680 (by omega) (by decide), trivial⟩ ?_
        exact r_ret (v := none) k_M_isGot rfl trivial (Nat.le_of_ble_eq_true rfl) (Nat.le_of_ble_eq_true rfl) ⟨rfl, I682⟩
set_option maxRecDepth 100000 in
theorem t_M_missing {o : Nat} {e : Nat} {x_e : Int32} (I : Iv D κ n E P h) (ho : κ o = (kd_M, 0)) (hE : ¬ E o) (q_e : x_e = nI e) (h_e : e < 2) : sm D y_M_missing 0 (lv_args 0 [.ref o, .int x_e]) [] h 0 0 (fun v h' => (v = none) ∧ Iv D κ n E P h') := by
  subst q_e
  have L4 : ∀ (t4 : Nat) (j : Nat), j ≤ 255 → j < t4 → ∀ h : ft_H, Iv D κ n E P h → sm D y_M_missing 4 [(0, .ref o), (1, .int (nI e)), (2, .int (nI j))] [] h 0 0 (fun v h' => (v = none) ∧ Iv D κ n E P h') := by
    intro t4
    induction t4 with
    | zero => intro j f4_0 ht4; exact absurd ht4 (Nat.not_lt_zero _)
    | succ t4 ih4 =>
      intro j f4_0 ht4 h I
      have L52 : ∀ (t52 : Nat) (y3 : Int64) (y5 : Int32) (i : Nat), i ≤ 255 ∧ 0 < j → i < t52 → ∀ h : ft_H, Iv D κ n E P h → sm D y_M_missing 52 [(0, .ref o), (1, .int (nI e)), (2, .int (nI j)), (3, .long (y3)), (5, .int (y5)), (6, .int (nI i))] [] h 0 0 (fun v h' => (v = none) ∧ Iv D κ n E P h') := by
        intro t52
        induction t52 with
        | zero => intro y3 y5 i f52_0 ht52; exact absurd ht52 (Nat.not_lt_zero _)
        | succ t52 ih52 =>
          intro y3 y5 i f52_0 ht52 h I
          refine ft_run_ok k_M_missing 1 _ _ _ _ [] rfl trivial ?_
          refine r_if k_M_missing rfl rfl (fun c1 => ?_) (fun c1 => ?_)
          · have g2 := ft_le0 (a := i) (by omega) c1
            refine ft_run_ok k_M_missing 2 _ _ _ _ [] rfl trivial ?_
            refine r_icmp k_M_missing rfl rfl (fun c3 => ?_) (fun c3 => ?_)
            · refine ft_run_ok k_M_missing 2 _ _ _ _ [] rfl trivial ?_
              rw [show ((nI j) + Int32.ofInt (Int.negSucc 0)) = nI ((j) - 1) from ft_dec (by omega)]
              exact sm_sub [1, 2, 0] rfl (ih4 ((j) - 1) (by omega) (by omega) _ I)
            · obtain ⟨a7, r6, k8, e9⟩ := I.get ho hE (17)
              have k8 : κ a7 = (43, 512) := k8
              refine ft_run_ok k_M_missing 4 _ _ _ _ [.ref a7] rfl ⟨I.K ho, r6, trivial⟩ ?_
              refine r_callS (as := [.int (nI e), .long (y3)]) (r := [.ref a7]) k_M_missing rfl z_M_at rfl (Nat.le_of_ble_eq_true rfl) (Nat.le_of_ble_eq_true rfl) (Nat.le_of_ble_eq_true rfl) (Nat.le_of_ble_eq_true rfl) (t_M_at (e := e) rfl (by omega)) ?_
              rintro v h' ⟨⟨n10, b11, rfl⟩, rfl⟩
              have I12 := I.set (k := (nI n10).toNatClampNeg) (v := .int (nI 3)) k8 ⟨_, rfl⟩
              obtain ⟨a14, r13, k15, e16⟩ := I12.get ho hE (38)
              have k15 : κ a14 = (64, 2) := k15
              obtain ⟨x18, r17⟩ := I12.get k15 e16 ((nI e).toNatClampNeg)
              refine ft_run_ok k_M_missing 6 _ _ _ _ [.ref a14, .int (x18)] rfl ⟨I.Kd k8 rfl, I.B k8, I.vi k8 (by omega) (by decide), I12.K ho, r13, I12.Kd k15 rfl, I12.vi k15 (by omega) (by decide), r17, trivial⟩ ?_
              refine r_if k_M_missing rfl rfl (fun c19 => ?_) (fun c19 => ?_)
              · obtain ⟨a22, r21, k23, e24⟩ := I12.get ho hE (34)
                have k23 : κ a22 = (60, 2) := k23
                obtain ⟨x26, r25⟩ := I12.get k23 e24 ((nI e).toNatClampNeg)
                obtain ⟨a28, r27, k29, e30⟩ := I12.get ho hE (35)
                have k29 : κ a28 = (61, 2) := k29
                refine ft_run_ok k_M_missing 12 _ _ _ _ [.ref a22, .int (x26), .ref a28] rfl ⟨I12.K ho, r21, I12.Kd k23 rfl, I12.vi k23 (by omega) (by decide), r25, (by decide), I12.K ho, r27, trivial⟩ ?_
                refine r_icmp k_M_missing rfl rfl (fun c31 => ?_) (fun c31 => ?_)
                · have I33 := I12.set (k := (nI e).toNatClampNeg) (v := .int ((x26) / (nI 2))) k29 ⟨_, rfl⟩
                  obtain ⟨a35, r34, k36, e37⟩ := I33.get ho hE (34)
                  have k36 : κ a35 = (60, 2) := k36
                  refine ft_run_ok k_M_missing 7 _ _ _ _ [.ref a35] rfl ⟨I12.Kd k29 rfl, I12.B k29, I12.vi k29 (by omega) (by decide), I33.K ho, r34, trivial⟩ ?_
                  refine r_icmp k_M_missing rfl rfl (fun c38 => ?_) (fun c38 => ?_)
                  · have I40 := I33.set (k := (nI e).toNatClampNeg) (v := .int ((x26) / (nI 2))) k36 ⟨_, rfl⟩
                    obtain ⟨a42, r41, k43, e44⟩ := I40.get ho hE (37)
                    have k43 : κ a42 = (63, 2) := k43
                    have I45 := I40.set (k := (nI e).toNatClampNeg) (v := .int (nI 0)) k43 ⟨_, rfl⟩
                    obtain ⟨a47, r46, k48, e49⟩ := I45.get ho hE (38)
                    have k48 : κ a47 = (64, 2) := k48
                    have I50 := I45.set (k := (nI e).toNatClampNeg) (v := narrow .boolean (.int (nI 1))) k48 ⟨_, rfl⟩
                    obtain ⟨a52, r51, k53, e54⟩ := I50.get ho hE (39)
                    have k53 : κ a52 = (65, 2) := k53
                    obtain ⟨a56, r55, k57, e58⟩ := I50.get ho hE (10)
                    have k57 : κ a56 = (36, 2) := k57
                    obtain ⟨x60, r59⟩ := I50.get k57 e58 ((nI e).toNatClampNeg)
                    refine ft_run_ok k_M_missing 21 _ _ _ _ [.ref a42, .ref a47, .ref a52, .ref a56, .long (x60)] rfl ⟨I33.Kd k36 rfl, I33.B k36, I33.vi k36 (by omega) (by decide), I40.K ho, r41, I40.Kd k43 rfl, I40.B k43, I40.vi k43 (by omega) (by decide), I45.K ho, r46, I45.Kd k48 rfl, I45.B k48, I45.vi k48 (by omega) (by decide), I50.K ho, r51, I50.K ho, r55, I50.Kd k57 rfl, I50.vi k57 (by omega) (by decide), r59, trivial⟩ ?_
                    refine r_callS (as := [.long ((x60) - (lN 1))]) (r := [.int (nI e), .ref a52]) k_M_missing rfl z_M_around rfl (Nat.le_of_ble_eq_true rfl) (Nat.le_of_ble_eq_true rfl) (Nat.le_of_ble_eq_true rfl) (Nat.le_of_ble_eq_true rfl) (t_M_around) ?_
                    rintro v h' ⟨⟨n61, b62, rfl⟩, rfl⟩
                    have I63 := I50.set (k := (nI e).toNatClampNeg) (v := .long (lN n61)) k53 ⟨_, rfl⟩
                    refine ft_run_ok k_M_missing 3 _ _ _ _ [] rfl ⟨I50.Kd k53 rfl, I50.B k53, I50.vi k53 (by omega) (by decide), trivial⟩ ?_
                    rw [show ((nI j) + Int32.ofInt (Int.negSucc 0)) = nI ((j) - 1) from ft_dec (by omega)]
                    exact sm_sub [2, 3, 0] rfl (ih4 ((j) - 1) (by omega) (by omega) _ I63)
                  · have I65 := I33.set (k := (nI e).toNatClampNeg) (v := .int (nI 1)) k36 ⟨_, rfl⟩
                    obtain ⟨a67, r66, k68, e69⟩ := I65.get ho hE (37)
                    have k68 : κ a67 = (63, 2) := k68
                    have I70 := I65.set (k := (nI e).toNatClampNeg) (v := .int (nI 0)) k68 ⟨_, rfl⟩
                    obtain ⟨a72, r71, k73, e74⟩ := I70.get ho hE (38)
                    have k73 : κ a72 = (64, 2) := k73
                    have I75 := I70.set (k := (nI e).toNatClampNeg) (v := narrow .boolean (.int (nI 1))) k73 ⟨_, rfl⟩
                    obtain ⟨a77, r76, k78, e79⟩ := I75.get ho hE (39)
                    have k78 : κ a77 = (65, 2) := k78
                    obtain ⟨a81, r80, k82, e83⟩ := I75.get ho hE (10)
                    have k82 : κ a81 = (36, 2) := k82
                    obtain ⟨x85, r84⟩ := I75.get k82 e83 ((nI e).toNatClampNeg)
                    refine ft_run_ok k_M_missing 22 _ _ _ _ [.ref a67, .ref a72, .ref a77, .ref a81, .long (x85)] rfl ⟨I33.Kd k36 rfl, I33.B k36, I33.vi k36 (by omega) (by decide), I65.K ho, r66, I65.Kd k68 rfl, I65.B k68, I65.vi k68 (by omega) (by decide), I70.K ho, r71, I70.Kd k73 rfl, I70.B k73, I70.vi k73 (by omega) (by decide), I75.K ho, r76, I75.K ho, r80, I75.Kd k82 rfl, I75.vi k82 (by omega) (by decide), r84, trivial⟩ ?_
                    refine r_callS (as := [.long ((x85) - (lN 1))]) (r := [.int (nI e), .ref a77]) k_M_missing rfl z_M_around rfl (Nat.le_of_ble_eq_true rfl) (Nat.le_of_ble_eq_true rfl) (Nat.le_of_ble_eq_true rfl) (Nat.le_of_ble_eq_true rfl) (t_M_around) ?_
                    rintro v h' ⟨⟨n86, b87, rfl⟩, rfl⟩
                    have I88 := I75.set (k := (nI e).toNatClampNeg) (v := .long (lN n86)) k78 ⟨_, rfl⟩
                    refine ft_run_ok k_M_missing 3 _ _ _ _ [] rfl ⟨I75.Kd k78 rfl, I75.B k78, I75.vi k78 (by omega) (by decide), trivial⟩ ?_
                    rw [show ((nI j) + Int32.ofInt (Int.negSucc 0)) = nI ((j) - 1) from ft_dec (by omega)]
                    exact sm_sub [2, 3, 0] rfl (ih4 ((j) - 1) (by omega) (by omega) _ I88)
                · have I90 := I12.set (k := (nI e).toNatClampNeg) (v := .int (nI 2)) k29 ⟨_, rfl⟩
                  obtain ⟨a92, r91, k93, e94⟩ := I90.get ho hE (34)
                  have k93 : κ a92 = (60, 2) := k93
                  refine ft_run_ok k_M_missing 8 _ _ _ _ [.ref a92] rfl ⟨I12.Kd k29 rfl, I12.B k29, I12.vi k29 (by omega) (by decide), I90.K ho, r91, trivial⟩ ?_
                  refine r_icmp k_M_missing rfl rfl (fun c95 => ?_) (fun c95 => ?_)
                  · have I97 := I90.set (k := (nI e).toNatClampNeg) (v := .int ((x26) / (nI 2))) k93 ⟨_, rfl⟩
                    obtain ⟨a99, r98, k100, e101⟩ := I97.get ho hE (37)
                    have k100 : κ a99 = (63, 2) := k100
                    have I102 := I97.set (k := (nI e).toNatClampNeg) (v := .int (nI 0)) k100 ⟨_, rfl⟩
                    obtain ⟨a104, r103, k105, e106⟩ := I102.get ho hE (38)
                    have k105 : κ a104 = (64, 2) := k105
                    have I107 := I102.set (k := (nI e).toNatClampNeg) (v := narrow .boolean (.int (nI 1))) k105 ⟨_, rfl⟩
                    obtain ⟨a109, r108, k110, e111⟩ := I107.get ho hE (39)
                    have k110 : κ a109 = (65, 2) := k110
                    obtain ⟨a113, r112, k114, e115⟩ := I107.get ho hE (10)
                    have k114 : κ a113 = (36, 2) := k114
                    obtain ⟨x117, r116⟩ := I107.get k114 e115 ((nI e).toNatClampNeg)
                    refine ft_run_ok k_M_missing 21 _ _ _ _ [.ref a99, .ref a104, .ref a109, .ref a113, .long (x117)] rfl ⟨I90.Kd k93 rfl, I90.B k93, I90.vi k93 (by omega) (by decide), I97.K ho, r98, I97.Kd k100 rfl, I97.B k100, I97.vi k100 (by omega) (by decide), I102.K ho, r103, I102.Kd k105 rfl, I102.B k105, I102.vi k105 (by omega) (by decide), I107.K ho, r108, I107.K ho, r112, I107.Kd k114 rfl, I107.vi k114 (by omega) (by decide), r116, trivial⟩ ?_
                    refine r_callS (as := [.long ((x117) - (lN 1))]) (r := [.int (nI e), .ref a109]) k_M_missing rfl z_M_around rfl (Nat.le_of_ble_eq_true rfl) (Nat.le_of_ble_eq_true rfl) (Nat.le_of_ble_eq_true rfl) (Nat.le_of_ble_eq_true rfl) (t_M_around) ?_
                    rintro v h' ⟨⟨n118, b119, rfl⟩, rfl⟩
                    have I120 := I107.set (k := (nI e).toNatClampNeg) (v := .long (lN n118)) k110 ⟨_, rfl⟩
                    refine ft_run_ok k_M_missing 3 _ _ _ _ [] rfl ⟨I107.Kd k110 rfl, I107.B k110, I107.vi k110 (by omega) (by decide), trivial⟩ ?_
                    rw [show ((nI j) + Int32.ofInt (Int.negSucc 0)) = nI ((j) - 1) from ft_dec (by omega)]
                    exact sm_sub [2, 3, 0] rfl (ih4 ((j) - 1) (by omega) (by omega) _ I120)
                  · have I122 := I90.set (k := (nI e).toNatClampNeg) (v := .int (nI 1)) k93 ⟨_, rfl⟩
                    obtain ⟨a124, r123, k125, e126⟩ := I122.get ho hE (37)
                    have k125 : κ a124 = (63, 2) := k125
                    have I127 := I122.set (k := (nI e).toNatClampNeg) (v := .int (nI 0)) k125 ⟨_, rfl⟩
                    obtain ⟨a129, r128, k130, e131⟩ := I127.get ho hE (38)
                    have k130 : κ a129 = (64, 2) := k130
                    have I132 := I127.set (k := (nI e).toNatClampNeg) (v := narrow .boolean (.int (nI 1))) k130 ⟨_, rfl⟩
                    obtain ⟨a134, r133, k135, e136⟩ := I132.get ho hE (39)
                    have k135 : κ a134 = (65, 2) := k135
                    obtain ⟨a138, r137, k139, e140⟩ := I132.get ho hE (10)
                    have k139 : κ a138 = (36, 2) := k139
                    obtain ⟨x142, r141⟩ := I132.get k139 e140 ((nI e).toNatClampNeg)
                    refine ft_run_ok k_M_missing 22 _ _ _ _ [.ref a124, .ref a129, .ref a134, .ref a138, .long (x142)] rfl ⟨I90.Kd k93 rfl, I90.B k93, I90.vi k93 (by omega) (by decide), I122.K ho, r123, I122.Kd k125 rfl, I122.B k125, I122.vi k125 (by omega) (by decide), I127.K ho, r128, I127.Kd k130 rfl, I127.B k130, I127.vi k130 (by omega) (by decide), I132.K ho, r133, I132.K ho, r137, I132.Kd k139 rfl, I132.vi k139 (by omega) (by decide), r141, trivial⟩ ?_
                    refine r_callS (as := [.long ((x142) - (lN 1))]) (r := [.int (nI e), .ref a134]) k_M_missing rfl z_M_around rfl (Nat.le_of_ble_eq_true rfl) (Nat.le_of_ble_eq_true rfl) (Nat.le_of_ble_eq_true rfl) (Nat.le_of_ble_eq_true rfl) (t_M_around) ?_
                    rintro v h' ⟨⟨n143, b144, rfl⟩, rfl⟩
                    have I145 := I132.set (k := (nI e).toNatClampNeg) (v := .long (lN n143)) k135 ⟨_, rfl⟩
                    refine ft_run_ok k_M_missing 3 _ _ _ _ [] rfl ⟨I132.Kd k135 rfl, I132.B k135, I132.vi k135 (by omega) (by decide), trivial⟩ ?_
                    rw [show ((nI j) + Int32.ofInt (Int.negSucc 0)) = nI ((j) - 1) from ft_dec (by omega)]
                    exact sm_sub [2, 3, 0] rfl (ih4 ((j) - 1) (by omega) (by omega) _ I145)
              · obtain ⟨a148, r147, k149, e150⟩ := I12.get ho hE (39)
                have k149 : κ a148 = (65, 2) := k149
                obtain ⟨x152, r151⟩ := I12.get k149 e150 ((nI e).toNatClampNeg)
                refine ft_run_ok k_M_missing 5 _ _ _ _ [.ref a148, .long (x152)] rfl ⟨I12.K ho, r147, I12.Kd k149 rfl, I12.vi k149 (by omega) (by decide), r151, trivial⟩ ?_
                refine r_callS (as := [.long (y3), .long (x152)]) (r := []) k_M_missing rfl z_M_after rfl (Nat.le_of_ble_eq_true rfl) (Nat.le_of_ble_eq_true rfl) (Nat.le_of_ble_eq_true rfl) (Nat.le_of_ble_eq_true rfl) (t_M_after) ?_
                rintro v h' ⟨⟨n153, b154, rfl⟩, rfl⟩
                refine r_if k_M_missing rfl rfl (fun c155 => ?_) (fun c155 => ?_)
                · have g156 := ft_eq0 (a := n153) (by omega) c155
                  refine ft_run_ok k_M_missing 2 _ _ _ _ [] rfl trivial ?_
                  rw [show ((nI j) + Int32.ofInt (Int.negSucc 0)) = nI ((j) - 1) from ft_dec (by omega)]
                  exact sm_sub [1, 2, 0] rfl (ih4 ((j) - 1) (by omega) (by omega) _ I12)
                · have g157 := ft_ne0 (a := n153) c155
                  obtain ⟨a159, r158, k160, e161⟩ := I12.get ho hE (34)
                  have k160 : κ a159 = (60, 2) := k160
                  obtain ⟨x163, r162⟩ := I12.get k160 e161 ((nI e).toNatClampNeg)
                  obtain ⟨a165, r164, k166, e167⟩ := I12.get ho hE (35)
                  have k166 : κ a165 = (61, 2) := k166
                  refine ft_run_ok k_M_missing 12 _ _ _ _ [.ref a159, .int (x163), .ref a165] rfl ⟨I12.K ho, r158, I12.Kd k160 rfl, I12.vi k160 (by omega) (by decide), r162, (by decide), I12.K ho, r164, trivial⟩ ?_
                  refine r_icmp k_M_missing rfl rfl (fun c168 => ?_) (fun c168 => ?_)
                  · have I170 := I12.set (k := (nI e).toNatClampNeg) (v := .int ((x163) / (nI 2))) k166 ⟨_, rfl⟩
                    obtain ⟨a172, r171, k173, e174⟩ := I170.get ho hE (34)
                    have k173 : κ a172 = (60, 2) := k173
                    refine ft_run_ok k_M_missing 7 _ _ _ _ [.ref a172] rfl ⟨I12.Kd k166 rfl, I12.B k166, I12.vi k166 (by omega) (by decide), I170.K ho, r171, trivial⟩ ?_
                    refine r_icmp k_M_missing rfl rfl (fun c175 => ?_) (fun c175 => ?_)
                    · have I177 := I170.set (k := (nI e).toNatClampNeg) (v := .int ((x163) / (nI 2))) k173 ⟨_, rfl⟩
                      obtain ⟨a179, r178, k180, e181⟩ := I177.get ho hE (37)
                      have k180 : κ a179 = (63, 2) := k180
                      have I182 := I177.set (k := (nI e).toNatClampNeg) (v := .int (nI 0)) k180 ⟨_, rfl⟩
                      obtain ⟨a184, r183, k185, e186⟩ := I182.get ho hE (38)
                      have k185 : κ a184 = (64, 2) := k185
                      have I187 := I182.set (k := (nI e).toNatClampNeg) (v := narrow .boolean (.int (nI 1))) k185 ⟨_, rfl⟩
                      obtain ⟨a189, r188, k190, e191⟩ := I187.get ho hE (39)
                      have k190 : κ a189 = (65, 2) := k190
                      obtain ⟨a193, r192, k194, e195⟩ := I187.get ho hE (10)
                      have k194 : κ a193 = (36, 2) := k194
                      obtain ⟨x197, r196⟩ := I187.get k194 e195 ((nI e).toNatClampNeg)
                      refine ft_run_ok k_M_missing 21 _ _ _ _ [.ref a179, .ref a184, .ref a189, .ref a193, .long (x197)] rfl ⟨I170.Kd k173 rfl, I170.B k173, I170.vi k173 (by omega) (by decide), I177.K ho, r178, I177.Kd k180 rfl, I177.B k180, I177.vi k180 (by omega) (by decide), I182.K ho, r183, I182.Kd k185 rfl, I182.B k185, I182.vi k185 (by omega) (by decide), I187.K ho, r188, I187.K ho, r192, I187.Kd k194 rfl, I187.vi k194 (by omega) (by decide), r196, trivial⟩ ?_
                      refine r_callS (as := [.long ((x197) - (lN 1))]) (r := [.int (nI e), .ref a189]) k_M_missing rfl z_M_around rfl (Nat.le_of_ble_eq_true rfl) (Nat.le_of_ble_eq_true rfl) (Nat.le_of_ble_eq_true rfl) (Nat.le_of_ble_eq_true rfl) (t_M_around) ?_
                      rintro v h' ⟨⟨n198, b199, rfl⟩, rfl⟩
                      have I200 := I187.set (k := (nI e).toNatClampNeg) (v := .long (lN n198)) k190 ⟨_, rfl⟩
                      refine ft_run_ok k_M_missing 3 _ _ _ _ [] rfl ⟨I187.Kd k190 rfl, I187.B k190, I187.vi k190 (by omega) (by decide), trivial⟩ ?_
                      rw [show ((nI j) + Int32.ofInt (Int.negSucc 0)) = nI ((j) - 1) from ft_dec (by omega)]
                      exact sm_sub [2, 3, 0] rfl (ih4 ((j) - 1) (by omega) (by omega) _ I200)
                    · have I202 := I170.set (k := (nI e).toNatClampNeg) (v := .int (nI 1)) k173 ⟨_, rfl⟩
                      obtain ⟨a204, r203, k205, e206⟩ := I202.get ho hE (37)
                      have k205 : κ a204 = (63, 2) := k205
                      have I207 := I202.set (k := (nI e).toNatClampNeg) (v := .int (nI 0)) k205 ⟨_, rfl⟩
                      obtain ⟨a209, r208, k210, e211⟩ := I207.get ho hE (38)
                      have k210 : κ a209 = (64, 2) := k210
                      have I212 := I207.set (k := (nI e).toNatClampNeg) (v := narrow .boolean (.int (nI 1))) k210 ⟨_, rfl⟩
                      obtain ⟨a214, r213, k215, e216⟩ := I212.get ho hE (39)
                      have k215 : κ a214 = (65, 2) := k215
                      obtain ⟨a218, r217, k219, e220⟩ := I212.get ho hE (10)
                      have k219 : κ a218 = (36, 2) := k219
                      obtain ⟨x222, r221⟩ := I212.get k219 e220 ((nI e).toNatClampNeg)
                      refine ft_run_ok k_M_missing 22 _ _ _ _ [.ref a204, .ref a209, .ref a214, .ref a218, .long (x222)] rfl ⟨I170.Kd k173 rfl, I170.B k173, I170.vi k173 (by omega) (by decide), I202.K ho, r203, I202.Kd k205 rfl, I202.B k205, I202.vi k205 (by omega) (by decide), I207.K ho, r208, I207.Kd k210 rfl, I207.B k210, I207.vi k210 (by omega) (by decide), I212.K ho, r213, I212.K ho, r217, I212.Kd k219 rfl, I212.vi k219 (by omega) (by decide), r221, trivial⟩ ?_
                      refine r_callS (as := [.long ((x222) - (lN 1))]) (r := [.int (nI e), .ref a214]) k_M_missing rfl z_M_around rfl (Nat.le_of_ble_eq_true rfl) (Nat.le_of_ble_eq_true rfl) (Nat.le_of_ble_eq_true rfl) (Nat.le_of_ble_eq_true rfl) (t_M_around) ?_
                      rintro v h' ⟨⟨n223, b224, rfl⟩, rfl⟩
                      have I225 := I212.set (k := (nI e).toNatClampNeg) (v := .long (lN n223)) k215 ⟨_, rfl⟩
                      refine ft_run_ok k_M_missing 3 _ _ _ _ [] rfl ⟨I212.Kd k215 rfl, I212.B k215, I212.vi k215 (by omega) (by decide), trivial⟩ ?_
                      rw [show ((nI j) + Int32.ofInt (Int.negSucc 0)) = nI ((j) - 1) from ft_dec (by omega)]
                      exact sm_sub [2, 3, 0] rfl (ih4 ((j) - 1) (by omega) (by omega) _ I225)
                  · have I227 := I12.set (k := (nI e).toNatClampNeg) (v := .int (nI 2)) k166 ⟨_, rfl⟩
                    obtain ⟨a229, r228, k230, e231⟩ := I227.get ho hE (34)
                    have k230 : κ a229 = (60, 2) := k230
                    refine ft_run_ok k_M_missing 8 _ _ _ _ [.ref a229] rfl ⟨I12.Kd k166 rfl, I12.B k166, I12.vi k166 (by omega) (by decide), I227.K ho, r228, trivial⟩ ?_
                    refine r_icmp k_M_missing rfl rfl (fun c232 => ?_) (fun c232 => ?_)
                    · have I234 := I227.set (k := (nI e).toNatClampNeg) (v := .int ((x163) / (nI 2))) k230 ⟨_, rfl⟩
                      obtain ⟨a236, r235, k237, e238⟩ := I234.get ho hE (37)
                      have k237 : κ a236 = (63, 2) := k237
                      have I239 := I234.set (k := (nI e).toNatClampNeg) (v := .int (nI 0)) k237 ⟨_, rfl⟩
                      obtain ⟨a241, r240, k242, e243⟩ := I239.get ho hE (38)
                      have k242 : κ a241 = (64, 2) := k242
                      have I244 := I239.set (k := (nI e).toNatClampNeg) (v := narrow .boolean (.int (nI 1))) k242 ⟨_, rfl⟩
                      obtain ⟨a246, r245, k247, e248⟩ := I244.get ho hE (39)
                      have k247 : κ a246 = (65, 2) := k247
                      obtain ⟨a250, r249, k251, e252⟩ := I244.get ho hE (10)
                      have k251 : κ a250 = (36, 2) := k251
                      obtain ⟨x254, r253⟩ := I244.get k251 e252 ((nI e).toNatClampNeg)
                      refine ft_run_ok k_M_missing 21 _ _ _ _ [.ref a236, .ref a241, .ref a246, .ref a250, .long (x254)] rfl ⟨I227.Kd k230 rfl, I227.B k230, I227.vi k230 (by omega) (by decide), I234.K ho, r235, I234.Kd k237 rfl, I234.B k237, I234.vi k237 (by omega) (by decide), I239.K ho, r240, I239.Kd k242 rfl, I239.B k242, I239.vi k242 (by omega) (by decide), I244.K ho, r245, I244.K ho, r249, I244.Kd k251 rfl, I244.vi k251 (by omega) (by decide), r253, trivial⟩ ?_
                      refine r_callS (as := [.long ((x254) - (lN 1))]) (r := [.int (nI e), .ref a246]) k_M_missing rfl z_M_around rfl (Nat.le_of_ble_eq_true rfl) (Nat.le_of_ble_eq_true rfl) (Nat.le_of_ble_eq_true rfl) (Nat.le_of_ble_eq_true rfl) (t_M_around) ?_
                      rintro v h' ⟨⟨n255, b256, rfl⟩, rfl⟩
                      have I257 := I244.set (k := (nI e).toNatClampNeg) (v := .long (lN n255)) k247 ⟨_, rfl⟩
                      refine ft_run_ok k_M_missing 3 _ _ _ _ [] rfl ⟨I244.Kd k247 rfl, I244.B k247, I244.vi k247 (by omega) (by decide), trivial⟩ ?_
                      rw [show ((nI j) + Int32.ofInt (Int.negSucc 0)) = nI ((j) - 1) from ft_dec (by omega)]
                      exact sm_sub [2, 3, 0] rfl (ih4 ((j) - 1) (by omega) (by omega) _ I257)
                    · have I259 := I227.set (k := (nI e).toNatClampNeg) (v := .int (nI 1)) k230 ⟨_, rfl⟩
                      obtain ⟨a261, r260, k262, e263⟩ := I259.get ho hE (37)
                      have k262 : κ a261 = (63, 2) := k262
                      have I264 := I259.set (k := (nI e).toNatClampNeg) (v := .int (nI 0)) k262 ⟨_, rfl⟩
                      obtain ⟨a266, r265, k267, e268⟩ := I264.get ho hE (38)
                      have k267 : κ a266 = (64, 2) := k267
                      have I269 := I264.set (k := (nI e).toNatClampNeg) (v := narrow .boolean (.int (nI 1))) k267 ⟨_, rfl⟩
                      obtain ⟨a271, r270, k272, e273⟩ := I269.get ho hE (39)
                      have k272 : κ a271 = (65, 2) := k272
                      obtain ⟨a275, r274, k276, e277⟩ := I269.get ho hE (10)
                      have k276 : κ a275 = (36, 2) := k276
                      obtain ⟨x279, r278⟩ := I269.get k276 e277 ((nI e).toNatClampNeg)
                      refine ft_run_ok k_M_missing 22 _ _ _ _ [.ref a261, .ref a266, .ref a271, .ref a275, .long (x279)] rfl ⟨I227.Kd k230 rfl, I227.B k230, I227.vi k230 (by omega) (by decide), I259.K ho, r260, I259.Kd k262 rfl, I259.B k262, I259.vi k262 (by omega) (by decide), I264.K ho, r265, I264.Kd k267 rfl, I264.B k267, I264.vi k267 (by omega) (by decide), I269.K ho, r270, I269.K ho, r274, I269.Kd k276 rfl, I269.vi k276 (by omega) (by decide), r278, trivial⟩ ?_
                      refine r_callS (as := [.long ((x279) - (lN 1))]) (r := [.int (nI e), .ref a271]) k_M_missing rfl z_M_around rfl (Nat.le_of_ble_eq_true rfl) (Nat.le_of_ble_eq_true rfl) (Nat.le_of_ble_eq_true rfl) (Nat.le_of_ble_eq_true rfl) (t_M_around) ?_
                      rintro v h' ⟨⟨n280, b281, rfl⟩, rfl⟩
                      have I282 := I269.set (k := (nI e).toNatClampNeg) (v := .long (lN n280)) k272 ⟨_, rfl⟩
                      refine ft_run_ok k_M_missing 3 _ _ _ _ [] rfl ⟨I269.Kd k272 rfl, I269.B k272, I269.vi k272 (by omega) (by decide), trivial⟩ ?_
                      rw [show ((nI j) + Int32.ofInt (Int.negSucc 0)) = nI ((j) - 1) from ft_dec (by omega)]
                      exact sm_sub [2, 3, 0] rfl (ih4 ((j) - 1) (by omega) (by omega) _ I282)
          · have g283 := ft_gt0 (a := i) (Int32.not_le.mp c1)
            obtain ⟨a285, r284, k286, e287⟩ := I.get ho hE (10)
            have k286 : κ a285 = (36, 2) := k286
            obtain ⟨x289, r288⟩ := I.get k286 e287 ((nI e).toNatClampNeg)
            refine ft_run_ok k_M_missing 7 _ _ _ _ [.ref a285, .long (x289)] rfl ⟨I.K ho, r284, I.Kd k286 rfl, I.vi k286 (by omega) (by decide), r288, trivial⟩ ?_
            refine r_callS (as := [.long ((x289) - ((nI i).toInt64))]) (r := []) k_M_missing rfl z_M_around rfl (Nat.le_of_ble_eq_true rfl) (Nat.le_of_ble_eq_true rfl) (Nat.le_of_ble_eq_true rfl) (Nat.le_of_ble_eq_true rfl) (t_M_around) ?_
            rintro v h' ⟨⟨n290, b291, rfl⟩, rfl⟩
            refine ft_run_ok k_M_missing 5 _ _ _ _ [] rfl trivial ?_
            refine r_callV (as := [.int (nI e), .long (lN n290)]) (a := o) (ci := 11) (r := [.int (y5)]) k_M_missing rfl z_M_isOwn rfl (by decide) rfl (I.K ho) (Nat.le_of_ble_eq_true rfl) (Nat.le_of_ble_eq_true rfl) (Nat.le_of_ble_eq_true rfl) (Nat.le_of_ble_eq_true rfl) (t_M_isOwn I ho hE (e := e) rfl (by omega)) ?_
            rintro v h' ⟨⟨n292, b293, rfl⟩, rfl⟩
            refine r_if k_M_missing rfl rfl (fun c294 => ?_) (fun c294 => ?_)
            · have g295 := ft_eq0 (a := n292) (by omega) c294
              refine ft_run_ok k_M_missing 5 _ _ _ _ [] rfl trivial ?_
              rw [show ((nI i) + Int32.ofInt (Int.negSucc 0)) = nI ((i) - 1) from ft_dec (by omega)]
              exact sm_sub [3, 4, 5, 6, 1, 0] rfl (ih52 (y3) ((y5) + (nI 0)) ((i) - 1) (by omega) (by omega) _ I)
            · have g296 := ft_ne0 (a := n292) c294
              obtain ⟨a298, r297, k299, e300⟩ := I.get ho hE (17)
              have k299 : κ a298 = (43, 512) := k299
              refine ft_run_ok k_M_missing 4 _ _ _ _ [.ref a298] rfl ⟨I.K ho, r297, trivial⟩ ?_
              refine r_callS (as := [.int (nI e), .long (lN n290)]) (r := [.ref a298, .int (y5)]) k_M_missing rfl z_M_at rfl (Nat.le_of_ble_eq_true rfl) (Nat.le_of_ble_eq_true rfl) (Nat.le_of_ble_eq_true rfl) (Nat.le_of_ble_eq_true rfl) (t_M_at (e := e) rfl (by omega)) ?_
              rintro v h' ⟨⟨n301, b302, rfl⟩, rfl⟩
              obtain ⟨x304, r303⟩ := I.get k299 e300 ((nI n301).toNatClampNeg)
              refine ft_run_ok k_M_missing 2 _ _ _ _ [.int (x304)] rfl ⟨I.Kd k299 rfl, I.vi k299 (by omega) (by decide), r303, trivial⟩ ?_
              refine r_icmp k_M_missing rfl rfl (fun c305 => ?_) (fun c305 => ?_)
              · refine ft_run_ok k_M_missing 5 _ _ _ _ [] rfl trivial ?_
                rw [show ((nI i) + Int32.ofInt (Int.negSucc 0)) = nI ((i) - 1) from ft_dec (by omega)]
                exact sm_sub [3, 4, 5, 6, 1, 0] rfl (ih52 (y3) ((y5) + (nI 0)) ((i) - 1) (by omega) (by omega) _ I)
              · refine ft_run_ok k_M_missing 6 _ _ _ _ [] rfl trivial ?_
                rw [show ((nI i) + Int32.ofInt (Int.negSucc 0)) = nI ((i) - 1) from ft_dec (by omega)]
                exact sm_sub [3, 4, 5, 6, 1, 0] rfl (ih52 (y3) ((y5) + (nI 1)) ((i) - 1) (by omega) (by omega) _ I)
      refine ft_run_ok k_M_missing 1 _ _ _ _ [] rfl trivial ?_
      refine r_if k_M_missing rfl rfl (fun c308 => ?_) (fun c308 => ?_)
      · have g309 := ft_le0 (a := j) (by omega) c308
        exact r_ret (v := none) k_M_missing rfl trivial (Nat.le_of_ble_eq_true rfl) (Nat.le_of_ble_eq_true rfl) ⟨rfl, I⟩
      · have g310 := ft_gt0 (a := j) (Int32.not_le.mp c308)
        obtain ⟨a312, r311, k313, e314⟩ := I.get ho hE (10)
        have k313 : κ a312 = (36, 2) := k313
        obtain ⟨x316, r315⟩ := I.get k313 e314 ((nI e).toNatClampNeg)
        refine ft_run_ok k_M_missing 7 _ _ _ _ [.ref a312, .long (x316)] rfl ⟨I.K ho, r311, I.Kd k313 rfl, I.vi k313 (by omega) (by decide), r315, trivial⟩ ?_
        refine r_callS (as := [.long ((x316) - ((nI j).toInt64))]) (r := []) k_M_missing rfl z_M_around rfl (Nat.le_of_ble_eq_true rfl) (Nat.le_of_ble_eq_true rfl) (Nat.le_of_ble_eq_true rfl) (Nat.le_of_ble_eq_true rfl) (t_M_around) ?_
        rintro v h' ⟨⟨n317, b318, rfl⟩, rfl⟩
        refine ft_run_ok k_M_missing 4 _ _ _ _ [] rfl trivial ?_
        refine r_callV (as := [.int (nI e), .long (lN n317)]) (a := o) (ci := 11) (r := []) k_M_missing rfl z_M_isOwn rfl (by decide) rfl (I.K ho) (Nat.le_of_ble_eq_true rfl) (Nat.le_of_ble_eq_true rfl) (Nat.le_of_ble_eq_true rfl) (Nat.le_of_ble_eq_true rfl) (t_M_isOwn I ho hE (e := e) rfl (by omega)) ?_
        rintro v h' ⟨⟨n319, b320, rfl⟩, rfl⟩
        refine r_if k_M_missing rfl rfl (fun c321 => ?_) (fun c321 => ?_)
        · have g322 := ft_eq0 (a := n319) (by omega) c321
          refine ft_run_ok k_M_missing 2 _ _ _ _ [] rfl trivial ?_
          rw [show ((nI j) + Int32.ofInt (Int.negSucc 0)) = nI ((j) - 1) from ft_dec (by omega)]
          exact sm_sub [2, 3, 0] rfl (ih4 ((j) - 1) (by omega) (by omega) _ I)
        · have g323 := ft_ne0 (a := n319) c321
          obtain ⟨a325, r324, k326, e327⟩ := I.get ho hE (17)
          have k326 : κ a325 = (43, 512) := k326
          refine ft_run_ok k_M_missing 4 _ _ _ _ [.ref a325] rfl ⟨I.K ho, r324, trivial⟩ ?_
          refine r_callS (as := [.int (nI e), .long (lN n317)]) (r := [.ref a325]) k_M_missing rfl z_M_at rfl (Nat.le_of_ble_eq_true rfl) (Nat.le_of_ble_eq_true rfl) (Nat.le_of_ble_eq_true rfl) (Nat.le_of_ble_eq_true rfl) (t_M_at (e := e) rfl (by omega)) ?_
          rintro v h' ⟨⟨n328, b329, rfl⟩, rfl⟩
          obtain ⟨x331, r330⟩ := I.get k326 e327 ((nI n328).toNatClampNeg)
          refine ft_run_ok k_M_missing 2 _ _ _ _ [.int (x331)] rfl ⟨I.Kd k326 rfl, I.vi k326 (by omega) (by decide), r330, trivial⟩ ?_
          refine r_icmp k_M_missing rfl rfl (fun c332 => ?_) (fun c332 => ?_)
          · refine ft_run_ok k_M_missing 2 _ _ _ _ [] rfl trivial ?_
            rw [show ((nI j) + Int32.ofInt (Int.negSucc 0)) = nI ((j) - 1) from ft_dec (by omega)]
            exact sm_sub [2, 3, 0] rfl (ih4 ((j) - 1) (by omega) (by omega) _ I)
          · refine ft_run_ok k_M_missing 6 _ _ _ _ [] rfl trivial ?_
            rw [show ((nI j) - (nI 1)) = nI ((j) - (1)) from by simp only [nI_add, pk_mul, pk_sub (show 1 ≤ j by omega)]]
            exact sm_sub [3, 4, 5, 2, 1, 0] rfl (L52 _ (lN n317) (nI 0) ((j) - (1)) (by omega) (Nat.lt_succ_self _) _ I)
  refine ft_run_ok k_M_missing 2 _ _ _ _ [] rfl trivial ?_
  exact sm_sub [1, 2, 0] rfl (L4 _ (255) (by omega) (Nat.lt_succ_self _) _ I)
set_option maxRecDepth 100000 in
theorem t_M_tooLong {o : Nat} {e : Nat} {x_e : Int32} (I : Iv D κ n E P h) (ho : κ o = (kd_M, 0)) (hE : ¬ E o) (q_e : x_e = nI e) (h_e : e < 2) : sm D y_M_tooLong 0 (lv_args 0 [.ref o, .int x_e]) [] h 0 0 (fun v h' => (v = none) ∧ Iv D κ n E P h') := by
  subst q_e
  have L31 : ∀ (t31 : Nat) (j : Nat), j ≤ 256 → 256 - j < t31 → ∀ h : ft_H, Iv D κ n E P h → sm D y_M_tooLong 31 [(0, .ref o), (1, .int (nI e)), (2, .int (nI j))] [] h 0 0 (fun v h' => (v = none) ∧ Iv D κ n E P h') := by
    intro t31
    induction t31 with
    | zero => intro j f31_0 ht31; exact absurd ht31 (Nat.not_lt_zero _)
    | succ t31 ih31 =>
      intro j f31_0 ht31 h I
      refine ft_run_ok k_M_tooLong 2 _ _ _ _ [] rfl trivial ?_
      refine r_icmp k_M_tooLong rfl rfl (fun c1 => ?_) (fun c1 => ?_)
      · have g2 := ft_le (a := 256) (b := j) (by omega) (by omega) c1
        obtain ⟨a4, r3, k5, e6⟩ := I.get ho hE (34)
        have k5 : κ a4 = (60, 2) := k5
        obtain ⟨x8, r7⟩ := I.get k5 e6 ((nI e).toNatClampNeg)
        obtain ⟨a10, r9, k11, e12⟩ := I.get ho hE (35)
        have k11 : κ a10 = (61, 2) := k11
        refine ft_run_ok k_M_tooLong 12 _ _ _ _ [.ref a4, .int (x8), .ref a10] rfl ⟨I.K ho, r3, I.Kd k5 rfl, I.vi k5 (by omega) (by decide), r7, (by decide), I.K ho, r9, trivial⟩ ?_
        refine r_icmp k_M_tooLong rfl rfl (fun c13 => ?_) (fun c13 => ?_)
        · have I15 := I.set (k := (nI e).toNatClampNeg) (v := .int ((x8) / (nI 2))) k11 ⟨_, rfl⟩
          obtain ⟨a17, r16, k18, e19⟩ := I15.get ho hE (34)
          have k18 : κ a17 = (60, 2) := k18
          have I20 := I15.set (k := (nI e).toNatClampNeg) (v := .int (nI 1)) k18 ⟨_, rfl⟩
          obtain ⟨a22, r21, k23, e24⟩ := I20.get ho hE (37)
          have k23 : κ a22 = (63, 2) := k23
          have I25 := I20.set (k := (nI e).toNatClampNeg) (v := .int (nI 0)) k23 ⟨_, rfl⟩
          obtain ⟨a27, r26, k28, e29⟩ := I25.get ho hE (38)
          have k28 : κ a27 = (64, 2) := k28
          have I30 := I25.set (k := (nI e).toNatClampNeg) (v := narrow .boolean (.int (nI 1))) k28 ⟨_, rfl⟩
          obtain ⟨a32, r31, k33, e34⟩ := I30.get ho hE (39)
          have k33 : κ a32 = (65, 2) := k33
          obtain ⟨a36, r35, k37, e38⟩ := I30.get ho hE (10)
          have k37 : κ a36 = (36, 2) := k37
          obtain ⟨x40, r39⟩ := I30.get k37 e38 ((nI e).toNatClampNeg)
          refine ft_run_ok k_M_tooLong 26 _ _ _ _ [.ref a17, .ref a22, .ref a27, .ref a32, .ref a36, .long (x40)] rfl ⟨I.Kd k11 rfl, I.B k11, I.vi k11 (by omega) (by decide), I15.K ho, r16, I15.Kd k18 rfl, I15.B k18, I15.vi k18 (by omega) (by decide), I20.K ho, r21, I20.Kd k23 rfl, I20.B k23, I20.vi k23 (by omega) (by decide), I25.K ho, r26, I25.Kd k28 rfl, I25.B k28, I25.vi k28 (by omega) (by decide), I30.K ho, r31, I30.K ho, r35, I30.Kd k37 rfl, I30.vi k37 (by omega) (by decide), r39, trivial⟩ ?_
          refine r_callS (as := [.long ((x40) - (lN 1))]) (r := [.int (nI e), .ref a32]) k_M_tooLong rfl z_M_around rfl (Nat.le_of_ble_eq_true rfl) (Nat.le_of_ble_eq_true rfl) (Nat.le_of_ble_eq_true rfl) (Nat.le_of_ble_eq_true rfl) (t_M_around) ?_
          rintro v h' ⟨⟨n41, b42, rfl⟩, rfl⟩
          have I43 := I30.set (k := (nI e).toNatClampNeg) (v := .long (lN n41)) k33 ⟨_, rfl⟩
          obtain ⟨a45, r44, k46, e47⟩ := I43.get ho hE (36)
          have k46 : κ a45 = (62, 2) := k46
          obtain ⟨a49, r48, k50, e51⟩ := I43.get ho hE (36)
          have k50 : κ a49 = (62, 2) := k50
          obtain ⟨x53, r52⟩ := I43.get k50 e51 ((nI e).toNatClampNeg)
          refine ft_run_ok k_M_tooLong 11 _ _ _ _ [.ref a45, .ref a49, .int (x53)] rfl ⟨I30.Kd k33 rfl, I30.B k33, I30.vi k33 (by omega) (by decide), I43.K ho, r44, I43.K ho, r48, I43.Kd k50 rfl, I43.vi k50 (by omega) (by decide), r52, trivial⟩ ?_
          refine r_icmp k_M_tooLong rfl rfl (fun c54 => ?_) (fun c54 => ?_)
          · obtain ⟨a57, r56, k58, e59⟩ := I43.get ho hE (36)
            have k58 : κ a57 = (62, 2) := k58
            obtain ⟨x61, r60⟩ := I43.get k58 e59 ((nI e).toNatClampNeg)
            have I62 := I43.set (k := (nI e).toNatClampNeg) (v := .int ((nI 2) * (x61))) k46 ⟨_, rfl⟩
            obtain ⟨a64, r63, k65, e66⟩ := I62.get ho hE (40)
            have k65 : κ a64 = (66, 2) := k65
            have r67 := I62.get ho hE (1)
            have I68 := I62.set (k := (nI e).toNatClampNeg) (v := .int (nI (P 1))) k65 ⟨_, rfl⟩
            refine ft_run_ok k_M_tooLong 13 _ _ _ _ [.ref a57, .int (x61), .ref a64, .int (nI (P 1))] rfl ⟨I43.K ho, r56, I43.Kd k58 rfl, I43.vi k58 (by omega) (by decide), r60, I43.Kd k46 rfl, I43.B k46, I43.vi k46 (by omega) (by decide), I62.K ho, r63, I62.K ho, r67, I62.Kd k65 rfl, I62.B k65, I62.vi k65 (by omega) (by decide), trivial⟩ ?_
            exact r_ret (v := none) k_M_tooLong rfl trivial (Nat.le_of_ble_eq_true rfl) (Nat.le_of_ble_eq_true rfl) ⟨rfl, I68⟩
          · have I70 := I43.set (k := (nI e).toNatClampNeg) (v := .int (nI 64)) k46 ⟨_, rfl⟩
            obtain ⟨a72, r71, k73, e74⟩ := I70.get ho hE (40)
            have k73 : κ a72 = (66, 2) := k73
            have r75 := I70.get ho hE (1)
            have I76 := I70.set (k := (nI e).toNatClampNeg) (v := .int (nI (P 1))) k73 ⟨_, rfl⟩
            refine ft_run_ok k_M_tooLong 9 _ _ _ _ [.ref a72, .int (nI (P 1))] rfl ⟨I43.Kd k46 rfl, I43.B k46, I43.vi k46 (by omega) (by decide), I70.K ho, r71, I70.K ho, r75, I70.Kd k73 rfl, I70.B k73, I70.vi k73 (by omega) (by decide), trivial⟩ ?_
            exact r_ret (v := none) k_M_tooLong rfl trivial (Nat.le_of_ble_eq_true rfl) (Nat.le_of_ble_eq_true rfl) ⟨rfl, I76⟩
        · have I78 := I.set (k := (nI e).toNatClampNeg) (v := .int (nI 2)) k11 ⟨_, rfl⟩
          obtain ⟨a80, r79, k81, e82⟩ := I78.get ho hE (34)
          have k81 : κ a80 = (60, 2) := k81
          have I83 := I78.set (k := (nI e).toNatClampNeg) (v := .int (nI 1)) k81 ⟨_, rfl⟩
          obtain ⟨a85, r84, k86, e87⟩ := I83.get ho hE (37)
          have k86 : κ a85 = (63, 2) := k86
          have I88 := I83.set (k := (nI e).toNatClampNeg) (v := .int (nI 0)) k86 ⟨_, rfl⟩
          obtain ⟨a90, r89, k91, e92⟩ := I88.get ho hE (38)
          have k91 : κ a90 = (64, 2) := k91
          have I93 := I88.set (k := (nI e).toNatClampNeg) (v := narrow .boolean (.int (nI 1))) k91 ⟨_, rfl⟩
          obtain ⟨a95, r94, k96, e97⟩ := I93.get ho hE (39)
          have k96 : κ a95 = (65, 2) := k96
          obtain ⟨a99, r98, k100, e101⟩ := I93.get ho hE (10)
          have k100 : κ a99 = (36, 2) := k100
          obtain ⟨x103, r102⟩ := I93.get k100 e101 ((nI e).toNatClampNeg)
          refine ft_run_ok k_M_tooLong 27 _ _ _ _ [.ref a80, .ref a85, .ref a90, .ref a95, .ref a99, .long (x103)] rfl ⟨I.Kd k11 rfl, I.B k11, I.vi k11 (by omega) (by decide), I78.K ho, r79, I78.Kd k81 rfl, I78.B k81, I78.vi k81 (by omega) (by decide), I83.K ho, r84, I83.Kd k86 rfl, I83.B k86, I83.vi k86 (by omega) (by decide), I88.K ho, r89, I88.Kd k91 rfl, I88.B k91, I88.vi k91 (by omega) (by decide), I93.K ho, r94, I93.K ho, r98, I93.Kd k100 rfl, I93.vi k100 (by omega) (by decide), r102, trivial⟩ ?_
          refine r_callS (as := [.long ((x103) - (lN 1))]) (r := [.int (nI e), .ref a95]) k_M_tooLong rfl z_M_around rfl (Nat.le_of_ble_eq_true rfl) (Nat.le_of_ble_eq_true rfl) (Nat.le_of_ble_eq_true rfl) (Nat.le_of_ble_eq_true rfl) (t_M_around) ?_
          rintro v h' ⟨⟨n104, b105, rfl⟩, rfl⟩
          have I106 := I93.set (k := (nI e).toNatClampNeg) (v := .long (lN n104)) k96 ⟨_, rfl⟩
          obtain ⟨a108, r107, k109, e110⟩ := I106.get ho hE (36)
          have k109 : κ a108 = (62, 2) := k109
          obtain ⟨a112, r111, k113, e114⟩ := I106.get ho hE (36)
          have k113 : κ a112 = (62, 2) := k113
          obtain ⟨x116, r115⟩ := I106.get k113 e114 ((nI e).toNatClampNeg)
          refine ft_run_ok k_M_tooLong 11 _ _ _ _ [.ref a108, .ref a112, .int (x116)] rfl ⟨I93.Kd k96 rfl, I93.B k96, I93.vi k96 (by omega) (by decide), I106.K ho, r107, I106.K ho, r111, I106.Kd k113 rfl, I106.vi k113 (by omega) (by decide), r115, trivial⟩ ?_
          refine r_icmp k_M_tooLong rfl rfl (fun c117 => ?_) (fun c117 => ?_)
          · obtain ⟨a120, r119, k121, e122⟩ := I106.get ho hE (36)
            have k121 : κ a120 = (62, 2) := k121
            obtain ⟨x124, r123⟩ := I106.get k121 e122 ((nI e).toNatClampNeg)
            have I125 := I106.set (k := (nI e).toNatClampNeg) (v := .int ((nI 2) * (x124))) k109 ⟨_, rfl⟩
            obtain ⟨a127, r126, k128, e129⟩ := I125.get ho hE (40)
            have k128 : κ a127 = (66, 2) := k128
            have r130 := I125.get ho hE (1)
            have I131 := I125.set (k := (nI e).toNatClampNeg) (v := .int (nI (P 1))) k128 ⟨_, rfl⟩
            refine ft_run_ok k_M_tooLong 13 _ _ _ _ [.ref a120, .int (x124), .ref a127, .int (nI (P 1))] rfl ⟨I106.K ho, r119, I106.Kd k121 rfl, I106.vi k121 (by omega) (by decide), r123, I106.Kd k109 rfl, I106.B k109, I106.vi k109 (by omega) (by decide), I125.K ho, r126, I125.K ho, r130, I125.Kd k128 rfl, I125.B k128, I125.vi k128 (by omega) (by decide), trivial⟩ ?_
            exact r_ret (v := none) k_M_tooLong rfl trivial (Nat.le_of_ble_eq_true rfl) (Nat.le_of_ble_eq_true rfl) ⟨rfl, I131⟩
          · have I133 := I106.set (k := (nI e).toNatClampNeg) (v := .int (nI 64)) k109 ⟨_, rfl⟩
            obtain ⟨a135, r134, k136, e137⟩ := I133.get ho hE (40)
            have k136 : κ a135 = (66, 2) := k136
            have r138 := I133.get ho hE (1)
            have I139 := I133.set (k := (nI e).toNatClampNeg) (v := .int (nI (P 1))) k136 ⟨_, rfl⟩
            refine ft_run_ok k_M_tooLong 9 _ _ _ _ [.ref a135, .int (nI (P 1))] rfl ⟨I106.Kd k109 rfl, I106.B k109, I106.vi k109 (by omega) (by decide), I133.K ho, r134, I133.K ho, r138, I133.Kd k136 rfl, I133.B k136, I133.vi k136 (by omega) (by decide), trivial⟩ ?_
            exact r_ret (v := none) k_M_tooLong rfl trivial (Nat.le_of_ble_eq_true rfl) (Nat.le_of_ble_eq_true rfl) ⟨rfl, I139⟩
      · have g140 := ft_nle (a := j) (b := 256) (by omega) (by omega) c1
        obtain ⟨a142, r141, k143, e144⟩ := I.get ho hE (10)
        have k143 : κ a142 = (36, 2) := k143
        obtain ⟨x146, r145⟩ := I.get k143 e144 ((nI e).toNatClampNeg)
        refine ft_run_ok k_M_tooLong 7 _ _ _ _ [.ref a142, .long (x146)] rfl ⟨I.K ho, r141, I.Kd k143 rfl, I.vi k143 (by omega) (by decide), r145, trivial⟩ ?_
        refine r_callS (as := [.long ((x146) - ((nI j).toInt64))]) (r := []) k_M_tooLong rfl z_M_around rfl (Nat.le_of_ble_eq_true rfl) (Nat.le_of_ble_eq_true rfl) (Nat.le_of_ble_eq_true rfl) (Nat.le_of_ble_eq_true rfl) (t_M_around) ?_
        rintro v h' ⟨⟨n147, b148, rfl⟩, rfl⟩
        refine ft_run_ok k_M_tooLong 4 _ _ _ _ [] rfl trivial ?_
        refine r_callV (as := [.int (nI e), .long (lN n147)]) (a := o) (ci := 11) (r := []) k_M_tooLong rfl z_M_isOwn rfl (by decide) rfl (I.K ho) (Nat.le_of_ble_eq_true rfl) (Nat.le_of_ble_eq_true rfl) (Nat.le_of_ble_eq_true rfl) (Nat.le_of_ble_eq_true rfl) (t_M_isOwn I ho hE (e := e) rfl (by omega)) ?_
        rintro v h' ⟨⟨n149, b150, rfl⟩, rfl⟩
        refine r_if k_M_tooLong rfl rfl (fun c151 => ?_) (fun c151 => ?_)
        · have g152 := ft_eq0 (a := n149) (by omega) c151
          refine ft_run_ok k_M_tooLong 2 _ _ _ _ [] rfl trivial ?_
          rw [show ((nI j) + nI 1) = nI (j + 1) from by simp only [nI_add, pk_mul]]
          exact sm_sub [2, 3, 0] rfl (ih31 (j + 1) (by omega) (by omega) _ I)
        · have g153 := ft_ne0 (a := n149) c151
          obtain ⟨a155, r154, k156, e157⟩ := I.get ho hE (17)
          have k156 : κ a155 = (43, 512) := k156
          refine ft_run_ok k_M_tooLong 4 _ _ _ _ [.ref a155] rfl ⟨I.K ho, r154, trivial⟩ ?_
          refine r_callS (as := [.int (nI e), .long (lN n147)]) (r := [.ref a155]) k_M_tooLong rfl z_M_at rfl (Nat.le_of_ble_eq_true rfl) (Nat.le_of_ble_eq_true rfl) (Nat.le_of_ble_eq_true rfl) (Nat.le_of_ble_eq_true rfl) (t_M_at (e := e) rfl (by omega)) ?_
          rintro v h' ⟨⟨n158, b159, rfl⟩, rfl⟩
          obtain ⟨x161, r160⟩ := I.get k156 e157 ((nI n158).toNatClampNeg)
          refine ft_run_ok k_M_tooLong 2 _ _ _ _ [.int (x161)] rfl ⟨I.Kd k156 rfl, I.vi k156 (by omega) (by decide), r160, trivial⟩ ?_
          refine r_icmp k_M_tooLong rfl rfl (fun c162 => ?_) (fun c162 => ?_)
          · refine ft_run_ok k_M_tooLong 2 _ _ _ _ [] rfl trivial ?_
            rw [show ((nI j) + nI 1) = nI (j + 1) from by simp only [nI_add, pk_mul]]
            exact sm_sub [2, 3, 0] rfl (ih31 (j + 1) (by omega) (by omega) _ I)
          · obtain ⟨a166, r165, k167, e168⟩ := I.get ho hE (17)
            have k167 : κ a166 = (43, 512) := k167
            refine ft_run_ok k_M_tooLong 4 _ _ _ _ [.ref a166] rfl ⟨I.K ho, r165, trivial⟩ ?_
            refine r_callS (as := [.int (nI e), .long (lN n147)]) (r := [.ref a166]) k_M_tooLong rfl z_M_at rfl (Nat.le_of_ble_eq_true rfl) (Nat.le_of_ble_eq_true rfl) (Nat.le_of_ble_eq_true rfl) (Nat.le_of_ble_eq_true rfl) (t_M_at (e := e) rfl (by omega)) ?_
            rintro v h' ⟨⟨n169, b170, rfl⟩, rfl⟩
            have I171 := I.set (k := (nI n169).toNatClampNeg) (v := .int (nI 3)) k167 ⟨_, rfl⟩
            refine ft_run_ok k_M_tooLong 4 _ _ _ _ [] rfl ⟨I.Kd k167 rfl, I.B k167, I.vi k167 (by omega) (by decide), trivial⟩ ?_
            rw [show ((nI j) + nI 1) = nI (j + 1) from by simp only [nI_add, pk_mul]]
            exact sm_sub [2, 3, 0] rfl (ih31 (j + 1) (by omega) (by omega) _ I171)
  refine ft_run_ok k_M_tooLong 2 _ _ _ _ [] rfl trivial ?_
  refine r_callV (as := [.int (nI e)]) (a := o) (ci := 11) (r := []) k_M_tooLong rfl z_M_pipe rfl (by decide) rfl (I.K ho) (Nat.le_of_ble_eq_true rfl) (Nat.le_of_ble_eq_true rfl) (Nat.le_of_ble_eq_true rfl) (Nat.le_of_ble_eq_true rfl) (t_M_pipe I ho hE (e := e) rfl (by omega)) ?_
  rintro v h' ⟨⟨x172, rfl⟩, rfl⟩
  refine r_if k_M_tooLong rfl rfl (fun c173 => ?_) (fun c173 => ?_)
  · exact r_ret (v := none) k_M_tooLong rfl trivial (Nat.le_of_ble_eq_true rfl) (Nat.le_of_ble_eq_true rfl) ⟨rfl, I⟩
  · have r176 := I.get ho hE (1)
    obtain ⟨a178, r177, k179, e180⟩ := I.get ho hE (40)
    have k179 : κ a178 = (66, 2) := k179
    obtain ⟨x182, r181⟩ := I.get k179 e180 ((nI e).toNatClampNeg)
    obtain ⟨a184, r183, k185, e186⟩ := I.get ho hE (36)
    have k185 : κ a184 = (62, 2) := k185
    obtain ⟨x188, r187⟩ := I.get k185 e186 ((nI e).toNatClampNeg)
    refine ft_run_ok k_M_tooLong 11 _ _ _ _ [.int (nI (P 1)), .ref a178, .int (x182), .ref a184, .int (x188)] rfl ⟨I.K ho, r176, I.K ho, r177, I.Kd k179 rfl, I.vi k179 (by omega) (by decide), r181, I.K ho, r183, I.Kd k185 rfl, I.vi k185 (by omega) (by decide), r187, trivial⟩ ?_
    refine r_icmp k_M_tooLong rfl rfl (fun c189 => ?_) (fun c189 => ?_)
    · refine ft_run_ok k_M_tooLong 2 _ _ _ _ [] rfl trivial ?_
      exact sm_sub [1, 2, 0] rfl (L31 _ (1) (by omega) (Nat.lt_succ_self _) _ I)
    · exact r_ret (v := none) k_M_tooLong rfl trivial (Nat.le_of_ble_eq_true rfl) (Nat.le_of_ble_eq_true rfl) ⟨rfl, I⟩
end M3
end
section
section M4
variable {D : ft_G} {h : ft_H} {κ : Nat → Nat × Nat} {n : Nat} {E : Nat → Prop} {P : Nat → Nat}
theorem t_M_checkOf {a c m f z : Nat} {x_f x_z : Int32} (hK : h.2.1 a = (c, m)) (hc : ft_kd c = some (.inr .int)) (hby : ∀ k : Nat, ∃ x : Nat, x ≤ 255 ∧ h.1 a k = .int (nI x)) (q_f : x_f = nI f) (q_z : x_z = nI z) (hz : z ≤ 256) (hm : f + z ≤ m) (hm2 : m < 2 ^ 20) : sm D y_M_checkOf 0 (lv_args 0 [.ref a, .int x_f, .int x_z]) [] h 0 0 (fun v h' => (∃ j : Nat, j < 65536 ∧ v = some (.int (nI j))) ∧ h' = h) := by
  subst q_f
  subst q_z
  have X : ∀ (s : Nat) (lv : List (Nat × Value)), s ≤ 65535 → ft_lk 3 lv = some (.int (nI s)) → sm D y_M_checkOf 95 [(3, .int (nI s))] [] h 0 0 (fun v h' => (∃ j : Nat, j < 65536 ∧ v = some (.int (nI j))) ∧ h' = h) := by
    intro s lv hs _
    refine ft_run_ok k_M_checkOf 3 _ _ _ _ [] rfl trivial ?_
    exact r_ret (v := some (.int (nI 65535 - nI s))) k_M_checkOf rfl trivial (Nat.le_refl 0) (Nat.le_refl 0) ⟨⟨65535 - s, by omega, by rw [pk_sub (by omega)]⟩, rfl⟩
  have L64 : ∀ (t i s : Nat), i ≤ 8 → ((i = 0 ∧ s ≤ 16711680) ∨ (i = 1 ∧ s ≤ 65790) ∨ (2 ≤ i ∧ s ≤ 65535)) → 8 - i < t → sm D y_M_checkOf 64 [(3, .int (nI s)), (4, .int (nI i))] [] h 0 0 (fun v h' => (∃ j : Nat, j < 65536 ∧ v = some (.int (nI j))) ∧ h' = h) := by
    intro t
    induction t with
    | zero => intro i s _ _ ht; exact absurd ht (Nat.not_lt_zero _)
    | succ t ih =>
      intro i s hi hs ht
      refine ft_run_ok k_M_checkOf 2 _ _ _ _ [] rfl trivial ?_
      refine r_icmp k_M_checkOf rfl rfl (fun c1 => ?_) (fun c1 => ?_)
      · have g1 := ft_le (a := 8) (b := i) (by omega) (by omega) c1
        exact sm_sub [0] rfl (X s [(3, .int (nI s))] (by omega) rfl)
      · have g1 := ft_nle (a := i) (b := 8) (by omega) (by omega) c1
        refine ft_run_ok k_M_checkOf 2 _ _ _ _ [] rfl trivial ?_
        refine r_icmp k_M_checkOf rfl rfl (fun c2 => ?_) (fun c2 => ?_)
        · have g2 := ft_le (a := s) (b := 65535) (by omega) (by omega) c2
          exact sm_sub [0] rfl (X s [(3, .int (nI s))] (by omega) rfl)
        · have g2 := ft_nle (a := 65535) (b := s) (by omega) (by omega) c2
          refine ft_run_ok k_M_checkOf 10 _ _ _ _ [] rfl trivial ?_
          rw [show nI i + nI 1 = nI (i + 1) from nI_add i 1, show (nI s &&& nI 65535) + (nI s >>> (nI 16 &&& 31)) = nI (s % 65536 + s / 65536) from by
            rw [pk_andN (by omega) (m := nI 65535) 16 (by decide), pk_shrN (by omega) (nI 16 &&& 31) 16 (by decide), nI_add]]
          exact sm_sub [1, 0] rfl (ih (i + 1) (s % 65536 + s / 65536) (by omega) (by omega) (by omega))
  have L5 : ∀ (t j s : Nat), j ≤ z → s ≤ j * 65280 → z - j < t → sm D y_M_checkOf 5 [(0, .ref a), (1, .int (nI f)), (2, .int (nI z)), (3, .int (nI s)), (4, .int (nI j))] [] h 0 0 (fun v h' => (∃ j : Nat, j < 65536 ∧ v = some (.int (nI j))) ∧ h' = h) := by
    intro t
    induction t with
    | zero => intro j s _ _ ht; exact absurd ht (Nat.not_lt_zero _)
    | succ t ih =>
      intro j s hj hs ht
      refine ft_run_ok k_M_checkOf 2 _ _ _ _ [] rfl trivial ?_
      refine r_icmp k_M_checkOf rfl rfl (fun c1 => ?_) (fun c1 => ?_)
      · refine ft_run_ok k_M_checkOf 2 _ _ _ _ [] rfl trivial ?_
        exact sm_sub [4, 0] rfl (L64 9 0 s (by omega) (by omega) (by omega))
      · have g1 := ft_nle (a := j) (b := z) (by omega) (by omega) c1
        have J : ∀ b : Nat, b ≤ 255 → sm D y_M_checkOf 33 [(0, .ref a), (1, .int (nI f)), (2, .int (nI z)), (3, .int (nI s)), (4, .int (nI j))] [.int (nI b)] h 0 0 (fun v h' => (∃ j : Nat, j < 65536 ∧ v = some (.int (nI j))) ∧ h' = h) := by
          intro b hb
          refine ft_run_ok k_M_checkOf 5 _ _ _ _ [] rfl ⟨(by decide), trivial⟩ ?_
          refine r_if k_M_checkOf rfl rfl (fun c2 => ?_) (fun c2 => ?_)
          · refine ft_run_ok k_M_checkOf 5 _ _ _ _ [] rfl trivial ?_
            rw [show nI j + nI 1 = nI (j + 1) from nI_add j 1, show nI s + nI b = nI (s + b) from nI_add s b]
            exact sm_sub [3, 4, 5, 1, 0] rfl (ih (j + 1) (s + b) (by omega) (by omega) (by omega))
          · refine ft_run_ok k_M_checkOf 8 _ _ _ _ [] rfl trivial ?_
            rw [show nI j + nI 1 = nI (j + 1) from nI_add j 1, show nI s + nI b <<< (nI 8 &&& 31) = nI (s + b * 256) from by rw [pk_shlN (nI 8 &&& 31) 8 (by decide) (by omega), nI_add]]
            exact sm_sub [3, 4, 5, 1, 0] rfl (ih (j + 1) (s + b * 256) (by omega) (by omega) (by omega))
        refine ft_run_ok k_M_checkOf 2 _ _ _ _ [] rfl trivial ?_
        refine r_icmp k_M_checkOf rfl rfl (fun c2 => ?_) (fun c2 => ?_)
        · refine ft_run_ok k_M_checkOf 2 _ _ _ _ [] rfl trivial ?_
          exact J 0 (by omega)
        · refine ft_run_ok k_M_checkOf 2 _ _ _ _ [] rfl trivial ?_
          refine r_icmp k_M_checkOf rfl rfl (fun c3 => ?_) (fun c3 => ?_)
          · obtain ⟨x, hx, r1⟩ := hby ((nI f + nI j).toNatClampNeg)
            refine ft_run_ok k_M_checkOf 5 _ _ _ _ [.int (nI x)] rfl ⟨(by rw [hK]; exact hc), (by rw [hK]; simp only [nI_add]; exact vp_in_nI (by omega) (by omega)), r1, trivial⟩ ?_
            exact J x hx
          · refine ft_run_ok k_M_checkOf 2 _ _ _ _ [] rfl trivial ?_
            exact J 0 (by omega)
  refine ft_run_ok k_M_checkOf 4 _ _ _ _ [] rfl trivial ?_
  exact sm_sub [2, 3, 4, 1, 0] rfl (L5 (z + 1) 0 0 (by omega) (by omega) (by omega))
end M4
end
section
set_option maxRecDepth 100000 in
theorem k_M_isRight_0 : ft_chkL 168 ft_c168_0 = true := by decide +kernel
set_option maxRecDepth 100000 in
theorem k_M_isRight_1 : ft_chkL 168 ft_c168_1 = true := by decide +kernel
theorem k_M_isRight : ft_chk 168 = true := ft_chk_app k_M_isRight_0 (k_M_isRight_1)
set_option maxRecDepth 100000 in
theorem z_M_isRight : ft_zok 168 := ⟨⟨1322, rfl⟩, ⟨84, by decide +kernel⟩, by decide +kernel, by decide +kernel⟩
set_option maxRecDepth 100000 in
theorem z_M_checkOf : ft_zok 154 := ⟨⟨1259, rfl⟩, ⟨84, by decide +kernel⟩, by decide +kernel, by decide +kernel⟩
set_option maxRecDepth 100000 in
theorem z_M_headOf : ft_zok 169 := ⟨⟨1326, rfl⟩, ⟨84, by decide +kernel⟩, by decide +kernel, by decide +kernel⟩
end
section
section M5
variable {D : ft_G} {h : ft_H} {κ : Nat → Nat × Nat} {n : Nat} {E : Nat → Prop} {P : Nat → Nat}
theorem t_M_isRight {o : Nat} (I : Iv D κ n E P h) (ho : κ o = (kd_M, 0)) (hE : ¬ E o) : sm D y_M_isRight 0 (lv_args 0 [.ref o]) [] h 0 0 (fun v h' => (∃ b : Nat, b ≤ 1 ∧ v = some (.int (nI b)) ∧ (b = 1 → P 5 ≤ 9 ∧ P 6 ≤ 120 ∧ hdN (P 5) + P 6 ≤ P 7 ∧ P 7 ≤ hdN (P 5) + P 6 + 40)) ∧ h' = h) := by
  obtain ⟨a1, r1, k1, e1⟩ := I.get ho hE pl_M_came
  have k1 : κ a1 = (kd_M_came, 256) := k1
  have rs : h.1 o pl_M_cameSize = .int (nI (P 7)) := I.get ho hE pl_M_cameSize
  have p0 : h.1 a1 0 = .int (nI (P 5)) := I.get k1 e1 0
  have p1 : h.1 a1 1 = .int (nI (P 6)) := I.get k1 e1 1
  obtain ⟨x2, hx2, p2⟩ := I.came k1 e1 2
  obtain ⟨x3, hx3, p3⟩ := I.came k1 e1 3
  have bb := I.ok
  unfold Pok at bb
  have hd := hdN_le (P 5)
  have v0 := I.vi k1 (show 0 < 256 by decide) (by decide)
  have v1 := I.vi k1 (show 1 < 256 by decide) (by decide)
  have v2 := I.vi k1 (show 2 < 256 by decide) (by decide)
  have v3 := I.vi k1 (show 3 < 256 by decide) (by decide)
  refine ft_run_ok k_M_isRight 3 _ _ _ _ [.int (nI (P 7))] rfl ⟨I.K ho, rs, trivial⟩ ?_
  refine r_icmp k_M_isRight rfl rfl (fun c1 => ?_) (fun c1 => ?_)
  · refine ft_run_ok k_M_isRight 1 _ _ _ _ [] rfl trivial ?_
    exact r_ret (v := some (.int (nI 0))) k_M_isRight rfl rfl (Nat.le_of_ble_eq_true rfl) (Nat.le_of_ble_eq_true rfl) ⟨⟨0, by omega, rfl, by omega⟩, rfl⟩
  refine ft_run_ok k_M_isRight 5 _ _ _ _ [.ref a1, .int (nI (P 5))] rfl ⟨I.K ho, r1, I.Kd k1 rfl, v0, p0, trivial⟩ ?_
  refine r_icmp k_M_isRight rfl rfl (fun c2 => ?_) (fun c2 => ?_)
  · refine ft_run_ok k_M_isRight 1 _ _ _ _ [] rfl trivial ?_
    exact r_ret (v := some (.int (nI 0))) k_M_isRight rfl rfl (Nat.le_of_ble_eq_true rfl) (Nat.le_of_ble_eq_true rfl) ⟨⟨0, by omega, rfl, by omega⟩, rfl⟩
  have g2 := ft_nlt (a := 9) (b := P 5) (by omega) (by omega) c2
  refine ft_run_ok k_M_isRight 5 _ _ _ _ [.ref a1, .int (nI (P 6))] rfl ⟨I.K ho, r1, I.Kd k1 rfl, v1, p1, trivial⟩ ?_
  refine r_icmp k_M_isRight rfl rfl (fun c3 => ?_) (fun c3 => ?_)
  rotate_left
  · refine ft_run_ok k_M_isRight 1 _ _ _ _ [] rfl trivial ?_
    exact r_ret (v := some (.int (nI 0))) k_M_isRight rfl rfl (Nat.le_of_ble_eq_true rfl) (Nat.le_of_ble_eq_true rfl) ⟨⟨0, by omega, rfl, by omega⟩, rfl⟩
  have g3 := ft_le (a := P 6) (b := 120) (by omega) (by omega) c3
  refine ft_run_ok k_M_isRight 9 _ _ _ _ [.ref a1, .int (nI (P 5)), .int (nI (P 7))] rfl ⟨I.K ho, r1, I.Kd k1 rfl, v0, p0, I.K ho, rs, trivial⟩ ?_
  refine r_callV (as := [.int (nI (P 5))]) (a := o) (ci := 11) (r := [.int (nI (P 7))]) k_M_isRight rfl z_M_headOf rfl (by decide) rfl (I.K ho) (Nat.le_of_ble_eq_true rfl) (Nat.le_of_ble_eq_true rfl) (Nat.le_of_ble_eq_true rfl) (Nat.le_of_ble_eq_true rfl) (t_M_headOf I ho hE rfl (by omega)) ?_
  rintro v h' ⟨rfl, rfl⟩
  refine ft_run_ok k_M_isRight 7 _ _ _ _ [.ref a1, .int (nI (P 6))] rfl ⟨I.K ho, r1, I.Kd k1 rfl, v1, p1, trivial⟩ ?_
  generalize hR : nI (P 7) - nI (hdN (P 5)) - nI (P 6) = R
  have hRi : R.toInt = (P 7 : Int) - (hdN (P 5) + P 6 : Nat) := by
    rw [← hR, Int32.sub_sub, nI_add]
    exact pk_sub_toInt (by omega) (by omega)
  have Z : ∀ lv : List (Nat × Value), sm D y_M_isRight 106 lv [] h' (0 + ft_mc y_M_headOf) (0 + ft_mz y_M_headOf) (fun v h'' => (∃ b : Nat, b ≤ 1 ∧ v = some (.int (nI b)) ∧ (b = 1 → P 5 ≤ 9 ∧ P 6 ≤ 120 ∧ hdN (P 5) + P 6 ≤ P 7 ∧ P 7 ≤ hdN (P 5) + P 6 + 40)) ∧ h'' = h') := by
    intro lv
    refine ft_run_ok k_M_isRight 1 _ _ _ _ [] rfl trivial ?_
    exact r_ret (v := some (.int (nI 0))) k_M_isRight rfl rfl (Nat.le_of_ble_eq_true rfl) (Nat.le_of_ble_eq_true rfl) ⟨⟨0, by omega, rfl, by omega⟩, rfl⟩
  have Y : hdN (P 5) + P 6 ≤ P 7 → P 7 ≤ hdN (P 5) + P 6 + 40 → sm D y_M_isRight 108 [(0, .ref o)] [] h' (0 + ft_mc y_M_headOf) (0 + ft_mz y_M_headOf) (fun v h'' => (∃ b : Nat, b ≤ 1 ∧ v = some (.int (nI b)) ∧ (b = 1 → P 5 ≤ 9 ∧ P 6 ≤ 120 ∧ hdN (P 5) + P 6 ≤ P 7 ∧ P 7 ≤ hdN (P 5) + P 6 + 40)) ∧ h'' = h') := by
    intro y1 y2
    refine ft_run_ok k_M_isRight 5 _ _ _ _ [.ref a1, .int (nI (P 7))] rfl ⟨I.K ho, r1, I.K ho, rs, trivial⟩ ?_
    refine r_callS (as := [.ref a1, .int (nI 0), .int (nI (P 7))]) (r := []) k_M_isRight rfl z_M_checkOf rfl (Nat.le_of_ble_eq_true rfl) (Nat.le_of_ble_eq_true rfl) (Nat.le_of_ble_eq_true rfl) (Nat.le_of_ble_eq_true rfl) (t_M_checkOf (c := kd_M_came) (m := 256) (by rw [I.kinds]; exact k1) rfl (fun k => I.came k1 e1 k) rfl rfl (by omega) (by omega) (by decide)) ?_
    rintro v h3 ⟨⟨j, hj, rfl⟩, rfl⟩
    refine ft_run_ok k_M_isRight 11 _ _ _ _ [.ref a1, .int (nI x2), .ref a1, .int (nI x3)] rfl ⟨I.K ho, r1, I.Kd k1 rfl, v2, p2, I.K ho, r1, I.Kd k1 rfl, v3, p3, trivial⟩ ?_
    refine r_icmp k_M_isRight rfl rfl (fun c4 => ?_) (fun c4 => ?_)
    · refine ft_run_ok k_M_isRight 1 _ _ _ _ [] rfl trivial ?_
      exact r_ret (v := some (.int (nI 0))) k_M_isRight rfl rfl (Nat.le_of_ble_eq_true rfl) (Nat.le_of_ble_eq_true rfl) ⟨⟨0, by omega, rfl, by omega⟩, rfl⟩
    · refine ft_run_ok k_M_isRight 2 _ _ _ _ [] rfl trivial ?_
      exact r_ret (v := some (.int (nI 1))) k_M_isRight rfl rfl (Nat.le_of_ble_eq_true rfl) (Nat.le_of_ble_eq_true rfl) ⟨⟨1, by omega, rfl, fun _ => ⟨g2, g3, y1, y2⟩⟩, rfl⟩
  have J : ∀ d : Nat, d ≤ 1 → sm D y_M_isRight 74 [(0, .ref o), (1, .int (nI (P 5))), (2, .int R), (3, .int (nI d))] [] h' (0 + ft_mc y_M_headOf) (0 + ft_mz y_M_headOf) (fun v h'' => (∃ b : Nat, b ≤ 1 ∧ v = some (.int (nI b)) ∧ (b = 1 → P 5 ≤ 9 ∧ P 6 ≤ 120 ∧ hdN (P 5) + P 6 ≤ P 7 ∧ P 7 ≤ hdN (P 5) + P 6 + 40)) ∧ h'' = h') := by
    intro d hd1
    refine ft_run_ok k_M_isRight 1 _ _ _ _ [] rfl trivial ?_
    refine r_if k_M_isRight rfl rfl (fun c4 => ?_) (fun c4 => ?_)
    · exact Z _
    have y1 : hdN (P 5) + P 6 ≤ P 7 := by
      have q := Int32.le_iff_toInt_le.mp (Int32.not_lt.mp c4)
      rw [hRi] at q
      simp at q
      omega
    have T : ∀ w : Nat, w ≤ 40 → sm D y_M_isRight 89 [(0, .ref o), (1, .int (nI (P 5)))] [.int (nI w), .int R] h' (0 + ft_mc y_M_headOf) (0 + ft_mz y_M_headOf) (fun v h'' => (∃ b : Nat, b ≤ 1 ∧ v = some (.int (nI b)) ∧ (b = 1 → P 5 ≤ 9 ∧ P 6 ≤ 120 ∧ hdN (P 5) + P 6 ≤ P 7 ∧ P 7 ≤ hdN (P 5) + P 6 + 40)) ∧ h'' = h') := by
      intro w hw
      refine r_icmp k_M_isRight rfl rfl (fun c5 => ?_) (fun c5 => ?_)
      · exact Z _
      have y2 : P 7 ≤ hdN (P 5) + P 6 + 40 := by
        have q := Int32.le_iff_toInt_le.mp (Int32.not_lt.mp c5)
        rw [hRi, nI_toInt (by omega)] at q
        omega
      refine ft_run_ok k_M_isRight 2 _ _ _ _ [] rfl trivial ?_
      refine r_icmp k_M_isRight rfl rfl (fun c6 => ?_) (fun c6 => ?_)
      · exact sm_sub [0] rfl (Y y1 y2)
      refine ft_run_ok k_M_isRight 4 _ _ _ _ [.ref a1, .int (nI (P 6))] rfl ⟨I.K ho, r1, I.Kd k1 rfl, v1, p1, trivial⟩ ?_
      refine r_if k_M_isRight rfl rfl (fun c7 => ?_) (fun c7 => ?_)
      · exact sm_sub [0] rfl (Y y1 y2)
      · exact Z _
    refine ft_run_ok k_M_isRight 2 _ _ _ _ [] rfl trivial ?_
    refine r_if k_M_isRight rfl rfl (fun c5 => ?_) (fun c5 => ?_)
    · refine ft_run_ok k_M_isRight 1 _ _ _ _ [] rfl trivial ?_
      exact sm_sub [0, 1] rfl (T 0 (by omega))
    · refine ft_run_ok k_M_isRight 2 _ _ _ _ [] rfl trivial ?_
      exact sm_sub [0, 1] rfl (T 40 (by omega))
  refine ft_run_ok k_M_isRight 2 _ _ _ _ [] rfl trivial ?_
  refine r_icmp k_M_isRight rfl rfl (fun c4 => ?_) (fun c4 => ?_)
  · refine ft_run_ok k_M_isRight 3 _ _ _ _ [] rfl trivial ?_
    exact sm_sub [3, 2, 1, 0] rfl (J 1 (by omega))
  refine ft_run_ok k_M_isRight 2 _ _ _ _ [] rfl trivial ?_
  refine r_icmp k_M_isRight rfl rfl (fun c5 => ?_) (fun c5 => ?_)
  · refine ft_run_ok k_M_isRight 2 _ _ _ _ [] rfl trivial ?_
    exact sm_sub [3, 2, 1, 0] rfl (J 0 (by omega))
  · refine ft_run_ok k_M_isRight 3 _ _ _ _ [] rfl trivial ?_
    exact sm_sub [3, 2, 1, 0] rfl (J 1 (by omega))
end M5
end
section
set_option maxRecDepth 100000 in
theorem z_M_init : ft_zok 131 := ⟨⟨973, rfl⟩, ⟨84, by decide +kernel⟩, by decide +kernel, by decide +kernel⟩
set_option maxRecDepth 100000 in
theorem z_M_atFirst : ft_zok 133 := ⟨⟨982, rfl⟩, ⟨84, by decide +kernel⟩, by decide +kernel, by decide +kernel⟩
set_option maxRecDepth 100000 in
theorem z_M_open : ft_zok 135 := ⟨⟨1186, rfl⟩, ⟨84, by decide +kernel⟩, by decide +kernel, by decide +kernel⟩
set_option maxRecDepth 100000 in
theorem z_M_become : ft_zok 136 := ⟨⟨1190, rfl⟩, ⟨84, by decide +kernel⟩, by decide +kernel, by decide +kernel⟩
set_option maxRecDepth 100000 in
theorem z_M_sendPlain : ft_zok 137 := ⟨⟨1194, rfl⟩, ⟨84, by decide +kernel⟩, by decide +kernel, by decide +kernel⟩
set_option maxRecDepth 100000 in
theorem z_M_send : ft_zok 138 := ⟨⟨1198, rfl⟩, ⟨84, by decide +kernel⟩, by decide +kernel, by decide +kernel⟩
set_option maxRecDepth 100000 in
theorem z_M_six : ft_zok 146 := ⟨⟨1228, rfl⟩, ⟨84, by decide +kernel⟩, by decide +kernel, by decide +kernel⟩
set_option maxRecDepth 100000 in
theorem z_M_putConfirms : ft_zok 148 := ⟨⟨1235, rfl⟩, ⟨84, by decide +kernel⟩, by decide +kernel, by decide +kernel⟩
set_option maxRecDepth 100000 in
theorem z_M_fits : ft_zok 149 := ⟨⟨1239, rfl⟩, ⟨84, by decide +kernel⟩, by decide +kernel, by decide +kernel⟩
set_option maxRecDepth 100000 in
theorem z_M_putChanges : ft_zok 150 := ⟨⟨1243, rfl⟩, ⟨84, by decide +kernel⟩, by decide +kernel, by decide +kernel⟩
set_option maxRecDepth 100000 in
theorem z_M_putRow : ft_zok 151 := ⟨⟨1247, rfl⟩, ⟨84, by decide +kernel⟩, by decide +kernel, by decide +kernel⟩
set_option maxRecDepth 100000 in
theorem z_M_inRow : ft_zok 152 := ⟨⟨1251, rfl⟩, ⟨84, by decide +kernel⟩, by decide +kernel, by decide +kernel⟩
set_option maxRecDepth 100000 in
theorem z_M_shift : ft_zok 153 := ⟨⟨1256, rfl⟩, ⟨84, by decide +kernel⟩, by decide +kernel, by decide +kernel⟩
set_option maxRecDepth 100000 in
theorem z_M_listen : ft_zok 155 := ⟨⟨1264, rfl⟩, ⟨84, by decide +kernel⟩, by decide +kernel, by decide +kernel⟩
set_option maxRecDepth 100000 in
theorem z_M_close : ft_zok 156 := ⟨⟨1268, rfl⟩, ⟨84, by decide +kernel⟩, by decide +kernel, by decide +kernel⟩
set_option maxRecDepth 100000 in
theorem z_M_reset : ft_zok 158 := ⟨⟨1276, rfl⟩, ⟨84, by decide +kernel⟩, by decide +kernel, by decide +kernel⟩
set_option maxRecDepth 100000 in
theorem z_M_give : ft_zok 159 := ⟨⟨1280, rfl⟩, ⟨84, by decide +kernel⟩, by decide +kernel, by decide +kernel⟩
set_option maxRecDepth 100000 in
theorem z_M_want : ft_zok 160 := ⟨⟨1286, rfl⟩, ⟨84, by decide +kernel⟩, by decide +kernel, by decide +kernel⟩
set_option maxRecDepth 100000 in
theorem z_M_isList : ft_zok 161 := ⟨⟨1292, rfl⟩, ⟨84, by decide +kernel⟩, by decide +kernel, by decide +kernel⟩
set_option maxRecDepth 100000 in
theorem z_M_tick : ft_zok 164 := ⟨⟨1305, rfl⟩, ⟨84, by decide +kernel⟩, by decide +kernel, by decide +kernel⟩
set_option maxRecDepth 100000 in
theorem z_M_one : ft_zok 165 := ⟨⟨1310, rfl⟩, ⟨84, by decide +kernel⟩, by decide +kernel, by decide +kernel⟩
set_option maxRecDepth 100000 in
theorem z_M_drop : ft_zok 166 := ⟨⟨1314, rfl⟩, ⟨84, by decide +kernel⟩, by decide +kernel, by decide +kernel⟩
set_option maxRecDepth 100000 in
theorem z_M_take : ft_zok 167 := ⟨⟨1318, rfl⟩, ⟨84, by decide +kernel⟩, by decide +kernel, by decide +kernel⟩
set_option maxRecDepth 100000 in
theorem z_M_sixAt : ft_zok 170 := ⟨⟨1330, rfl⟩, ⟨84, by decide +kernel⟩, by decide +kernel, by decide +kernel⟩
set_option maxRecDepth 100000 in
theorem z_M_meet : ft_zok 171 := ⟨⟨1334, rfl⟩, ⟨84, by decide +kernel⟩, by decide +kernel, by decide +kernel⟩
set_option maxRecDepth 100000 in
theorem z_M_hear : ft_zok 172 := ⟨⟨1338, rfl⟩, ⟨84, by decide +kernel⟩, by decide +kernel, by decide +kernel⟩
set_option maxRecDepth 100000 in
theorem z_M_heard : ft_zok 173 := ⟨⟨1342, rfl⟩, ⟨84, by decide +kernel⟩, by decide +kernel, by decide +kernel⟩
set_option maxRecDepth 100000 in
theorem z_M_isGood : ft_zok 174 := ⟨⟨1346, rfl⟩, ⟨84, by decide +kernel⟩, by decide +kernel, by decide +kernel⟩
set_option maxRecDepth 100000 in
theorem z_M_hearFeature : ft_zok 175 := ⟨⟨1353, rfl⟩, ⟨84, by decide +kernel⟩, by decide +kernel, by decide +kernel⟩
set_option maxRecDepth 100000 in
theorem z_M_confirm : ft_zok 176 := ⟨⟨1357, rfl⟩, ⟨84, by decide +kernel⟩, by decide +kernel, by decide +kernel⟩
set_option maxRecDepth 100000 in
theorem z_M_reconciled : ft_zok 177 := ⟨⟨1361, rfl⟩, ⟨84, by decide +kernel⟩, by decide +kernel, by decide +kernel⟩
set_option maxRecDepth 100000 in
theorem z_M_asking : ft_zok 180 := ⟨⟨1373, rfl⟩, ⟨84, by decide +kernel⟩, by decide +kernel, by decide +kernel⟩
set_option maxRecDepth 100000 in
theorem z_M_fitsAck : ft_zok 181 := ⟨⟨1377, rfl⟩, ⟨84, by decide +kernel⟩, by decide +kernel, by decide +kernel⟩
set_option maxRecDepth 100000 in
theorem z_M_running : ft_zok 182 := ⟨⟨1381, rfl⟩, ⟨84, by decide +kernel⟩, by decide +kernel, by decide +kernel⟩
set_option maxRecDepth 100000 in
theorem z_M_fitsNumber : ft_zok 183 := ⟨⟨1385, rfl⟩, ⟨84, by decide +kernel⟩, by decide +kernel, by decide +kernel⟩
set_option maxRecDepth 100000 in
theorem z_M_sync : ft_zok 184 := ⟨⟨1389, rfl⟩, ⟨84, by decide +kernel⟩, by decide +kernel, by decide +kernel⟩
set_option maxRecDepth 100000 in
theorem z_M_hearAck : ft_zok 185 := ⟨⟨1393, rfl⟩, ⟨84, by decide +kernel⟩, by decide +kernel, by decide +kernel⟩
set_option maxRecDepth 100000 in
theorem z_M_isGot : ft_zok 186 := ⟨⟨1397, rfl⟩, ⟨84, by decide +kernel⟩, by decide +kernel, by decide +kernel⟩
set_option maxRecDepth 100000 in
theorem z_M_missing : ft_zok 187 := ⟨⟨1401, rfl⟩, ⟨84, by decide +kernel⟩, by decide +kernel, by decide +kernel⟩
set_option maxRecDepth 100000 in
theorem z_M_deliver : ft_zok 188 := ⟨⟨1405, rfl⟩, ⟨84, by decide +kernel⟩, by decide +kernel, by decide +kernel⟩
set_option maxRecDepth 100000 in
theorem z_M_turn : ft_zok 189 := ⟨⟨1409, rfl⟩, ⟨84, by decide +kernel⟩, by decide +kernel, by decide +kernel⟩
set_option maxRecDepth 100000 in
theorem z_M_timers : ft_zok 190 := ⟨⟨1413, rfl⟩, ⟨84, by decide +kernel⟩, by decide +kernel, by decide +kernel⟩
set_option maxRecDepth 100000 in
theorem z_M_repeatOr : ft_zok 191 := ⟨⟨1417, rfl⟩, ⟨84, by decide +kernel⟩, by decide +kernel, by decide +kernel⟩
set_option maxRecDepth 100000 in
theorem z_M_tooLong : ft_zok 192 := ⟨⟨1421, rfl⟩, ⟨84, by decide +kernel⟩, by decide +kernel, by decide +kernel⟩
set_option maxRecDepth 100000 in
theorem z_M_ackDue : ft_zok 193 := ⟨⟨1425, rfl⟩, ⟨84, by decide +kernel⟩, by decide +kernel, by decide +kernel⟩
set_option maxRecDepth 100000 in
theorem z_M_wantsOptions : ft_zok 194 := ⟨⟨1429, rfl⟩, ⟨84, by decide +kernel⟩, by decide +kernel, by decide +kernel⟩
set_option maxRecDepth 100000 in
theorem z_M_lose : ft_zok 195 := ⟨⟨1433, rfl⟩, ⟨84, by decide +kernel⟩, by decide +kernel, by decide +kernel⟩
set_option maxRecDepth 100000 in
theorem z_M_hold : ft_zok 197 := ⟨⟨1441, rfl⟩, ⟨84, by decide +kernel⟩, by decide +kernel, by decide +kernel⟩
set_option maxRecDepth 100000 in
theorem z_M_repeat : ft_zok 198 := ⟨⟨1445, rfl⟩, ⟨84, by decide +kernel⟩, by decide +kernel, by decide +kernel⟩
set_option maxRecDepth 100000 in
theorem z_M_alter : ft_zok 199 := ⟨⟨1449, rfl⟩, ⟨84, by decide +kernel⟩, by decide +kernel, by decide +kernel⟩
set_option maxRecDepth 100000 in
theorem z_M_feed : ft_zok 200 := ⟨⟨1453, rfl⟩, ⟨84, by decide +kernel⟩, by decide +kernel, by decide +kernel⟩
set_option maxRecDepth 100000 in
theorem z_M_put : ft_zok 201 := ⟨⟨1457, rfl⟩, ⟨84, by decide +kernel⟩, by decide +kernel, by decide +kernel⟩
set_option maxRecDepth 100000 in
theorem z_M_way : ft_zok 202 := ⟨⟨1461, rfl⟩, ⟨84, by decide +kernel⟩, by decide +kernel, by decide +kernel⟩
set_option maxRecDepth 100000 in
theorem z_M_packet : ft_zok 203 := ⟨⟨1465, rfl⟩, ⟨84, by decide +kernel⟩, by decide +kernel, by decide +kernel⟩
set_option maxRecDepth 100000 in
theorem z_M_octet : ft_zok 204 := ⟨⟨1469, rfl⟩, ⟨84, by decide +kernel⟩, by decide +kernel, by decide +kernel⟩
set_option maxRecDepth 100000 in
theorem z_M_state : ft_zok 205 := ⟨⟨1473, rfl⟩, ⟨84, by decide +kernel⟩, by decide +kernel, by decide +kernel⟩
set_option maxRecDepth 100000 in
theorem z_M_number : ft_zok 206 := ⟨⟨1477, rfl⟩, ⟨84, by decide +kernel⟩, by decide +kernel, by decide +kernel⟩
set_option maxRecDepth 100000 in
theorem z_M_feature : ft_zok 207 := ⟨⟨1484, rfl⟩, ⟨84, by decide +kernel⟩, by decide +kernel, by decide +kernel⟩
set_option maxRecDepth 100000 in
theorem z_M_count : ft_zok 208 := ⟨⟨1488, rfl⟩, ⟨84, by decide +kernel⟩, by decide +kernel, by decide +kernel⟩
set_option maxRecDepth 100000 in
theorem z_M_got : ft_zok 209 := ⟨⟨1492, rfl⟩, ⟨84, by decide +kernel⟩, by decide +kernel, by decide +kernel⟩
set_option maxRecDepth 100000 in
theorem z_M_seen : ft_zok 210 := ⟨⟨1496, rfl⟩, ⟨84, by decide +kernel⟩, by decide +kernel, by decide +kernel⟩
set_option maxRecDepth 100000 in
theorem z_M_sent : ft_zok 211 := ⟨⟨1500, rfl⟩, ⟨84, by decide +kernel⟩, by decide +kernel, by decide +kernel⟩
set_option maxRecDepth 100000 in
theorem k_M_init_0 : ft_chkL 131 ft_c131_0 = true := by decide +kernel
set_option maxRecDepth 100000 in
theorem k_M_init_1 : ft_chkL 131 ft_c131_1 = true := by decide +kernel
set_option maxRecDepth 100000 in
theorem k_M_init_2 : ft_chkL 131 ft_c131_2 = true := by decide +kernel
set_option maxRecDepth 100000 in
theorem k_M_init_3 : ft_chkL 131 ft_c131_3 = true := by decide +kernel
set_option maxRecDepth 100000 in
theorem k_M_init_4 : ft_chkL 131 ft_c131_4 = true := by decide +kernel
theorem k_M_init : ft_chk 131 = true := ft_chk_app k_M_init_0 (ft_chk_app k_M_init_1 (ft_chk_app k_M_init_2 (ft_chk_app k_M_init_3 (k_M_init_4))))
set_option maxRecDepth 100000 in
theorem k_M_atFirst_0 : ft_chkL 133 ft_c133_0 = true := by decide +kernel
set_option maxRecDepth 100000 in
theorem k_M_atFirst_1 : ft_chkL 133 ft_c133_1 = true := by decide +kernel
set_option maxRecDepth 100000 in
theorem k_M_atFirst_2 : ft_chkL 133 ft_c133_2 = true := by decide +kernel
set_option maxRecDepth 100000 in
theorem k_M_atFirst_3 : ft_chkL 133 ft_c133_3 = true := by decide +kernel
theorem k_M_atFirst : ft_chk 133 = true := ft_chk_app k_M_atFirst_0 (ft_chk_app k_M_atFirst_1 (ft_chk_app k_M_atFirst_2 (k_M_atFirst_3)))
set_option maxRecDepth 100000 in
theorem k_M_open : ft_chk 135 = true := by decide +kernel
set_option maxRecDepth 100000 in
theorem k_M_sendPlain : ft_chk 137 = true := by decide +kernel
set_option maxRecDepth 100000 in
theorem k_M_send_0 : ft_chkL 138 ft_c138_0 = true := by decide +kernel
set_option maxRecDepth 100000 in
theorem k_M_send_1 : ft_chkL 138 ft_c138_1 = true := by decide +kernel
set_option maxRecDepth 100000 in
theorem k_M_send_2 : ft_chkL 138 ft_c138_2 = true := by decide +kernel
set_option maxRecDepth 100000 in
theorem k_M_send_3 : ft_chkL 138 ft_c138_3 = true := by decide +kernel
set_option maxRecDepth 100000 in
theorem k_M_send_4 : ft_chkL 138 ft_c138_4 = true := by decide +kernel
theorem k_M_send : ft_chk 138 = true := ft_chk_app k_M_send_0 (ft_chk_app k_M_send_1 (ft_chk_app k_M_send_2 (ft_chk_app k_M_send_3 (k_M_send_4))))
set_option maxRecDepth 100000 in
theorem k_M_putConfirms_0 : ft_chkL 148 ft_c148_0 = true := by decide +kernel
set_option maxRecDepth 100000 in
theorem k_M_putConfirms_1 : ft_chkL 148 ft_c148_1 = true := by decide +kernel
theorem k_M_putConfirms : ft_chk 148 = true := ft_chk_app k_M_putConfirms_0 (k_M_putConfirms_1)
set_option maxRecDepth 100000 in
theorem k_M_putChanges_0 : ft_chkL 150 ft_c150_0 = true := by decide +kernel
set_option maxRecDepth 100000 in
theorem k_M_putChanges_1 : ft_chkL 150 ft_c150_1 = true := by decide +kernel
theorem k_M_putChanges : ft_chk 150 = true := ft_chk_app k_M_putChanges_0 (k_M_putChanges_1)
set_option maxRecDepth 100000 in
theorem k_M_putRow_0 : ft_chkL 151 ft_c151_0 = true := by decide +kernel
set_option maxRecDepth 100000 in
theorem k_M_putRow_1 : ft_chkL 151 ft_c151_1 = true := by decide +kernel
theorem k_M_putRow : ft_chk 151 = true := ft_chk_app k_M_putRow_0 (k_M_putRow_1)
set_option maxRecDepth 100000 in
theorem k_M_shift_0 : ft_chkL 153 ft_c153_0 = true := by decide +kernel
set_option maxRecDepth 100000 in
theorem k_M_shift_1 : ft_chkL 153 ft_c153_1 = true := by decide +kernel
theorem k_M_shift : ft_chk 153 = true := ft_chk_app k_M_shift_0 (k_M_shift_1)
set_option maxRecDepth 100000 in
theorem k_M_listen : ft_chk 155 = true := by decide +kernel
set_option maxRecDepth 100000 in
theorem k_M_close : ft_chk 156 = true := by decide +kernel
set_option maxRecDepth 100000 in
theorem k_M_reset : ft_chk 158 = true := by decide +kernel
set_option maxRecDepth 100000 in
theorem k_M_give_0 : ft_chkL 159 ft_c159_0 = true := by decide +kernel
set_option maxRecDepth 100000 in
theorem k_M_give_1 : ft_chkL 159 ft_c159_1 = true := by decide +kernel
theorem k_M_give : ft_chk 159 = true := ft_chk_app k_M_give_0 (k_M_give_1)
set_option maxRecDepth 100000 in
theorem k_M_want_0 : ft_chkL 160 ft_c160_0 = true := by decide +kernel
set_option maxRecDepth 100000 in
theorem k_M_want_1 : ft_chkL 160 ft_c160_1 = true := by decide +kernel
theorem k_M_want : ft_chk 160 = true := ft_chk_app k_M_want_0 (k_M_want_1)
set_option maxRecDepth 100000 in
theorem k_M_tick : ft_chk 164 = true := by decide +kernel
set_option maxRecDepth 100000 in
theorem k_M_one_0 : ft_chkL 165 ft_c165_0 = true := by decide +kernel
set_option maxRecDepth 100000 in
theorem k_M_one_1 : ft_chkL 165 ft_c165_1 = true := by decide +kernel
theorem k_M_one : ft_chk 165 = true := ft_chk_app k_M_one_0 (k_M_one_1)
set_option maxRecDepth 100000 in
theorem k_M_drop_0 : ft_chkL 166 ft_c166_0 = true := by decide +kernel
set_option maxRecDepth 100000 in
theorem k_M_drop_1 : ft_chkL 166 ft_c166_1 = true := by decide +kernel
theorem k_M_drop : ft_chk 166 = true := ft_chk_app k_M_drop_0 (k_M_drop_1)
set_option maxRecDepth 100000 in
theorem k_M_take_0 : ft_chkL 167 ft_c167_0 = true := by decide +kernel
set_option maxRecDepth 100000 in
theorem k_M_take_1 : ft_chkL 167 ft_c167_1 = true := by decide +kernel
theorem k_M_take : ft_chk 167 = true := ft_chk_app k_M_take_0 (k_M_take_1)
set_option maxRecDepth 100000 in
theorem k_M_hear : ft_chk 172 = true := by decide +kernel
set_option maxRecDepth 100000 in
theorem k_M_heard_0 : ft_chkL 173 ft_c173_0 = true := by decide +kernel
set_option maxRecDepth 100000 in
theorem k_M_heard_1 : ft_chkL 173 ft_c173_1 = true := by decide +kernel
theorem k_M_heard : ft_chk 173 = true := ft_chk_app k_M_heard_0 (k_M_heard_1)
set_option maxRecDepth 100000 in
theorem k_M_isGood_0 : ft_chkL 174 ft_c174_0 = true := by decide +kernel
set_option maxRecDepth 100000 in
theorem k_M_isGood_1 : ft_chkL 174 ft_c174_1 = true := by decide +kernel
theorem k_M_isGood : ft_chk 174 = true := ft_chk_app k_M_isGood_0 (k_M_isGood_1)
set_option maxRecDepth 100000 in
theorem k_M_hearFeature_0 : ft_chkL 175 ft_c175_0 = true := by decide +kernel
set_option maxRecDepth 100000 in
theorem k_M_hearFeature_1 : ft_chkL 175 ft_c175_1 = true := by decide +kernel
set_option maxRecDepth 100000 in
theorem k_M_hearFeature_2 : ft_chkL 175 ft_c175_2 = true := by decide +kernel
set_option maxRecDepth 100000 in
theorem k_M_hearFeature_3 : ft_chkL 175 ft_c175_3 = true := by decide +kernel
theorem k_M_hearFeature : ft_chk 175 = true := ft_chk_app k_M_hearFeature_0 (ft_chk_app k_M_hearFeature_1 (ft_chk_app k_M_hearFeature_2 (k_M_hearFeature_3)))
set_option maxRecDepth 100000 in
theorem k_M_confirm_0 : ft_chkL 176 ft_c176_0 = true := by decide +kernel
set_option maxRecDepth 100000 in
theorem k_M_confirm_1 : ft_chkL 176 ft_c176_1 = true := by decide +kernel
theorem k_M_confirm : ft_chk 176 = true := ft_chk_app k_M_confirm_0 (k_M_confirm_1)
set_option maxRecDepth 100000 in
theorem k_M_asking : ft_chk 180 = true := by decide +kernel
set_option maxRecDepth 100000 in
theorem k_M_running_0 : ft_chkL 182 ft_c182_0 = true := by decide +kernel
set_option maxRecDepth 100000 in
theorem k_M_running_1 : ft_chkL 182 ft_c182_1 = true := by decide +kernel
set_option maxRecDepth 100000 in
theorem k_M_running_2 : ft_chkL 182 ft_c182_2 = true := by decide +kernel
set_option maxRecDepth 100000 in
theorem k_M_running_3 : ft_chkL 182 ft_c182_3 = true := by decide +kernel
set_option maxRecDepth 100000 in
theorem k_M_running_4 : ft_chkL 182 ft_c182_4 = true := by decide +kernel
theorem k_M_running : ft_chk 182 = true := ft_chk_app k_M_running_0 (ft_chk_app k_M_running_1 (ft_chk_app k_M_running_2 (ft_chk_app k_M_running_3 (k_M_running_4))))
set_option maxRecDepth 100000 in
theorem k_M_sync : ft_chk 184 = true := by decide +kernel
set_option maxRecDepth 100000 in
theorem k_M_hearAck_0 : ft_chkL 185 ft_c185_0 = true := by decide +kernel
set_option maxRecDepth 100000 in
theorem k_M_hearAck_1 : ft_chkL 185 ft_c185_1 = true := by decide +kernel
set_option maxRecDepth 100000 in
theorem k_M_hearAck_2 : ft_chkL 185 ft_c185_2 = true := by decide +kernel
theorem k_M_hearAck : ft_chk 185 = true := ft_chk_app k_M_hearAck_0 (ft_chk_app k_M_hearAck_1 (k_M_hearAck_2))
set_option maxRecDepth 100000 in
theorem k_M_deliver_0 : ft_chkL 188 ft_c188_0 = true := by decide +kernel
set_option maxRecDepth 100000 in
theorem k_M_deliver_1 : ft_chkL 188 ft_c188_1 = true := by decide +kernel
theorem k_M_deliver : ft_chk 188 = true := ft_chk_app k_M_deliver_0 (k_M_deliver_1)
set_option maxRecDepth 100000 in
theorem k_M_turn_0 : ft_chkL 189 ft_c189_0 = true := by decide +kernel
set_option maxRecDepth 100000 in
theorem k_M_turn_1 : ft_chkL 189 ft_c189_1 = true := by decide +kernel
theorem k_M_turn : ft_chk 189 = true := ft_chk_app k_M_turn_0 (k_M_turn_1)
set_option maxRecDepth 100000 in
theorem k_M_timers_0 : ft_chkL 190 ft_c190_0 = true := by decide +kernel
set_option maxRecDepth 100000 in
theorem k_M_timers_1 : ft_chkL 190 ft_c190_1 = true := by decide +kernel
set_option maxRecDepth 100000 in
theorem k_M_timers_2 : ft_chkL 190 ft_c190_2 = true := by decide +kernel
theorem k_M_timers : ft_chk 190 = true := ft_chk_app k_M_timers_0 (ft_chk_app k_M_timers_1 (k_M_timers_2))
set_option maxRecDepth 100000 in
theorem k_M_repeatOr : ft_chk 191 = true := by decide +kernel
set_option maxRecDepth 100000 in
theorem k_M_lose : ft_chk 195 = true := by decide +kernel
set_option maxRecDepth 100000 in
theorem k_M_hold : ft_chk 197 = true := by decide +kernel
set_option maxRecDepth 100000 in
theorem k_M_repeat_0 : ft_chkL 198 ft_c198_0 = true := by decide +kernel
set_option maxRecDepth 100000 in
theorem k_M_repeat_1 : ft_chkL 198 ft_c198_1 = true := by decide +kernel
theorem k_M_repeat : ft_chk 198 = true := ft_chk_app k_M_repeat_0 (k_M_repeat_1)
set_option maxRecDepth 100000 in
theorem k_M_alter : ft_chk 199 = true := by decide +kernel
set_option maxRecDepth 100000 in
theorem k_M_feed_0 : ft_chkL 200 ft_c200_0 = true := by decide +kernel
set_option maxRecDepth 100000 in
theorem k_M_feed_1 : ft_chkL 200 ft_c200_1 = true := by decide +kernel
theorem k_M_feed : ft_chk 200 = true := ft_chk_app k_M_feed_0 (k_M_feed_1)
set_option maxRecDepth 100000 in
theorem k_M_put_0 : ft_chkL 201 ft_c201_0 = true := by decide +kernel
set_option maxRecDepth 100000 in
theorem k_M_put_1 : ft_chkL 201 ft_c201_1 = true := by decide +kernel
theorem k_M_put : ft_chk 201 = true := ft_chk_app k_M_put_0 (k_M_put_1)
set_option maxRecDepth 100000 in
theorem k_M_feature_0 : ft_chkL 207 ft_c207_0 = true := by decide +kernel
set_option maxRecDepth 100000 in
theorem k_M_feature_1 : ft_chkL 207 ft_c207_1 = true := by decide +kernel
theorem k_M_feature : ft_chk 207 = true := ft_chk_app k_M_feature_0 (k_M_feature_1)
set_option maxRecDepth 100000 in
theorem k_M_got : ft_chk 209 = true := by decide +kernel
end
