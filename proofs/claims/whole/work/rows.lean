section
-- ===== PART A: goes FIRST, ahead of the names: the tables' words, and 'selects' of the private methods out of them =====
/-- a private method of a class that the tables say can be made, by its rows of tables_1 -/
def lw_okq (q : MethodName × Nat) : Prop := (q.1.cls ≠ "java/lang/invoke/MethodHandle" ∧ q.1.cls ≠ "java/lang/invoke/VarHandle") ∧ Cond.instantiable q.1.cls q.2 ∈ tables_1 ∧ Cond.privateMethod q.1 ∈ tables_1 ∧ Cond.instanceMethod q.1 ∈ tables_1
theorem lw_p0 : lw_okq (⟨"ChannelSpacer$Mix", "gatherPairs", "(LChannelSpacer$Desk;II)V"⟩, 2) := ⟨⟨by decide +kernel, by decide +kernel⟩, List.mem_of_getElem? (i := 118) (by decide +kernel), List.mem_of_getElem? (i := 240) (by decide +kernel), List.mem_of_getElem? (i := 241) (by decide +kernel)⟩
theorem lw_p1 : lw_okq (⟨"ChannelSpacer$Mix", "put", "(IIIIII)V"⟩, 2) := ⟨⟨by decide +kernel, by decide +kernel⟩, List.mem_of_getElem? (i := 118) (by decide +kernel), List.mem_of_getElem? (i := 252) (by decide +kernel), List.mem_of_getElem? (i := 253) (by decide +kernel)⟩
theorem lw_p2 : lw_okq (⟨"ChannelSpacer$Mix", "gatherTriples", "(LChannelSpacer$Desk;I)V"⟩, 2) := ⟨⟨by decide +kernel, by decide +kernel⟩, List.mem_of_getElem? (i := 118) (by decide +kernel), List.mem_of_getElem? (i := 259) (by decide +kernel), List.mem_of_getElem? (i := 260) (by decide +kernel)⟩
theorem lw_p3 : lw_okq (⟨"ChannelSpacer", "standsClean", "(I)Z"⟩, 7) := ⟨⟨by decide +kernel, by decide +kernel⟩, List.mem_of_getElem? (i := 18) (by decide +kernel), List.mem_of_getElem? (i := 282) (by decide +kernel), List.mem_of_getElem? (i := 283) (by decide +kernel)⟩
theorem lw_p4 : lw_okq (⟨"ChannelSpacer$CleanSet", "isCrowded", "(I)Z"⟩, 10) := ⟨⟨by decide +kernel, by decide +kernel⟩, List.mem_of_getElem? (i := 132) (by decide +kernel), List.mem_of_getElem? (i := 296) (by decide +kernel), List.mem_of_getElem? (i := 297) (by decide +kernel)⟩
theorem lw_p5 : lw_okq (⟨"ChannelSpacer$CleanSet", "guardedBy", "(I)J"⟩, 10) := ⟨⟨by decide +kernel, by decide +kernel⟩, List.mem_of_getElem? (i := 132) (by decide +kernel), List.mem_of_getElem? (i := 301) (by decide +kernel), List.mem_of_getElem? (i := 302) (by decide +kernel)⟩
theorem lw_p6 : lw_okq (⟨"ChannelSpacer$CleanSet", "pairsWith", "(II)J"⟩, 10) := ⟨⟨by decide +kernel, by decide +kernel⟩, List.mem_of_getElem? (i := 132) (by decide +kernel), List.mem_of_getElem? (i := 305) (by decide +kernel), List.mem_of_getElem? (i := 306) (by decide +kernel)⟩
theorem lw_p7 : lw_okq (⟨"ChannelSpacer$CleanSet", "triplesWith", "(II)J"⟩, 10) := ⟨⟨by decide +kernel, by decide +kernel⟩, List.mem_of_getElem? (i := 132) (by decide +kernel), List.mem_of_getElem? (i := 313) (by decide +kernel), List.mem_of_getElem? (i := 314) (by decide +kernel)⟩
theorem lw_p8 : lw_okq (⟨"ChannelSpacer", "countDiagnoses", "()I"⟩, 7) := ⟨⟨by decide +kernel, by decide +kernel⟩, List.mem_of_getElem? (i := 18) (by decide +kernel), List.mem_of_getElem? (i := 336) (by decide +kernel), List.mem_of_getElem? (i := 337) (by decide +kernel)⟩
theorem lw_p9 : lw_okq (⟨"ChannelSpacer$PlanText", "readItem", "(LChannelSpacer$Desk;)V"⟩, 5) := ⟨⟨by decide +kernel, by decide +kernel⟩, List.mem_of_getElem? (i := 171) (by decide +kernel), List.mem_of_getElem? (i := 379) (by decide +kernel), List.mem_of_getElem? (i := 380) (by decide +kernel)⟩
theorem lw_p10 : lw_okq (⟨"ChannelSpacer$PlanText", "byteAt", "(I)I"⟩, 5) := ⟨⟨by decide +kernel, by decide +kernel⟩, List.mem_of_getElem? (i := 171) (by decide +kernel), List.mem_of_getElem? (i := 383) (by decide +kernel), List.mem_of_getElem? (i := 384) (by decide +kernel)⟩
theorem lw_p11 : lw_okq (⟨"ChannelSpacer$PlanText", "readCarrier", "(LChannelSpacer$Desk;)V"⟩, 5) := ⟨⟨by decide +kernel, by decide +kernel⟩, List.mem_of_getElem? (i := 171) (by decide +kernel), List.mem_of_getElem? (i := 387) (by decide +kernel), List.mem_of_getElem? (i := 388) (by decide +kernel)⟩
theorem lw_p12 : lw_okq (⟨"ChannelSpacer$PlanText", "readNumber", "()I"⟩, 5) := ⟨⟨by decide +kernel, by decide +kernel⟩, List.mem_of_getElem? (i := 171) (by decide +kernel), List.mem_of_getElem? (i := 391) (by decide +kernel), List.mem_of_getElem? (i := 392) (by decide +kernel)⟩
theorem lw_p13 : lw_okq (⟨"ChannelSpacer$PlanText", "refuseNumberIf", "(Z)V"⟩, 5) := ⟨⟨by decide +kernel, by decide +kernel⟩, List.mem_of_getElem? (i := 171) (by decide +kernel), List.mem_of_getElem? (i := 404) (by decide +kernel), List.mem_of_getElem? (i := 405) (by decide +kernel)⟩
theorem lw_p14 : lw_okq (⟨"ChannelSpacer$PlanText", "expect", "(I)V"⟩, 5) := ⟨⟨by decide +kernel, by decide +kernel⟩, List.mem_of_getElem? (i := 171) (by decide +kernel), List.mem_of_getElem? (i := 408) (by decide +kernel), List.mem_of_getElem? (i := 409) (by decide +kernel)⟩
theorem lw_p15 : lw_okq (⟨"ChannelSpacer$PlanText", "readMixer", "(LChannelSpacer$Desk;)V"⟩, 5) := ⟨⟨by decide +kernel, by decide +kernel⟩, List.mem_of_getElem? (i := 171) (by decide +kernel), List.mem_of_getElem? (i := 423) (by decide +kernel), List.mem_of_getElem? (i := 424) (by decide +kernel)⟩
def lw_privs_1 : List (MethodName × Nat) := [(⟨"ChannelSpacer$Mix", "gatherPairs", "(LChannelSpacer$Desk;II)V"⟩, 2), (⟨"ChannelSpacer$Mix", "put", "(IIIIII)V"⟩, 2), (⟨"ChannelSpacer$Mix", "gatherTriples", "(LChannelSpacer$Desk;I)V"⟩, 2), (⟨"ChannelSpacer", "standsClean", "(I)Z"⟩, 7), (⟨"ChannelSpacer$CleanSet", "isCrowded", "(I)Z"⟩, 10), (⟨"ChannelSpacer$CleanSet", "guardedBy", "(I)J"⟩, 10), (⟨"ChannelSpacer$CleanSet", "pairsWith", "(II)J"⟩, 10), (⟨"ChannelSpacer$CleanSet", "triplesWith", "(II)J"⟩, 10), (⟨"ChannelSpacer", "countDiagnoses", "()I"⟩, 7), (⟨"ChannelSpacer$PlanText", "readItem", "(LChannelSpacer$Desk;)V"⟩, 5), (⟨"ChannelSpacer$PlanText", "byteAt", "(I)I"⟩, 5), (⟨"ChannelSpacer$PlanText", "readCarrier", "(LChannelSpacer$Desk;)V"⟩, 5), (⟨"ChannelSpacer$PlanText", "readNumber", "()I"⟩, 5), (⟨"ChannelSpacer$PlanText", "refuseNumberIf", "(Z)V"⟩, 5), (⟨"ChannelSpacer$PlanText", "expect", "(I)V"⟩, 5), (⟨"ChannelSpacer$PlanText", "readMixer", "(LChannelSpacer$Desk;)V"⟩, 5)]
theorem lw_r1 : ∀ q ∈ lw_privs_1, lw_okq q := List.forall_mem_cons.mpr ⟨lw_p0, List.forall_mem_cons.mpr ⟨lw_p1, List.forall_mem_cons.mpr ⟨lw_p2, List.forall_mem_cons.mpr ⟨lw_p3, List.forall_mem_cons.mpr ⟨lw_p4, List.forall_mem_cons.mpr ⟨lw_p5, List.forall_mem_cons.mpr ⟨lw_p6, List.forall_mem_cons.mpr ⟨lw_p7, List.forall_mem_cons.mpr ⟨lw_p8, List.forall_mem_cons.mpr ⟨lw_p9, List.forall_mem_cons.mpr ⟨lw_p10, List.forall_mem_cons.mpr ⟨lw_p11, List.forall_mem_cons.mpr ⟨lw_p12, List.forall_mem_cons.mpr ⟨lw_p13, List.forall_mem_cons.mpr ⟨lw_p14, List.forall_mem_cons.mpr ⟨lw_p15, fun _ h => absurd h List.not_mem_nil⟩⟩⟩⟩⟩⟩⟩⟩⟩⟩⟩⟩⟩⟩⟩⟩
theorem lw_p16 : lw_okq (⟨"ChannelSpacer$PlanText", "readMember", "(LChannelSpacer$Desk;I)I"⟩, 5) := ⟨⟨by decide +kernel, by decide +kernel⟩, List.mem_of_getElem? (i := 171) (by decide +kernel), List.mem_of_getElem? (i := 427) (by decide +kernel), List.mem_of_getElem? (i := 428) (by decide +kernel)⟩
theorem lw_p17 : lw_okq (⟨"ChannelSpacer$History", "deskAt", "(I)LChannelSpacer$Desk;"⟩, 3) := ⟨⟨by decide +kernel, by decide +kernel⟩, List.mem_of_getElem? (i := 98) (by decide +kernel), List.mem_of_getElem? (i := 449) (by decide +kernel), List.mem_of_getElem? (i := 450) (by decide +kernel)⟩
theorem lw_p18 : lw_okq (⟨"java/lang/Throwable", "fillInStackTrace", "(I)Ljava/lang/Throwable;"⟩, 6) := ⟨⟨by decide +kernel, by decide +kernel⟩, List.mem_of_getElem? (i := 529) (by decide +kernel), List.mem_of_getElem? (i := 527) (by decide +kernel), List.mem_of_getElem? (i := 528) (by decide +kernel)⟩
theorem lw_p19 : lw_okq (⟨"ChannelSpacer", "needRoomForCarrier", "()V"⟩, 7) := ⟨⟨by decide +kernel, by decide +kernel⟩, List.mem_of_getElem? (i := 18) (by decide +kernel), List.mem_of_getElem? (i := 559) (by decide +kernel), List.mem_of_getElem? (i := 560) (by decide +kernel)⟩
theorem lw_p20 : lw_okq (⟨"ChannelSpacer", "needCarrier", "(I)V"⟩, 7) := ⟨⟨by decide +kernel, by decide +kernel⟩, List.mem_of_getElem? (i := 18) (by decide +kernel), List.mem_of_getElem? (i := 588) (by decide +kernel), List.mem_of_getElem? (i := 589) (by decide +kernel)⟩
theorem lw_p21 : lw_okq (⟨"ChannelSpacer", "needSetOfCarriers", "(I)V"⟩, 7) := ⟨⟨by decide +kernel, by decide +kernel⟩, List.mem_of_getElem? (i := 18) (by decide +kernel), List.mem_of_getElem? (i := 688) (by decide +kernel), List.mem_of_getElem? (i := 689) (by decide +kernel)⟩
theorem lw_p22 : lw_okq (⟨"ChannelSpacer", "falloutOf", "(I)J"⟩, 7) := ⟨⟨by decide +kernel, by decide +kernel⟩, List.mem_of_getElem? (i := 18) (by decide +kernel), List.mem_of_getElem? (i := 693) (by decide +kernel), List.mem_of_getElem? (i := 694) (by decide +kernel)⟩
theorem lw_p23 : lw_okq (⟨"ChannelSpacer", "findBestRuler", "(I)I"⟩, 7) := ⟨⟨by decide +kernel, by decide +kernel⟩, List.mem_of_getElem? (i := 18) (by decide +kernel), List.mem_of_getElem? (i := 719) (by decide +kernel), List.mem_of_getElem? (i := 720) (by decide +kernel)⟩
theorem lw_p24 : lw_okq (⟨"ChannelSpacer", "countRulers", "(III)I"⟩, 7) := ⟨⟨by decide +kernel, by decide +kernel⟩, List.mem_of_getElem? (i := 18) (by decide +kernel), List.mem_of_getElem? (i := 723) (by decide +kernel), List.mem_of_getElem? (i := 724) (by decide +kernel)⟩
theorem lw_p25 : lw_okq (⟨"ChannelSpacer", "openChannels", "(I)J"⟩, 7) := ⟨⟨by decide +kernel, by decide +kernel⟩, List.mem_of_getElem? (i := 18) (by decide +kernel), List.mem_of_getElem? (i := 768) (by decide +kernel), List.mem_of_getElem? (i := 769) (by decide +kernel)⟩
theorem lw_p26 : lw_okq (⟨"ChannelSpacer", "needMixer", "(I)V"⟩, 7) := ⟨⟨by decide +kernel, by decide +kernel⟩, List.mem_of_getElem? (i := 18) (by decide +kernel), List.mem_of_getElem? (i := 798) (by decide +kernel), List.mem_of_getElem? (i := 799) (by decide +kernel)⟩
theorem lw_p27 : lw_okq (⟨"ChannelSpacer", "mixActive", "(I)V"⟩, 7) := ⟨⟨by decide +kernel, by decide +kernel⟩, List.mem_of_getElem? (i := 18) (by decide +kernel), List.mem_of_getElem? (i := 824) (by decide +kernel), List.mem_of_getElem? (i := 825) (by decide +kernel)⟩
theorem lw_p28 : lw_okq (⟨"ChannelSpacer", "mixersOn", "(I)I"⟩, 7) := ⟨⟨by decide +kernel, by decide +kernel⟩, List.mem_of_getElem? (i := 18) (by decide +kernel), List.mem_of_getElem? (i := 828) (by decide +kernel), List.mem_of_getElem? (i := 829) (by decide +kernel)⟩
theorem lw_p29 : lw_okq (⟨"ChannelSpacer", "countHeard", "(I)I"⟩, 7) := ⟨⟨by decide +kernel, by decide +kernel⟩, List.mem_of_getElem? (i := 18) (by decide +kernel), List.mem_of_getElem? (i := 858) (by decide +kernel), List.mem_of_getElem? (i := 859) (by decide +kernel)⟩
theorem lw_p30 : lw_okq (⟨"ChannelSpacerModel", "isFit", "(III)Z"⟩, 23) := ⟨⟨by decide +kernel, by decide +kernel⟩, List.mem_of_getElem? (i := 889) (by decide +kernel), List.mem_of_getElem? (i := 973) (by decide +kernel), List.mem_of_getElem? (i := 974) (by decide +kernel)⟩
theorem lw_p31 : lw_okq (⟨"ChannelSpacerModel", "isTaken", "(II)Z"⟩, 23) := ⟨⟨by decide +kernel, by decide +kernel⟩, List.mem_of_getElem? (i := 889) (by decide +kernel), List.mem_of_getElem? (i := 983) (by decide +kernel), List.mem_of_getElem? (i := 984) (by decide +kernel)⟩
def lw_privs_2 : List (MethodName × Nat) := [(⟨"ChannelSpacer$PlanText", "readMember", "(LChannelSpacer$Desk;I)I"⟩, 5), (⟨"ChannelSpacer$History", "deskAt", "(I)LChannelSpacer$Desk;"⟩, 3), (⟨"java/lang/Throwable", "fillInStackTrace", "(I)Ljava/lang/Throwable;"⟩, 6), (⟨"ChannelSpacer", "needRoomForCarrier", "()V"⟩, 7), (⟨"ChannelSpacer", "needCarrier", "(I)V"⟩, 7), (⟨"ChannelSpacer", "needSetOfCarriers", "(I)V"⟩, 7), (⟨"ChannelSpacer", "falloutOf", "(I)J"⟩, 7), (⟨"ChannelSpacer", "findBestRuler", "(I)I"⟩, 7), (⟨"ChannelSpacer", "countRulers", "(III)I"⟩, 7), (⟨"ChannelSpacer", "openChannels", "(I)J"⟩, 7), (⟨"ChannelSpacer", "needMixer", "(I)V"⟩, 7), (⟨"ChannelSpacer", "mixActive", "(I)V"⟩, 7), (⟨"ChannelSpacer", "mixersOn", "(I)I"⟩, 7), (⟨"ChannelSpacer", "countHeard", "(I)I"⟩, 7), (⟨"ChannelSpacerModel", "isFit", "(III)Z"⟩, 23), (⟨"ChannelSpacerModel", "isTaken", "(II)Z"⟩, 23)]
theorem lw_r2 : ∀ q ∈ lw_privs_2, lw_okq q := List.forall_mem_cons.mpr ⟨lw_p16, List.forall_mem_cons.mpr ⟨lw_p17, List.forall_mem_cons.mpr ⟨lw_p18, List.forall_mem_cons.mpr ⟨lw_p19, List.forall_mem_cons.mpr ⟨lw_p20, List.forall_mem_cons.mpr ⟨lw_p21, List.forall_mem_cons.mpr ⟨lw_p22, List.forall_mem_cons.mpr ⟨lw_p23, List.forall_mem_cons.mpr ⟨lw_p24, List.forall_mem_cons.mpr ⟨lw_p25, List.forall_mem_cons.mpr ⟨lw_p26, List.forall_mem_cons.mpr ⟨lw_p27, List.forall_mem_cons.mpr ⟨lw_p28, List.forall_mem_cons.mpr ⟨lw_p29, List.forall_mem_cons.mpr ⟨lw_p30, List.forall_mem_cons.mpr ⟨lw_p31, fun _ h => absurd h List.not_mem_nil⟩⟩⟩⟩⟩⟩⟩⟩⟩⟩⟩⟩⟩⟩⟩⟩
theorem lw_p32 : lw_okq (⟨"ChannelSpacerModel", "channelOf", "(I)I"⟩, 23) := ⟨⟨by decide +kernel, by decide +kernel⟩, List.mem_of_getElem? (i := 889) (by decide +kernel), List.mem_of_getElem? (i := 987) (by decide +kernel), List.mem_of_getElem? (i := 988) (by decide +kernel)⟩
theorem lw_p33 : lw_okq (⟨"ChannelSpacerModel", "change", "()V"⟩, 23) := ⟨⟨by decide +kernel, by decide +kernel⟩, List.mem_of_getElem? (i := 889) (by decide +kernel), List.mem_of_getElem? (i := 991) (by decide +kernel), List.mem_of_getElem? (i := 992) (by decide +kernel)⟩
theorem lw_p34 : lw_okq (⟨"ChannelSpacerModel", "keep", "()V"⟩, 23) := ⟨⟨by decide +kernel, by decide +kernel⟩, List.mem_of_getElem? (i := 889) (by decide +kernel), List.mem_of_getElem? (i := 995) (by decide +kernel), List.mem_of_getElem? (i := 996) (by decide +kernel)⟩
theorem lw_p35 : lw_okq (⟨"ChannelSpacerModel", "lay", "(III)V"⟩, 23) := ⟨⟨by decide +kernel, by decide +kernel⟩, List.mem_of_getElem? (i := 889) (by decide +kernel), List.mem_of_getElem? (i := 999) (by decide +kernel), List.mem_of_getElem? (i := 1000) (by decide +kernel)⟩
theorem lw_p36 : lw_okq (⟨"ChannelSpacerModel", "isCarrier", "(I)Z"⟩, 23) := ⟨⟨by decide +kernel, by decide +kernel⟩, List.mem_of_getElem? (i := 889) (by decide +kernel), List.mem_of_getElem? (i := 1007) (by decide +kernel), List.mem_of_getElem? (i := 1008) (by decide +kernel)⟩
theorem lw_p37 : lw_okq (⟨"ChannelSpacerModel", "levelOf", "(I)I"⟩, 23) := ⟨⟨by decide +kernel, by decide +kernel⟩, List.mem_of_getElem? (i := 889) (by decide +kernel), List.mem_of_getElem? (i := 1015) (by decide +kernel), List.mem_of_getElem? (i := 1016) (by decide +kernel)⟩
theorem lw_p38 : lw_okq (⟨"ChannelSpacerModel", "all", "()I"⟩, 23) := ⟨⟨by decide +kernel, by decide +kernel⟩, List.mem_of_getElem? (i := 889) (by decide +kernel), List.mem_of_getElem? (i := 1047) (by decide +kernel), List.mem_of_getElem? (i := 1048) (by decide +kernel)⟩
theorem lw_p39 : lw_okq (⟨"ChannelSpacerModel", "listAll", "(I)V"⟩, 23) := ⟨⟨by decide +kernel, by decide +kernel⟩, List.mem_of_getElem? (i := 889) (by decide +kernel), List.mem_of_getElem? (i := 1051) (by decide +kernel), List.mem_of_getElem? (i := 1052) (by decide +kernel)⟩
theorem lw_p40 : lw_okq (⟨"ChannelSpacerModel", "rowsOfAll", "()V"⟩, 23) := ⟨⟨by decide +kernel, by decide +kernel⟩, List.mem_of_getElem? (i := 889) (by decide +kernel), List.mem_of_getElem? (i := 1055) (by decide +kernel), List.mem_of_getElem? (i := 1056) (by decide +kernel)⟩
theorem lw_p41 : lw_okq (⟨"ChannelSpacerModel", "lists", "(IIII)V"⟩, 23) := ⟨⟨by decide +kernel, by decide +kernel⟩, List.mem_of_getElem? (i := 889) (by decide +kernel), List.mem_of_getElem? (i := 1062) (by decide +kernel), List.mem_of_getElem? (i := 1063) (by decide +kernel)⟩
theorem lw_p42 : lw_okq (⟨"ChannelSpacerModel", "falls", "(IIII)I"⟩, 23) := ⟨⟨by decide +kernel, by decide +kernel⟩, List.mem_of_getElem? (i := 889) (by decide +kernel), List.mem_of_getElem? (i := 1066) (by decide +kernel), List.mem_of_getElem? (i := 1067) (by decide +kernel)⟩
theorem lw_p43 : lw_okq (⟨"ChannelSpacerModel", "level", "(IIII)I"⟩, 23) := ⟨⟨by decide +kernel, by decide +kernel⟩, List.mem_of_getElem? (i := 889) (by decide +kernel), List.mem_of_getElem? (i := 1070) (by decide +kernel), List.mem_of_getElem? (i := 1071) (by decide +kernel)⟩
theorem lw_p44 : lw_okq (⟨"ChannelSpacerModel", "isSet", "(I)Z"⟩, 23) := ⟨⟨by decide +kernel, by decide +kernel⟩, List.mem_of_getElem? (i := 889) (by decide +kernel), List.mem_of_getElem? (i := 1082) (by decide +kernel), List.mem_of_getElem? (i := 1083) (by decide +kernel)⟩
theorem lw_p45 : lw_okq (⟨"ChannelSpacerModel", "falloutOf", "(I)J"⟩, 23) := ⟨⟨by decide +kernel, by decide +kernel⟩, List.mem_of_getElem? (i := 889) (by decide +kernel), List.mem_of_getElem? (i := 1086) (by decide +kernel), List.mem_of_getElem? (i := 1087) (by decide +kernel)⟩
theorem lw_p46 : lw_okq (⟨"ChannelSpacerModel", "hitsAll", "()I"⟩, 23) := ⟨⟨by decide +kernel, by decide +kernel⟩, List.mem_of_getElem? (i := 889) (by decide +kernel), List.mem_of_getElem? (i := 1094) (by decide +kernel), List.mem_of_getElem? (i := 1095) (by decide +kernel)⟩
theorem lw_p47 : lw_okq (⟨"ChannelSpacerModel", "hitsAt", "(I)I"⟩, 23) := ⟨⟨by decide +kernel, by decide +kernel⟩, List.mem_of_getElem? (i := 889) (by decide +kernel), List.mem_of_getElem? (i := 1098) (by decide +kernel), List.mem_of_getElem? (i := 1099) (by decide +kernel)⟩
def lw_privs_3 : List (MethodName × Nat) := [(⟨"ChannelSpacerModel", "channelOf", "(I)I"⟩, 23), (⟨"ChannelSpacerModel", "change", "()V"⟩, 23), (⟨"ChannelSpacerModel", "keep", "()V"⟩, 23), (⟨"ChannelSpacerModel", "lay", "(III)V"⟩, 23), (⟨"ChannelSpacerModel", "isCarrier", "(I)Z"⟩, 23), (⟨"ChannelSpacerModel", "levelOf", "(I)I"⟩, 23), (⟨"ChannelSpacerModel", "all", "()I"⟩, 23), (⟨"ChannelSpacerModel", "listAll", "(I)V"⟩, 23), (⟨"ChannelSpacerModel", "rowsOfAll", "()V"⟩, 23), (⟨"ChannelSpacerModel", "lists", "(IIII)V"⟩, 23), (⟨"ChannelSpacerModel", "falls", "(IIII)I"⟩, 23), (⟨"ChannelSpacerModel", "level", "(IIII)I"⟩, 23), (⟨"ChannelSpacerModel", "isSet", "(I)Z"⟩, 23), (⟨"ChannelSpacerModel", "falloutOf", "(I)J"⟩, 23), (⟨"ChannelSpacerModel", "hitsAll", "()I"⟩, 23), (⟨"ChannelSpacerModel", "hitsAt", "(I)I"⟩, 23)]
theorem lw_r3 : ∀ q ∈ lw_privs_3, lw_okq q := List.forall_mem_cons.mpr ⟨lw_p32, List.forall_mem_cons.mpr ⟨lw_p33, List.forall_mem_cons.mpr ⟨lw_p34, List.forall_mem_cons.mpr ⟨lw_p35, List.forall_mem_cons.mpr ⟨lw_p36, List.forall_mem_cons.mpr ⟨lw_p37, List.forall_mem_cons.mpr ⟨lw_p38, List.forall_mem_cons.mpr ⟨lw_p39, List.forall_mem_cons.mpr ⟨lw_p40, List.forall_mem_cons.mpr ⟨lw_p41, List.forall_mem_cons.mpr ⟨lw_p42, List.forall_mem_cons.mpr ⟨lw_p43, List.forall_mem_cons.mpr ⟨lw_p44, List.forall_mem_cons.mpr ⟨lw_p45, List.forall_mem_cons.mpr ⟨lw_p46, List.forall_mem_cons.mpr ⟨lw_p47, fun _ h => absurd h List.not_mem_nil⟩⟩⟩⟩⟩⟩⟩⟩⟩⟩⟩⟩⟩⟩⟩⟩
theorem lw_p48 : lw_okq (⟨"ChannelSpacerModel", "isNear", "(II)Z"⟩, 23) := ⟨⟨by decide +kernel, by decide +kernel⟩, List.mem_of_getElem? (i := 889) (by decide +kernel), List.mem_of_getElem? (i := 1102) (by decide +kernel), List.mem_of_getElem? (i := 1103) (by decide +kernel)⟩
theorem lw_p49 : lw_okq (⟨"ChannelSpacerModel", "isRowClean", "(I)Z"⟩, 23) := ⟨⟨by decide +kernel, by decide +kernel⟩, List.mem_of_getElem? (i := 889) (by decide +kernel), List.mem_of_getElem? (i := 1114) (by decide +kernel), List.mem_of_getElem? (i := 1115) (by decide +kernel)⟩
theorem lw_p50 : lw_okq (⟨"ChannelSpacerModel", "hitsRow", "(II)Z"⟩, 23) := ⟨⟨by decide +kernel, by decide +kernel⟩, List.mem_of_getElem? (i := 889) (by decide +kernel), List.mem_of_getElem? (i := 1118) (by decide +kernel), List.mem_of_getElem? (i := 1119) (by decide +kernel)⟩
theorem lw_p51 : lw_okq (⟨"ChannelSpacerModel", "isCleanWithout", "(I)Z"⟩, 23) := ⟨⟨by decide +kernel, by decide +kernel⟩, List.mem_of_getElem? (i := 889) (by decide +kernel), List.mem_of_getElem? (i := 1133) (by decide +kernel), List.mem_of_getElem? (i := 1134) (by decide +kernel)⟩
theorem lw_p52 : lw_okq (⟨"ChannelSpacerModel", "least", "(I)I"⟩, 23) := ⟨⟨by decide +kernel, by decide +kernel⟩, List.mem_of_getElem? (i := 889) (by decide +kernel), List.mem_of_getElem? (i := 1141) (by decide +kernel), List.mem_of_getElem? (i := 1142) (by decide +kernel)⟩
theorem lw_p53 : lw_okq (⟨"ChannelSpacerModel", "seek", "(IIZ)I"⟩, 23) := ⟨⟨by decide +kernel, by decide +kernel⟩, List.mem_of_getElem? (i := 889) (by decide +kernel), List.mem_of_getElem? (i := 1145) (by decide +kernel), List.mem_of_getElem? (i := 1146) (by decide +kernel)⟩
theorem lw_p54 : lw_okq (⟨"ChannelSpacerModel", "laysFirst", "(I)V"⟩, 23) := ⟨⟨by decide +kernel, by decide +kernel⟩, List.mem_of_getElem? (i := 889) (by decide +kernel), List.mem_of_getElem? (i := 1149) (by decide +kernel), List.mem_of_getElem? (i := 1150) (by decide +kernel)⟩
theorem lw_p55 : lw_okq (⟨"ChannelSpacerModel", "openingsFor", "(I)J"⟩, 23) := ⟨⟨by decide +kernel, by decide +kernel⟩, List.mem_of_getElem? (i := 889) (by decide +kernel), List.mem_of_getElem? (i := 1165) (by decide +kernel), List.mem_of_getElem? (i := 1166) (by decide +kernel)⟩
theorem lw_p56 : lw_okq (⟨"ChannelSpacerModel", "isMixer", "(I)Z"⟩, 23) := ⟨⟨by decide +kernel, by decide +kernel⟩, List.mem_of_getElem? (i := 889) (by decide +kernel), List.mem_of_getElem? (i := 1181) (by decide +kernel), List.mem_of_getElem? (i := 1182) (by decide +kernel)⟩
theorem lw_p57 : lw_okq (⟨"ChannelSpacerModel", "diagnose", "()V"⟩, 23) := ⟨⟨by decide +kernel, by decide +kernel⟩, List.mem_of_getElem? (i := 889) (by decide +kernel), List.mem_of_getElem? (i := 1193) (by decide +kernel), List.mem_of_getElem? (i := 1194) (by decide +kernel)⟩
theorem lw_p58 : lw_okq (⟨"ChannelSpacerModel", "heardBy", "(II)I"⟩, 23) := ⟨⟨by decide +kernel, by decide +kernel⟩, List.mem_of_getElem? (i := 889) (by decide +kernel), List.mem_of_getElem? (i := 1197) (by decide +kernel), List.mem_of_getElem? (i := 1198) (by decide +kernel)⟩
theorem lw_p59 : lw_okq (⟨"ChannelSpacerModel", "best", "()I"⟩, 23) := ⟨⟨by decide +kernel, by decide +kernel⟩, List.mem_of_getElem? (i := 889) (by decide +kernel), List.mem_of_getElem? (i := 1217) (by decide +kernel), List.mem_of_getElem? (i := 1218) (by decide +kernel)⟩
theorem lw_p60 : lw_okq (⟨"ChannelSpacerModel", "readAll", "()I"⟩, 23) := ⟨⟨by decide +kernel, by decide +kernel⟩, List.mem_of_getElem? (i := 889) (by decide +kernel), List.mem_of_getElem? (i := 1241) (by decide +kernel), List.mem_of_getElem? (i := 1242) (by decide +kernel)⟩
theorem lw_p61 : lw_okq (⟨"ChannelSpacerModel", "here", "()I"⟩, 23) := ⟨⟨by decide +kernel, by decide +kernel⟩, List.mem_of_getElem? (i := 889) (by decide +kernel), List.mem_of_getElem? (i := 1245) (by decide +kernel), List.mem_of_getElem? (i := 1246) (by decide +kernel)⟩
theorem lw_p62 : lw_okq (⟨"ChannelSpacerModel", "readCarrier", "()Z"⟩, 23) := ⟨⟨by decide +kernel, by decide +kernel⟩, List.mem_of_getElem? (i := 889) (by decide +kernel), List.mem_of_getElem? (i := 1249) (by decide +kernel), List.mem_of_getElem? (i := 1250) (by decide +kernel)⟩
theorem lw_p63 : lw_okq (⟨"ChannelSpacerModel", "readNumber", "()Z"⟩, 23) := ⟨⟨by decide +kernel, by decide +kernel⟩, List.mem_of_getElem? (i := 889) (by decide +kernel), List.mem_of_getElem? (i := 1253) (by decide +kernel), List.mem_of_getElem? (i := 1254) (by decide +kernel)⟩
def lw_privs_4 : List (MethodName × Nat) := [(⟨"ChannelSpacerModel", "isNear", "(II)Z"⟩, 23), (⟨"ChannelSpacerModel", "isRowClean", "(I)Z"⟩, 23), (⟨"ChannelSpacerModel", "hitsRow", "(II)Z"⟩, 23), (⟨"ChannelSpacerModel", "isCleanWithout", "(I)Z"⟩, 23), (⟨"ChannelSpacerModel", "least", "(I)I"⟩, 23), (⟨"ChannelSpacerModel", "seek", "(IIZ)I"⟩, 23), (⟨"ChannelSpacerModel", "laysFirst", "(I)V"⟩, 23), (⟨"ChannelSpacerModel", "openingsFor", "(I)J"⟩, 23), (⟨"ChannelSpacerModel", "isMixer", "(I)Z"⟩, 23), (⟨"ChannelSpacerModel", "diagnose", "()V"⟩, 23), (⟨"ChannelSpacerModel", "heardBy", "(II)I"⟩, 23), (⟨"ChannelSpacerModel", "best", "()I"⟩, 23), (⟨"ChannelSpacerModel", "readAll", "()I"⟩, 23), (⟨"ChannelSpacerModel", "here", "()I"⟩, 23), (⟨"ChannelSpacerModel", "readCarrier", "()Z"⟩, 23), (⟨"ChannelSpacerModel", "readNumber", "()Z"⟩, 23)]
theorem lw_r4 : ∀ q ∈ lw_privs_4, lw_okq q := List.forall_mem_cons.mpr ⟨lw_p48, List.forall_mem_cons.mpr ⟨lw_p49, List.forall_mem_cons.mpr ⟨lw_p50, List.forall_mem_cons.mpr ⟨lw_p51, List.forall_mem_cons.mpr ⟨lw_p52, List.forall_mem_cons.mpr ⟨lw_p53, List.forall_mem_cons.mpr ⟨lw_p54, List.forall_mem_cons.mpr ⟨lw_p55, List.forall_mem_cons.mpr ⟨lw_p56, List.forall_mem_cons.mpr ⟨lw_p57, List.forall_mem_cons.mpr ⟨lw_p58, List.forall_mem_cons.mpr ⟨lw_p59, List.forall_mem_cons.mpr ⟨lw_p60, List.forall_mem_cons.mpr ⟨lw_p61, List.forall_mem_cons.mpr ⟨lw_p62, List.forall_mem_cons.mpr ⟨lw_p63, fun _ h => absurd h List.not_mem_nil⟩⟩⟩⟩⟩⟩⟩⟩⟩⟩⟩⟩⟩⟩⟩⟩
theorem lw_p64 : lw_okq (⟨"ChannelSpacerModel", "refuse", "(Z)Z"⟩, 23) := ⟨⟨by decide +kernel, by decide +kernel⟩, List.mem_of_getElem? (i := 889) (by decide +kernel), List.mem_of_getElem? (i := 1257) (by decide +kernel), List.mem_of_getElem? (i := 1258) (by decide +kernel)⟩
theorem lw_p65 : lw_okq (⟨"ChannelSpacerModel", "takes", "(I)Z"⟩, 23) := ⟨⟨by decide +kernel, by decide +kernel⟩, List.mem_of_getElem? (i := 889) (by decide +kernel), List.mem_of_getElem? (i := 1261) (by decide +kernel), List.mem_of_getElem? (i := 1262) (by decide +kernel)⟩
theorem lw_p66 : lw_okq (⟨"ChannelSpacerModel", "readMixer", "()Z"⟩, 23) := ⟨⟨by decide +kernel, by decide +kernel⟩, List.mem_of_getElem? (i := 889) (by decide +kernel), List.mem_of_getElem? (i := 1265) (by decide +kernel), List.mem_of_getElem? (i := 1266) (by decide +kernel)⟩
theorem lw_p67 : lw_okq (⟨"ChannelSpacerModel", "mix", "(J)V"⟩, 23) := ⟨⟨by decide +kernel, by decide +kernel⟩, List.mem_of_getElem? (i := 889) (by decide +kernel), List.mem_of_getElem? (i := 1278) (by decide +kernel), List.mem_of_getElem? (i := 1279) (by decide +kernel)⟩
def lw_privs_5 : List (MethodName × Nat) := [(⟨"ChannelSpacerModel", "refuse", "(Z)Z"⟩, 23), (⟨"ChannelSpacerModel", "takes", "(I)Z"⟩, 23), (⟨"ChannelSpacerModel", "readMixer", "()Z"⟩, 23), (⟨"ChannelSpacerModel", "mix", "(J)V"⟩, 23)]
theorem lw_r5 : ∀ q ∈ lw_privs_5, lw_okq q := List.forall_mem_cons.mpr ⟨lw_p64, List.forall_mem_cons.mpr ⟨lw_p65, List.forall_mem_cons.mpr ⟨lw_p66, List.forall_mem_cons.mpr ⟨lw_p67, fun _ h => absurd h List.not_mem_nil⟩⟩⟩⟩
def lw_privs : List (MethodName × Nat) := lw_privs_1 ++ (lw_privs_2 ++ (lw_privs_3 ++ (lw_privs_4 ++ (lw_privs_5))))
def lw_tbl : List Cond := k2_sels lw_privs ++ tables_1
theorem lw_privs_ok : ∀ q ∈ lw_privs, lw_okq q := by
  show ∀ q ∈ lw_privs_1 ++ (lw_privs_2 ++ (lw_privs_3 ++ (lw_privs_4 ++ (lw_privs_5)))), lw_okq q
  exact List.forall_mem_append.mpr ⟨lw_r1, List.forall_mem_append.mpr ⟨lw_r2, List.forall_mem_append.mpr ⟨lw_r3, List.forall_mem_append.mpr ⟨lw_r4, lw_r5⟩⟩⟩⟩
end
section
/-! ===== BEGIN words of one list among another's, by their places ===== -/
theorem goodIn_r {big : List Cond} (ws : List Cond) (ps : List Nat) (hp : ws = ps.filterMap (fun i => big[i]?)) (h : ws.all goodWord = true) : GoodIn big ws := by
  intro w hw
  have h1 := List.all_eq_true.mp h w hw
  rw [hp] at hw
  obtain ⟨i, -, hi⟩ := List.mem_filterMap.mp hw
  have hm : w ∈ big := by first | exact List.mem_of_getElem? hi | exact List.getElem?_mem hi
  exact ⟨hm, good_of_word h1⟩
theorem goodIn_app {big a b : List Cond} (ha : GoodIn big a) (hb : GoodIn big b) : GoodIn big (a ++ b) := fun w h => (List.mem_append.mp h).elim (ha w) (hb w)
theorem goodIn_ca {big a b : List Cond} {c : Cond} (ha : GoodIn big (c :: a)) (hb : GoodIn big b) : GoodIn big (c :: (a ++ b)) := fun w h => (List.mem_cons.mp h).elim (fun e => ha w (List.mem_cons.mpr (Or.inl e))) (fun h => (List.mem_append.mp h).elim (fun h => ha w (List.mem_cons.mpr (Or.inr h))) (hb w))
theorem goodIn_sub {big ws : List Cond} (hm : ∀ w ∈ ws, w ∈ big) (h : ws.all goodWord = true) : GoodIn big ws := fun w hw => ⟨hm w hw, good_of_word (List.all_eq_true.mp h w hw)⟩
/-! ===== END ===== -/

/-! ===== BEGIN exceptions that leave a method, and their catching by the caller (launches without stack traces) ===== -/
section VXA
/-! The laws vx_back, vx_callV, vx_callS, vx_callSW, vx_throw0, vx_throwS follow proofs of the library, with one case more: JvmDerived/Free/Laws.lean (Back.of_free), Shelf42/LK1.lean (callV, callS), Shelf/KitTraced.lean (throwNew0V, throwNewS). -/
/-- where a method has thrown q: the class by its name, the cell, what was written, the world -/
def vx_T (XC : String → State → State → Prop) (st : State) (q : Addr) (t : State) (mc ms : Nat) (free : Addr → Prop) : Prop :=
  ∃ (E : String) (ce : Cell) (L : List Loc), XC E st t ∧ t.heap[q]? = some ce ∧ ce.vm = .none ∧ st.vm.findClass E = some ce.cls ∧ st.WarmedH t.vm ∧ st.sameButNew ({ t with vm := st.vm } : State) L mc ms ∧ ∀ z ∈ L, free z.base
def vx_Q (Qc : Array Value → State → Outcome → State → Prop) (XC : String → State → State → Prop) (mc ms : Nat) (free : Addr → Prop) : Array Value → State → Outcome → State → Prop := fun a st o t =>
  (Qc a st o t ∧ ∃ L, FrameEnd st o t L mc ms ∧ ∀ q ∈ L, free q.base) ∨ ∃ q, o = .threw q ∧ vx_T XC st q t mc ms free
/-- a callee that returns or throws -/
def vx_Met (l : Launch) (y : MethodName) (ws : List Cond) (rm : Room) (Pc : Array Value → State → Prop) (Qc : Array Value → State → Outcome → State → Prop) (XC : String → State → State → Prop) (mc ms : Nat) (free : Addr → Prop) : Prop :=
  MetFree l y (headSpec ws rm) Pc (fun _ _ _ _ _ => True) (vx_Q Qc XC mc ms free)
def vx_Post (XC : String → State → State → Prop) (mc ms : Nat) (free : Addr → Prop) : Pt → Array Value → Addr → Pt → Prop := fun A a q B =>
  ∃ (g : JFrame) (mk : MethodId) (t : State) (L : List Loc) (E : String) (ce : Cell), B.U.heap = t.heap ∧ B.U.vm = t.vm ∧ XC E (A.U.calling g mk a) t ∧ t.heap[q]? = some ce ∧ ce.vm = .none ∧ A.U.vm.findClass E = some ce.cls ∧ B.locs = A.locs ++ L ∧ (∀ z ∈ L, free z.base) ∧ B.cells = A.cells + mc ∧ B.slots = A.slots + ms
def vx_Back (l : Launch) (R : Room) (p : Program) (e : Env) (below : List Frame) (s : State) (sargs : Array Value) (y : MethodName) (len W9 : Nat)
    (Pre : Pt → Array Value → Prop) (Post : Pt → Array Value → Option Value → Pt → Prop) (PostX : Pt → Array Value → Addr → Pt → Prop) : Prop :=
  ∀ (m : MethodId) (meth : Method) (c : Code) (A : Pt) (g : JFrame) (ig : Instr) (mk : MethodId) (a : Array Value),
    Stand p l e R s m sargs below meth c A.U A.locs A.cells A.slots → g.method = m → g.locals.size = c.maxLocals → decode c.code g.pc = .ok (ig, len) →
    2 * g.monitorRoom + (g.stack.map fun v => v.category).sum ≤ W9 → A.U.methodNamed? y = some mk → Pre A a →
    (∃ (v : Option Value) (B : Pt), Stand p l e R s m sargs below meth c B.U B.locs B.cells B.slots ∧ Post A a v B ∧
      Steps p.tables e below (doInvoke e (A.U.setTop g) [] mk a).1 (B.U.setTop { g with pc := g.pc + len, stack := v.toList ++ g.stack })) ∨
    (∃ (q : Addr) (B : Pt), Stand p l e R s m sargs below meth c B.U B.locs B.cells B.slots ∧ PostX A a q B ∧
      Steps p.tables e below (doInvoke e (A.U.setTop g) [] mk a).1 ((B.U.setTop g).pushFrame (.throwing q)))
section Payer
variable {l : Launch} {R : Room} {p : Program} {e : Env} {below : List Frame} {s : State} {sargs : Array Value} {y : MethodName} {len W9 : Nat}
theorem vx_back {ws : List Cond} {rm : Room} {Pc : Array Value → State → Prop} {Qc : Array Value → State → Outcome → State → Prop} {XC : String → State → State → Prop} {mc ms : Nat} {free : Addr → Prop} {bytes : ByteArray} {maxL : Nat} {ret : Option FieldType}
    (hM : vx_Met l y ws rm Pc Qc XC mc ms free) (hblind : FrameBlind Pc) (hrc : rm.cells = mc) (hrs : rm.slots = ms)
    (hframes : rm.frames + 1 ≤ R.frames) (hlocals : W9 + (maxL + 11) + rm.locals ≤ R.locals)
    (hws : ∀ w ∈ ws, ∀ a' U, s.WarmedH U.vm → w.before a' U = true) (hcode : Cond.code y bytes maxL ret ∈ ws) (hinit : ∀ a' U, s.WarmedH U.vm → (Cond.initialized y.cls).before a' U = true) :
    vx_Back l R p e below s sargs y len W9 (PreOf R mc ms Pc) (PostOf Qc mc ms free) (vx_Post XC mc ms free) := by
  intro m meth c A g ig mk a X hg hsize hdg hW hn hp
  have h1 : (headSpec ws rm).pre.before a A.U = true := atoms_intro fun w hw => hws w hw _ _ X.warmed
  have h2 : (Cond.code y bytes maxL ret).before a A.U = true := hws _ hcode _ _ X.warmed
  have h3 : (Cond.initialized y.cls).before a A.U = true := hinit _ _ X.warmed
  have h4 : A.cells + (headSpec ws rm).room.cells ≤ R.cells := by rw [show (headSpec ws rm).room.cells = mc from hrc]; exact hp.1
  have h5 : A.slots + (headSpec ws rm).room.slots ≤ R.slots := by rw [show (headSpec ws rm).room.slots = ms from hrs]; exact hp.2.1
  have hPc : Pc a (A.U.calling g mk a) := hblind _ _ _ _ hp.2.2
  obtain ⟨U, Ls, c0, s0⟩ := A
  dsimp only [Pt.U, Pt.locs, Pt.cells, Pt.slots] at h1 h2 h3 h4 h5 X hn hPc ⊢
  obtain ⟨methY, cY, hmY, hcY, -, hlY, -, -, -, -⟩ := Cond.code_spec hn h2
  obtain ⟨kY, hkY, -⟩ := className_of_methodNamed hn
  have hinitY : kY.init = .initialized := Cond.initialized_spec (findClass_of_methodNamed hn) hkY h3
  have h : At U g.method c below := by rw [hg]; exact X.here
  have hlocals9 : W9 + (maxL + 11) + (headSpec ws rm).room.locals ≤ R.locals := hlocals
  have happ : (headSpec ws rm).appliesLoose y e.platform (U.calling g mk a) = true :=
    Spec.appliesLoose_calling (g := g) h hdg hn hkY hinitY
      (X.room_calling (g := g) (R' := (headSpec ws rm).room) hsize hmY hcY hframes (by rw [hlY]; omega) h4 h5) h1
  obtain ⟨mid, hmid⟩ := h.above
  have hfr : (U.setTop g).frames = (.java g :: mid) ++ below := by rw [State.frames_setTop' g h.top, hmid]; rfl
  obtain ⟨o, s₂, hsteps, -, hend, hq⟩ := Steps.callFree hM p X.admits X.cas X.clock (acts := []) hfr happ hPc trivial
  have hq' : vx_Q Qc XC mc ms free a (U.calling g mk a) o s₂ := hq
  rw [State.frames_setTop' g h.top] at hend
  obtain ⟨g₀, hg0⟩ := Option.isSome_iff_exists.mp h.top
  obtain ⟨r, hr⟩ := State.topJava?_eq_some.mp hg0
  have hr' : (({ U with heap := s₂.heap, slotsUsed := s₂.slotsUsed } : State).setVm s₂.vm).frames = .java g₀ :: r := hr
  rcases hq' with ⟨hqc, L, hfe, hL⟩ | ⟨q, rfl, E, ce, L, hx, hce, hcv, hcl, hW₂, hsm, hL⟩
  · obtain ⟨⟨v, rfl⟩, hW₂, e2, q2, q3, q4, q5, q6⟩ := id hfe
    have e3 : s₂ = ({ (U.calling g mk a).setFrames s₂.frames with heap := s₂.heap, slotsUsed := s₂.slotsUsed } : State).setVm s₂.vm := by
      have : s₂ = ({ s₂ with vm := (U.calling g mk a).vm } : State).setVm s₂.vm := rfl
      rw [e2] at this
      exact this
    obtain ⟨c₂, i₂, len₂, hc₂, hd₂, hf₂⟩ := hend
    have hW' : U.WarmedH s₂.vm := hW₂
    have hcc : c₂ = c := by
      have h1 : s₂.code? g.method = U.code? g.method := by
        rw [State.code?_eq, State.code?_eq, hW'.alike.method?]
      exact Option.some.inj (hc₂.symm.trans (h1.trans h.code))
    subst hcc
    have hlen : len₂ = len := by rw [hdg] at hd₂; cases hd₂; rfl
    subst hlen
    have hs₂ : s₂ = (({ U with heap := s₂.heap, slotsUsed := s₂.slotsUsed } : State).setVm s₂.vm).setTop { g with pc := g.pc + len₂, stack := v.toList ++ g.stack } := by
      refine e3.trans ?_
      rw [hf₂, State.calling_eq h.top, State.setFrames_setFrames, State.setTop_of_frames _ hr', hr]
      rfl
    have hsame : U.sameButNew ({ U with heap := s₂.heap, slotsUsed := s₂.slotsUsed } : State) L mc ms := by
      refine ⟨?_, q2, q3, q4, q5, q6⟩
      obtain ⟨t, ht, -⟩ := State.frames_cons hr
      show ({ U with heap := s₂.heap, slotsUsed := s₂.slotsUsed } : State) = { U.setFrames U.frames with heap := s₂.heap, slotsUsed := s₂.slotsUsed }
      rw [State.setFrames_self ht]
    subst hg
    refine Or.inl ⟨v, ⟨(({ U with heap := s₂.heap, slotsUsed := s₂.slotsUsed } : State).setVm s₂.vm), Ls ++ L, c0 + mc, s0 + ms⟩,
      ⟨X.admits, X.cas, X.clock, X.frames, X.room, X.hears, X.method, X.code, (X.here.setHeapUsed s₂.heap s₂.slotsUsed).setVm hW'.alike, X.tail, State.WarmedH.trans X.warmed hW', X.limits, X.bytes, X.same.trans (hsame.setVm s.vm)⟩,
      ⟨g, mk, s₂, L, rfl, rfl, hqc, rfl, hL, rfl, rfl⟩, ?_⟩
    show Steps p.tables e below _ ((({ U with heap := s₂.heap, slotsUsed := s₂.slotsUsed } : State).setVm s₂.vm).setTop { g with pc := g.pc + len₂, stack := v.toList ++ g.stack })
    rw [← hs₂]
    exact hsteps
  · obtain ⟨e2, q2, q3, q4, q5, q6⟩ := id hsm
    have e3 : s₂ = ({ (U.calling g mk a).setFrames s₂.frames with heap := s₂.heap, slotsUsed := s₂.slotsUsed } : State).setVm s₂.vm := by
      have : s₂ = ({ s₂ with vm := (U.calling g mk a).vm } : State).setVm s₂.vm := rfl
      rw [e2] at this
      exact this
    have hf₂ : s₂.frames = .throwing q :: .java g :: U.frames.tail := hend
    have hW' : U.WarmedH s₂.vm := hW₂
    have hs₂ : s₂ = ((({ U with heap := s₂.heap, slotsUsed := s₂.slotsUsed } : State).setVm s₂.vm).setTop g).pushFrame (.throwing q) := by
      refine e3.trans ?_
      rw [hf₂, State.calling_eq h.top, State.setFrames_setFrames, State.pushFrame, State.frames_setTop _ hr', State.setTop_of_frames _ hr', State.setFrames_setFrames, hr]
      rfl
    have hsame : U.sameButNew ({ U with heap := s₂.heap, slotsUsed := s₂.slotsUsed } : State) L mc ms := by
      refine ⟨?_, q2, q3, q4, q5, q6⟩
      obtain ⟨t, ht, -⟩ := State.frames_cons hr
      show ({ U with heap := s₂.heap, slotsUsed := s₂.slotsUsed } : State) = { U.setFrames U.frames with heap := s₂.heap, slotsUsed := s₂.slotsUsed }
      rw [State.setFrames_self ht]
    subst hg
    refine Or.inr ⟨q, ⟨(({ U with heap := s₂.heap, slotsUsed := s₂.slotsUsed } : State).setVm s₂.vm), Ls ++ L, c0 + mc, s0 + ms⟩,
      ⟨X.admits, X.cas, X.clock, X.frames, X.room, X.hears, X.method, X.code, (X.here.setHeapUsed s₂.heap s₂.slotsUsed).setVm hW'.alike, X.tail, State.WarmedH.trans X.warmed hW', X.limits, X.bytes, X.same.trans (hsame.setVm s.vm)⟩,
      ⟨g, mk, s₂, L, E, ce, rfl, rfl, hx, hce, hcv, hcl, rfl, hL, rfl, rfl⟩, ?_⟩
    show Steps p.tables e below _ (((({ U with heap := s₂.heap, slotsUsed := s₂.slotsUsed } : State).setVm s₂.vm).setTop g).pushFrame (.throwing q))
    rw [← hs₂]
    exact hsteps
end Payer
section Calls
variable {p : Program} {l : Launch} {e : Env} {R : Room} {s : State} {m : MethodId} {args : Array Value} {below : List Frame} {meth : Method} {c : Code} {T : State} {locs : List Loc} {cells slots : Nat}
theorem vx_callV (X : Stand p l e R s m args below meth c T locs cells slots) (hexec : p.tables.exec = Jvm.exec) {own C : String} {index : Nat} {y : MethodName} {bytes : ByteArray} {maxL : Nat} {ret : Option FieldType}
    (hown : s.vm.findClass own = some m.cls) (hlink : (Cond.methodLink own index y).before args s = true) (hinst : (Cond.instanceMethod y).before args s = true) (hsel : (Cond.selects C y y).before args s = true)
    (hcode : (Cond.code y bytes maxL ret).before args s = true) (hy : y.cls ≠ "java/lang/invoke/MethodHandle" ∧ y.cls ≠ "java/lang/invoke/VarHandle")
    {W9 : Nat} {Pre : Pt → Array Value → Prop} {Post : Pt → Array Value → Option Value → Pt → Prop} {PostX : Pt → Array Value → Addr → Pt → Prop} (hK : vx_Back l R p e below s args y 3 W9 Pre Post PostX)
    {b : Addr} {cellB : Cell} (hcell : T.heap[b]? = some cellB) (hobj : cellB.vm.isStatics = false) (hcls : s.vm.findClass C = some cellB.cls)
    {g : JFrame} (hg : g.method = m) (hsize : g.locals.size = c.maxLocals) {argsL rest : List Value} (hlen : ∀ sig, parseMethodDescriptor y.desc = some sig → argsL.length = sig.parameters.length)
    (hstack : g.stack = argsL.reverse ++ .ref b :: rest) (hW : 2 * g.monitorRoom + (rest.map fun v => v.category).sum ≤ W9) (hdg : decode c.code g.pc = .ok (.invokevirtual index, 3))
    (hpre : ∀ vm₁, s.WarmedH vm₁ → Pre ⟨T.setVm vm₁, locs, cells, slots⟩ (Value.ref b :: argsL).toArray) :
    (∃ (v : Option Value) (vm₁ : Vm) (B : Pt), s.WarmedH vm₁ ∧ Stand p l e R s m args below meth c B.U B.locs B.cells B.slots ∧ Post ⟨T.setVm vm₁, locs, cells, slots⟩ (Value.ref b :: argsL).toArray v B ∧
      ∀ target, Steps p.tables e below (B.U.setTop { g with pc := g.pc + 3, stack := v.toList ++ rest }) target → Steps p.tables e below (T.setTop g) target) ∨
    (∃ (q : Addr) (vm₁ : Vm) (B : Pt), s.WarmedH vm₁ ∧ Stand p l e R s m args below meth c B.U B.locs B.cells B.slots ∧ PostX ⟨T.setVm vm₁, locs, cells, slots⟩ (Value.ref b :: argsL).toArray q B ∧
      Steps p.tables e below (T.setTop g) ((B.U.setTop { g with stack := rest }).pushFrame (.throwing q))) := by
  obtain ⟨mk, methM, hnamed, hmethM, hstM, habM⟩ := Cond.instanceMethod_spec hinst
  obtain ⟨methM', cM, hmethM', -, -, -, -, -, -, hsigM⟩ := Cond.code_spec hnamed hcode
  cases hmethM.symm.trans hmethM'
  obtain ⟨c2, r2, m2, q1, q2, q3, q4, kP, hkP, hkPi⟩ := Cond.selects_spec hsel
  cases hcls.symm.trans q1
  cases (State.methodFound?_of_named hnamed hy).symm.trans q2
  cases hnamed.symm.trans q3
  have hselP : selectMethod e.platform s.vm cellB.cls mk = .method mk := by rw [Launch.admits_selectMethod X.admits]; exact q4
  obtain ⟨vm₁, X₁, hstep₁⟩ := X.invokevirtual hexec hown hlink hnamed hmethM hstM hkP hkPi hy (a := b) (cell := cellB) hcell
    (fun z h => by rw [h] at hobj; cases hobj) hselP hmethM habM hkP hkPi (g := g) hg (argsL := argsL) (rest := rest) (hlen _ hsigM) hstack hdg
  rcases hK m meth c ⟨T.setVm vm₁, locs, cells, slots⟩ { g with stack := rest } (.invokevirtual index) mk (Value.ref b :: argsL).toArray X₁ hg hsize hdg hW (X₁.named hnamed) (hpre vm₁ X₁.warmed) with ⟨v, B, X', hpost, hsteps⟩ | ⟨q, B, X', hpost, hsteps⟩
  · exact Or.inl ⟨v, vm₁, B, X₁.warmed, X', hpost, fun target h => hstep₁ _ fun acts => by rw [doInvoke_state]; exact hsteps.trans h⟩
  · exact Or.inr ⟨q, vm₁, B, X₁.warmed, X', hpost, hstep₁ _ fun acts => by rw [doInvoke_state]; exact hsteps⟩
theorem vx_callS (X : Stand p l e R s m args below meth c T locs cells slots) (hexec : p.tables.exec = Jvm.exec) {own : String} {index : Nat} {y : MethodName} {bytes : ByteArray} {maxL : Nat} {ret : Option FieldType}
    (hown : s.vm.findClass own = some m.cls) (hlink : (Cond.methodLink own index y).before args s = true) (hstat : (Cond.static y).before args s = true) (hinit : (Cond.initialized y.cls).before args s = true)
    (hcode : (Cond.code y bytes maxL ret).before args s = true) (hy : y.cls ≠ "java/lang/invoke/MethodHandle" ∧ y.cls ≠ "java/lang/invoke/VarHandle")
    {W9 : Nat} {Pre : Pt → Array Value → Prop} {Post : Pt → Array Value → Option Value → Pt → Prop} {PostX : Pt → Array Value → Addr → Pt → Prop} (hK : vx_Back l R p e below s args y 3 W9 Pre Post PostX)
    {g : JFrame} (hg : g.method = m) (hsize : g.locals.size = c.maxLocals) {argsL rest : List Value} (hlen : ∀ sig, parseMethodDescriptor y.desc = some sig → argsL.length = sig.parameters.length)
    (hstack : g.stack = argsL.reverse ++ rest) (hW : 2 * g.monitorRoom + (rest.map fun v => v.category).sum ≤ W9) (hdg : decode c.code g.pc = .ok (.invokestatic index, 3))
    (hpre : ∀ vm₁, s.WarmedH vm₁ → Pre ⟨T.setVm vm₁, locs, cells, slots⟩ argsL.toArray) :
    (∃ (v : Option Value) (vm₁ : Vm) (B : Pt), s.WarmedH vm₁ ∧ Stand p l e R s m args below meth c B.U B.locs B.cells B.slots ∧ Post ⟨T.setVm vm₁, locs, cells, slots⟩ argsL.toArray v B ∧
      ∀ target, Steps p.tables e below (B.U.setTop { g with pc := g.pc + 3, stack := v.toList ++ rest }) target → Steps p.tables e below (T.setTop g) target) ∨
    (∃ (q : Addr) (vm₁ : Vm) (B : Pt), s.WarmedH vm₁ ∧ Stand p l e R s m args below meth c B.U B.locs B.cells B.slots ∧ PostX ⟨T.setVm vm₁, locs, cells, slots⟩ argsL.toArray q B ∧
      Steps p.tables e below (T.setTop g) ((B.U.setTop { g with stack := rest }).pushFrame (.throwing q))) := by
  obtain ⟨mk, hnamed⟩ := Cond.code_named hcode
  obtain ⟨methM, cM, hmethM, -, -, -, -, -, -, hsigM⟩ := Cond.code_spec hnamed hcode
  have hstatic : methM.isStatic = true := Cond.static_spec hnamed hmethM hstat
  obtain ⟨kP, hkP, -⟩ := className_of_methodNamed hnamed
  have hinitP : kP.init = .initialized := Cond.initialized_spec (findClass_of_methodNamed hnamed) hkP hinit
  obtain ⟨vm₁, X₁, hstep₁⟩ := X.invokestatic hexec hown hlink hnamed hmethM hstatic hkP hinitP hy (g := g) hg (argsL := argsL) (rest := rest) (hlen _ hsigM) hstack hdg
  rcases hK m meth c ⟨T.setVm vm₁, locs, cells, slots⟩ { g with stack := rest } (.invokestatic index) mk argsL.toArray X₁ hg hsize hdg hW (X₁.named hnamed) (hpre vm₁ X₁.warmed) with ⟨v, B, X', hpost, hsteps⟩ | ⟨q, B, X', hpost, hsteps⟩
  · exact Or.inl ⟨v, vm₁, B, X₁.warmed, X', hpost, fun target h => hstep₁ _ fun acts => by rw [doInvoke_state]; exact hsteps.trans h⟩
  · exact Or.inr ⟨q, vm₁, B, X₁.warmed, X', hpost, hstep₁ _ fun acts => by rw [doInvoke_state]; exact hsteps⟩
end Calls
theorem vx_cls {s : State} {T : State} {vm₁ : Vm} {E : String} {k : ClassId} (hW : s.WarmedH vm₁) (h : (T.setVm vm₁).vm.findClass E = some k) : s.vm.findClass E = some k := by
  have h1 : vm₁.findClass E = some k := h
  rw [hW.alike.findClass] at h1
  exact h1
/-- the method's frame g, with q thrown over it -/
def vx_W (p : Program) (l : Launch) (e : Env) (R : Room) (s : State) (m : MethodId) (args : Array Value) (below : List Frame) (meth : Method) (c : Code) (H : Heap) (locs : List Loc) (cells slots : Nat) (Q : State → Prop) (g : JFrame) (q : Addr) : Prop :=
  ∀ T : State, T.heap = H → Stand p l e R s m args below meth c T locs cells slots → ∃ t, Steps p.tables e below ((T.setTop g).pushFrame (.throwing q)) t ∧ Q t
def vx_Run (p : Program) (l : Launch) (e : Env) (R : Room) (s : State) (m : MethodId) (args : Array Value) (below : List Frame) (meth : Method) (c : Code) (H : Heap) (locs : List Loc) (cells slots mc ms : Nat) (g : JFrame) (rest : List Value) (Qa : State → Outcome → State → Prop) (XC : String → State → State → Prop) (free : Addr → Prop) : Prop :=
  ∀ T : State, T.heap = H → Stand p l e R s m args below meth c T locs cells slots →
    (∃ (v : Option Value) (st₀ t T' : State) (L : List Loc), st₀.heap = H ∧ Stand p l e R s m args below meth c T' (locs ++ L) (cells + mc) (slots + ms) ∧ (∀ q ∈ L, free q.base) ∧ T'.heap = t.heap ∧ T'.vm = t.vm ∧ Qa st₀ (.returned v) t ∧
      Goes p e below T g T' { g with pc := g.pc + 3, stack := v.toList ++ rest }) ∨
    (∃ (q : Addr) (st₀ t T' : State) (L : List Loc) (E : String) (ce : Cell), st₀.heap = H ∧ Stand p l e R s m args below meth c T' (locs ++ L) (cells + mc) (slots + ms) ∧ (∀ z ∈ L, free z.base) ∧ T'.heap = t.heap ∧ T'.vm = t.vm ∧ XC E st₀ t ∧ t.heap[q]? = some ce ∧ ce.vm = .none ∧ s.vm.findClass E = some ce.cls ∧
      Steps p.tables e below (T.setTop g) ((T'.setTop { g with stack := rest }).pushFrame (.throwing q)))
def vx_X {S : Type} (px : S → Prop) (B : String → S → State → Prop) (A : Nat → Prop) : String → State → State → Prop := fun E st t => ∃ u : S, px u ∧ B E u t ∧ va_F A st t
section Runs
variable {p : Program} {l : Launch} {e : Env} {R : Room} {s : State} {m : MethodId} {args : Array Value} {below : List Frame} {meth : Method} {c : Code} {H : Heap} {locs : List Loc} {cells slots : Nat}
variable {y : MethodName} {bytes cc : ByteArray} {maxL nL mc ms n index : Nat} {ret : Option FieldType} {ws : List Cond} {rm : Room} {Pc : Array Value → State → Prop} {Qc : Array Value → State → Outcome → State → Prop} {XC : String → State → State → Prop} {free : Addr → Prop} {Ts : List Cond} {own C : String} {b : Addr} {As rest : List Value} {g : JFrame}
theorem vx_callBack (cb : CallB R s args own index y bytes maxL ret ws rm mc ms n) (hM : vx_Met l y ws rm Pc Qc XC mc ms free) (hbl : FrameBlind Pc) : vx_Back l R p e below s args y 3 8 (PreOf R mc ms Pc) (PostOf Qc mc ms free) (vx_Post XC mc ms free) := by
  obtain ⟨hrc, hrs, hfr, hlo, hws, hcw, -, hini, -⟩ := cb
  exact vx_back (bytes := bytes) (maxL := maxL) (ret := ret) hM hbl hrc hrs hfr hlo hws hcw (fun a' U hW => word_at hW (Or.inl (by first | rfl | simp [Cond.onTables, Cond.keeps, Cond.steady])) hini)
theorem vx_runV (S : CallFix p m c cc nL s args Ts own) (hM : vx_Met l y ws rm Pc Qc XC mc ms free) (cw : CallW R s args own C index y bytes maxL ret ws rm mc ms n) (hp : PreV s H C b Pc As)
    (hg : g.method = m) (hn : As.length = n) (hsize : g.locals.size = nL) (hstack : g.stack = As.reverse ++ .ref b :: rest) (hW : 2 * g.monitorRoom + (rest.map fun v => v.category).sum ≤ 8) (hdg : decode cc g.pc = .ok (.invokevirtual index, 3)) (hf : cells + mc ≤ R.cells ∧ slots + ms ≤ R.slots) :
    vx_Run p l e R s m args below meth c H locs cells slots mc ms g rest (Qc (Value.ref b :: As).toArray) XC free := by
  have hK : vx_Back l R p e below s args y 3 8 (PreOf R mc ms Pc) (PostOf Qc mc ms free) (vx_Post XC mc ms free) := vx_callBack cw.1 hM hp.1
  obtain ⟨⟨-, -, -, -, -, -, hcode, -, hy, hlen, hl⟩, hin, hse⟩ := cw
  obtain ⟨hx, hb, hml, ho, -⟩ := S
  obtain ⟨-, ⟨cellB, hcB, hoB, hclB⟩, hPc⟩ := hp
  intro T hT X
  rcases vx_callV X hx (C := C) (bytes := bytes) (maxL := maxL) (ret := ret) ho hl hin hse hcode hy hK (by rw [hT]; exact hcB) hoB hclB hg (hsize.trans hml.symm) (argsL := As) (rest := rest) (fun sig h => hn.trans (hlen sig h)) hstack hW (by rw [hb]; exact hdg)
    (fun vm₁ hW₁ => ⟨hf.1, hf.2, hPc (T.setVm vm₁) hT hW₁⟩) with ⟨v, vm₁, ⟨U', l2, c2, s2⟩, hW₁, X', ⟨g', mk, t, L, e1, e2, hq, h1, hL, h2, h3⟩, st⟩ | ⟨q, vm₁, ⟨U', l2, c2, s2⟩, hW₁, X', ⟨g', mk, t, L, E, ce, e1, e2, hq, hce, hcv, hcl, h1, hL, h2, h3⟩, st⟩
  · dsimp only [Pt.U, Pt.locs, Pt.cells, Pt.slots] at X' e1 e2 h1 h2 h3 st
    subst h1; subst h2; subst h3
    exact Or.inl ⟨v, (T.setVm vm₁).calling g' mk (Value.ref b :: As).toArray, t, U', L, hT, X', hL, e1, e2, hq, st⟩
  · dsimp only [Pt.U, Pt.locs, Pt.cells, Pt.slots] at X' e1 e2 h1 h2 h3 st hcl
    subst h1; subst h2; subst h3
    exact Or.inr ⟨q, (T.setVm vm₁).calling g' mk (Value.ref b :: As).toArray, t, U', L, E, ce, hT, X', hL, e1, e2, hq, hce, hcv, vx_cls hW₁ hcl, st⟩
theorem vx_runS (S : CallFix p m c cc nL s args Ts own) (hM : vx_Met l y ws rm Pc Qc XC mc ms free) (cw : CallB R s args own index y bytes maxL ret ws rm mc ms n ∧ (Cond.static y).before args s = true) (hp : PreS s H Pc As)
    (hg : g.method = m) (hn : As.length = n) (hsize : g.locals.size = nL) (hstack : g.stack = As.reverse ++ rest) (hW : 2 * g.monitorRoom + (rest.map fun v => v.category).sum ≤ 8) (hdg : decode cc g.pc = .ok (.invokestatic index, 3)) (hf : cells + mc ≤ R.cells ∧ slots + ms ≤ R.slots) :
    vx_Run p l e R s m args below meth c H locs cells slots mc ms g rest (Qc As.toArray) XC free := by
  have hK : vx_Back l R p e below s args y 3 8 (PreOf R mc ms Pc) (PostOf Qc mc ms free) (vx_Post XC mc ms free) := vx_callBack cw.1 hM hp.1
  obtain ⟨⟨-, -, -, -, -, -, hcode, hini, hy, hlen, hl⟩, hstt⟩ := cw
  obtain ⟨hx, hb, hml, ho, -⟩ := S
  intro T hT X
  rcases vx_callS X hx (bytes := bytes) (maxL := maxL) (ret := ret) ho hl hstt hini hcode hy hK hg (hsize.trans hml.symm) (argsL := As) (rest := rest) (fun sig h => hn.trans (hlen sig h)) hstack hW (by rw [hb]; exact hdg)
    (fun vm₁ hW₁ => ⟨hf.1, hf.2, hp.2 (T.setVm vm₁) hT hW₁⟩) with ⟨v, vm₁, ⟨U', l2, c2, s2⟩, hW₁, X', ⟨g', mk, t, L, e1, e2, hq, h1, hL, h2, h3⟩, st⟩ | ⟨q, vm₁, ⟨U', l2, c2, s2⟩, hW₁, X', ⟨g', mk, t, L, E, ce, e1, e2, hq, hce, hcv, hcl, h1, hL, h2, h3⟩, st⟩
  · dsimp only [Pt.U, Pt.locs, Pt.cells, Pt.slots] at X' e1 e2 h1 h2 h3 st
    subst h1; subst h2; subst h3
    exact Or.inl ⟨v, (T.setVm vm₁).calling g' mk As.toArray, t, U', L, hT, X', hL, e1, e2, hq, st⟩
  · dsimp only [Pt.U, Pt.locs, Pt.cells, Pt.slots] at X' e1 e2 h1 h2 h3 st hcl
    subst h1; subst h2; subst h3
    exact Or.inr ⟨q, (T.setVm vm₁).calling g' mk As.toArray, t, U', L, E, ce, hT, X', hL, e1, e2, hq, hce, hcv, vx_cls hW₁ hcl, st⟩
end Runs
section Rows
variable {p : Program} {l : Launch} {e : Env} {R : Room} {s : State} {m : MethodId} {args : Array Value} {below : List Frame} {meth : Method} {c : Code} {H : Heap} {locs : List Loc} {cells slots : Nat} {Q : State → Prop}
variable {mc ms : Nat} {free : Addr → Prop} {A0 A1 : Nat → Prop} {H0 : Heap} {a : Array Value} {pc : Nat} {ls : Array Slot} {st0 rest : List Value}
theorem vx_keep {st₀ t T' : State} {L : List Loc} (h0 : st₀.heap = H) (e1 : T'.heap = t.heap) (hS : va_S A0 H0 H locs) (hA : ∀ q, q < H.size → A1 q → A0 q) (hf : ∀ q, free q → A0 q) (hL : ∀ q ∈ L, free q.base) (hF : va_F A1 st₀ t) :
    H.size ≤ T'.heap.size ∧ (∀ q : Nat, q < H.size → ¬ A1 q → T'.heap[q]? = H[q]?) ∧ va_S A0 H0 T'.heap (locs ++ L) := by
  obtain ⟨hz, hk⟩ := hF
  rw [h0] at hz hk
  exact ⟨by rw [e1]; exact hz, fun q h1 h2 => by rw [e1]; exact hk q h1 h2,
    ⟨Nat.le_trans hS.1 (by rw [e1]; exact hz), fun q h1 h2 => by rw [e1, hk q (Nat.lt_of_lt_of_le h1 hS.1) (fun z => h2 (hA q (Nat.lt_of_lt_of_le h1 hS.1) z))]; exact hS.2.1 q h1 h2, fun q hq => by
      rcases List.mem_append.mp hq with h | h
      · exact hS.2.2 q h
      · exact hf _ (hL q h)⟩⟩
theorem vx_calli {S SX : Type} {post : Int32 → S → Prop} {px : SX → Prop} {B : S → State → Prop} {BX : String → SX → State → Prop} {AX : Nat → Prop} (hr : vx_Run p l e R s m args below meth c H locs cells slots mc ms (F0 m pc ls st0) rest (va_Qi post B A1 a) (vx_X px BX AX) free) (hS : va_S A0 H0 H locs) (hA : ∀ q, q < H.size → A1 q → A0 q) (hf : ∀ q, free q → A0 q) (hAX : ∀ q, q < H.size → AX q → A0 q)
    (kx : ∀ (E : String) (ce : Cell) (q9 : Addr) (u : SX) (t : State) (H1 : Heap) (locs1 : List Loc), t.heap = H1 → s.vm.Alike t.vm → px u → BX E u t → H.size ≤ H1.size → (∀ q : Nat, q < H.size → ¬ AX q → H1[q]? = H[q]?) → va_S A0 H0 H1 locs1 → H1[q9]? = some ce → ce.vm = .none → s.vm.findClass E = some ce.cls → vx_W p l e R s m args below meth c H1 locs1 (cells + mc) (slots + ms) Q (F0 m pc ls rest) q9)
    (kk : ∀ (r : Int32) (u : S) (t : State) (H1 : Heap) (locs1 : List Loc), t.heap = H1 → s.vm.Alike t.vm → post r u → B u t → H.size ≤ H1.size → (∀ q : Nat, q < H.size → ¬ A1 q → H1[q]? = H[q]?) → va_S A0 H0 H1 locs1 → W p l e R s m args below meth c H1 locs1 (cells + mc) (slots + ms) Q (F0 m (pc + 3) ls (.int r :: rest))) : W p l e R s m args below meth c H locs cells slots Q (F0 m pc ls st0) := by
  intro T hT X
  rcases hr T hT X with ⟨v, st₀, t, T', L, h0, X', hL, e1, e2, ⟨⟨r, u, hv, hp, hb⟩, hF⟩, st⟩ | ⟨q, st₀, t, T', L, E, ce, h0, X', hL, e1, e2, ⟨u, hp, hb, hF⟩, hce, hcv, hcl, st⟩
  · cases hv
    obtain ⟨k1, k2, k3⟩ := vx_keep h0 e1 hS hA hf hL hF
    obtain ⟨t2, a1, b1⟩ := kk r u t T'.heap (locs ++ L) e1.symm (by rw [← e2]; exact X'.warmed.alike) hp hb k1 k2 k3 T' rfl X'
    exact ⟨t2, st t2 a1, b1⟩
  · obtain ⟨k1, k2, k3⟩ := vx_keep h0 e1 hS hAX hf hL hF
    obtain ⟨t2, a1, b1⟩ := kx E ce q u t T'.heap (locs ++ L) e1.symm (by rw [← e2]; exact X'.warmed.alike) hp hb k1 k2 k3 (by rw [e1]; exact hce) hcv hcl T' rfl X'
    exact ⟨t2, st.trans a1, b1⟩
theorem vx_calll {S SX : Type} {post : Int64 → S → Prop} {px : SX → Prop} {B : S → State → Prop} {BX : String → SX → State → Prop} {AX : Nat → Prop} (hr : vx_Run p l e R s m args below meth c H locs cells slots mc ms (F0 m pc ls st0) rest (va_Ql post B A1 a) (vx_X px BX AX) free) (hS : va_S A0 H0 H locs) (hA : ∀ q, q < H.size → A1 q → A0 q) (hf : ∀ q, free q → A0 q) (hAX : ∀ q, q < H.size → AX q → A0 q)
    (kx : ∀ (E : String) (ce : Cell) (q9 : Addr) (u : SX) (t : State) (H1 : Heap) (locs1 : List Loc), t.heap = H1 → s.vm.Alike t.vm → px u → BX E u t → H.size ≤ H1.size → (∀ q : Nat, q < H.size → ¬ AX q → H1[q]? = H[q]?) → va_S A0 H0 H1 locs1 → H1[q9]? = some ce → ce.vm = .none → s.vm.findClass E = some ce.cls → vx_W p l e R s m args below meth c H1 locs1 (cells + mc) (slots + ms) Q (F0 m pc ls rest) q9)
    (kk : ∀ (r : Int64) (u : S) (t : State) (H1 : Heap) (locs1 : List Loc), t.heap = H1 → s.vm.Alike t.vm → post r u → B u t → H.size ≤ H1.size → (∀ q : Nat, q < H.size → ¬ A1 q → H1[q]? = H[q]?) → va_S A0 H0 H1 locs1 → W p l e R s m args below meth c H1 locs1 (cells + mc) (slots + ms) Q (F0 m (pc + 3) ls (.long r :: rest))) : W p l e R s m args below meth c H locs cells slots Q (F0 m pc ls st0) := by
  intro T hT X
  rcases hr T hT X with ⟨v, st₀, t, T', L, h0, X', hL, e1, e2, ⟨⟨r, u, hv, hp, hb⟩, hF⟩, st⟩ | ⟨q, st₀, t, T', L, E, ce, h0, X', hL, e1, e2, ⟨u, hp, hb, hF⟩, hce, hcv, hcl, st⟩
  · cases hv
    obtain ⟨k1, k2, k3⟩ := vx_keep h0 e1 hS hA hf hL hF
    obtain ⟨t2, a1, b1⟩ := kk r u t T'.heap (locs ++ L) e1.symm (by rw [← e2]; exact X'.warmed.alike) hp hb k1 k2 k3 T' rfl X'
    exact ⟨t2, st t2 a1, b1⟩
  · obtain ⟨k1, k2, k3⟩ := vx_keep h0 e1 hS hAX hf hL hF
    obtain ⟨t2, a1, b1⟩ := kx E ce q u t T'.heap (locs ++ L) e1.symm (by rw [← e2]; exact X'.warmed.alike) hp hb k1 k2 k3 (by rw [e1]; exact hce) hcv hcl T' rfl X'
    exact ⟨t2, st.trans a1, b1⟩
theorem vx_callf {S SX : Type} {post : UInt32 → S → Prop} {px : SX → Prop} {B : S → State → Prop} {BX : String → SX → State → Prop} {AX : Nat → Prop} (hr : vx_Run p l e R s m args below meth c H locs cells slots mc ms (F0 m pc ls st0) rest (va_Qf post B A1 a) (vx_X px BX AX) free) (hS : va_S A0 H0 H locs) (hA : ∀ q, q < H.size → A1 q → A0 q) (hf : ∀ q, free q → A0 q) (hAX : ∀ q, q < H.size → AX q → A0 q)
    (kx : ∀ (E : String) (ce : Cell) (q9 : Addr) (u : SX) (t : State) (H1 : Heap) (locs1 : List Loc), t.heap = H1 → s.vm.Alike t.vm → px u → BX E u t → H.size ≤ H1.size → (∀ q : Nat, q < H.size → ¬ AX q → H1[q]? = H[q]?) → va_S A0 H0 H1 locs1 → H1[q9]? = some ce → ce.vm = .none → s.vm.findClass E = some ce.cls → vx_W p l e R s m args below meth c H1 locs1 (cells + mc) (slots + ms) Q (F0 m pc ls rest) q9)
    (kk : ∀ (r : UInt32) (u : S) (t : State) (H1 : Heap) (locs1 : List Loc), t.heap = H1 → s.vm.Alike t.vm → post r u → B u t → H.size ≤ H1.size → (∀ q : Nat, q < H.size → ¬ A1 q → H1[q]? = H[q]?) → va_S A0 H0 H1 locs1 → W p l e R s m args below meth c H1 locs1 (cells + mc) (slots + ms) Q (F0 m (pc + 3) ls (.float r :: rest))) : W p l e R s m args below meth c H locs cells slots Q (F0 m pc ls st0) := by
  intro T hT X
  rcases hr T hT X with ⟨v, st₀, t, T', L, h0, X', hL, e1, e2, ⟨⟨r, u, hv, hp, hb⟩, hF⟩, st⟩ | ⟨q, st₀, t, T', L, E, ce, h0, X', hL, e1, e2, ⟨u, hp, hb, hF⟩, hce, hcv, hcl, st⟩
  · cases hv
    obtain ⟨k1, k2, k3⟩ := vx_keep h0 e1 hS hA hf hL hF
    obtain ⟨t2, a1, b1⟩ := kk r u t T'.heap (locs ++ L) e1.symm (by rw [← e2]; exact X'.warmed.alike) hp hb k1 k2 k3 T' rfl X'
    exact ⟨t2, st t2 a1, b1⟩
  · obtain ⟨k1, k2, k3⟩ := vx_keep h0 e1 hS hAX hf hL hF
    obtain ⟨t2, a1, b1⟩ := kx E ce q u t T'.heap (locs ++ L) e1.symm (by rw [← e2]; exact X'.warmed.alike) hp hb k1 k2 k3 (by rw [e1]; exact hce) hcv hcl T' rfl X'
    exact ⟨t2, st.trans a1, b1⟩
theorem vx_calld {S SX : Type} {post : UInt64 → S → Prop} {px : SX → Prop} {B : S → State → Prop} {BX : String → SX → State → Prop} {AX : Nat → Prop} (hr : vx_Run p l e R s m args below meth c H locs cells slots mc ms (F0 m pc ls st0) rest (va_Qd post B A1 a) (vx_X px BX AX) free) (hS : va_S A0 H0 H locs) (hA : ∀ q, q < H.size → A1 q → A0 q) (hf : ∀ q, free q → A0 q) (hAX : ∀ q, q < H.size → AX q → A0 q)
    (kx : ∀ (E : String) (ce : Cell) (q9 : Addr) (u : SX) (t : State) (H1 : Heap) (locs1 : List Loc), t.heap = H1 → s.vm.Alike t.vm → px u → BX E u t → H.size ≤ H1.size → (∀ q : Nat, q < H.size → ¬ AX q → H1[q]? = H[q]?) → va_S A0 H0 H1 locs1 → H1[q9]? = some ce → ce.vm = .none → s.vm.findClass E = some ce.cls → vx_W p l e R s m args below meth c H1 locs1 (cells + mc) (slots + ms) Q (F0 m pc ls rest) q9)
    (kk : ∀ (r : UInt64) (u : S) (t : State) (H1 : Heap) (locs1 : List Loc), t.heap = H1 → s.vm.Alike t.vm → post r u → B u t → H.size ≤ H1.size → (∀ q : Nat, q < H.size → ¬ A1 q → H1[q]? = H[q]?) → va_S A0 H0 H1 locs1 → W p l e R s m args below meth c H1 locs1 (cells + mc) (slots + ms) Q (F0 m (pc + 3) ls (.double r :: rest))) : W p l e R s m args below meth c H locs cells slots Q (F0 m pc ls st0) := by
  intro T hT X
  rcases hr T hT X with ⟨v, st₀, t, T', L, h0, X', hL, e1, e2, ⟨⟨r, u, hv, hp, hb⟩, hF⟩, st⟩ | ⟨q, st₀, t, T', L, E, ce, h0, X', hL, e1, e2, ⟨u, hp, hb, hF⟩, hce, hcv, hcl, st⟩
  · cases hv
    obtain ⟨k1, k2, k3⟩ := vx_keep h0 e1 hS hA hf hL hF
    obtain ⟨t2, a1, b1⟩ := kk r u t T'.heap (locs ++ L) e1.symm (by rw [← e2]; exact X'.warmed.alike) hp hb k1 k2 k3 T' rfl X'
    exact ⟨t2, st t2 a1, b1⟩
  · obtain ⟨k1, k2, k3⟩ := vx_keep h0 e1 hS hAX hf hL hF
    obtain ⟨t2, a1, b1⟩ := kx E ce q u t T'.heap (locs ++ L) e1.symm (by rw [← e2]; exact X'.warmed.alike) hp hb k1 k2 k3 (by rw [e1]; exact hce) hcv hcl T' rfl X'
    exact ⟨t2, st.trans a1, b1⟩
theorem vx_callv {S SX : Type} {post : S → Prop} {px : SX → Prop} {B : S → State → Prop} {BX : String → SX → State → Prop} {AX : Nat → Prop} (hr : vx_Run p l e R s m args below meth c H locs cells slots mc ms (F0 m pc ls st0) rest (va_Qv post B A1 a) (vx_X px BX AX) free) (hS : va_S A0 H0 H locs) (hA : ∀ q, q < H.size → A1 q → A0 q) (hf : ∀ q, free q → A0 q) (hAX : ∀ q, q < H.size → AX q → A0 q)
    (kx : ∀ (E : String) (ce : Cell) (q9 : Addr) (u : SX) (t : State) (H1 : Heap) (locs1 : List Loc), t.heap = H1 → s.vm.Alike t.vm → px u → BX E u t → H.size ≤ H1.size → (∀ q : Nat, q < H.size → ¬ AX q → H1[q]? = H[q]?) → va_S A0 H0 H1 locs1 → H1[q9]? = some ce → ce.vm = .none → s.vm.findClass E = some ce.cls → vx_W p l e R s m args below meth c H1 locs1 (cells + mc) (slots + ms) Q (F0 m pc ls rest) q9)
    (kk : ∀ (u : S) (t : State) (H1 : Heap) (locs1 : List Loc), t.heap = H1 → s.vm.Alike t.vm → post u → B u t → H.size ≤ H1.size → (∀ q : Nat, q < H.size → ¬ A1 q → H1[q]? = H[q]?) → va_S A0 H0 H1 locs1 → W p l e R s m args below meth c H1 locs1 (cells + mc) (slots + ms) Q (F0 m (pc + 3) ls (rest))) : W p l e R s m args below meth c H locs cells slots Q (F0 m pc ls st0) := by
  intro T hT X
  rcases hr T hT X with ⟨v, st₀, t, T', L, h0, X', hL, e1, e2, ⟨⟨u, hv, hp, hb⟩, hF⟩, st⟩ | ⟨q, st₀, t, T', L, E, ce, h0, X', hL, e1, e2, ⟨u, hp, hb, hF⟩, hce, hcv, hcl, st⟩
  · cases hv
    obtain ⟨k1, k2, k3⟩ := vx_keep h0 e1 hS hA hf hL hF
    obtain ⟨t2, a1, b1⟩ := kk u t T'.heap (locs ++ L) e1.symm (by rw [← e2]; exact X'.warmed.alike) hp hb k1 k2 k3 T' rfl X'
    exact ⟨t2, st t2 a1, b1⟩
  · obtain ⟨k1, k2, k3⟩ := vx_keep h0 e1 hS hAX hf hL hF
    obtain ⟨t2, a1, b1⟩ := kx E ce q u t T'.heap (locs ++ L) e1.symm (by rw [← e2]; exact X'.warmed.alike) hp hb k1 k2 k3 (by rw [e1]; exact hce) hcv hcl T' rfl X'
    exact ⟨t2, st.trans a1, b1⟩
/-- caught by the row x of this method's table; the rows ahead don't take it -/
theorem vx_catch {own name : String} {E : String} {ce : Cell} {q : Addr} (hown : s.vm.findClass own = some m.cls) (pre : List ExceptionTableEntry) (x : ExceptionTableEntry) (suf : List ExceptionTableEntry) (hsplit : c.exceptionTable.toList = pre ++ x :: suf)
    (hpass : ∀ z ∈ pre, covers z pc = false ∨ (z.catchType ≠ 0 ∧ ∃ nm : String, (Cond.classLink own z.catchType nm).before args s = true ∧ va_Nc E nm s)) (hx : covers x pc = true) (h0 : x.catchType ≠ 0)
    (hlink : (Cond.classLink own x.catchType name).before args s = true) (hcast : (Cond.castable E name).before args s = true) (hcell : H[q]? = some ce) (hv : ce.vm = .none) (hcl : s.vm.findClass E = some ce.cls)
    (kk : W p l e R s m args below meth c H locs cells slots Q (F0 m x.handlerPc ls [.ref q])) : vx_W p l e R s m args below meth c H locs cells slots Q (F0 m pc ls rest) q := by
  intro T hT X
  have hpl : e.platform.magicAccessors = ({} : Platform).magicAccessors := by rw [X.admits.platform]
  obtain ⟨c3, c4, hc3, hc4, hasg⟩ := Cond.castable_spec hcast
  cases Option.some.inj (hc3.symm.trans hcl)
  obtain ⟨c5, hc5, hcl5⟩ := Cond.classLink_spec hown hlink e.platform hpl
  cases Option.some.inj (hc4.symm.trans hc5)
  obtain ⟨vm', X', st⟩ := X.thenCaughtThrough q (g := F0 m pc ls rest) rfl (Steps.refl _) (by rw [hT]; exact hcell) (by rw [hv]; rfl) (by obtain ⟨k9, h9, -⟩ := Vm.findClass_spec hcl; exact ⟨k9, h9⟩) pre x suf hsplit
    (fun z hz => by
      rcases hpass z hz with h | ⟨hz0, nm, hl1, hn1⟩
      · exact Or.inl h
      · obtain ⟨c6, hc6, hcl6⟩ := Cond.classLink_spec hown hl1 e.platform hpl
        obtain ⟨a8, b8, h1, h2, h3⟩ := hn1
        cases Option.some.inj (h1.symm.trans hcl)
        cases Option.some.inj (h2.symm.trans hc6)
        exact Or.inr ⟨hz0, _, hcl6, h3⟩) hx (Or.inr ⟨h0, c4, hcl5, hasg⟩)
  obtain ⟨t, a1, b1⟩ := kk (T.setVm vm') hT X'
  exact ⟨t, st.trans a1, b1⟩
end Rows
section Ends
variable {p : Program} {l : Launch} {e : Env} {R : Room} {s : State} {m : MethodId} {args : Array Value} {below : List Frame} {meth : Method} {c : Code} {H : Heap} {locs : List Loc} {cells slots : Nat} {Q : State → Prop}
variable {mc ms : Nat} {free : Addr → Prop} {A0 A1 : Nat → Prop} {H0 : Heap} {a : Array Value} {ls : Array Slot} {st0 rest : List Value}
variable {Qc : Array Value → State → Outcome → State → Prop} {XC : String → State → State → Prop}
/-- what a body that may throw owes at its end -/
def vx_MQ (below : List Frame) (Qc : Array Value → State → Outcome → State → Prop) (XC : String → State → State → Prop) (a : Array Value) (s : State) (mc ms : Nat) (free : Addr → Prop) : State → Prop := fun t =>
  ∃ o, t.status = .running ∧ Ended t below o ∧ vx_Q Qc XC mc ms free a s o t
theorem vx_ret {g : JFrame} {mc ms : Nat} (k : W p l e R s m args below meth c H locs cells slots (MQ below Qc args s mc ms free) g) : W p l e R s m args below meth c H locs cells slots (vx_MQ below Qc XC args s mc ms free) g := by
  intro T hT X
  obtain ⟨t, a1, o, b1, b2, b3, b4⟩ := k T hT X
  exact ⟨t, a1, o, b1, b2, Or.inl ⟨b3, b4⟩⟩
/-- not caught here: it goes on to the caller -/
theorem vx_widen {g : JFrame} {q : Addr} {k n : Nat} (h1 : cells ≤ k) (h2 : slots ≤ n) (kk : vx_W p l e R s m args below meth c H locs k n Q g q) : vx_W p l e R s m args below meth c H locs cells slots Q g q := fun T hT X => kk T hT (stand_widen X h1 h2)
theorem vx_out {pc : Nat} {E : String} {ce : Cell} {q : Addr} {mc ms : Nat} (hout : ∀ x ∈ c.exceptionTable.toList, covers x pc = false) (hlocks : meth.locks = false) (hcell : H[q]? = some ce) (hv : ce.vm = .none) (hcl : s.vm.findClass E = some ce.cls)
    (hx : ∀ t : State, t.heap = H → s.vm.Alike t.vm → XC E s t) (hf : ∀ z ∈ locs, free z.base) (hc : cells ≤ mc) (hs : slots ≤ ms) :
    vx_W p l e R s m args below meth c H locs cells slots (vx_MQ below Qc XC args s mc ms free) (F0 m pc ls rest) q := by
  intro T hT X
  obtain ⟨st1, hrun, hend, hW, hsm⟩ := X.leaveThrown q (g := F0 m pc ls rest) rfl rfl rfl hout hlocks
  have hcell9 : (T.setFrames (.throwing q :: below)).heap[q]? = some ce := by
    show T.heap[q]? = some ce
    rw [hT]; exact hcell
  exact ⟨_, st1, .threw q, hrun, hend, Or.inr ⟨q, rfl, E, ce, locs, hx _ hT hW.alike, hcell9, hv, hcl, hW, hsm.mono hc hs, hf⟩⟩
theorem vx_frame {U : State} {k n : Nat} (h : s.sameButNew ({ U with vm := s.vm } : State) locs k n) : s.heap.size ≤ U.heap.size ∧ ∀ q : Nat, q < s.heap.size → (∀ z ∈ locs, z.base ≠ q) → U.heap[q]? = s.heap[q]? := by
  obtain ⟨-, h2, -, -, -, h6⟩ := h
  refine ⟨h2, fun q hq hz => ?_⟩
  obtain ⟨c9, e1, e2, e3, e4⟩ := h6 q _ (Array.getElem?_eq_getElem hq)
  have hs : c9.slots = (s.heap[q]).slots := Array.ext_getElem? fun i => e4 i fun hm => hz _ hm rfl
  have h9 : c9 = s.heap[q] := by
    rw [hs] at e2
    exact e2
  have e5 : U.heap[q]? = some c9 := e1
  rw [e5, h9, Array.getElem?_eq_getElem hq]
/-- the words of a throw but the four that speak of the heap -/
def vx_no (w : Cond) : Bool := decide (w ≠ .isRef (.static Bundle.tN "UNASSIGNED_STACK" Bundle.steD)) && decide (w ≠ .isRef (.static Bundle.tN "SUPPRESSED_SENTINEL" Bundle.listD)) && decide (w ≠ .laysStatic Bundle.tN "UNASSIGNED_STACK" Bundle.steD) && decide (w ≠ .laysStatic Bundle.tN "SUPPRESSED_SENTINEL" Bundle.listD)
def vx_at0 (own : String) (ic : Nat) (X : String) (names : List String) : List Cond := (Bundle.ownAtoms0 own ic X names).filter vx_no
def vx_atS (own : String) (ic : Nat) (X : String) (names : List String) : List Cond := (Bundle.ownAtoms own ic X names).filter vx_no
/-- a word that the tables alone decide, or a good one -/
def vx_ot (w : Cond) : Bool := w.onTables || goodWord w
theorem vx_ot_at {args a' : Array Value} {s U : State} {w : Cond} (hW : s.WarmedH U.vm) (hvm : s.vm = U.vm) (hg : vx_ot w = true) (h : w.before args s = true) : w.before a' U = true := by
  simp only [vx_ot, Bool.or_eq_true] at hg
  rcases hg with hg | hg
  · exact va_tabs hg hvm h
  · exact word_at hW (good_of_word hg) h
/-- a list's words: the good ones out of the method's own list, the others by premises of their own -/
theorem vx_hat {args : Array Value} {s : State} {L B : List Cond} (h1 : ∀ w ∈ L.filter goodWord, w.before args s = true) (h2 : ∀ w ∈ L.filter (fun w => !goodWord w), w ∈ B) (h3 : ∀ w ∈ B, w.before args s = true) : ∀ w ∈ L, w.before args s = true := by
  intro w hw
  by_cases g : goodWord w = true
  · exact h1 w (List.mem_filter.mpr ⟨hw, g⟩)
  · refine h3 w (h2 w (List.mem_filter.mpr ⟨hw, ?_⟩))
    show (!goodWord w) = true
    cases hgw : goodWord w
    · rfl
    · exact absurd hgw g
theorem vx_c {args : Array Value} {s : State} {w : Cond} {B : List Cond} (h : w.before args s = true) (t : ∀ w ∈ B, w.before args s = true) : ∀ w' ∈ w :: B, w'.before args s = true := fun w' h' => (List.mem_cons.mp h').elim (fun e => by rw [e]; exact h) (t w')
theorem vx_n {args : Array Value} {s : State} : ∀ w ∈ ([] : List Cond), w.before args s = true := fun _ h => nomatch h
theorem vx_own {args : Array Value} {s : State} {L : List Cond} (h1 : ∀ w ∈ L.filter vx_no, w.before args s = true)
    (hU : (Cond.isRef (.static Bundle.tN "UNASSIGNED_STACK" Bundle.steD)).before args s = true) (hN : (Cond.isRef (.static Bundle.tN "SUPPRESSED_SENTINEL" Bundle.listD)).before args s = true)
    (lU : (Cond.laysStatic Bundle.tN "UNASSIGNED_STACK" Bundle.steD).before args s = true) (lN : (Cond.laysStatic Bundle.tN "SUPPRESSED_SENTINEL" Bundle.listD).before args s = true) : ∀ w ∈ L, w.before args s = true := by
  intro w hw
  by_cases e1 : w = .isRef (.static Bundle.tN "UNASSIGNED_STACK" Bundle.steD)
  · rw [e1]; exact hU
  · by_cases e2 : w = .isRef (.static Bundle.tN "SUPPRESSED_SENTINEL" Bundle.listD)
    · rw [e2]; exact hN
    · by_cases e3 : w = .laysStatic Bundle.tN "UNASSIGNED_STACK" Bundle.steD
      · rw [e3]; exact lU
      · by_cases e4 : w = .laysStatic Bundle.tN "SUPPRESSED_SENTINEL" Bundle.listD
        · rw [e4]; exact lN
        · exact h1 w (List.mem_filter.mpr ⟨hw, by unfold vx_no; rw [decide_eq_true e1, decide_eq_true e2, decide_eq_true e3, decide_eq_true e4]; rfl⟩)
/-- where a static field lies, its class's statics cell in H -/
def vx_L (C n d : String) (A : Nat → Prop) (U : State) (H : Heap) : Prop := ∃ (c : ClassId) (k : Class) (i : Nat) (f : Field) (a : Nat) (cell : Cell), U.vm.findClass C = some c ∧ U.fieldFound? C n d = some (c, k, i, f) ∧ f.isStatic = true ∧ k.statics = some a ∧ H[a]? = some cell ∧ cell.vm.isStatics = true ∧ cell.cls = c ∧ f.slot < cell.slots.size ∧ k.staticTypes[f.slot]? = some f.type ∧ ¬ A a
theorem vx_L.moved {C n d : String} {A : Nat → Prop} {u U : State} {H : Heap} (hvm : u.vm.Alike U.vm) (h : vx_L C n d A u H) : vx_L C n d A U H := by
  obtain ⟨c, k, i, f, a, cell, h1, h2, h3, h4, h5, h6, h7, h8, h9, h10⟩ := h
  obtain ⟨k', hi', he⟩ := State.fieldFound?_setVm hvm h2
  exact ⟨c, k', i, f, a, cell, by rw [hvm.findClass]; exact h1, hi', h3, by rw [he]; exact h4, h5, h6, h7, h8, by rw [he]; exact h9, h10⟩
theorem vx_L.kept {C n d : String} {A : Nat → Prop} {U : State} {H H1 : Heap} (h : vx_L C n d A U H) (hq : ∀ a : Nat, a < H.size → ¬ A a → H1[a]? = H[a]?) : vx_L C n d A U H1 := by
  obtain ⟨c, k, i, f, a, cell, h1, h2, h3, h4, h5, h6, h7, h8, h9, h10⟩ := h
  exact ⟨c, k, i, f, a, cell, h1, h2, h3, h4, by rw [hq a (Array.getElem?_eq_some_iff.mp h5).1 h10]; exact h5, h6, h7, h8, h9, h10⟩
theorem vx_L.narrow {C n d : String} {A B : Nat → Prop} {U : State} {H : Heap} (h : vx_L C n d A U H) (hAB : ∀ q, B q → A q) : vx_L C n d B U H := by
  obtain ⟨c, k, i, f, a, cell, h1, h2, h3, h4, h5, h6, h7, h8, h9, h10⟩ := h
  exact ⟨c, k, i, f, a, cell, h1, h2, h3, h4, h5, h6, h7, h8, h9, fun z => h10 (hAB _ z)⟩
theorem vx_L.word {C n d : String} {A : Nat → Prop} {s : State} {args : Array Value} (h : vx_L C n d A s s.heap) : (Cond.laysStatic C n d).before args s = true := by
  obtain ⟨c, k, i, f, a, cell, h1, h2, h3, h4, h5, h6, h7, h8, h9, -⟩ := h
  show (Cond.laysStatic C n d).holds args s none s [] = true
  exact Cond.laysStatic_of h1 h2 h3 h4 h5 h6 h7 h8 h9
/-- .. and what it holds: null or some reference -/
def vx_Zq (C n d : String) (A : Nat → Prop) (U : State) (H : Heap) : Prop := va_Zq C n d A U H ∧ vx_L C n d A U H
theorem vx_Zq.moved {C n d : String} {A : Nat → Prop} {u U : State} {H : Heap} (hvm : u.vm.Alike U.vm) (h : vx_Zq C n d A u H) : vx_Zq C n d A U H := ⟨va_Zq.moved hvm h.1, vx_L.moved hvm h.2⟩
theorem vx_Zq.kept {C n d : String} {A : Nat → Prop} {U : State} {H H1 : Heap} (h : vx_Zq C n d A U H) (hq : ∀ a : Nat, a < H.size → ¬ A a → H1[a]? = H[a]?) : vx_Zq C n d A U H1 := ⟨va_Zq.kept h.1 hq, vx_L.kept h.2 hq⟩
theorem vx_Zq.narrow {C n d : String} {A B : Nat → Prop} {U : State} {H : Heap} (h : vx_Zq C n d A U H) (hAB : ∀ q, B q → A q) : vx_Zq C n d B U H := ⟨va_Zq.narrow h.1 hAB, vx_L.narrow h.2 hAB⟩
theorem vx_Zqof {args : Array Value} {s : State} {C n d : String} {A : Nat → Prop} (hl : (Cond.laysStatic C n d).before args s = true) (hini : (Cond.initialized C).before args s = true) (h : (Cond.isRef (.static C n d)).before args s = true) (hA : ∀ a : Nat, a < s.heap.size → ¬ A a) : vx_Zq C n d A s s.heap := by
  refine ⟨va_Zqof hl hini h hA, ?_⟩
  obtain ⟨c, k, i, f, a, cell, h1, h2, h3, h4, h5, h6, h7, h8, h9⟩ := Cond.laysStatic_spec hl
  exact ⟨c, k, i, f, a, cell, h1, h2, h3, h4, h5, h6, h7, h8, h9, hA a (Array.getElem?_eq_some_iff.mp h5).1⟩
theorem vx_isRef {C n d : String} {v : Value} {A : Nat → Prop} {s : State} {args : Array Value} (h : va_Z C n d v A s s.heap) (hv : v.isRef = true) : (Cond.isRef (.static C n d)).before args s = true := by
  obtain ⟨cf, kf, fi, f, a, cell, h1, h2, h3, h4, h5, h6, h7, -⟩ := h
  have he : (Term.static C n d).eval args s none [] s = some v := by
    simp [Term.eval, State.fieldNamed?, h1, h2, h4, h5, h6, h7]
  simp only [Cond.before, Cond.holds, Cond.value, he]
  cases v <;> simp_all [Value.isRef]
theorem vx_isRefq {C n d : String} {A : Nat → Prop} {s : State} {args : Array Value} (h : va_Zq C n d A s s.heap) : (Cond.isRef (.static C n d)).before args s = true := by
  rcases h with h | ⟨t, h⟩
  · exact vx_isRef h rfl
  · exact vx_isRef h rfl
/-- the same frame, seen from here: as if the method were called anew in this heap -/
theorem vx_rebase {T : State} (X : Stand p l e R s m args below meth c T locs cells slots) {R' : Room} (hf : R'.frames ≤ R.frames) (hl : R'.locals ≤ R.locals) (hc : cells + R'.cells ≤ R.cells) (hs : slots + R'.slots ≤ R.slots) :
    Stand p l e R' ((T.setVm s.vm).setFrames (.invoking m args :: below)) m args below meth c T [] 0 0 := by
  have htop : (T.setVm s.vm).topJava?.isSome := X.here.top
  have hF : ((T.setVm s.vm).setFrames (.invoking m args :: below)).frames = .invoking m args :: below := State.frames_setFrames _ (State.cur_lt_of_top htop)
  obtain ⟨g₀, hg0⟩ := Option.isSome_iff_exists.mp htop
  obtain ⟨r, hr⟩ := State.topJava?_eq_some.mp hg0
  have hl9 : e.platform.stackLimits (T.setVm s.vm).me = e.platform.stackLimits s.me := X.limits
  have hb9 : (T.setVm s.vm).me.stackBytes = s.me.stackBytes := X.bytes
  refine ⟨X.admits, X.cas, X.clock, hF, ?_, X.hears, X.method, X.code, X.here, X.tail, X.warmed, ?_, ?_, ?_⟩
  · have h := X.room
    have hU : ((T.setVm s.vm).setFrames (.invoking m args :: below)).localsInUse = s.localsInUse := by
      rw [State.localsInUse_invoking hF (meth := meth) (c := c) X.method X.code, State.localsInUse_invoking X.frames X.method X.code]
    simp only [State.hasRoom, Bool.and_eq_true, decide_eq_true_eq] at h ⊢
    obtain ⟨⟨⟨⟨h1, h2, h3, h4, h5, h6⟩, h7⟩, h8⟩, h9⟩ := h
    rw [X.frames, List.length_cons] at h2 h3
    have q1 := X.heapSize
    have q2 := X.used
    simp only [hF, hU, List.length_cons, State.stackLimits_setFrames, State.stackBytes_setFrames, hl9, hb9]
    refine ⟨⟨⟨⟨by omega, by omega, by omega, by omega, by omega, h6⟩, ?_⟩, ?_⟩, X.book⟩
    · show T.heap.size + R'.cells ≤ e.platform.maxCells
      omega
    · show T.slotsUsed + R'.slots ≤ e.platform.maxSlots
      omega
  · rw [State.stackLimits_setFrames]; rfl
  · rw [State.stackBytes_setFrames]; rfl
  · refine ⟨?_, Nat.le_refl _, Nat.le_refl _, ?_, ?_, fun a c9 h9 => ⟨c9, h9, rfl, rfl, fun _ _ => rfl⟩⟩
    · obtain ⟨t, ht, -⟩ := State.frames_cons hr
      show T.setVm s.vm = { ((T.setVm s.vm).setFrames (.invoking m args :: below)).setFrames (T.setVm s.vm).frames with heap := T.heap, slotsUsed := T.slotsUsed }
      rw [State.setFrames_setFrames, State.setFrames_self ht]
      rfl
    · show T.slotsUsed = T.slotsUsed + ((T.heap.toList.drop T.heap.size).map (·.slots.size)).sum
      rw [List.drop_eq_nil_of_le (Nat.le_of_eq Array.length_toList)]
      rfl
    · show ((T.heap.toList.drop T.heap.size).map (·.slots.size)).sum ≤ 0
      rw [List.drop_eq_nil_of_le (Nat.le_of_eq Array.length_toList)]
      exact Nat.le_refl _
/-- 'throw new E()': new; dup; invokespecial; athrow -/
theorem vx_throw0 {cc : ByteArray} {pc : Nat} (hexec : p.tables.exec = Jvm.exec) (hb : c.code = cc) (hl : l.stackTraces = false) {own cls : String} {names : List String} {ik ic mc ms : Nat} {A : Nat → Prop}
    (hown : s.vm.findClass own = some m.cls) (hcls : Bundle.fit cls = true) (hnames : ∀ n ∈ names, Bundle.fit n = true)
    (hk : (Cond.classLink own ik cls).before args s = true) (hini : (Cond.initialized cls).before args s = true) (hat : ∀ w ∈ vx_at0 own ic cls names, w.before args s = true)
    (hgood : ∀ w ∈ Cond.classLink own ik cls :: Cond.initialized cls :: vx_at0 own ic cls names, vx_ot w = true)
    (hU : vx_Zq Bundle.tN "UNASSIGNED_STACK" Bundle.steD A s s.heap) (hN : vx_Zq Bundle.tN "SUPPRESSED_SENTINEL" Bundle.listD A s s.heap) (hS : va_S A s.heap H locs) (hsize : ls.size = c.maxLocals)
    (d0 : decode cc pc = .ok (.new ik, 3)) (d3 : decode cc (pc + 3) = .ok (.dup, 1)) (d4 : decode cc (pc + 4) = .ok (.invokespecial ic, 3)) (d7 : decode cc (pc + 7) = .ok (.athrow, 1))
    (hout : ∀ x ∈ c.exceptionTable.toList, covers x (pc + 7) = false)
    (hRframes : names.length + 3 < R.frames) (hRlocals : (rest.map fun v => v.category).sum + (13 * (names.length + 1) + 42) ≤ R.locals) (hRcells : cells + 1 ≤ R.cells) (hRslots : slots + 6 ≤ R.slots) (hlocks : meth.locks = false)
    (hx : ∀ t : State, s.vm.Alike t.vm → H.size ≤ t.heap.size → (∀ q : Nat, q < H.size → t.heap[q]? = H[q]?) → XC cls s t)
    (hf : ∀ z ∈ locs, free z.base) (hc : cells + 1 ≤ mc) (hs : slots + 6 ≤ ms) :
    W p l e R s m args below meth c H locs cells slots (vx_MQ below Qc XC args s mc ms free) (F0 m pc ls rest) := by
  intro T hT X
  have htr : e.platform.stackTraces = false := (show e.platform.stackTraces = l.stackTraces by rw [X.admits.platform]).trans hl
  have Y := vx_rebase X (R' := { frames := R.frames, locals := R.locals, cells := 1, slots := 6 }) (Nat.le_refl _) (Nat.le_refl _) hRcells hRslots
  obtain ⟨s', hA⟩ : ∃ z, z = (T.setVm s.vm).setFrames (.invoking m args :: below) := ⟨_, rfl⟩
  rw [← hA] at Y
  have hvm : s'.vm = s.vm := by rw [hA]; rfl
  have hhp : s'.heap = H := by rw [hA]; exact hT
  have hW0 : s.WarmedH s'.vm := by rw [hvm]; exact State.WarmedH.refl s
  have hat' : ∀ w ∈ vx_at0 own ic cls names, w.before args s' = true := fun w hw => vx_ot_at hW0 hvm.symm (hgood w (List.mem_cons_of_mem _ (List.mem_cons_of_mem _ hw))) (hat w hw)
  have hk' : (Cond.classLink own ik cls).before args s' = true := vx_ot_at hW0 hvm.symm (hgood _ List.mem_cons_self) hk
  have hini' : (Cond.initialized cls).before args s' = true := vx_ot_at hW0 hvm.symm (hgood _ (List.mem_cons_of_mem _ List.mem_cons_self)) hini
  have hU' : vx_Zq Bundle.tN "UNASSIGNED_STACK" Bundle.steD A s' s'.heap := by rw [hhp]; exact vx_Zq.moved hW0.alike (hU.kept hS.2.1)
  have hN' : vx_Zq Bundle.tN "SUPPRESSED_SENTINEL" Bundle.listD A s' s'.heap := by rw [hhp]; exact vx_Zq.moved hW0.alike (hN.kept hS.2.1)
  have h : ∀ w ∈ Bundle.ownAtoms0 own ic cls names, w.before args s' = true := vx_own hat' (vx_isRefq hU'.1) (vx_isRefq hN'.1) hU'.2.word hN'.2.word
  have hown' : s'.vm.findClass own = some m.cls := by rw [hvm]; exact hown
  have hins : (Cond.instantiable cls 6).before args s' = true := h _ (by simp [Bundle.ownAtoms0])
  obtain ⟨vm₁, cX, kX, hfX, hkX, -, -, X₁, st1⟩ := Y.newCold hexec (own := own) (C := cls) (index := ik) (n := 6) hown' hk' hins hini'
    (g := F0 m pc ls rest) rfl (by rw [hb]; exact d0) (Nat.le_refl _) (Nat.le_refl _)
  generalize hT1 : (T.setVm vm₁).pushCell { cls := cX, slots := kX.instanceTypes.map defaultValue, vm := .none } = T1 at X₁ st1
  have hcat : (Value.ref T.heap.size).category = 1 := rfl
  have hcellA : T1.heap[T.heap.size]? = some (freshCell cX kX) := by rw [← hT1]; exact State.heap_pushCell_size _ _
  have d3' : decode c.code (pc + 3) = .ok (.dup, 1) := by rw [hb]; exact d3
  obtain ⟨U, hsteps, hrun, hend, hW, hsame, ce, hce, hO⟩ := X₁.ctorThrow0 hexec htr (own := own) (cls := cls) (names := names) (ic := ic) hown' hcls hnames h (fun x hx => nomatch hx) hfX hkX hcellA (by rw [hhp, hT]; exact Nat.le_refl _)
    (g := { method := m, pc := pc + 4, locals := ls, stack := .ref T.heap.size :: .ref T.heap.size :: rest, locked := none }) rfl hsize rfl rfl (rest := rest) rfl
    (by rw [hb]; exact d4) (by rw [hb]; exact d7) hout hRframes (by simp only [List.map_cons, List.sum_cons, hcat]; omega) hlocks
  obtain ⟨f1, f2⟩ := vx_frame hsame
  rw [hhp] at f1 f2
  have hWs : s.WarmedH U.vm := State.WarmedH.trans hW0 hW
  have hcl : s.vm.findClass cls = some ce.cls := by
    have h9 := hO.cls
    rw [hvm] at h9
    exact h9
  have hall : s.sameButNew ({ U with vm := s.vm } : State) locs mc ms := by
    subst hA
    obtain ⟨e1, e2⟩ := hsame
    rw [State.setFrames_setFrames] at e1
    have h2 : (T.setVm s.vm).sameButNew ({ U with vm := s.vm } : State) [] (0 + 1) (0 + 6) := ⟨e1, e2⟩
    have h3 := X.same.trans h2
    rw [List.append_nil] at h3
    exact h3.mono hc hs
  refine ⟨U, ?_, .threw T.heap.size, hrun, hend, Or.inr ⟨T.heap.size, rfl, cls, ce, locs, hx U hWs.alike f1 (fun q hq => f2 q hq (fun z hz => nomatch hz)), hce, hO.vm, hcl, hWs, hall, hf⟩⟩
  refine st1 _ ?_
  show Steps p.tables e below (T1.setTop { method := m, pc := pc + 3, locals := ls, stack := .ref T.heap.size :: rest, locked := none }) _
  jvm_step X₁.here [X₁.here.top, hexec, d3', Value.category]
  exact hsteps
/-- 'throw new E("text")': new; dup; ldc; invokespecial; athrow -/
theorem vx_throwS {cc : ByteArray} {pc : Nat} (hexec : p.tables.exec = Jvm.exec) (hb : c.code = cc) (hl : l.stackTraces = false) {own cls text : String} {names : List String} {ik is ic mc ms sa : Nat} {A : Nat → Prop}
    (hown : s.vm.findClass own = some m.cls) (hcls : Bundle.fit cls = true) (hnames : ∀ n ∈ names, Bundle.fit n = true)
    (hk : (Cond.classLink own ik cls).before args s = true) (hini : (Cond.initialized cls).before args s = true) (hstr : vk_R own is text sa s) (hat : ∀ w ∈ vx_atS own ic cls names, w.before args s = true)
    (hgood : ∀ w ∈ Cond.classLink own ik cls :: Cond.initialized cls :: vx_atS own ic cls names, vx_ot w = true)
    (hU : vx_Zq Bundle.tN "UNASSIGNED_STACK" Bundle.steD A s s.heap) (hN : vx_Zq Bundle.tN "SUPPRESSED_SENTINEL" Bundle.listD A s s.heap) (hS : va_S A s.heap H locs) (hsize : ls.size = c.maxLocals)
    (d0 : decode cc pc = .ok (.new ik, 3)) (d3 : decode cc (pc + 3) = .ok (.dup, 1)) (d4 : decode cc (pc + 4) = .ok (.ldc is, 2)) (d6 : decode cc (pc + 6) = .ok (.invokespecial ic, 3)) (d9 : decode cc (pc + 9) = .ok (.athrow, 1))
    (hout : ∀ x ∈ c.exceptionTable.toList, covers x (pc + 9) = false)
    (hRframes : names.length + 3 < R.frames) (hRlocals : (rest.map fun v => v.category).sum + (13 * (names.length + 1) + 43) ≤ R.locals) (hRcells : cells + 1 ≤ R.cells) (hRslots : slots + 6 ≤ R.slots) (hlocks : meth.locks = false)
    (hx : ∀ t : State, s.vm.Alike t.vm → H.size ≤ t.heap.size → (∀ q : Nat, q < H.size → t.heap[q]? = H[q]?) → XC cls s t)
    (hf : ∀ z ∈ locs, free z.base) (hc : cells + 1 ≤ mc) (hs : slots + 6 ≤ ms) :
    W p l e R s m args below meth c H locs cells slots (vx_MQ below Qc XC args s mc ms free) (F0 m pc ls rest) := by
  intro T hT X
  have htr : e.platform.stackTraces = false := (show e.platform.stackTraces = l.stackTraces by rw [X.admits.platform]).trans hl
  have Y := vx_rebase X (R' := { frames := R.frames, locals := R.locals, cells := 1, slots := 6 }) (Nat.le_refl _) (Nat.le_refl _) hRcells hRslots
  obtain ⟨s', hA⟩ : ∃ z, z = (T.setVm s.vm).setFrames (.invoking m args :: below) := ⟨_, rfl⟩
  rw [← hA] at Y
  have hvm : s'.vm = s.vm := by rw [hA]; rfl
  have hhp : s'.heap = H := by rw [hA]; exact hT
  have hW0 : s.WarmedH s'.vm := by rw [hvm]; exact State.WarmedH.refl s
  have hat' : ∀ w ∈ vx_atS own ic cls names, w.before args s' = true := fun w hw => vx_ot_at hW0 hvm.symm (hgood w (List.mem_cons_of_mem _ (List.mem_cons_of_mem _ hw))) (hat w hw)
  have hk' : (Cond.classLink own ik cls).before args s' = true := vx_ot_at hW0 hvm.symm (hgood _ List.mem_cons_self) hk
  have hini' : (Cond.initialized cls).before args s' = true := vx_ot_at hW0 hvm.symm (hgood _ (List.mem_cons_of_mem _ List.mem_cons_self)) hini
  have hU' : vx_Zq Bundle.tN "UNASSIGNED_STACK" Bundle.steD A s' s'.heap := by rw [hhp]; exact vx_Zq.moved hW0.alike (hU.kept hS.2.1)
  have hN' : vx_Zq Bundle.tN "SUPPRESSED_SENTINEL" Bundle.listD A s' s'.heap := by rw [hhp]; exact vx_Zq.moved hW0.alike (hN.kept hS.2.1)
  have h : ∀ w ∈ Bundle.ownAtoms own ic cls names, w.before args s' = true := vx_own hat' (vx_isRefq hU'.1) (vx_isRefq hN'.1) hU'.2.word hN'.2.word
  have hown' : s'.vm.findClass own = some m.cls := by rw [hvm]; exact hown
  have hins : (Cond.instantiable cls 6).before args s' = true := h _ (by simp [Bundle.ownAtoms])
  obtain ⟨vm₁, cX, kX, hfX, hkX, -, -, X₁, st1⟩ := Y.newCold hexec (own := own) (C := cls) (index := ik) (n := 6) hown' hk' hins hini'
    (g := F0 m pc ls rest) rfl (by rw [hb]; exact d0) (Nat.le_refl _) (Nat.le_refl _)
  generalize hT1 : (T.setVm vm₁).pushCell { cls := cX, slots := kX.instanceTypes.map defaultValue, vm := .none } = T1 at X₁ st1
  have hcat : (Value.ref T.heap.size).category = 1 := rfl
  have hcellA : T1.heap[T.heap.size]? = some (freshCell cX kX) := by rw [← hT1]; exact State.heap_pushCell_size _ _
  have d3' : decode c.code (pc + 3) = .ok (.dup, 1) := by rw [hb]; exact d3
  have d4' : decode c.code (pc + 4) = .ok (.ldc is, 2) := by rw [hb]; exact d4
  have hstr' : vk_R own is text sa s' := vk_R.warm hW0 hstr
  obtain ⟨U, hsteps, hrun, hend, hW, hsame, ce, hce, hO⟩ := X₁.ctorThrowS hexec htr (own := own) (cls := cls) (names := names) (ic := ic) hown' hcls hnames h (fun x hx => nomatch hx) hfX hkX hcellA (by rw [hhp, hT]; exact Nat.le_refl _) (msg := .ref sa) rfl
    (g := { method := m, pc := pc + 6, locals := ls, stack := .ref sa :: .ref T.heap.size :: .ref T.heap.size :: rest, locked := none }) rfl hsize rfl rfl (rest := rest) rfl
    (by rw [hb]; exact d6) (by rw [hb]; exact d9) hout hRframes (by simp only [List.map_cons, List.sum_cons, hcat]; omega) hlocks
  obtain ⟨f1, f2⟩ := vx_frame hsame
  rw [hhp] at f1 f2
  have hWs : s.WarmedH U.vm := State.WarmedH.trans hW0 hW
  have hcl : s.vm.findClass cls = some ce.cls := by
    have h9 := hO.cls
    rw [hvm] at h9
    exact h9
  have hall : s.sameButNew ({ U with vm := s.vm } : State) locs mc ms := by
    subst hA
    obtain ⟨e1, e2⟩ := hsame
    rw [State.setFrames_setFrames] at e1
    have h2 : (T.setVm s.vm).sameButNew ({ U with vm := s.vm } : State) [] (0 + 1) (0 + 6) := ⟨e1, e2⟩
    have h3 := X.same.trans h2
    rw [List.append_nil] at h3
    exact h3.mono hc hs
  refine ⟨U, ?_, .threw T.heap.size, hrun, hend, Or.inr ⟨T.heap.size, rfl, cls, ce, locs, hx U hWs.alike f1 (fun q hq => f2 q hq (fun z hz => nomatch hz)), hce, hO.vm, hcl, hWs, hall, hf⟩⟩
  refine st1 _ ?_
  show Steps p.tables e below (T1.setTop { method := m, pc := pc + 3, locals := ls, stack := .ref T.heap.size :: rest, locked := none }) _
  jvm_step X₁.here [X₁.here.top, hexec, d3', Value.category]
  exact X₁.ldcString hexec (own := own) (text := text) (index := is) (a := sa) hown' hstr'.1 hstr'.2
    (g := { method := m, pc := pc + 4, locals := ls, stack := .ref T.heap.size :: .ref T.heap.size :: rest, locked := none }) rfl d4' _ hsteps
/-- 'throw new E("text")', the text by a wide index -/
theorem vx_throwSW {cc : ByteArray} {pc : Nat} (hexec : p.tables.exec = Jvm.exec) (hb : c.code = cc) (hl : l.stackTraces = false) {own cls text : String} {names : List String} {ik is ic mc ms sa : Nat} {A : Nat → Prop}
    (hown : s.vm.findClass own = some m.cls) (hcls : Bundle.fit cls = true) (hnames : ∀ n ∈ names, Bundle.fit n = true)
    (hk : (Cond.classLink own ik cls).before args s = true) (hini : (Cond.initialized cls).before args s = true) (hstr : vk_R own is text sa s) (hat : ∀ w ∈ vx_atS own ic cls names, w.before args s = true)
    (hgood : ∀ w ∈ Cond.classLink own ik cls :: Cond.initialized cls :: vx_atS own ic cls names, vx_ot w = true)
    (hU : vx_Zq Bundle.tN "UNASSIGNED_STACK" Bundle.steD A s s.heap) (hN : vx_Zq Bundle.tN "SUPPRESSED_SENTINEL" Bundle.listD A s s.heap) (hS : va_S A s.heap H locs) (hsize : ls.size = c.maxLocals)
    (d0 : decode cc pc = .ok (.new ik, 3)) (d3 : decode cc (pc + 3) = .ok (.dup, 1)) (d4 : decode cc (pc + 4) = .ok (.ldc_w is, 3)) (d7 : decode cc (pc + 7) = .ok (.invokespecial ic, 3)) (d10 : decode cc (pc + 10) = .ok (.athrow, 1))
    (hout : ∀ x ∈ c.exceptionTable.toList, covers x (pc + 10) = false)
    (hRframes : names.length + 3 < R.frames) (hRlocals : (rest.map fun v => v.category).sum + (13 * (names.length + 1) + 43) ≤ R.locals) (hRcells : cells + 1 ≤ R.cells) (hRslots : slots + 6 ≤ R.slots) (hlocks : meth.locks = false)
    (hx : ∀ t : State, s.vm.Alike t.vm → H.size ≤ t.heap.size → (∀ q : Nat, q < H.size → t.heap[q]? = H[q]?) → XC cls s t)
    (hf : ∀ z ∈ locs, free z.base) (hc : cells + 1 ≤ mc) (hs : slots + 6 ≤ ms) :
    W p l e R s m args below meth c H locs cells slots (vx_MQ below Qc XC args s mc ms free) (F0 m pc ls rest) := by
  intro T hT X
  have htr : e.platform.stackTraces = false := (show e.platform.stackTraces = l.stackTraces by rw [X.admits.platform]).trans hl
  have Y := vx_rebase X (R' := { frames := R.frames, locals := R.locals, cells := 1, slots := 6 }) (Nat.le_refl _) (Nat.le_refl _) hRcells hRslots
  obtain ⟨s', hA⟩ : ∃ z, z = (T.setVm s.vm).setFrames (.invoking m args :: below) := ⟨_, rfl⟩
  rw [← hA] at Y
  have hvm : s'.vm = s.vm := by rw [hA]; rfl
  have hhp : s'.heap = H := by rw [hA]; exact hT
  have hW0 : s.WarmedH s'.vm := by rw [hvm]; exact State.WarmedH.refl s
  have hat' : ∀ w ∈ vx_atS own ic cls names, w.before args s' = true := fun w hw => vx_ot_at hW0 hvm.symm (hgood w (List.mem_cons_of_mem _ (List.mem_cons_of_mem _ hw))) (hat w hw)
  have hk' : (Cond.classLink own ik cls).before args s' = true := vx_ot_at hW0 hvm.symm (hgood _ List.mem_cons_self) hk
  have hini' : (Cond.initialized cls).before args s' = true := vx_ot_at hW0 hvm.symm (hgood _ (List.mem_cons_of_mem _ List.mem_cons_self)) hini
  have hU' : vx_Zq Bundle.tN "UNASSIGNED_STACK" Bundle.steD A s' s'.heap := by rw [hhp]; exact vx_Zq.moved hW0.alike (hU.kept hS.2.1)
  have hN' : vx_Zq Bundle.tN "SUPPRESSED_SENTINEL" Bundle.listD A s' s'.heap := by rw [hhp]; exact vx_Zq.moved hW0.alike (hN.kept hS.2.1)
  have h : ∀ w ∈ Bundle.ownAtoms own ic cls names, w.before args s' = true := vx_own hat' (vx_isRefq hU'.1) (vx_isRefq hN'.1) hU'.2.word hN'.2.word
  have hown' : s'.vm.findClass own = some m.cls := by rw [hvm]; exact hown
  have hins : (Cond.instantiable cls 6).before args s' = true := h _ (by simp [Bundle.ownAtoms])
  obtain ⟨vm₁, cX, kX, hfX, hkX, -, -, X₁, st1⟩ := Y.newCold hexec (own := own) (C := cls) (index := ik) (n := 6) hown' hk' hins hini'
    (g := F0 m pc ls rest) rfl (by rw [hb]; exact d0) (Nat.le_refl _) (Nat.le_refl _)
  generalize hT1 : (T.setVm vm₁).pushCell { cls := cX, slots := kX.instanceTypes.map defaultValue, vm := .none } = T1 at X₁ st1
  have hcat : (Value.ref T.heap.size).category = 1 := rfl
  have hcellA : T1.heap[T.heap.size]? = some (freshCell cX kX) := by rw [← hT1]; exact State.heap_pushCell_size _ _
  have d3' : decode c.code (pc + 3) = .ok (.dup, 1) := by rw [hb]; exact d3
  have d4' : decode c.code (pc + 4) = .ok (.ldc_w is, 3) := by rw [hb]; exact d4
  have hstr' : vk_R own is text sa s' := vk_R.warm hW0 hstr
  obtain ⟨U, hsteps, hrun, hend, hW, hsame, ce, hce, hO⟩ := X₁.ctorThrowS hexec htr (own := own) (cls := cls) (names := names) (ic := ic) hown' hcls hnames h (fun x hx => nomatch hx) hfX hkX hcellA (by rw [hhp, hT]; exact Nat.le_refl _) (msg := .ref sa) rfl
    (g := { method := m, pc := pc + 7, locals := ls, stack := .ref sa :: .ref T.heap.size :: .ref T.heap.size :: rest, locked := none }) rfl hsize rfl rfl (rest := rest) rfl
    (by rw [hb]; exact d7) (by rw [hb]; exact d10) hout hRframes (by simp only [List.map_cons, List.sum_cons, hcat]; omega) hlocks
  obtain ⟨f1, f2⟩ := vx_frame hsame
  rw [hhp] at f1 f2
  have hWs : s.WarmedH U.vm := State.WarmedH.trans hW0 hW
  have hcl : s.vm.findClass cls = some ce.cls := by
    have h9 := hO.cls
    rw [hvm] at h9
    exact h9
  have hall : s.sameButNew ({ U with vm := s.vm } : State) locs mc ms := by
    subst hA
    obtain ⟨e1, e2⟩ := hsame
    rw [State.setFrames_setFrames] at e1
    have h2 : (T.setVm s.vm).sameButNew ({ U with vm := s.vm } : State) [] (0 + 1) (0 + 6) := ⟨e1, e2⟩
    have h3 := X.same.trans h2
    rw [List.append_nil] at h3
    exact h3.mono hc hs
  refine ⟨U, ?_, .threw T.heap.size, hrun, hend, Or.inr ⟨T.heap.size, rfl, cls, ce, locs, hx U hWs.alike f1 (fun q hq => f2 q hq (fun z hz => nomatch hz)), hce, hO.vm, hcl, hWs, hall, hf⟩⟩
  refine st1 _ ?_
  show Steps p.tables e below (T1.setTop { method := m, pc := pc + 3, locals := ls, stack := .ref T.heap.size :: rest, locked := none }) _
  jvm_step X₁.here [X₁.here.top, hexec, d3', Value.category]
  exact X₁.ldcStringW hexec (own := own) (text := text) (index := is) (a := sa) hown' hstr'.1 hstr'.2
    (g := { method := m, pc := pc + 4, locals := ls, stack := .ref T.heap.size :: .ref T.heap.size :: rest, locked := none }) rfl d4' _ hsteps
end Ends
section Bodies
variable {l : Launch}
theorem vx_ofW {y : MethodName} {ws ws' : List Cond} {rm : Room} {Pc : Array Value → State → Prop} {Qc : Array Value → State → Outcome → State → Prop} {XC : String → State → State → Prop} {mc ms : Nat} {free : Addr → Prop} {cc : ByteArray} {maxL : Nat} {ret : Option FieldType}
    (hy : plainName y.cls = true) (hw : ws = Cond.code y cc maxL ret :: ws')
    (body : ∀ p e s m args below meth c s₁, BodyLoose p l y (headSpec ws rm) cc maxL ret e s m args below meth c s₁ → c.maxLocals = maxL → (∀ x ∈ c.exceptionTable.toList, False) → Pc args s →
      W p l e (headSpec ws rm).room s m args below meth c s.heap [] 0 0 (vx_MQ below Qc XC args s mc ms free) (entryFrame m args maxL)) : vx_Met l y ws rm Pc Qc XC mc ms free := by
  refine MetFree.of_bodyS (code := cc) (maxLocals := maxL) (ret := ret) hy ?_ ?_
  · intro args s m h hn
    obtain ⟨meth, c, h1, h2, h3, h4, h5, h6, -, -⟩ := Cond.code_spec hn (atoms_spec (ws := ws) h _ (by rw [hw]; exact List.mem_cons_self))
    exact ⟨meth, c, h1, h2, h3, h4, h5, h6⟩
  · intro p e s m args below meth c s₁ B hml hP _
    have hh0 : s₁.heap = s.heap := by rw [B.state]; rfl
    have ht : ∀ x ∈ c.exceptionTable.toList, False := by
      obtain ⟨meth9, c9, h1, h2, -, -, -, -, h7, -⟩ := Cond.code_spec B.named (atoms_spec (ws := ws) B.pre _ (by rw [hw]; exact List.mem_cons_self))
      cases Option.some.inj (h1.symm.trans B.method)
      cases Option.some.inj (h2.symm.trans (Stand.of_body B).code)
      intro x hx
      rw [Array.isEmpty_iff.mp h7] at hx
      cases hx
    obtain ⟨t, a1, o, b1, b2, b3⟩ := body p e s m args below meth c s₁ B hml ht hP s₁ hh0 (Stand.of_body B)
    exact ⟨t, o, a1, b1, b2, b3⟩
/-- the table of a body with handlers -/
theorem vx_table {p : Program} {x y : MethodName} {S : Spec} {cc bytes : ByteArray} {maxL maxL' : Nat} {ret ret' : Option FieldType} {e : Env} {s s₁ : State} {m : MethodId} {args : Array Value} {below : List Frame} {meth : Method} {c : Code} {hh : List (Nat × Nat × Nat × Nat)}
    (B : BodyLoose p l y S cc maxL ret e s m args below meth c s₁) (h : (Cond.codeWith y bytes maxL' ret' hh).before args s = true) : c.exceptionTable.toList = tableOf hh := by
  obtain ⟨m9, meth9, c9, hn9, h1, h2, -, -, h6, -⟩ := Cond.codeWith_spec h
  cases Option.some.inj (hn9.symm.trans B.named)
  cases Option.some.inj (h1.symm.trans B.method)
  cases Option.some.inj (h2.symm.trans (Stand.of_body B).code)
  rw [← h6, table_eq]
end Bodies
end VXA
/-! ===== END ===== -/
/-! ===== BEGIN a static call of a method with an exception table ===== -/
section VXS
variable {p : Program} {l : Launch} {e : Env} {R : Room} {s : State} {m : MethodId} {args : Array Value} {below : List Frame} {meth : Method} {c : Code} {T : State} {H : Heap} {locs : List Loc} {cells slots : Nat}
abbrev vx_CSW (R : Room) (s : State) (args : Array Value) (own : String) (index : Nat) (y : MethodName) (bytes : ByteArray) (maxL : Nat) (ret : Option FieldType) (hh : List (Nat × Nat × Nat × Nat)) (ws : List Cond) (rm : Room) (mc ms n : Nat) : Prop :=
  (rm.cells = mc ∧ rm.slots = ms ∧ rm.frames + 1 ≤ R.frames ∧ 8 + (maxL + 11) + rm.locals ≤ R.locals ∧ (∀ w ∈ ws, ∀ (a' : Array Value) (U : State), s.WarmedH U.vm → w.before a' U = true) ∧ Cond.codeWith y bytes maxL ret hh ∈ ws) ∧
  (Cond.codeWith y bytes maxL ret hh).before args s = true ∧ (Cond.initialized y.cls).before args s = true ∧ (y.cls ≠ "java/lang/invoke/MethodHandle" ∧ y.cls ≠ "java/lang/invoke/VarHandle") ∧
  (∀ sig, parseMethodDescriptor y.desc = some sig → n = sig.parameters.length) ∧ (Cond.methodLink own index y).before args s = true ∧ (Cond.static y).before args s = true
theorem vx_cwSW {own : String} {index maxL mc ms : Nat} {y : MethodName} {bytes : ByteArray} {ret : Option FieldType} {hh : List (Nat × Nat × Nat × Nat)} {Ts ws ws' : List Cond} {rm : Room} (n : Nat) (ht : ∀ w ∈ Ts, w.before args s = true) (hT : GoodIn Ts (va_wsS own index y ws)) (hw : ws = Cond.codeWith y bytes maxL ret hh :: ws') (hrc : rm.cells = mc) (hrs : rm.slots = ms)
    (hd : y.cls ≠ "java/lang/invoke/MethodHandle" ∧ y.cls ≠ "java/lang/invoke/VarHandle" ∧ (parseMethodDescriptor y.desc).map (fun d => d.parameters.length) = some n) (hR : rm.frames + 1 ≤ R.frames ∧ 8 + (maxL + 11) + rm.locals ≤ R.locals) :
    vx_CSW R s args own index y bytes maxL ret hh ws rm mc ms n := by
  have ok : ∀ w ∈ va_wsS own index y ws, w.before args s = true := fun w h => ht w (hT w h).1
  have hG : GoodIn Ts ws := fun w h => hT w (by unfold va_wsS; exact List.mem_append_right _ h)
  have hc : Cond.codeWith y bytes maxL ret hh ∈ ws := by rw [hw]; exact List.mem_cons_self
  refine ⟨⟨hrc, hrs, hR.1, hR.2, pay_in ht hG, hc⟩, ht _ (hG _ hc).1, ok _ (by simp [va_wsS]), ⟨hd.1, hd.2.1⟩, fun sig h => ?_, ok _ (by simp [va_wsS]), ok _ (by simp [va_wsS])⟩
  have h2 := hd.2.2
  rw [h] at h2
  exact (Option.some.inj h2).symm
theorem vx_callSW (X : Stand p l e R s m args below meth c T locs cells slots) (hexec : p.tables.exec = Jvm.exec) {own : String} {index : Nat} {y : MethodName} {bytes : ByteArray} {maxL : Nat} {ret : Option FieldType} {hh : List (Nat × Nat × Nat × Nat)}
    (hown : s.vm.findClass own = some m.cls) (hlink : (Cond.methodLink own index y).before args s = true) (hstat : (Cond.static y).before args s = true) (hinit : (Cond.initialized y.cls).before args s = true)
    (hcode : (Cond.codeWith y bytes maxL ret hh).before args s = true) (hy : y.cls ≠ "java/lang/invoke/MethodHandle" ∧ y.cls ≠ "java/lang/invoke/VarHandle")
    {W9 : Nat} {Pre : Pt → Array Value → Prop} {Post : Pt → Array Value → Option Value → Pt → Prop} (hK : Back l R p e below s args y 3 W9 Pre Post)
    {g : JFrame} (hg : g.method = m) (hsize : g.locals.size = c.maxLocals) {argsL rest : List Value} (hlen : ∀ sig, parseMethodDescriptor y.desc = some sig → argsL.length = sig.parameters.length)
    (hstack : g.stack = argsL.reverse ++ rest) (hW : 2 * g.monitorRoom + (rest.map fun v => v.category).sum ≤ W9) (hdg : decode c.code g.pc = .ok (.invokestatic index, 3))
    (hpre : ∀ vm₁, s.WarmedH vm₁ → Pre ⟨T.setVm vm₁, locs, cells, slots⟩ argsL.toArray) :
    ∃ (v : Option Value) (vm₁ : Vm) (B : Pt), s.WarmedH vm₁ ∧ Stand p l e R s m args below meth c B.U B.locs B.cells B.slots ∧ Post ⟨T.setVm vm₁, locs, cells, slots⟩ argsL.toArray v B ∧
      ∀ target, Steps p.tables e below (B.U.setTop { g with pc := g.pc + 3, stack := v.toList ++ rest }) target → Steps p.tables e below (T.setTop g) target := by
  obtain ⟨mk, methM, cM, hnamed, hmethM, -, -, -, -, -, -, hsigM⟩ := Cond.codeWith_spec hcode
  have hstatic : methM.isStatic = true := Cond.static_spec hnamed hmethM hstat
  obtain ⟨kP, hkP, -⟩ := className_of_methodNamed hnamed
  have hinitP : kP.init = .initialized := Cond.initialized_spec (findClass_of_methodNamed hnamed) hkP hinit
  obtain ⟨vm₁, X₁, hstep₁⟩ := X.invokestatic hexec hown hlink hnamed hmethM hstatic hkP hinitP hy (g := g) hg (argsL := argsL) (rest := rest) (hlen _ hsigM) hstack hdg
  obtain ⟨v, B, X', hpost, hsteps⟩ := hK m meth c ⟨T.setVm vm₁, locs, cells, slots⟩ { g with stack := rest } (.invokestatic index) mk argsL.toArray X₁ hg hsize hdg hW (X₁.named hnamed) (hpre vm₁ X₁.warmed)
  exact ⟨v, vm₁, B, X₁.warmed, X', hpost, fun target h => hstep₁ _ fun acts => by rw [doInvoke_state]; exact hsteps.trans h⟩
theorem vx_runSW {y : MethodName} {bytes cc : ByteArray} {maxL nL mc ms n index : Nat} {ret : Option FieldType} {hh : List (Nat × Nat × Nat × Nat)} {ws : List Cond} {rm : Room} {Pc : Array Value → State → Prop} {Qc : Array Value → State → Outcome → State → Prop} {free : Addr → Prop} {Ts : List Cond} {own : String} {As rest : List Value} {g : JFrame}
    (S : CallFix p m c cc nL s args Ts own) (hM : Met l y ws rm Pc Qc mc ms free) (cw : vx_CSW R s args own index y bytes maxL ret hh ws rm mc ms n) (hp : PreS s H Pc As)
    (hg : g.method = m) (hn : As.length = n) (hsize : g.locals.size = nL) (hstack : g.stack = As.reverse ++ rest) (hW : 2 * g.monitorRoom + (rest.map fun v => v.category).sum ≤ 8) (hdg : decode cc g.pc = .ok (.invokestatic index, 3)) (hf : cells + mc ≤ R.cells ∧ slots + ms ≤ R.slots) :
    va_Run p l e R s m args below meth c H locs cells slots mc ms g rest (Qc As.toArray) (free) := by
  obtain ⟨⟨hrc, hrs, hfr, hlo, hws, hcw⟩, hcode, hini, hy, hlen, hl, hstt⟩ := cw
  have hK : Back l R p e below s args y 3 8 (PreOf R mc ms Pc) (PostOf Qc mc ms free) := va_backW (hh := hh) (bytes := bytes) (maxL := maxL) (ret := ret) hM hp.1 hrc hrs hfr hlo hws hcw (fun a' U hW => word_at hW (Or.inl (by first | rfl | simp [Cond.onTables, Cond.keeps, Cond.steady])) hini)
  obtain ⟨hx, hb, hml, ho, -⟩ := S
  intro T hT X
  obtain ⟨v, vm₁, ⟨U', l2, c2, s2⟩, hW₁, X', ⟨g', mk, t, L, e1, e2, hq, h1, hL, h2, h3⟩, st⟩ := vx_callSW X hx (hh := hh) (bytes := bytes) (maxL := maxL) (ret := ret) ho hl hstt hini hcode hy hK hg (hsize.trans hml.symm) (argsL := As) (rest := rest) (fun sig h => hn.trans (hlen sig h)) hstack hW (by rw [hb]; exact hdg)
    (fun vm₁ hW₁ => ⟨hf.1, hf.2, hp.2 (T.setVm vm₁) hT hW₁⟩)
  dsimp only [Pt.U, Pt.locs, Pt.cells, Pt.slots] at X' e1 e2 h1 h2 h3 st
  subst h1; subst h2; subst h3
  exact ⟨v, (T.setVm vm₁).calling g' mk As.toArray, t, U', L, hT, X', hL, e1, e2, hq, st⟩
/-- not caught here, past rows that name other classes: it goes on to the caller -/
theorem vx_outP {p : Program} {l : Launch} {e : Env} {R : Room} {s : State} {m : MethodId} {args : Array Value} {below : List Frame} {meth : Method} {c : Code} {H : Heap} {locs : List Loc} {cells slots : Nat} {free : Addr → Prop} {ls : Array Slot} {rest : List Value} {Qc : Array Value → State → Outcome → State → Prop} {XC : String → State → State → Prop}
    {pc : Nat} {own E : String} {ce : Cell} {q : Addr} {mc ms : Nat} (hown : s.vm.findClass own = some m.cls) (hlocks : meth.locks = false)
    (hpass : ∀ z ∈ c.exceptionTable.toList, covers z pc = false ∨ (z.catchType ≠ 0 ∧ ∃ nm : String, (Cond.classLink own z.catchType nm).before args s = true ∧ va_Nc E nm s)) (hcell : H[q]? = some ce) (hv : ce.vm = .none) (hcl : s.vm.findClass E = some ce.cls)
    (hx : ∀ t : State, t.heap = H → s.vm.Alike t.vm → XC E s t) (hf : ∀ z ∈ locs, free z.base) (hc : cells ≤ mc) (hs : slots ≤ ms) :
    vx_W p l e R s m args below meth c H locs cells slots (vx_MQ below Qc XC args s mc ms free) (F0 m pc ls rest) q := by
  intro T hT X
  have hpl : e.platform.magicAccessors = ({} : Platform).magicAccessors := by rw [X.admits.platform]
  obtain ⟨vm', hW', X', st⟩ := X.outThrough hlocks q (g := F0 m pc ls rest) rfl rfl rfl (cell := ce) (by rw [hT]; exact hcell) (by rw [hv]; rfl)
    (by obtain ⟨k9, h9, -⟩ := Vm.findClass_spec hcl; exact ⟨k9, h9⟩) (fun z hz => by
      rcases hpass z hz with h | ⟨hz0, nm, hl1, hn1⟩
      · exact Or.inl h
      · obtain ⟨c6, hc6, hcl6⟩ := Cond.classLink_spec hown hl1 e.platform hpl
        obtain ⟨a8, b8, h1, h2, h3⟩ := hn1
        cases Option.some.inj (h1.symm.trans hcl)
        cases Option.some.inj (h2.symm.trans hc6)
        exact Or.inr ⟨hz0, _, hcl6, h3⟩)
  obtain ⟨g₀, hfr⟩ := X'.frames_eq
  have hcell9 : ((T.setVm vm').setFrames (.throwing q :: below)).heap[q]? = some ce := by
    show T.heap[q]? = some ce
    rw [hT]; exact hcell
  have hend : Ended ((T.setVm vm').setFrames (.throwing q :: below)) below (.threw q) := State.frames_setFrames _ (State.cur_lt_of_frames hfr)
  refine ⟨(T.setVm vm').setFrames (.throwing q :: below), ?_, .threw q, X'.here.running, hend, Or.inr ⟨q, rfl, E, ce, locs, hx _ hT (X'.ends _).1.alike, hcell9, hv, hcl, (X'.ends _).1, (X'.ends _).2.mono hc hs, hf⟩⟩
  rw [X.pushThrowing_eq]
  exact st
/-- a thing of a world lies in the heap -/
theorem vx_lt {D : va_G} {cl : List vw_C} {ws : va_W} {H1 : Heap} (h : va_P D cl ws H1) {k : Nat} {q : Nat × va_E} (hk : ws[k]? = some q) : q.1 < H1.size := (h k q hk).lt
end VXS
/-! ===== END ===== -/
/-! ===== BEGIN methods with a table of their own: called by a name, returning or throwing ===== -/
section VXH
/-! vx_backW, vx_callVX, vx_callSX, vx_callVW, vx_runVW, vx_runVX, vx_runSX, vx_ofWH follow the same proofs as their sisters above (Free/Laws.lean, Shelf42/LK1.lean); vx_outP calls Shelf42/NT130.lean (outThrough). -/
section
variable {l : Launch} {R : Room} {p : Program} {e : Env} {below : List Frame} {s : State} {sargs : Array Value} {y : MethodName} {len W9 : Nat}
theorem vx_backW {ws : List Cond} {rm : Room} {Pc : Array Value → State → Prop} {Qc : Array Value → State → Outcome → State → Prop} {XC : String → State → State → Prop} {mc ms : Nat} {free : Addr → Prop} {bytes : ByteArray} {maxL : Nat} {ret : Option FieldType} {hh : List (Nat × Nat × Nat × Nat)}
    (hM : vx_Met l y ws rm Pc Qc XC mc ms free) (hblind : FrameBlind Pc) (hrc : rm.cells = mc) (hrs : rm.slots = ms)
    (hframes : rm.frames + 1 ≤ R.frames) (hlocals : W9 + (maxL + 11) + rm.locals ≤ R.locals)
    (hws : ∀ w ∈ ws, ∀ a' U, s.WarmedH U.vm → w.before a' U = true) (hcode : Cond.codeWith y bytes maxL ret hh ∈ ws) (hinit : ∀ a' U, s.WarmedH U.vm → (Cond.initialized y.cls).before a' U = true) :
    vx_Back l R p e below s sargs y len W9 (PreOf R mc ms Pc) (PostOf Qc mc ms free) (vx_Post XC mc ms free) := by
  intro m meth c A g ig mk a X hg hsize hdg hW hn hp
  have h1 : (headSpec ws rm).pre.before a A.U = true := atoms_intro fun w hw => hws w hw _ _ X.warmed
  have h2 : (Cond.codeWith y bytes maxL ret hh).before a A.U = true := hws _ hcode _ _ X.warmed
  have h3 : (Cond.initialized y.cls).before a A.U = true := hinit _ _ X.warmed
  have h4 : A.cells + (headSpec ws rm).room.cells ≤ R.cells := by rw [show (headSpec ws rm).room.cells = mc from hrc]; exact hp.1
  have h5 : A.slots + (headSpec ws rm).room.slots ≤ R.slots := by rw [show (headSpec ws rm).room.slots = ms from hrs]; exact hp.2.1
  have hPc : Pc a (A.U.calling g mk a) := hblind _ _ _ _ hp.2.2
  obtain ⟨U, Ls, c0, s0⟩ := A
  dsimp only [Pt.U, Pt.locs, Pt.cells, Pt.slots] at h1 h2 h3 h4 h5 X hn hPc ⊢
  obtain ⟨m9, methY, cY, hn9, hmY, hcY, -, hlY, -⟩ := Cond.codeWith_spec h2
  cases Option.some.inj (hn9.symm.trans hn)
  obtain ⟨kY, hkY, -⟩ := className_of_methodNamed hn
  have hinitY : kY.init = .initialized := Cond.initialized_spec (findClass_of_methodNamed hn) hkY h3
  have h : At U g.method c below := by rw [hg]; exact X.here
  have hlocals9 : W9 + (maxL + 11) + (headSpec ws rm).room.locals ≤ R.locals := hlocals
  have happ : (headSpec ws rm).appliesLoose y e.platform (U.calling g mk a) = true :=
    Spec.appliesLoose_calling (g := g) h hdg hn hkY hinitY
      (X.room_calling (g := g) (R' := (headSpec ws rm).room) hsize hmY hcY hframes (by rw [hlY]; omega) h4 h5) h1
  obtain ⟨mid, hmid⟩ := h.above
  have hfr : (U.setTop g).frames = (.java g :: mid) ++ below := by rw [State.frames_setTop' g h.top, hmid]; rfl
  obtain ⟨o, s₂, hsteps, -, hend, hq⟩ := Steps.callFree hM p X.admits X.cas X.clock (acts := []) hfr happ hPc trivial
  have hq' : vx_Q Qc XC mc ms free a (U.calling g mk a) o s₂ := hq
  rw [State.frames_setTop' g h.top] at hend
  obtain ⟨g₀, hg0⟩ := Option.isSome_iff_exists.mp h.top
  obtain ⟨r, hr⟩ := State.topJava?_eq_some.mp hg0
  have hr' : (({ U with heap := s₂.heap, slotsUsed := s₂.slotsUsed } : State).setVm s₂.vm).frames = .java g₀ :: r := hr
  rcases hq' with ⟨hqc, L, hfe, hL⟩ | ⟨q, rfl, E, ce, L, hx, hce, hcv, hcl, hW₂, hsm, hL⟩
  · obtain ⟨⟨v, rfl⟩, hW₂, e2, q2, q3, q4, q5, q6⟩ := id hfe
    have e3 : s₂ = ({ (U.calling g mk a).setFrames s₂.frames with heap := s₂.heap, slotsUsed := s₂.slotsUsed } : State).setVm s₂.vm := by
      have : s₂ = ({ s₂ with vm := (U.calling g mk a).vm } : State).setVm s₂.vm := rfl
      rw [e2] at this
      exact this
    obtain ⟨c₂, i₂, len₂, hc₂, hd₂, hf₂⟩ := hend
    have hW' : U.WarmedH s₂.vm := hW₂
    have hcc : c₂ = c := by
      have h1 : s₂.code? g.method = U.code? g.method := by
        rw [State.code?_eq, State.code?_eq, hW'.alike.method?]
      exact Option.some.inj (hc₂.symm.trans (h1.trans h.code))
    subst hcc
    have hlen : len₂ = len := by rw [hdg] at hd₂; cases hd₂; rfl
    subst hlen
    have hs₂ : s₂ = (({ U with heap := s₂.heap, slotsUsed := s₂.slotsUsed } : State).setVm s₂.vm).setTop { g with pc := g.pc + len₂, stack := v.toList ++ g.stack } := by
      refine e3.trans ?_
      rw [hf₂, State.calling_eq h.top, State.setFrames_setFrames, State.setTop_of_frames _ hr', hr]
      rfl
    have hsame : U.sameButNew ({ U with heap := s₂.heap, slotsUsed := s₂.slotsUsed } : State) L mc ms := by
      refine ⟨?_, q2, q3, q4, q5, q6⟩
      obtain ⟨t, ht, -⟩ := State.frames_cons hr
      show ({ U with heap := s₂.heap, slotsUsed := s₂.slotsUsed } : State) = { U.setFrames U.frames with heap := s₂.heap, slotsUsed := s₂.slotsUsed }
      rw [State.setFrames_self ht]
    subst hg
    refine Or.inl ⟨v, ⟨(({ U with heap := s₂.heap, slotsUsed := s₂.slotsUsed } : State).setVm s₂.vm), Ls ++ L, c0 + mc, s0 + ms⟩,
      ⟨X.admits, X.cas, X.clock, X.frames, X.room, X.hears, X.method, X.code, (X.here.setHeapUsed s₂.heap s₂.slotsUsed).setVm hW'.alike, X.tail, State.WarmedH.trans X.warmed hW', X.limits, X.bytes, X.same.trans (hsame.setVm s.vm)⟩,
      ⟨g, mk, s₂, L, rfl, rfl, hqc, rfl, hL, rfl, rfl⟩, ?_⟩
    show Steps p.tables e below _ ((({ U with heap := s₂.heap, slotsUsed := s₂.slotsUsed } : State).setVm s₂.vm).setTop { g with pc := g.pc + len₂, stack := v.toList ++ g.stack })
    rw [← hs₂]
    exact hsteps
  · obtain ⟨e2, q2, q3, q4, q5, q6⟩ := id hsm
    have e3 : s₂ = ({ (U.calling g mk a).setFrames s₂.frames with heap := s₂.heap, slotsUsed := s₂.slotsUsed } : State).setVm s₂.vm := by
      have : s₂ = ({ s₂ with vm := (U.calling g mk a).vm } : State).setVm s₂.vm := rfl
      rw [e2] at this
      exact this
    have hf₂ : s₂.frames = .throwing q :: .java g :: U.frames.tail := hend
    have hW' : U.WarmedH s₂.vm := hW₂
    have hs₂ : s₂ = ((({ U with heap := s₂.heap, slotsUsed := s₂.slotsUsed } : State).setVm s₂.vm).setTop g).pushFrame (.throwing q) := by
      refine e3.trans ?_
      rw [hf₂, State.calling_eq h.top, State.setFrames_setFrames, State.pushFrame, State.frames_setTop _ hr', State.setTop_of_frames _ hr', State.setFrames_setFrames, hr]
      rfl
    have hsame : U.sameButNew ({ U with heap := s₂.heap, slotsUsed := s₂.slotsUsed } : State) L mc ms := by
      refine ⟨?_, q2, q3, q4, q5, q6⟩
      obtain ⟨t, ht, -⟩ := State.frames_cons hr
      show ({ U with heap := s₂.heap, slotsUsed := s₂.slotsUsed } : State) = { U.setFrames U.frames with heap := s₂.heap, slotsUsed := s₂.slotsUsed }
      rw [State.setFrames_self ht]
    subst hg
    refine Or.inr ⟨q, ⟨(({ U with heap := s₂.heap, slotsUsed := s₂.slotsUsed } : State).setVm s₂.vm), Ls ++ L, c0 + mc, s0 + ms⟩,
      ⟨X.admits, X.cas, X.clock, X.frames, X.room, X.hears, X.method, X.code, (X.here.setHeapUsed s₂.heap s₂.slotsUsed).setVm hW'.alike, X.tail, State.WarmedH.trans X.warmed hW', X.limits, X.bytes, X.same.trans (hsame.setVm s.vm)⟩,
      ⟨g, mk, s₂, L, E, ce, rfl, rfl, hx, hce, hcv, hcl, rfl, hL, rfl, rfl⟩, ?_⟩
    show Steps p.tables e below _ (((({ U with heap := s₂.heap, slotsUsed := s₂.slotsUsed } : State).setVm s₂.vm).setTop g).pushFrame (.throwing q))
    rw [← hs₂]
    exact hsteps
end
variable {p : Program} {l : Launch} {e : Env} {R : Room} {s : State} {m : MethodId} {args : Array Value} {below : List Frame} {meth : Method} {c : Code} {T : State} {H : Heap} {locs : List Loc} {cells slots : Nat}
theorem vx_callVX (X : Stand p l e R s m args below meth c T locs cells slots) (hexec : p.tables.exec = Jvm.exec) {own C : String} {index : Nat} {y : MethodName} {bytes : ByteArray} {maxL : Nat} {ret : Option FieldType} {hh : List (Nat × Nat × Nat × Nat)}
    (hown : s.vm.findClass own = some m.cls) (hlink : (Cond.methodLink own index y).before args s = true) (hinst : (Cond.instanceMethod y).before args s = true) (hsel : (Cond.selects C y y).before args s = true)
    (hcode : (Cond.codeWith y bytes maxL ret hh).before args s = true) (hy : y.cls ≠ "java/lang/invoke/MethodHandle" ∧ y.cls ≠ "java/lang/invoke/VarHandle")
    {W9 : Nat} {Pre : Pt → Array Value → Prop} {Post : Pt → Array Value → Option Value → Pt → Prop} {PostX : Pt → Array Value → Addr → Pt → Prop} (hK : vx_Back l R p e below s args y 3 W9 Pre Post PostX)
    {b : Addr} {cellB : Cell} (hcell : T.heap[b]? = some cellB) (hobj : cellB.vm.isStatics = false) (hcls : s.vm.findClass C = some cellB.cls)
    {g : JFrame} (hg : g.method = m) (hsize : g.locals.size = c.maxLocals) {argsL rest : List Value} (hlen : ∀ sig, parseMethodDescriptor y.desc = some sig → argsL.length = sig.parameters.length)
    (hstack : g.stack = argsL.reverse ++ .ref b :: rest) (hW : 2 * g.monitorRoom + (rest.map fun v => v.category).sum ≤ W9) (hdg : decode c.code g.pc = .ok (.invokevirtual index, 3))
    (hpre : ∀ vm₁, s.WarmedH vm₁ → Pre ⟨T.setVm vm₁, locs, cells, slots⟩ (Value.ref b :: argsL).toArray) :
    (∃ (v : Option Value) (vm₁ : Vm) (B : Pt), s.WarmedH vm₁ ∧ Stand p l e R s m args below meth c B.U B.locs B.cells B.slots ∧ Post ⟨T.setVm vm₁, locs, cells, slots⟩ (Value.ref b :: argsL).toArray v B ∧
      ∀ target, Steps p.tables e below (B.U.setTop { g with pc := g.pc + 3, stack := v.toList ++ rest }) target → Steps p.tables e below (T.setTop g) target) ∨
    (∃ (q : Addr) (vm₁ : Vm) (B : Pt), s.WarmedH vm₁ ∧ Stand p l e R s m args below meth c B.U B.locs B.cells B.slots ∧ PostX ⟨T.setVm vm₁, locs, cells, slots⟩ (Value.ref b :: argsL).toArray q B ∧
      Steps p.tables e below (T.setTop g) ((B.U.setTop { g with stack := rest }).pushFrame (.throwing q))) := by
  obtain ⟨mk, methM, hnamed, hmethM, hstM, habM⟩ := Cond.instanceMethod_spec hinst
  obtain ⟨m8, methM', cM, hn8, hmethM', -, -, -, -, -, -, hsigM⟩ := Cond.codeWith_spec hcode
  cases Option.some.inj (hn8.symm.trans hnamed)
  cases hmethM.symm.trans hmethM'
  obtain ⟨c2, r2, m2, q1, q2, q3, q4, kP, hkP, hkPi⟩ := Cond.selects_spec hsel
  cases hcls.symm.trans q1
  cases (State.methodFound?_of_named hnamed hy).symm.trans q2
  cases hnamed.symm.trans q3
  have hselP : selectMethod e.platform s.vm cellB.cls mk = .method mk := by rw [Launch.admits_selectMethod X.admits]; exact q4
  obtain ⟨vm₁, X₁, hstep₁⟩ := X.invokevirtual hexec hown hlink hnamed hmethM hstM hkP hkPi hy (a := b) (cell := cellB) hcell
    (fun z h => by rw [h] at hobj; cases hobj) hselP hmethM habM hkP hkPi (g := g) hg (argsL := argsL) (rest := rest) (hlen _ hsigM) hstack hdg
  rcases hK m meth c ⟨T.setVm vm₁, locs, cells, slots⟩ { g with stack := rest } (.invokevirtual index) mk (Value.ref b :: argsL).toArray X₁ hg hsize hdg hW (X₁.named hnamed) (hpre vm₁ X₁.warmed) with ⟨v, B, X', hpost, hsteps⟩ | ⟨q, B, X', hpost, hsteps⟩
  · exact Or.inl ⟨v, vm₁, B, X₁.warmed, X', hpost, fun target h => hstep₁ _ fun acts => by rw [doInvoke_state]; exact hsteps.trans h⟩
  · exact Or.inr ⟨q, vm₁, B, X₁.warmed, X', hpost, hstep₁ _ fun acts => by rw [doInvoke_state]; exact hsteps⟩
theorem vx_callSX (X : Stand p l e R s m args below meth c T locs cells slots) (hexec : p.tables.exec = Jvm.exec) {own : String} {index : Nat} {y : MethodName} {bytes : ByteArray} {maxL : Nat} {ret : Option FieldType} {hh : List (Nat × Nat × Nat × Nat)}
    (hown : s.vm.findClass own = some m.cls) (hlink : (Cond.methodLink own index y).before args s = true) (hstat : (Cond.static y).before args s = true) (hinit : (Cond.initialized y.cls).before args s = true)
    (hcode : (Cond.codeWith y bytes maxL ret hh).before args s = true) (hy : y.cls ≠ "java/lang/invoke/MethodHandle" ∧ y.cls ≠ "java/lang/invoke/VarHandle")
    {W9 : Nat} {Pre : Pt → Array Value → Prop} {Post : Pt → Array Value → Option Value → Pt → Prop} {PostX : Pt → Array Value → Addr → Pt → Prop} (hK : vx_Back l R p e below s args y 3 W9 Pre Post PostX)
    {g : JFrame} (hg : g.method = m) (hsize : g.locals.size = c.maxLocals) {argsL rest : List Value} (hlen : ∀ sig, parseMethodDescriptor y.desc = some sig → argsL.length = sig.parameters.length)
    (hstack : g.stack = argsL.reverse ++ rest) (hW : 2 * g.monitorRoom + (rest.map fun v => v.category).sum ≤ W9) (hdg : decode c.code g.pc = .ok (.invokestatic index, 3))
    (hpre : ∀ vm₁, s.WarmedH vm₁ → Pre ⟨T.setVm vm₁, locs, cells, slots⟩ argsL.toArray) :
    (∃ (v : Option Value) (vm₁ : Vm) (B : Pt), s.WarmedH vm₁ ∧ Stand p l e R s m args below meth c B.U B.locs B.cells B.slots ∧ Post ⟨T.setVm vm₁, locs, cells, slots⟩ argsL.toArray v B ∧
      ∀ target, Steps p.tables e below (B.U.setTop { g with pc := g.pc + 3, stack := v.toList ++ rest }) target → Steps p.tables e below (T.setTop g) target) ∨
    (∃ (q : Addr) (vm₁ : Vm) (B : Pt), s.WarmedH vm₁ ∧ Stand p l e R s m args below meth c B.U B.locs B.cells B.slots ∧ PostX ⟨T.setVm vm₁, locs, cells, slots⟩ argsL.toArray q B ∧
      Steps p.tables e below (T.setTop g) ((B.U.setTop { g with stack := rest }).pushFrame (.throwing q))) := by
  obtain ⟨mk, methM, cM, hnamed, hmethM, -, -, -, -, -, -, hsigM⟩ := Cond.codeWith_spec hcode
  have hstatic : methM.isStatic = true := Cond.static_spec hnamed hmethM hstat
  obtain ⟨kP, hkP, -⟩ := className_of_methodNamed hnamed
  have hinitP : kP.init = .initialized := Cond.initialized_spec (findClass_of_methodNamed hnamed) hkP hinit
  obtain ⟨vm₁, X₁, hstep₁⟩ := X.invokestatic hexec hown hlink hnamed hmethM hstatic hkP hinitP hy (g := g) hg (argsL := argsL) (rest := rest) (hlen _ hsigM) hstack hdg
  rcases hK m meth c ⟨T.setVm vm₁, locs, cells, slots⟩ { g with stack := rest } (.invokestatic index) mk argsL.toArray X₁ hg hsize hdg hW (X₁.named hnamed) (hpre vm₁ X₁.warmed) with ⟨v, B, X', hpost, hsteps⟩ | ⟨q, B, X', hpost, hsteps⟩
  · exact Or.inl ⟨v, vm₁, B, X₁.warmed, X', hpost, fun target h => hstep₁ _ fun acts => by rw [doInvoke_state]; exact hsteps.trans h⟩
  · exact Or.inr ⟨q, vm₁, B, X₁.warmed, X', hpost, hstep₁ _ fun acts => by rw [doInvoke_state]; exact hsteps⟩
theorem vx_callVW (X : Stand p l e R s m args below meth c T locs cells slots) (hexec : p.tables.exec = Jvm.exec) {own C : String} {index : Nat} {y : MethodName} {bytes : ByteArray} {maxL : Nat} {ret : Option FieldType} {hh : List (Nat × Nat × Nat × Nat)}
    (hown : s.vm.findClass own = some m.cls) (hlink : (Cond.methodLink own index y).before args s = true) (hinst : (Cond.instanceMethod y).before args s = true) (hsel : (Cond.selects C y y).before args s = true)
    (hcode : (Cond.codeWith y bytes maxL ret hh).before args s = true) (hy : y.cls ≠ "java/lang/invoke/MethodHandle" ∧ y.cls ≠ "java/lang/invoke/VarHandle")
    {W9 : Nat} {Pre : Pt → Array Value → Prop} {Post : Pt → Array Value → Option Value → Pt → Prop} (hK : Back l R p e below s args y 3 W9 Pre Post)
    {b : Addr} {cellB : Cell} (hcell : T.heap[b]? = some cellB) (hobj : cellB.vm.isStatics = false) (hcls : s.vm.findClass C = some cellB.cls)
    {g : JFrame} (hg : g.method = m) (hsize : g.locals.size = c.maxLocals) {argsL rest : List Value} (hlen : ∀ sig, parseMethodDescriptor y.desc = some sig → argsL.length = sig.parameters.length)
    (hstack : g.stack = argsL.reverse ++ .ref b :: rest) (hW : 2 * g.monitorRoom + (rest.map fun v => v.category).sum ≤ W9) (hdg : decode c.code g.pc = .ok (.invokevirtual index, 3))
    (hpre : ∀ vm₁, s.WarmedH vm₁ → Pre ⟨T.setVm vm₁, locs, cells, slots⟩ (Value.ref b :: argsL).toArray) :
    ∃ (v : Option Value) (vm₁ : Vm) (B : Pt), s.WarmedH vm₁ ∧ Stand p l e R s m args below meth c B.U B.locs B.cells B.slots ∧ Post ⟨T.setVm vm₁, locs, cells, slots⟩ (Value.ref b :: argsL).toArray v B ∧
      ∀ target, Steps p.tables e below (B.U.setTop { g with pc := g.pc + 3, stack := v.toList ++ rest }) target → Steps p.tables e below (T.setTop g) target := by
  obtain ⟨mk, methM, hnamed, hmethM, hstM, habM⟩ := Cond.instanceMethod_spec hinst
  obtain ⟨m8, methM', cM, hn8, hmethM', -, -, -, -, -, -, hsigM⟩ := Cond.codeWith_spec hcode
  cases Option.some.inj (hn8.symm.trans hnamed)
  cases hmethM.symm.trans hmethM'
  obtain ⟨c2, r2, m2, q1, q2, q3, q4, kP, hkP, hkPi⟩ := Cond.selects_spec hsel
  cases hcls.symm.trans q1
  cases (State.methodFound?_of_named hnamed hy).symm.trans q2
  cases hnamed.symm.trans q3
  have hselP : selectMethod e.platform s.vm cellB.cls mk = .method mk := by rw [Launch.admits_selectMethod X.admits]; exact q4
  obtain ⟨vm₁, X₁, hstep₁⟩ := X.invokevirtual hexec hown hlink hnamed hmethM hstM hkP hkPi hy (a := b) (cell := cellB) hcell
    (fun z h => by rw [h] at hobj; cases hobj) hselP hmethM habM hkP hkPi (g := g) hg (argsL := argsL) (rest := rest) (hlen _ hsigM) hstack hdg
  obtain ⟨v, B, X', hpost, hsteps⟩ := hK m meth c ⟨T.setVm vm₁, locs, cells, slots⟩ { g with stack := rest } (.invokevirtual index) mk (Value.ref b :: argsL).toArray X₁ hg hsize hdg hW (X₁.named hnamed) (hpre vm₁ X₁.warmed)
  exact ⟨v, vm₁, B, X₁.warmed, X', hpost, fun target h => hstep₁ _ fun acts => by rw [doInvoke_state]; exact hsteps.trans h⟩
abbrev vx_CVW (R : Room) (s : State) (args : Array Value) (own C : String) (index : Nat) (y : MethodName) (bytes : ByteArray) (maxL : Nat) (ret : Option FieldType) (hh : List (Nat × Nat × Nat × Nat)) (ws : List Cond) (rm : Room) (mc ms n : Nat) : Prop :=
  (rm.cells = mc ∧ rm.slots = ms ∧ rm.frames + 1 ≤ R.frames ∧ 8 + (maxL + 11) + rm.locals ≤ R.locals ∧ (∀ w ∈ ws, ∀ (a' : Array Value) (U : State), s.WarmedH U.vm → w.before a' U = true) ∧ Cond.codeWith y bytes maxL ret hh ∈ ws) ∧
  (Cond.codeWith y bytes maxL ret hh).before args s = true ∧ (Cond.initialized y.cls).before args s = true ∧ (y.cls ≠ "java/lang/invoke/MethodHandle" ∧ y.cls ≠ "java/lang/invoke/VarHandle") ∧
  (∀ sig, parseMethodDescriptor y.desc = some sig → n = sig.parameters.length) ∧ (Cond.methodLink own index y).before args s = true ∧ (Cond.instanceMethod y).before args s = true ∧ (Cond.selects C y y).before args s = true
theorem vx_cwVW {own C : String} {index maxL mc ms : Nat} {y : MethodName} {bytes : ByteArray} {ret : Option FieldType} {hh : List (Nat × Nat × Nat × Nat)} {Ts ws ws' : List Cond} {rm : Room} (n : Nat) (ht : ∀ w ∈ Ts, w.before args s = true) (hT : GoodIn Ts (wsV own index C y ws)) (hw : ws = Cond.codeWith y bytes maxL ret hh :: ws') (hrc : rm.cells = mc) (hrs : rm.slots = ms)
    (hd : y.cls = C ∧ y.cls ≠ "java/lang/invoke/MethodHandle" ∧ y.cls ≠ "java/lang/invoke/VarHandle" ∧ (parseMethodDescriptor y.desc).map (fun d => d.parameters.length) = some n) (hR : rm.frames + 1 ≤ R.frames ∧ 8 + (maxL + 11) + rm.locals ≤ R.locals) :
    vx_CVW R s args own C index y bytes maxL ret hh ws rm mc ms n := by
  obtain ⟨hC, hd⟩ := hd
  subst hC
  have ok : ∀ w ∈ wsV own index y.cls y ws, w.before args s = true := fun w h => ht w (hT w h).1
  have hG : GoodIn Ts ws := fun w h => hT w (by unfold wsV; exact List.mem_append_right _ h)
  have hc : Cond.codeWith y bytes maxL ret hh ∈ ws := by rw [hw]; exact List.mem_cons_self
  refine ⟨⟨hrc, hrs, hR.1, hR.2, pay_in ht hG, hc⟩, ht _ (hG _ hc).1, ok _ (by simp [wsV]), ⟨hd.1, hd.2.1⟩, fun sig h => ?_, ok _ (by simp [wsV]), ok _ (by simp [wsV]), ok _ (by simp [wsV])⟩
  have h2 := hd.2.2
  rw [h] at h2
  exact (Option.some.inj h2).symm
theorem vx_runVW {y : MethodName} {bytes cc : ByteArray} {maxL nL mc ms n index : Nat} {ret : Option FieldType} {hh : List (Nat × Nat × Nat × Nat)} {ws : List Cond} {rm : Room} {Pc : Array Value → State → Prop} {Qc : Array Value → State → Outcome → State → Prop} {free : Addr → Prop} {Ts : List Cond} {own C : String} {b : Addr} {As rest : List Value} {g : JFrame}
    (S : CallFix p m c cc nL s args Ts own) (hM : Met l y ws rm Pc Qc mc ms free) (cw : vx_CVW R s args own C index y bytes maxL ret hh ws rm mc ms n) (hp : PreV s H C b Pc As)
    (hg : g.method = m) (hn : As.length = n) (hsize : g.locals.size = nL) (hstack : g.stack = As.reverse ++ .ref b :: rest) (hW : 2 * g.monitorRoom + (rest.map fun v => v.category).sum ≤ 8) (hdg : decode cc g.pc = .ok (.invokevirtual index, 3)) (hf : cells + mc ≤ R.cells ∧ slots + ms ≤ R.slots) :
    va_Run p l e R s m args below meth c H locs cells slots mc ms g rest (Qc (Value.ref b :: As).toArray) free := by
  obtain ⟨⟨hrc, hrs, hfr, hlo, hws, hcw⟩, hcode, hini, hy, hlen, hl, hin, hse⟩ := cw
  have hK : Back l R p e below s args y 3 8 (PreOf R mc ms Pc) (PostOf Qc mc ms free) := va_backW (hh := hh) (bytes := bytes) (maxL := maxL) (ret := ret) hM hp.1 hrc hrs hfr hlo hws hcw (fun a' U hW => word_at hW (Or.inl (by first | rfl | simp [Cond.onTables, Cond.keeps, Cond.steady])) hini)
  obtain ⟨hx, hb, hml, ho, -⟩ := S
  obtain ⟨-, ⟨cellB, hcB, hoB, hclB⟩, hPc⟩ := hp
  intro T hT X
  obtain ⟨v, vm₁, ⟨U', l2, c2, s2⟩, hW₁, X', ⟨g', mk, t, L, e1, e2, hq, h1, hL, h2, h3⟩, st⟩ := vx_callVW X hx (C := C) (hh := hh) (bytes := bytes) (maxL := maxL) (ret := ret) ho hl hin hse hcode hy hK (by rw [hT]; exact hcB) hoB hclB hg (hsize.trans hml.symm) (argsL := As) (rest := rest) (fun sig h => hn.trans (hlen sig h)) hstack hW (by rw [hb]; exact hdg)
    (fun vm₁ hW₁ => ⟨hf.1, hf.2, hPc (T.setVm vm₁) hT hW₁⟩)
  dsimp only [Pt.U, Pt.locs, Pt.cells, Pt.slots] at X' e1 e2 h1 h2 h3 st
  subst h1; subst h2; subst h3
  exact ⟨v, (T.setVm vm₁).calling g' mk (Value.ref b :: As).toArray, t, U', L, hT, X', hL, e1, e2, hq, st⟩
section
variable {y : MethodName} {bytes cc : ByteArray} {maxL nL mc ms n index : Nat} {ret : Option FieldType} {ws : List Cond} {rm : Room} {Pc : Array Value → State → Prop} {Qc : Array Value → State → Outcome → State → Prop} {XC : String → State → State → Prop} {free : Addr → Prop} {Ts : List Cond} {own C : String} {b : Addr} {As rest : List Value} {g : JFrame}
theorem vx_runVX {hh : List (Nat × Nat × Nat × Nat)} (S : CallFix p m c cc nL s args Ts own) (hM : vx_Met l y ws rm Pc Qc XC mc ms free) (cw : vx_CVW R s args own C index y bytes maxL ret hh ws rm mc ms n) (hp : PreV s H C b Pc As)
    (hg : g.method = m) (hn : As.length = n) (hsize : g.locals.size = nL) (hstack : g.stack = As.reverse ++ .ref b :: rest) (hW : 2 * g.monitorRoom + (rest.map fun v => v.category).sum ≤ 8) (hdg : decode cc g.pc = .ok (.invokevirtual index, 3)) (hf : cells + mc ≤ R.cells ∧ slots + ms ≤ R.slots) :
    vx_Run p l e R s m args below meth c H locs cells slots mc ms g rest (Qc (Value.ref b :: As).toArray) XC free := by
  obtain ⟨⟨hrc, hrs, hfr, hlo, hws, hcw⟩, hcode, hini, hy, hlen, hl, hin, hse⟩ := cw
  have hK : vx_Back l R p e below s args y 3 8 (PreOf R mc ms Pc) (PostOf Qc mc ms free) (vx_Post XC mc ms free) := vx_backW (hh := hh) (bytes := bytes) (maxL := maxL) (ret := ret) hM hp.1 hrc hrs hfr hlo hws hcw (fun a' U hW => word_at hW (Or.inl (by first | rfl | simp [Cond.onTables, Cond.keeps, Cond.steady])) hini)
  obtain ⟨hx, hb, hml, ho, -⟩ := S
  obtain ⟨-, ⟨cellB, hcB, hoB, hclB⟩, hPc⟩ := hp
  intro T hT X
  rcases vx_callVX X hx (C := C) (hh := hh) (bytes := bytes) (maxL := maxL) (ret := ret) ho hl hin hse hcode hy hK (by rw [hT]; exact hcB) hoB hclB hg (hsize.trans hml.symm) (argsL := As) (rest := rest) (fun sig h => hn.trans (hlen sig h)) hstack hW (by rw [hb]; exact hdg)
    (fun vm₁ hW₁ => ⟨hf.1, hf.2, hPc (T.setVm vm₁) hT hW₁⟩) with ⟨v, vm₁, ⟨U', l2, c2, s2⟩, hW₁, X', ⟨g', mk, t, L, e1, e2, hq, h1, hL, h2, h3⟩, st⟩ | ⟨q, vm₁, ⟨U', l2, c2, s2⟩, hW₁, X', ⟨g', mk, t, L, E, ce, e1, e2, hq, hce, hcv, hcl, h1, hL, h2, h3⟩, st⟩
  · dsimp only [Pt.U, Pt.locs, Pt.cells, Pt.slots] at X' e1 e2 h1 h2 h3 st
    subst h1; subst h2; subst h3
    exact Or.inl ⟨v, (T.setVm vm₁).calling g' mk (Value.ref b :: As).toArray, t, U', L, hT, X', hL, e1, e2, hq, st⟩
  · dsimp only [Pt.U, Pt.locs, Pt.cells, Pt.slots] at X' e1 e2 h1 h2 h3 st hcl
    subst h1; subst h2; subst h3
    exact Or.inr ⟨q, (T.setVm vm₁).calling g' mk (Value.ref b :: As).toArray, t, U', L, E, ce, hT, X', hL, e1, e2, hq, hce, hcv, vx_cls hW₁ hcl, st⟩
theorem vx_runSX {hh : List (Nat × Nat × Nat × Nat)} (S : CallFix p m c cc nL s args Ts own) (hM : vx_Met l y ws rm Pc Qc XC mc ms free) (cw : vx_CSW R s args own index y bytes maxL ret hh ws rm mc ms n) (hp : PreS s H Pc As)
    (hg : g.method = m) (hn : As.length = n) (hsize : g.locals.size = nL) (hstack : g.stack = As.reverse ++ rest) (hW : 2 * g.monitorRoom + (rest.map fun v => v.category).sum ≤ 8) (hdg : decode cc g.pc = .ok (.invokestatic index, 3)) (hf : cells + mc ≤ R.cells ∧ slots + ms ≤ R.slots) :
    vx_Run p l e R s m args below meth c H locs cells slots mc ms g rest (Qc As.toArray) XC free := by
  obtain ⟨⟨hrc, hrs, hfr, hlo, hws, hcw⟩, hcode, hini, hy, hlen, hl, hstt⟩ := cw
  have hK : vx_Back l R p e below s args y 3 8 (PreOf R mc ms Pc) (PostOf Qc mc ms free) (vx_Post XC mc ms free) := vx_backW (hh := hh) (bytes := bytes) (maxL := maxL) (ret := ret) hM hp.1 hrc hrs hfr hlo hws hcw (fun a' U hW => word_at hW (Or.inl (by first | rfl | simp [Cond.onTables, Cond.keeps, Cond.steady])) hini)
  obtain ⟨hx, hb, hml, ho, -⟩ := S
  intro T hT X
  rcases vx_callSX X hx (hh := hh) (bytes := bytes) (maxL := maxL) (ret := ret) ho hl hstt hini hcode hy hK hg (hsize.trans hml.symm) (argsL := As) (rest := rest) (fun sig h => hn.trans (hlen sig h)) hstack hW (by rw [hb]; exact hdg)
    (fun vm₁ hW₁ => ⟨hf.1, hf.2, hp.2 (T.setVm vm₁) hT hW₁⟩) with ⟨v, vm₁, ⟨U', l2, c2, s2⟩, hW₁, X', ⟨g', mk, t, L, e1, e2, hq, h1, hL, h2, h3⟩, st⟩ | ⟨q, vm₁, ⟨U', l2, c2, s2⟩, hW₁, X', ⟨g', mk, t, L, E, ce, e1, e2, hq, hce, hcv, hcl, h1, hL, h2, h3⟩, st⟩
  · dsimp only [Pt.U, Pt.locs, Pt.cells, Pt.slots] at X' e1 e2 h1 h2 h3 st
    subst h1; subst h2; subst h3
    exact Or.inl ⟨v, (T.setVm vm₁).calling g' mk As.toArray, t, U', L, hT, X', hL, e1, e2, hq, st⟩
  · dsimp only [Pt.U, Pt.locs, Pt.cells, Pt.slots] at X' e1 e2 h1 h2 h3 st hcl
    subst h1; subst h2; subst h3
    exact Or.inr ⟨q, (T.setVm vm₁).calling g' mk As.toArray, t, U', L, E, ce, hT, X', hL, e1, e2, hq, hce, hcv, vx_cls hW₁ hcl, st⟩
end
end VXH
theorem vx_ofWH {l : Launch} {y : MethodName} {ws ws' : List Cond} {rm : Room} {Pc : Array Value → State → Prop} {Qc : Array Value → State → Outcome → State → Prop} {XC : String → State → State → Prop} {mc ms : Nat} {free : Addr → Prop} {cc : ByteArray} {maxL : Nat} {ret : Option FieldType} {hh : List (Nat × Nat × Nat × Nat)}
    (hy : plainName y.cls = true) (hw : ws = Cond.codeWith y cc maxL ret hh :: ws')
    (body : ∀ p e s m args below meth c s₁, BodyLoose p l y (headSpec ws rm) cc maxL ret e s m args below meth c s₁ → c.maxLocals = maxL → Pc args s →
      W p l e (headSpec ws rm).room s m args below meth c s.heap [] 0 0 (vx_MQ below Qc XC args s mc ms free) (entryFrame m args maxL)) : vx_Met l y ws rm Pc Qc XC mc ms free := by
  refine MetFree.of_bodyS (code := cc) (maxLocals := maxL) (ret := ret) hy ?_ ?_
  · intro args s m h hn
    obtain ⟨m9, meth, c, hn9, h1, h2, h3, h4, -, h5, h6, -⟩ := Cond.codeWith_spec (atoms_spec (ws := ws) h _ (by rw [hw]; exact List.mem_cons_self))
    cases hn.symm.trans hn9
    exact ⟨meth, c, h1, h2, h3, h4, h5, h6⟩
  · intro p e s m args below meth c s₁ B hml hP _
    have hh0 : s₁.heap = s.heap := by rw [B.state]; rfl
    obtain ⟨t, a1, o, b1, b2, b3⟩ := body p e s m args below meth c s₁ B hml hP s₁ hh0 (Stand.of_body B)
    exact ⟨t, o, a1, b1, b2, b3⟩
/-! ===== END ===== -/
end
section
/-! ===== BEGIN printed: names, fields, word lists, decode rows ===== -/
def RX0 : String := "ChannelSpacer$CleanSet"
def TX0 : u_T := fun k => match k with
  | 0 => ("ChannelSpacer$CleanSet", "channel", "[I", true)
  | 1 => ("ChannelSpacer$CleanSet", "level", "[I", true)
  | 2 => ("ChannelSpacer$CleanSet", "guarded", "[J", true)
  | 3 => ("ChannelSpacer$CleanSet", "fallen", "[J", true)
  | 4 => ("ChannelSpacer$CleanSet", "size", "I", false)
  | 5 => ("ChannelSpacer$CleanSet", "kinds", "I", false)
  | 6 => ("ChannelSpacer$CleanSet", "loss3", "I", false)
  | 7 => ("ChannelSpacer$CleanSet", "loss5", "I", false)
  | 8 => ("ChannelSpacer$CleanSet", "guard", "I", false)
  | _ => ("ChannelSpacer$CleanSet", "spacing", "I", false)
def tyX0 : Nat → FieldType := fun k => match k with
  | 0 => .array .int
  | 1 => .array .int
  | 2 => .array .long
  | 3 => .array .long
  | 4 => .int
  | 5 => .int
  | 6 => .int
  | 7 => .int
  | 8 => .int
  | _ => .int
abbrev wsX00 : List Cond := u_ws RX0 TX0 10
theorem nmX0 : ∀ a, a < 10 → ∀ b, b < 10 → a ≠ b → (TX0 a).2.1 ≠ (TX0 b).2.1 := by decide +kernel
theorem tyX0_ok : ∀ k, k < 10 → parseFieldDescriptor (TX0 k).2.2.1 = some (tyX0 k) := by decide +kernel
abbrev cX0_init : ByteArray := prog_2_method_1_code
def yX0_init : MethodName := ⟨RX0, "<init>", "()V"⟩
abbrev cX0_start : ByteArray := prog_2_method_2_code
def yX0_start : MethodName := ⟨RX0, "start", "(LChannelSpacer$Desk;)V"⟩
abbrev cX0_join : ByteArray := prog_2_method_3_code
def yX0_join : MethodName := ⟨RX0, "join", "(II)Z"⟩
abbrev cX0_leave : ByteArray := prog_2_method_4_code
def yX0_leave : MethodName := ⟨RX0, "leave", "()V"⟩
abbrev cX0_channelSet : ByteArray := prog_2_method_5_code
def yX0_channelSet : MethodName := ⟨RX0, "channelSet", "()J"⟩
abbrev cX0_isCrowded : ByteArray := prog_2_method_6_code
def yX0_isCrowded : MethodName := ⟨RX0, "isCrowded", "(I)Z"⟩
abbrev cX0_guardedBy : ByteArray := prog_2_method_7_code
def yX0_guardedBy : MethodName := ⟨RX0, "guardedBy", "(I)J"⟩
abbrev cX0_pairsWith : ByteArray := prog_2_method_8_code
def yX0_pairsWith : MethodName := ⟨RX0, "pairsWith", "(II)J"⟩
abbrev cX0_triplesWith : ByteArray := prog_2_method_9_code
def yX0_triplesWith : MethodName := ⟨RX0, "triplesWith", "(II)J"⟩
abbrev cX0_bitOf : ByteArray := prog_2_method_10_code
def yX0_bitOf : MethodName := ⟨RX0, "bitOf", "(II)J"⟩
def RX1 : String := "ChannelSpacer$Desk"
def TX1 : u_T := fun k => match k with
  | 0 => ("ChannelSpacer$Desk", "kinds", "I", false)
  | 1 => ("ChannelSpacer$Desk", "loss3", "I", false)
  | 2 => ("ChannelSpacer$Desk", "loss5", "I", false)
  | 3 => ("ChannelSpacer$Desk", "guard", "I", false)
  | 4 => ("ChannelSpacer$Desk", "spacing", "I", false)
  | 5 => ("ChannelSpacer$Desk", "carriers", "I", false)
  | 6 => ("ChannelSpacer$Desk", "channel", "[I", true)
  | 7 => ("ChannelSpacer$Desk", "level", "[I", true)
  | 8 => ("ChannelSpacer$Desk", "mixers", "I", false)
  | 9 => ("ChannelSpacer$Desk", "members", "[I", true)
  | 10 => ("ChannelSpacer$Desk", "tests", "I", false)
  | 11 => ("ChannelSpacer$Desk", "active", "[I", true)
  | 12 => ("ChannelSpacer$Desk", "listened", "[I", true)
  | 13 => ("ChannelSpacer$Desk", "outcome", "[I", true)
  | _ => ("ChannelSpacer$Desk", "audible", "[I", true)
def tyX1 : Nat → FieldType := fun k => match k with
  | 0 => .int
  | 1 => .int
  | 2 => .int
  | 3 => .int
  | 4 => .int
  | 5 => .int
  | 6 => .array .int
  | 7 => .array .int
  | 8 => .int
  | 9 => .array .int
  | 10 => .int
  | 11 => .array .int
  | 12 => .array .int
  | 13 => .array .int
  | _ => .array .int
abbrev wsX10 : List Cond := u_ws RX1 TX1 15
theorem nmX1 : ∀ a, a < 15 → ∀ b, b < 15 → a ≠ b → (TX1 a).2.1 ≠ (TX1 b).2.1 := by decide +kernel
theorem tyX1_ok : ∀ k, k < 15 → parseFieldDescriptor (TX1 k).2.2.1 = some (tyX1 k) := by decide +kernel
abbrev cX1_init : ByteArray := prog_3_method_1_code
def yX1_init : MethodName := ⟨RX1, "<init>", "()V"⟩
abbrev cX1_takeFrom : ByteArray := prog_3_method_2_code
def yX1_takeFrom : MethodName := ⟨RX1, "takeFrom", "(LChannelSpacer$Desk;)V"⟩
abbrev cX1_empty : ByteArray := prog_3_method_3_code
def yX1_empty : MethodName := ⟨RX1, "empty", "()V"⟩
abbrev cX1_hasCarrier : ByteArray := prog_3_method_4_code
def yX1_hasCarrier : MethodName := ⟨RX1, "hasCarrier", "(I)Z"⟩
abbrev cX1_everyCarrier : ByteArray := prog_3_method_5_code
def yX1_everyCarrier : MethodName := ⟨RX1, "everyCarrier", "()I"⟩
abbrev cX1_channelOf : ByteArray := prog_3_method_6_code
def yX1_channelOf : MethodName := ⟨RX1, "channelOf", "(I)I"⟩
abbrev cX1_levelOf : ByteArray := prog_3_method_7_code
def yX1_levelOf : MethodName := ⟨RX1, "levelOf", "(I)I"⟩
abbrev cX1_carrierOn : ByteArray := prog_3_method_8_code
def yX1_carrierOn : MethodName := ⟨RX1, "carrierOn", "(I)I"⟩
abbrev cX1_putCarrier : ByteArray := prog_3_method_9_code
def yX1_putCarrier : MethodName := ⟨RX1, "putCarrier", "(II)V"⟩
abbrev cX1_setCarrier : ByteArray := prog_3_method_10_code
def yX1_setCarrier : MethodName := ⟨RX1, "setCarrier", "(III)V"⟩
abbrev cX1_takeOut : ByteArray := prog_3_method_11_code
def yX1_takeOut : MethodName := ⟨RX1, "takeOut", "(I)V"⟩
abbrev cX1_shiftAll : ByteArray := prog_3_method_12_code
def yX1_shiftAll : MethodName := ⟨RX1, "shiftAll", "(I)V"⟩
abbrev cX1_hasMixer : ByteArray := prog_3_method_13_code
def yX1_hasMixer : MethodName := ⟨RX1, "hasMixer", "(I)Z"⟩
abbrev cX1_everyMixer : ByteArray := prog_3_method_14_code
def yX1_everyMixer : MethodName := ⟨RX1, "everyMixer", "()I"⟩
abbrev cX1_membersOf : ByteArray := prog_3_method_15_code
def yX1_membersOf : MethodName := ⟨RX1, "membersOf", "(I)I"⟩
abbrev cX1_putMixer : ByteArray := prog_3_method_16_code
def yX1_putMixer : MethodName := ⟨RX1, "putMixer", "(I)V"⟩
abbrev cX1_setMembers : ByteArray := prog_3_method_17_code
def yX1_setMembers : MethodName := ⟨RX1, "setMembers", "(II)V"⟩
abbrev cX1_hasTest : ByteArray := prog_3_method_18_code
def yX1_hasTest : MethodName := ⟨RX1, "hasTest", "(I)Z"⟩
abbrev cX1_putTest : ByteArray := prog_3_method_19_code
def yX1_putTest : MethodName := ⟨RX1, "putTest", "(IIZI)V"⟩
abbrev cX1_testFact : ByteArray := prog_3_method_20_code
def yX1_testFact : MethodName := ⟨RX1, "testFact", "(II)I"⟩
abbrev cX1_fitsTests : ByteArray := prog_3_method_21_code
def yX1_fitsTests : MethodName := ⟨RX1, "fitsTests", "(I)Z"⟩
def RX2 : String := "ChannelSpacer$History"
def TX2 : u_T := fun k => match k with
  | 0 => ("ChannelSpacer$History", "saved", "[LChannelSpacer$Desk;", true)
  | 1 => ("ChannelSpacer$History", "newest", "I", false)
  | _ => ("ChannelSpacer$History", "size", "I", false)
def tyX2 : Nat → FieldType := fun k => match k with
  | 0 => .array (.object "ChannelSpacer$Desk")
  | 1 => .int
  | _ => .int
abbrev wsX20 : List Cond := u_ws RX2 TX2 3
theorem nmX2 : ∀ a, a < 3 → ∀ b, b < 3 → a ≠ b → (TX2 a).2.1 ≠ (TX2 b).2.1 := by decide +kernel
theorem tyX2_ok : ∀ k, k < 3 → parseFieldDescriptor (TX2 k).2.2.1 = some (tyX2 k) := by decide +kernel
abbrev cX2_init : ByteArray := prog_4_method_1_code
def yX2_init : MethodName := ⟨RX2, "<init>", "()V"⟩
abbrev cX2_push : ByteArray := prog_4_method_2_code
def yX2_push : MethodName := ⟨RX2, "push", "(LChannelSpacer$Desk;)V"⟩
abbrev cX2_popInto : ByteArray := prog_4_method_3_code
def yX2_popInto : MethodName := ⟨RX2, "popInto", "(LChannelSpacer$Desk;)V"⟩
abbrev cX2_deskAt : ByteArray := prog_4_method_4_code
def yX2_deskAt : MethodName := ⟨RX2, "deskAt", "(I)LChannelSpacer$Desk;"⟩
def RX3 : String := "ChannelSpacer$Mix"
def TX3 : u_T := fun k => match k with
  | 0 => ("ChannelSpacer$Mix", "facts", "[I", true)
  | _ => ("ChannelSpacer$Mix", "size", "I", false)
def tyX3 : Nat → FieldType := fun k => match k with
  | 0 => .array .int
  | _ => .int
abbrev wsX30 : List Cond := u_ws RX3 TX3 2
theorem nmX3 : ∀ a, a < 2 → ∀ b, b < 2 → a ≠ b → (TX3 a).2.1 ≠ (TX3 b).2.1 := by decide +kernel
theorem tyX3_ok : ∀ k, k < 2 → parseFieldDescriptor (TX3 k).2.2.1 = some (tyX3 k) := by decide +kernel
abbrev cX3_init : ByteArray := prog_5_method_1_code
def yX3_init : MethodName := ⟨RX3, "<init>", "()V"⟩
abbrev cX3_gather : ByteArray := prog_5_method_2_code
def yX3_gather : MethodName := ⟨RX3, "gather", "(LChannelSpacer$Desk;I)V"⟩
abbrev cX3_gatherPairs : ByteArray := prog_5_method_3_code
def yX3_gatherPairs : MethodName := ⟨RX3, "gatherPairs", "(LChannelSpacer$Desk;II)V"⟩
abbrev cX3_gatherTriples : ByteArray := prog_5_method_4_code
def yX3_gatherTriples : MethodName := ⟨RX3, "gatherTriples", "(LChannelSpacer$Desk;I)V"⟩
abbrev cX3_put : ByteArray := prog_5_method_5_code
def yX3_put : MethodName := ⟨RX3, "put", "(IIIIII)V"⟩
abbrev cX3_fact : ByteArray := prog_5_method_6_code
def yX3_fact : MethodName := ⟨RX3, "fact", "(II)I"⟩
abbrev cX3_channelSet : ByteArray := prog_5_method_7_code
def yX3_channelSet : MethodName := ⟨RX3, "channelSet", "()J"⟩
abbrev cX3_countNear : ByteArray := prog_5_method_8_code
def yX3_countNear : MethodName := ⟨RX3, "countNear", "(II)I"⟩
def RX4 : String := "ChannelSpacer$PlanText"
def TX4 : u_T := fun k => match k with
  | 0 => ("ChannelSpacer$PlanText", "bytes", "[I", true)
  | 1 => ("ChannelSpacer$PlanText", "length", "I", false)
  | 2 => ("ChannelSpacer$PlanText", "at", "I", false)
  | 3 => ("ChannelSpacer$PlanText", "numberAt", "I", false)
  | _ => ("ChannelSpacer$PlanText", "error", "I", false)
def tyX4 : Nat → FieldType := fun k => match k with
  | 0 => .array .int
  | 1 => .int
  | 2 => .int
  | 3 => .int
  | _ => .int
abbrev wsX40 : List Cond := u_ws RX4 TX4 5
theorem nmX4 : ∀ a, a < 5 → ∀ b, b < 5 → a ≠ b → (TX4 a).2.1 ≠ (TX4 b).2.1 := by decide +kernel
theorem tyX4_ok : ∀ k, k < 5 → parseFieldDescriptor (TX4 k).2.2.1 = some (tyX4 k) := by decide +kernel
abbrev cX4_init : ByteArray := prog_6_method_1_code
def yX4_init : MethodName := ⟨RX4, "<init>", "()V"⟩
abbrev cX4_put : ByteArray := prog_6_method_2_code
def yX4_put : MethodName := ⟨RX4, "put", "(I)V"⟩
abbrev cX4_readInto : ByteArray := prog_6_method_3_code
def yX4_readInto : MethodName := ⟨RX4, "readInto", "(LChannelSpacer$Desk;)I"⟩
abbrev cX4_readItem : ByteArray := prog_6_method_4_code
def yX4_readItem : MethodName := ⟨RX4, "readItem", "(LChannelSpacer$Desk;)V"⟩
abbrev cX4_readCarrier : ByteArray := prog_6_method_5_code
def yX4_readCarrier : MethodName := ⟨RX4, "readCarrier", "(LChannelSpacer$Desk;)V"⟩
abbrev cX4_readMixer : ByteArray := prog_6_method_6_code
def yX4_readMixer : MethodName := ⟨RX4, "readMixer", "(LChannelSpacer$Desk;)V"⟩
abbrev cX4_readMember : ByteArray := prog_6_method_7_code
def yX4_readMember : MethodName := ⟨RX4, "readMember", "(LChannelSpacer$Desk;I)I"⟩
abbrev cX4_readNumber : ByteArray := prog_6_method_8_code
def yX4_readNumber : MethodName := ⟨RX4, "readNumber", "()I"⟩
abbrev cX4_refuseNumberIf : ByteArray := prog_6_method_9_code
def yX4_refuseNumberIf : MethodName := ⟨RX4, "refuseNumberIf", "(Z)V"⟩
abbrev cX4_expect : ByteArray := prog_6_method_10_code
def yX4_expect : MethodName := ⟨RX4, "expect", "(I)V"⟩
abbrev cX4_isDigit : ByteArray := prog_6_method_11_code
def yX4_isDigit : MethodName := ⟨RX4, "isDigit", "(I)Z"⟩
abbrev cX4_byteAt : ByteArray := prog_6_method_12_code
def yX4_byteAt : MethodName := ⟨RX4, "byteAt", "(I)I"⟩
def RX5 : String := "ChannelSpacer"
def TX5 : u_T := fun k => match k with
  | 0 => ("ChannelSpacer", "desk", "LChannelSpacer$Desk;", true)
  | 1 => ("ChannelSpacer", "draft", "LChannelSpacer$Desk;", true)
  | 2 => ("ChannelSpacer", "history", "LChannelSpacer$History;", true)
  | 3 => ("ChannelSpacer", "mix", "LChannelSpacer$Mix;", true)
  | 4 => ("ChannelSpacer", "cleanSet", "LChannelSpacer$CleanSet;", true)
  | 5 => ("ChannelSpacer", "plan", "LChannelSpacer$PlanText;", true)
  | _ => ("ChannelSpacer", "mixed", "[J", true)
def tyX5 : Nat → FieldType := fun k => match k with
  | 0 => .object "ChannelSpacer$Desk"
  | 1 => .object "ChannelSpacer$Desk"
  | 2 => .object "ChannelSpacer$History"
  | 3 => .object "ChannelSpacer$Mix"
  | 4 => .object "ChannelSpacer$CleanSet"
  | 5 => .object "ChannelSpacer$PlanText"
  | _ => .array .long
abbrev wsX50 : List Cond := u_ws RX5 TX5 7
theorem nmX5 : ∀ a, a < 7 → ∀ b, b < 7 → a ≠ b → (TX5 a).2.1 ≠ (TX5 b).2.1 := by decide +kernel
theorem tyX5_ok : ∀ k, k < 7 → parseFieldDescriptor (TX5 k).2.2.1 = some (tyX5 k) := by decide +kernel
abbrev cX5_init : ByteArray := prog_1_method_1_code
def yX5_init : MethodName := ⟨RX5, "<init>", "()V"⟩
abbrev cX5_addCarrier : ByteArray := prog_1_method_2_code
def yX5_addCarrier : MethodName := ⟨RX5, "addCarrier", "(II)I"⟩
abbrev cX5_moveCarrier : ByteArray := prog_1_method_3_code
def yX5_moveCarrier : MethodName := ⟨RX5, "moveCarrier", "(III)I"⟩
abbrev cX5_removeCarrier : ByteArray := prog_1_method_4_code
def yX5_removeCarrier : MethodName := ⟨RX5, "removeCarrier", "(I)I"⟩
abbrev cX5_shift : ByteArray := prog_1_method_5_code
def yX5_shift : MethodName := ⟨RX5, "shift", "(I)I"⟩
abbrev cX5_setProducts : ByteArray := prog_1_method_6_code
def yX5_setProducts : MethodName := ⟨RX5, "setProducts", "(III)I"⟩
abbrev cX5_setSpacing : ByteArray := prog_1_method_7_code
def yX5_setSpacing : MethodName := ⟨RX5, "setSpacing", "(II)I"⟩
abbrev cX5_size : ByteArray := prog_1_method_8_code
def yX5_size : MethodName := ⟨RX5, "size", "(I)I"⟩
abbrev cX5_carrier : ByteArray := prog_1_method_9_code
def yX5_carrier : MethodName := ⟨RX5, "carrier", "(IZ)I"⟩
abbrev cX5_channels : ByteArray := prog_1_method_10_code
def yX5_channels : MethodName := ⟨RX5, "channels", "()J"⟩
abbrev cX5_products : ByteArray := prog_1_method_11_code
def yX5_products : MethodName := ⟨RX5, "products", "()I"⟩
abbrev cX5_product : ByteArray := prog_1_method_12_code
def yX5_product : MethodName := ⟨RX5, "product", "(II)I"⟩
abbrev cX5_fallout : ByteArray := prog_1_method_13_code
def yX5_fallout : MethodName := ⟨RX5, "fallout", "(I)J"⟩
abbrev cX5_hits : ByteArray := prog_1_method_14_code
def yX5_hits : MethodName := ⟨RX5, "hits", "()I"⟩
abbrev cX5_hitsOn : ByteArray := prog_1_method_15_code
def yX5_hitsOn : MethodName := ⟨RX5, "hitsOn", "(I)I"⟩
abbrev cX5_isClean : ByteArray := prog_1_method_16_code
def yX5_isClean : MethodName := ⟨RX5, "isClean", "()Z"⟩
abbrev cX5_closest : ByteArray := prog_1_method_17_code
def yX5_closest : MethodName := ⟨RX5, "closest", "()I"⟩
abbrev cX5_removal : ByteArray := prog_1_method_18_code
def yX5_removal : MethodName := ⟨RX5, "removal", "()I"⟩
abbrev cX5_leastSpan : ByteArray := prog_1_method_19_code
def yX5_leastSpan : MethodName := ⟨RX5, "leastSpan", "(I)I"⟩
abbrev cX5_bestRuler : ByteArray := prog_1_method_20_code
def yX5_bestRuler : MethodName := ⟨RX5, "bestRuler", "(I)J"⟩
abbrev cX5_rulers : ByteArray := prog_1_method_21_code
def yX5_rulers : MethodName := ⟨RX5, "rulers", "(II)I"⟩
abbrev cX5_openings : ByteArray := prog_1_method_22_code
def yX5_openings : MethodName := ⟨RX5, "openings", "(I)J"⟩
abbrev cX5_putIn : ByteArray := prog_1_method_23_code
def yX5_putIn : MethodName := ⟨RX5, "putIn", "(I)I"⟩
abbrev cX5_addMixer : ByteArray := prog_1_method_24_code
def yX5_addMixer : MethodName := ⟨RX5, "addMixer", "(I)I"⟩
abbrev cX5_setMember : ByteArray := prog_1_method_25_code
def yX5_setMember : MethodName := ⟨RX5, "setMember", "(IIZ)I"⟩
abbrev cX5_mixer : ByteArray := prog_1_method_26_code
def yX5_mixer : MethodName := ⟨RX5, "mixer", "(I)I"⟩
abbrev cX5_addTest : ByteArray := prog_1_method_27_code
def yX5_addTest : MethodName := ⟨RX5, "addTest", "(IIZ)I"⟩
abbrev cX5_test : ByteArray := prog_1_method_28_code
def yX5_test : MethodName := ⟨RX5, "test", "(II)I"⟩
abbrev cX5_heard : ByteArray := prog_1_method_29_code
def yX5_heard : MethodName := ⟨RX5, "heard", "(II)I"⟩
abbrev cX5_diagnoses : ByteArray := prog_1_method_30_code
def yX5_diagnoses : MethodName := ⟨RX5, "diagnoses", "()I"⟩
abbrev cX5_diagnosis : ByteArray := prog_1_method_31_code
def yX5_diagnosis : MethodName := ⟨RX5, "diagnosis", "()I"⟩
abbrev cX5_certain : ByteArray := prog_1_method_32_code
def yX5_certain : MethodName := ⟨RX5, "certain", "(Z)I"⟩
abbrev cX5_bestTest : ByteArray := prog_1_method_33_code
def yX5_bestTest : MethodName := ⟨RX5, "bestTest", "(I)I"⟩
abbrev cX5_append : ByteArray := prog_1_method_34_code
def yX5_append : MethodName := ⟨RX5, "append", "(I)I"⟩
abbrev cX5_clearText : ByteArray := prog_1_method_35_code
def yX5_clearText : MethodName := ⟨RX5, "clearText", "()I"⟩
abbrev cX5_parse : ByteArray := prog_1_method_36_code
def yX5_parse : MethodName := ⟨RX5, "parse", "()I"⟩
abbrev cX5_undo : ByteArray := prog_1_method_37_code
def yX5_undo : MethodName := ⟨RX5, "undo", "()I"⟩
abbrev cX5_digest : ByteArray := prog_1_method_38_code
def yX5_digest : MethodName := ⟨RX5, "digest", "()J"⟩
abbrev cX5_isWithin : ByteArray := prog_1_method_39_code
def yX5_isWithin : MethodName := ⟨RX5, "isWithin", "(III)Z"⟩
abbrev cX5_isChannel : ByteArray := prog_1_method_40_code
def yX5_isChannel : MethodName := ⟨RX5, "isChannel", "(I)Z"⟩
abbrev cX5_isLevel : ByteArray := prog_1_method_41_code
def yX5_isLevel : MethodName := ⟨RX5, "isLevel", "(I)Z"⟩
abbrev cX5_isIn : ByteArray := prog_1_method_42_code
def yX5_isIn : MethodName := ⟨RX5, "isIn", "(IJ)Z"⟩
abbrev cX5_needChannel : ByteArray := prog_1_method_43_code
def yX5_needChannel : MethodName := ⟨RX5, "needChannel", "(I)V"⟩
abbrev cX5_needLevel : ByteArray := prog_1_method_44_code
def yX5_needLevel : MethodName := ⟨RX5, "needLevel", "(I)V"⟩
abbrev cX5_needMarks : ByteArray := prog_1_method_45_code
def yX5_needMarks : MethodName := ⟨RX5, "needMarks", "(II)V"⟩
abbrev cX5_needRoomForCarrier : ByteArray := prog_1_method_46_code
def yX5_needRoomForCarrier : MethodName := ⟨RX5, "needRoomForCarrier", "()V"⟩
abbrev cX5_needCarrier : ByteArray := prog_1_method_47_code
def yX5_needCarrier : MethodName := ⟨RX5, "needCarrier", "(I)V"⟩
abbrev cX5_needMixer : ByteArray := prog_1_method_48_code
def yX5_needMixer : MethodName := ⟨RX5, "needMixer", "(I)V"⟩
abbrev cX5_needSetOfCarriers : ByteArray := prog_1_method_49_code
def yX5_needSetOfCarriers : MethodName := ⟨RX5, "needSetOfCarriers", "(I)V"⟩
abbrev cX5_lowestOf : ByteArray := prog_1_method_50_code
def yX5_lowestOf : MethodName := ⟨RX5, "lowestOf", "(J)I"⟩
abbrev cX5_falloutOf : ByteArray := prog_1_method_51_code
def yX5_falloutOf : MethodName := ⟨RX5, "falloutOf", "(I)J"⟩
abbrev cX5_standsClean : ByteArray := prog_1_method_52_code
def yX5_standsClean : MethodName := ⟨RX5, "standsClean", "(I)Z"⟩
abbrev cX5_openChannels : ByteArray := prog_1_method_53_code
def yX5_openChannels : MethodName := ⟨RX5, "openChannels", "(I)J"⟩
abbrev cX5_findBestRuler : ByteArray := prog_1_method_54_code
def yX5_findBestRuler : MethodName := ⟨RX5, "findBestRuler", "(I)I"⟩
abbrev cX5_countRulers : ByteArray := prog_1_method_55_code
def yX5_countRulers : MethodName := ⟨RX5, "countRulers", "(III)I"⟩
abbrev cX5_countInner : ByteArray := prog_1_method_56_code
def yX5_countInner : MethodName := ⟨RX5, "countInner", "(LChannelSpacer$CleanSet;IIII)I"⟩
abbrev cX5_mixActive : ByteArray := prog_1_method_57_code
def yX5_mixActive : MethodName := ⟨RX5, "mixActive", "(I)V"⟩
abbrev cX5_mixersOn : ByteArray := prog_1_method_58_code
def yX5_mixersOn : MethodName := ⟨RX5, "mixersOn", "(I)I"⟩
abbrev cX5_countDiagnoses : ByteArray := prog_1_method_59_code
def yX5_countDiagnoses : MethodName := ⟨RX5, "countDiagnoses", "()I"⟩
abbrev cX5_countHeard : ByteArray := prog_1_method_60_code
def yX5_countHeard : MethodName := ⟨RX5, "countHeard", "(I)I"⟩
def RX6 : String := "ChannelSpacerModel"
def TX6 : u_T := fun k => match k with
  | 0 => ("ChannelSpacerModel", "m", "[I", true)
  | 1 => ("ChannelSpacerModel", "saved", "[I", true)
  | 2 => ("ChannelSpacerModel", "savedCount", "I", false)
  | 3 => ("ChannelSpacerModel", "text", "[I", true)
  | 4 => ("ChannelSpacerModel", "textLength", "I", false)
  | 5 => ("ChannelSpacerModel", "code", "I", false)
  | 6 => ("ChannelSpacerModel", "rowChannel", "[I", true)
  | 7 => ("ChannelSpacerModel", "rowLevel", "[I", true)
  | 8 => ("ChannelSpacerModel", "list", "[I", true)
  | 9 => ("ChannelSpacerModel", "listed", "I", false)
  | 10 => ("ChannelSpacerModel", "next", "[I", true)
  | 11 => ("ChannelSpacerModel", "firstRuler", "J", false)
  | 12 => ("ChannelSpacerModel", "heardIn", "[I", true)
  | 13 => ("ChannelSpacerModel", "fitting", "[I", true)
  | 14 => ("ChannelSpacerModel", "fits", "I", false)
  | 15 => ("ChannelSpacerModel", "at", "I", false)
  | 16 => ("ChannelSpacerModel", "number", "I", false)
  | 17 => ("ChannelSpacerModel", "draft", "[I", true)
  | 18 => ("ChannelSpacerModel", "draftCarriers", "I", false)
  | 19 => ("ChannelSpacerModel", "draftMixer", "[I", true)
  | 20 => ("ChannelSpacerModel", "draftMixers", "I", false)
  | 21 => ("ChannelSpacerModel", "began", "I", false)
  | _ => ("ChannelSpacerModel", "hash", "J", false)
def tyX6 : Nat → FieldType := fun k => match k with
  | 0 => .array .int
  | 1 => .array .int
  | 2 => .int
  | 3 => .array .int
  | 4 => .int
  | 5 => .int
  | 6 => .array .int
  | 7 => .array .int
  | 8 => .array .int
  | 9 => .int
  | 10 => .array .int
  | 11 => .long
  | 12 => .array .int
  | 13 => .array .int
  | 14 => .int
  | 15 => .int
  | 16 => .int
  | 17 => .array .int
  | 18 => .int
  | 19 => .array .int
  | 20 => .int
  | 21 => .int
  | _ => .long
abbrev wsX60 : List Cond := u_ws RX6 TX6 23
theorem nmX6 : ∀ a, a < 23 → ∀ b, b < 23 → a ≠ b → (TX6 a).2.1 ≠ (TX6 b).2.1 := by decide +kernel
theorem tyX6_ok : ∀ k, k < 23 → parseFieldDescriptor (TX6 k).2.2.1 = some (tyX6 k) := by decide +kernel
abbrev cX6_init : ByteArray := prog_8_method_1_code
def yX6_init : MethodName := ⟨RX6, "<init>", "()V"⟩
abbrev cX6_thrown : ByteArray := prog_8_method_2_code
def yX6_thrown : MethodName := ⟨RX6, "thrown", "()I"⟩
abbrev cX6_in : ByteArray := prog_8_method_3_code
def yX6_in : MethodName := ⟨RX6, "in", "(III)Z"⟩
abbrev cX6_keep : ByteArray := prog_8_method_4_code
def yX6_keep : MethodName := ⟨RX6, "keep", "()V"⟩
abbrev cX6_change : ByteArray := prog_8_method_5_code
def yX6_change : MethodName := ⟨RX6, "change", "()V"⟩
abbrev cX6_has : ByteArray := prog_8_method_6_code
def yX6_has : MethodName := ⟨RX6, "has", "(II)Z"⟩
abbrev cX6_bits : ByteArray := prog_8_method_7_code
def yX6_bits : MethodName := ⟨RX6, "bits", "(I)I"⟩
abbrev cX6_channelOf : ByteArray := prog_8_method_8_code
def yX6_channelOf : MethodName := ⟨RX6, "channelOf", "(I)I"⟩
abbrev cX6_levelOf : ByteArray := prog_8_method_9_code
def yX6_levelOf : MethodName := ⟨RX6, "levelOf", "(I)I"⟩
abbrev cX6_isCarrier : ByteArray := prog_8_method_10_code
def yX6_isCarrier : MethodName := ⟨RX6, "isCarrier", "(I)Z"⟩
abbrev cX6_isSet : ByteArray := prog_8_method_11_code
def yX6_isSet : MethodName := ⟨RX6, "isSet", "(I)Z"⟩
abbrev cX6_isChannel : ByteArray := prog_8_method_12_code
def yX6_isChannel : MethodName := ⟨RX6, "isChannel", "(I)Z"⟩
abbrev cX6_isTaken : ByteArray := prog_8_method_13_code
def yX6_isTaken : MethodName := ⟨RX6, "isTaken", "(II)Z"⟩
abbrev cX6_lay : ByteArray := prog_8_method_14_code
def yX6_lay : MethodName := ⟨RX6, "lay", "(III)V"⟩
abbrev cX6_isFit : ByteArray := prog_8_method_15_code
def yX6_isFit : MethodName := ⟨RX6, "isFit", "(III)Z"⟩
abbrev cX6_addCarrier : ByteArray := prog_8_method_16_code
def yX6_addCarrier : MethodName := ⟨RX6, "addCarrier", "(II)I"⟩
abbrev cX6_moveCarrier : ByteArray := prog_8_method_17_code
def yX6_moveCarrier : MethodName := ⟨RX6, "moveCarrier", "(III)I"⟩
abbrev cX6_removeCarrier : ByteArray := prog_8_method_18_code
def yX6_removeCarrier : MethodName := ⟨RX6, "removeCarrier", "(I)I"⟩
abbrev cX6_shift : ByteArray := prog_8_method_19_code
def yX6_shift : MethodName := ⟨RX6, "shift", "(I)I"⟩
abbrev cX6_setProducts : ByteArray := prog_8_method_20_code
def yX6_setProducts : MethodName := ⟨RX6, "setProducts", "(III)I"⟩
abbrev cX6_setSpacing : ByteArray := prog_8_method_21_code
def yX6_setSpacing : MethodName := ⟨RX6, "setSpacing", "(II)I"⟩
abbrev cX6_size : ByteArray := prog_8_method_22_code
def yX6_size : MethodName := ⟨RX6, "size", "(I)I"⟩
abbrev cX6_carrier : ByteArray := prog_8_method_23_code
def yX6_carrier : MethodName := ⟨RX6, "carrier", "(IZ)I"⟩
abbrev cX6_channels : ByteArray := prog_8_method_24_code
def yX6_channels : MethodName := ⟨RX6, "channels", "()J"⟩
abbrev cX6_falls : ByteArray := prog_8_method_25_code
def yX6_falls : MethodName := ⟨RX6, "falls", "(IIII)I"⟩
abbrev cX6_level : ByteArray := prog_8_method_26_code
def yX6_level : MethodName := ⟨RX6, "level", "(IIII)I"⟩
abbrev cX6_lists : ByteArray := prog_8_method_27_code
def yX6_lists : MethodName := ⟨RX6, "lists", "(IIII)V"⟩
abbrev cX6_rowsOfAll : ByteArray := prog_8_method_28_code
def yX6_rowsOfAll : MethodName := ⟨RX6, "rowsOfAll", "()V"⟩
abbrev cX6_listAll : ByteArray := prog_8_method_29_code
def yX6_listAll : MethodName := ⟨RX6, "listAll", "(I)V"⟩
abbrev cX6_all : ByteArray := prog_8_method_30_code
def yX6_all : MethodName := ⟨RX6, "all", "()I"⟩
abbrev cX6_products : ByteArray := prog_8_method_31_code
def yX6_products : MethodName := ⟨RX6, "products", "()I"⟩
abbrev cX6_product : ByteArray := prog_8_method_32_code
def yX6_product : MethodName := ⟨RX6, "product", "(II)I"⟩
abbrev cX6_falloutOf : ByteArray := prog_8_method_33_code
def yX6_falloutOf : MethodName := ⟨RX6, "falloutOf", "(I)J"⟩
abbrev cX6_fallout : ByteArray := prog_8_method_34_code
def yX6_fallout : MethodName := ⟨RX6, "fallout", "(I)J"⟩
abbrev cX6_isNear : ByteArray := prog_8_method_35_code
def yX6_isNear : MethodName := ⟨RX6, "isNear", "(II)Z"⟩
abbrev cX6_hitsAt : ByteArray := prog_8_method_36_code
def yX6_hitsAt : MethodName := ⟨RX6, "hitsAt", "(I)I"⟩
abbrev cX6_hitsAll : ByteArray := prog_8_method_37_code
def yX6_hitsAll : MethodName := ⟨RX6, "hitsAll", "()I"⟩
abbrev cX6_hits : ByteArray := prog_8_method_38_code
def yX6_hits : MethodName := ⟨RX6, "hits", "()I"⟩
abbrev cX6_hitsOn : ByteArray := prog_8_method_39_code
def yX6_hitsOn : MethodName := ⟨RX6, "hitsOn", "(I)I"⟩
abbrev cX6_hitsRow : ByteArray := prog_8_method_40_code
def yX6_hitsRow : MethodName := ⟨RX6, "hitsRow", "(II)Z"⟩
abbrev cX6_isRowClean : ByteArray := prog_8_method_41_code
def yX6_isRowClean : MethodName := ⟨RX6, "isRowClean", "(I)Z"⟩
abbrev cX6_isClean : ByteArray := prog_8_method_42_code
def yX6_isClean : MethodName := ⟨RX6, "isClean", "()Z"⟩
abbrev cX6_closest : ByteArray := prog_8_method_43_code
def yX6_closest : MethodName := ⟨RX6, "closest", "()I"⟩
abbrev cX6_isCleanWithout : ByteArray := prog_8_method_44_code
def yX6_isCleanWithout : MethodName := ⟨RX6, "isCleanWithout", "(I)Z"⟩
abbrev cX6_removal : ByteArray := prog_8_method_45_code
def yX6_removal : MethodName := ⟨RX6, "removal", "()I"⟩
abbrev cX6_seek : ByteArray := prog_8_method_46_code
def yX6_seek : MethodName := ⟨RX6, "seek", "(IIZ)I"⟩
abbrev cX6_laysFirst : ByteArray := prog_8_method_47_code
def yX6_laysFirst : MethodName := ⟨RX6, "laysFirst", "(I)V"⟩
abbrev cX6_least : ByteArray := prog_8_method_48_code
def yX6_least : MethodName := ⟨RX6, "least", "(I)I"⟩
abbrev cX6_leastSpan : ByteArray := prog_8_method_49_code
def yX6_leastSpan : MethodName := ⟨RX6, "leastSpan", "(I)I"⟩
abbrev cX6_bestRuler : ByteArray := prog_8_method_50_code
def yX6_bestRuler : MethodName := ⟨RX6, "bestRuler", "(I)J"⟩
abbrev cX6_rulers : ByteArray := prog_8_method_51_code
def yX6_rulers : MethodName := ⟨RX6, "rulers", "(II)I"⟩
abbrev cX6_openingsFor : ByteArray := prog_8_method_52_code
def yX6_openingsFor : MethodName := ⟨RX6, "openingsFor", "(I)J"⟩
abbrev cX6_openings : ByteArray := prog_8_method_53_code
def yX6_openings : MethodName := ⟨RX6, "openings", "(I)J"⟩
abbrev cX6_putIn : ByteArray := prog_8_method_54_code
def yX6_putIn : MethodName := ⟨RX6, "putIn", "(I)I"⟩
abbrev cX6_isMixer : ByteArray := prog_8_method_55_code
def yX6_isMixer : MethodName := ⟨RX6, "isMixer", "(I)Z"⟩
abbrev cX6_addMixer : ByteArray := prog_8_method_56_code
def yX6_addMixer : MethodName := ⟨RX6, "addMixer", "(I)I"⟩
abbrev cX6_setMember : ByteArray := prog_8_method_57_code
def yX6_setMember : MethodName := ⟨RX6, "setMember", "(IIZ)I"⟩
abbrev cX6_mixer : ByteArray := prog_8_method_58_code
def yX6_mixer : MethodName := ⟨RX6, "mixer", "(I)I"⟩
abbrev cX6_heardBy : ByteArray := prog_8_method_59_code
def yX6_heardBy : MethodName := ⟨RX6, "heardBy", "(II)I"⟩
abbrev cX6_diagnose : ByteArray := prog_8_method_60_code
def yX6_diagnose : MethodName := ⟨RX6, "diagnose", "()V"⟩
abbrev cX6_addTest : ByteArray := prog_8_method_61_code
def yX6_addTest : MethodName := ⟨RX6, "addTest", "(IIZ)I"⟩
abbrev cX6_test : ByteArray := prog_8_method_62_code
def yX6_test : MethodName := ⟨RX6, "test", "(II)I"⟩
abbrev cX6_heard : ByteArray := prog_8_method_63_code
def yX6_heard : MethodName := ⟨RX6, "heard", "(II)I"⟩
abbrev cX6_diagnoses : ByteArray := prog_8_method_64_code
def yX6_diagnoses : MethodName := ⟨RX6, "diagnoses", "()I"⟩
abbrev cX6_best : ByteArray := prog_8_method_65_code
def yX6_best : MethodName := ⟨RX6, "best", "()I"⟩
abbrev cX6_diagnosis : ByteArray := prog_8_method_66_code
def yX6_diagnosis : MethodName := ⟨RX6, "diagnosis", "()I"⟩
abbrev cX6_certain : ByteArray := prog_8_method_67_code
def yX6_certain : MethodName := ⟨RX6, "certain", "(Z)I"⟩
abbrev cX6_bestTest : ByteArray := prog_8_method_68_code
def yX6_bestTest : MethodName := ⟨RX6, "bestTest", "(I)I"⟩
abbrev cX6_append : ByteArray := prog_8_method_69_code
def yX6_append : MethodName := ⟨RX6, "append", "(I)I"⟩
abbrev cX6_clearText : ByteArray := prog_8_method_70_code
def yX6_clearText : MethodName := ⟨RX6, "clearText", "()I"⟩
abbrev cX6_here : ByteArray := prog_8_method_71_code
def yX6_here : MethodName := ⟨RX6, "here", "()I"⟩
abbrev cX6_takes : ByteArray := prog_8_method_72_code
def yX6_takes : MethodName := ⟨RX6, "takes", "(I)Z"⟩
abbrev cX6_readNumber : ByteArray := prog_8_method_73_code
def yX6_readNumber : MethodName := ⟨RX6, "readNumber", "()Z"⟩
abbrev cX6_refuse : ByteArray := prog_8_method_74_code
def yX6_refuse : MethodName := ⟨RX6, "refuse", "(Z)Z"⟩
abbrev cX6_readCarrier : ByteArray := prog_8_method_75_code
def yX6_readCarrier : MethodName := ⟨RX6, "readCarrier", "()Z"⟩
abbrev cX6_readMixer : ByteArray := prog_8_method_76_code
def yX6_readMixer : MethodName := ⟨RX6, "readMixer", "()Z"⟩
abbrev cX6_readAll : ByteArray := prog_8_method_77_code
def yX6_readAll : MethodName := ⟨RX6, "readAll", "()I"⟩
abbrev cX6_parse : ByteArray := prog_8_method_78_code
def yX6_parse : MethodName := ⟨RX6, "parse", "()I"⟩
abbrev cX6_undo : ByteArray := prog_8_method_79_code
def yX6_undo : MethodName := ⟨RX6, "undo", "()I"⟩
abbrev cX6_mix : ByteArray := prog_8_method_80_code
def yX6_mix : MethodName := ⟨RX6, "mix", "(J)V"⟩
abbrev cX6_digest : ByteArray := prog_8_method_81_code
def yX6_digest : MethodName := ⟨RX6, "digest", "()J"⟩
def RJ6 : String := "java/lang/Integer"
def TJ6 : u_T := fun k => match k with
  | _ => ("", "", "", false)
def tyJ6 : Nat → FieldType := fun k => match k with
  | _ => .int
abbrev wsJ60 : List Cond := u_ws RJ6 TJ6 0
theorem nmJ6 : ∀ a, a < 0 → ∀ b, b < 0 → a ≠ b → (TJ6 a).2.1 ≠ (TJ6 b).2.1 := by decide +kernel
theorem tyJ6_ok : ∀ k, k < 0 → parseFieldDescriptor (TJ6 k).2.2.1 = some (tyJ6 k) := by decide +kernel
abbrev cJ6_bitCount_0f7a4 : ByteArray := prog_13_method_49_code
def yJ6_bitCount_0f7a4 : MethodName := ⟨RJ6, "bitCount", "(I)I"⟩
def RJ9 : String := "java/lang/Math"
def TJ9 : u_T := fun k => match k with
  | _ => ("", "", "", false)
def tyJ9 : Nat → FieldType := fun k => match k with
  | _ => .int
abbrev wsJ90 : List Cond := u_ws RJ9 TJ9 0
theorem nmJ9 : ∀ a, a < 0 → ∀ b, b < 0 → a ≠ b → (TJ9 a).2.1 ≠ (TJ9 b).2.1 := by decide +kernel
theorem tyJ9_ok : ∀ k, k < 0 → parseFieldDescriptor (TJ9 k).2.2.1 = some (tyJ9 k) := by decide +kernel
abbrev cJ9_abs_0f7a4 : ByteArray := prog_14_method_59_code
def yJ9_abs_0f7a4 : MethodName := ⟨RJ9, "abs", "(I)I"⟩
abbrev cJ9_max_7cf53 : ByteArray := prog_14_method_65_code
def yJ9_max_7cf53 : MethodName := ⟨RJ9, "max", "(II)I"⟩
abbrev cJ9_min_7cf53 : ByteArray := prog_14_method_69_code
def yJ9_min_7cf53 : MethodName := ⟨RJ9, "min", "(II)I"⟩
def RJ0 : String := "java/lang/String"
def TJ0 : u_T := fun k => match k with
  | _ => ("", "", "", false)
def tyJ0 : Nat → FieldType := fun k => match k with
  | _ => .int
abbrev wsJ00 : List Cond := u_ws RJ0 TJ0 0
theorem nmJ0 : ∀ a, a < 0 → ∀ b, b < 0 → a ≠ b → (TJ0 a).2.1 ≠ (TJ0 b).2.1 := by decide +kernel
theorem tyJ0_ok : ∀ k, k < 0 → parseFieldDescriptor (TJ0 k).2.2.1 = some (tyJ0 k) := by decide +kernel
def RJ10 : String := "java/lang/System"
def TJ10 : u_T := fun k => match k with
  | _ => ("", "", "", false)
def tyJ10 : Nat → FieldType := fun k => match k with
  | _ => .int
abbrev wsJ100 : List Cond := u_ws RJ10 TJ10 0
theorem nmJ10 : ∀ a, a < 0 → ∀ b, b < 0 → a ≠ b → (TJ10 a).2.1 ≠ (TJ10 b).2.1 := by decide +kernel
theorem tyJ10_ok : ∀ k, k < 0 → parseFieldDescriptor (TJ10 k).2.2.1 = some (tyJ10 k) := by decide +kernel
def RL : String := "ChannelSpacerLaw"
abbrev cL_addCarrier : ByteArray := method_3_code
def yL_addCarrier : MethodName := ⟨RL, "addCarrier", "(LChannelSpacer;II[J)I"⟩
abbrev cL_moveCarrier : ByteArray := method_4_code
def yL_moveCarrier : MethodName := ⟨RL, "moveCarrier", "(LChannelSpacer;III[J)I"⟩
abbrev cL_removeCarrier : ByteArray := method_5_code
def yL_removeCarrier : MethodName := ⟨RL, "removeCarrier", "(LChannelSpacer;I[J)I"⟩
abbrev cL_shift : ByteArray := method_6_code
def yL_shift : MethodName := ⟨RL, "shift", "(LChannelSpacer;I[J)I"⟩
abbrev cL_setProducts : ByteArray := method_7_code
def yL_setProducts : MethodName := ⟨RL, "setProducts", "(LChannelSpacer;III[J)I"⟩
abbrev cL_setSpacing : ByteArray := method_8_code
def yL_setSpacing : MethodName := ⟨RL, "setSpacing", "(LChannelSpacer;II[J)I"⟩
abbrev cL_size : ByteArray := method_9_code
def yL_size : MethodName := ⟨RL, "size", "(LChannelSpacer;I[J)I"⟩
abbrev cL_carrier : ByteArray := method_10_code
def yL_carrier : MethodName := ⟨RL, "carrier", "(LChannelSpacer;IZ[J)I"⟩
abbrev cL_product : ByteArray := method_11_code
def yL_product : MethodName := ⟨RL, "product", "(LChannelSpacer;II[J)I"⟩
abbrev cL_fallout : ByteArray := method_12_code
def yL_fallout : MethodName := ⟨RL, "fallout", "(LChannelSpacer;I[J)I"⟩
abbrev cL_hitsOn : ByteArray := method_13_code
def yL_hitsOn : MethodName := ⟨RL, "hitsOn", "(LChannelSpacer;I[J)I"⟩
abbrev cL_leastSpan : ByteArray := method_14_code
def yL_leastSpan : MethodName := ⟨RL, "leastSpan", "(LChannelSpacer;I[J)I"⟩
abbrev cL_bestRuler : ByteArray := method_15_code
def yL_bestRuler : MethodName := ⟨RL, "bestRuler", "(LChannelSpacer;I[J)I"⟩
abbrev cL_rulers : ByteArray := method_16_code
def yL_rulers : MethodName := ⟨RL, "rulers", "(LChannelSpacer;II[J)I"⟩
abbrev cL_openings : ByteArray := method_17_code
def yL_openings : MethodName := ⟨RL, "openings", "(LChannelSpacer;I[J)I"⟩
abbrev cL_putIn : ByteArray := method_18_code
def yL_putIn : MethodName := ⟨RL, "putIn", "(LChannelSpacer;I[J)I"⟩
abbrev cL_addMixer : ByteArray := method_19_code
def yL_addMixer : MethodName := ⟨RL, "addMixer", "(LChannelSpacer;I[J)I"⟩
abbrev cL_setMember : ByteArray := method_20_code
def yL_setMember : MethodName := ⟨RL, "setMember", "(LChannelSpacer;IIZ[J)I"⟩
abbrev cL_mixer : ByteArray := method_21_code
def yL_mixer : MethodName := ⟨RL, "mixer", "(LChannelSpacer;I[J)I"⟩
abbrev cL_addTest : ByteArray := method_22_code
def yL_addTest : MethodName := ⟨RL, "addTest", "(LChannelSpacer;IIZ[J)I"⟩
abbrev cL_test : ByteArray := method_23_code
def yL_test : MethodName := ⟨RL, "test", "(LChannelSpacer;II[J)I"⟩
abbrev cL_heard : ByteArray := method_24_code
def yL_heard : MethodName := ⟨RL, "heard", "(LChannelSpacer;II[J)I"⟩
abbrev cL_bestTest : ByteArray := method_25_code
def yL_bestTest : MethodName := ⟨RL, "bestTest", "(LChannelSpacer;I[J)I"⟩
abbrev cL_append : ByteArray := method_26_code
def yL_append : MethodName := ⟨RL, "append", "(LChannelSpacer;I[J)I"⟩
abbrev cL_undo : ByteArray := method_27_code
def yL_undo : MethodName := ⟨RL, "undo", "(LChannelSpacer;[J)I"⟩
abbrev cL_law : ByteArray := code
def yL_law : MethodName := ⟨RL, "law", "([I)Z"⟩
abbrev vwCl : List vw_C := [(RX0, TX0, 10), (RX1, TX1, 15), (RX2, TX2, 3), (RX3, TX3, 2), (RX4, TX4, 5), (RX5, TX5, 7), (RX6, TX6, 23)]
end
section
theorem dX0_init_0 : decode cX0_init 0 = .ok (.aload_n 0, 1) := by decide +kernel
theorem dX0_init_1 : decode cX0_init 1 = .ok (.invokespecial 3, 3) := by decide +kernel
theorem dX0_init_4 : decode cX0_init 4 = .ok (.aload_n 0, 1) := by decide +kernel
theorem dX0_init_5 : decode cX0_init 5 = .ok (.bipush 11, 2) := by decide +kernel
theorem dX0_init_7 : decode cX0_init 7 = .ok (.newarray .int, 2) := by decide +kernel
theorem dX0_init_9 : decode cX0_init 9 = .ok (.putfield 11, 3) := by decide +kernel
theorem dX0_init_12 : decode cX0_init 12 = .ok (.aload_n 0, 1) := by decide +kernel
theorem dX0_init_13 : decode cX0_init 13 = .ok (.bipush 11, 2) := by decide +kernel
theorem dX0_init_15 : decode cX0_init 15 = .ok (.newarray .int, 2) := by decide +kernel
theorem dX0_init_17 : decode cX0_init 17 = .ok (.putfield 15, 3) := by decide +kernel
theorem dX0_init_20 : decode cX0_init 20 = .ok (.aload_n 0, 1) := by decide +kernel
theorem dX0_init_21 : decode cX0_init 21 = .ok (.bipush 12, 2) := by decide +kernel
theorem dX0_init_23 : decode cX0_init 23 = .ok (.newarray .long, 2) := by decide +kernel
theorem dX0_init_25 : decode cX0_init 25 = .ok (.putfield 18, 3) := by decide +kernel
theorem dX0_init_28 : decode cX0_init 28 = .ok (.aload_n 0, 1) := by decide +kernel
theorem dX0_init_29 : decode cX0_init 29 = .ok (.bipush 12, 2) := by decide +kernel
theorem dX0_init_31 : decode cX0_init 31 = .ok (.newarray .long, 2) := by decide +kernel
theorem dX0_init_33 : decode cX0_init 33 = .ok (.putfield 22, 3) := by decide +kernel
theorem dX0_init_36 : decode cX0_init 36 = .ok (.return_, 1) := by decide +kernel
theorem dX0_start_0 : decode cX0_start 0 = .ok (.aload_n 0, 1) := by decide +kernel
theorem dX0_start_1 : decode cX0_start 1 = .ok (.iconst 0, 1) := by decide +kernel
theorem dX0_start_2 : decode cX0_start 2 = .ok (.putfield 25, 3) := by decide +kernel
theorem dX0_start_5 : decode cX0_start 5 = .ok (.aload_n 0, 1) := by decide +kernel
theorem dX0_start_6 : decode cX0_start 6 = .ok (.aload_n 1, 1) := by decide +kernel
theorem dX0_start_7 : decode cX0_start 7 = .ok (.getfield 29, 3) := by decide +kernel
theorem dX0_start_10 : decode cX0_start 10 = .ok (.putfield 34, 3) := by decide +kernel
theorem dX0_start_13 : decode cX0_start 13 = .ok (.aload_n 0, 1) := by decide +kernel
theorem dX0_start_14 : decode cX0_start 14 = .ok (.aload_n 1, 1) := by decide +kernel
theorem dX0_start_15 : decode cX0_start 15 = .ok (.getfield 35, 3) := by decide +kernel
theorem dX0_start_18 : decode cX0_start 18 = .ok (.putfield 38, 3) := by decide +kernel
theorem dX0_start_21 : decode cX0_start 21 = .ok (.aload_n 0, 1) := by decide +kernel
theorem dX0_start_22 : decode cX0_start 22 = .ok (.aload_n 1, 1) := by decide +kernel
theorem dX0_start_23 : decode cX0_start 23 = .ok (.getfield 39, 3) := by decide +kernel
theorem dX0_start_26 : decode cX0_start 26 = .ok (.putfield 42, 3) := by decide +kernel
theorem dX0_start_29 : decode cX0_start 29 = .ok (.aload_n 0, 1) := by decide +kernel
theorem dX0_start_30 : decode cX0_start 30 = .ok (.aload_n 1, 1) := by decide +kernel
theorem dX0_start_31 : decode cX0_start 31 = .ok (.getfield 43, 3) := by decide +kernel
theorem dX0_start_34 : decode cX0_start 34 = .ok (.putfield 46, 3) := by decide +kernel
theorem dX0_start_37 : decode cX0_start 37 = .ok (.aload_n 0, 1) := by decide +kernel
theorem dX0_start_38 : decode cX0_start 38 = .ok (.aload_n 1, 1) := by decide +kernel
theorem dX0_start_39 : decode cX0_start 39 = .ok (.getfield 47, 3) := by decide +kernel
theorem dX0_start_42 : decode cX0_start 42 = .ok (.putfield 50, 3) := by decide +kernel
theorem dX0_start_45 : decode cX0_start 45 = .ok (.return_, 1) := by decide +kernel
theorem dX0_join_0 : decode cX0_join 0 = .ok (.aload_n 0, 1) := by decide +kernel
theorem dX0_join_1 : decode cX0_join 1 = .ok (.getfield 25, 3) := by decide +kernel
theorem dX0_join_4 : decode cX0_join 4 = .ok (.ifCond .lt 20, 3) := by decide +kernel
theorem dX0_join_7 : decode cX0_join 7 = .ok (.aload_n 0, 1) := by decide +kernel
theorem dX0_join_8 : decode cX0_join 8 = .ok (.getfield 25, 3) := by decide +kernel
theorem dX0_join_11 : decode cX0_join 11 = .ok (.bipush 11, 2) := by decide +kernel
theorem dX0_join_13 : decode cX0_join 13 = .ok (.if_icmp .ge 11, 3) := by decide +kernel
theorem dX0_join_16 : decode cX0_join 16 = .ok (.aload_n 0, 1) := by decide +kernel
theorem dX0_join_17 : decode cX0_join 17 = .ok (.iload_n 1, 1) := by decide +kernel
theorem dX0_join_18 : decode cX0_join 18 = .ok (.invokevirtual 51, 3) := by decide +kernel
theorem dX0_join_21 : decode cX0_join 21 = .ok (.ifCond .eq 5, 3) := by decide +kernel
theorem dX0_join_24 : decode cX0_join 24 = .ok (.iconst 0, 1) := by decide +kernel
theorem dX0_join_25 : decode cX0_join 25 = .ok (.ireturn, 1) := by decide +kernel
theorem dX0_join_26 : decode cX0_join 26 = .ok (.aload_n 0, 1) := by decide +kernel
theorem dX0_join_27 : decode cX0_join 27 = .ok (.getfield 18, 3) := by decide +kernel
theorem dX0_join_30 : decode cX0_join 30 = .ok (.aload_n 0, 1) := by decide +kernel
theorem dX0_join_31 : decode cX0_join 31 = .ok (.getfield 25, 3) := by decide +kernel
theorem dX0_join_34 : decode cX0_join 34 = .ok (.laload, 1) := by decide +kernel
theorem dX0_join_35 : decode cX0_join 35 = .ok (.aload_n 0, 1) := by decide +kernel
theorem dX0_join_36 : decode cX0_join 36 = .ok (.iload_n 1, 1) := by decide +kernel
theorem dX0_join_37 : decode cX0_join 37 = .ok (.invokevirtual 55, 3) := by decide +kernel
theorem dX0_join_40 : decode cX0_join 40 = .ok (.lor, 1) := by decide +kernel
theorem dX0_join_41 : decode cX0_join 41 = .ok (.lstore_n 3, 1) := by decide +kernel
theorem dX0_join_42 : decode cX0_join 42 = .ok (.aload_n 0, 1) := by decide +kernel
theorem dX0_join_43 : decode cX0_join 43 = .ok (.getfield 22, 3) := by decide +kernel
theorem dX0_join_46 : decode cX0_join 46 = .ok (.aload_n 0, 1) := by decide +kernel
theorem dX0_join_47 : decode cX0_join 47 = .ok (.getfield 25, 3) := by decide +kernel
theorem dX0_join_50 : decode cX0_join 50 = .ok (.laload, 1) := by decide +kernel
theorem dX0_join_51 : decode cX0_join 51 = .ok (.aload_n 0, 1) := by decide +kernel
theorem dX0_join_52 : decode cX0_join 52 = .ok (.iload_n 1, 1) := by decide +kernel
theorem dX0_join_53 : decode cX0_join 53 = .ok (.iload_n 2, 1) := by decide +kernel
theorem dX0_join_54 : decode cX0_join 54 = .ok (.invokevirtual 59, 3) := by decide +kernel
theorem dX0_join_57 : decode cX0_join 57 = .ok (.lor, 1) := by decide +kernel
theorem dX0_join_58 : decode cX0_join 58 = .ok (.aload_n 0, 1) := by decide +kernel
theorem dX0_join_59 : decode cX0_join 59 = .ok (.iload_n 1, 1) := by decide +kernel
theorem dX0_join_60 : decode cX0_join 60 = .ok (.iload_n 2, 1) := by decide +kernel
theorem dX0_join_61 : decode cX0_join 61 = .ok (.invokevirtual 63, 3) := by decide +kernel
theorem dX0_join_64 : decode cX0_join 64 = .ok (.lor, 1) := by decide +kernel
theorem dX0_join_65 : decode cX0_join 65 = .ok (.lstore 5, 2) := by decide +kernel
theorem dX0_join_67 : decode cX0_join 67 = .ok (.lload_n 3, 1) := by decide +kernel
theorem dX0_join_68 : decode cX0_join 68 = .ok (.lload 5, 2) := by decide +kernel
theorem dX0_join_70 : decode cX0_join 70 = .ok (.land, 1) := by decide +kernel
theorem dX0_join_71 : decode cX0_join 71 = .ok (.lconst 0, 1) := by decide +kernel
theorem dX0_join_72 : decode cX0_join 72 = .ok (.lcmp, 1) := by decide +kernel
theorem dX0_join_73 : decode cX0_join 73 = .ok (.ifCond .eq 5, 3) := by decide +kernel
theorem dX0_join_76 : decode cX0_join 76 = .ok (.iconst 0, 1) := by decide +kernel
theorem dX0_join_77 : decode cX0_join 77 = .ok (.ireturn, 1) := by decide +kernel
theorem dX0_join_78 : decode cX0_join 78 = .ok (.aload_n 0, 1) := by decide +kernel
theorem dX0_join_79 : decode cX0_join 79 = .ok (.getfield 11, 3) := by decide +kernel
theorem dX0_join_82 : decode cX0_join 82 = .ok (.aload_n 0, 1) := by decide +kernel
theorem dX0_join_83 : decode cX0_join 83 = .ok (.getfield 25, 3) := by decide +kernel
theorem dX0_join_86 : decode cX0_join 86 = .ok (.iload_n 1, 1) := by decide +kernel
theorem dX0_join_87 : decode cX0_join 87 = .ok (.iastore, 1) := by decide +kernel
theorem dX0_join_88 : decode cX0_join 88 = .ok (.aload_n 0, 1) := by decide +kernel
theorem dX0_join_89 : decode cX0_join 89 = .ok (.getfield 15, 3) := by decide +kernel
theorem dX0_join_92 : decode cX0_join 92 = .ok (.aload_n 0, 1) := by decide +kernel
theorem dX0_join_93 : decode cX0_join 93 = .ok (.getfield 25, 3) := by decide +kernel
theorem dX0_join_96 : decode cX0_join 96 = .ok (.iload_n 2, 1) := by decide +kernel
theorem dX0_join_97 : decode cX0_join 97 = .ok (.iastore, 1) := by decide +kernel
theorem dX0_join_98 : decode cX0_join 98 = .ok (.aload_n 0, 1) := by decide +kernel
theorem dX0_join_99 : decode cX0_join 99 = .ok (.dup, 1) := by decide +kernel
theorem dX0_join_100 : decode cX0_join 100 = .ok (.getfield 25, 3) := by decide +kernel
theorem dX0_join_103 : decode cX0_join 103 = .ok (.iconst 1, 1) := by decide +kernel
theorem dX0_join_104 : decode cX0_join 104 = .ok (.iadd, 1) := by decide +kernel
theorem dX0_join_105 : decode cX0_join 105 = .ok (.putfield 25, 3) := by decide +kernel
theorem dX0_join_108 : decode cX0_join 108 = .ok (.aload_n 0, 1) := by decide +kernel
theorem dX0_join_109 : decode cX0_join 109 = .ok (.getfield 18, 3) := by decide +kernel
theorem dX0_join_112 : decode cX0_join 112 = .ok (.aload_n 0, 1) := by decide +kernel
theorem dX0_join_113 : decode cX0_join 113 = .ok (.getfield 25, 3) := by decide +kernel
theorem dX0_join_116 : decode cX0_join 116 = .ok (.lload_n 3, 1) := by decide +kernel
theorem dX0_join_117 : decode cX0_join 117 = .ok (.lastore, 1) := by decide +kernel
theorem dX0_join_118 : decode cX0_join 118 = .ok (.aload_n 0, 1) := by decide +kernel
theorem dX0_join_119 : decode cX0_join 119 = .ok (.getfield 22, 3) := by decide +kernel
theorem dX0_join_122 : decode cX0_join 122 = .ok (.aload_n 0, 1) := by decide +kernel
theorem dX0_join_123 : decode cX0_join 123 = .ok (.getfield 25, 3) := by decide +kernel
theorem dX0_join_126 : decode cX0_join 126 = .ok (.lload 5, 2) := by decide +kernel
theorem dX0_join_128 : decode cX0_join 128 = .ok (.lastore, 1) := by decide +kernel
theorem dX0_join_129 : decode cX0_join 129 = .ok (.iconst 1, 1) := by decide +kernel
theorem dX0_join_130 : decode cX0_join 130 = .ok (.ireturn, 1) := by decide +kernel
theorem dX0_leave_0 : decode cX0_leave 0 = .ok (.aload_n 0, 1) := by decide +kernel
theorem dX0_leave_1 : decode cX0_leave 1 = .ok (.aload_n 0, 1) := by decide +kernel
theorem dX0_leave_2 : decode cX0_leave 2 = .ok (.getfield 25, 3) := by decide +kernel
theorem dX0_leave_5 : decode cX0_leave 5 = .ok (.iconst 1, 1) := by decide +kernel
theorem dX0_leave_6 : decode cX0_leave 6 = .ok (.isub, 1) := by decide +kernel
theorem dX0_leave_7 : decode cX0_leave 7 = .ok (.iconst 0, 1) := by decide +kernel
theorem dX0_leave_8 : decode cX0_leave 8 = .ok (.invokestatic 66, 3) := by decide +kernel
theorem dX0_leave_11 : decode cX0_leave 11 = .ok (.putfield 25, 3) := by decide +kernel
theorem dX0_leave_14 : decode cX0_leave 14 = .ok (.return_, 1) := by decide +kernel
theorem dX0_channelSet_0 : decode cX0_channelSet 0 = .ok (.lconst 0, 1) := by decide +kernel
theorem dX0_channelSet_1 : decode cX0_channelSet 1 = .ok (.lstore_n 1, 1) := by decide +kernel
theorem dX0_channelSet_2 : decode cX0_channelSet 2 = .ok (.iconst 0, 1) := by decide +kernel
theorem dX0_channelSet_3 : decode cX0_channelSet 3 = .ok (.istore_n 3, 1) := by decide +kernel
theorem dX0_channelSet_4 : decode cX0_channelSet 4 = .ok (.iload_n 3, 1) := by decide +kernel
theorem dX0_channelSet_5 : decode cX0_channelSet 5 = .ok (.aload_n 0, 1) := by decide +kernel
theorem dX0_channelSet_6 : decode cX0_channelSet 6 = .ok (.getfield 25, 3) := by decide +kernel
theorem dX0_channelSet_9 : decode cX0_channelSet 9 = .ok (.if_icmp .ge 26, 3) := by decide +kernel
theorem dX0_channelSet_12 : decode cX0_channelSet 12 = .ok (.iload_n 3, 1) := by decide +kernel
theorem dX0_channelSet_13 : decode cX0_channelSet 13 = .ok (.bipush 11, 2) := by decide +kernel
theorem dX0_channelSet_15 : decode cX0_channelSet 15 = .ok (.if_icmp .ge 20, 3) := by decide +kernel
theorem dX0_channelSet_18 : decode cX0_channelSet 18 = .ok (.lload_n 1, 1) := by decide +kernel
theorem dX0_channelSet_19 : decode cX0_channelSet 19 = .ok (.lconst 1, 1) := by decide +kernel
theorem dX0_channelSet_20 : decode cX0_channelSet 20 = .ok (.aload_n 0, 1) := by decide +kernel
theorem dX0_channelSet_21 : decode cX0_channelSet 21 = .ok (.getfield 11, 3) := by decide +kernel
theorem dX0_channelSet_24 : decode cX0_channelSet 24 = .ok (.iload_n 3, 1) := by decide +kernel
theorem dX0_channelSet_25 : decode cX0_channelSet 25 = .ok (.iaload, 1) := by decide +kernel
theorem dX0_channelSet_26 : decode cX0_channelSet 26 = .ok (.lshl, 1) := by decide +kernel
theorem dX0_channelSet_27 : decode cX0_channelSet 27 = .ok (.lor, 1) := by decide +kernel
theorem dX0_channelSet_28 : decode cX0_channelSet 28 = .ok (.lstore_n 1, 1) := by decide +kernel
theorem dX0_channelSet_29 : decode cX0_channelSet 29 = .ok (.iinc 3 1, 3) := by decide +kernel
theorem dX0_channelSet_32 : decode cX0_channelSet 32 = .ok (.goto (-28), 3) := by decide +kernel
theorem dX0_channelSet_35 : decode cX0_channelSet 35 = .ok (.lload_n 1, 1) := by decide +kernel
theorem dX0_channelSet_36 : decode cX0_channelSet 36 = .ok (.lreturn, 1) := by decide +kernel
theorem dX0_isCrowded_0 : decode cX0_isCrowded 0 = .ok (.iconst 0, 1) := by decide +kernel
theorem dX0_isCrowded_1 : decode cX0_isCrowded 1 = .ok (.istore_n 2, 1) := by decide +kernel
theorem dX0_isCrowded_2 : decode cX0_isCrowded 2 = .ok (.iload_n 2, 1) := by decide +kernel
theorem dX0_isCrowded_3 : decode cX0_isCrowded 3 = .ok (.aload_n 0, 1) := by decide +kernel
theorem dX0_isCrowded_4 : decode cX0_isCrowded 4 = .ok (.getfield 25, 3) := by decide +kernel
theorem dX0_isCrowded_7 : decode cX0_isCrowded 7 = .ok (.if_icmp .ge 35, 3) := by decide +kernel
theorem dX0_isCrowded_10 : decode cX0_isCrowded 10 = .ok (.iload_n 2, 1) := by decide +kernel
theorem dX0_isCrowded_11 : decode cX0_isCrowded 11 = .ok (.bipush 11, 2) := by decide +kernel
theorem dX0_isCrowded_13 : decode cX0_isCrowded 13 = .ok (.if_icmp .ge 29, 3) := by decide +kernel
theorem dX0_isCrowded_16 : decode cX0_isCrowded 16 = .ok (.aload_n 0, 1) := by decide +kernel
theorem dX0_isCrowded_17 : decode cX0_isCrowded 17 = .ok (.getfield 11, 3) := by decide +kernel
theorem dX0_isCrowded_20 : decode cX0_isCrowded 20 = .ok (.iload_n 2, 1) := by decide +kernel
theorem dX0_isCrowded_21 : decode cX0_isCrowded 21 = .ok (.iaload, 1) := by decide +kernel
theorem dX0_isCrowded_22 : decode cX0_isCrowded 22 = .ok (.iload_n 1, 1) := by decide +kernel
theorem dX0_isCrowded_23 : decode cX0_isCrowded 23 = .ok (.isub, 1) := by decide +kernel
theorem dX0_isCrowded_24 : decode cX0_isCrowded 24 = .ok (.invokestatic 72, 3) := by decide +kernel
theorem dX0_isCrowded_27 : decode cX0_isCrowded 27 = .ok (.aload_n 0, 1) := by decide +kernel
theorem dX0_isCrowded_28 : decode cX0_isCrowded 28 = .ok (.getfield 50, 3) := by decide +kernel
theorem dX0_isCrowded_31 : decode cX0_isCrowded 31 = .ok (.if_icmp .ge 5, 3) := by decide +kernel
theorem dX0_isCrowded_34 : decode cX0_isCrowded 34 = .ok (.iconst 1, 1) := by decide +kernel
theorem dX0_isCrowded_35 : decode cX0_isCrowded 35 = .ok (.ireturn, 1) := by decide +kernel
theorem dX0_isCrowded_36 : decode cX0_isCrowded 36 = .ok (.iinc 2 1, 3) := by decide +kernel
theorem dX0_isCrowded_39 : decode cX0_isCrowded 39 = .ok (.goto (-37), 3) := by decide +kernel
theorem dX0_isCrowded_42 : decode cX0_isCrowded 42 = .ok (.iconst 0, 1) := by decide +kernel
theorem dX0_isCrowded_43 : decode cX0_isCrowded 43 = .ok (.ireturn, 1) := by decide +kernel
theorem dX0_guardedBy_0 : decode cX0_guardedBy 0 = .ok (.lconst 1, 1) := by decide +kernel
theorem dX0_guardedBy_1 : decode cX0_guardedBy 1 = .ok (.iconst 2, 1) := by decide +kernel
theorem dX0_guardedBy_2 : decode cX0_guardedBy 2 = .ok (.aload_n 0, 1) := by decide +kernel
theorem dX0_guardedBy_3 : decode cX0_guardedBy 3 = .ok (.getfield 46, 3) := by decide +kernel
theorem dX0_guardedBy_6 : decode cX0_guardedBy 6 = .ok (.imul, 1) := by decide +kernel
theorem dX0_guardedBy_7 : decode cX0_guardedBy 7 = .ok (.iconst 1, 1) := by decide +kernel
theorem dX0_guardedBy_8 : decode cX0_guardedBy 8 = .ok (.iadd, 1) := by decide +kernel
theorem dX0_guardedBy_9 : decode cX0_guardedBy 9 = .ok (.lshl, 1) := by decide +kernel
theorem dX0_guardedBy_10 : decode cX0_guardedBy 10 = .ok (.lconst 1, 1) := by decide +kernel
theorem dX0_guardedBy_11 : decode cX0_guardedBy 11 = .ok (.lsub, 1) := by decide +kernel
theorem dX0_guardedBy_12 : decode cX0_guardedBy 12 = .ok (.lstore_n 2, 1) := by decide +kernel
theorem dX0_guardedBy_13 : decode cX0_guardedBy 13 = .ok (.iload_n 1, 1) := by decide +kernel
theorem dX0_guardedBy_14 : decode cX0_guardedBy 14 = .ok (.aload_n 0, 1) := by decide +kernel
theorem dX0_guardedBy_15 : decode cX0_guardedBy 15 = .ok (.getfield 46, 3) := by decide +kernel
theorem dX0_guardedBy_18 : decode cX0_guardedBy 18 = .ok (.isub, 1) := by decide +kernel
theorem dX0_guardedBy_19 : decode cX0_guardedBy 19 = .ok (.istore 4, 2) := by decide +kernel
theorem dX0_guardedBy_21 : decode cX0_guardedBy 21 = .ok (.iload 4, 2) := by decide +kernel
theorem dX0_guardedBy_23 : decode cX0_guardedBy 23 = .ok (.ifCond .lt 10, 3) := by decide +kernel
theorem dX0_guardedBy_26 : decode cX0_guardedBy 26 = .ok (.lload_n 2, 1) := by decide +kernel
theorem dX0_guardedBy_27 : decode cX0_guardedBy 27 = .ok (.iload 4, 2) := by decide +kernel
theorem dX0_guardedBy_29 : decode cX0_guardedBy 29 = .ok (.lshl, 1) := by decide +kernel
theorem dX0_guardedBy_30 : decode cX0_guardedBy 30 = .ok (.goto 8, 3) := by decide +kernel
theorem dX0_guardedBy_33 : decode cX0_guardedBy 33 = .ok (.lload_n 2, 1) := by decide +kernel
theorem dX0_guardedBy_34 : decode cX0_guardedBy 34 = .ok (.iload 4, 2) := by decide +kernel
theorem dX0_guardedBy_36 : decode cX0_guardedBy 36 = .ok (.ineg, 1) := by decide +kernel
theorem dX0_guardedBy_37 : decode cX0_guardedBy 37 = .ok (.lushr, 1) := by decide +kernel
theorem dX0_guardedBy_38 : decode cX0_guardedBy 38 = .ok (.lreturn, 1) := by decide +kernel
theorem dX0_pairsWith_0 : decode cX0_pairsWith 0 = .ok (.lconst 0, 1) := by decide +kernel
theorem dX0_pairsWith_1 : decode cX0_pairsWith 1 = .ok (.lstore_n 3, 1) := by decide +kernel
theorem dX0_pairsWith_2 : decode cX0_pairsWith 2 = .ok (.iconst 0, 1) := by decide +kernel
theorem dX0_pairsWith_3 : decode cX0_pairsWith 3 = .ok (.istore 5, 2) := by decide +kernel
theorem dX0_pairsWith_5 : decode cX0_pairsWith 5 = .ok (.iload 5, 2) := by decide +kernel
theorem dX0_pairsWith_7 : decode cX0_pairsWith 7 = .ok (.aload_n 0, 1) := by decide +kernel
theorem dX0_pairsWith_8 : decode cX0_pairsWith 8 = .ok (.getfield 25, 3) := by decide +kernel
theorem dX0_pairsWith_11 : decode cX0_pairsWith 11 = .ok (.if_icmp .ge 152, 3) := by decide +kernel
theorem dX0_pairsWith_14 : decode cX0_pairsWith 14 = .ok (.iload 5, 2) := by decide +kernel
theorem dX0_pairsWith_16 : decode cX0_pairsWith 16 = .ok (.bipush 11, 2) := by decide +kernel
theorem dX0_pairsWith_18 : decode cX0_pairsWith 18 = .ok (.if_icmp .ge 145, 3) := by decide +kernel
theorem dX0_pairsWith_21 : decode cX0_pairsWith 21 = .ok (.aload_n 0, 1) := by decide +kernel
theorem dX0_pairsWith_22 : decode cX0_pairsWith 22 = .ok (.getfield 11, 3) := by decide +kernel
theorem dX0_pairsWith_25 : decode cX0_pairsWith 25 = .ok (.iload 5, 2) := by decide +kernel
theorem dX0_pairsWith_27 : decode cX0_pairsWith 27 = .ok (.iaload, 1) := by decide +kernel
theorem dX0_pairsWith_28 : decode cX0_pairsWith 28 = .ok (.istore 6, 2) := by decide +kernel
theorem dX0_pairsWith_30 : decode cX0_pairsWith 30 = .ok (.aload_n 0, 1) := by decide +kernel
theorem dX0_pairsWith_31 : decode cX0_pairsWith 31 = .ok (.getfield 15, 3) := by decide +kernel
theorem dX0_pairsWith_34 : decode cX0_pairsWith 34 = .ok (.iload 5, 2) := by decide +kernel
theorem dX0_pairsWith_36 : decode cX0_pairsWith 36 = .ok (.iaload, 1) := by decide +kernel
theorem dX0_pairsWith_37 : decode cX0_pairsWith 37 = .ok (.istore 7, 2) := by decide +kernel
theorem dX0_pairsWith_39 : decode cX0_pairsWith 39 = .ok (.aload_n 0, 1) := by decide +kernel
theorem dX0_pairsWith_40 : decode cX0_pairsWith 40 = .ok (.getfield 34, 3) := by decide +kernel
theorem dX0_pairsWith_43 : decode cX0_pairsWith 43 = .ok (.iconst 1, 1) := by decide +kernel
theorem dX0_pairsWith_44 : decode cX0_pairsWith 44 = .ok (.iand, 1) := by decide +kernel
theorem dX0_pairsWith_45 : decode cX0_pairsWith 45 = .ok (.ifCond .eq 49, 3) := by decide +kernel
theorem dX0_pairsWith_48 : decode cX0_pairsWith 48 = .ok (.lload_n 3, 1) := by decide +kernel
theorem dX0_pairsWith_49 : decode cX0_pairsWith 49 = .ok (.iconst 2, 1) := by decide +kernel
theorem dX0_pairsWith_50 : decode cX0_pairsWith 50 = .ok (.iload_n 1, 1) := by decide +kernel
theorem dX0_pairsWith_51 : decode cX0_pairsWith 51 = .ok (.imul, 1) := by decide +kernel
theorem dX0_pairsWith_52 : decode cX0_pairsWith 52 = .ok (.iload 6, 2) := by decide +kernel
theorem dX0_pairsWith_54 : decode cX0_pairsWith 54 = .ok (.isub, 1) := by decide +kernel
theorem dX0_pairsWith_55 : decode cX0_pairsWith 55 = .ok (.iconst 2, 1) := by decide +kernel
theorem dX0_pairsWith_56 : decode cX0_pairsWith 56 = .ok (.iload_n 2, 1) := by decide +kernel
theorem dX0_pairsWith_57 : decode cX0_pairsWith 57 = .ok (.imul, 1) := by decide +kernel
theorem dX0_pairsWith_58 : decode cX0_pairsWith 58 = .ok (.iload 7, 2) := by decide +kernel
theorem dX0_pairsWith_60 : decode cX0_pairsWith 60 = .ok (.iadd, 1) := by decide +kernel
theorem dX0_pairsWith_61 : decode cX0_pairsWith 61 = .ok (.aload_n 0, 1) := by decide +kernel
theorem dX0_pairsWith_62 : decode cX0_pairsWith 62 = .ok (.getfield 38, 3) := by decide +kernel
theorem dX0_pairsWith_65 : decode cX0_pairsWith 65 = .ok (.isub, 1) := by decide +kernel
theorem dX0_pairsWith_66 : decode cX0_pairsWith 66 = .ok (.invokestatic 76, 3) := by decide +kernel
theorem dX0_pairsWith_69 : decode cX0_pairsWith 69 = .ok (.lor, 1) := by decide +kernel
theorem dX0_pairsWith_70 : decode cX0_pairsWith 70 = .ok (.lstore_n 3, 1) := by decide +kernel
theorem dX0_pairsWith_71 : decode cX0_pairsWith 71 = .ok (.lload_n 3, 1) := by decide +kernel
theorem dX0_pairsWith_72 : decode cX0_pairsWith 72 = .ok (.iconst 2, 1) := by decide +kernel
theorem dX0_pairsWith_73 : decode cX0_pairsWith 73 = .ok (.iload 6, 2) := by decide +kernel
theorem dX0_pairsWith_75 : decode cX0_pairsWith 75 = .ok (.imul, 1) := by decide +kernel
theorem dX0_pairsWith_76 : decode cX0_pairsWith 76 = .ok (.iload_n 1, 1) := by decide +kernel
theorem dX0_pairsWith_77 : decode cX0_pairsWith 77 = .ok (.isub, 1) := by decide +kernel
theorem dX0_pairsWith_78 : decode cX0_pairsWith 78 = .ok (.iconst 2, 1) := by decide +kernel
theorem dX0_pairsWith_79 : decode cX0_pairsWith 79 = .ok (.iload 7, 2) := by decide +kernel
theorem dX0_pairsWith_81 : decode cX0_pairsWith 81 = .ok (.imul, 1) := by decide +kernel
theorem dX0_pairsWith_82 : decode cX0_pairsWith 82 = .ok (.iload_n 2, 1) := by decide +kernel
theorem dX0_pairsWith_83 : decode cX0_pairsWith 83 = .ok (.iadd, 1) := by decide +kernel
theorem dX0_pairsWith_84 : decode cX0_pairsWith 84 = .ok (.aload_n 0, 1) := by decide +kernel
theorem dX0_pairsWith_85 : decode cX0_pairsWith 85 = .ok (.getfield 38, 3) := by decide +kernel
theorem dX0_pairsWith_88 : decode cX0_pairsWith 88 = .ok (.isub, 1) := by decide +kernel
theorem dX0_pairsWith_89 : decode cX0_pairsWith 89 = .ok (.invokestatic 76, 3) := by decide +kernel
theorem dX0_pairsWith_92 : decode cX0_pairsWith 92 = .ok (.lor, 1) := by decide +kernel
theorem dX0_pairsWith_93 : decode cX0_pairsWith 93 = .ok (.lstore_n 3, 1) := by decide +kernel
theorem dX0_pairsWith_94 : decode cX0_pairsWith 94 = .ok (.aload_n 0, 1) := by decide +kernel
theorem dX0_pairsWith_95 : decode cX0_pairsWith 95 = .ok (.getfield 34, 3) := by decide +kernel
theorem dX0_pairsWith_98 : decode cX0_pairsWith 98 = .ok (.iconst 4, 1) := by decide +kernel
theorem dX0_pairsWith_99 : decode cX0_pairsWith 99 = .ok (.iand, 1) := by decide +kernel
theorem dX0_pairsWith_100 : decode cX0_pairsWith 100 = .ok (.ifCond .eq 57, 3) := by decide +kernel
theorem dX0_pairsWith_103 : decode cX0_pairsWith 103 = .ok (.lload_n 3, 1) := by decide +kernel
theorem dX0_pairsWith_104 : decode cX0_pairsWith 104 = .ok (.iconst 3, 1) := by decide +kernel
theorem dX0_pairsWith_105 : decode cX0_pairsWith 105 = .ok (.iload_n 1, 1) := by decide +kernel
theorem dX0_pairsWith_106 : decode cX0_pairsWith 106 = .ok (.imul, 1) := by decide +kernel
theorem dX0_pairsWith_107 : decode cX0_pairsWith 107 = .ok (.iconst 2, 1) := by decide +kernel
theorem dX0_pairsWith_108 : decode cX0_pairsWith 108 = .ok (.iload 6, 2) := by decide +kernel
theorem dX0_pairsWith_110 : decode cX0_pairsWith 110 = .ok (.imul, 1) := by decide +kernel
theorem dX0_pairsWith_111 : decode cX0_pairsWith 111 = .ok (.isub, 1) := by decide +kernel
theorem dX0_pairsWith_112 : decode cX0_pairsWith 112 = .ok (.iconst 3, 1) := by decide +kernel
theorem dX0_pairsWith_113 : decode cX0_pairsWith 113 = .ok (.iload_n 2, 1) := by decide +kernel
theorem dX0_pairsWith_114 : decode cX0_pairsWith 114 = .ok (.imul, 1) := by decide +kernel
theorem dX0_pairsWith_115 : decode cX0_pairsWith 115 = .ok (.iconst 2, 1) := by decide +kernel
theorem dX0_pairsWith_116 : decode cX0_pairsWith 116 = .ok (.iload 7, 2) := by decide +kernel
theorem dX0_pairsWith_118 : decode cX0_pairsWith 118 = .ok (.imul, 1) := by decide +kernel
theorem dX0_pairsWith_119 : decode cX0_pairsWith 119 = .ok (.iadd, 1) := by decide +kernel
theorem dX0_pairsWith_120 : decode cX0_pairsWith 120 = .ok (.aload_n 0, 1) := by decide +kernel
theorem dX0_pairsWith_121 : decode cX0_pairsWith 121 = .ok (.getfield 42, 3) := by decide +kernel
theorem dX0_pairsWith_124 : decode cX0_pairsWith 124 = .ok (.isub, 1) := by decide +kernel
theorem dX0_pairsWith_125 : decode cX0_pairsWith 125 = .ok (.invokestatic 76, 3) := by decide +kernel
theorem dX0_pairsWith_128 : decode cX0_pairsWith 128 = .ok (.lor, 1) := by decide +kernel
theorem dX0_pairsWith_129 : decode cX0_pairsWith 129 = .ok (.lstore_n 3, 1) := by decide +kernel
theorem dX0_pairsWith_130 : decode cX0_pairsWith 130 = .ok (.lload_n 3, 1) := by decide +kernel
theorem dX0_pairsWith_131 : decode cX0_pairsWith 131 = .ok (.iconst 3, 1) := by decide +kernel
theorem dX0_pairsWith_132 : decode cX0_pairsWith 132 = .ok (.iload 6, 2) := by decide +kernel
theorem dX0_pairsWith_134 : decode cX0_pairsWith 134 = .ok (.imul, 1) := by decide +kernel
theorem dX0_pairsWith_135 : decode cX0_pairsWith 135 = .ok (.iconst 2, 1) := by decide +kernel
theorem dX0_pairsWith_136 : decode cX0_pairsWith 136 = .ok (.iload_n 1, 1) := by decide +kernel
theorem dX0_pairsWith_137 : decode cX0_pairsWith 137 = .ok (.imul, 1) := by decide +kernel
theorem dX0_pairsWith_138 : decode cX0_pairsWith 138 = .ok (.isub, 1) := by decide +kernel
theorem dX0_pairsWith_139 : decode cX0_pairsWith 139 = .ok (.iconst 3, 1) := by decide +kernel
theorem dX0_pairsWith_140 : decode cX0_pairsWith 140 = .ok (.iload 7, 2) := by decide +kernel
theorem dX0_pairsWith_142 : decode cX0_pairsWith 142 = .ok (.imul, 1) := by decide +kernel
theorem dX0_pairsWith_143 : decode cX0_pairsWith 143 = .ok (.iconst 2, 1) := by decide +kernel
theorem dX0_pairsWith_144 : decode cX0_pairsWith 144 = .ok (.iload_n 2, 1) := by decide +kernel
theorem dX0_pairsWith_145 : decode cX0_pairsWith 145 = .ok (.imul, 1) := by decide +kernel
theorem dX0_pairsWith_146 : decode cX0_pairsWith 146 = .ok (.iadd, 1) := by decide +kernel
theorem dX0_pairsWith_147 : decode cX0_pairsWith 147 = .ok (.aload_n 0, 1) := by decide +kernel
theorem dX0_pairsWith_148 : decode cX0_pairsWith 148 = .ok (.getfield 42, 3) := by decide +kernel
theorem dX0_pairsWith_151 : decode cX0_pairsWith 151 = .ok (.isub, 1) := by decide +kernel
theorem dX0_pairsWith_152 : decode cX0_pairsWith 152 = .ok (.invokestatic 76, 3) := by decide +kernel
theorem dX0_pairsWith_155 : decode cX0_pairsWith 155 = .ok (.lor, 1) := by decide +kernel
theorem dX0_pairsWith_156 : decode cX0_pairsWith 156 = .ok (.lstore_n 3, 1) := by decide +kernel
theorem dX0_pairsWith_157 : decode cX0_pairsWith 157 = .ok (.iinc 5 1, 3) := by decide +kernel
theorem dX0_pairsWith_160 : decode cX0_pairsWith 160 = .ok (.goto (-155), 3) := by decide +kernel
theorem dX0_pairsWith_163 : decode cX0_pairsWith 163 = .ok (.lload_n 3, 1) := by decide +kernel
theorem dX0_pairsWith_164 : decode cX0_pairsWith 164 = .ok (.lreturn, 1) := by decide +kernel
theorem dX0_triplesWith_0 : decode cX0_triplesWith 0 = .ok (.lconst 0, 1) := by decide +kernel
theorem dX0_triplesWith_1 : decode cX0_triplesWith 1 = .ok (.lstore_n 3, 1) := by decide +kernel
theorem dX0_triplesWith_2 : decode cX0_triplesWith 2 = .ok (.iconst 0, 1) := by decide +kernel
theorem dX0_triplesWith_3 : decode cX0_triplesWith 3 = .ok (.istore 5, 2) := by decide +kernel
theorem dX0_triplesWith_5 : decode cX0_triplesWith 5 = .ok (.iload 5, 2) := by decide +kernel
theorem dX0_triplesWith_7 : decode cX0_triplesWith 7 = .ok (.aload_n 0, 1) := by decide +kernel
theorem dX0_triplesWith_8 : decode cX0_triplesWith 8 = .ok (.getfield 25, 3) := by decide +kernel
theorem dX0_triplesWith_11 : decode cX0_triplesWith 11 = .ok (.if_icmp .ge 124, 3) := by decide +kernel
theorem dX0_triplesWith_14 : decode cX0_triplesWith 14 = .ok (.iload 5, 2) := by decide +kernel
theorem dX0_triplesWith_16 : decode cX0_triplesWith 16 = .ok (.bipush 11, 2) := by decide +kernel
theorem dX0_triplesWith_18 : decode cX0_triplesWith 18 = .ok (.if_icmp .ge 117, 3) := by decide +kernel
theorem dX0_triplesWith_21 : decode cX0_triplesWith 21 = .ok (.aload_n 0, 1) := by decide +kernel
theorem dX0_triplesWith_22 : decode cX0_triplesWith 22 = .ok (.getfield 34, 3) := by decide +kernel
theorem dX0_triplesWith_25 : decode cX0_triplesWith 25 = .ok (.iconst 2, 1) := by decide +kernel
theorem dX0_triplesWith_26 : decode cX0_triplesWith 26 = .ok (.iand, 1) := by decide +kernel
theorem dX0_triplesWith_27 : decode cX0_triplesWith 27 = .ok (.ifCond .eq 108, 3) := by decide +kernel
theorem dX0_triplesWith_30 : decode cX0_triplesWith 30 = .ok (.aload_n 0, 1) := by decide +kernel
theorem dX0_triplesWith_31 : decode cX0_triplesWith 31 = .ok (.getfield 11, 3) := by decide +kernel
theorem dX0_triplesWith_34 : decode cX0_triplesWith 34 = .ok (.iload 5, 2) := by decide +kernel
theorem dX0_triplesWith_36 : decode cX0_triplesWith 36 = .ok (.iaload, 1) := by decide +kernel
theorem dX0_triplesWith_37 : decode cX0_triplesWith 37 = .ok (.istore 6, 2) := by decide +kernel
theorem dX0_triplesWith_39 : decode cX0_triplesWith 39 = .ok (.iconst 0, 1) := by decide +kernel
theorem dX0_triplesWith_40 : decode cX0_triplesWith 40 = .ok (.istore 7, 2) := by decide +kernel
theorem dX0_triplesWith_42 : decode cX0_triplesWith 42 = .ok (.iload 7, 2) := by decide +kernel
theorem dX0_triplesWith_44 : decode cX0_triplesWith 44 = .ok (.iload 5, 2) := by decide +kernel
theorem dX0_triplesWith_46 : decode cX0_triplesWith 46 = .ok (.if_icmp .ge 83, 3) := by decide +kernel
theorem dX0_triplesWith_49 : decode cX0_triplesWith 49 = .ok (.aload_n 0, 1) := by decide +kernel
theorem dX0_triplesWith_50 : decode cX0_triplesWith 50 = .ok (.getfield 11, 3) := by decide +kernel
theorem dX0_triplesWith_53 : decode cX0_triplesWith 53 = .ok (.iload 7, 2) := by decide +kernel
theorem dX0_triplesWith_55 : decode cX0_triplesWith 55 = .ok (.iaload, 1) := by decide +kernel
theorem dX0_triplesWith_56 : decode cX0_triplesWith 56 = .ok (.istore 8, 2) := by decide +kernel
theorem dX0_triplesWith_58 : decode cX0_triplesWith 58 = .ok (.iload_n 2, 1) := by decide +kernel
theorem dX0_triplesWith_59 : decode cX0_triplesWith 59 = .ok (.aload_n 0, 1) := by decide +kernel
theorem dX0_triplesWith_60 : decode cX0_triplesWith 60 = .ok (.getfield 15, 3) := by decide +kernel
theorem dX0_triplesWith_63 : decode cX0_triplesWith 63 = .ok (.iload 5, 2) := by decide +kernel
theorem dX0_triplesWith_65 : decode cX0_triplesWith 65 = .ok (.iaload, 1) := by decide +kernel
theorem dX0_triplesWith_66 : decode cX0_triplesWith 66 = .ok (.iadd, 1) := by decide +kernel
theorem dX0_triplesWith_67 : decode cX0_triplesWith 67 = .ok (.aload_n 0, 1) := by decide +kernel
theorem dX0_triplesWith_68 : decode cX0_triplesWith 68 = .ok (.getfield 15, 3) := by decide +kernel
theorem dX0_triplesWith_71 : decode cX0_triplesWith 71 = .ok (.iload 7, 2) := by decide +kernel
theorem dX0_triplesWith_73 : decode cX0_triplesWith 73 = .ok (.iaload, 1) := by decide +kernel
theorem dX0_triplesWith_74 : decode cX0_triplesWith 74 = .ok (.iadd, 1) := by decide +kernel
theorem dX0_triplesWith_75 : decode cX0_triplesWith 75 = .ok (.aload_n 0, 1) := by decide +kernel
theorem dX0_triplesWith_76 : decode cX0_triplesWith 76 = .ok (.getfield 38, 3) := by decide +kernel
theorem dX0_triplesWith_79 : decode cX0_triplesWith 79 = .ok (.isub, 1) := by decide +kernel
theorem dX0_triplesWith_80 : decode cX0_triplesWith 80 = .ok (.istore 9, 2) := by decide +kernel
theorem dX0_triplesWith_82 : decode cX0_triplesWith 82 = .ok (.lload_n 3, 1) := by decide +kernel
theorem dX0_triplesWith_83 : decode cX0_triplesWith 83 = .ok (.iload_n 1, 1) := by decide +kernel
theorem dX0_triplesWith_84 : decode cX0_triplesWith 84 = .ok (.iload 6, 2) := by decide +kernel
theorem dX0_triplesWith_86 : decode cX0_triplesWith 86 = .ok (.iadd, 1) := by decide +kernel
theorem dX0_triplesWith_87 : decode cX0_triplesWith 87 = .ok (.iload 8, 2) := by decide +kernel
theorem dX0_triplesWith_89 : decode cX0_triplesWith 89 = .ok (.isub, 1) := by decide +kernel
theorem dX0_triplesWith_90 : decode cX0_triplesWith 90 = .ok (.iload 9, 2) := by decide +kernel
theorem dX0_triplesWith_92 : decode cX0_triplesWith 92 = .ok (.invokestatic 76, 3) := by decide +kernel
theorem dX0_triplesWith_95 : decode cX0_triplesWith 95 = .ok (.iload_n 1, 1) := by decide +kernel
theorem dX0_triplesWith_96 : decode cX0_triplesWith 96 = .ok (.iload 8, 2) := by decide +kernel
theorem dX0_triplesWith_98 : decode cX0_triplesWith 98 = .ok (.iadd, 1) := by decide +kernel
theorem dX0_triplesWith_99 : decode cX0_triplesWith 99 = .ok (.iload 6, 2) := by decide +kernel
theorem dX0_triplesWith_101 : decode cX0_triplesWith 101 = .ok (.isub, 1) := by decide +kernel
theorem dX0_triplesWith_102 : decode cX0_triplesWith 102 = .ok (.iload 9, 2) := by decide +kernel
theorem dX0_triplesWith_104 : decode cX0_triplesWith 104 = .ok (.invokestatic 76, 3) := by decide +kernel
theorem dX0_triplesWith_107 : decode cX0_triplesWith 107 = .ok (.lor, 1) := by decide +kernel
theorem dX0_triplesWith_108 : decode cX0_triplesWith 108 = .ok (.iload 6, 2) := by decide +kernel
theorem dX0_triplesWith_110 : decode cX0_triplesWith 110 = .ok (.iload 8, 2) := by decide +kernel
theorem dX0_triplesWith_112 : decode cX0_triplesWith 112 = .ok (.iadd, 1) := by decide +kernel
theorem dX0_triplesWith_113 : decode cX0_triplesWith 113 = .ok (.iload_n 1, 1) := by decide +kernel
theorem dX0_triplesWith_114 : decode cX0_triplesWith 114 = .ok (.isub, 1) := by decide +kernel
theorem dX0_triplesWith_115 : decode cX0_triplesWith 115 = .ok (.iload 9, 2) := by decide +kernel
theorem dX0_triplesWith_117 : decode cX0_triplesWith 117 = .ok (.invokestatic 76, 3) := by decide +kernel
theorem dX0_triplesWith_120 : decode cX0_triplesWith 120 = .ok (.lor, 1) := by decide +kernel
theorem dX0_triplesWith_121 : decode cX0_triplesWith 121 = .ok (.lor, 1) := by decide +kernel
theorem dX0_triplesWith_122 : decode cX0_triplesWith 122 = .ok (.lstore_n 3, 1) := by decide +kernel
theorem dX0_triplesWith_123 : decode cX0_triplesWith 123 = .ok (.iinc 7 1, 3) := by decide +kernel
theorem dX0_triplesWith_126 : decode cX0_triplesWith 126 = .ok (.goto (-84), 3) := by decide +kernel
theorem dX0_triplesWith_129 : decode cX0_triplesWith 129 = .ok (.iinc 5 1, 3) := by decide +kernel
theorem dX0_triplesWith_132 : decode cX0_triplesWith 132 = .ok (.goto (-127), 3) := by decide +kernel
theorem dX0_triplesWith_135 : decode cX0_triplesWith 135 = .ok (.lload_n 3, 1) := by decide +kernel
theorem dX0_triplesWith_136 : decode cX0_triplesWith 136 = .ok (.lreturn, 1) := by decide +kernel
theorem dX0_bitOf_0 : decode cX0_bitOf 0 = .ok (.iload_n 0, 1) := by decide +kernel
theorem dX0_bitOf_1 : decode cX0_bitOf 1 = .ok (.invokestatic 79, 3) := by decide +kernel
theorem dX0_bitOf_4 : decode cX0_bitOf 4 = .ok (.ifCond .eq 13, 3) := by decide +kernel
theorem dX0_bitOf_7 : decode cX0_bitOf 7 = .ok (.iload_n 1, 1) := by decide +kernel
theorem dX0_bitOf_8 : decode cX0_bitOf 8 = .ok (.ifCond .lt 9, 3) := by decide +kernel
theorem dX0_bitOf_11 : decode cX0_bitOf 11 = .ok (.lconst 1, 1) := by decide +kernel
theorem dX0_bitOf_12 : decode cX0_bitOf 12 = .ok (.iload_n 0, 1) := by decide +kernel
theorem dX0_bitOf_13 : decode cX0_bitOf 13 = .ok (.lshl, 1) := by decide +kernel
theorem dX0_bitOf_14 : decode cX0_bitOf 14 = .ok (.goto 4, 3) := by decide +kernel
theorem dX0_bitOf_17 : decode cX0_bitOf 17 = .ok (.lconst 0, 1) := by decide +kernel
theorem dX0_bitOf_18 : decode cX0_bitOf 18 = .ok (.lreturn, 1) := by decide +kernel
theorem dX1_init_0 : decode cX1_init 0 = .ok (.aload_n 0, 1) := by decide +kernel
theorem dX1_init_1 : decode cX1_init 1 = .ok (.invokespecial 3, 3) := by decide +kernel
theorem dX1_init_4 : decode cX1_init 4 = .ok (.aload_n 0, 1) := by decide +kernel
theorem dX1_init_5 : decode cX1_init 5 = .ok (.iconst 3, 1) := by decide +kernel
theorem dX1_init_6 : decode cX1_init 6 = .ok (.putfield 9, 3) := by decide +kernel
theorem dX1_init_9 : decode cX1_init 9 = .ok (.aload_n 0, 1) := by decide +kernel
theorem dX1_init_10 : decode cX1_init 10 = .ok (.iconst 0, 1) := by decide +kernel
theorem dX1_init_11 : decode cX1_init 11 = .ok (.putfield 15, 3) := by decide +kernel
theorem dX1_init_14 : decode cX1_init 14 = .ok (.aload_n 0, 1) := by decide +kernel
theorem dX1_init_15 : decode cX1_init 15 = .ok (.bipush 100, 2) := by decide +kernel
theorem dX1_init_17 : decode cX1_init 17 = .ok (.putfield 18, 3) := by decide +kernel
theorem dX1_init_20 : decode cX1_init 20 = .ok (.aload_n 0, 1) := by decide +kernel
theorem dX1_init_21 : decode cX1_init 21 = .ok (.iconst 0, 1) := by decide +kernel
theorem dX1_init_22 : decode cX1_init 22 = .ok (.putfield 21, 3) := by decide +kernel
theorem dX1_init_25 : decode cX1_init 25 = .ok (.aload_n 0, 1) := by decide +kernel
theorem dX1_init_26 : decode cX1_init 26 = .ok (.iconst 1, 1) := by decide +kernel
theorem dX1_init_27 : decode cX1_init 27 = .ok (.putfield 24, 3) := by decide +kernel
theorem dX1_init_30 : decode cX1_init 30 = .ok (.aload_n 0, 1) := by decide +kernel
theorem dX1_init_31 : decode cX1_init 31 = .ok (.bipush 10, 2) := by decide +kernel
theorem dX1_init_33 : decode cX1_init 33 = .ok (.newarray .int, 2) := by decide +kernel
theorem dX1_init_35 : decode cX1_init 35 = .ok (.putfield 27, 3) := by decide +kernel
theorem dX1_init_38 : decode cX1_init 38 = .ok (.aload_n 0, 1) := by decide +kernel
theorem dX1_init_39 : decode cX1_init 39 = .ok (.bipush 10, 2) := by decide +kernel
theorem dX1_init_41 : decode cX1_init 41 = .ok (.newarray .int, 2) := by decide +kernel
theorem dX1_init_43 : decode cX1_init 43 = .ok (.putfield 31, 3) := by decide +kernel
theorem dX1_init_46 : decode cX1_init 46 = .ok (.aload_n 0, 1) := by decide +kernel
theorem dX1_init_47 : decode cX1_init 47 = .ok (.iconst 5, 1) := by decide +kernel
theorem dX1_init_48 : decode cX1_init 48 = .ok (.newarray .int, 2) := by decide +kernel
theorem dX1_init_50 : decode cX1_init 50 = .ok (.putfield 34, 3) := by decide +kernel
theorem dX1_init_53 : decode cX1_init 53 = .ok (.aload_n 0, 1) := by decide +kernel
theorem dX1_init_54 : decode cX1_init 54 = .ok (.bipush 16, 2) := by decide +kernel
theorem dX1_init_56 : decode cX1_init 56 = .ok (.newarray .int, 2) := by decide +kernel
theorem dX1_init_58 : decode cX1_init 58 = .ok (.putfield 37, 3) := by decide +kernel
theorem dX1_init_61 : decode cX1_init 61 = .ok (.aload_n 0, 1) := by decide +kernel
theorem dX1_init_62 : decode cX1_init 62 = .ok (.bipush 16, 2) := by decide +kernel
theorem dX1_init_64 : decode cX1_init 64 = .ok (.newarray .int, 2) := by decide +kernel
theorem dX1_init_66 : decode cX1_init 66 = .ok (.putfield 40, 3) := by decide +kernel
theorem dX1_init_69 : decode cX1_init 69 = .ok (.aload_n 0, 1) := by decide +kernel
theorem dX1_init_70 : decode cX1_init 70 = .ok (.bipush 16, 2) := by decide +kernel
theorem dX1_init_72 : decode cX1_init 72 = .ok (.newarray .int, 2) := by decide +kernel
theorem dX1_init_74 : decode cX1_init 74 = .ok (.putfield 43, 3) := by decide +kernel
theorem dX1_init_77 : decode cX1_init 77 = .ok (.aload_n 0, 1) := by decide +kernel
theorem dX1_init_78 : decode cX1_init 78 = .ok (.bipush 16, 2) := by decide +kernel
theorem dX1_init_80 : decode cX1_init 80 = .ok (.newarray .int, 2) := by decide +kernel
theorem dX1_init_82 : decode cX1_init 82 = .ok (.putfield 46, 3) := by decide +kernel
theorem dX1_init_85 : decode cX1_init 85 = .ok (.return_, 1) := by decide +kernel
theorem dX1_takeFrom_0 : decode cX1_takeFrom 0 = .ok (.aload_n 0, 1) := by decide +kernel
theorem dX1_takeFrom_1 : decode cX1_takeFrom 1 = .ok (.aload_n 1, 1) := by decide +kernel
theorem dX1_takeFrom_2 : decode cX1_takeFrom 2 = .ok (.getfield 9, 3) := by decide +kernel
theorem dX1_takeFrom_5 : decode cX1_takeFrom 5 = .ok (.putfield 9, 3) := by decide +kernel
theorem dX1_takeFrom_8 : decode cX1_takeFrom 8 = .ok (.aload_n 0, 1) := by decide +kernel
theorem dX1_takeFrom_9 : decode cX1_takeFrom 9 = .ok (.aload_n 1, 1) := by decide +kernel
theorem dX1_takeFrom_10 : decode cX1_takeFrom 10 = .ok (.getfield 15, 3) := by decide +kernel
theorem dX1_takeFrom_13 : decode cX1_takeFrom 13 = .ok (.putfield 15, 3) := by decide +kernel
theorem dX1_takeFrom_16 : decode cX1_takeFrom 16 = .ok (.aload_n 0, 1) := by decide +kernel
theorem dX1_takeFrom_17 : decode cX1_takeFrom 17 = .ok (.aload_n 1, 1) := by decide +kernel
theorem dX1_takeFrom_18 : decode cX1_takeFrom 18 = .ok (.getfield 18, 3) := by decide +kernel
theorem dX1_takeFrom_21 : decode cX1_takeFrom 21 = .ok (.putfield 18, 3) := by decide +kernel
theorem dX1_takeFrom_24 : decode cX1_takeFrom 24 = .ok (.aload_n 0, 1) := by decide +kernel
theorem dX1_takeFrom_25 : decode cX1_takeFrom 25 = .ok (.aload_n 1, 1) := by decide +kernel
theorem dX1_takeFrom_26 : decode cX1_takeFrom 26 = .ok (.getfield 21, 3) := by decide +kernel
theorem dX1_takeFrom_29 : decode cX1_takeFrom 29 = .ok (.putfield 21, 3) := by decide +kernel
theorem dX1_takeFrom_32 : decode cX1_takeFrom 32 = .ok (.aload_n 0, 1) := by decide +kernel
theorem dX1_takeFrom_33 : decode cX1_takeFrom 33 = .ok (.aload_n 1, 1) := by decide +kernel
theorem dX1_takeFrom_34 : decode cX1_takeFrom 34 = .ok (.getfield 24, 3) := by decide +kernel
theorem dX1_takeFrom_37 : decode cX1_takeFrom 37 = .ok (.putfield 24, 3) := by decide +kernel
theorem dX1_takeFrom_40 : decode cX1_takeFrom 40 = .ok (.aload_n 0, 1) := by decide +kernel
theorem dX1_takeFrom_41 : decode cX1_takeFrom 41 = .ok (.aload_n 1, 1) := by decide +kernel
theorem dX1_takeFrom_42 : decode cX1_takeFrom 42 = .ok (.getfield 49, 3) := by decide +kernel
theorem dX1_takeFrom_45 : decode cX1_takeFrom 45 = .ok (.putfield 49, 3) := by decide +kernel
theorem dX1_takeFrom_48 : decode cX1_takeFrom 48 = .ok (.aload_n 0, 1) := by decide +kernel
theorem dX1_takeFrom_49 : decode cX1_takeFrom 49 = .ok (.aload_n 1, 1) := by decide +kernel
theorem dX1_takeFrom_50 : decode cX1_takeFrom 50 = .ok (.getfield 52, 3) := by decide +kernel
theorem dX1_takeFrom_53 : decode cX1_takeFrom 53 = .ok (.putfield 52, 3) := by decide +kernel
theorem dX1_takeFrom_56 : decode cX1_takeFrom 56 = .ok (.aload_n 0, 1) := by decide +kernel
theorem dX1_takeFrom_57 : decode cX1_takeFrom 57 = .ok (.aload_n 1, 1) := by decide +kernel
theorem dX1_takeFrom_58 : decode cX1_takeFrom 58 = .ok (.getfield 55, 3) := by decide +kernel
theorem dX1_takeFrom_61 : decode cX1_takeFrom 61 = .ok (.putfield 55, 3) := by decide +kernel
theorem dX1_takeFrom_64 : decode cX1_takeFrom 64 = .ok (.aload_n 1, 1) := by decide +kernel
theorem dX1_takeFrom_65 : decode cX1_takeFrom 65 = .ok (.getfield 27, 3) := by decide +kernel
theorem dX1_takeFrom_68 : decode cX1_takeFrom 68 = .ok (.iconst 0, 1) := by decide +kernel
theorem dX1_takeFrom_69 : decode cX1_takeFrom 69 = .ok (.aload_n 0, 1) := by decide +kernel
theorem dX1_takeFrom_70 : decode cX1_takeFrom 70 = .ok (.getfield 27, 3) := by decide +kernel
theorem dX1_takeFrom_73 : decode cX1_takeFrom 73 = .ok (.iconst 0, 1) := by decide +kernel
theorem dX1_takeFrom_74 : decode cX1_takeFrom 74 = .ok (.bipush 10, 2) := by decide +kernel
theorem dX1_takeFrom_76 : decode cX1_takeFrom 76 = .ok (.invokestatic 58, 3) := by decide +kernel
theorem dX1_takeFrom_79 : decode cX1_takeFrom 79 = .ok (.aload_n 1, 1) := by decide +kernel
theorem dX1_takeFrom_80 : decode cX1_takeFrom 80 = .ok (.getfield 31, 3) := by decide +kernel
theorem dX1_takeFrom_83 : decode cX1_takeFrom 83 = .ok (.iconst 0, 1) := by decide +kernel
theorem dX1_takeFrom_84 : decode cX1_takeFrom 84 = .ok (.aload_n 0, 1) := by decide +kernel
theorem dX1_takeFrom_85 : decode cX1_takeFrom 85 = .ok (.getfield 31, 3) := by decide +kernel
theorem dX1_takeFrom_88 : decode cX1_takeFrom 88 = .ok (.iconst 0, 1) := by decide +kernel
theorem dX1_takeFrom_89 : decode cX1_takeFrom 89 = .ok (.bipush 10, 2) := by decide +kernel
theorem dX1_takeFrom_91 : decode cX1_takeFrom 91 = .ok (.invokestatic 58, 3) := by decide +kernel
theorem dX1_takeFrom_94 : decode cX1_takeFrom 94 = .ok (.aload_n 1, 1) := by decide +kernel
theorem dX1_takeFrom_95 : decode cX1_takeFrom 95 = .ok (.getfield 34, 3) := by decide +kernel
theorem dX1_takeFrom_98 : decode cX1_takeFrom 98 = .ok (.iconst 0, 1) := by decide +kernel
theorem dX1_takeFrom_99 : decode cX1_takeFrom 99 = .ok (.aload_n 0, 1) := by decide +kernel
theorem dX1_takeFrom_100 : decode cX1_takeFrom 100 = .ok (.getfield 34, 3) := by decide +kernel
theorem dX1_takeFrom_103 : decode cX1_takeFrom 103 = .ok (.iconst 0, 1) := by decide +kernel
theorem dX1_takeFrom_104 : decode cX1_takeFrom 104 = .ok (.iconst 5, 1) := by decide +kernel
theorem dX1_takeFrom_105 : decode cX1_takeFrom 105 = .ok (.invokestatic 58, 3) := by decide +kernel
theorem dX1_takeFrom_108 : decode cX1_takeFrom 108 = .ok (.aload_n 1, 1) := by decide +kernel
theorem dX1_takeFrom_109 : decode cX1_takeFrom 109 = .ok (.getfield 37, 3) := by decide +kernel
theorem dX1_takeFrom_112 : decode cX1_takeFrom 112 = .ok (.iconst 0, 1) := by decide +kernel
theorem dX1_takeFrom_113 : decode cX1_takeFrom 113 = .ok (.aload_n 0, 1) := by decide +kernel
theorem dX1_takeFrom_114 : decode cX1_takeFrom 114 = .ok (.getfield 37, 3) := by decide +kernel
theorem dX1_takeFrom_117 : decode cX1_takeFrom 117 = .ok (.iconst 0, 1) := by decide +kernel
theorem dX1_takeFrom_118 : decode cX1_takeFrom 118 = .ok (.bipush 16, 2) := by decide +kernel
theorem dX1_takeFrom_120 : decode cX1_takeFrom 120 = .ok (.invokestatic 58, 3) := by decide +kernel
theorem dX1_takeFrom_123 : decode cX1_takeFrom 123 = .ok (.aload_n 1, 1) := by decide +kernel
theorem dX1_takeFrom_124 : decode cX1_takeFrom 124 = .ok (.getfield 40, 3) := by decide +kernel
theorem dX1_takeFrom_127 : decode cX1_takeFrom 127 = .ok (.iconst 0, 1) := by decide +kernel
theorem dX1_takeFrom_128 : decode cX1_takeFrom 128 = .ok (.aload_n 0, 1) := by decide +kernel
theorem dX1_takeFrom_129 : decode cX1_takeFrom 129 = .ok (.getfield 40, 3) := by decide +kernel
theorem dX1_takeFrom_132 : decode cX1_takeFrom 132 = .ok (.iconst 0, 1) := by decide +kernel
theorem dX1_takeFrom_133 : decode cX1_takeFrom 133 = .ok (.bipush 16, 2) := by decide +kernel
theorem dX1_takeFrom_135 : decode cX1_takeFrom 135 = .ok (.invokestatic 58, 3) := by decide +kernel
theorem dX1_takeFrom_138 : decode cX1_takeFrom 138 = .ok (.aload_n 1, 1) := by decide +kernel
theorem dX1_takeFrom_139 : decode cX1_takeFrom 139 = .ok (.getfield 43, 3) := by decide +kernel
theorem dX1_takeFrom_142 : decode cX1_takeFrom 142 = .ok (.iconst 0, 1) := by decide +kernel
theorem dX1_takeFrom_143 : decode cX1_takeFrom 143 = .ok (.aload_n 0, 1) := by decide +kernel
theorem dX1_takeFrom_144 : decode cX1_takeFrom 144 = .ok (.getfield 43, 3) := by decide +kernel
theorem dX1_takeFrom_147 : decode cX1_takeFrom 147 = .ok (.iconst 0, 1) := by decide +kernel
theorem dX1_takeFrom_148 : decode cX1_takeFrom 148 = .ok (.bipush 16, 2) := by decide +kernel
theorem dX1_takeFrom_150 : decode cX1_takeFrom 150 = .ok (.invokestatic 58, 3) := by decide +kernel
theorem dX1_takeFrom_153 : decode cX1_takeFrom 153 = .ok (.aload_n 1, 1) := by decide +kernel
theorem dX1_takeFrom_154 : decode cX1_takeFrom 154 = .ok (.getfield 46, 3) := by decide +kernel
theorem dX1_takeFrom_157 : decode cX1_takeFrom 157 = .ok (.iconst 0, 1) := by decide +kernel
theorem dX1_takeFrom_158 : decode cX1_takeFrom 158 = .ok (.aload_n 0, 1) := by decide +kernel
theorem dX1_takeFrom_159 : decode cX1_takeFrom 159 = .ok (.getfield 46, 3) := by decide +kernel
theorem dX1_takeFrom_162 : decode cX1_takeFrom 162 = .ok (.iconst 0, 1) := by decide +kernel
theorem dX1_takeFrom_163 : decode cX1_takeFrom 163 = .ok (.bipush 16, 2) := by decide +kernel
theorem dX1_takeFrom_165 : decode cX1_takeFrom 165 = .ok (.invokestatic 58, 3) := by decide +kernel
theorem dX1_takeFrom_168 : decode cX1_takeFrom 168 = .ok (.return_, 1) := by decide +kernel
theorem dX1_empty_0 : decode cX1_empty 0 = .ok (.aload_n 0, 1) := by decide +kernel
theorem dX1_empty_1 : decode cX1_empty 1 = .ok (.iconst 0, 1) := by decide +kernel
theorem dX1_empty_2 : decode cX1_empty 2 = .ok (.putfield 49, 3) := by decide +kernel
theorem dX1_empty_5 : decode cX1_empty 5 = .ok (.aload_n 0, 1) := by decide +kernel
theorem dX1_empty_6 : decode cX1_empty 6 = .ok (.iconst 0, 1) := by decide +kernel
theorem dX1_empty_7 : decode cX1_empty 7 = .ok (.putfield 52, 3) := by decide +kernel
theorem dX1_empty_10 : decode cX1_empty 10 = .ok (.aload_n 0, 1) := by decide +kernel
theorem dX1_empty_11 : decode cX1_empty 11 = .ok (.iconst 0, 1) := by decide +kernel
theorem dX1_empty_12 : decode cX1_empty 12 = .ok (.putfield 55, 3) := by decide +kernel
theorem dX1_empty_15 : decode cX1_empty 15 = .ok (.return_, 1) := by decide +kernel
theorem dX1_hasCarrier_0 : decode cX1_hasCarrier 0 = .ok (.iload_n 1, 1) := by decide +kernel
theorem dX1_hasCarrier_1 : decode cX1_hasCarrier 1 = .ok (.ifCond .lt 21, 3) := by decide +kernel
theorem dX1_hasCarrier_4 : decode cX1_hasCarrier 4 = .ok (.iload_n 1, 1) := by decide +kernel
theorem dX1_hasCarrier_5 : decode cX1_hasCarrier 5 = .ok (.aload_n 0, 1) := by decide +kernel
theorem dX1_hasCarrier_6 : decode cX1_hasCarrier 6 = .ok (.getfield 49, 3) := by decide +kernel
theorem dX1_hasCarrier_9 : decode cX1_hasCarrier 9 = .ok (.if_icmp .ge 13, 3) := by decide +kernel
theorem dX1_hasCarrier_12 : decode cX1_hasCarrier 12 = .ok (.iload_n 1, 1) := by decide +kernel
theorem dX1_hasCarrier_13 : decode cX1_hasCarrier 13 = .ok (.bipush 10, 2) := by decide +kernel
theorem dX1_hasCarrier_15 : decode cX1_hasCarrier 15 = .ok (.if_icmp .ge 7, 3) := by decide +kernel
theorem dX1_hasCarrier_18 : decode cX1_hasCarrier 18 = .ok (.iconst 1, 1) := by decide +kernel
theorem dX1_hasCarrier_19 : decode cX1_hasCarrier 19 = .ok (.goto 4, 3) := by decide +kernel
theorem dX1_hasCarrier_22 : decode cX1_hasCarrier 22 = .ok (.iconst 0, 1) := by decide +kernel
theorem dX1_hasCarrier_23 : decode cX1_hasCarrier 23 = .ok (.ireturn, 1) := by decide +kernel
theorem dX1_everyCarrier_0 : decode cX1_everyCarrier 0 = .ok (.iconst 1, 1) := by decide +kernel
theorem dX1_everyCarrier_1 : decode cX1_everyCarrier 1 = .ok (.aload_n 0, 1) := by decide +kernel
theorem dX1_everyCarrier_2 : decode cX1_everyCarrier 2 = .ok (.getfield 49, 3) := by decide +kernel
theorem dX1_everyCarrier_5 : decode cX1_everyCarrier 5 = .ok (.ishl, 1) := by decide +kernel
theorem dX1_everyCarrier_6 : decode cX1_everyCarrier 6 = .ok (.iconst 1, 1) := by decide +kernel
theorem dX1_everyCarrier_7 : decode cX1_everyCarrier 7 = .ok (.isub, 1) := by decide +kernel
theorem dX1_everyCarrier_8 : decode cX1_everyCarrier 8 = .ok (.ireturn, 1) := by decide +kernel
theorem dX1_channelOf_0 : decode cX1_channelOf 0 = .ok (.aload_n 0, 1) := by decide +kernel
theorem dX1_channelOf_1 : decode cX1_channelOf 1 = .ok (.iload_n 1, 1) := by decide +kernel
theorem dX1_channelOf_2 : decode cX1_channelOf 2 = .ok (.invokevirtual 64, 3) := by decide +kernel
theorem dX1_channelOf_5 : decode cX1_channelOf 5 = .ok (.ifCond .eq 12, 3) := by decide +kernel
theorem dX1_channelOf_8 : decode cX1_channelOf 8 = .ok (.aload_n 0, 1) := by decide +kernel
theorem dX1_channelOf_9 : decode cX1_channelOf 9 = .ok (.getfield 27, 3) := by decide +kernel
theorem dX1_channelOf_12 : decode cX1_channelOf 12 = .ok (.iload_n 1, 1) := by decide +kernel
theorem dX1_channelOf_13 : decode cX1_channelOf 13 = .ok (.iaload, 1) := by decide +kernel
theorem dX1_channelOf_14 : decode cX1_channelOf 14 = .ok (.goto 4, 3) := by decide +kernel
theorem dX1_channelOf_17 : decode cX1_channelOf 17 = .ok (.iconst (-1), 1) := by decide +kernel
theorem dX1_channelOf_18 : decode cX1_channelOf 18 = .ok (.ireturn, 1) := by decide +kernel
theorem dX1_levelOf_0 : decode cX1_levelOf 0 = .ok (.aload_n 0, 1) := by decide +kernel
theorem dX1_levelOf_1 : decode cX1_levelOf 1 = .ok (.iload_n 1, 1) := by decide +kernel
theorem dX1_levelOf_2 : decode cX1_levelOf 2 = .ok (.invokevirtual 64, 3) := by decide +kernel
theorem dX1_levelOf_5 : decode cX1_levelOf 5 = .ok (.ifCond .eq 12, 3) := by decide +kernel
theorem dX1_levelOf_8 : decode cX1_levelOf 8 = .ok (.aload_n 0, 1) := by decide +kernel
theorem dX1_levelOf_9 : decode cX1_levelOf 9 = .ok (.getfield 31, 3) := by decide +kernel
theorem dX1_levelOf_12 : decode cX1_levelOf 12 = .ok (.iload_n 1, 1) := by decide +kernel
theorem dX1_levelOf_13 : decode cX1_levelOf 13 = .ok (.iaload, 1) := by decide +kernel
theorem dX1_levelOf_14 : decode cX1_levelOf 14 = .ok (.goto 4, 3) := by decide +kernel
theorem dX1_levelOf_17 : decode cX1_levelOf 17 = .ok (.iconst (-1), 1) := by decide +kernel
theorem dX1_levelOf_18 : decode cX1_levelOf 18 = .ok (.ireturn, 1) := by decide +kernel
theorem dX1_carrierOn_0 : decode cX1_carrierOn 0 = .ok (.iconst 0, 1) := by decide +kernel
theorem dX1_carrierOn_1 : decode cX1_carrierOn 1 = .ok (.istore_n 2, 1) := by decide +kernel
theorem dX1_carrierOn_2 : decode cX1_carrierOn 2 = .ok (.iload_n 2, 1) := by decide +kernel
theorem dX1_carrierOn_3 : decode cX1_carrierOn 3 = .ok (.aload_n 0, 1) := by decide +kernel
theorem dX1_carrierOn_4 : decode cX1_carrierOn 4 = .ok (.getfield 49, 3) := by decide +kernel
theorem dX1_carrierOn_7 : decode cX1_carrierOn 7 = .ok (.if_icmp .ge 20, 3) := by decide +kernel
theorem dX1_carrierOn_10 : decode cX1_carrierOn 10 = .ok (.aload_n 0, 1) := by decide +kernel
theorem dX1_carrierOn_11 : decode cX1_carrierOn 11 = .ok (.iload_n 2, 1) := by decide +kernel
theorem dX1_carrierOn_12 : decode cX1_carrierOn 12 = .ok (.invokevirtual 68, 3) := by decide +kernel
theorem dX1_carrierOn_15 : decode cX1_carrierOn 15 = .ok (.iload_n 1, 1) := by decide +kernel
theorem dX1_carrierOn_16 : decode cX1_carrierOn 16 = .ok (.if_icmp .ne 5, 3) := by decide +kernel
theorem dX1_carrierOn_19 : decode cX1_carrierOn 19 = .ok (.iload_n 2, 1) := by decide +kernel
theorem dX1_carrierOn_20 : decode cX1_carrierOn 20 = .ok (.ireturn, 1) := by decide +kernel
theorem dX1_carrierOn_21 : decode cX1_carrierOn 21 = .ok (.iinc 2 1, 3) := by decide +kernel
theorem dX1_carrierOn_24 : decode cX1_carrierOn 24 = .ok (.goto (-22), 3) := by decide +kernel
theorem dX1_carrierOn_27 : decode cX1_carrierOn 27 = .ok (.iconst (-1), 1) := by decide +kernel
theorem dX1_carrierOn_28 : decode cX1_carrierOn 28 = .ok (.ireturn, 1) := by decide +kernel
theorem dX1_putCarrier_0 : decode cX1_putCarrier 0 = .ok (.aload_n 0, 1) := by decide +kernel
theorem dX1_putCarrier_1 : decode cX1_putCarrier 1 = .ok (.getfield 49, 3) := by decide +kernel
theorem dX1_putCarrier_4 : decode cX1_putCarrier 4 = .ok (.bipush 10, 2) := by decide +kernel
theorem dX1_putCarrier_6 : decode cX1_putCarrier 6 = .ok (.if_icmp .ge 25, 3) := by decide +kernel
theorem dX1_putCarrier_9 : decode cX1_putCarrier 9 = .ok (.aload_n 0, 1) := by decide +kernel
theorem dX1_putCarrier_10 : decode cX1_putCarrier 10 = .ok (.dup, 1) := by decide +kernel
theorem dX1_putCarrier_11 : decode cX1_putCarrier 11 = .ok (.getfield 49, 3) := by decide +kernel
theorem dX1_putCarrier_14 : decode cX1_putCarrier 14 = .ok (.iconst 1, 1) := by decide +kernel
theorem dX1_putCarrier_15 : decode cX1_putCarrier 15 = .ok (.iadd, 1) := by decide +kernel
theorem dX1_putCarrier_16 : decode cX1_putCarrier 16 = .ok (.putfield 49, 3) := by decide +kernel
theorem dX1_putCarrier_19 : decode cX1_putCarrier 19 = .ok (.aload_n 0, 1) := by decide +kernel
theorem dX1_putCarrier_20 : decode cX1_putCarrier 20 = .ok (.aload_n 0, 1) := by decide +kernel
theorem dX1_putCarrier_21 : decode cX1_putCarrier 21 = .ok (.getfield 49, 3) := by decide +kernel
theorem dX1_putCarrier_24 : decode cX1_putCarrier 24 = .ok (.iconst 1, 1) := by decide +kernel
theorem dX1_putCarrier_25 : decode cX1_putCarrier 25 = .ok (.isub, 1) := by decide +kernel
theorem dX1_putCarrier_26 : decode cX1_putCarrier 26 = .ok (.iload_n 1, 1) := by decide +kernel
theorem dX1_putCarrier_27 : decode cX1_putCarrier 27 = .ok (.iload_n 2, 1) := by decide +kernel
theorem dX1_putCarrier_28 : decode cX1_putCarrier 28 = .ok (.invokevirtual 72, 3) := by decide +kernel
theorem dX1_putCarrier_31 : decode cX1_putCarrier 31 = .ok (.return_, 1) := by decide +kernel
theorem dX1_setCarrier_0 : decode cX1_setCarrier 0 = .ok (.aload_n 0, 1) := by decide +kernel
theorem dX1_setCarrier_1 : decode cX1_setCarrier 1 = .ok (.iload_n 1, 1) := by decide +kernel
theorem dX1_setCarrier_2 : decode cX1_setCarrier 2 = .ok (.invokevirtual 64, 3) := by decide +kernel
theorem dX1_setCarrier_5 : decode cX1_setCarrier 5 = .ok (.ifCond .eq 17, 3) := by decide +kernel
theorem dX1_setCarrier_8 : decode cX1_setCarrier 8 = .ok (.aload_n 0, 1) := by decide +kernel
theorem dX1_setCarrier_9 : decode cX1_setCarrier 9 = .ok (.getfield 27, 3) := by decide +kernel
theorem dX1_setCarrier_12 : decode cX1_setCarrier 12 = .ok (.iload_n 1, 1) := by decide +kernel
theorem dX1_setCarrier_13 : decode cX1_setCarrier 13 = .ok (.iload_n 2, 1) := by decide +kernel
theorem dX1_setCarrier_14 : decode cX1_setCarrier 14 = .ok (.iastore, 1) := by decide +kernel
theorem dX1_setCarrier_15 : decode cX1_setCarrier 15 = .ok (.aload_n 0, 1) := by decide +kernel
theorem dX1_setCarrier_16 : decode cX1_setCarrier 16 = .ok (.getfield 31, 3) := by decide +kernel
theorem dX1_setCarrier_19 : decode cX1_setCarrier 19 = .ok (.iload_n 1, 1) := by decide +kernel
theorem dX1_setCarrier_20 : decode cX1_setCarrier 20 = .ok (.iload_n 3, 1) := by decide +kernel
theorem dX1_setCarrier_21 : decode cX1_setCarrier 21 = .ok (.iastore, 1) := by decide +kernel
theorem dX1_setCarrier_22 : decode cX1_setCarrier 22 = .ok (.aload_n 0, 1) := by decide +kernel
theorem dX1_setCarrier_23 : decode cX1_setCarrier 23 = .ok (.iconst 0, 1) := by decide +kernel
theorem dX1_setCarrier_24 : decode cX1_setCarrier 24 = .ok (.putfield 55, 3) := by decide +kernel
theorem dX1_setCarrier_27 : decode cX1_setCarrier 27 = .ok (.return_, 1) := by decide +kernel
theorem dX1_takeOut_0 : decode cX1_takeOut 0 = .ok (.aload_n 0, 1) := by decide +kernel
theorem dX1_takeOut_1 : decode cX1_takeOut 1 = .ok (.iload_n 1, 1) := by decide +kernel
theorem dX1_takeOut_2 : decode cX1_takeOut 2 = .ok (.invokevirtual 64, 3) := by decide +kernel
theorem dX1_takeOut_5 : decode cX1_takeOut 5 = .ok (.ifCond .ne 4, 3) := by decide +kernel
theorem dX1_takeOut_8 : decode cX1_takeOut 8 = .ok (.return_, 1) := by decide +kernel
theorem dX1_takeOut_9 : decode cX1_takeOut 9 = .ok (.iload_n 1, 1) := by decide +kernel
theorem dX1_takeOut_10 : decode cX1_takeOut 10 = .ok (.iconst 1, 1) := by decide +kernel
theorem dX1_takeOut_11 : decode cX1_takeOut 11 = .ok (.iadd, 1) := by decide +kernel
theorem dX1_takeOut_12 : decode cX1_takeOut 12 = .ok (.istore_n 2, 1) := by decide +kernel
theorem dX1_takeOut_13 : decode cX1_takeOut 13 = .ok (.iload_n 2, 1) := by decide +kernel
theorem dX1_takeOut_14 : decode cX1_takeOut 14 = .ok (.aload_n 0, 1) := by decide +kernel
theorem dX1_takeOut_15 : decode cX1_takeOut 15 = .ok (.getfield 49, 3) := by decide +kernel
theorem dX1_takeOut_18 : decode cX1_takeOut 18 = .ok (.if_icmp .ge 26, 3) := by decide +kernel
theorem dX1_takeOut_21 : decode cX1_takeOut 21 = .ok (.aload_n 0, 1) := by decide +kernel
theorem dX1_takeOut_22 : decode cX1_takeOut 22 = .ok (.iload_n 2, 1) := by decide +kernel
theorem dX1_takeOut_23 : decode cX1_takeOut 23 = .ok (.iconst 1, 1) := by decide +kernel
theorem dX1_takeOut_24 : decode cX1_takeOut 24 = .ok (.isub, 1) := by decide +kernel
theorem dX1_takeOut_25 : decode cX1_takeOut 25 = .ok (.aload_n 0, 1) := by decide +kernel
theorem dX1_takeOut_26 : decode cX1_takeOut 26 = .ok (.iload_n 2, 1) := by decide +kernel
theorem dX1_takeOut_27 : decode cX1_takeOut 27 = .ok (.invokevirtual 68, 3) := by decide +kernel
theorem dX1_takeOut_30 : decode cX1_takeOut 30 = .ok (.aload_n 0, 1) := by decide +kernel
theorem dX1_takeOut_31 : decode cX1_takeOut 31 = .ok (.iload_n 2, 1) := by decide +kernel
theorem dX1_takeOut_32 : decode cX1_takeOut 32 = .ok (.invokevirtual 76, 3) := by decide +kernel
theorem dX1_takeOut_35 : decode cX1_takeOut 35 = .ok (.invokevirtual 72, 3) := by decide +kernel
theorem dX1_takeOut_38 : decode cX1_takeOut 38 = .ok (.iinc 2 1, 3) := by decide +kernel
theorem dX1_takeOut_41 : decode cX1_takeOut 41 = .ok (.goto (-28), 3) := by decide +kernel
theorem dX1_takeOut_44 : decode cX1_takeOut 44 = .ok (.aload_n 0, 1) := by decide +kernel
theorem dX1_takeOut_45 : decode cX1_takeOut 45 = .ok (.dup, 1) := by decide +kernel
theorem dX1_takeOut_46 : decode cX1_takeOut 46 = .ok (.getfield 49, 3) := by decide +kernel
theorem dX1_takeOut_49 : decode cX1_takeOut 49 = .ok (.iconst 1, 1) := by decide +kernel
theorem dX1_takeOut_50 : decode cX1_takeOut 50 = .ok (.isub, 1) := by decide +kernel
theorem dX1_takeOut_51 : decode cX1_takeOut 51 = .ok (.putfield 49, 3) := by decide +kernel
theorem dX1_takeOut_54 : decode cX1_takeOut 54 = .ok (.iconst 1, 1) := by decide +kernel
theorem dX1_takeOut_55 : decode cX1_takeOut 55 = .ok (.iload_n 1, 1) := by decide +kernel
theorem dX1_takeOut_56 : decode cX1_takeOut 56 = .ok (.ishl, 1) := by decide +kernel
theorem dX1_takeOut_57 : decode cX1_takeOut 57 = .ok (.iconst 1, 1) := by decide +kernel
theorem dX1_takeOut_58 : decode cX1_takeOut 58 = .ok (.isub, 1) := by decide +kernel
theorem dX1_takeOut_59 : decode cX1_takeOut 59 = .ok (.istore_n 2, 1) := by decide +kernel
theorem dX1_takeOut_60 : decode cX1_takeOut 60 = .ok (.iconst 0, 1) := by decide +kernel
theorem dX1_takeOut_61 : decode cX1_takeOut 61 = .ok (.istore_n 3, 1) := by decide +kernel
theorem dX1_takeOut_62 : decode cX1_takeOut 62 = .ok (.iload_n 3, 1) := by decide +kernel
theorem dX1_takeOut_63 : decode cX1_takeOut 63 = .ok (.aload_n 0, 1) := by decide +kernel
theorem dX1_takeOut_64 : decode cX1_takeOut 64 = .ok (.getfield 52, 3) := by decide +kernel
theorem dX1_takeOut_67 : decode cX1_takeOut 67 = .ok (.if_icmp .ge 34, 3) := by decide +kernel
theorem dX1_takeOut_70 : decode cX1_takeOut 70 = .ok (.aload_n 0, 1) := by decide +kernel
theorem dX1_takeOut_71 : decode cX1_takeOut 71 = .ok (.iload_n 3, 1) := by decide +kernel
theorem dX1_takeOut_72 : decode cX1_takeOut 72 = .ok (.invokevirtual 79, 3) := by decide +kernel
theorem dX1_takeOut_75 : decode cX1_takeOut 75 = .ok (.istore 4, 2) := by decide +kernel
theorem dX1_takeOut_77 : decode cX1_takeOut 77 = .ok (.aload_n 0, 1) := by decide +kernel
theorem dX1_takeOut_78 : decode cX1_takeOut 78 = .ok (.iload_n 3, 1) := by decide +kernel
theorem dX1_takeOut_79 : decode cX1_takeOut 79 = .ok (.iload 4, 2) := by decide +kernel
theorem dX1_takeOut_81 : decode cX1_takeOut 81 = .ok (.iload_n 2, 1) := by decide +kernel
theorem dX1_takeOut_82 : decode cX1_takeOut 82 = .ok (.iand, 1) := by decide +kernel
theorem dX1_takeOut_83 : decode cX1_takeOut 83 = .ok (.iload 4, 2) := by decide +kernel
theorem dX1_takeOut_85 : decode cX1_takeOut 85 = .ok (.iconst 1, 1) := by decide +kernel
theorem dX1_takeOut_86 : decode cX1_takeOut 86 = .ok (.ishr, 1) := by decide +kernel
theorem dX1_takeOut_87 : decode cX1_takeOut 87 = .ok (.iload_n 2, 1) := by decide +kernel
theorem dX1_takeOut_88 : decode cX1_takeOut 88 = .ok (.iconst (-1), 1) := by decide +kernel
theorem dX1_takeOut_89 : decode cX1_takeOut 89 = .ok (.ixor, 1) := by decide +kernel
theorem dX1_takeOut_90 : decode cX1_takeOut 90 = .ok (.iand, 1) := by decide +kernel
theorem dX1_takeOut_91 : decode cX1_takeOut 91 = .ok (.ior, 1) := by decide +kernel
theorem dX1_takeOut_92 : decode cX1_takeOut 92 = .ok (.invokevirtual 82, 3) := by decide +kernel
theorem dX1_takeOut_95 : decode cX1_takeOut 95 = .ok (.iinc 3 1, 3) := by decide +kernel
theorem dX1_takeOut_98 : decode cX1_takeOut 98 = .ok (.goto (-36), 3) := by decide +kernel
theorem dX1_takeOut_101 : decode cX1_takeOut 101 = .ok (.aload_n 0, 1) := by decide +kernel
theorem dX1_takeOut_102 : decode cX1_takeOut 102 = .ok (.iconst 0, 1) := by decide +kernel
theorem dX1_takeOut_103 : decode cX1_takeOut 103 = .ok (.putfield 55, 3) := by decide +kernel
theorem dX1_takeOut_106 : decode cX1_takeOut 106 = .ok (.return_, 1) := by decide +kernel
theorem dX1_shiftAll_0 : decode cX1_shiftAll 0 = .ok (.iconst 0, 1) := by decide +kernel
theorem dX1_shiftAll_1 : decode cX1_shiftAll 1 = .ok (.istore_n 2, 1) := by decide +kernel
theorem dX1_shiftAll_2 : decode cX1_shiftAll 2 = .ok (.iload_n 2, 1) := by decide +kernel
theorem dX1_shiftAll_3 : decode cX1_shiftAll 3 = .ok (.aload_n 0, 1) := by decide +kernel
theorem dX1_shiftAll_4 : decode cX1_shiftAll 4 = .ok (.getfield 49, 3) := by decide +kernel
theorem dX1_shiftAll_7 : decode cX1_shiftAll 7 = .ok (.if_icmp .ge 26, 3) := by decide +kernel
theorem dX1_shiftAll_10 : decode cX1_shiftAll 10 = .ok (.aload_n 0, 1) := by decide +kernel
theorem dX1_shiftAll_11 : decode cX1_shiftAll 11 = .ok (.iload_n 2, 1) := by decide +kernel
theorem dX1_shiftAll_12 : decode cX1_shiftAll 12 = .ok (.aload_n 0, 1) := by decide +kernel
theorem dX1_shiftAll_13 : decode cX1_shiftAll 13 = .ok (.iload_n 2, 1) := by decide +kernel
theorem dX1_shiftAll_14 : decode cX1_shiftAll 14 = .ok (.invokevirtual 68, 3) := by decide +kernel
theorem dX1_shiftAll_17 : decode cX1_shiftAll 17 = .ok (.iload_n 1, 1) := by decide +kernel
theorem dX1_shiftAll_18 : decode cX1_shiftAll 18 = .ok (.iadd, 1) := by decide +kernel
theorem dX1_shiftAll_19 : decode cX1_shiftAll 19 = .ok (.aload_n 0, 1) := by decide +kernel
theorem dX1_shiftAll_20 : decode cX1_shiftAll 20 = .ok (.iload_n 2, 1) := by decide +kernel
theorem dX1_shiftAll_21 : decode cX1_shiftAll 21 = .ok (.invokevirtual 76, 3) := by decide +kernel
theorem dX1_shiftAll_24 : decode cX1_shiftAll 24 = .ok (.invokevirtual 72, 3) := by decide +kernel
theorem dX1_shiftAll_27 : decode cX1_shiftAll 27 = .ok (.iinc 2 1, 3) := by decide +kernel
theorem dX1_shiftAll_30 : decode cX1_shiftAll 30 = .ok (.goto (-28), 3) := by decide +kernel
theorem dX1_shiftAll_33 : decode cX1_shiftAll 33 = .ok (.aload_n 0, 1) := by decide +kernel
theorem dX1_shiftAll_34 : decode cX1_shiftAll 34 = .ok (.iconst 0, 1) := by decide +kernel
theorem dX1_shiftAll_35 : decode cX1_shiftAll 35 = .ok (.putfield 55, 3) := by decide +kernel
theorem dX1_shiftAll_38 : decode cX1_shiftAll 38 = .ok (.return_, 1) := by decide +kernel
theorem dX1_hasMixer_0 : decode cX1_hasMixer 0 = .ok (.iload_n 1, 1) := by decide +kernel
theorem dX1_hasMixer_1 : decode cX1_hasMixer 1 = .ok (.ifCond .lt 20, 3) := by decide +kernel
theorem dX1_hasMixer_4 : decode cX1_hasMixer 4 = .ok (.iload_n 1, 1) := by decide +kernel
theorem dX1_hasMixer_5 : decode cX1_hasMixer 5 = .ok (.aload_n 0, 1) := by decide +kernel
theorem dX1_hasMixer_6 : decode cX1_hasMixer 6 = .ok (.getfield 52, 3) := by decide +kernel
theorem dX1_hasMixer_9 : decode cX1_hasMixer 9 = .ok (.if_icmp .ge 12, 3) := by decide +kernel
theorem dX1_hasMixer_12 : decode cX1_hasMixer 12 = .ok (.iload_n 1, 1) := by decide +kernel
theorem dX1_hasMixer_13 : decode cX1_hasMixer 13 = .ok (.iconst 5, 1) := by decide +kernel
theorem dX1_hasMixer_14 : decode cX1_hasMixer 14 = .ok (.if_icmp .ge 7, 3) := by decide +kernel
theorem dX1_hasMixer_17 : decode cX1_hasMixer 17 = .ok (.iconst 1, 1) := by decide +kernel
theorem dX1_hasMixer_18 : decode cX1_hasMixer 18 = .ok (.goto 4, 3) := by decide +kernel
theorem dX1_hasMixer_21 : decode cX1_hasMixer 21 = .ok (.iconst 0, 1) := by decide +kernel
theorem dX1_hasMixer_22 : decode cX1_hasMixer 22 = .ok (.ireturn, 1) := by decide +kernel
theorem dX1_everyMixer_0 : decode cX1_everyMixer 0 = .ok (.iconst 1, 1) := by decide +kernel
theorem dX1_everyMixer_1 : decode cX1_everyMixer 1 = .ok (.aload_n 0, 1) := by decide +kernel
theorem dX1_everyMixer_2 : decode cX1_everyMixer 2 = .ok (.getfield 52, 3) := by decide +kernel
theorem dX1_everyMixer_5 : decode cX1_everyMixer 5 = .ok (.ishl, 1) := by decide +kernel
theorem dX1_everyMixer_6 : decode cX1_everyMixer 6 = .ok (.iconst 1, 1) := by decide +kernel
theorem dX1_everyMixer_7 : decode cX1_everyMixer 7 = .ok (.isub, 1) := by decide +kernel
theorem dX1_everyMixer_8 : decode cX1_everyMixer 8 = .ok (.ireturn, 1) := by decide +kernel
theorem dX1_membersOf_0 : decode cX1_membersOf 0 = .ok (.aload_n 0, 1) := by decide +kernel
theorem dX1_membersOf_1 : decode cX1_membersOf 1 = .ok (.iload_n 1, 1) := by decide +kernel
theorem dX1_membersOf_2 : decode cX1_membersOf 2 = .ok (.invokevirtual 86, 3) := by decide +kernel
theorem dX1_membersOf_5 : decode cX1_membersOf 5 = .ok (.ifCond .eq 12, 3) := by decide +kernel
theorem dX1_membersOf_8 : decode cX1_membersOf 8 = .ok (.aload_n 0, 1) := by decide +kernel
theorem dX1_membersOf_9 : decode cX1_membersOf 9 = .ok (.getfield 34, 3) := by decide +kernel
theorem dX1_membersOf_12 : decode cX1_membersOf 12 = .ok (.iload_n 1, 1) := by decide +kernel
theorem dX1_membersOf_13 : decode cX1_membersOf 13 = .ok (.iaload, 1) := by decide +kernel
theorem dX1_membersOf_14 : decode cX1_membersOf 14 = .ok (.goto 4, 3) := by decide +kernel
theorem dX1_membersOf_17 : decode cX1_membersOf 17 = .ok (.iconst 0, 1) := by decide +kernel
theorem dX1_membersOf_18 : decode cX1_membersOf 18 = .ok (.ireturn, 1) := by decide +kernel
theorem dX1_putMixer_0 : decode cX1_putMixer 0 = .ok (.aload_n 0, 1) := by decide +kernel
theorem dX1_putMixer_1 : decode cX1_putMixer 1 = .ok (.getfield 52, 3) := by decide +kernel
theorem dX1_putMixer_4 : decode cX1_putMixer 4 = .ok (.iconst 5, 1) := by decide +kernel
theorem dX1_putMixer_5 : decode cX1_putMixer 5 = .ok (.if_icmp .ge 24, 3) := by decide +kernel
theorem dX1_putMixer_8 : decode cX1_putMixer 8 = .ok (.aload_n 0, 1) := by decide +kernel
theorem dX1_putMixer_9 : decode cX1_putMixer 9 = .ok (.dup, 1) := by decide +kernel
theorem dX1_putMixer_10 : decode cX1_putMixer 10 = .ok (.getfield 52, 3) := by decide +kernel
theorem dX1_putMixer_13 : decode cX1_putMixer 13 = .ok (.iconst 1, 1) := by decide +kernel
theorem dX1_putMixer_14 : decode cX1_putMixer 14 = .ok (.iadd, 1) := by decide +kernel
theorem dX1_putMixer_15 : decode cX1_putMixer 15 = .ok (.putfield 52, 3) := by decide +kernel
theorem dX1_putMixer_18 : decode cX1_putMixer 18 = .ok (.aload_n 0, 1) := by decide +kernel
theorem dX1_putMixer_19 : decode cX1_putMixer 19 = .ok (.aload_n 0, 1) := by decide +kernel
theorem dX1_putMixer_20 : decode cX1_putMixer 20 = .ok (.getfield 52, 3) := by decide +kernel
theorem dX1_putMixer_23 : decode cX1_putMixer 23 = .ok (.iconst 1, 1) := by decide +kernel
theorem dX1_putMixer_24 : decode cX1_putMixer 24 = .ok (.isub, 1) := by decide +kernel
theorem dX1_putMixer_25 : decode cX1_putMixer 25 = .ok (.iload_n 1, 1) := by decide +kernel
theorem dX1_putMixer_26 : decode cX1_putMixer 26 = .ok (.invokevirtual 82, 3) := by decide +kernel
theorem dX1_putMixer_29 : decode cX1_putMixer 29 = .ok (.return_, 1) := by decide +kernel
theorem dX1_setMembers_0 : decode cX1_setMembers 0 = .ok (.aload_n 0, 1) := by decide +kernel
theorem dX1_setMembers_1 : decode cX1_setMembers 1 = .ok (.iload_n 1, 1) := by decide +kernel
theorem dX1_setMembers_2 : decode cX1_setMembers 2 = .ok (.invokevirtual 86, 3) := by decide +kernel
theorem dX1_setMembers_5 : decode cX1_setMembers 5 = .ok (.ifCond .eq 10, 3) := by decide +kernel
theorem dX1_setMembers_8 : decode cX1_setMembers 8 = .ok (.aload_n 0, 1) := by decide +kernel
theorem dX1_setMembers_9 : decode cX1_setMembers 9 = .ok (.getfield 34, 3) := by decide +kernel
theorem dX1_setMembers_12 : decode cX1_setMembers 12 = .ok (.iload_n 1, 1) := by decide +kernel
theorem dX1_setMembers_13 : decode cX1_setMembers 13 = .ok (.iload_n 2, 1) := by decide +kernel
theorem dX1_setMembers_14 : decode cX1_setMembers 14 = .ok (.iastore, 1) := by decide +kernel
theorem dX1_setMembers_15 : decode cX1_setMembers 15 = .ok (.aload_n 0, 1) := by decide +kernel
theorem dX1_setMembers_16 : decode cX1_setMembers 16 = .ok (.iconst 0, 1) := by decide +kernel
theorem dX1_setMembers_17 : decode cX1_setMembers 17 = .ok (.putfield 55, 3) := by decide +kernel
theorem dX1_setMembers_20 : decode cX1_setMembers 20 = .ok (.return_, 1) := by decide +kernel
theorem dX1_hasTest_0 : decode cX1_hasTest 0 = .ok (.iload_n 1, 1) := by decide +kernel
theorem dX1_hasTest_1 : decode cX1_hasTest 1 = .ok (.ifCond .lt 21, 3) := by decide +kernel
theorem dX1_hasTest_4 : decode cX1_hasTest 4 = .ok (.iload_n 1, 1) := by decide +kernel
theorem dX1_hasTest_5 : decode cX1_hasTest 5 = .ok (.aload_n 0, 1) := by decide +kernel
theorem dX1_hasTest_6 : decode cX1_hasTest 6 = .ok (.getfield 55, 3) := by decide +kernel
theorem dX1_hasTest_9 : decode cX1_hasTest 9 = .ok (.if_icmp .ge 13, 3) := by decide +kernel
theorem dX1_hasTest_12 : decode cX1_hasTest 12 = .ok (.iload_n 1, 1) := by decide +kernel
theorem dX1_hasTest_13 : decode cX1_hasTest 13 = .ok (.bipush 16, 2) := by decide +kernel
theorem dX1_hasTest_15 : decode cX1_hasTest 15 = .ok (.if_icmp .ge 7, 3) := by decide +kernel
theorem dX1_hasTest_18 : decode cX1_hasTest 18 = .ok (.iconst 1, 1) := by decide +kernel
theorem dX1_hasTest_19 : decode cX1_hasTest 19 = .ok (.goto 4, 3) := by decide +kernel
theorem dX1_hasTest_22 : decode cX1_hasTest 22 = .ok (.iconst 0, 1) := by decide +kernel
theorem dX1_hasTest_23 : decode cX1_hasTest 23 = .ok (.ireturn, 1) := by decide +kernel
theorem dX1_putTest_0 : decode cX1_putTest 0 = .ok (.aload_n 0, 1) := by decide +kernel
theorem dX1_putTest_1 : decode cX1_putTest 1 = .ok (.getfield 55, 3) := by decide +kernel
theorem dX1_putTest_4 : decode cX1_putTest 4 = .ok (.ifCond .lt 71, 3) := by decide +kernel
theorem dX1_putTest_7 : decode cX1_putTest 7 = .ok (.aload_n 0, 1) := by decide +kernel
theorem dX1_putTest_8 : decode cX1_putTest 8 = .ok (.getfield 55, 3) := by decide +kernel
theorem dX1_putTest_11 : decode cX1_putTest 11 = .ok (.bipush 16, 2) := by decide +kernel
theorem dX1_putTest_13 : decode cX1_putTest 13 = .ok (.if_icmp .ge 62, 3) := by decide +kernel
theorem dX1_putTest_16 : decode cX1_putTest 16 = .ok (.aload_n 0, 1) := by decide +kernel
theorem dX1_putTest_17 : decode cX1_putTest 17 = .ok (.getfield 37, 3) := by decide +kernel
theorem dX1_putTest_20 : decode cX1_putTest 20 = .ok (.aload_n 0, 1) := by decide +kernel
theorem dX1_putTest_21 : decode cX1_putTest 21 = .ok (.getfield 55, 3) := by decide +kernel
theorem dX1_putTest_24 : decode cX1_putTest 24 = .ok (.iload_n 1, 1) := by decide +kernel
theorem dX1_putTest_25 : decode cX1_putTest 25 = .ok (.iastore, 1) := by decide +kernel
theorem dX1_putTest_26 : decode cX1_putTest 26 = .ok (.aload_n 0, 1) := by decide +kernel
theorem dX1_putTest_27 : decode cX1_putTest 27 = .ok (.getfield 40, 3) := by decide +kernel
theorem dX1_putTest_30 : decode cX1_putTest 30 = .ok (.aload_n 0, 1) := by decide +kernel
theorem dX1_putTest_31 : decode cX1_putTest 31 = .ok (.getfield 55, 3) := by decide +kernel
theorem dX1_putTest_34 : decode cX1_putTest 34 = .ok (.iload_n 2, 1) := by decide +kernel
theorem dX1_putTest_35 : decode cX1_putTest 35 = .ok (.iastore, 1) := by decide +kernel
theorem dX1_putTest_36 : decode cX1_putTest 36 = .ok (.aload_n 0, 1) := by decide +kernel
theorem dX1_putTest_37 : decode cX1_putTest 37 = .ok (.getfield 43, 3) := by decide +kernel
theorem dX1_putTest_40 : decode cX1_putTest 40 = .ok (.aload_n 0, 1) := by decide +kernel
theorem dX1_putTest_41 : decode cX1_putTest 41 = .ok (.getfield 55, 3) := by decide +kernel
theorem dX1_putTest_44 : decode cX1_putTest 44 = .ok (.iload_n 3, 1) := by decide +kernel
theorem dX1_putTest_45 : decode cX1_putTest 45 = .ok (.ifCond .eq 7, 3) := by decide +kernel
theorem dX1_putTest_48 : decode cX1_putTest 48 = .ok (.iconst 1, 1) := by decide +kernel
theorem dX1_putTest_49 : decode cX1_putTest 49 = .ok (.goto 4, 3) := by decide +kernel
theorem dX1_putTest_52 : decode cX1_putTest 52 = .ok (.iconst 0, 1) := by decide +kernel
theorem dX1_putTest_53 : decode cX1_putTest 53 = .ok (.iastore, 1) := by decide +kernel
theorem dX1_putTest_54 : decode cX1_putTest 54 = .ok (.aload_n 0, 1) := by decide +kernel
theorem dX1_putTest_55 : decode cX1_putTest 55 = .ok (.getfield 46, 3) := by decide +kernel
theorem dX1_putTest_58 : decode cX1_putTest 58 = .ok (.aload_n 0, 1) := by decide +kernel
theorem dX1_putTest_59 : decode cX1_putTest 59 = .ok (.getfield 55, 3) := by decide +kernel
theorem dX1_putTest_62 : decode cX1_putTest 62 = .ok (.iload 4, 2) := by decide +kernel
theorem dX1_putTest_64 : decode cX1_putTest 64 = .ok (.iastore, 1) := by decide +kernel
theorem dX1_putTest_65 : decode cX1_putTest 65 = .ok (.aload_n 0, 1) := by decide +kernel
theorem dX1_putTest_66 : decode cX1_putTest 66 = .ok (.dup, 1) := by decide +kernel
theorem dX1_putTest_67 : decode cX1_putTest 67 = .ok (.getfield 55, 3) := by decide +kernel
theorem dX1_putTest_70 : decode cX1_putTest 70 = .ok (.iconst 1, 1) := by decide +kernel
theorem dX1_putTest_71 : decode cX1_putTest 71 = .ok (.iadd, 1) := by decide +kernel
theorem dX1_putTest_72 : decode cX1_putTest 72 = .ok (.putfield 55, 3) := by decide +kernel
theorem dX1_putTest_75 : decode cX1_putTest 75 = .ok (.return_, 1) := by decide +kernel
theorem dX1_testFact_0 : decode cX1_testFact 0 = .ok (.aload_n 0, 1) := by decide +kernel
theorem dX1_testFact_1 : decode cX1_testFact 1 = .ok (.iload_n 1, 1) := by decide +kernel
theorem dX1_testFact_2 : decode cX1_testFact 2 = .ok (.invokevirtual 89, 3) := by decide +kernel
theorem dX1_testFact_5 : decode cX1_testFact 5 = .ok (.ifCond .ne 5, 3) := by decide +kernel
theorem dX1_testFact_8 : decode cX1_testFact 8 = .ok (.iconst (-1), 1) := by decide +kernel
theorem dX1_testFact_9 : decode cX1_testFact 9 = .ok (.ireturn, 1) := by decide +kernel
theorem dX1_testFact_10 : decode cX1_testFact 10 = .ok (.iload_n 2, 1) := by decide +kernel
theorem dX1_testFact_11 : decode cX1_testFact 11 = .ok (.lookupswitch 39 #[(0, 25), (1, 32)], 25) := by decide +kernel
theorem dX1_testFact_36 : decode cX1_testFact 36 = .ok (.aload_n 0, 1) := by decide +kernel
theorem dX1_testFact_37 : decode cX1_testFact 37 = .ok (.getfield 37, 3) := by decide +kernel
theorem dX1_testFact_40 : decode cX1_testFact 40 = .ok (.iload_n 1, 1) := by decide +kernel
theorem dX1_testFact_41 : decode cX1_testFact 41 = .ok (.iaload, 1) := by decide +kernel
theorem dX1_testFact_42 : decode cX1_testFact 42 = .ok (.ireturn, 1) := by decide +kernel
theorem dX1_testFact_43 : decode cX1_testFact 43 = .ok (.aload_n 0, 1) := by decide +kernel
theorem dX1_testFact_44 : decode cX1_testFact 44 = .ok (.getfield 40, 3) := by decide +kernel
theorem dX1_testFact_47 : decode cX1_testFact 47 = .ok (.iload_n 1, 1) := by decide +kernel
theorem dX1_testFact_48 : decode cX1_testFact 48 = .ok (.iaload, 1) := by decide +kernel
theorem dX1_testFact_49 : decode cX1_testFact 49 = .ok (.ireturn, 1) := by decide +kernel
theorem dX1_testFact_50 : decode cX1_testFact 50 = .ok (.aload_n 0, 1) := by decide +kernel
theorem dX1_testFact_51 : decode cX1_testFact 51 = .ok (.getfield 43, 3) := by decide +kernel
theorem dX1_testFact_54 : decode cX1_testFact 54 = .ok (.iload_n 1, 1) := by decide +kernel
theorem dX1_testFact_55 : decode cX1_testFact 55 = .ok (.iaload, 1) := by decide +kernel
theorem dX1_testFact_56 : decode cX1_testFact 56 = .ok (.ireturn, 1) := by decide +kernel
theorem dX1_fitsTests_0 : decode cX1_fitsTests 0 = .ok (.iconst 0, 1) := by decide +kernel
theorem dX1_fitsTests_1 : decode cX1_fitsTests 1 = .ok (.istore_n 2, 1) := by decide +kernel
theorem dX1_fitsTests_2 : decode cX1_fitsTests 2 = .ok (.iload_n 2, 1) := by decide +kernel
theorem dX1_fitsTests_3 : decode cX1_fitsTests 3 = .ok (.aload_n 0, 1) := by decide +kernel
theorem dX1_fitsTests_4 : decode cX1_fitsTests 4 = .ok (.getfield 55, 3) := by decide +kernel
theorem dX1_fitsTests_7 : decode cX1_fitsTests 7 = .ok (.if_icmp .ge 53, 3) := by decide +kernel
theorem dX1_fitsTests_10 : decode cX1_fitsTests 10 = .ok (.iload_n 2, 1) := by decide +kernel
theorem dX1_fitsTests_11 : decode cX1_fitsTests 11 = .ok (.bipush 16, 2) := by decide +kernel
theorem dX1_fitsTests_13 : decode cX1_fitsTests 13 = .ok (.if_icmp .ge 47, 3) := by decide +kernel
theorem dX1_fitsTests_16 : decode cX1_fitsTests 16 = .ok (.iload_n 1, 1) := by decide +kernel
theorem dX1_fitsTests_17 : decode cX1_fitsTests 17 = .ok (.aload_n 0, 1) := by decide +kernel
theorem dX1_fitsTests_18 : decode cX1_fitsTests 18 = .ok (.getfield 46, 3) := by decide +kernel
theorem dX1_fitsTests_21 : decode cX1_fitsTests 21 = .ok (.iload_n 2, 1) := by decide +kernel
theorem dX1_fitsTests_22 : decode cX1_fitsTests 22 = .ok (.iaload, 1) := by decide +kernel
theorem dX1_fitsTests_23 : decode cX1_fitsTests 23 = .ok (.iand, 1) := by decide +kernel
theorem dX1_fitsTests_24 : decode cX1_fitsTests 24 = .ok (.ifCond .eq 7, 3) := by decide +kernel
theorem dX1_fitsTests_27 : decode cX1_fitsTests 27 = .ok (.iconst 1, 1) := by decide +kernel
theorem dX1_fitsTests_28 : decode cX1_fitsTests 28 = .ok (.goto 4, 3) := by decide +kernel
theorem dX1_fitsTests_31 : decode cX1_fitsTests 31 = .ok (.iconst 0, 1) := by decide +kernel
theorem dX1_fitsTests_32 : decode cX1_fitsTests 32 = .ok (.istore_n 3, 1) := by decide +kernel
theorem dX1_fitsTests_33 : decode cX1_fitsTests 33 = .ok (.iload_n 3, 1) := by decide +kernel
theorem dX1_fitsTests_34 : decode cX1_fitsTests 34 = .ok (.aload_n 0, 1) := by decide +kernel
theorem dX1_fitsTests_35 : decode cX1_fitsTests 35 = .ok (.getfield 43, 3) := by decide +kernel
theorem dX1_fitsTests_38 : decode cX1_fitsTests 38 = .ok (.iload_n 2, 1) := by decide +kernel
theorem dX1_fitsTests_39 : decode cX1_fitsTests 39 = .ok (.iaload, 1) := by decide +kernel
theorem dX1_fitsTests_40 : decode cX1_fitsTests 40 = .ok (.iconst 1, 1) := by decide +kernel
theorem dX1_fitsTests_41 : decode cX1_fitsTests 41 = .ok (.if_icmp .ne 7, 3) := by decide +kernel
theorem dX1_fitsTests_44 : decode cX1_fitsTests 44 = .ok (.iconst 1, 1) := by decide +kernel
theorem dX1_fitsTests_45 : decode cX1_fitsTests 45 = .ok (.goto 4, 3) := by decide +kernel
theorem dX1_fitsTests_48 : decode cX1_fitsTests 48 = .ok (.iconst 0, 1) := by decide +kernel
theorem dX1_fitsTests_49 : decode cX1_fitsTests 49 = .ok (.if_icmp .eq 5, 3) := by decide +kernel
theorem dX1_fitsTests_52 : decode cX1_fitsTests 52 = .ok (.iconst 0, 1) := by decide +kernel
theorem dX1_fitsTests_53 : decode cX1_fitsTests 53 = .ok (.ireturn, 1) := by decide +kernel
theorem dX1_fitsTests_54 : decode cX1_fitsTests 54 = .ok (.iinc 2 1, 3) := by decide +kernel
theorem dX1_fitsTests_57 : decode cX1_fitsTests 57 = .ok (.goto (-55), 3) := by decide +kernel
theorem dX1_fitsTests_60 : decode cX1_fitsTests 60 = .ok (.iconst 1, 1) := by decide +kernel
theorem dX1_fitsTests_61 : decode cX1_fitsTests 61 = .ok (.ireturn, 1) := by decide +kernel
theorem dX2_init_0 : decode cX2_init 0 = .ok (.aload_n 0, 1) := by decide +kernel
theorem dX2_init_1 : decode cX2_init 1 = .ok (.invokespecial 3, 3) := by decide +kernel
theorem dX2_init_4 : decode cX2_init 4 = .ok (.aload_n 0, 1) := by decide +kernel
theorem dX2_init_5 : decode cX2_init 5 = .ok (.iconst 4, 1) := by decide +kernel
theorem dX2_init_6 : decode cX2_init 6 = .ok (.anewarray 9, 3) := by decide +kernel
theorem dX2_init_9 : decode cX2_init 9 = .ok (.putfield 11, 3) := by decide +kernel
theorem dX2_init_12 : decode cX2_init 12 = .ok (.iconst 0, 1) := by decide +kernel
theorem dX2_init_13 : decode cX2_init 13 = .ok (.istore_n 1, 1) := by decide +kernel
theorem dX2_init_14 : decode cX2_init 14 = .ok (.iload_n 1, 1) := by decide +kernel
theorem dX2_init_15 : decode cX2_init 15 = .ok (.iconst 4, 1) := by decide +kernel
theorem dX2_init_16 : decode cX2_init 16 = .ok (.if_icmp .ge 22, 3) := by decide +kernel
theorem dX2_init_19 : decode cX2_init 19 = .ok (.aload_n 0, 1) := by decide +kernel
theorem dX2_init_20 : decode cX2_init 20 = .ok (.getfield 11, 3) := by decide +kernel
theorem dX2_init_23 : decode cX2_init 23 = .ok (.iload_n 1, 1) := by decide +kernel
theorem dX2_init_24 : decode cX2_init 24 = .ok (.new 9, 3) := by decide +kernel
theorem dX2_init_27 : decode cX2_init 27 = .ok (.dup, 1) := by decide +kernel
theorem dX2_init_28 : decode cX2_init 28 = .ok (.invokespecial 17, 3) := by decide +kernel
theorem dX2_init_31 : decode cX2_init 31 = .ok (.aastore, 1) := by decide +kernel
theorem dX2_init_32 : decode cX2_init 32 = .ok (.iinc 1 1, 3) := by decide +kernel
theorem dX2_init_35 : decode cX2_init 35 = .ok (.goto (-21), 3) := by decide +kernel
theorem dX2_init_38 : decode cX2_init 38 = .ok (.return_, 1) := by decide +kernel
theorem dX2_push_0 : decode cX2_push 0 = .ok (.aload_n 0, 1) := by decide +kernel
theorem dX2_push_1 : decode cX2_push 1 = .ok (.aload_n 0, 1) := by decide +kernel
theorem dX2_push_2 : decode cX2_push 2 = .ok (.getfield 18, 3) := by decide +kernel
theorem dX2_push_5 : decode cX2_push 5 = .ok (.iconst 1, 1) := by decide +kernel
theorem dX2_push_6 : decode cX2_push 6 = .ok (.iadd, 1) := by decide +kernel
theorem dX2_push_7 : decode cX2_push 7 = .ok (.iconst 4, 1) := by decide +kernel
theorem dX2_push_8 : decode cX2_push 8 = .ok (.if_icmp .ge 12, 3) := by decide +kernel
theorem dX2_push_11 : decode cX2_push 11 = .ok (.aload_n 0, 1) := by decide +kernel
theorem dX2_push_12 : decode cX2_push 12 = .ok (.getfield 18, 3) := by decide +kernel
theorem dX2_push_15 : decode cX2_push 15 = .ok (.iconst 1, 1) := by decide +kernel
theorem dX2_push_16 : decode cX2_push 16 = .ok (.iadd, 1) := by decide +kernel
theorem dX2_push_17 : decode cX2_push 17 = .ok (.goto 4, 3) := by decide +kernel
theorem dX2_push_20 : decode cX2_push 20 = .ok (.iconst 0, 1) := by decide +kernel
theorem dX2_push_21 : decode cX2_push 21 = .ok (.putfield 18, 3) := by decide +kernel
theorem dX2_push_24 : decode cX2_push 24 = .ok (.aload_n 0, 1) := by decide +kernel
theorem dX2_push_25 : decode cX2_push 25 = .ok (.aload_n 0, 1) := by decide +kernel
theorem dX2_push_26 : decode cX2_push 26 = .ok (.getfield 18, 3) := by decide +kernel
theorem dX2_push_29 : decode cX2_push 29 = .ok (.invokevirtual 22, 3) := by decide +kernel
theorem dX2_push_32 : decode cX2_push 32 = .ok (.astore_n 2, 1) := by decide +kernel
theorem dX2_push_33 : decode cX2_push 33 = .ok (.aload_n 2, 1) := by decide +kernel
theorem dX2_push_34 : decode cX2_push 34 = .ok (.ifnull 8, 3) := by decide +kernel
theorem dX2_push_37 : decode cX2_push 37 = .ok (.aload_n 2, 1) := by decide +kernel
theorem dX2_push_38 : decode cX2_push 38 = .ok (.aload_n 1, 1) := by decide +kernel
theorem dX2_push_39 : decode cX2_push 39 = .ok (.invokevirtual 26, 3) := by decide +kernel
theorem dX2_push_42 : decode cX2_push 42 = .ok (.aload_n 0, 1) := by decide +kernel
theorem dX2_push_43 : decode cX2_push 43 = .ok (.aload_n 0, 1) := by decide +kernel
theorem dX2_push_44 : decode cX2_push 44 = .ok (.getfield 30, 3) := by decide +kernel
theorem dX2_push_47 : decode cX2_push 47 = .ok (.iconst 1, 1) := by decide +kernel
theorem dX2_push_48 : decode cX2_push 48 = .ok (.iadd, 1) := by decide +kernel
theorem dX2_push_49 : decode cX2_push 49 = .ok (.iconst 4, 1) := by decide +kernel
theorem dX2_push_50 : decode cX2_push 50 = .ok (.invokestatic 33, 3) := by decide +kernel
theorem dX2_push_53 : decode cX2_push 53 = .ok (.putfield 30, 3) := by decide +kernel
theorem dX2_push_56 : decode cX2_push 56 = .ok (.return_, 1) := by decide +kernel
theorem dX2_popInto_0 : decode cX2_popInto 0 = .ok (.aload_n 0, 1) := by decide +kernel
theorem dX2_popInto_1 : decode cX2_popInto 1 = .ok (.aload_n 0, 1) := by decide +kernel
theorem dX2_popInto_2 : decode cX2_popInto 2 = .ok (.getfield 18, 3) := by decide +kernel
theorem dX2_popInto_5 : decode cX2_popInto 5 = .ok (.invokevirtual 22, 3) := by decide +kernel
theorem dX2_popInto_8 : decode cX2_popInto 8 = .ok (.astore_n 2, 1) := by decide +kernel
theorem dX2_popInto_9 : decode cX2_popInto 9 = .ok (.aload_n 2, 1) := by decide +kernel
theorem dX2_popInto_10 : decode cX2_popInto 10 = .ok (.ifnull 8, 3) := by decide +kernel
theorem dX2_popInto_13 : decode cX2_popInto 13 = .ok (.aload_n 1, 1) := by decide +kernel
theorem dX2_popInto_14 : decode cX2_popInto 14 = .ok (.aload_n 2, 1) := by decide +kernel
theorem dX2_popInto_15 : decode cX2_popInto 15 = .ok (.invokevirtual 26, 3) := by decide +kernel
theorem dX2_popInto_18 : decode cX2_popInto 18 = .ok (.aload_n 0, 1) := by decide +kernel
theorem dX2_popInto_19 : decode cX2_popInto 19 = .ok (.aload_n 0, 1) := by decide +kernel
theorem dX2_popInto_20 : decode cX2_popInto 20 = .ok (.getfield 18, 3) := by decide +kernel
theorem dX2_popInto_23 : decode cX2_popInto 23 = .ok (.ifCond .le 12, 3) := by decide +kernel
theorem dX2_popInto_26 : decode cX2_popInto 26 = .ok (.aload_n 0, 1) := by decide +kernel
theorem dX2_popInto_27 : decode cX2_popInto 27 = .ok (.getfield 18, 3) := by decide +kernel
theorem dX2_popInto_30 : decode cX2_popInto 30 = .ok (.iconst 1, 1) := by decide +kernel
theorem dX2_popInto_31 : decode cX2_popInto 31 = .ok (.isub, 1) := by decide +kernel
theorem dX2_popInto_32 : decode cX2_popInto 32 = .ok (.goto 4, 3) := by decide +kernel
theorem dX2_popInto_35 : decode cX2_popInto 35 = .ok (.iconst 3, 1) := by decide +kernel
theorem dX2_popInto_36 : decode cX2_popInto 36 = .ok (.putfield 18, 3) := by decide +kernel
theorem dX2_popInto_39 : decode cX2_popInto 39 = .ok (.aload_n 0, 1) := by decide +kernel
theorem dX2_popInto_40 : decode cX2_popInto 40 = .ok (.aload_n 0, 1) := by decide +kernel
theorem dX2_popInto_41 : decode cX2_popInto 41 = .ok (.getfield 30, 3) := by decide +kernel
theorem dX2_popInto_44 : decode cX2_popInto 44 = .ok (.iconst 1, 1) := by decide +kernel
theorem dX2_popInto_45 : decode cX2_popInto 45 = .ok (.isub, 1) := by decide +kernel
theorem dX2_popInto_46 : decode cX2_popInto 46 = .ok (.iconst 0, 1) := by decide +kernel
theorem dX2_popInto_47 : decode cX2_popInto 47 = .ok (.invokestatic 39, 3) := by decide +kernel
theorem dX2_popInto_50 : decode cX2_popInto 50 = .ok (.putfield 30, 3) := by decide +kernel
theorem dX2_popInto_53 : decode cX2_popInto 53 = .ok (.return_, 1) := by decide +kernel
theorem dX2_deskAt_0 : decode cX2_deskAt 0 = .ok (.iload_n 1, 1) := by decide +kernel
theorem dX2_deskAt_1 : decode cX2_deskAt 1 = .ok (.ifCond .lt 17, 3) := by decide +kernel
theorem dX2_deskAt_4 : decode cX2_deskAt 4 = .ok (.iload_n 1, 1) := by decide +kernel
theorem dX2_deskAt_5 : decode cX2_deskAt 5 = .ok (.iconst 4, 1) := by decide +kernel
theorem dX2_deskAt_6 : decode cX2_deskAt 6 = .ok (.if_icmp .ge 12, 3) := by decide +kernel
theorem dX2_deskAt_9 : decode cX2_deskAt 9 = .ok (.aload_n 0, 1) := by decide +kernel
theorem dX2_deskAt_10 : decode cX2_deskAt 10 = .ok (.getfield 11, 3) := by decide +kernel
theorem dX2_deskAt_13 : decode cX2_deskAt 13 = .ok (.iload_n 1, 1) := by decide +kernel
theorem dX2_deskAt_14 : decode cX2_deskAt 14 = .ok (.aaload, 1) := by decide +kernel
theorem dX2_deskAt_15 : decode cX2_deskAt 15 = .ok (.goto 4, 3) := by decide +kernel
theorem dX2_deskAt_18 : decode cX2_deskAt 18 = .ok (.aconst_null, 1) := by decide +kernel
theorem dX2_deskAt_19 : decode cX2_deskAt 19 = .ok (.areturn, 1) := by decide +kernel
theorem dX3_init_0 : decode cX3_init 0 = .ok (.aload_n 0, 1) := by decide +kernel
theorem dX3_init_1 : decode cX3_init 1 = .ok (.invokespecial 3, 3) := by decide +kernel
theorem dX3_init_4 : decode cX3_init 4 = .ok (.aload_n 0, 1) := by decide +kernel
theorem dX3_init_5 : decode cX3_init 5 = .ok (.sipush 3240, 3) := by decide +kernel
theorem dX3_init_8 : decode cX3_init 8 = .ok (.newarray .int, 2) := by decide +kernel
theorem dX3_init_10 : decode cX3_init 10 = .ok (.putfield 11, 3) := by decide +kernel
theorem dX3_init_13 : decode cX3_init 13 = .ok (.return_, 1) := by decide +kernel
theorem dX3_gather_0 : decode cX3_gather 0 = .ok (.aload_n 0, 1) := by decide +kernel
theorem dX3_gather_1 : decode cX3_gather 1 = .ok (.iconst 0, 1) := by decide +kernel
theorem dX3_gather_2 : decode cX3_gather 2 = .ok (.putfield 15, 3) := by decide +kernel
theorem dX3_gather_5 : decode cX3_gather 5 = .ok (.aload_n 1, 1) := by decide +kernel
theorem dX3_gather_6 : decode cX3_gather 6 = .ok (.getfield 19, 3) := by decide +kernel
theorem dX3_gather_9 : decode cX3_gather 9 = .ok (.iconst 1, 1) := by decide +kernel
theorem dX3_gather_10 : decode cX3_gather 10 = .ok (.iand, 1) := by decide +kernel
theorem dX3_gather_11 : decode cX3_gather 11 = .ok (.ifCond .eq 10, 3) := by decide +kernel
theorem dX3_gather_14 : decode cX3_gather 14 = .ok (.aload_n 0, 1) := by decide +kernel
theorem dX3_gather_15 : decode cX3_gather 15 = .ok (.aload_n 1, 1) := by decide +kernel
theorem dX3_gather_16 : decode cX3_gather 16 = .ok (.iload_n 2, 1) := by decide +kernel
theorem dX3_gather_17 : decode cX3_gather 17 = .ok (.iconst 0, 1) := by decide +kernel
theorem dX3_gather_18 : decode cX3_gather 18 = .ok (.invokevirtual 24, 3) := by decide +kernel
theorem dX3_gather_21 : decode cX3_gather 21 = .ok (.aload_n 1, 1) := by decide +kernel
theorem dX3_gather_22 : decode cX3_gather 22 = .ok (.getfield 19, 3) := by decide +kernel
theorem dX3_gather_25 : decode cX3_gather 25 = .ok (.iconst 2, 1) := by decide +kernel
theorem dX3_gather_26 : decode cX3_gather 26 = .ok (.iand, 1) := by decide +kernel
theorem dX3_gather_27 : decode cX3_gather 27 = .ok (.ifCond .eq 9, 3) := by decide +kernel
theorem dX3_gather_30 : decode cX3_gather 30 = .ok (.aload_n 0, 1) := by decide +kernel
theorem dX3_gather_31 : decode cX3_gather 31 = .ok (.aload_n 1, 1) := by decide +kernel
theorem dX3_gather_32 : decode cX3_gather 32 = .ok (.iload_n 2, 1) := by decide +kernel
theorem dX3_gather_33 : decode cX3_gather 33 = .ok (.invokevirtual 28, 3) := by decide +kernel
theorem dX3_gather_36 : decode cX3_gather 36 = .ok (.aload_n 1, 1) := by decide +kernel
theorem dX3_gather_37 : decode cX3_gather 37 = .ok (.getfield 19, 3) := by decide +kernel
theorem dX3_gather_40 : decode cX3_gather 40 = .ok (.iconst 4, 1) := by decide +kernel
theorem dX3_gather_41 : decode cX3_gather 41 = .ok (.iand, 1) := by decide +kernel
theorem dX3_gather_42 : decode cX3_gather 42 = .ok (.ifCond .eq 10, 3) := by decide +kernel
theorem dX3_gather_45 : decode cX3_gather 45 = .ok (.aload_n 0, 1) := by decide +kernel
theorem dX3_gather_46 : decode cX3_gather 46 = .ok (.aload_n 1, 1) := by decide +kernel
theorem dX3_gather_47 : decode cX3_gather 47 = .ok (.iload_n 2, 1) := by decide +kernel
theorem dX3_gather_48 : decode cX3_gather 48 = .ok (.iconst 2, 1) := by decide +kernel
theorem dX3_gather_49 : decode cX3_gather 49 = .ok (.invokevirtual 24, 3) := by decide +kernel
theorem dX3_gather_52 : decode cX3_gather 52 = .ok (.return_, 1) := by decide +kernel
theorem dX3_gatherPairs_0 : decode cX3_gatherPairs 0 = .ok (.iload_n 3, 1) := by decide +kernel
theorem dX3_gatherPairs_1 : decode cX3_gatherPairs 1 = .ok (.ifCond .ne 7, 3) := by decide +kernel
theorem dX3_gatherPairs_4 : decode cX3_gatherPairs 4 = .ok (.iconst 2, 1) := by decide +kernel
theorem dX3_gatherPairs_5 : decode cX3_gatherPairs 5 = .ok (.goto 4, 3) := by decide +kernel
theorem dX3_gatherPairs_8 : decode cX3_gatherPairs 8 = .ok (.iconst 3, 1) := by decide +kernel
theorem dX3_gatherPairs_9 : decode cX3_gatherPairs 9 = .ok (.istore 4, 2) := by decide +kernel
theorem dX3_gatherPairs_11 : decode cX3_gatherPairs 11 = .ok (.iload 4, 2) := by decide +kernel
theorem dX3_gatherPairs_13 : decode cX3_gatherPairs 13 = .ok (.iconst 1, 1) := by decide +kernel
theorem dX3_gatherPairs_14 : decode cX3_gatherPairs 14 = .ok (.isub, 1) := by decide +kernel
theorem dX3_gatherPairs_15 : decode cX3_gatherPairs 15 = .ok (.istore 5, 2) := by decide +kernel
theorem dX3_gatherPairs_17 : decode cX3_gatherPairs 17 = .ok (.iload_n 3, 1) := by decide +kernel
theorem dX3_gatherPairs_18 : decode cX3_gatherPairs 18 = .ok (.ifCond .ne 10, 3) := by decide +kernel
theorem dX3_gatherPairs_21 : decode cX3_gatherPairs 21 = .ok (.aload_n 1, 1) := by decide +kernel
theorem dX3_gatherPairs_22 : decode cX3_gatherPairs 22 = .ok (.getfield 32, 3) := by decide +kernel
theorem dX3_gatherPairs_25 : decode cX3_gatherPairs 25 = .ok (.goto 7, 3) := by decide +kernel
theorem dX3_gatherPairs_28 : decode cX3_gatherPairs 28 = .ok (.aload_n 1, 1) := by decide +kernel
theorem dX3_gatherPairs_29 : decode cX3_gatherPairs 29 = .ok (.getfield 35, 3) := by decide +kernel
theorem dX3_gatherPairs_32 : decode cX3_gatherPairs 32 = .ok (.istore 6, 2) := by decide +kernel
theorem dX3_gatherPairs_34 : decode cX3_gatherPairs 34 = .ok (.iconst 0, 1) := by decide +kernel
theorem dX3_gatherPairs_35 : decode cX3_gatherPairs 35 = .ok (.istore 7, 2) := by decide +kernel
theorem dX3_gatherPairs_37 : decode cX3_gatherPairs 37 = .ok (.iload 7, 2) := by decide +kernel
theorem dX3_gatherPairs_39 : decode cX3_gatherPairs 39 = .ok (.aload_n 1, 1) := by decide +kernel
theorem dX3_gatherPairs_40 : decode cX3_gatherPairs 40 = .ok (.getfield 38, 3) := by decide +kernel
theorem dX3_gatherPairs_43 : decode cX3_gatherPairs 43 = .ok (.if_icmp .ge 113, 3) := by decide +kernel
theorem dX3_gatherPairs_46 : decode cX3_gatherPairs 46 = .ok (.iconst 0, 1) := by decide +kernel
theorem dX3_gatherPairs_47 : decode cX3_gatherPairs 47 = .ok (.istore 8, 2) := by decide +kernel
theorem dX3_gatherPairs_49 : decode cX3_gatherPairs 49 = .ok (.iload 8, 2) := by decide +kernel
theorem dX3_gatherPairs_51 : decode cX3_gatherPairs 51 = .ok (.aload_n 1, 1) := by decide +kernel
theorem dX3_gatherPairs_52 : decode cX3_gatherPairs 52 = .ok (.getfield 38, 3) := by decide +kernel
theorem dX3_gatherPairs_55 : decode cX3_gatherPairs 55 = .ok (.if_icmp .ge 95, 3) := by decide +kernel
theorem dX3_gatherPairs_58 : decode cX3_gatherPairs 58 = .ok (.iload 7, 2) := by decide +kernel
theorem dX3_gatherPairs_60 : decode cX3_gatherPairs 60 = .ok (.iload 8, 2) := by decide +kernel
theorem dX3_gatherPairs_62 : decode cX3_gatherPairs 62 = .ok (.if_icmp .eq 82, 3) := by decide +kernel
theorem dX3_gatherPairs_65 : decode cX3_gatherPairs 65 = .ok (.iload 7, 2) := by decide +kernel
theorem dX3_gatherPairs_67 : decode cX3_gatherPairs 67 = .ok (.iload_n 2, 1) := by decide +kernel
theorem dX3_gatherPairs_68 : decode cX3_gatherPairs 68 = .ok (.i2l, 1) := by decide +kernel
theorem dX3_gatherPairs_69 : decode cX3_gatherPairs 69 = .ok (.invokestatic 41, 3) := by decide +kernel
theorem dX3_gatherPairs_72 : decode cX3_gatherPairs 72 = .ok (.ifCond .eq 72, 3) := by decide +kernel
theorem dX3_gatherPairs_75 : decode cX3_gatherPairs 75 = .ok (.iload 8, 2) := by decide +kernel
theorem dX3_gatherPairs_77 : decode cX3_gatherPairs 77 = .ok (.iload_n 2, 1) := by decide +kernel
theorem dX3_gatherPairs_78 : decode cX3_gatherPairs 78 = .ok (.i2l, 1) := by decide +kernel
theorem dX3_gatherPairs_79 : decode cX3_gatherPairs 79 = .ok (.invokestatic 41, 3) := by decide +kernel
theorem dX3_gatherPairs_82 : decode cX3_gatherPairs 82 = .ok (.ifCond .eq 62, 3) := by decide +kernel
theorem dX3_gatherPairs_85 : decode cX3_gatherPairs 85 = .ok (.iload 4, 2) := by decide +kernel
theorem dX3_gatherPairs_87 : decode cX3_gatherPairs 87 = .ok (.aload_n 1, 1) := by decide +kernel
theorem dX3_gatherPairs_88 : decode cX3_gatherPairs 88 = .ok (.iload 7, 2) := by decide +kernel
theorem dX3_gatherPairs_90 : decode cX3_gatherPairs 90 = .ok (.invokevirtual 45, 3) := by decide +kernel
theorem dX3_gatherPairs_93 : decode cX3_gatherPairs 93 = .ok (.imul, 1) := by decide +kernel
theorem dX3_gatherPairs_94 : decode cX3_gatherPairs 94 = .ok (.iload 5, 2) := by decide +kernel
theorem dX3_gatherPairs_96 : decode cX3_gatherPairs 96 = .ok (.aload_n 1, 1) := by decide +kernel
theorem dX3_gatherPairs_97 : decode cX3_gatherPairs 97 = .ok (.iload 8, 2) := by decide +kernel
theorem dX3_gatherPairs_99 : decode cX3_gatherPairs 99 = .ok (.invokevirtual 45, 3) := by decide +kernel
theorem dX3_gatherPairs_102 : decode cX3_gatherPairs 102 = .ok (.imul, 1) := by decide +kernel
theorem dX3_gatherPairs_103 : decode cX3_gatherPairs 103 = .ok (.isub, 1) := by decide +kernel
theorem dX3_gatherPairs_104 : decode cX3_gatherPairs 104 = .ok (.istore 9, 2) := by decide +kernel
theorem dX3_gatherPairs_106 : decode cX3_gatherPairs 106 = .ok (.iload 4, 2) := by decide +kernel
theorem dX3_gatherPairs_108 : decode cX3_gatherPairs 108 = .ok (.aload_n 1, 1) := by decide +kernel
theorem dX3_gatherPairs_109 : decode cX3_gatherPairs 109 = .ok (.iload 7, 2) := by decide +kernel
theorem dX3_gatherPairs_111 : decode cX3_gatherPairs 111 = .ok (.invokevirtual 49, 3) := by decide +kernel
theorem dX3_gatherPairs_114 : decode cX3_gatherPairs 114 = .ok (.imul, 1) := by decide +kernel
theorem dX3_gatherPairs_115 : decode cX3_gatherPairs 115 = .ok (.iload 5, 2) := by decide +kernel
theorem dX3_gatherPairs_117 : decode cX3_gatherPairs 117 = .ok (.aload_n 1, 1) := by decide +kernel
theorem dX3_gatherPairs_118 : decode cX3_gatherPairs 118 = .ok (.iload 8, 2) := by decide +kernel
theorem dX3_gatherPairs_120 : decode cX3_gatherPairs 120 = .ok (.invokevirtual 49, 3) := by decide +kernel
theorem dX3_gatherPairs_123 : decode cX3_gatherPairs 123 = .ok (.imul, 1) := by decide +kernel
theorem dX3_gatherPairs_124 : decode cX3_gatherPairs 124 = .ok (.iadd, 1) := by decide +kernel
theorem dX3_gatherPairs_125 : decode cX3_gatherPairs 125 = .ok (.iload 6, 2) := by decide +kernel
theorem dX3_gatherPairs_127 : decode cX3_gatherPairs 127 = .ok (.isub, 1) := by decide +kernel
theorem dX3_gatherPairs_128 : decode cX3_gatherPairs 128 = .ok (.istore 10, 2) := by decide +kernel
theorem dX3_gatherPairs_130 : decode cX3_gatherPairs 130 = .ok (.aload_n 0, 1) := by decide +kernel
theorem dX3_gatherPairs_131 : decode cX3_gatherPairs 131 = .ok (.iload_n 3, 1) := by decide +kernel
theorem dX3_gatherPairs_132 : decode cX3_gatherPairs 132 = .ok (.iload 7, 2) := by decide +kernel
theorem dX3_gatherPairs_134 : decode cX3_gatherPairs 134 = .ok (.iload 8, 2) := by decide +kernel
theorem dX3_gatherPairs_136 : decode cX3_gatherPairs 136 = .ok (.iconst (-1), 1) := by decide +kernel
theorem dX3_gatherPairs_137 : decode cX3_gatherPairs 137 = .ok (.iload 9, 2) := by decide +kernel
theorem dX3_gatherPairs_139 : decode cX3_gatherPairs 139 = .ok (.iload 10, 2) := by decide +kernel
theorem dX3_gatherPairs_141 : decode cX3_gatherPairs 141 = .ok (.invokevirtual 52, 3) := by decide +kernel
theorem dX3_gatherPairs_144 : decode cX3_gatherPairs 144 = .ok (.iinc 8 1, 3) := by decide +kernel
theorem dX3_gatherPairs_147 : decode cX3_gatherPairs 147 = .ok (.goto (-98), 3) := by decide +kernel
theorem dX3_gatherPairs_150 : decode cX3_gatherPairs 150 = .ok (.iinc 7 1, 3) := by decide +kernel
theorem dX3_gatherPairs_153 : decode cX3_gatherPairs 153 = .ok (.goto (-116), 3) := by decide +kernel
theorem dX3_gatherPairs_156 : decode cX3_gatherPairs 156 = .ok (.return_, 1) := by decide +kernel
theorem dX3_gatherTriples_0 : decode cX3_gatherTriples 0 = .ok (.iconst 0, 1) := by decide +kernel
theorem dX3_gatherTriples_1 : decode cX3_gatherTriples 1 = .ok (.istore_n 3, 1) := by decide +kernel
theorem dX3_gatherTriples_2 : decode cX3_gatherTriples 2 = .ok (.iload_n 3, 1) := by decide +kernel
theorem dX3_gatherTriples_3 : decode cX3_gatherTriples 3 = .ok (.aload_n 1, 1) := by decide +kernel
theorem dX3_gatherTriples_4 : decode cX3_gatherTriples 4 = .ok (.getfield 38, 3) := by decide +kernel
theorem dX3_gatherTriples_7 : decode cX3_gatherTriples 7 = .ok (.if_icmp .ge 150, 3) := by decide +kernel
theorem dX3_gatherTriples_10 : decode cX3_gatherTriples 10 = .ok (.iload_n 3, 1) := by decide +kernel
theorem dX3_gatherTriples_11 : decode cX3_gatherTriples 11 = .ok (.iconst 1, 1) := by decide +kernel
theorem dX3_gatherTriples_12 : decode cX3_gatherTriples 12 = .ok (.iadd, 1) := by decide +kernel
theorem dX3_gatherTriples_13 : decode cX3_gatherTriples 13 = .ok (.istore 4, 2) := by decide +kernel
theorem dX3_gatherTriples_15 : decode cX3_gatherTriples 15 = .ok (.iload 4, 2) := by decide +kernel
theorem dX3_gatherTriples_17 : decode cX3_gatherTriples 17 = .ok (.aload_n 1, 1) := by decide +kernel
theorem dX3_gatherTriples_18 : decode cX3_gatherTriples 18 = .ok (.getfield 38, 3) := by decide +kernel
theorem dX3_gatherTriples_21 : decode cX3_gatherTriples 21 = .ok (.if_icmp .ge 130, 3) := by decide +kernel
theorem dX3_gatherTriples_24 : decode cX3_gatherTriples 24 = .ok (.iconst 0, 1) := by decide +kernel
theorem dX3_gatherTriples_25 : decode cX3_gatherTriples 25 = .ok (.istore 5, 2) := by decide +kernel
theorem dX3_gatherTriples_27 : decode cX3_gatherTriples 27 = .ok (.iload 5, 2) := by decide +kernel
theorem dX3_gatherTriples_29 : decode cX3_gatherTriples 29 = .ok (.aload_n 1, 1) := by decide +kernel
theorem dX3_gatherTriples_30 : decode cX3_gatherTriples 30 = .ok (.getfield 38, 3) := by decide +kernel
theorem dX3_gatherTriples_33 : decode cX3_gatherTriples 33 = .ok (.if_icmp .ge 112, 3) := by decide +kernel
theorem dX3_gatherTriples_36 : decode cX3_gatherTriples 36 = .ok (.iload 5, 2) := by decide +kernel
theorem dX3_gatherTriples_38 : decode cX3_gatherTriples 38 = .ok (.iload_n 3, 1) := by decide +kernel
theorem dX3_gatherTriples_39 : decode cX3_gatherTriples 39 = .ok (.if_icmp .eq 100, 3) := by decide +kernel
theorem dX3_gatherTriples_42 : decode cX3_gatherTriples 42 = .ok (.iload 5, 2) := by decide +kernel
theorem dX3_gatherTriples_44 : decode cX3_gatherTriples 44 = .ok (.iload 4, 2) := by decide +kernel
theorem dX3_gatherTriples_46 : decode cX3_gatherTriples 46 = .ok (.if_icmp .eq 93, 3) := by decide +kernel
theorem dX3_gatherTriples_49 : decode cX3_gatherTriples 49 = .ok (.iload_n 3, 1) := by decide +kernel
theorem dX3_gatherTriples_50 : decode cX3_gatherTriples 50 = .ok (.iload_n 2, 1) := by decide +kernel
theorem dX3_gatherTriples_51 : decode cX3_gatherTriples 51 = .ok (.i2l, 1) := by decide +kernel
theorem dX3_gatherTriples_52 : decode cX3_gatherTriples 52 = .ok (.invokestatic 41, 3) := by decide +kernel
theorem dX3_gatherTriples_55 : decode cX3_gatherTriples 55 = .ok (.ifCond .eq 84, 3) := by decide +kernel
theorem dX3_gatherTriples_58 : decode cX3_gatherTriples 58 = .ok (.iload 4, 2) := by decide +kernel
theorem dX3_gatherTriples_60 : decode cX3_gatherTriples 60 = .ok (.iload_n 2, 1) := by decide +kernel
theorem dX3_gatherTriples_61 : decode cX3_gatherTriples 61 = .ok (.i2l, 1) := by decide +kernel
theorem dX3_gatherTriples_62 : decode cX3_gatherTriples 62 = .ok (.invokestatic 41, 3) := by decide +kernel
theorem dX3_gatherTriples_65 : decode cX3_gatherTriples 65 = .ok (.ifCond .eq 74, 3) := by decide +kernel
theorem dX3_gatherTriples_68 : decode cX3_gatherTriples 68 = .ok (.iload 5, 2) := by decide +kernel
theorem dX3_gatherTriples_70 : decode cX3_gatherTriples 70 = .ok (.iload_n 2, 1) := by decide +kernel
theorem dX3_gatherTriples_71 : decode cX3_gatherTriples 71 = .ok (.i2l, 1) := by decide +kernel
theorem dX3_gatherTriples_72 : decode cX3_gatherTriples 72 = .ok (.invokestatic 41, 3) := by decide +kernel
theorem dX3_gatherTriples_75 : decode cX3_gatherTriples 75 = .ok (.ifCond .eq 64, 3) := by decide +kernel
theorem dX3_gatherTriples_78 : decode cX3_gatherTriples 78 = .ok (.aload_n 1, 1) := by decide +kernel
theorem dX3_gatherTriples_79 : decode cX3_gatherTriples 79 = .ok (.iload_n 3, 1) := by decide +kernel
theorem dX3_gatherTriples_80 : decode cX3_gatherTriples 80 = .ok (.invokevirtual 45, 3) := by decide +kernel
theorem dX3_gatherTriples_83 : decode cX3_gatherTriples 83 = .ok (.aload_n 1, 1) := by decide +kernel
theorem dX3_gatherTriples_84 : decode cX3_gatherTriples 84 = .ok (.iload 4, 2) := by decide +kernel
theorem dX3_gatherTriples_86 : decode cX3_gatherTriples 86 = .ok (.invokevirtual 45, 3) := by decide +kernel
theorem dX3_gatherTriples_89 : decode cX3_gatherTriples 89 = .ok (.iadd, 1) := by decide +kernel
theorem dX3_gatherTriples_90 : decode cX3_gatherTriples 90 = .ok (.aload_n 1, 1) := by decide +kernel
theorem dX3_gatherTriples_91 : decode cX3_gatherTriples 91 = .ok (.iload 5, 2) := by decide +kernel
theorem dX3_gatherTriples_93 : decode cX3_gatherTriples 93 = .ok (.invokevirtual 45, 3) := by decide +kernel
theorem dX3_gatherTriples_96 : decode cX3_gatherTriples 96 = .ok (.isub, 1) := by decide +kernel
theorem dX3_gatherTriples_97 : decode cX3_gatherTriples 97 = .ok (.istore 6, 2) := by decide +kernel
theorem dX3_gatherTriples_99 : decode cX3_gatherTriples 99 = .ok (.aload_n 1, 1) := by decide +kernel
theorem dX3_gatherTriples_100 : decode cX3_gatherTriples 100 = .ok (.iload_n 3, 1) := by decide +kernel
theorem dX3_gatherTriples_101 : decode cX3_gatherTriples 101 = .ok (.invokevirtual 49, 3) := by decide +kernel
theorem dX3_gatherTriples_104 : decode cX3_gatherTriples 104 = .ok (.aload_n 1, 1) := by decide +kernel
theorem dX3_gatherTriples_105 : decode cX3_gatherTriples 105 = .ok (.iload 4, 2) := by decide +kernel
theorem dX3_gatherTriples_107 : decode cX3_gatherTriples 107 = .ok (.invokevirtual 49, 3) := by decide +kernel
theorem dX3_gatherTriples_110 : decode cX3_gatherTriples 110 = .ok (.iadd, 1) := by decide +kernel
theorem dX3_gatherTriples_111 : decode cX3_gatherTriples 111 = .ok (.aload_n 1, 1) := by decide +kernel
theorem dX3_gatherTriples_112 : decode cX3_gatherTriples 112 = .ok (.iload 5, 2) := by decide +kernel
theorem dX3_gatherTriples_114 : decode cX3_gatherTriples 114 = .ok (.invokevirtual 49, 3) := by decide +kernel
theorem dX3_gatherTriples_117 : decode cX3_gatherTriples 117 = .ok (.iadd, 1) := by decide +kernel
theorem dX3_gatherTriples_118 : decode cX3_gatherTriples 118 = .ok (.aload_n 1, 1) := by decide +kernel
theorem dX3_gatherTriples_119 : decode cX3_gatherTriples 119 = .ok (.getfield 32, 3) := by decide +kernel
theorem dX3_gatherTriples_122 : decode cX3_gatherTriples 122 = .ok (.isub, 1) := by decide +kernel
theorem dX3_gatherTriples_123 : decode cX3_gatherTriples 123 = .ok (.istore 7, 2) := by decide +kernel
theorem dX3_gatherTriples_125 : decode cX3_gatherTriples 125 = .ok (.aload_n 0, 1) := by decide +kernel
theorem dX3_gatherTriples_126 : decode cX3_gatherTriples 126 = .ok (.iconst 1, 1) := by decide +kernel
theorem dX3_gatherTriples_127 : decode cX3_gatherTriples 127 = .ok (.iload_n 3, 1) := by decide +kernel
theorem dX3_gatherTriples_128 : decode cX3_gatherTriples 128 = .ok (.iload 4, 2) := by decide +kernel
theorem dX3_gatherTriples_130 : decode cX3_gatherTriples 130 = .ok (.iload 5, 2) := by decide +kernel
theorem dX3_gatherTriples_132 : decode cX3_gatherTriples 132 = .ok (.iload 6, 2) := by decide +kernel
theorem dX3_gatherTriples_134 : decode cX3_gatherTriples 134 = .ok (.iload 7, 2) := by decide +kernel
theorem dX3_gatherTriples_136 : decode cX3_gatherTriples 136 = .ok (.invokevirtual 52, 3) := by decide +kernel
theorem dX3_gatherTriples_139 : decode cX3_gatherTriples 139 = .ok (.iinc 5 1, 3) := by decide +kernel
theorem dX3_gatherTriples_142 : decode cX3_gatherTriples 142 = .ok (.goto (-115), 3) := by decide +kernel
theorem dX3_gatherTriples_145 : decode cX3_gatherTriples 145 = .ok (.iinc 4 1, 3) := by decide +kernel
theorem dX3_gatherTriples_148 : decode cX3_gatherTriples 148 = .ok (.goto (-133), 3) := by decide +kernel
theorem dX3_gatherTriples_151 : decode cX3_gatherTriples 151 = .ok (.iinc 3 1, 3) := by decide +kernel
theorem dX3_gatherTriples_154 : decode cX3_gatherTriples 154 = .ok (.goto (-152), 3) := by decide +kernel
theorem dX3_gatherTriples_157 : decode cX3_gatherTriples 157 = .ok (.return_, 1) := by decide +kernel
theorem dX3_put_0 : decode cX3_put 0 = .ok (.iload 5, 2) := by decide +kernel
theorem dX3_put_2 : decode cX3_put 2 = .ok (.invokestatic 56, 3) := by decide +kernel
theorem dX3_put_5 : decode cX3_put 5 = .ok (.ifCond .eq 25, 3) := by decide +kernel
theorem dX3_put_8 : decode cX3_put 8 = .ok (.iload 6, 2) := by decide +kernel
theorem dX3_put_10 : decode cX3_put 10 = .ok (.ifCond .lt 20, 3) := by decide +kernel
theorem dX3_put_13 : decode cX3_put 13 = .ok (.aload_n 0, 1) := by decide +kernel
theorem dX3_put_14 : decode cX3_put 14 = .ok (.getfield 15, 3) := by decide +kernel
theorem dX3_put_17 : decode cX3_put 17 = .ok (.ifCond .lt 13, 3) := by decide +kernel
theorem dX3_put_20 : decode cX3_put 20 = .ok (.aload_n 0, 1) := by decide +kernel
theorem dX3_put_21 : decode cX3_put 21 = .ok (.getfield 15, 3) := by decide +kernel
theorem dX3_put_24 : decode cX3_put 24 = .ok (.sipush 540, 3) := by decide +kernel
theorem dX3_put_27 : decode cX3_put 27 = .ok (.if_icmp .lt 4, 3) := by decide +kernel
theorem dX3_put_30 : decode cX3_put 30 = .ok (.return_, 1) := by decide +kernel
theorem dX3_put_31 : decode cX3_put 31 = .ok (.bipush 6, 2) := by decide +kernel
theorem dX3_put_33 : decode cX3_put 33 = .ok (.aload_n 0, 1) := by decide +kernel
theorem dX3_put_34 : decode cX3_put 34 = .ok (.getfield 15, 3) := by decide +kernel
theorem dX3_put_37 : decode cX3_put 37 = .ok (.imul, 1) := by decide +kernel
theorem dX3_put_38 : decode cX3_put 38 = .ok (.istore 7, 2) := by decide +kernel
theorem dX3_put_40 : decode cX3_put 40 = .ok (.aload_n 0, 1) := by decide +kernel
theorem dX3_put_41 : decode cX3_put 41 = .ok (.getfield 11, 3) := by decide +kernel
theorem dX3_put_44 : decode cX3_put 44 = .ok (.iload 7, 2) := by decide +kernel
theorem dX3_put_46 : decode cX3_put 46 = .ok (.iload_n 1, 1) := by decide +kernel
theorem dX3_put_47 : decode cX3_put 47 = .ok (.iastore, 1) := by decide +kernel
theorem dX3_put_48 : decode cX3_put 48 = .ok (.aload_n 0, 1) := by decide +kernel
theorem dX3_put_49 : decode cX3_put 49 = .ok (.getfield 11, 3) := by decide +kernel
theorem dX3_put_52 : decode cX3_put 52 = .ok (.iload 7, 2) := by decide +kernel
theorem dX3_put_54 : decode cX3_put 54 = .ok (.iconst 1, 1) := by decide +kernel
theorem dX3_put_55 : decode cX3_put 55 = .ok (.iadd, 1) := by decide +kernel
theorem dX3_put_56 : decode cX3_put 56 = .ok (.iload_n 2, 1) := by decide +kernel
theorem dX3_put_57 : decode cX3_put 57 = .ok (.iastore, 1) := by decide +kernel
theorem dX3_put_58 : decode cX3_put 58 = .ok (.aload_n 0, 1) := by decide +kernel
theorem dX3_put_59 : decode cX3_put 59 = .ok (.getfield 11, 3) := by decide +kernel
theorem dX3_put_62 : decode cX3_put 62 = .ok (.iload 7, 2) := by decide +kernel
theorem dX3_put_64 : decode cX3_put 64 = .ok (.iconst 2, 1) := by decide +kernel
theorem dX3_put_65 : decode cX3_put 65 = .ok (.iadd, 1) := by decide +kernel
theorem dX3_put_66 : decode cX3_put 66 = .ok (.iload_n 3, 1) := by decide +kernel
theorem dX3_put_67 : decode cX3_put 67 = .ok (.iastore, 1) := by decide +kernel
theorem dX3_put_68 : decode cX3_put 68 = .ok (.aload_n 0, 1) := by decide +kernel
theorem dX3_put_69 : decode cX3_put 69 = .ok (.getfield 11, 3) := by decide +kernel
theorem dX3_put_72 : decode cX3_put 72 = .ok (.iload 7, 2) := by decide +kernel
theorem dX3_put_74 : decode cX3_put 74 = .ok (.iconst 3, 1) := by decide +kernel
theorem dX3_put_75 : decode cX3_put 75 = .ok (.iadd, 1) := by decide +kernel
theorem dX3_put_76 : decode cX3_put 76 = .ok (.iload 4, 2) := by decide +kernel
theorem dX3_put_78 : decode cX3_put 78 = .ok (.iastore, 1) := by decide +kernel
theorem dX3_put_79 : decode cX3_put 79 = .ok (.aload_n 0, 1) := by decide +kernel
theorem dX3_put_80 : decode cX3_put 80 = .ok (.getfield 11, 3) := by decide +kernel
theorem dX3_put_83 : decode cX3_put 83 = .ok (.iload 7, 2) := by decide +kernel
theorem dX3_put_85 : decode cX3_put 85 = .ok (.iconst 4, 1) := by decide +kernel
theorem dX3_put_86 : decode cX3_put 86 = .ok (.iadd, 1) := by decide +kernel
theorem dX3_put_87 : decode cX3_put 87 = .ok (.iload 5, 2) := by decide +kernel
theorem dX3_put_89 : decode cX3_put 89 = .ok (.iastore, 1) := by decide +kernel
theorem dX3_put_90 : decode cX3_put 90 = .ok (.aload_n 0, 1) := by decide +kernel
theorem dX3_put_91 : decode cX3_put 91 = .ok (.getfield 11, 3) := by decide +kernel
theorem dX3_put_94 : decode cX3_put 94 = .ok (.iload 7, 2) := by decide +kernel
theorem dX3_put_96 : decode cX3_put 96 = .ok (.iconst 5, 1) := by decide +kernel
theorem dX3_put_97 : decode cX3_put 97 = .ok (.iadd, 1) := by decide +kernel
theorem dX3_put_98 : decode cX3_put 98 = .ok (.iload 6, 2) := by decide +kernel
theorem dX3_put_100 : decode cX3_put 100 = .ok (.iastore, 1) := by decide +kernel
theorem dX3_put_101 : decode cX3_put 101 = .ok (.aload_n 0, 1) := by decide +kernel
theorem dX3_put_102 : decode cX3_put 102 = .ok (.dup, 1) := by decide +kernel
theorem dX3_put_103 : decode cX3_put 103 = .ok (.getfield 15, 3) := by decide +kernel
theorem dX3_put_106 : decode cX3_put 106 = .ok (.iconst 1, 1) := by decide +kernel
theorem dX3_put_107 : decode cX3_put 107 = .ok (.iadd, 1) := by decide +kernel
theorem dX3_put_108 : decode cX3_put 108 = .ok (.putfield 15, 3) := by decide +kernel
theorem dX3_put_111 : decode cX3_put 111 = .ok (.return_, 1) := by decide +kernel
theorem dX3_fact_0 : decode cX3_fact 0 = .ok (.iload_n 1, 1) := by decide +kernel
theorem dX3_fact_1 : decode cX3_fact 1 = .ok (.ifCond .lt 28, 3) := by decide +kernel
theorem dX3_fact_4 : decode cX3_fact 4 = .ok (.iload_n 1, 1) := by decide +kernel
theorem dX3_fact_5 : decode cX3_fact 5 = .ok (.aload_n 0, 1) := by decide +kernel
theorem dX3_fact_6 : decode cX3_fact 6 = .ok (.getfield 15, 3) := by decide +kernel
theorem dX3_fact_9 : decode cX3_fact 9 = .ok (.if_icmp .ge 20, 3) := by decide +kernel
theorem dX3_fact_12 : decode cX3_fact 12 = .ok (.iload_n 1, 1) := by decide +kernel
theorem dX3_fact_13 : decode cX3_fact 13 = .ok (.sipush 540, 3) := by decide +kernel
theorem dX3_fact_16 : decode cX3_fact 16 = .ok (.if_icmp .ge 13, 3) := by decide +kernel
theorem dX3_fact_19 : decode cX3_fact 19 = .ok (.iload_n 2, 1) := by decide +kernel
theorem dX3_fact_20 : decode cX3_fact 20 = .ok (.ifCond .lt 9, 3) := by decide +kernel
theorem dX3_fact_23 : decode cX3_fact 23 = .ok (.iload_n 2, 1) := by decide +kernel
theorem dX3_fact_24 : decode cX3_fact 24 = .ok (.bipush 6, 2) := by decide +kernel
theorem dX3_fact_26 : decode cX3_fact 26 = .ok (.if_icmp .lt 5, 3) := by decide +kernel
theorem dX3_fact_29 : decode cX3_fact 29 = .ok (.iconst (-1), 1) := by decide +kernel
theorem dX3_fact_30 : decode cX3_fact 30 = .ok (.ireturn, 1) := by decide +kernel
theorem dX3_fact_31 : decode cX3_fact 31 = .ok (.aload_n 0, 1) := by decide +kernel
theorem dX3_fact_32 : decode cX3_fact 32 = .ok (.getfield 11, 3) := by decide +kernel
theorem dX3_fact_35 : decode cX3_fact 35 = .ok (.bipush 6, 2) := by decide +kernel
theorem dX3_fact_37 : decode cX3_fact 37 = .ok (.iload_n 1, 1) := by decide +kernel
theorem dX3_fact_38 : decode cX3_fact 38 = .ok (.imul, 1) := by decide +kernel
theorem dX3_fact_39 : decode cX3_fact 39 = .ok (.iload_n 2, 1) := by decide +kernel
theorem dX3_fact_40 : decode cX3_fact 40 = .ok (.iadd, 1) := by decide +kernel
theorem dX3_fact_41 : decode cX3_fact 41 = .ok (.iaload, 1) := by decide +kernel
theorem dX3_fact_42 : decode cX3_fact 42 = .ok (.ireturn, 1) := by decide +kernel
theorem dX3_channelSet_0 : decode cX3_channelSet 0 = .ok (.lconst 0, 1) := by decide +kernel
theorem dX3_channelSet_1 : decode cX3_channelSet 1 = .ok (.lstore_n 1, 1) := by decide +kernel
theorem dX3_channelSet_2 : decode cX3_channelSet 2 = .ok (.iconst 0, 1) := by decide +kernel
theorem dX3_channelSet_3 : decode cX3_channelSet 3 = .ok (.istore_n 3, 1) := by decide +kernel
theorem dX3_channelSet_4 : decode cX3_channelSet 4 = .ok (.iload_n 3, 1) := by decide +kernel
theorem dX3_channelSet_5 : decode cX3_channelSet 5 = .ok (.aload_n 0, 1) := by decide +kernel
theorem dX3_channelSet_6 : decode cX3_channelSet 6 = .ok (.getfield 15, 3) := by decide +kernel
theorem dX3_channelSet_9 : decode cX3_channelSet 9 = .ok (.if_icmp .ge 20, 3) := by decide +kernel
theorem dX3_channelSet_12 : decode cX3_channelSet 12 = .ok (.lload_n 1, 1) := by decide +kernel
theorem dX3_channelSet_13 : decode cX3_channelSet 13 = .ok (.lconst 1, 1) := by decide +kernel
theorem dX3_channelSet_14 : decode cX3_channelSet 14 = .ok (.aload_n 0, 1) := by decide +kernel
theorem dX3_channelSet_15 : decode cX3_channelSet 15 = .ok (.iload_n 3, 1) := by decide +kernel
theorem dX3_channelSet_16 : decode cX3_channelSet 16 = .ok (.iconst 4, 1) := by decide +kernel
theorem dX3_channelSet_17 : decode cX3_channelSet 17 = .ok (.invokevirtual 60, 3) := by decide +kernel
theorem dX3_channelSet_20 : decode cX3_channelSet 20 = .ok (.lshl, 1) := by decide +kernel
theorem dX3_channelSet_21 : decode cX3_channelSet 21 = .ok (.lor, 1) := by decide +kernel
theorem dX3_channelSet_22 : decode cX3_channelSet 22 = .ok (.lstore_n 1, 1) := by decide +kernel
theorem dX3_channelSet_23 : decode cX3_channelSet 23 = .ok (.iinc 3 1, 3) := by decide +kernel
theorem dX3_channelSet_26 : decode cX3_channelSet 26 = .ok (.goto (-22), 3) := by decide +kernel
theorem dX3_channelSet_29 : decode cX3_channelSet 29 = .ok (.lload_n 1, 1) := by decide +kernel
theorem dX3_channelSet_30 : decode cX3_channelSet 30 = .ok (.lreturn, 1) := by decide +kernel
theorem dX3_countNear_0 : decode cX3_countNear 0 = .ok (.iconst 0, 1) := by decide +kernel
theorem dX3_countNear_1 : decode cX3_countNear 1 = .ok (.istore_n 3, 1) := by decide +kernel
theorem dX3_countNear_2 : decode cX3_countNear 2 = .ok (.iconst 0, 1) := by decide +kernel
theorem dX3_countNear_3 : decode cX3_countNear 3 = .ok (.istore 4, 2) := by decide +kernel
theorem dX3_countNear_5 : decode cX3_countNear 5 = .ok (.iload 4, 2) := by decide +kernel
theorem dX3_countNear_7 : decode cX3_countNear 7 = .ok (.aload_n 0, 1) := by decide +kernel
theorem dX3_countNear_8 : decode cX3_countNear 8 = .ok (.getfield 15, 3) := by decide +kernel
theorem dX3_countNear_11 : decode cX3_countNear 11 = .ok (.if_icmp .ge 28, 3) := by decide +kernel
theorem dX3_countNear_14 : decode cX3_countNear 14 = .ok (.aload_n 0, 1) := by decide +kernel
theorem dX3_countNear_15 : decode cX3_countNear 15 = .ok (.iload 4, 2) := by decide +kernel
theorem dX3_countNear_17 : decode cX3_countNear 17 = .ok (.iconst 4, 1) := by decide +kernel
theorem dX3_countNear_18 : decode cX3_countNear 18 = .ok (.invokevirtual 60, 3) := by decide +kernel
theorem dX3_countNear_21 : decode cX3_countNear 21 = .ok (.iload_n 1, 1) := by decide +kernel
theorem dX3_countNear_22 : decode cX3_countNear 22 = .ok (.isub, 1) := by decide +kernel
theorem dX3_countNear_23 : decode cX3_countNear 23 = .ok (.invokestatic 64, 3) := by decide +kernel
theorem dX3_countNear_26 : decode cX3_countNear 26 = .ok (.iload_n 2, 1) := by decide +kernel
theorem dX3_countNear_27 : decode cX3_countNear 27 = .ok (.if_icmp .gt 6, 3) := by decide +kernel
theorem dX3_countNear_30 : decode cX3_countNear 30 = .ok (.iinc 3 1, 3) := by decide +kernel
theorem dX3_countNear_33 : decode cX3_countNear 33 = .ok (.iinc 4 1, 3) := by decide +kernel
theorem dX3_countNear_36 : decode cX3_countNear 36 = .ok (.goto (-31), 3) := by decide +kernel
theorem dX3_countNear_39 : decode cX3_countNear 39 = .ok (.iload_n 3, 1) := by decide +kernel
theorem dX3_countNear_40 : decode cX3_countNear 40 = .ok (.ireturn, 1) := by decide +kernel
theorem dX4_init_0 : decode cX4_init 0 = .ok (.aload_n 0, 1) := by decide +kernel
theorem dX4_init_1 : decode cX4_init 1 = .ok (.invokespecial 3, 3) := by decide +kernel
theorem dX4_init_4 : decode cX4_init 4 = .ok (.aload_n 0, 1) := by decide +kernel
theorem dX4_init_5 : decode cX4_init 5 = .ok (.bipush 120, 2) := by decide +kernel
theorem dX4_init_7 : decode cX4_init 7 = .ok (.newarray .int, 2) := by decide +kernel
theorem dX4_init_9 : decode cX4_init 9 = .ok (.putfield 9, 3) := by decide +kernel
theorem dX4_init_12 : decode cX4_init 12 = .ok (.return_, 1) := by decide +kernel
theorem dX4_put_0 : decode cX4_put 0 = .ok (.aload_n 0, 1) := by decide +kernel
theorem dX4_put_1 : decode cX4_put 1 = .ok (.getfield 15, 3) := by decide +kernel
theorem dX4_put_4 : decode cX4_put 4 = .ok (.ifCond .lt 32, 3) := by decide +kernel
theorem dX4_put_7 : decode cX4_put 7 = .ok (.aload_n 0, 1) := by decide +kernel
theorem dX4_put_8 : decode cX4_put 8 = .ok (.getfield 15, 3) := by decide +kernel
theorem dX4_put_11 : decode cX4_put 11 = .ok (.bipush 120, 2) := by decide +kernel
theorem dX4_put_13 : decode cX4_put 13 = .ok (.if_icmp .ge 23, 3) := by decide +kernel
theorem dX4_put_16 : decode cX4_put 16 = .ok (.aload_n 0, 1) := by decide +kernel
theorem dX4_put_17 : decode cX4_put 17 = .ok (.getfield 9, 3) := by decide +kernel
theorem dX4_put_20 : decode cX4_put 20 = .ok (.aload_n 0, 1) := by decide +kernel
theorem dX4_put_21 : decode cX4_put 21 = .ok (.getfield 15, 3) := by decide +kernel
theorem dX4_put_24 : decode cX4_put 24 = .ok (.iload_n 1, 1) := by decide +kernel
theorem dX4_put_25 : decode cX4_put 25 = .ok (.iastore, 1) := by decide +kernel
theorem dX4_put_26 : decode cX4_put 26 = .ok (.aload_n 0, 1) := by decide +kernel
theorem dX4_put_27 : decode cX4_put 27 = .ok (.dup, 1) := by decide +kernel
theorem dX4_put_28 : decode cX4_put 28 = .ok (.getfield 15, 3) := by decide +kernel
theorem dX4_put_31 : decode cX4_put 31 = .ok (.iconst 1, 1) := by decide +kernel
theorem dX4_put_32 : decode cX4_put 32 = .ok (.iadd, 1) := by decide +kernel
theorem dX4_put_33 : decode cX4_put 33 = .ok (.putfield 15, 3) := by decide +kernel
theorem dX4_put_36 : decode cX4_put 36 = .ok (.return_, 1) := by decide +kernel
theorem dX4_readInto_0 : decode cX4_readInto 0 = .ok (.aload_n 0, 1) := by decide +kernel
theorem dX4_readInto_1 : decode cX4_readInto 1 = .ok (.iconst 0, 1) := by decide +kernel
theorem dX4_readInto_2 : decode cX4_readInto 2 = .ok (.putfield 19, 3) := by decide +kernel
theorem dX4_readInto_5 : decode cX4_readInto 5 = .ok (.aload_n 0, 1) := by decide +kernel
theorem dX4_readInto_6 : decode cX4_readInto 6 = .ok (.iconst (-1), 1) := by decide +kernel
theorem dX4_readInto_7 : decode cX4_readInto 7 = .ok (.putfield 22, 3) := by decide +kernel
theorem dX4_readInto_10 : decode cX4_readInto 10 = .ok (.iconst 0, 1) := by decide +kernel
theorem dX4_readInto_11 : decode cX4_readInto 11 = .ok (.istore_n 2, 1) := by decide +kernel
theorem dX4_readInto_12 : decode cX4_readInto 12 = .ok (.iload_n 2, 1) := by decide +kernel
theorem dX4_readInto_13 : decode cX4_readInto 13 = .ok (.bipush 120, 2) := by decide +kernel
theorem dX4_readInto_15 : decode cX4_readInto 15 = .ok (.if_icmp .ge 33, 3) := by decide +kernel
theorem dX4_readInto_18 : decode cX4_readInto 18 = .ok (.aload_n 0, 1) := by decide +kernel
theorem dX4_readInto_19 : decode cX4_readInto 19 = .ok (.getfield 19, 3) := by decide +kernel
theorem dX4_readInto_22 : decode cX4_readInto 22 = .ok (.aload_n 0, 1) := by decide +kernel
theorem dX4_readInto_23 : decode cX4_readInto 23 = .ok (.getfield 15, 3) := by decide +kernel
theorem dX4_readInto_26 : decode cX4_readInto 26 = .ok (.if_icmp .ge 22, 3) := by decide +kernel
theorem dX4_readInto_29 : decode cX4_readInto 29 = .ok (.aload_n 0, 1) := by decide +kernel
theorem dX4_readInto_30 : decode cX4_readInto 30 = .ok (.getfield 22, 3) := by decide +kernel
theorem dX4_readInto_33 : decode cX4_readInto 33 = .ok (.iconst (-1), 1) := by decide +kernel
theorem dX4_readInto_34 : decode cX4_readInto 34 = .ok (.if_icmp .ne 14, 3) := by decide +kernel
theorem dX4_readInto_37 : decode cX4_readInto 37 = .ok (.aload_n 0, 1) := by decide +kernel
theorem dX4_readInto_38 : decode cX4_readInto 38 = .ok (.aload_n 1, 1) := by decide +kernel
theorem dX4_readInto_39 : decode cX4_readInto 39 = .ok (.invokevirtual 25, 3) := by decide +kernel
theorem dX4_readInto_42 : decode cX4_readInto 42 = .ok (.iinc 2 1, 3) := by decide +kernel
theorem dX4_readInto_45 : decode cX4_readInto 45 = .ok (.goto (-33), 3) := by decide +kernel
theorem dX4_readInto_48 : decode cX4_readInto 48 = .ok (.aload_n 0, 1) := by decide +kernel
theorem dX4_readInto_49 : decode cX4_readInto 49 = .ok (.getfield 22, 3) := by decide +kernel
theorem dX4_readInto_52 : decode cX4_readInto 52 = .ok (.iconst (-1), 1) := by decide +kernel
theorem dX4_readInto_53 : decode cX4_readInto 53 = .ok (.if_icmp .ne 7, 3) := by decide +kernel
theorem dX4_readInto_56 : decode cX4_readInto 56 = .ok (.iload_n 2, 1) := by decide +kernel
theorem dX4_readInto_57 : decode cX4_readInto 57 = .ok (.goto 10, 3) := by decide +kernel
theorem dX4_readInto_60 : decode cX4_readInto 60 = .ok (.bipush (-10), 2) := by decide +kernel
theorem dX4_readInto_62 : decode cX4_readInto 62 = .ok (.aload_n 0, 1) := by decide +kernel
theorem dX4_readInto_63 : decode cX4_readInto 63 = .ok (.getfield 22, 3) := by decide +kernel
theorem dX4_readInto_66 : decode cX4_readInto 66 = .ok (.isub, 1) := by decide +kernel
theorem dX4_readInto_67 : decode cX4_readInto 67 = .ok (.ireturn, 1) := by decide +kernel
theorem dX4_readItem_0 : decode cX4_readItem 0 = .ok (.aload_n 0, 1) := by decide +kernel
theorem dX4_readItem_1 : decode cX4_readItem 1 = .ok (.aload_n 0, 1) := by decide +kernel
theorem dX4_readItem_2 : decode cX4_readItem 2 = .ok (.getfield 19, 3) := by decide +kernel
theorem dX4_readItem_5 : decode cX4_readItem 5 = .ok (.invokevirtual 29, 3) := by decide +kernel
theorem dX4_readItem_8 : decode cX4_readItem 8 = .ok (.istore_n 2, 1) := by decide +kernel
theorem dX4_readItem_9 : decode cX4_readItem 9 = .ok (.iload_n 2, 1) := by decide +kernel
theorem dX4_readItem_10 : decode cX4_readItem 10 = .ok (.bipush 99, 2) := by decide +kernel
theorem dX4_readItem_12 : decode cX4_readItem 12 = .ok (.if_icmp .ne 30, 3) := by decide +kernel
theorem dX4_readItem_15 : decode cX4_readItem 15 = .ok (.aload_n 1, 1) := by decide +kernel
theorem dX4_readItem_16 : decode cX4_readItem 16 = .ok (.getfield 33, 3) := by decide +kernel
theorem dX4_readItem_19 : decode cX4_readItem 19 = .ok (.bipush 10, 2) := by decide +kernel
theorem dX4_readItem_21 : decode cX4_readItem 21 = .ok (.if_icmp .ge 21, 3) := by decide +kernel
theorem dX4_readItem_24 : decode cX4_readItem 24 = .ok (.aload_n 0, 1) := by decide +kernel
theorem dX4_readItem_25 : decode cX4_readItem 25 = .ok (.dup, 1) := by decide +kernel
theorem dX4_readItem_26 : decode cX4_readItem 26 = .ok (.getfield 19, 3) := by decide +kernel
theorem dX4_readItem_29 : decode cX4_readItem 29 = .ok (.iconst 1, 1) := by decide +kernel
theorem dX4_readItem_30 : decode cX4_readItem 30 = .ok (.iadd, 1) := by decide +kernel
theorem dX4_readItem_31 : decode cX4_readItem 31 = .ok (.putfield 19, 3) := by decide +kernel
theorem dX4_readItem_34 : decode cX4_readItem 34 = .ok (.aload_n 0, 1) := by decide +kernel
theorem dX4_readItem_35 : decode cX4_readItem 35 = .ok (.aload_n 1, 1) := by decide +kernel
theorem dX4_readItem_36 : decode cX4_readItem 36 = .ok (.invokevirtual 38, 3) := by decide +kernel
theorem dX4_readItem_39 : decode cX4_readItem 39 = .ok (.goto 43, 3) := by decide +kernel
theorem dX4_readItem_42 : decode cX4_readItem 42 = .ok (.iload_n 2, 1) := by decide +kernel
theorem dX4_readItem_43 : decode cX4_readItem 43 = .ok (.bipush 109, 2) := by decide +kernel
theorem dX4_readItem_45 : decode cX4_readItem 45 = .ok (.if_icmp .ne 29, 3) := by decide +kernel
theorem dX4_readItem_48 : decode cX4_readItem 48 = .ok (.aload_n 1, 1) := by decide +kernel
theorem dX4_readItem_49 : decode cX4_readItem 49 = .ok (.getfield 41, 3) := by decide +kernel
theorem dX4_readItem_52 : decode cX4_readItem 52 = .ok (.iconst 5, 1) := by decide +kernel
theorem dX4_readItem_53 : decode cX4_readItem 53 = .ok (.if_icmp .ge 21, 3) := by decide +kernel
theorem dX4_readItem_56 : decode cX4_readItem 56 = .ok (.aload_n 0, 1) := by decide +kernel
theorem dX4_readItem_57 : decode cX4_readItem 57 = .ok (.dup, 1) := by decide +kernel
theorem dX4_readItem_58 : decode cX4_readItem 58 = .ok (.getfield 19, 3) := by decide +kernel
theorem dX4_readItem_61 : decode cX4_readItem 61 = .ok (.iconst 1, 1) := by decide +kernel
theorem dX4_readItem_62 : decode cX4_readItem 62 = .ok (.iadd, 1) := by decide +kernel
theorem dX4_readItem_63 : decode cX4_readItem 63 = .ok (.putfield 19, 3) := by decide +kernel
theorem dX4_readItem_66 : decode cX4_readItem 66 = .ok (.aload_n 0, 1) := by decide +kernel
theorem dX4_readItem_67 : decode cX4_readItem 67 = .ok (.aload_n 1, 1) := by decide +kernel
theorem dX4_readItem_68 : decode cX4_readItem 68 = .ok (.invokevirtual 44, 3) := by decide +kernel
theorem dX4_readItem_71 : decode cX4_readItem 71 = .ok (.goto 11, 3) := by decide +kernel
theorem dX4_readItem_74 : decode cX4_readItem 74 = .ok (.aload_n 0, 1) := by decide +kernel
theorem dX4_readItem_75 : decode cX4_readItem 75 = .ok (.aload_n 0, 1) := by decide +kernel
theorem dX4_readItem_76 : decode cX4_readItem 76 = .ok (.getfield 19, 3) := by decide +kernel
theorem dX4_readItem_79 : decode cX4_readItem 79 = .ok (.putfield 22, 3) := by decide +kernel
theorem dX4_readItem_82 : decode cX4_readItem 82 = .ok (.return_, 1) := by decide +kernel
theorem dX4_readCarrier_0 : decode cX4_readCarrier 0 = .ok (.aload_n 0, 1) := by decide +kernel
theorem dX4_readCarrier_1 : decode cX4_readCarrier 1 = .ok (.invokevirtual 47, 3) := by decide +kernel
theorem dX4_readCarrier_4 : decode cX4_readCarrier 4 = .ok (.istore_n 2, 1) := by decide +kernel
theorem dX4_readCarrier_5 : decode cX4_readCarrier 5 = .ok (.aload_n 0, 1) := by decide +kernel
theorem dX4_readCarrier_6 : decode cX4_readCarrier 6 = .ok (.iload_n 2, 1) := by decide +kernel
theorem dX4_readCarrier_7 : decode cX4_readCarrier 7 = .ok (.invokestatic 51, 3) := by decide +kernel
theorem dX4_readCarrier_10 : decode cX4_readCarrier 10 = .ok (.ifCond .eq 12, 3) := by decide +kernel
theorem dX4_readCarrier_13 : decode cX4_readCarrier 13 = .ok (.aload_n 1, 1) := by decide +kernel
theorem dX4_readCarrier_14 : decode cX4_readCarrier 14 = .ok (.iload_n 2, 1) := by decide +kernel
theorem dX4_readCarrier_15 : decode cX4_readCarrier 15 = .ok (.invokevirtual 55, 3) := by decide +kernel
theorem dX4_readCarrier_18 : decode cX4_readCarrier 18 = .ok (.iconst (-1), 1) := by decide +kernel
theorem dX4_readCarrier_19 : decode cX4_readCarrier 19 = .ok (.if_icmp .eq 7, 3) := by decide +kernel
theorem dX4_readCarrier_22 : decode cX4_readCarrier 22 = .ok (.iconst 1, 1) := by decide +kernel
theorem dX4_readCarrier_23 : decode cX4_readCarrier 23 = .ok (.goto 4, 3) := by decide +kernel
theorem dX4_readCarrier_26 : decode cX4_readCarrier 26 = .ok (.iconst 0, 1) := by decide +kernel
theorem dX4_readCarrier_27 : decode cX4_readCarrier 27 = .ok (.invokevirtual 58, 3) := by decide +kernel
theorem dX4_readCarrier_30 : decode cX4_readCarrier 30 = .ok (.aload_n 0, 1) := by decide +kernel
theorem dX4_readCarrier_31 : decode cX4_readCarrier 31 = .ok (.bipush 44, 2) := by decide +kernel
theorem dX4_readCarrier_33 : decode cX4_readCarrier 33 = .ok (.invokevirtual 62, 3) := by decide +kernel
theorem dX4_readCarrier_36 : decode cX4_readCarrier 36 = .ok (.aload_n 0, 1) := by decide +kernel
theorem dX4_readCarrier_37 : decode cX4_readCarrier 37 = .ok (.invokevirtual 47, 3) := by decide +kernel
theorem dX4_readCarrier_40 : decode cX4_readCarrier 40 = .ok (.istore_n 3, 1) := by decide +kernel
theorem dX4_readCarrier_41 : decode cX4_readCarrier 41 = .ok (.aload_n 0, 1) := by decide +kernel
theorem dX4_readCarrier_42 : decode cX4_readCarrier 42 = .ok (.iload_n 3, 1) := by decide +kernel
theorem dX4_readCarrier_43 : decode cX4_readCarrier 43 = .ok (.invokestatic 66, 3) := by decide +kernel
theorem dX4_readCarrier_46 : decode cX4_readCarrier 46 = .ok (.ifCond .ne 7, 3) := by decide +kernel
theorem dX4_readCarrier_49 : decode cX4_readCarrier 49 = .ok (.iconst 1, 1) := by decide +kernel
theorem dX4_readCarrier_50 : decode cX4_readCarrier 50 = .ok (.goto 4, 3) := by decide +kernel
theorem dX4_readCarrier_53 : decode cX4_readCarrier 53 = .ok (.iconst 0, 1) := by decide +kernel
theorem dX4_readCarrier_54 : decode cX4_readCarrier 54 = .ok (.invokevirtual 58, 3) := by decide +kernel
theorem dX4_readCarrier_57 : decode cX4_readCarrier 57 = .ok (.aload_n 0, 1) := by decide +kernel
theorem dX4_readCarrier_58 : decode cX4_readCarrier 58 = .ok (.bipush 59, 2) := by decide +kernel
theorem dX4_readCarrier_60 : decode cX4_readCarrier 60 = .ok (.invokevirtual 62, 3) := by decide +kernel
theorem dX4_readCarrier_63 : decode cX4_readCarrier 63 = .ok (.aload_n 0, 1) := by decide +kernel
theorem dX4_readCarrier_64 : decode cX4_readCarrier 64 = .ok (.getfield 22, 3) := by decide +kernel
theorem dX4_readCarrier_67 : decode cX4_readCarrier 67 = .ok (.iconst (-1), 1) := by decide +kernel
theorem dX4_readCarrier_68 : decode cX4_readCarrier 68 = .ok (.if_icmp .ne 9, 3) := by decide +kernel
theorem dX4_readCarrier_71 : decode cX4_readCarrier 71 = .ok (.aload_n 1, 1) := by decide +kernel
theorem dX4_readCarrier_72 : decode cX4_readCarrier 72 = .ok (.iload_n 2, 1) := by decide +kernel
theorem dX4_readCarrier_73 : decode cX4_readCarrier 73 = .ok (.iload_n 3, 1) := by decide +kernel
theorem dX4_readCarrier_74 : decode cX4_readCarrier 74 = .ok (.invokevirtual 69, 3) := by decide +kernel
theorem dX4_readCarrier_77 : decode cX4_readCarrier 77 = .ok (.return_, 1) := by decide +kernel
theorem dX4_readMixer_0 : decode cX4_readMixer 0 = .ok (.aload_n 0, 1) := by decide +kernel
theorem dX4_readMixer_1 : decode cX4_readMixer 1 = .ok (.aload_n 1, 1) := by decide +kernel
theorem dX4_readMixer_2 : decode cX4_readMixer 2 = .ok (.iconst 0, 1) := by decide +kernel
theorem dX4_readMixer_3 : decode cX4_readMixer 3 = .ok (.invokevirtual 73, 3) := by decide +kernel
theorem dX4_readMixer_6 : decode cX4_readMixer 6 = .ok (.istore_n 2, 1) := by decide +kernel
theorem dX4_readMixer_7 : decode cX4_readMixer 7 = .ok (.iconst 0, 1) := by decide +kernel
theorem dX4_readMixer_8 : decode cX4_readMixer 8 = .ok (.istore_n 3, 1) := by decide +kernel
theorem dX4_readMixer_9 : decode cX4_readMixer 9 = .ok (.iload_n 3, 1) := by decide +kernel
theorem dX4_readMixer_10 : decode cX4_readMixer 10 = .ok (.bipush 120, 2) := by decide +kernel
theorem dX4_readMixer_12 : decode cX4_readMixer 12 = .ok (.if_icmp .ge 47, 3) := by decide +kernel
theorem dX4_readMixer_15 : decode cX4_readMixer 15 = .ok (.aload_n 0, 1) := by decide +kernel
theorem dX4_readMixer_16 : decode cX4_readMixer 16 = .ok (.getfield 22, 3) := by decide +kernel
theorem dX4_readMixer_19 : decode cX4_readMixer 19 = .ok (.iconst (-1), 1) := by decide +kernel
theorem dX4_readMixer_20 : decode cX4_readMixer 20 = .ok (.if_icmp .ne 39, 3) := by decide +kernel
theorem dX4_readMixer_23 : decode cX4_readMixer 23 = .ok (.aload_n 0, 1) := by decide +kernel
theorem dX4_readMixer_24 : decode cX4_readMixer 24 = .ok (.aload_n 0, 1) := by decide +kernel
theorem dX4_readMixer_25 : decode cX4_readMixer 25 = .ok (.getfield 19, 3) := by decide +kernel
theorem dX4_readMixer_28 : decode cX4_readMixer 28 = .ok (.invokevirtual 29, 3) := by decide +kernel
theorem dX4_readMixer_31 : decode cX4_readMixer 31 = .ok (.bipush 44, 2) := by decide +kernel
theorem dX4_readMixer_33 : decode cX4_readMixer 33 = .ok (.if_icmp .ne 26, 3) := by decide +kernel
theorem dX4_readMixer_36 : decode cX4_readMixer 36 = .ok (.aload_n 0, 1) := by decide +kernel
theorem dX4_readMixer_37 : decode cX4_readMixer 37 = .ok (.dup, 1) := by decide +kernel
theorem dX4_readMixer_38 : decode cX4_readMixer 38 = .ok (.getfield 19, 3) := by decide +kernel
theorem dX4_readMixer_41 : decode cX4_readMixer 41 = .ok (.iconst 1, 1) := by decide +kernel
theorem dX4_readMixer_42 : decode cX4_readMixer 42 = .ok (.iadd, 1) := by decide +kernel
theorem dX4_readMixer_43 : decode cX4_readMixer 43 = .ok (.putfield 19, 3) := by decide +kernel
theorem dX4_readMixer_46 : decode cX4_readMixer 46 = .ok (.aload_n 0, 1) := by decide +kernel
theorem dX4_readMixer_47 : decode cX4_readMixer 47 = .ok (.aload_n 1, 1) := by decide +kernel
theorem dX4_readMixer_48 : decode cX4_readMixer 48 = .ok (.iload_n 2, 1) := by decide +kernel
theorem dX4_readMixer_49 : decode cX4_readMixer 49 = .ok (.invokevirtual 73, 3) := by decide +kernel
theorem dX4_readMixer_52 : decode cX4_readMixer 52 = .ok (.istore_n 2, 1) := by decide +kernel
theorem dX4_readMixer_53 : decode cX4_readMixer 53 = .ok (.iinc 3 1, 3) := by decide +kernel
theorem dX4_readMixer_56 : decode cX4_readMixer 56 = .ok (.goto (-47), 3) := by decide +kernel
theorem dX4_readMixer_59 : decode cX4_readMixer 59 = .ok (.aload_n 0, 1) := by decide +kernel
theorem dX4_readMixer_60 : decode cX4_readMixer 60 = .ok (.bipush 59, 2) := by decide +kernel
theorem dX4_readMixer_62 : decode cX4_readMixer 62 = .ok (.invokevirtual 62, 3) := by decide +kernel
theorem dX4_readMixer_65 : decode cX4_readMixer 65 = .ok (.aload_n 0, 1) := by decide +kernel
theorem dX4_readMixer_66 : decode cX4_readMixer 66 = .ok (.getfield 22, 3) := by decide +kernel
theorem dX4_readMixer_69 : decode cX4_readMixer 69 = .ok (.iconst (-1), 1) := by decide +kernel
theorem dX4_readMixer_70 : decode cX4_readMixer 70 = .ok (.if_icmp .ne 8, 3) := by decide +kernel
theorem dX4_readMixer_73 : decode cX4_readMixer 73 = .ok (.aload_n 1, 1) := by decide +kernel
theorem dX4_readMixer_74 : decode cX4_readMixer 74 = .ok (.iload_n 2, 1) := by decide +kernel
theorem dX4_readMixer_75 : decode cX4_readMixer 75 = .ok (.invokevirtual 77, 3) := by decide +kernel
theorem dX4_readMixer_78 : decode cX4_readMixer 78 = .ok (.return_, 1) := by decide +kernel
theorem dX4_readMember_0 : decode cX4_readMember 0 = .ok (.aload_n 0, 1) := by decide +kernel
theorem dX4_readMember_1 : decode cX4_readMember 1 = .ok (.invokevirtual 47, 3) := by decide +kernel
theorem dX4_readMember_4 : decode cX4_readMember 4 = .ok (.istore_n 3, 1) := by decide +kernel
theorem dX4_readMember_5 : decode cX4_readMember 5 = .ok (.aload_n 1, 1) := by decide +kernel
theorem dX4_readMember_6 : decode cX4_readMember 6 = .ok (.iload_n 3, 1) := by decide +kernel
theorem dX4_readMember_7 : decode cX4_readMember 7 = .ok (.invokevirtual 80, 3) := by decide +kernel
theorem dX4_readMember_10 : decode cX4_readMember 10 = .ok (.istore 4, 2) := by decide +kernel
theorem dX4_readMember_12 : decode cX4_readMember 12 = .ok (.aload_n 0, 1) := by decide +kernel
theorem dX4_readMember_13 : decode cX4_readMember 13 = .ok (.iload 4, 2) := by decide +kernel
theorem dX4_readMember_15 : decode cX4_readMember 15 = .ok (.ifCond .eq 12, 3) := by decide +kernel
theorem dX4_readMember_18 : decode cX4_readMember 18 = .ok (.iload_n 3, 1) := by decide +kernel
theorem dX4_readMember_19 : decode cX4_readMember 19 = .ok (.iload_n 2, 1) := by decide +kernel
theorem dX4_readMember_20 : decode cX4_readMember 20 = .ok (.i2l, 1) := by decide +kernel
theorem dX4_readMember_21 : decode cX4_readMember 21 = .ok (.invokestatic 83, 3) := by decide +kernel
theorem dX4_readMember_24 : decode cX4_readMember 24 = .ok (.ifCond .eq 7, 3) := by decide +kernel
theorem dX4_readMember_27 : decode cX4_readMember 27 = .ok (.iconst 1, 1) := by decide +kernel
theorem dX4_readMember_28 : decode cX4_readMember 28 = .ok (.goto 4, 3) := by decide +kernel
theorem dX4_readMember_31 : decode cX4_readMember 31 = .ok (.iconst 0, 1) := by decide +kernel
theorem dX4_readMember_32 : decode cX4_readMember 32 = .ok (.invokevirtual 58, 3) := by decide +kernel
theorem dX4_readMember_35 : decode cX4_readMember 35 = .ok (.iload 4, 2) := by decide +kernel
theorem dX4_readMember_37 : decode cX4_readMember 37 = .ok (.ifCond .eq 11, 3) := by decide +kernel
theorem dX4_readMember_40 : decode cX4_readMember 40 = .ok (.iload_n 2, 1) := by decide +kernel
theorem dX4_readMember_41 : decode cX4_readMember 41 = .ok (.iconst 1, 1) := by decide +kernel
theorem dX4_readMember_42 : decode cX4_readMember 42 = .ok (.iload_n 3, 1) := by decide +kernel
theorem dX4_readMember_43 : decode cX4_readMember 43 = .ok (.ishl, 1) := by decide +kernel
theorem dX4_readMember_44 : decode cX4_readMember 44 = .ok (.ior, 1) := by decide +kernel
theorem dX4_readMember_45 : decode cX4_readMember 45 = .ok (.goto 4, 3) := by decide +kernel
theorem dX4_readMember_48 : decode cX4_readMember 48 = .ok (.iload_n 2, 1) := by decide +kernel
theorem dX4_readMember_49 : decode cX4_readMember 49 = .ok (.ireturn, 1) := by decide +kernel
theorem dX4_readNumber_0 : decode cX4_readNumber 0 = .ok (.aload_n 0, 1) := by decide +kernel
theorem dX4_readNumber_1 : decode cX4_readNumber 1 = .ok (.getfield 22, 3) := by decide +kernel
theorem dX4_readNumber_4 : decode cX4_readNumber 4 = .ok (.iconst (-1), 1) := by decide +kernel
theorem dX4_readNumber_5 : decode cX4_readNumber 5 = .ok (.if_icmp .eq 5, 3) := by decide +kernel
theorem dX4_readNumber_8 : decode cX4_readNumber 8 = .ok (.iconst 0, 1) := by decide +kernel
theorem dX4_readNumber_9 : decode cX4_readNumber 9 = .ok (.ireturn, 1) := by decide +kernel
theorem dX4_readNumber_10 : decode cX4_readNumber 10 = .ok (.aload_n 0, 1) := by decide +kernel
theorem dX4_readNumber_11 : decode cX4_readNumber 11 = .ok (.aload_n 0, 1) := by decide +kernel
theorem dX4_readNumber_12 : decode cX4_readNumber 12 = .ok (.getfield 19, 3) := by decide +kernel
theorem dX4_readNumber_15 : decode cX4_readNumber 15 = .ok (.putfield 87, 3) := by decide +kernel
theorem dX4_readNumber_18 : decode cX4_readNumber 18 = .ok (.iconst 0, 1) := by decide +kernel
theorem dX4_readNumber_19 : decode cX4_readNumber 19 = .ok (.istore_n 1, 1) := by decide +kernel
theorem dX4_readNumber_20 : decode cX4_readNumber 20 = .ok (.iconst 0, 1) := by decide +kernel
theorem dX4_readNumber_21 : decode cX4_readNumber 21 = .ok (.istore_n 2, 1) := by decide +kernel
theorem dX4_readNumber_22 : decode cX4_readNumber 22 = .ok (.iload_n 2, 1) := by decide +kernel
theorem dX4_readNumber_23 : decode cX4_readNumber 23 = .ok (.iconst 2, 1) := by decide +kernel
theorem dX4_readNumber_24 : decode cX4_readNumber 24 = .ok (.if_icmp .ge 50, 3) := by decide +kernel
theorem dX4_readNumber_27 : decode cX4_readNumber 27 = .ok (.aload_n 0, 1) := by decide +kernel
theorem dX4_readNumber_28 : decode cX4_readNumber 28 = .ok (.aload_n 0, 1) := by decide +kernel
theorem dX4_readNumber_29 : decode cX4_readNumber 29 = .ok (.getfield 19, 3) := by decide +kernel
theorem dX4_readNumber_32 : decode cX4_readNumber 32 = .ok (.invokevirtual 29, 3) := by decide +kernel
theorem dX4_readNumber_35 : decode cX4_readNumber 35 = .ok (.invokestatic 90, 3) := by decide +kernel
theorem dX4_readNumber_38 : decode cX4_readNumber 38 = .ok (.ifCond .eq 36, 3) := by decide +kernel
theorem dX4_readNumber_41 : decode cX4_readNumber 41 = .ok (.bipush 10, 2) := by decide +kernel
theorem dX4_readNumber_43 : decode cX4_readNumber 43 = .ok (.iload_n 1, 1) := by decide +kernel
theorem dX4_readNumber_44 : decode cX4_readNumber 44 = .ok (.imul, 1) := by decide +kernel
theorem dX4_readNumber_45 : decode cX4_readNumber 45 = .ok (.aload_n 0, 1) := by decide +kernel
theorem dX4_readNumber_46 : decode cX4_readNumber 46 = .ok (.aload_n 0, 1) := by decide +kernel
theorem dX4_readNumber_47 : decode cX4_readNumber 47 = .ok (.getfield 19, 3) := by decide +kernel
theorem dX4_readNumber_50 : decode cX4_readNumber 50 = .ok (.invokevirtual 29, 3) := by decide +kernel
theorem dX4_readNumber_53 : decode cX4_readNumber 53 = .ok (.iadd, 1) := by decide +kernel
theorem dX4_readNumber_54 : decode cX4_readNumber 54 = .ok (.bipush 48, 2) := by decide +kernel
theorem dX4_readNumber_56 : decode cX4_readNumber 56 = .ok (.isub, 1) := by decide +kernel
theorem dX4_readNumber_57 : decode cX4_readNumber 57 = .ok (.istore_n 1, 1) := by decide +kernel
theorem dX4_readNumber_58 : decode cX4_readNumber 58 = .ok (.aload_n 0, 1) := by decide +kernel
theorem dX4_readNumber_59 : decode cX4_readNumber 59 = .ok (.dup, 1) := by decide +kernel
theorem dX4_readNumber_60 : decode cX4_readNumber 60 = .ok (.getfield 19, 3) := by decide +kernel
theorem dX4_readNumber_63 : decode cX4_readNumber 63 = .ok (.iconst 1, 1) := by decide +kernel
theorem dX4_readNumber_64 : decode cX4_readNumber 64 = .ok (.iadd, 1) := by decide +kernel
theorem dX4_readNumber_65 : decode cX4_readNumber 65 = .ok (.putfield 19, 3) := by decide +kernel
theorem dX4_readNumber_68 : decode cX4_readNumber 68 = .ok (.iinc 2 1, 3) := by decide +kernel
theorem dX4_readNumber_71 : decode cX4_readNumber 71 = .ok (.goto (-49), 3) := by decide +kernel
theorem dX4_readNumber_74 : decode cX4_readNumber 74 = .ok (.aload_n 0, 1) := by decide +kernel
theorem dX4_readNumber_75 : decode cX4_readNumber 75 = .ok (.getfield 19, 3) := by decide +kernel
theorem dX4_readNumber_78 : decode cX4_readNumber 78 = .ok (.aload_n 0, 1) := by decide +kernel
theorem dX4_readNumber_79 : decode cX4_readNumber 79 = .ok (.getfield 87, 3) := by decide +kernel
theorem dX4_readNumber_82 : decode cX4_readNumber 82 = .ok (.if_icmp .eq 17, 3) := by decide +kernel
theorem dX4_readNumber_85 : decode cX4_readNumber 85 = .ok (.aload_n 0, 1) := by decide +kernel
theorem dX4_readNumber_86 : decode cX4_readNumber 86 = .ok (.aload_n 0, 1) := by decide +kernel
theorem dX4_readNumber_87 : decode cX4_readNumber 87 = .ok (.getfield 19, 3) := by decide +kernel
theorem dX4_readNumber_90 : decode cX4_readNumber 90 = .ok (.invokevirtual 29, 3) := by decide +kernel
theorem dX4_readNumber_93 : decode cX4_readNumber 93 = .ok (.invokestatic 90, 3) := by decide +kernel
theorem dX4_readNumber_96 : decode cX4_readNumber 96 = .ok (.ifCond .eq 11, 3) := by decide +kernel
theorem dX4_readNumber_99 : decode cX4_readNumber 99 = .ok (.aload_n 0, 1) := by decide +kernel
theorem dX4_readNumber_100 : decode cX4_readNumber 100 = .ok (.aload_n 0, 1) := by decide +kernel
theorem dX4_readNumber_101 : decode cX4_readNumber 101 = .ok (.getfield 19, 3) := by decide +kernel
theorem dX4_readNumber_104 : decode cX4_readNumber 104 = .ok (.putfield 22, 3) := by decide +kernel
theorem dX4_readNumber_107 : decode cX4_readNumber 107 = .ok (.iload_n 1, 1) := by decide +kernel
theorem dX4_readNumber_108 : decode cX4_readNumber 108 = .ok (.ireturn, 1) := by decide +kernel
theorem dX4_refuseNumberIf_0 : decode cX4_refuseNumberIf 0 = .ok (.iload_n 1, 1) := by decide +kernel
theorem dX4_refuseNumberIf_1 : decode cX4_refuseNumberIf 1 = .ok (.ifCond .eq 19, 3) := by decide +kernel
theorem dX4_refuseNumberIf_4 : decode cX4_refuseNumberIf 4 = .ok (.aload_n 0, 1) := by decide +kernel
theorem dX4_refuseNumberIf_5 : decode cX4_refuseNumberIf 5 = .ok (.getfield 22, 3) := by decide +kernel
theorem dX4_refuseNumberIf_8 : decode cX4_refuseNumberIf 8 = .ok (.iconst (-1), 1) := by decide +kernel
theorem dX4_refuseNumberIf_9 : decode cX4_refuseNumberIf 9 = .ok (.if_icmp .ne 11, 3) := by decide +kernel
theorem dX4_refuseNumberIf_12 : decode cX4_refuseNumberIf 12 = .ok (.aload_n 0, 1) := by decide +kernel
theorem dX4_refuseNumberIf_13 : decode cX4_refuseNumberIf 13 = .ok (.aload_n 0, 1) := by decide +kernel
theorem dX4_refuseNumberIf_14 : decode cX4_refuseNumberIf 14 = .ok (.getfield 87, 3) := by decide +kernel
theorem dX4_refuseNumberIf_17 : decode cX4_refuseNumberIf 17 = .ok (.putfield 22, 3) := by decide +kernel
theorem dX4_refuseNumberIf_20 : decode cX4_refuseNumberIf 20 = .ok (.return_, 1) := by decide +kernel
theorem dX4_expect_0 : decode cX4_expect 0 = .ok (.aload_n 0, 1) := by decide +kernel
theorem dX4_expect_1 : decode cX4_expect 1 = .ok (.getfield 22, 3) := by decide +kernel
theorem dX4_expect_4 : decode cX4_expect 4 = .ok (.iconst (-1), 1) := by decide +kernel
theorem dX4_expect_5 : decode cX4_expect 5 = .ok (.if_icmp .eq 4, 3) := by decide +kernel
theorem dX4_expect_8 : decode cX4_expect 8 = .ok (.return_, 1) := by decide +kernel
theorem dX4_expect_9 : decode cX4_expect 9 = .ok (.aload_n 0, 1) := by decide +kernel
theorem dX4_expect_10 : decode cX4_expect 10 = .ok (.aload_n 0, 1) := by decide +kernel
theorem dX4_expect_11 : decode cX4_expect 11 = .ok (.getfield 19, 3) := by decide +kernel
theorem dX4_expect_14 : decode cX4_expect 14 = .ok (.invokevirtual 29, 3) := by decide +kernel
theorem dX4_expect_17 : decode cX4_expect 17 = .ok (.iload_n 1, 1) := by decide +kernel
theorem dX4_expect_18 : decode cX4_expect 18 = .ok (.if_icmp .ne 16, 3) := by decide +kernel
theorem dX4_expect_21 : decode cX4_expect 21 = .ok (.aload_n 0, 1) := by decide +kernel
theorem dX4_expect_22 : decode cX4_expect 22 = .ok (.dup, 1) := by decide +kernel
theorem dX4_expect_23 : decode cX4_expect 23 = .ok (.getfield 19, 3) := by decide +kernel
theorem dX4_expect_26 : decode cX4_expect 26 = .ok (.iconst 1, 1) := by decide +kernel
theorem dX4_expect_27 : decode cX4_expect 27 = .ok (.iadd, 1) := by decide +kernel
theorem dX4_expect_28 : decode cX4_expect 28 = .ok (.putfield 19, 3) := by decide +kernel
theorem dX4_expect_31 : decode cX4_expect 31 = .ok (.goto 11, 3) := by decide +kernel
theorem dX4_expect_34 : decode cX4_expect 34 = .ok (.aload_n 0, 1) := by decide +kernel
theorem dX4_expect_35 : decode cX4_expect 35 = .ok (.aload_n 0, 1) := by decide +kernel
theorem dX4_expect_36 : decode cX4_expect 36 = .ok (.getfield 19, 3) := by decide +kernel
theorem dX4_expect_39 : decode cX4_expect 39 = .ok (.putfield 22, 3) := by decide +kernel
theorem dX4_expect_42 : decode cX4_expect 42 = .ok (.return_, 1) := by decide +kernel
theorem dX4_isDigit_0 : decode cX4_isDigit 0 = .ok (.iload_n 0, 1) := by decide +kernel
theorem dX4_isDigit_1 : decode cX4_isDigit 1 = .ok (.bipush 48, 2) := by decide +kernel
theorem dX4_isDigit_3 : decode cX4_isDigit 3 = .ok (.if_icmp .lt 13, 3) := by decide +kernel
theorem dX4_isDigit_6 : decode cX4_isDigit 6 = .ok (.iload_n 0, 1) := by decide +kernel
theorem dX4_isDigit_7 : decode cX4_isDigit 7 = .ok (.bipush 57, 2) := by decide +kernel
theorem dX4_isDigit_9 : decode cX4_isDigit 9 = .ok (.if_icmp .gt 7, 3) := by decide +kernel
theorem dX4_isDigit_12 : decode cX4_isDigit 12 = .ok (.iconst 1, 1) := by decide +kernel
theorem dX4_isDigit_13 : decode cX4_isDigit 13 = .ok (.goto 4, 3) := by decide +kernel
theorem dX4_isDigit_16 : decode cX4_isDigit 16 = .ok (.iconst 0, 1) := by decide +kernel
theorem dX4_isDigit_17 : decode cX4_isDigit 17 = .ok (.ireturn, 1) := by decide +kernel
theorem dX4_byteAt_0 : decode cX4_byteAt 0 = .ok (.iload_n 1, 1) := by decide +kernel
theorem dX4_byteAt_1 : decode cX4_byteAt 1 = .ok (.ifCond .lt 26, 3) := by decide +kernel
theorem dX4_byteAt_4 : decode cX4_byteAt 4 = .ok (.iload_n 1, 1) := by decide +kernel
theorem dX4_byteAt_5 : decode cX4_byteAt 5 = .ok (.aload_n 0, 1) := by decide +kernel
theorem dX4_byteAt_6 : decode cX4_byteAt 6 = .ok (.getfield 15, 3) := by decide +kernel
theorem dX4_byteAt_9 : decode cX4_byteAt 9 = .ok (.if_icmp .ge 18, 3) := by decide +kernel
theorem dX4_byteAt_12 : decode cX4_byteAt 12 = .ok (.iload_n 1, 1) := by decide +kernel
theorem dX4_byteAt_13 : decode cX4_byteAt 13 = .ok (.bipush 120, 2) := by decide +kernel
theorem dX4_byteAt_15 : decode cX4_byteAt 15 = .ok (.if_icmp .ge 12, 3) := by decide +kernel
theorem dX4_byteAt_18 : decode cX4_byteAt 18 = .ok (.aload_n 0, 1) := by decide +kernel
theorem dX4_byteAt_19 : decode cX4_byteAt 19 = .ok (.getfield 9, 3) := by decide +kernel
theorem dX4_byteAt_22 : decode cX4_byteAt 22 = .ok (.iload_n 1, 1) := by decide +kernel
theorem dX4_byteAt_23 : decode cX4_byteAt 23 = .ok (.iaload, 1) := by decide +kernel
theorem dX4_byteAt_24 : decode cX4_byteAt 24 = .ok (.goto 4, 3) := by decide +kernel
theorem dX4_byteAt_27 : decode cX4_byteAt 27 = .ok (.iconst (-1), 1) := by decide +kernel
theorem dX4_byteAt_28 : decode cX4_byteAt 28 = .ok (.ireturn, 1) := by decide +kernel
theorem dX5_init_0 : decode cX5_init 0 = .ok (.aload_n 0, 1) := by decide +kernel
theorem dX5_init_1 : decode cX5_init 1 = .ok (.invokespecial 1, 3) := by decide +kernel
theorem dX5_init_4 : decode cX5_init 4 = .ok (.aload_n 0, 1) := by decide +kernel
theorem dX5_init_5 : decode cX5_init 5 = .ok (.new 7, 3) := by decide +kernel
theorem dX5_init_8 : decode cX5_init 8 = .ok (.dup, 1) := by decide +kernel
theorem dX5_init_9 : decode cX5_init 9 = .ok (.invokespecial 9, 3) := by decide +kernel
theorem dX5_init_12 : decode cX5_init 12 = .ok (.putfield 10, 3) := by decide +kernel
theorem dX5_init_15 : decode cX5_init 15 = .ok (.aload_n 0, 1) := by decide +kernel
theorem dX5_init_16 : decode cX5_init 16 = .ok (.new 7, 3) := by decide +kernel
theorem dX5_init_19 : decode cX5_init 19 = .ok (.dup, 1) := by decide +kernel
theorem dX5_init_20 : decode cX5_init 20 = .ok (.invokespecial 9, 3) := by decide +kernel
theorem dX5_init_23 : decode cX5_init 23 = .ok (.putfield 16, 3) := by decide +kernel
theorem dX5_init_26 : decode cX5_init 26 = .ok (.aload_n 0, 1) := by decide +kernel
theorem dX5_init_27 : decode cX5_init 27 = .ok (.new 19, 3) := by decide +kernel
theorem dX5_init_30 : decode cX5_init 30 = .ok (.dup, 1) := by decide +kernel
theorem dX5_init_31 : decode cX5_init 31 = .ok (.invokespecial 21, 3) := by decide +kernel
theorem dX5_init_34 : decode cX5_init 34 = .ok (.putfield 22, 3) := by decide +kernel
theorem dX5_init_37 : decode cX5_init 37 = .ok (.aload_n 0, 1) := by decide +kernel
theorem dX5_init_38 : decode cX5_init 38 = .ok (.new 26, 3) := by decide +kernel
theorem dX5_init_41 : decode cX5_init 41 = .ok (.dup, 1) := by decide +kernel
theorem dX5_init_42 : decode cX5_init 42 = .ok (.invokespecial 28, 3) := by decide +kernel
theorem dX5_init_45 : decode cX5_init 45 = .ok (.putfield 29, 3) := by decide +kernel
theorem dX5_init_48 : decode cX5_init 48 = .ok (.aload_n 0, 1) := by decide +kernel
theorem dX5_init_49 : decode cX5_init 49 = .ok (.new 33, 3) := by decide +kernel
theorem dX5_init_52 : decode cX5_init 52 = .ok (.dup, 1) := by decide +kernel
theorem dX5_init_53 : decode cX5_init 53 = .ok (.invokespecial 35, 3) := by decide +kernel
theorem dX5_init_56 : decode cX5_init 56 = .ok (.putfield 36, 3) := by decide +kernel
theorem dX5_init_59 : decode cX5_init 59 = .ok (.aload_n 0, 1) := by decide +kernel
theorem dX5_init_60 : decode cX5_init 60 = .ok (.new 40, 3) := by decide +kernel
theorem dX5_init_63 : decode cX5_init 63 = .ok (.dup, 1) := by decide +kernel
theorem dX5_init_64 : decode cX5_init 64 = .ok (.invokespecial 42, 3) := by decide +kernel
theorem dX5_init_67 : decode cX5_init 67 = .ok (.putfield 43, 3) := by decide +kernel
theorem dX5_init_70 : decode cX5_init 70 = .ok (.aload_n 0, 1) := by decide +kernel
theorem dX5_init_71 : decode cX5_init 71 = .ok (.iconst 5, 1) := by decide +kernel
theorem dX5_init_72 : decode cX5_init 72 = .ok (.newarray .long, 2) := by decide +kernel
theorem dX5_init_74 : decode cX5_init 74 = .ok (.putfield 47, 3) := by decide +kernel
theorem dX5_init_77 : decode cX5_init 77 = .ok (.return_, 1) := by decide +kernel
theorem dX5_addCarrier_0 : decode cX5_addCarrier 0 = .ok (.iload_n 1, 1) := by decide +kernel
theorem dX5_addCarrier_1 : decode cX5_addCarrier 1 = .ok (.invokestatic 51, 3) := by decide +kernel
theorem dX5_addCarrier_4 : decode cX5_addCarrier 4 = .ok (.ifCond .eq 22, 3) := by decide +kernel
theorem dX5_addCarrier_7 : decode cX5_addCarrier 7 = .ok (.iload_n 2, 1) := by decide +kernel
theorem dX5_addCarrier_8 : decode cX5_addCarrier 8 = .ok (.invokestatic 55, 3) := by decide +kernel
theorem dX5_addCarrier_11 : decode cX5_addCarrier 11 = .ok (.ifCond .eq 15, 3) := by decide +kernel
theorem dX5_addCarrier_14 : decode cX5_addCarrier 14 = .ok (.aload_n 0, 1) := by decide +kernel
theorem dX5_addCarrier_15 : decode cX5_addCarrier 15 = .ok (.getfield 10, 3) := by decide +kernel
theorem dX5_addCarrier_18 : decode cX5_addCarrier 18 = .ok (.iload_n 1, 1) := by decide +kernel
theorem dX5_addCarrier_19 : decode cX5_addCarrier 19 = .ok (.invokevirtual 58, 3) := by decide +kernel
theorem dX5_addCarrier_22 : decode cX5_addCarrier 22 = .ok (.iconst (-1), 1) := by decide +kernel
theorem dX5_addCarrier_23 : decode cX5_addCarrier 23 = .ok (.if_icmp .eq 13, 3) := by decide +kernel
theorem dX5_addCarrier_26 : decode cX5_addCarrier 26 = .ok (.new 62, 3) := by decide +kernel
theorem dX5_addCarrier_29 : decode cX5_addCarrier 29 = .ok (.dup, 1) := by decide +kernel
theorem dX5_addCarrier_30 : decode cX5_addCarrier 30 = .ok (.ldc 64, 2) := by decide +kernel
theorem dX5_addCarrier_32 : decode cX5_addCarrier 32 = .ok (.invokespecial 66, 3) := by decide +kernel
theorem dX5_addCarrier_35 : decode cX5_addCarrier 35 = .ok (.athrow, 1) := by decide +kernel
theorem dX5_addCarrier_36 : decode cX5_addCarrier 36 = .ok (.aload_n 0, 1) := by decide +kernel
theorem dX5_addCarrier_37 : decode cX5_addCarrier 37 = .ok (.invokevirtual 69, 3) := by decide +kernel
theorem dX5_addCarrier_40 : decode cX5_addCarrier 40 = .ok (.aload_n 0, 1) := by decide +kernel
theorem dX5_addCarrier_41 : decode cX5_addCarrier 41 = .ok (.getfield 22, 3) := by decide +kernel
theorem dX5_addCarrier_44 : decode cX5_addCarrier 44 = .ok (.aload_n 0, 1) := by decide +kernel
theorem dX5_addCarrier_45 : decode cX5_addCarrier 45 = .ok (.getfield 10, 3) := by decide +kernel
theorem dX5_addCarrier_48 : decode cX5_addCarrier 48 = .ok (.invokevirtual 72, 3) := by decide +kernel
theorem dX5_addCarrier_51 : decode cX5_addCarrier 51 = .ok (.aload_n 0, 1) := by decide +kernel
theorem dX5_addCarrier_52 : decode cX5_addCarrier 52 = .ok (.getfield 10, 3) := by decide +kernel
theorem dX5_addCarrier_55 : decode cX5_addCarrier 55 = .ok (.iload_n 1, 1) := by decide +kernel
theorem dX5_addCarrier_56 : decode cX5_addCarrier 56 = .ok (.iload_n 2, 1) := by decide +kernel
theorem dX5_addCarrier_57 : decode cX5_addCarrier 57 = .ok (.invokevirtual 76, 3) := by decide +kernel
theorem dX5_addCarrier_60 : decode cX5_addCarrier 60 = .ok (.aload_n 0, 1) := by decide +kernel
theorem dX5_addCarrier_61 : decode cX5_addCarrier 61 = .ok (.getfield 10, 3) := by decide +kernel
theorem dX5_addCarrier_64 : decode cX5_addCarrier 64 = .ok (.getfield 80, 3) := by decide +kernel
theorem dX5_addCarrier_67 : decode cX5_addCarrier 67 = .ok (.iconst 1, 1) := by decide +kernel
theorem dX5_addCarrier_68 : decode cX5_addCarrier 68 = .ok (.isub, 1) := by decide +kernel
theorem dX5_addCarrier_69 : decode cX5_addCarrier 69 = .ok (.ireturn, 1) := by decide +kernel
theorem dX5_moveCarrier_0 : decode cX5_moveCarrier 0 = .ok (.aload_n 0, 1) := by decide +kernel
theorem dX5_moveCarrier_1 : decode cX5_moveCarrier 1 = .ok (.iload_n 1, 1) := by decide +kernel
theorem dX5_moveCarrier_2 : decode cX5_moveCarrier 2 = .ok (.invokevirtual 84, 3) := by decide +kernel
theorem dX5_moveCarrier_5 : decode cX5_moveCarrier 5 = .ok (.iload_n 2, 1) := by decide +kernel
theorem dX5_moveCarrier_6 : decode cX5_moveCarrier 6 = .ok (.invokestatic 51, 3) := by decide +kernel
theorem dX5_moveCarrier_9 : decode cX5_moveCarrier 9 = .ok (.ifCond .eq 10, 3) := by decide +kernel
theorem dX5_moveCarrier_12 : decode cX5_moveCarrier 12 = .ok (.iload_n 3, 1) := by decide +kernel
theorem dX5_moveCarrier_13 : decode cX5_moveCarrier 13 = .ok (.invokestatic 55, 3) := by decide +kernel
theorem dX5_moveCarrier_16 : decode cX5_moveCarrier 16 = .ok (.ifCond .ne 13, 3) := by decide +kernel
theorem dX5_moveCarrier_19 : decode cX5_moveCarrier 19 = .ok (.new 62, 3) := by decide +kernel
theorem dX5_moveCarrier_22 : decode cX5_moveCarrier 22 = .ok (.dup, 1) := by decide +kernel
theorem dX5_moveCarrier_23 : decode cX5_moveCarrier 23 = .ok (.ldc 88, 2) := by decide +kernel
theorem dX5_moveCarrier_25 : decode cX5_moveCarrier 25 = .ok (.invokespecial 66, 3) := by decide +kernel
theorem dX5_moveCarrier_28 : decode cX5_moveCarrier 28 = .ok (.athrow, 1) := by decide +kernel
theorem dX5_moveCarrier_29 : decode cX5_moveCarrier 29 = .ok (.aload_n 0, 1) := by decide +kernel
theorem dX5_moveCarrier_30 : decode cX5_moveCarrier 30 = .ok (.getfield 10, 3) := by decide +kernel
theorem dX5_moveCarrier_33 : decode cX5_moveCarrier 33 = .ok (.iload_n 2, 1) := by decide +kernel
theorem dX5_moveCarrier_34 : decode cX5_moveCarrier 34 = .ok (.invokevirtual 58, 3) := by decide +kernel
theorem dX5_moveCarrier_37 : decode cX5_moveCarrier 37 = .ok (.istore 4, 2) := by decide +kernel
theorem dX5_moveCarrier_39 : decode cX5_moveCarrier 39 = .ok (.iload 4, 2) := by decide +kernel
theorem dX5_moveCarrier_41 : decode cX5_moveCarrier 41 = .ok (.iconst (-1), 1) := by decide +kernel
theorem dX5_moveCarrier_42 : decode cX5_moveCarrier 42 = .ok (.if_icmp .eq 19, 3) := by decide +kernel
theorem dX5_moveCarrier_45 : decode cX5_moveCarrier 45 = .ok (.iload 4, 2) := by decide +kernel
theorem dX5_moveCarrier_47 : decode cX5_moveCarrier 47 = .ok (.iload_n 1, 1) := by decide +kernel
theorem dX5_moveCarrier_48 : decode cX5_moveCarrier 48 = .ok (.if_icmp .eq 13, 3) := by decide +kernel
theorem dX5_moveCarrier_51 : decode cX5_moveCarrier 51 = .ok (.new 62, 3) := by decide +kernel
theorem dX5_moveCarrier_54 : decode cX5_moveCarrier 54 = .ok (.dup, 1) := by decide +kernel
theorem dX5_moveCarrier_55 : decode cX5_moveCarrier 55 = .ok (.ldc 90, 2) := by decide +kernel
theorem dX5_moveCarrier_57 : decode cX5_moveCarrier 57 = .ok (.invokespecial 66, 3) := by decide +kernel
theorem dX5_moveCarrier_60 : decode cX5_moveCarrier 60 = .ok (.athrow, 1) := by decide +kernel
theorem dX5_moveCarrier_61 : decode cX5_moveCarrier 61 = .ok (.aload_n 0, 1) := by decide +kernel
theorem dX5_moveCarrier_62 : decode cX5_moveCarrier 62 = .ok (.getfield 22, 3) := by decide +kernel
theorem dX5_moveCarrier_65 : decode cX5_moveCarrier 65 = .ok (.aload_n 0, 1) := by decide +kernel
theorem dX5_moveCarrier_66 : decode cX5_moveCarrier 66 = .ok (.getfield 10, 3) := by decide +kernel
theorem dX5_moveCarrier_69 : decode cX5_moveCarrier 69 = .ok (.invokevirtual 72, 3) := by decide +kernel
theorem dX5_moveCarrier_72 : decode cX5_moveCarrier 72 = .ok (.aload_n 0, 1) := by decide +kernel
theorem dX5_moveCarrier_73 : decode cX5_moveCarrier 73 = .ok (.getfield 10, 3) := by decide +kernel
theorem dX5_moveCarrier_76 : decode cX5_moveCarrier 76 = .ok (.iload_n 1, 1) := by decide +kernel
theorem dX5_moveCarrier_77 : decode cX5_moveCarrier 77 = .ok (.invokevirtual 92, 3) := by decide +kernel
theorem dX5_moveCarrier_80 : decode cX5_moveCarrier 80 = .ok (.istore 5, 2) := by decide +kernel
theorem dX5_moveCarrier_82 : decode cX5_moveCarrier 82 = .ok (.aload_n 0, 1) := by decide +kernel
theorem dX5_moveCarrier_83 : decode cX5_moveCarrier 83 = .ok (.getfield 10, 3) := by decide +kernel
theorem dX5_moveCarrier_86 : decode cX5_moveCarrier 86 = .ok (.iload_n 1, 1) := by decide +kernel
theorem dX5_moveCarrier_87 : decode cX5_moveCarrier 87 = .ok (.iload_n 2, 1) := by decide +kernel
theorem dX5_moveCarrier_88 : decode cX5_moveCarrier 88 = .ok (.iload_n 3, 1) := by decide +kernel
theorem dX5_moveCarrier_89 : decode cX5_moveCarrier 89 = .ok (.invokevirtual 95, 3) := by decide +kernel
theorem dX5_moveCarrier_92 : decode cX5_moveCarrier 92 = .ok (.iload 5, 2) := by decide +kernel
theorem dX5_moveCarrier_94 : decode cX5_moveCarrier 94 = .ok (.ireturn, 1) := by decide +kernel
theorem dX5_removeCarrier_0 : decode cX5_removeCarrier 0 = .ok (.aload_n 0, 1) := by decide +kernel
theorem dX5_removeCarrier_1 : decode cX5_removeCarrier 1 = .ok (.iload_n 1, 1) := by decide +kernel
theorem dX5_removeCarrier_2 : decode cX5_removeCarrier 2 = .ok (.invokevirtual 84, 3) := by decide +kernel
theorem dX5_removeCarrier_5 : decode cX5_removeCarrier 5 = .ok (.aload_n 0, 1) := by decide +kernel
theorem dX5_removeCarrier_6 : decode cX5_removeCarrier 6 = .ok (.getfield 22, 3) := by decide +kernel
theorem dX5_removeCarrier_9 : decode cX5_removeCarrier 9 = .ok (.aload_n 0, 1) := by decide +kernel
theorem dX5_removeCarrier_10 : decode cX5_removeCarrier 10 = .ok (.getfield 10, 3) := by decide +kernel
theorem dX5_removeCarrier_13 : decode cX5_removeCarrier 13 = .ok (.invokevirtual 72, 3) := by decide +kernel
theorem dX5_removeCarrier_16 : decode cX5_removeCarrier 16 = .ok (.aload_n 0, 1) := by decide +kernel
theorem dX5_removeCarrier_17 : decode cX5_removeCarrier 17 = .ok (.getfield 10, 3) := by decide +kernel
theorem dX5_removeCarrier_20 : decode cX5_removeCarrier 20 = .ok (.iload_n 1, 1) := by decide +kernel
theorem dX5_removeCarrier_21 : decode cX5_removeCarrier 21 = .ok (.invokevirtual 99, 3) := by decide +kernel
theorem dX5_removeCarrier_24 : decode cX5_removeCarrier 24 = .ok (.aload_n 0, 1) := by decide +kernel
theorem dX5_removeCarrier_25 : decode cX5_removeCarrier 25 = .ok (.getfield 10, 3) := by decide +kernel
theorem dX5_removeCarrier_28 : decode cX5_removeCarrier 28 = .ok (.getfield 80, 3) := by decide +kernel
theorem dX5_removeCarrier_31 : decode cX5_removeCarrier 31 = .ok (.ireturn, 1) := by decide +kernel
theorem dX5_shift_0 : decode cX5_shift 0 = .ok (.iload_n 1, 1) := by decide +kernel
theorem dX5_shift_1 : decode cX5_shift 1 = .ok (.bipush (-64), 2) := by decide +kernel
theorem dX5_shift_3 : decode cX5_shift 3 = .ok (.if_icmp .le 9, 3) := by decide +kernel
theorem dX5_shift_6 : decode cX5_shift 6 = .ok (.iload_n 1, 1) := by decide +kernel
theorem dX5_shift_7 : decode cX5_shift 7 = .ok (.bipush 64, 2) := by decide +kernel
theorem dX5_shift_9 : decode cX5_shift 9 = .ok (.if_icmp .lt 13, 3) := by decide +kernel
theorem dX5_shift_12 : decode cX5_shift 12 = .ok (.new 62, 3) := by decide +kernel
theorem dX5_shift_15 : decode cX5_shift 15 = .ok (.dup, 1) := by decide +kernel
theorem dX5_shift_16 : decode cX5_shift 16 = .ok (.ldc 102, 2) := by decide +kernel
theorem dX5_shift_18 : decode cX5_shift 18 = .ok (.invokespecial 66, 3) := by decide +kernel
theorem dX5_shift_21 : decode cX5_shift 21 = .ok (.athrow, 1) := by decide +kernel
theorem dX5_shift_22 : decode cX5_shift 22 = .ok (.iconst 0, 1) := by decide +kernel
theorem dX5_shift_23 : decode cX5_shift 23 = .ok (.istore_n 2, 1) := by decide +kernel
theorem dX5_shift_24 : decode cX5_shift 24 = .ok (.iload_n 2, 1) := by decide +kernel
theorem dX5_shift_25 : decode cX5_shift 25 = .ok (.aload_n 0, 1) := by decide +kernel
theorem dX5_shift_26 : decode cX5_shift 26 = .ok (.getfield 10, 3) := by decide +kernel
theorem dX5_shift_29 : decode cX5_shift 29 = .ok (.getfield 80, 3) := by decide +kernel
theorem dX5_shift_32 : decode cX5_shift 32 = .ok (.if_icmp .ge 35, 3) := by decide +kernel
theorem dX5_shift_35 : decode cX5_shift 35 = .ok (.aload_n 0, 1) := by decide +kernel
theorem dX5_shift_36 : decode cX5_shift 36 = .ok (.getfield 10, 3) := by decide +kernel
theorem dX5_shift_39 : decode cX5_shift 39 = .ok (.iload_n 2, 1) := by decide +kernel
theorem dX5_shift_40 : decode cX5_shift 40 = .ok (.invokevirtual 92, 3) := by decide +kernel
theorem dX5_shift_43 : decode cX5_shift 43 = .ok (.iload_n 1, 1) := by decide +kernel
theorem dX5_shift_44 : decode cX5_shift 44 = .ok (.iadd, 1) := by decide +kernel
theorem dX5_shift_45 : decode cX5_shift 45 = .ok (.invokestatic 51, 3) := by decide +kernel
theorem dX5_shift_48 : decode cX5_shift 48 = .ok (.ifCond .ne 13, 3) := by decide +kernel
theorem dX5_shift_51 : decode cX5_shift 51 = .ok (.new 104, 3) := by decide +kernel
theorem dX5_shift_54 : decode cX5_shift 54 = .ok (.dup, 1) := by decide +kernel
theorem dX5_shift_55 : decode cX5_shift 55 = .ok (.ldc 106, 2) := by decide +kernel
theorem dX5_shift_57 : decode cX5_shift 57 = .ok (.invokespecial 108, 3) := by decide +kernel
theorem dX5_shift_60 : decode cX5_shift 60 = .ok (.athrow, 1) := by decide +kernel
theorem dX5_shift_61 : decode cX5_shift 61 = .ok (.iinc 2 1, 3) := by decide +kernel
theorem dX5_shift_64 : decode cX5_shift 64 = .ok (.goto (-40), 3) := by decide +kernel
theorem dX5_shift_67 : decode cX5_shift 67 = .ok (.aload_n 0, 1) := by decide +kernel
theorem dX5_shift_68 : decode cX5_shift 68 = .ok (.getfield 22, 3) := by decide +kernel
theorem dX5_shift_71 : decode cX5_shift 71 = .ok (.aload_n 0, 1) := by decide +kernel
theorem dX5_shift_72 : decode cX5_shift 72 = .ok (.getfield 10, 3) := by decide +kernel
theorem dX5_shift_75 : decode cX5_shift 75 = .ok (.invokevirtual 72, 3) := by decide +kernel
theorem dX5_shift_78 : decode cX5_shift 78 = .ok (.aload_n 0, 1) := by decide +kernel
theorem dX5_shift_79 : decode cX5_shift 79 = .ok (.getfield 10, 3) := by decide +kernel
theorem dX5_shift_82 : decode cX5_shift 82 = .ok (.iload_n 1, 1) := by decide +kernel
theorem dX5_shift_83 : decode cX5_shift 83 = .ok (.invokevirtual 109, 3) := by decide +kernel
theorem dX5_shift_86 : decode cX5_shift 86 = .ok (.aload_n 0, 1) := by decide +kernel
theorem dX5_shift_87 : decode cX5_shift 87 = .ok (.getfield 10, 3) := by decide +kernel
theorem dX5_shift_90 : decode cX5_shift 90 = .ok (.getfield 80, 3) := by decide +kernel
theorem dX5_shift_93 : decode cX5_shift 93 = .ok (.ireturn, 1) := by decide +kernel
theorem dX5_setProducts_0 : decode cX5_setProducts 0 = .ok (.iload_n 1, 1) := by decide +kernel
theorem dX5_setProducts_1 : decode cX5_setProducts 1 = .ok (.iconst 0, 1) := by decide +kernel
theorem dX5_setProducts_2 : decode cX5_setProducts 2 = .ok (.bipush 7, 2) := by decide +kernel
theorem dX5_setProducts_4 : decode cX5_setProducts 4 = .ok (.invokestatic 112, 3) := by decide +kernel
theorem dX5_setProducts_7 : decode cX5_setProducts 7 = .ok (.ifCond .eq 25, 3) := by decide +kernel
theorem dX5_setProducts_10 : decode cX5_setProducts 10 = .ok (.iload_n 2, 1) := by decide +kernel
theorem dX5_setProducts_11 : decode cX5_setProducts 11 = .ok (.iconst 0, 1) := by decide +kernel
theorem dX5_setProducts_12 : decode cX5_setProducts 12 = .ok (.sipush 300, 3) := by decide +kernel
theorem dX5_setProducts_15 : decode cX5_setProducts 15 = .ok (.invokestatic 112, 3) := by decide +kernel
theorem dX5_setProducts_18 : decode cX5_setProducts 18 = .ok (.ifCond .eq 14, 3) := by decide +kernel
theorem dX5_setProducts_21 : decode cX5_setProducts 21 = .ok (.iload_n 3, 1) := by decide +kernel
theorem dX5_setProducts_22 : decode cX5_setProducts 22 = .ok (.iconst 0, 1) := by decide +kernel
theorem dX5_setProducts_23 : decode cX5_setProducts 23 = .ok (.sipush 300, 3) := by decide +kernel
theorem dX5_setProducts_26 : decode cX5_setProducts 26 = .ok (.invokestatic 112, 3) := by decide +kernel
theorem dX5_setProducts_29 : decode cX5_setProducts 29 = .ok (.ifCond .ne 13, 3) := by decide +kernel
theorem dX5_setProducts_32 : decode cX5_setProducts 32 = .ok (.new 62, 3) := by decide +kernel
theorem dX5_setProducts_35 : decode cX5_setProducts 35 = .ok (.dup, 1) := by decide +kernel
theorem dX5_setProducts_36 : decode cX5_setProducts 36 = .ok (.ldc 116, 2) := by decide +kernel
theorem dX5_setProducts_38 : decode cX5_setProducts 38 = .ok (.invokespecial 66, 3) := by decide +kernel
theorem dX5_setProducts_41 : decode cX5_setProducts 41 = .ok (.athrow, 1) := by decide +kernel
theorem dX5_setProducts_42 : decode cX5_setProducts 42 = .ok (.aload_n 0, 1) := by decide +kernel
theorem dX5_setProducts_43 : decode cX5_setProducts 43 = .ok (.getfield 22, 3) := by decide +kernel
theorem dX5_setProducts_46 : decode cX5_setProducts 46 = .ok (.aload_n 0, 1) := by decide +kernel
theorem dX5_setProducts_47 : decode cX5_setProducts 47 = .ok (.getfield 10, 3) := by decide +kernel
theorem dX5_setProducts_50 : decode cX5_setProducts 50 = .ok (.invokevirtual 72, 3) := by decide +kernel
theorem dX5_setProducts_53 : decode cX5_setProducts 53 = .ok (.aload_n 0, 1) := by decide +kernel
theorem dX5_setProducts_54 : decode cX5_setProducts 54 = .ok (.getfield 10, 3) := by decide +kernel
theorem dX5_setProducts_57 : decode cX5_setProducts 57 = .ok (.getfield 118, 3) := by decide +kernel
theorem dX5_setProducts_60 : decode cX5_setProducts 60 = .ok (.istore 4, 2) := by decide +kernel
theorem dX5_setProducts_62 : decode cX5_setProducts 62 = .ok (.aload_n 0, 1) := by decide +kernel
theorem dX5_setProducts_63 : decode cX5_setProducts 63 = .ok (.getfield 10, 3) := by decide +kernel
theorem dX5_setProducts_66 : decode cX5_setProducts 66 = .ok (.iload_n 1, 1) := by decide +kernel
theorem dX5_setProducts_67 : decode cX5_setProducts 67 = .ok (.putfield 118, 3) := by decide +kernel
theorem dX5_setProducts_70 : decode cX5_setProducts 70 = .ok (.aload_n 0, 1) := by decide +kernel
theorem dX5_setProducts_71 : decode cX5_setProducts 71 = .ok (.getfield 10, 3) := by decide +kernel
theorem dX5_setProducts_74 : decode cX5_setProducts 74 = .ok (.iload_n 2, 1) := by decide +kernel
theorem dX5_setProducts_75 : decode cX5_setProducts 75 = .ok (.putfield 121, 3) := by decide +kernel
theorem dX5_setProducts_78 : decode cX5_setProducts 78 = .ok (.aload_n 0, 1) := by decide +kernel
theorem dX5_setProducts_79 : decode cX5_setProducts 79 = .ok (.getfield 10, 3) := by decide +kernel
theorem dX5_setProducts_82 : decode cX5_setProducts 82 = .ok (.iload_n 3, 1) := by decide +kernel
theorem dX5_setProducts_83 : decode cX5_setProducts 83 = .ok (.putfield 124, 3) := by decide +kernel
theorem dX5_setProducts_86 : decode cX5_setProducts 86 = .ok (.aload_n 0, 1) := by decide +kernel
theorem dX5_setProducts_87 : decode cX5_setProducts 87 = .ok (.getfield 10, 3) := by decide +kernel
theorem dX5_setProducts_90 : decode cX5_setProducts 90 = .ok (.iconst 0, 1) := by decide +kernel
theorem dX5_setProducts_91 : decode cX5_setProducts 91 = .ok (.putfield 127, 3) := by decide +kernel
theorem dX5_setProducts_94 : decode cX5_setProducts 94 = .ok (.iload 4, 2) := by decide +kernel
theorem dX5_setProducts_96 : decode cX5_setProducts 96 = .ok (.ireturn, 1) := by decide +kernel
theorem dX5_setSpacing_0 : decode cX5_setSpacing 0 = .ok (.iload_n 1, 1) := by decide +kernel
theorem dX5_setSpacing_1 : decode cX5_setSpacing 1 = .ok (.iconst 0, 1) := by decide +kernel
theorem dX5_setSpacing_2 : decode cX5_setSpacing 2 = .ok (.iconst 5, 1) := by decide +kernel
theorem dX5_setSpacing_3 : decode cX5_setSpacing 3 = .ok (.invokestatic 112, 3) := by decide +kernel
theorem dX5_setSpacing_6 : decode cX5_setSpacing 6 = .ok (.ifCond .eq 13, 3) := by decide +kernel
theorem dX5_setSpacing_9 : decode cX5_setSpacing 9 = .ok (.iload_n 2, 1) := by decide +kernel
theorem dX5_setSpacing_10 : decode cX5_setSpacing 10 = .ok (.iconst 1, 1) := by decide +kernel
theorem dX5_setSpacing_11 : decode cX5_setSpacing 11 = .ok (.bipush 10, 2) := by decide +kernel
theorem dX5_setSpacing_13 : decode cX5_setSpacing 13 = .ok (.invokestatic 112, 3) := by decide +kernel
theorem dX5_setSpacing_16 : decode cX5_setSpacing 16 = .ok (.ifCond .ne 13, 3) := by decide +kernel
theorem dX5_setSpacing_19 : decode cX5_setSpacing 19 = .ok (.new 62, 3) := by decide +kernel
theorem dX5_setSpacing_22 : decode cX5_setSpacing 22 = .ok (.dup, 1) := by decide +kernel
theorem dX5_setSpacing_23 : decode cX5_setSpacing 23 = .ok (.ldc 130, 2) := by decide +kernel
theorem dX5_setSpacing_25 : decode cX5_setSpacing 25 = .ok (.invokespecial 66, 3) := by decide +kernel
theorem dX5_setSpacing_28 : decode cX5_setSpacing 28 = .ok (.athrow, 1) := by decide +kernel
theorem dX5_setSpacing_29 : decode cX5_setSpacing 29 = .ok (.aload_n 0, 1) := by decide +kernel
theorem dX5_setSpacing_30 : decode cX5_setSpacing 30 = .ok (.getfield 22, 3) := by decide +kernel
theorem dX5_setSpacing_33 : decode cX5_setSpacing 33 = .ok (.aload_n 0, 1) := by decide +kernel
theorem dX5_setSpacing_34 : decode cX5_setSpacing 34 = .ok (.getfield 10, 3) := by decide +kernel
theorem dX5_setSpacing_37 : decode cX5_setSpacing 37 = .ok (.invokevirtual 72, 3) := by decide +kernel
theorem dX5_setSpacing_40 : decode cX5_setSpacing 40 = .ok (.aload_n 0, 1) := by decide +kernel
theorem dX5_setSpacing_41 : decode cX5_setSpacing 41 = .ok (.getfield 10, 3) := by decide +kernel
theorem dX5_setSpacing_44 : decode cX5_setSpacing 44 = .ok (.getfield 132, 3) := by decide +kernel
theorem dX5_setSpacing_47 : decode cX5_setSpacing 47 = .ok (.istore_n 3, 1) := by decide +kernel
theorem dX5_setSpacing_48 : decode cX5_setSpacing 48 = .ok (.aload_n 0, 1) := by decide +kernel
theorem dX5_setSpacing_49 : decode cX5_setSpacing 49 = .ok (.getfield 10, 3) := by decide +kernel
theorem dX5_setSpacing_52 : decode cX5_setSpacing 52 = .ok (.iload_n 1, 1) := by decide +kernel
theorem dX5_setSpacing_53 : decode cX5_setSpacing 53 = .ok (.putfield 132, 3) := by decide +kernel
theorem dX5_setSpacing_56 : decode cX5_setSpacing 56 = .ok (.aload_n 0, 1) := by decide +kernel
theorem dX5_setSpacing_57 : decode cX5_setSpacing 57 = .ok (.getfield 10, 3) := by decide +kernel
theorem dX5_setSpacing_60 : decode cX5_setSpacing 60 = .ok (.iload_n 2, 1) := by decide +kernel
theorem dX5_setSpacing_61 : decode cX5_setSpacing 61 = .ok (.putfield 135, 3) := by decide +kernel
theorem dX5_setSpacing_64 : decode cX5_setSpacing 64 = .ok (.aload_n 0, 1) := by decide +kernel
theorem dX5_setSpacing_65 : decode cX5_setSpacing 65 = .ok (.getfield 10, 3) := by decide +kernel
theorem dX5_setSpacing_68 : decode cX5_setSpacing 68 = .ok (.iconst 0, 1) := by decide +kernel
theorem dX5_setSpacing_69 : decode cX5_setSpacing 69 = .ok (.putfield 127, 3) := by decide +kernel
theorem dX5_setSpacing_72 : decode cX5_setSpacing 72 = .ok (.iload_n 3, 1) := by decide +kernel
theorem dX5_setSpacing_73 : decode cX5_setSpacing 73 = .ok (.ireturn, 1) := by decide +kernel
theorem dX5_size_0 : decode cX5_size 0 = .ok (.iload_n 1, 1) := by decide +kernel
theorem dX5_size_1 : decode cX5_size 1 = .ok (.tableswitch 51 0 2 #[27, 35, 43], 27) := by decide +kernel
theorem dX5_size_28 : decode cX5_size 28 = .ok (.aload_n 0, 1) := by decide +kernel
theorem dX5_size_29 : decode cX5_size 29 = .ok (.getfield 10, 3) := by decide +kernel
theorem dX5_size_32 : decode cX5_size 32 = .ok (.getfield 80, 3) := by decide +kernel
theorem dX5_size_35 : decode cX5_size 35 = .ok (.ireturn, 1) := by decide +kernel
theorem dX5_size_36 : decode cX5_size 36 = .ok (.aload_n 0, 1) := by decide +kernel
theorem dX5_size_37 : decode cX5_size 37 = .ok (.getfield 10, 3) := by decide +kernel
theorem dX5_size_40 : decode cX5_size 40 = .ok (.getfield 138, 3) := by decide +kernel
theorem dX5_size_43 : decode cX5_size 43 = .ok (.ireturn, 1) := by decide +kernel
theorem dX5_size_44 : decode cX5_size 44 = .ok (.aload_n 0, 1) := by decide +kernel
theorem dX5_size_45 : decode cX5_size 45 = .ok (.getfield 10, 3) := by decide +kernel
theorem dX5_size_48 : decode cX5_size 48 = .ok (.getfield 127, 3) := by decide +kernel
theorem dX5_size_51 : decode cX5_size 51 = .ok (.ireturn, 1) := by decide +kernel
theorem dX5_size_52 : decode cX5_size 52 = .ok (.new 62, 3) := by decide +kernel
theorem dX5_size_55 : decode cX5_size 55 = .ok (.dup, 1) := by decide +kernel
theorem dX5_size_56 : decode cX5_size 56 = .ok (.ldc 141, 2) := by decide +kernel
theorem dX5_size_58 : decode cX5_size 58 = .ok (.invokespecial 66, 3) := by decide +kernel
theorem dX5_size_61 : decode cX5_size 61 = .ok (.athrow, 1) := by decide +kernel
theorem dX5_carrier_0 : decode cX5_carrier 0 = .ok (.aload_n 0, 1) := by decide +kernel
theorem dX5_carrier_1 : decode cX5_carrier 1 = .ok (.iload_n 1, 1) := by decide +kernel
theorem dX5_carrier_2 : decode cX5_carrier 2 = .ok (.invokevirtual 84, 3) := by decide +kernel
theorem dX5_carrier_5 : decode cX5_carrier 5 = .ok (.iload_n 2, 1) := by decide +kernel
theorem dX5_carrier_6 : decode cX5_carrier 6 = .ok (.ifCond .eq 14, 3) := by decide +kernel
theorem dX5_carrier_9 : decode cX5_carrier 9 = .ok (.aload_n 0, 1) := by decide +kernel
theorem dX5_carrier_10 : decode cX5_carrier 10 = .ok (.getfield 10, 3) := by decide +kernel
theorem dX5_carrier_13 : decode cX5_carrier 13 = .ok (.iload_n 1, 1) := by decide +kernel
theorem dX5_carrier_14 : decode cX5_carrier 14 = .ok (.invokevirtual 143, 3) := by decide +kernel
theorem dX5_carrier_17 : decode cX5_carrier 17 = .ok (.goto 11, 3) := by decide +kernel
theorem dX5_carrier_20 : decode cX5_carrier 20 = .ok (.aload_n 0, 1) := by decide +kernel
theorem dX5_carrier_21 : decode cX5_carrier 21 = .ok (.getfield 10, 3) := by decide +kernel
theorem dX5_carrier_24 : decode cX5_carrier 24 = .ok (.iload_n 1, 1) := by decide +kernel
theorem dX5_carrier_25 : decode cX5_carrier 25 = .ok (.invokevirtual 92, 3) := by decide +kernel
theorem dX5_carrier_28 : decode cX5_carrier 28 = .ok (.ireturn, 1) := by decide +kernel
theorem dX5_channels_0 : decode cX5_channels 0 = .ok (.lconst 0, 1) := by decide +kernel
theorem dX5_channels_1 : decode cX5_channels 1 = .ok (.lstore_n 1, 1) := by decide +kernel
theorem dX5_channels_2 : decode cX5_channels 2 = .ok (.iconst 0, 1) := by decide +kernel
theorem dX5_channels_3 : decode cX5_channels 3 = .ok (.istore_n 3, 1) := by decide +kernel
theorem dX5_channels_4 : decode cX5_channels 4 = .ok (.iload_n 3, 1) := by decide +kernel
theorem dX5_channels_5 : decode cX5_channels 5 = .ok (.aload_n 0, 1) := by decide +kernel
theorem dX5_channels_6 : decode cX5_channels 6 = .ok (.getfield 10, 3) := by decide +kernel
theorem dX5_channels_9 : decode cX5_channels 9 = .ok (.getfield 80, 3) := by decide +kernel
end
section
theorem dX5_channels_12 : decode cX5_channels 12 = .ok (.if_icmp .ge 22, 3) := by decide +kernel
theorem dX5_channels_15 : decode cX5_channels 15 = .ok (.lload_n 1, 1) := by decide +kernel
theorem dX5_channels_16 : decode cX5_channels 16 = .ok (.lconst 1, 1) := by decide +kernel
theorem dX5_channels_17 : decode cX5_channels 17 = .ok (.aload_n 0, 1) := by decide +kernel
theorem dX5_channels_18 : decode cX5_channels 18 = .ok (.getfield 10, 3) := by decide +kernel
theorem dX5_channels_21 : decode cX5_channels 21 = .ok (.iload_n 3, 1) := by decide +kernel
theorem dX5_channels_22 : decode cX5_channels 22 = .ok (.invokevirtual 92, 3) := by decide +kernel
theorem dX5_channels_25 : decode cX5_channels 25 = .ok (.lshl, 1) := by decide +kernel
theorem dX5_channels_26 : decode cX5_channels 26 = .ok (.lor, 1) := by decide +kernel
theorem dX5_channels_27 : decode cX5_channels 27 = .ok (.lstore_n 1, 1) := by decide +kernel
theorem dX5_channels_28 : decode cX5_channels 28 = .ok (.iinc 3 1, 3) := by decide +kernel
theorem dX5_channels_31 : decode cX5_channels 31 = .ok (.goto (-27), 3) := by decide +kernel
theorem dX5_channels_34 : decode cX5_channels 34 = .ok (.lload_n 1, 1) := by decide +kernel
theorem dX5_channels_35 : decode cX5_channels 35 = .ok (.lreturn, 1) := by decide +kernel
theorem dX5_products_0 : decode cX5_products 0 = .ok (.aload_n 0, 1) := by decide +kernel
theorem dX5_products_1 : decode cX5_products 1 = .ok (.getfield 29, 3) := by decide +kernel
theorem dX5_products_4 : decode cX5_products 4 = .ok (.aload_n 0, 1) := by decide +kernel
theorem dX5_products_5 : decode cX5_products 5 = .ok (.getfield 10, 3) := by decide +kernel
theorem dX5_products_8 : decode cX5_products 8 = .ok (.aload_n 0, 1) := by decide +kernel
theorem dX5_products_9 : decode cX5_products 9 = .ok (.getfield 10, 3) := by decide +kernel
theorem dX5_products_12 : decode cX5_products 12 = .ok (.invokevirtual 146, 3) := by decide +kernel
theorem dX5_products_15 : decode cX5_products 15 = .ok (.invokevirtual 150, 3) := by decide +kernel
theorem dX5_products_18 : decode cX5_products 18 = .ok (.aload_n 0, 1) := by decide +kernel
theorem dX5_products_19 : decode cX5_products 19 = .ok (.getfield 29, 3) := by decide +kernel
theorem dX5_products_22 : decode cX5_products 22 = .ok (.getfield 154, 3) := by decide +kernel
theorem dX5_products_25 : decode cX5_products 25 = .ok (.ireturn, 1) := by decide +kernel
theorem dX5_product_0 : decode cX5_product 0 = .ok (.aload_n 0, 1) := by decide +kernel
theorem dX5_product_1 : decode cX5_product 1 = .ok (.getfield 29, 3) := by decide +kernel
theorem dX5_product_4 : decode cX5_product 4 = .ok (.aload_n 0, 1) := by decide +kernel
theorem dX5_product_5 : decode cX5_product 5 = .ok (.getfield 10, 3) := by decide +kernel
theorem dX5_product_8 : decode cX5_product 8 = .ok (.aload_n 0, 1) := by decide +kernel
theorem dX5_product_9 : decode cX5_product 9 = .ok (.getfield 10, 3) := by decide +kernel
theorem dX5_product_12 : decode cX5_product 12 = .ok (.invokevirtual 146, 3) := by decide +kernel
theorem dX5_product_15 : decode cX5_product 15 = .ok (.invokevirtual 150, 3) := by decide +kernel
theorem dX5_product_18 : decode cX5_product 18 = .ok (.iload_n 1, 1) := by decide +kernel
theorem dX5_product_19 : decode cX5_product 19 = .ok (.ifCond .lt 14, 3) := by decide +kernel
theorem dX5_product_22 : decode cX5_product 22 = .ok (.iload_n 1, 1) := by decide +kernel
theorem dX5_product_23 : decode cX5_product 23 = .ok (.aload_n 0, 1) := by decide +kernel
theorem dX5_product_24 : decode cX5_product 24 = .ok (.getfield 29, 3) := by decide +kernel
theorem dX5_product_27 : decode cX5_product 27 = .ok (.getfield 154, 3) := by decide +kernel
theorem dX5_product_30 : decode cX5_product 30 = .ok (.if_icmp .lt 13, 3) := by decide +kernel
theorem dX5_product_33 : decode cX5_product 33 = .ok (.new 157, 3) := by decide +kernel
theorem dX5_product_36 : decode cX5_product 36 = .ok (.dup, 1) := by decide +kernel
theorem dX5_product_37 : decode cX5_product 37 = .ok (.ldc 159, 2) := by decide +kernel
theorem dX5_product_39 : decode cX5_product 39 = .ok (.invokespecial 161, 3) := by decide +kernel
theorem dX5_product_42 : decode cX5_product 42 = .ok (.athrow, 1) := by decide +kernel
theorem dX5_product_43 : decode cX5_product 43 = .ok (.iload_n 2, 1) := by decide +kernel
theorem dX5_product_44 : decode cX5_product 44 = .ok (.iconst 0, 1) := by decide +kernel
theorem dX5_product_45 : decode cX5_product 45 = .ok (.iconst 5, 1) := by decide +kernel
theorem dX5_product_46 : decode cX5_product 46 = .ok (.invokestatic 112, 3) := by decide +kernel
theorem dX5_product_49 : decode cX5_product 49 = .ok (.ifCond .ne 13, 3) := by decide +kernel
theorem dX5_product_52 : decode cX5_product 52 = .ok (.new 62, 3) := by decide +kernel
theorem dX5_product_55 : decode cX5_product 55 = .ok (.dup, 1) := by decide +kernel
theorem dX5_product_56 : decode cX5_product 56 = .ok (.ldc 141, 2) := by decide +kernel
theorem dX5_product_58 : decode cX5_product 58 = .ok (.invokespecial 66, 3) := by decide +kernel
theorem dX5_product_61 : decode cX5_product 61 = .ok (.athrow, 1) := by decide +kernel
theorem dX5_product_62 : decode cX5_product 62 = .ok (.aload_n 0, 1) := by decide +kernel
theorem dX5_product_63 : decode cX5_product 63 = .ok (.getfield 29, 3) := by decide +kernel
theorem dX5_product_66 : decode cX5_product 66 = .ok (.iload_n 1, 1) := by decide +kernel
theorem dX5_product_67 : decode cX5_product 67 = .ok (.iload_n 2, 1) := by decide +kernel
theorem dX5_product_68 : decode cX5_product 68 = .ok (.invokevirtual 162, 3) := by decide +kernel
theorem dX5_product_71 : decode cX5_product 71 = .ok (.ireturn, 1) := by decide +kernel
theorem dX5_fallout_0 : decode cX5_fallout 0 = .ok (.aload_n 0, 1) := by decide +kernel
theorem dX5_fallout_1 : decode cX5_fallout 1 = .ok (.iload_n 1, 1) := by decide +kernel
theorem dX5_fallout_2 : decode cX5_fallout 2 = .ok (.invokevirtual 166, 3) := by decide +kernel
theorem dX5_fallout_5 : decode cX5_fallout 5 = .ok (.aload_n 0, 1) := by decide +kernel
theorem dX5_fallout_6 : decode cX5_fallout 6 = .ok (.iload_n 1, 1) := by decide +kernel
theorem dX5_fallout_7 : decode cX5_fallout 7 = .ok (.invokevirtual 169, 3) := by decide +kernel
theorem dX5_fallout_10 : decode cX5_fallout 10 = .ok (.lreturn, 1) := by decide +kernel
theorem dX5_hits_0 : decode cX5_hits 0 = .ok (.aload_n 0, 1) := by decide +kernel
theorem dX5_hits_1 : decode cX5_hits 1 = .ok (.getfield 29, 3) := by decide +kernel
theorem dX5_hits_4 : decode cX5_hits 4 = .ok (.aload_n 0, 1) := by decide +kernel
theorem dX5_hits_5 : decode cX5_hits 5 = .ok (.getfield 10, 3) := by decide +kernel
theorem dX5_hits_8 : decode cX5_hits 8 = .ok (.aload_n 0, 1) := by decide +kernel
theorem dX5_hits_9 : decode cX5_hits 9 = .ok (.getfield 10, 3) := by decide +kernel
theorem dX5_hits_12 : decode cX5_hits 12 = .ok (.invokevirtual 146, 3) := by decide +kernel
theorem dX5_hits_15 : decode cX5_hits 15 = .ok (.invokevirtual 150, 3) := by decide +kernel
theorem dX5_hits_18 : decode cX5_hits 18 = .ok (.iconst 0, 1) := by decide +kernel
theorem dX5_hits_19 : decode cX5_hits 19 = .ok (.istore_n 1, 1) := by decide +kernel
theorem dX5_hits_20 : decode cX5_hits 20 = .ok (.iconst 0, 1) := by decide +kernel
theorem dX5_hits_21 : decode cX5_hits 21 = .ok (.istore_n 2, 1) := by decide +kernel
theorem dX5_hits_22 : decode cX5_hits 22 = .ok (.iload_n 2, 1) := by decide +kernel
theorem dX5_hits_23 : decode cX5_hits 23 = .ok (.aload_n 0, 1) := by decide +kernel
theorem dX5_hits_24 : decode cX5_hits 24 = .ok (.getfield 10, 3) := by decide +kernel
theorem dX5_hits_27 : decode cX5_hits 27 = .ok (.getfield 80, 3) := by decide +kernel
theorem dX5_hits_30 : decode cX5_hits 30 = .ok (.if_icmp .ge 34, 3) := by decide +kernel
theorem dX5_hits_33 : decode cX5_hits 33 = .ok (.iload_n 1, 1) := by decide +kernel
theorem dX5_hits_34 : decode cX5_hits 34 = .ok (.aload_n 0, 1) := by decide +kernel
theorem dX5_hits_35 : decode cX5_hits 35 = .ok (.getfield 29, 3) := by decide +kernel
theorem dX5_hits_38 : decode cX5_hits 38 = .ok (.aload_n 0, 1) := by decide +kernel
theorem dX5_hits_39 : decode cX5_hits 39 = .ok (.getfield 10, 3) := by decide +kernel
theorem dX5_hits_42 : decode cX5_hits 42 = .ok (.iload_n 2, 1) := by decide +kernel
theorem dX5_hits_43 : decode cX5_hits 43 = .ok (.invokevirtual 92, 3) := by decide +kernel
theorem dX5_hits_46 : decode cX5_hits 46 = .ok (.aload_n 0, 1) := by decide +kernel
theorem dX5_hits_47 : decode cX5_hits 47 = .ok (.getfield 10, 3) := by decide +kernel
theorem dX5_hits_50 : decode cX5_hits 50 = .ok (.getfield 132, 3) := by decide +kernel
theorem dX5_hits_53 : decode cX5_hits 53 = .ok (.invokevirtual 173, 3) := by decide +kernel
theorem dX5_hits_56 : decode cX5_hits 56 = .ok (.iadd, 1) := by decide +kernel
theorem dX5_hits_57 : decode cX5_hits 57 = .ok (.istore_n 1, 1) := by decide +kernel
theorem dX5_hits_58 : decode cX5_hits 58 = .ok (.iinc 2 1, 3) := by decide +kernel
theorem dX5_hits_61 : decode cX5_hits 61 = .ok (.goto (-39), 3) := by decide +kernel
theorem dX5_hits_64 : decode cX5_hits 64 = .ok (.iload_n 1, 1) := by decide +kernel
theorem dX5_hits_65 : decode cX5_hits 65 = .ok (.ireturn, 1) := by decide +kernel
theorem dX5_hitsOn_0 : decode cX5_hitsOn 0 = .ok (.aload_n 0, 1) := by decide +kernel
theorem dX5_hitsOn_1 : decode cX5_hitsOn 1 = .ok (.iload_n 1, 1) := by decide +kernel
theorem dX5_hitsOn_2 : decode cX5_hitsOn 2 = .ok (.invokevirtual 84, 3) := by decide +kernel
theorem dX5_hitsOn_5 : decode cX5_hitsOn 5 = .ok (.aload_n 0, 1) := by decide +kernel
theorem dX5_hitsOn_6 : decode cX5_hitsOn 6 = .ok (.getfield 29, 3) := by decide +kernel
theorem dX5_hitsOn_9 : decode cX5_hitsOn 9 = .ok (.aload_n 0, 1) := by decide +kernel
theorem dX5_hitsOn_10 : decode cX5_hitsOn 10 = .ok (.getfield 10, 3) := by decide +kernel
theorem dX5_hitsOn_13 : decode cX5_hitsOn 13 = .ok (.aload_n 0, 1) := by decide +kernel
theorem dX5_hitsOn_14 : decode cX5_hitsOn 14 = .ok (.getfield 10, 3) := by decide +kernel
theorem dX5_hitsOn_17 : decode cX5_hitsOn 17 = .ok (.invokevirtual 146, 3) := by decide +kernel
theorem dX5_hitsOn_20 : decode cX5_hitsOn 20 = .ok (.invokevirtual 150, 3) := by decide +kernel
theorem dX5_hitsOn_23 : decode cX5_hitsOn 23 = .ok (.aload_n 0, 1) := by decide +kernel
theorem dX5_hitsOn_24 : decode cX5_hitsOn 24 = .ok (.getfield 29, 3) := by decide +kernel
theorem dX5_hitsOn_27 : decode cX5_hitsOn 27 = .ok (.aload_n 0, 1) := by decide +kernel
theorem dX5_hitsOn_28 : decode cX5_hitsOn 28 = .ok (.getfield 10, 3) := by decide +kernel
theorem dX5_hitsOn_31 : decode cX5_hitsOn 31 = .ok (.iload_n 1, 1) := by decide +kernel
theorem dX5_hitsOn_32 : decode cX5_hitsOn 32 = .ok (.invokevirtual 92, 3) := by decide +kernel
theorem dX5_hitsOn_35 : decode cX5_hitsOn 35 = .ok (.aload_n 0, 1) := by decide +kernel
theorem dX5_hitsOn_36 : decode cX5_hitsOn 36 = .ok (.getfield 10, 3) := by decide +kernel
theorem dX5_hitsOn_39 : decode cX5_hitsOn 39 = .ok (.getfield 132, 3) := by decide +kernel
theorem dX5_hitsOn_42 : decode cX5_hitsOn 42 = .ok (.invokevirtual 173, 3) := by decide +kernel
theorem dX5_hitsOn_45 : decode cX5_hitsOn 45 = .ok (.ireturn, 1) := by decide +kernel
theorem dX5_isClean_0 : decode cX5_isClean 0 = .ok (.aload_n 0, 1) := by decide +kernel
theorem dX5_isClean_1 : decode cX5_isClean 1 = .ok (.aload_n 0, 1) := by decide +kernel
theorem dX5_isClean_2 : decode cX5_isClean 2 = .ok (.getfield 10, 3) := by decide +kernel
theorem dX5_isClean_5 : decode cX5_isClean 5 = .ok (.invokevirtual 146, 3) := by decide +kernel
theorem dX5_isClean_8 : decode cX5_isClean 8 = .ok (.invokevirtual 176, 3) := by decide +kernel
theorem dX5_isClean_11 : decode cX5_isClean 11 = .ok (.ireturn, 1) := by decide +kernel
theorem dX5_closest_0 : decode cX5_closest 0 = .ok (.iconst (-1), 1) := by decide +kernel
theorem dX5_closest_1 : decode cX5_closest 1 = .ok (.istore_n 1, 1) := by decide +kernel
theorem dX5_closest_2 : decode cX5_closest 2 = .ok (.iconst 0, 1) := by decide +kernel
theorem dX5_closest_3 : decode cX5_closest 3 = .ok (.istore_n 2, 1) := by decide +kernel
theorem dX5_closest_4 : decode cX5_closest 4 = .ok (.iload_n 2, 1) := by decide +kernel
theorem dX5_closest_5 : decode cX5_closest 5 = .ok (.aload_n 0, 1) := by decide +kernel
theorem dX5_closest_6 : decode cX5_closest 6 = .ok (.getfield 10, 3) := by decide +kernel
theorem dX5_closest_9 : decode cX5_closest 9 = .ok (.getfield 80, 3) := by decide +kernel
theorem dX5_closest_12 : decode cX5_closest 12 = .ok (.if_icmp .ge 66, 3) := by decide +kernel
theorem dX5_closest_15 : decode cX5_closest 15 = .ok (.iload_n 2, 1) := by decide +kernel
theorem dX5_closest_16 : decode cX5_closest 16 = .ok (.iconst 1, 1) := by decide +kernel
theorem dX5_closest_17 : decode cX5_closest 17 = .ok (.iadd, 1) := by decide +kernel
theorem dX5_closest_18 : decode cX5_closest 18 = .ok (.istore_n 3, 1) := by decide +kernel
theorem dX5_closest_19 : decode cX5_closest 19 = .ok (.iload_n 3, 1) := by decide +kernel
theorem dX5_closest_20 : decode cX5_closest 20 = .ok (.aload_n 0, 1) := by decide +kernel
theorem dX5_closest_21 : decode cX5_closest 21 = .ok (.getfield 10, 3) := by decide +kernel
theorem dX5_closest_24 : decode cX5_closest 24 = .ok (.getfield 80, 3) := by decide +kernel
theorem dX5_closest_27 : decode cX5_closest 27 = .ok (.if_icmp .ge 45, 3) := by decide +kernel
theorem dX5_closest_30 : decode cX5_closest 30 = .ok (.aload_n 0, 1) := by decide +kernel
theorem dX5_closest_31 : decode cX5_closest 31 = .ok (.getfield 10, 3) := by decide +kernel
theorem dX5_closest_34 : decode cX5_closest 34 = .ok (.iload_n 2, 1) := by decide +kernel
theorem dX5_closest_35 : decode cX5_closest 35 = .ok (.invokevirtual 92, 3) := by decide +kernel
theorem dX5_closest_38 : decode cX5_closest 38 = .ok (.aload_n 0, 1) := by decide +kernel
theorem dX5_closest_39 : decode cX5_closest 39 = .ok (.getfield 10, 3) := by decide +kernel
theorem dX5_closest_42 : decode cX5_closest 42 = .ok (.iload_n 3, 1) := by decide +kernel
theorem dX5_closest_43 : decode cX5_closest 43 = .ok (.invokevirtual 92, 3) := by decide +kernel
theorem dX5_closest_46 : decode cX5_closest 46 = .ok (.isub, 1) := by decide +kernel
theorem dX5_closest_47 : decode cX5_closest 47 = .ok (.invokestatic 179, 3) := by decide +kernel
theorem dX5_closest_50 : decode cX5_closest 50 = .ok (.istore 4, 2) := by decide +kernel
theorem dX5_closest_52 : decode cX5_closest 52 = .ok (.iload_n 1, 1) := by decide +kernel
theorem dX5_closest_53 : decode cX5_closest 53 = .ok (.iconst (-1), 1) := by decide +kernel
theorem dX5_closest_54 : decode cX5_closest 54 = .ok (.if_icmp .eq 9, 3) := by decide +kernel
theorem dX5_closest_57 : decode cX5_closest 57 = .ok (.iload 4, 2) := by decide +kernel
theorem dX5_closest_59 : decode cX5_closest 59 = .ok (.iload_n 1, 1) := by decide +kernel
theorem dX5_closest_60 : decode cX5_closest 60 = .ok (.if_icmp .ge 6, 3) := by decide +kernel
theorem dX5_closest_63 : decode cX5_closest 63 = .ok (.iload 4, 2) := by decide +kernel
theorem dX5_closest_65 : decode cX5_closest 65 = .ok (.istore_n 1, 1) := by decide +kernel
theorem dX5_closest_66 : decode cX5_closest 66 = .ok (.iinc 3 1, 3) := by decide +kernel
theorem dX5_closest_69 : decode cX5_closest 69 = .ok (.goto (-50), 3) := by decide +kernel
theorem dX5_closest_72 : decode cX5_closest 72 = .ok (.iinc 2 1, 3) := by decide +kernel
theorem dX5_closest_75 : decode cX5_closest 75 = .ok (.goto (-71), 3) := by decide +kernel
theorem dX5_closest_78 : decode cX5_closest 78 = .ok (.iload_n 1, 1) := by decide +kernel
theorem dX5_closest_79 : decode cX5_closest 79 = .ok (.ireturn, 1) := by decide +kernel
theorem dX5_removal_0 : decode cX5_removal 0 = .ok (.aload_n 0, 1) := by decide +kernel
theorem dX5_removal_1 : decode cX5_removal 1 = .ok (.getfield 10, 3) := by decide +kernel
theorem dX5_removal_4 : decode cX5_removal 4 = .ok (.invokevirtual 146, 3) := by decide +kernel
theorem dX5_removal_7 : decode cX5_removal 7 = .ok (.istore_n 1, 1) := by decide +kernel
theorem dX5_removal_8 : decode cX5_removal 8 = .ok (.iload_n 1, 1) := by decide +kernel
theorem dX5_removal_9 : decode cX5_removal 9 = .ok (.istore_n 2, 1) := by decide +kernel
theorem dX5_removal_10 : decode cX5_removal 10 = .ok (.iconst 0, 1) := by decide +kernel
theorem dX5_removal_11 : decode cX5_removal 11 = .ok (.istore_n 3, 1) := by decide +kernel
theorem dX5_removal_12 : decode cX5_removal 12 = .ok (.iload_n 3, 1) := by decide +kernel
theorem dX5_removal_13 : decode cX5_removal 13 = .ok (.iload_n 1, 1) := by decide +kernel
theorem dX5_removal_14 : decode cX5_removal 14 = .ok (.if_icmp .ge 34, 3) := by decide +kernel
theorem dX5_removal_17 : decode cX5_removal 17 = .ok (.iload_n 3, 1) := by decide +kernel
theorem dX5_removal_18 : decode cX5_removal 18 = .ok (.invokestatic 184, 3) := by decide +kernel
theorem dX5_removal_21 : decode cX5_removal 21 = .ok (.iload_n 2, 1) := by decide +kernel
theorem dX5_removal_22 : decode cX5_removal 22 = .ok (.invokestatic 184, 3) := by decide +kernel
theorem dX5_removal_25 : decode cX5_removal 25 = .ok (.if_icmp .ge 17, 3) := by decide +kernel
theorem dX5_removal_28 : decode cX5_removal 28 = .ok (.aload_n 0, 1) := by decide +kernel
theorem dX5_removal_29 : decode cX5_removal 29 = .ok (.iload_n 1, 1) := by decide +kernel
theorem dX5_removal_30 : decode cX5_removal 30 = .ok (.iload_n 3, 1) := by decide +kernel
theorem dX5_removal_31 : decode cX5_removal 31 = .ok (.iconst (-1), 1) := by decide +kernel
theorem dX5_removal_32 : decode cX5_removal 32 = .ok (.ixor, 1) := by decide +kernel
theorem dX5_removal_33 : decode cX5_removal 33 = .ok (.iand, 1) := by decide +kernel
theorem dX5_removal_34 : decode cX5_removal 34 = .ok (.invokevirtual 176, 3) := by decide +kernel
theorem dX5_removal_37 : decode cX5_removal 37 = .ok (.ifCond .eq 5, 3) := by decide +kernel
theorem dX5_removal_40 : decode cX5_removal 40 = .ok (.iload_n 3, 1) := by decide +kernel
theorem dX5_removal_41 : decode cX5_removal 41 = .ok (.istore_n 2, 1) := by decide +kernel
theorem dX5_removal_42 : decode cX5_removal 42 = .ok (.iinc 3 1, 3) := by decide +kernel
theorem dX5_removal_45 : decode cX5_removal 45 = .ok (.goto (-33), 3) := by decide +kernel
theorem dX5_removal_48 : decode cX5_removal 48 = .ok (.iload_n 2, 1) := by decide +kernel
theorem dX5_removal_49 : decode cX5_removal 49 = .ok (.ireturn, 1) := by decide +kernel
theorem dX5_leastSpan_0 : decode cX5_leastSpan 0 = .ok (.iload_n 1, 1) := by decide +kernel
theorem dX5_leastSpan_1 : decode cX5_leastSpan 1 = .ok (.bipush 6, 2) := by decide +kernel
theorem dX5_leastSpan_3 : decode cX5_leastSpan 3 = .ok (.invokestatic 189, 3) := by decide +kernel
theorem dX5_leastSpan_6 : decode cX5_leastSpan 6 = .ok (.aload_n 0, 1) := by decide +kernel
theorem dX5_leastSpan_7 : decode cX5_leastSpan 7 = .ok (.iload_n 1, 1) := by decide +kernel
theorem dX5_leastSpan_8 : decode cX5_leastSpan 8 = .ok (.invokevirtual 192, 3) := by decide +kernel
theorem dX5_leastSpan_11 : decode cX5_leastSpan 11 = .ok (.ireturn, 1) := by decide +kernel
theorem dX5_bestRuler_0 : decode cX5_bestRuler 0 = .ok (.iload_n 1, 1) := by decide +kernel
theorem dX5_bestRuler_1 : decode cX5_bestRuler 1 = .ok (.bipush 6, 2) := by decide +kernel
theorem dX5_bestRuler_3 : decode cX5_bestRuler 3 = .ok (.invokestatic 189, 3) := by decide +kernel
theorem dX5_bestRuler_6 : decode cX5_bestRuler 6 = .ok (.aload_n 0, 1) := by decide +kernel
theorem dX5_bestRuler_7 : decode cX5_bestRuler 7 = .ok (.iload_n 1, 1) := by decide +kernel
theorem dX5_bestRuler_8 : decode cX5_bestRuler 8 = .ok (.invokevirtual 192, 3) := by decide +kernel
theorem dX5_bestRuler_11 : decode cX5_bestRuler 11 = .ok (.iconst (-1), 1) := by decide +kernel
theorem dX5_bestRuler_12 : decode cX5_bestRuler 12 = .ok (.if_icmp .ne 7, 3) := by decide +kernel
theorem dX5_bestRuler_15 : decode cX5_bestRuler 15 = .ok (.lconst 0, 1) := by decide +kernel
theorem dX5_bestRuler_16 : decode cX5_bestRuler 16 = .ok (.goto 10, 3) := by decide +kernel
theorem dX5_bestRuler_19 : decode cX5_bestRuler 19 = .ok (.aload_n 0, 1) := by decide +kernel
theorem dX5_bestRuler_20 : decode cX5_bestRuler 20 = .ok (.getfield 36, 3) := by decide +kernel
theorem dX5_bestRuler_23 : decode cX5_bestRuler 23 = .ok (.invokevirtual 195, 3) := by decide +kernel
theorem dX5_bestRuler_26 : decode cX5_bestRuler 26 = .ok (.lreturn, 1) := by decide +kernel
theorem dX5_rulers_0 : decode cX5_rulers 0 = .ok (.iload_n 1, 1) := by decide +kernel
theorem dX5_rulers_1 : decode cX5_rulers 1 = .ok (.iconst 5, 1) := by decide +kernel
theorem dX5_rulers_2 : decode cX5_rulers 2 = .ok (.invokestatic 189, 3) := by decide +kernel
theorem dX5_rulers_5 : decode cX5_rulers 5 = .ok (.iload_n 2, 1) := by decide +kernel
theorem dX5_rulers_6 : decode cX5_rulers 6 = .ok (.iconst 0, 1) := by decide +kernel
theorem dX5_rulers_7 : decode cX5_rulers 7 = .ok (.bipush 40, 2) := by decide +kernel
theorem dX5_rulers_9 : decode cX5_rulers 9 = .ok (.invokestatic 112, 3) := by decide +kernel
theorem dX5_rulers_12 : decode cX5_rulers 12 = .ok (.ifCond .ne 13, 3) := by decide +kernel
theorem dX5_rulers_15 : decode cX5_rulers 15 = .ok (.new 62, 3) := by decide +kernel
theorem dX5_rulers_18 : decode cX5_rulers 18 = .ok (.dup, 1) := by decide +kernel
theorem dX5_rulers_19 : decode cX5_rulers 19 = .ok (.ldc 199, 2) := by decide +kernel
theorem dX5_rulers_21 : decode cX5_rulers 21 = .ok (.invokespecial 66, 3) := by decide +kernel
theorem dX5_rulers_24 : decode cX5_rulers 24 = .ok (.athrow, 1) := by decide +kernel
theorem dX5_rulers_25 : decode cX5_rulers 25 = .ok (.aload_n 0, 1) := by decide +kernel
theorem dX5_rulers_26 : decode cX5_rulers 26 = .ok (.iload_n 1, 1) := by decide +kernel
theorem dX5_rulers_27 : decode cX5_rulers 27 = .ok (.iload_n 2, 1) := by decide +kernel
theorem dX5_rulers_28 : decode cX5_rulers 28 = .ok (.ldc 201, 2) := by decide +kernel
theorem dX5_rulers_30 : decode cX5_rulers 30 = .ok (.invokevirtual 202, 3) := by decide +kernel
theorem dX5_rulers_33 : decode cX5_rulers 33 = .ok (.ireturn, 1) := by decide +kernel
theorem dX5_openings_0 : decode cX5_openings 0 = .ok (.iload_n 1, 1) := by decide +kernel
theorem dX5_openings_1 : decode cX5_openings 1 = .ok (.invokestatic 206, 3) := by decide +kernel
theorem dX5_openings_4 : decode cX5_openings 4 = .ok (.aload_n 0, 1) := by decide +kernel
theorem dX5_openings_5 : decode cX5_openings 5 = .ok (.iload_n 1, 1) := by decide +kernel
theorem dX5_openings_6 : decode cX5_openings 6 = .ok (.invokevirtual 209, 3) := by decide +kernel
theorem dX5_openings_9 : decode cX5_openings 9 = .ok (.lreturn, 1) := by decide +kernel
theorem dX5_putIn_0 : decode cX5_putIn 0 = .ok (.iload_n 1, 1) := by decide +kernel
theorem dX5_putIn_1 : decode cX5_putIn 1 = .ok (.invokestatic 206, 3) := by decide +kernel
theorem dX5_putIn_4 : decode cX5_putIn 4 = .ok (.aload_n 0, 1) := by decide +kernel
theorem dX5_putIn_5 : decode cX5_putIn 5 = .ok (.invokevirtual 69, 3) := by decide +kernel
theorem dX5_putIn_8 : decode cX5_putIn 8 = .ok (.aload_n 0, 1) := by decide +kernel
theorem dX5_putIn_9 : decode cX5_putIn 9 = .ok (.iload_n 1, 1) := by decide +kernel
theorem dX5_putIn_10 : decode cX5_putIn 10 = .ok (.invokevirtual 209, 3) := by decide +kernel
theorem dX5_putIn_13 : decode cX5_putIn 13 = .ok (.invokestatic 212, 3) := by decide +kernel
theorem dX5_putIn_16 : decode cX5_putIn 16 = .ok (.istore_n 2, 1) := by decide +kernel
theorem dX5_putIn_17 : decode cX5_putIn 17 = .ok (.iload_n 2, 1) := by decide +kernel
theorem dX5_putIn_18 : decode cX5_putIn 18 = .ok (.iconst (-1), 1) := by decide +kernel
theorem dX5_putIn_19 : decode cX5_putIn 19 = .ok (.if_icmp .eq 23, 3) := by decide +kernel
theorem dX5_putIn_22 : decode cX5_putIn 22 = .ok (.aload_n 0, 1) := by decide +kernel
theorem dX5_putIn_23 : decode cX5_putIn 23 = .ok (.getfield 22, 3) := by decide +kernel
theorem dX5_putIn_26 : decode cX5_putIn 26 = .ok (.aload_n 0, 1) := by decide +kernel
theorem dX5_putIn_27 : decode cX5_putIn 27 = .ok (.getfield 10, 3) := by decide +kernel
theorem dX5_putIn_30 : decode cX5_putIn 30 = .ok (.invokevirtual 72, 3) := by decide +kernel
theorem dX5_putIn_33 : decode cX5_putIn 33 = .ok (.aload_n 0, 1) := by decide +kernel
theorem dX5_putIn_34 : decode cX5_putIn 34 = .ok (.getfield 10, 3) := by decide +kernel
theorem dX5_putIn_37 : decode cX5_putIn 37 = .ok (.iload_n 2, 1) := by decide +kernel
theorem dX5_putIn_38 : decode cX5_putIn 38 = .ok (.iload_n 1, 1) := by decide +kernel
theorem dX5_putIn_39 : decode cX5_putIn 39 = .ok (.invokevirtual 76, 3) := by decide +kernel
theorem dX5_putIn_42 : decode cX5_putIn 42 = .ok (.iload_n 2, 1) := by decide +kernel
theorem dX5_putIn_43 : decode cX5_putIn 43 = .ok (.ireturn, 1) := by decide +kernel
theorem dX5_addMixer_0 : decode cX5_addMixer 0 = .ok (.aload_n 0, 1) := by decide +kernel
theorem dX5_addMixer_1 : decode cX5_addMixer 1 = .ok (.iload_n 1, 1) := by decide +kernel
theorem dX5_addMixer_2 : decode cX5_addMixer 2 = .ok (.invokevirtual 166, 3) := by decide +kernel
theorem dX5_addMixer_5 : decode cX5_addMixer 5 = .ok (.aload_n 0, 1) := by decide +kernel
theorem dX5_addMixer_6 : decode cX5_addMixer 6 = .ok (.getfield 10, 3) := by decide +kernel
theorem dX5_addMixer_9 : decode cX5_addMixer 9 = .ok (.getfield 138, 3) := by decide +kernel
theorem dX5_addMixer_12 : decode cX5_addMixer 12 = .ok (.iconst 5, 1) := by decide +kernel
theorem dX5_addMixer_13 : decode cX5_addMixer 13 = .ok (.if_icmp .lt 13, 3) := by decide +kernel
theorem dX5_addMixer_16 : decode cX5_addMixer 16 = .ok (.new 104, 3) := by decide +kernel
theorem dX5_addMixer_19 : decode cX5_addMixer 19 = .ok (.dup, 1) := by decide +kernel
theorem dX5_addMixer_20 : decode cX5_addMixer 20 = .ok (.ldc 216, 2) := by decide +kernel
theorem dX5_addMixer_22 : decode cX5_addMixer 22 = .ok (.invokespecial 108, 3) := by decide +kernel
theorem dX5_addMixer_25 : decode cX5_addMixer 25 = .ok (.athrow, 1) := by decide +kernel
theorem dX5_addMixer_26 : decode cX5_addMixer 26 = .ok (.aload_n 0, 1) := by decide +kernel
theorem dX5_addMixer_27 : decode cX5_addMixer 27 = .ok (.getfield 22, 3) := by decide +kernel
theorem dX5_addMixer_30 : decode cX5_addMixer 30 = .ok (.aload_n 0, 1) := by decide +kernel
theorem dX5_addMixer_31 : decode cX5_addMixer 31 = .ok (.getfield 10, 3) := by decide +kernel
theorem dX5_addMixer_34 : decode cX5_addMixer 34 = .ok (.invokevirtual 72, 3) := by decide +kernel
theorem dX5_addMixer_37 : decode cX5_addMixer 37 = .ok (.aload_n 0, 1) := by decide +kernel
theorem dX5_addMixer_38 : decode cX5_addMixer 38 = .ok (.getfield 10, 3) := by decide +kernel
theorem dX5_addMixer_41 : decode cX5_addMixer 41 = .ok (.iload_n 1, 1) := by decide +kernel
theorem dX5_addMixer_42 : decode cX5_addMixer 42 = .ok (.invokevirtual 218, 3) := by decide +kernel
theorem dX5_addMixer_45 : decode cX5_addMixer 45 = .ok (.aload_n 0, 1) := by decide +kernel
theorem dX5_addMixer_46 : decode cX5_addMixer 46 = .ok (.getfield 10, 3) := by decide +kernel
theorem dX5_addMixer_49 : decode cX5_addMixer 49 = .ok (.getfield 138, 3) := by decide +kernel
theorem dX5_addMixer_52 : decode cX5_addMixer 52 = .ok (.iconst 1, 1) := by decide +kernel
theorem dX5_addMixer_53 : decode cX5_addMixer 53 = .ok (.isub, 1) := by decide +kernel
theorem dX5_addMixer_54 : decode cX5_addMixer 54 = .ok (.ireturn, 1) := by decide +kernel
theorem dX5_setMember_0 : decode cX5_setMember 0 = .ok (.aload_n 0, 1) := by decide +kernel
theorem dX5_setMember_1 : decode cX5_setMember 1 = .ok (.iload_n 1, 1) := by decide +kernel
theorem dX5_setMember_2 : decode cX5_setMember 2 = .ok (.invokevirtual 221, 3) := by decide +kernel
theorem dX5_setMember_5 : decode cX5_setMember 5 = .ok (.aload_n 0, 1) := by decide +kernel
theorem dX5_setMember_6 : decode cX5_setMember 6 = .ok (.iload_n 2, 1) := by decide +kernel
theorem dX5_setMember_7 : decode cX5_setMember 7 = .ok (.invokevirtual 84, 3) := by decide +kernel
theorem dX5_setMember_10 : decode cX5_setMember 10 = .ok (.aload_n 0, 1) := by decide +kernel
theorem dX5_setMember_11 : decode cX5_setMember 11 = .ok (.getfield 22, 3) := by decide +kernel
theorem dX5_setMember_14 : decode cX5_setMember 14 = .ok (.aload_n 0, 1) := by decide +kernel
theorem dX5_setMember_15 : decode cX5_setMember 15 = .ok (.getfield 10, 3) := by decide +kernel
theorem dX5_setMember_18 : decode cX5_setMember 18 = .ok (.invokevirtual 72, 3) := by decide +kernel
theorem dX5_setMember_21 : decode cX5_setMember 21 = .ok (.iconst 1, 1) := by decide +kernel
theorem dX5_setMember_22 : decode cX5_setMember 22 = .ok (.iload_n 2, 1) := by decide +kernel
theorem dX5_setMember_23 : decode cX5_setMember 23 = .ok (.ishl, 1) := by decide +kernel
theorem dX5_setMember_24 : decode cX5_setMember 24 = .ok (.istore 4, 2) := by decide +kernel
theorem dX5_setMember_26 : decode cX5_setMember 26 = .ok (.aload_n 0, 1) := by decide +kernel
theorem dX5_setMember_27 : decode cX5_setMember 27 = .ok (.getfield 10, 3) := by decide +kernel
theorem dX5_setMember_30 : decode cX5_setMember 30 = .ok (.iload_n 1, 1) := by decide +kernel
theorem dX5_setMember_31 : decode cX5_setMember 31 = .ok (.invokevirtual 224, 3) := by decide +kernel
theorem dX5_setMember_34 : decode cX5_setMember 34 = .ok (.istore 5, 2) := by decide +kernel
theorem dX5_setMember_36 : decode cX5_setMember 36 = .ok (.aload_n 0, 1) := by decide +kernel
theorem dX5_setMember_37 : decode cX5_setMember 37 = .ok (.getfield 10, 3) := by decide +kernel
theorem dX5_setMember_40 : decode cX5_setMember 40 = .ok (.iload_n 1, 1) := by decide +kernel
theorem dX5_setMember_41 : decode cX5_setMember 41 = .ok (.iload_n 3, 1) := by decide +kernel
theorem dX5_setMember_42 : decode cX5_setMember 42 = .ok (.ifCond .eq 11, 3) := by decide +kernel
theorem dX5_setMember_45 : decode cX5_setMember 45 = .ok (.iload 5, 2) := by decide +kernel
theorem dX5_setMember_47 : decode cX5_setMember 47 = .ok (.iload 4, 2) := by decide +kernel
theorem dX5_setMember_49 : decode cX5_setMember 49 = .ok (.ior, 1) := by decide +kernel
theorem dX5_setMember_50 : decode cX5_setMember 50 = .ok (.goto 10, 3) := by decide +kernel
theorem dX5_setMember_53 : decode cX5_setMember 53 = .ok (.iload 5, 2) := by decide +kernel
theorem dX5_setMember_55 : decode cX5_setMember 55 = .ok (.iload 4, 2) := by decide +kernel
theorem dX5_setMember_57 : decode cX5_setMember 57 = .ok (.iconst (-1), 1) := by decide +kernel
theorem dX5_setMember_58 : decode cX5_setMember 58 = .ok (.ixor, 1) := by decide +kernel
theorem dX5_setMember_59 : decode cX5_setMember 59 = .ok (.iand, 1) := by decide +kernel
theorem dX5_setMember_60 : decode cX5_setMember 60 = .ok (.invokevirtual 227, 3) := by decide +kernel
theorem dX5_setMember_63 : decode cX5_setMember 63 = .ok (.aload_n 0, 1) := by decide +kernel
theorem dX5_setMember_64 : decode cX5_setMember 64 = .ok (.getfield 10, 3) := by decide +kernel
theorem dX5_setMember_67 : decode cX5_setMember 67 = .ok (.iload_n 1, 1) := by decide +kernel
theorem dX5_setMember_68 : decode cX5_setMember 68 = .ok (.invokevirtual 224, 3) := by decide +kernel
theorem dX5_setMember_71 : decode cX5_setMember 71 = .ok (.ireturn, 1) := by decide +kernel
theorem dX5_mixer_0 : decode cX5_mixer 0 = .ok (.aload_n 0, 1) := by decide +kernel
theorem dX5_mixer_1 : decode cX5_mixer 1 = .ok (.iload_n 1, 1) := by decide +kernel
theorem dX5_mixer_2 : decode cX5_mixer 2 = .ok (.invokevirtual 221, 3) := by decide +kernel
theorem dX5_mixer_5 : decode cX5_mixer 5 = .ok (.aload_n 0, 1) := by decide +kernel
theorem dX5_mixer_6 : decode cX5_mixer 6 = .ok (.getfield 10, 3) := by decide +kernel
theorem dX5_mixer_9 : decode cX5_mixer 9 = .ok (.iload_n 1, 1) := by decide +kernel
theorem dX5_mixer_10 : decode cX5_mixer 10 = .ok (.invokevirtual 224, 3) := by decide +kernel
theorem dX5_mixer_13 : decode cX5_mixer 13 = .ok (.ireturn, 1) := by decide +kernel
theorem dX5_addTest_0 : decode cX5_addTest 0 = .ok (.aload_n 0, 1) := by decide +kernel
theorem dX5_addTest_1 : decode cX5_addTest 1 = .ok (.iload_n 1, 1) := by decide +kernel
theorem dX5_addTest_2 : decode cX5_addTest 2 = .ok (.invokevirtual 166, 3) := by decide +kernel
theorem dX5_addTest_5 : decode cX5_addTest 5 = .ok (.iload_n 2, 1) := by decide +kernel
theorem dX5_addTest_6 : decode cX5_addTest 6 = .ok (.invokestatic 230, 3) := by decide +kernel
theorem dX5_addTest_9 : decode cX5_addTest 9 = .ok (.aload_n 0, 1) := by decide +kernel
theorem dX5_addTest_10 : decode cX5_addTest 10 = .ok (.getfield 10, 3) := by decide +kernel
theorem dX5_addTest_13 : decode cX5_addTest 13 = .ok (.getfield 127, 3) := by decide +kernel
theorem dX5_addTest_16 : decode cX5_addTest 16 = .ok (.bipush 16, 2) := by decide +kernel
theorem dX5_addTest_18 : decode cX5_addTest 18 = .ok (.if_icmp .lt 13, 3) := by decide +kernel
theorem dX5_addTest_21 : decode cX5_addTest 21 = .ok (.new 104, 3) := by decide +kernel
theorem dX5_addTest_24 : decode cX5_addTest 24 = .ok (.dup, 1) := by decide +kernel
theorem dX5_addTest_25 : decode cX5_addTest 25 = .ok (.ldc 233, 2) := by decide +kernel
theorem dX5_addTest_27 : decode cX5_addTest 27 = .ok (.invokespecial 108, 3) := by decide +kernel
theorem dX5_addTest_30 : decode cX5_addTest 30 = .ok (.athrow, 1) := by decide +kernel
theorem dX5_addTest_31 : decode cX5_addTest 31 = .ok (.aload_n 0, 1) := by decide +kernel
theorem dX5_addTest_32 : decode cX5_addTest 32 = .ok (.getfield 22, 3) := by decide +kernel
theorem dX5_addTest_35 : decode cX5_addTest 35 = .ok (.aload_n 0, 1) := by decide +kernel
theorem dX5_addTest_36 : decode cX5_addTest 36 = .ok (.getfield 10, 3) := by decide +kernel
theorem dX5_addTest_39 : decode cX5_addTest 39 = .ok (.invokevirtual 72, 3) := by decide +kernel
theorem dX5_addTest_42 : decode cX5_addTest 42 = .ok (.aload_n 0, 1) := by decide +kernel
theorem dX5_addTest_43 : decode cX5_addTest 43 = .ok (.iload_n 1, 1) := by decide +kernel
theorem dX5_addTest_44 : decode cX5_addTest 44 = .ok (.invokevirtual 235, 3) := by decide +kernel
theorem dX5_addTest_47 : decode cX5_addTest 47 = .ok (.aload_n 0, 1) := by decide +kernel
theorem dX5_addTest_48 : decode cX5_addTest 48 = .ok (.getfield 10, 3) := by decide +kernel
theorem dX5_addTest_51 : decode cX5_addTest 51 = .ok (.iload_n 1, 1) := by decide +kernel
theorem dX5_addTest_52 : decode cX5_addTest 52 = .ok (.iload_n 2, 1) := by decide +kernel
theorem dX5_addTest_53 : decode cX5_addTest 53 = .ok (.iload_n 3, 1) := by decide +kernel
theorem dX5_addTest_54 : decode cX5_addTest 54 = .ok (.aload_n 0, 1) := by decide +kernel
theorem dX5_addTest_55 : decode cX5_addTest 55 = .ok (.iload_n 2, 1) := by decide +kernel
theorem dX5_addTest_56 : decode cX5_addTest 56 = .ok (.invokevirtual 238, 3) := by decide +kernel
theorem dX5_addTest_59 : decode cX5_addTest 59 = .ok (.invokevirtual 241, 3) := by decide +kernel
theorem dX5_addTest_62 : decode cX5_addTest 62 = .ok (.aload_n 0, 1) := by decide +kernel
theorem dX5_addTest_63 : decode cX5_addTest 63 = .ok (.invokevirtual 245, 3) := by decide +kernel
theorem dX5_addTest_66 : decode cX5_addTest 66 = .ok (.ireturn, 1) := by decide +kernel
theorem dX5_test_0 : decode cX5_test 0 = .ok (.iload_n 1, 1) := by decide +kernel
theorem dX5_test_1 : decode cX5_test 1 = .ok (.ifCond .lt 14, 3) := by decide +kernel
theorem dX5_test_4 : decode cX5_test 4 = .ok (.iload_n 1, 1) := by decide +kernel
theorem dX5_test_5 : decode cX5_test 5 = .ok (.aload_n 0, 1) := by decide +kernel
theorem dX5_test_6 : decode cX5_test 6 = .ok (.getfield 10, 3) := by decide +kernel
theorem dX5_test_9 : decode cX5_test 9 = .ok (.getfield 127, 3) := by decide +kernel
theorem dX5_test_12 : decode cX5_test 12 = .ok (.if_icmp .lt 13, 3) := by decide +kernel
theorem dX5_test_15 : decode cX5_test 15 = .ok (.new 157, 3) := by decide +kernel
theorem dX5_test_18 : decode cX5_test 18 = .ok (.dup, 1) := by decide +kernel
theorem dX5_test_19 : decode cX5_test 19 = .ok (.ldc 248, 2) := by decide +kernel
theorem dX5_test_21 : decode cX5_test 21 = .ok (.invokespecial 161, 3) := by decide +kernel
theorem dX5_test_24 : decode cX5_test 24 = .ok (.athrow, 1) := by decide +kernel
theorem dX5_test_25 : decode cX5_test 25 = .ok (.iload_n 2, 1) := by decide +kernel
theorem dX5_test_26 : decode cX5_test 26 = .ok (.iconst 0, 1) := by decide +kernel
theorem dX5_test_27 : decode cX5_test 27 = .ok (.iconst 2, 1) := by decide +kernel
theorem dX5_test_28 : decode cX5_test 28 = .ok (.invokestatic 112, 3) := by decide +kernel
theorem dX5_test_31 : decode cX5_test 31 = .ok (.ifCond .ne 13, 3) := by decide +kernel
theorem dX5_test_34 : decode cX5_test 34 = .ok (.new 62, 3) := by decide +kernel
theorem dX5_test_37 : decode cX5_test 37 = .ok (.dup, 1) := by decide +kernel
theorem dX5_test_38 : decode cX5_test 38 = .ok (.ldc 141, 2) := by decide +kernel
theorem dX5_test_40 : decode cX5_test 40 = .ok (.invokespecial 66, 3) := by decide +kernel
theorem dX5_test_43 : decode cX5_test 43 = .ok (.athrow, 1) := by decide +kernel
theorem dX5_test_44 : decode cX5_test 44 = .ok (.aload_n 0, 1) := by decide +kernel
theorem dX5_test_45 : decode cX5_test 45 = .ok (.getfield 10, 3) := by decide +kernel
theorem dX5_test_48 : decode cX5_test 48 = .ok (.iload_n 1, 1) := by decide +kernel
theorem dX5_test_49 : decode cX5_test 49 = .ok (.iload_n 2, 1) := by decide +kernel
theorem dX5_test_50 : decode cX5_test 50 = .ok (.invokevirtual 250, 3) := by decide +kernel
theorem dX5_test_53 : decode cX5_test 53 = .ok (.ireturn, 1) := by decide +kernel
theorem dX5_heard_0 : decode cX5_heard 0 = .ok (.aload_n 0, 1) := by decide +kernel
theorem dX5_heard_1 : decode cX5_heard 1 = .ok (.iload_n 1, 1) := by decide +kernel
theorem dX5_heard_2 : decode cX5_heard 2 = .ok (.invokevirtual 166, 3) := by decide +kernel
theorem dX5_heard_5 : decode cX5_heard 5 = .ok (.iload_n 2, 1) := by decide +kernel
theorem dX5_heard_6 : decode cX5_heard 6 = .ok (.invokestatic 230, 3) := by decide +kernel
theorem dX5_heard_9 : decode cX5_heard 9 = .ok (.aload_n 0, 1) := by decide +kernel
theorem dX5_heard_10 : decode cX5_heard 10 = .ok (.iload_n 1, 1) := by decide +kernel
theorem dX5_heard_11 : decode cX5_heard 11 = .ok (.invokevirtual 235, 3) := by decide +kernel
theorem dX5_heard_14 : decode cX5_heard 14 = .ok (.aload_n 0, 1) := by decide +kernel
theorem dX5_heard_15 : decode cX5_heard 15 = .ok (.iload_n 2, 1) := by decide +kernel
theorem dX5_heard_16 : decode cX5_heard 16 = .ok (.invokevirtual 238, 3) := by decide +kernel
theorem dX5_heard_19 : decode cX5_heard 19 = .ok (.ireturn, 1) := by decide +kernel
theorem dX5_diagnoses_0 : decode cX5_diagnoses 0 = .ok (.aload_n 0, 1) := by decide +kernel
theorem dX5_diagnoses_1 : decode cX5_diagnoses 1 = .ok (.invokevirtual 245, 3) := by decide +kernel
theorem dX5_diagnoses_4 : decode cX5_diagnoses 4 = .ok (.ireturn, 1) := by decide +kernel
theorem dX5_diagnosis_0 : decode cX5_diagnosis 0 = .ok (.iconst (-1), 1) := by decide +kernel
theorem dX5_diagnosis_1 : decode cX5_diagnosis 1 = .ok (.istore_n 1, 1) := by decide +kernel
theorem dX5_diagnosis_2 : decode cX5_diagnosis 2 = .ok (.iconst 0, 1) := by decide +kernel
theorem dX5_diagnosis_3 : decode cX5_diagnosis 3 = .ok (.istore_n 2, 1) := by decide +kernel
theorem dX5_diagnosis_4 : decode cX5_diagnosis 4 = .ok (.iload_n 2, 1) := by decide +kernel
theorem dX5_diagnosis_5 : decode cX5_diagnosis 5 = .ok (.aload_n 0, 1) := by decide +kernel
theorem dX5_diagnosis_6 : decode cX5_diagnosis 6 = .ok (.getfield 10, 3) := by decide +kernel
theorem dX5_diagnosis_9 : decode cX5_diagnosis 9 = .ok (.invokevirtual 253, 3) := by decide +kernel
theorem dX5_diagnosis_12 : decode cX5_diagnosis 12 = .ok (.if_icmp .gt 38, 3) := by decide +kernel
theorem dX5_diagnosis_15 : decode cX5_diagnosis 15 = .ok (.aload_n 0, 1) := by decide +kernel
theorem dX5_diagnosis_16 : decode cX5_diagnosis 16 = .ok (.getfield 10, 3) := by decide +kernel
theorem dX5_diagnosis_19 : decode cX5_diagnosis 19 = .ok (.iload_n 2, 1) := by decide +kernel
theorem dX5_diagnosis_20 : decode cX5_diagnosis 20 = .ok (.invokevirtual 256, 3) := by decide +kernel
theorem dX5_diagnosis_23 : decode cX5_diagnosis 23 = .ok (.ifCond .eq 21, 3) := by decide +kernel
theorem dX5_diagnosis_26 : decode cX5_diagnosis 26 = .ok (.iload_n 1, 1) := by decide +kernel
theorem dX5_diagnosis_27 : decode cX5_diagnosis 27 = .ok (.iconst (-1), 1) := by decide +kernel
theorem dX5_diagnosis_28 : decode cX5_diagnosis 28 = .ok (.if_icmp .eq 14, 3) := by decide +kernel
theorem dX5_diagnosis_31 : decode cX5_diagnosis 31 = .ok (.iload_n 2, 1) := by decide +kernel
theorem dX5_diagnosis_32 : decode cX5_diagnosis 32 = .ok (.invokestatic 184, 3) := by decide +kernel
theorem dX5_diagnosis_35 : decode cX5_diagnosis 35 = .ok (.iload_n 1, 1) := by decide +kernel
theorem dX5_diagnosis_36 : decode cX5_diagnosis 36 = .ok (.invokestatic 184, 3) := by decide +kernel
theorem dX5_diagnosis_39 : decode cX5_diagnosis 39 = .ok (.if_icmp .ge 5, 3) := by decide +kernel
theorem dX5_diagnosis_42 : decode cX5_diagnosis 42 = .ok (.iload_n 2, 1) := by decide +kernel
theorem dX5_diagnosis_43 : decode cX5_diagnosis 43 = .ok (.istore_n 1, 1) := by decide +kernel
theorem dX5_diagnosis_44 : decode cX5_diagnosis 44 = .ok (.iinc 2 1, 3) := by decide +kernel
theorem dX5_diagnosis_47 : decode cX5_diagnosis 47 = .ok (.goto (-43), 3) := by decide +kernel
theorem dX5_diagnosis_50 : decode cX5_diagnosis 50 = .ok (.iload_n 1, 1) := by decide +kernel
theorem dX5_diagnosis_51 : decode cX5_diagnosis 51 = .ok (.ireturn, 1) := by decide +kernel
theorem dX5_certain_0 : decode cX5_certain 0 = .ok (.aload_n 0, 1) := by decide +kernel
theorem dX5_certain_1 : decode cX5_certain 1 = .ok (.getfield 10, 3) := by decide +kernel
theorem dX5_certain_4 : decode cX5_certain 4 = .ok (.invokevirtual 253, 3) := by decide +kernel
theorem dX5_certain_7 : decode cX5_certain 7 = .ok (.istore_n 2, 1) := by decide +kernel
theorem dX5_certain_8 : decode cX5_certain 8 = .ok (.aload_n 0, 1) := by decide +kernel
theorem dX5_certain_9 : decode cX5_certain 9 = .ok (.getfield 10, 3) := by decide +kernel
theorem dX5_certain_12 : decode cX5_certain 12 = .ok (.invokevirtual 253, 3) := by decide +kernel
theorem dX5_certain_15 : decode cX5_certain 15 = .ok (.istore_n 3, 1) := by decide +kernel
theorem dX5_certain_16 : decode cX5_certain 16 = .ok (.iconst 0, 1) := by decide +kernel
theorem dX5_certain_17 : decode cX5_certain 17 = .ok (.istore 4, 2) := by decide +kernel
theorem dX5_certain_19 : decode cX5_certain 19 = .ok (.iload 4, 2) := by decide +kernel
theorem dX5_certain_21 : decode cX5_certain 21 = .ok (.aload_n 0, 1) := by decide +kernel
theorem dX5_certain_22 : decode cX5_certain 22 = .ok (.getfield 10, 3) := by decide +kernel
theorem dX5_certain_25 : decode cX5_certain 25 = .ok (.invokevirtual 253, 3) := by decide +kernel
theorem dX5_certain_28 : decode cX5_certain 28 = .ok (.if_icmp .gt 33, 3) := by decide +kernel
theorem dX5_certain_31 : decode cX5_certain 31 = .ok (.aload_n 0, 1) := by decide +kernel
theorem dX5_certain_32 : decode cX5_certain 32 = .ok (.getfield 10, 3) := by decide +kernel
theorem dX5_certain_35 : decode cX5_certain 35 = .ok (.iload 4, 2) := by decide +kernel
theorem dX5_certain_37 : decode cX5_certain 37 = .ok (.invokevirtual 256, 3) := by decide +kernel
theorem dX5_certain_40 : decode cX5_certain 40 = .ok (.ifCond .eq 15, 3) := by decide +kernel
theorem dX5_certain_43 : decode cX5_certain 43 = .ok (.iload_n 2, 1) := by decide +kernel
theorem dX5_certain_44 : decode cX5_certain 44 = .ok (.iload 4, 2) := by decide +kernel
theorem dX5_certain_46 : decode cX5_certain 46 = .ok (.iand, 1) := by decide +kernel
theorem dX5_certain_47 : decode cX5_certain 47 = .ok (.istore_n 2, 1) := by decide +kernel
theorem dX5_certain_48 : decode cX5_certain 48 = .ok (.iload_n 3, 1) := by decide +kernel
theorem dX5_certain_49 : decode cX5_certain 49 = .ok (.iload 4, 2) := by decide +kernel
theorem dX5_certain_51 : decode cX5_certain 51 = .ok (.iconst (-1), 1) := by decide +kernel
theorem dX5_certain_52 : decode cX5_certain 52 = .ok (.ixor, 1) := by decide +kernel
theorem dX5_certain_53 : decode cX5_certain 53 = .ok (.iand, 1) := by decide +kernel
theorem dX5_certain_54 : decode cX5_certain 54 = .ok (.istore_n 3, 1) := by decide +kernel
theorem dX5_certain_55 : decode cX5_certain 55 = .ok (.iinc 4 1, 3) := by decide +kernel
theorem dX5_certain_58 : decode cX5_certain 58 = .ok (.goto (-39), 3) := by decide +kernel
theorem dX5_certain_61 : decode cX5_certain 61 = .ok (.iload_n 1, 1) := by decide +kernel
theorem dX5_certain_62 : decode cX5_certain 62 = .ok (.ifCond .eq 7, 3) := by decide +kernel
theorem dX5_certain_65 : decode cX5_certain 65 = .ok (.iload_n 2, 1) := by decide +kernel
theorem dX5_certain_66 : decode cX5_certain 66 = .ok (.goto 4, 3) := by decide +kernel
theorem dX5_certain_69 : decode cX5_certain 69 = .ok (.iload_n 3, 1) := by decide +kernel
theorem dX5_certain_70 : decode cX5_certain 70 = .ok (.ireturn, 1) := by decide +kernel
theorem dX5_bestTest_0 : decode cX5_bestTest 0 = .ok (.aload_n 0, 1) := by decide +kernel
theorem dX5_bestTest_1 : decode cX5_bestTest 1 = .ok (.iload_n 1, 1) := by decide +kernel
theorem dX5_bestTest_2 : decode cX5_bestTest 2 = .ok (.invokevirtual 166, 3) := by decide +kernel
theorem dX5_bestTest_5 : decode cX5_bestTest 5 = .ok (.aload_n 0, 1) := by decide +kernel
theorem dX5_bestTest_6 : decode cX5_bestTest 6 = .ok (.iload_n 1, 1) := by decide +kernel
theorem dX5_bestTest_7 : decode cX5_bestTest 7 = .ok (.invokevirtual 235, 3) := by decide +kernel
theorem dX5_bestTest_10 : decode cX5_bestTest 10 = .ok (.aload_n 0, 1) := by decide +kernel
theorem dX5_bestTest_11 : decode cX5_bestTest 11 = .ok (.invokevirtual 245, 3) := by decide +kernel
theorem dX5_bestTest_14 : decode cX5_bestTest 14 = .ok (.istore_n 2, 1) := by decide +kernel
theorem dX5_bestTest_15 : decode cX5_bestTest 15 = .ok (.iconst 0, 1) := by decide +kernel
theorem dX5_bestTest_16 : decode cX5_bestTest 16 = .ok (.istore_n 3, 1) := by decide +kernel
theorem dX5_bestTest_17 : decode cX5_bestTest 17 = .ok (.iload_n 2, 1) := by decide +kernel
theorem dX5_bestTest_18 : decode cX5_bestTest 18 = .ok (.istore 4, 2) := by decide +kernel
theorem dX5_bestTest_20 : decode cX5_bestTest 20 = .ok (.iconst 0, 1) := by decide +kernel
theorem dX5_bestTest_21 : decode cX5_bestTest 21 = .ok (.istore 5, 2) := by decide +kernel
theorem dX5_bestTest_23 : decode cX5_bestTest 23 = .ok (.iload 5, 2) := by decide +kernel
theorem dX5_bestTest_25 : decode cX5_bestTest 25 = .ok (.bipush 64, 2) := by decide +kernel
theorem dX5_bestTest_27 : decode cX5_bestTest 27 = .ok (.if_icmp .ge 46, 3) := by decide +kernel
theorem dX5_bestTest_30 : decode cX5_bestTest 30 = .ok (.aload_n 0, 1) := by decide +kernel
theorem dX5_bestTest_31 : decode cX5_bestTest 31 = .ok (.aload_n 0, 1) := by decide +kernel
theorem dX5_bestTest_32 : decode cX5_bestTest 32 = .ok (.iload 5, 2) := by decide +kernel
theorem dX5_bestTest_34 : decode cX5_bestTest 34 = .ok (.invokevirtual 238, 3) := by decide +kernel
theorem dX5_bestTest_37 : decode cX5_bestTest 37 = .ok (.invokevirtual 259, 3) := by decide +kernel
theorem dX5_bestTest_40 : decode cX5_bestTest 40 = .ok (.istore 6, 2) := by decide +kernel
theorem dX5_bestTest_42 : decode cX5_bestTest 42 = .ok (.iload 6, 2) := by decide +kernel
theorem dX5_bestTest_44 : decode cX5_bestTest 44 = .ok (.iload_n 2, 1) := by decide +kernel
theorem dX5_bestTest_45 : decode cX5_bestTest 45 = .ok (.iload 6, 2) := by decide +kernel
theorem dX5_bestTest_47 : decode cX5_bestTest 47 = .ok (.isub, 1) := by decide +kernel
theorem dX5_bestTest_48 : decode cX5_bestTest 48 = .ok (.invokestatic 262, 3) := by decide +kernel
theorem dX5_bestTest_51 : decode cX5_bestTest 51 = .ok (.istore 7, 2) := by decide +kernel
theorem dX5_bestTest_53 : decode cX5_bestTest 53 = .ok (.iload 7, 2) := by decide +kernel
theorem dX5_bestTest_55 : decode cX5_bestTest 55 = .ok (.iload 4, 2) := by decide +kernel
theorem dX5_bestTest_57 : decode cX5_bestTest 57 = .ok (.if_icmp .ge 10, 3) := by decide +kernel
theorem dX5_bestTest_60 : decode cX5_bestTest 60 = .ok (.iload 5, 2) := by decide +kernel
theorem dX5_bestTest_62 : decode cX5_bestTest 62 = .ok (.istore_n 3, 1) := by decide +kernel
theorem dX5_bestTest_63 : decode cX5_bestTest 63 = .ok (.iload 7, 2) := by decide +kernel
theorem dX5_bestTest_65 : decode cX5_bestTest 65 = .ok (.istore 4, 2) := by decide +kernel
theorem dX5_bestTest_67 : decode cX5_bestTest 67 = .ok (.iinc 5 1, 3) := by decide +kernel
theorem dX5_bestTest_70 : decode cX5_bestTest 70 = .ok (.goto (-47), 3) := by decide +kernel
theorem dX5_bestTest_73 : decode cX5_bestTest 73 = .ok (.iload_n 3, 1) := by decide +kernel
theorem dX5_bestTest_74 : decode cX5_bestTest 74 = .ok (.ireturn, 1) := by decide +kernel
theorem dX5_append_0 : decode cX5_append 0 = .ok (.iload_n 1, 1) := by decide +kernel
theorem dX5_append_1 : decode cX5_append 1 = .ok (.iconst 0, 1) := by decide +kernel
theorem dX5_append_2 : decode cX5_append 2 = .ok (.bipush 127, 2) := by decide +kernel
theorem dX5_append_4 : decode cX5_append 4 = .ok (.invokestatic 112, 3) := by decide +kernel
theorem dX5_append_7 : decode cX5_append 7 = .ok (.ifCond .ne 14, 3) := by decide +kernel
theorem dX5_append_10 : decode cX5_append 10 = .ok (.new 62, 3) := by decide +kernel
theorem dX5_append_13 : decode cX5_append 13 = .ok (.dup, 1) := by decide +kernel
theorem dX5_append_14 : decode cX5_append 14 = .ok (.ldc_w 265, 3) := by decide +kernel
theorem dX5_append_17 : decode cX5_append 17 = .ok (.invokespecial 66, 3) := by decide +kernel
theorem dX5_append_20 : decode cX5_append 20 = .ok (.athrow, 1) := by decide +kernel
theorem dX5_append_21 : decode cX5_append 21 = .ok (.aload_n 0, 1) := by decide +kernel
theorem dX5_append_22 : decode cX5_append 22 = .ok (.getfield 43, 3) := by decide +kernel
theorem dX5_append_25 : decode cX5_append 25 = .ok (.getfield 267, 3) := by decide +kernel
theorem dX5_append_28 : decode cX5_append 28 = .ok (.bipush 120, 2) := by decide +kernel
theorem dX5_append_30 : decode cX5_append 30 = .ok (.if_icmp .lt 14, 3) := by decide +kernel
theorem dX5_append_33 : decode cX5_append 33 = .ok (.new 104, 3) := by decide +kernel
theorem dX5_append_36 : decode cX5_append 36 = .ok (.dup, 1) := by decide +kernel
theorem dX5_append_37 : decode cX5_append 37 = .ok (.ldc_w 270, 3) := by decide +kernel
theorem dX5_append_40 : decode cX5_append 40 = .ok (.invokespecial 108, 3) := by decide +kernel
theorem dX5_append_43 : decode cX5_append 43 = .ok (.athrow, 1) := by decide +kernel
theorem dX5_append_44 : decode cX5_append 44 = .ok (.aload_n 0, 1) := by decide +kernel
theorem dX5_append_45 : decode cX5_append 45 = .ok (.getfield 43, 3) := by decide +kernel
theorem dX5_append_48 : decode cX5_append 48 = .ok (.iload_n 1, 1) := by decide +kernel
theorem dX5_append_49 : decode cX5_append 49 = .ok (.invokevirtual 272, 3) := by decide +kernel
theorem dX5_append_52 : decode cX5_append 52 = .ok (.aload_n 0, 1) := by decide +kernel
theorem dX5_append_53 : decode cX5_append 53 = .ok (.getfield 43, 3) := by decide +kernel
theorem dX5_append_56 : decode cX5_append 56 = .ok (.getfield 267, 3) := by decide +kernel
theorem dX5_append_59 : decode cX5_append 59 = .ok (.ireturn, 1) := by decide +kernel
theorem dX5_clearText_0 : decode cX5_clearText 0 = .ok (.aload_n 0, 1) := by decide +kernel
theorem dX5_clearText_1 : decode cX5_clearText 1 = .ok (.getfield 43, 3) := by decide +kernel
theorem dX5_clearText_4 : decode cX5_clearText 4 = .ok (.getfield 267, 3) := by decide +kernel
theorem dX5_clearText_7 : decode cX5_clearText 7 = .ok (.istore_n 1, 1) := by decide +kernel
theorem dX5_clearText_8 : decode cX5_clearText 8 = .ok (.aload_n 0, 1) := by decide +kernel
theorem dX5_clearText_9 : decode cX5_clearText 9 = .ok (.getfield 43, 3) := by decide +kernel
theorem dX5_clearText_12 : decode cX5_clearText 12 = .ok (.iconst 0, 1) := by decide +kernel
theorem dX5_clearText_13 : decode cX5_clearText 13 = .ok (.putfield 267, 3) := by decide +kernel
theorem dX5_clearText_16 : decode cX5_clearText 16 = .ok (.iload_n 1, 1) := by decide +kernel
theorem dX5_clearText_17 : decode cX5_clearText 17 = .ok (.ireturn, 1) := by decide +kernel
theorem dX5_parse_0 : decode cX5_parse 0 = .ok (.aload_n 0, 1) := by decide +kernel
theorem dX5_parse_1 : decode cX5_parse 1 = .ok (.getfield 16, 3) := by decide +kernel
theorem dX5_parse_4 : decode cX5_parse 4 = .ok (.aload_n 0, 1) := by decide +kernel
theorem dX5_parse_5 : decode cX5_parse 5 = .ok (.getfield 10, 3) := by decide +kernel
theorem dX5_parse_8 : decode cX5_parse 8 = .ok (.invokevirtual 275, 3) := by decide +kernel
theorem dX5_parse_11 : decode cX5_parse 11 = .ok (.aload_n 0, 1) := by decide +kernel
theorem dX5_parse_12 : decode cX5_parse 12 = .ok (.getfield 16, 3) := by decide +kernel
theorem dX5_parse_15 : decode cX5_parse 15 = .ok (.invokevirtual 278, 3) := by decide +kernel
theorem dX5_parse_18 : decode cX5_parse 18 = .ok (.aload_n 0, 1) := by decide +kernel
theorem dX5_parse_19 : decode cX5_parse 19 = .ok (.getfield 43, 3) := by decide +kernel
theorem dX5_parse_22 : decode cX5_parse 22 = .ok (.aload_n 0, 1) := by decide +kernel
theorem dX5_parse_23 : decode cX5_parse 23 = .ok (.getfield 16, 3) := by decide +kernel
theorem dX5_parse_26 : decode cX5_parse 26 = .ok (.invokevirtual 281, 3) := by decide +kernel
theorem dX5_parse_29 : decode cX5_parse 29 = .ok (.istore_n 1, 1) := by decide +kernel
theorem dX5_parse_30 : decode cX5_parse 30 = .ok (.iload_n 1, 1) := by decide +kernel
theorem dX5_parse_31 : decode cX5_parse 31 = .ok (.ifCond .lt 25, 3) := by decide +kernel
theorem dX5_parse_34 : decode cX5_parse 34 = .ok (.aload_n 0, 1) := by decide +kernel
theorem dX5_parse_35 : decode cX5_parse 35 = .ok (.getfield 22, 3) := by decide +kernel
theorem dX5_parse_38 : decode cX5_parse 38 = .ok (.aload_n 0, 1) := by decide +kernel
theorem dX5_parse_39 : decode cX5_parse 39 = .ok (.getfield 10, 3) := by decide +kernel
theorem dX5_parse_42 : decode cX5_parse 42 = .ok (.invokevirtual 72, 3) := by decide +kernel
theorem dX5_parse_45 : decode cX5_parse 45 = .ok (.aload_n 0, 1) := by decide +kernel
theorem dX5_parse_46 : decode cX5_parse 46 = .ok (.getfield 10, 3) := by decide +kernel
theorem dX5_parse_49 : decode cX5_parse 49 = .ok (.aload_n 0, 1) := by decide +kernel
theorem dX5_parse_50 : decode cX5_parse 50 = .ok (.getfield 16, 3) := by decide +kernel
theorem dX5_parse_53 : decode cX5_parse 53 = .ok (.invokevirtual 275, 3) := by decide +kernel
theorem dX5_parse_56 : decode cX5_parse 56 = .ok (.iload_n 1, 1) := by decide +kernel
theorem dX5_parse_57 : decode cX5_parse 57 = .ok (.ireturn, 1) := by decide +kernel
theorem dX5_undo_0 : decode cX5_undo 0 = .ok (.aload_n 0, 1) := by decide +kernel
theorem dX5_undo_1 : decode cX5_undo 1 = .ok (.getfield 22, 3) := by decide +kernel
theorem dX5_undo_4 : decode cX5_undo 4 = .ok (.getfield 285, 3) := by decide +kernel
theorem dX5_undo_7 : decode cX5_undo 7 = .ok (.ifCond .gt 14, 3) := by decide +kernel
theorem dX5_undo_10 : decode cX5_undo 10 = .ok (.new 104, 3) := by decide +kernel
theorem dX5_undo_13 : decode cX5_undo 13 = .ok (.dup, 1) := by decide +kernel
theorem dX5_undo_14 : decode cX5_undo 14 = .ok (.ldc_w 286, 3) := by decide +kernel
theorem dX5_undo_17 : decode cX5_undo 17 = .ok (.invokespecial 108, 3) := by decide +kernel
theorem dX5_undo_20 : decode cX5_undo 20 = .ok (.athrow, 1) := by decide +kernel
theorem dX5_undo_21 : decode cX5_undo 21 = .ok (.aload_n 0, 1) := by decide +kernel
theorem dX5_undo_22 : decode cX5_undo 22 = .ok (.getfield 22, 3) := by decide +kernel
theorem dX5_undo_25 : decode cX5_undo 25 = .ok (.aload_n 0, 1) := by decide +kernel
theorem dX5_undo_26 : decode cX5_undo 26 = .ok (.getfield 10, 3) := by decide +kernel
theorem dX5_undo_29 : decode cX5_undo 29 = .ok (.invokevirtual 288, 3) := by decide +kernel
theorem dX5_undo_32 : decode cX5_undo 32 = .ok (.aload_n 0, 1) := by decide +kernel
theorem dX5_undo_33 : decode cX5_undo 33 = .ok (.getfield 22, 3) := by decide +kernel
theorem dX5_undo_36 : decode cX5_undo 36 = .ok (.getfield 285, 3) := by decide +kernel
theorem dX5_undo_39 : decode cX5_undo 39 = .ok (.ireturn, 1) := by decide +kernel
theorem dX5_digest_0 : decode cX5_digest 0 = .ok (.ldc2_w 291, 3) := by decide +kernel
theorem dX5_digest_3 : decode cX5_digest 3 = .ok (.lstore_n 1, 1) := by decide +kernel
theorem dX5_digest_4 : decode cX5_digest 4 = .ok (.ldc2_w 293, 3) := by decide +kernel
theorem dX5_digest_7 : decode cX5_digest 7 = .ok (.lload_n 1, 1) := by decide +kernel
theorem dX5_digest_8 : decode cX5_digest 8 = .ok (.lmul, 1) := by decide +kernel
theorem dX5_digest_9 : decode cX5_digest 9 = .ok (.aload_n 0, 1) := by decide +kernel
theorem dX5_digest_10 : decode cX5_digest 10 = .ok (.getfield 43, 3) := by decide +kernel
theorem dX5_digest_13 : decode cX5_digest 13 = .ok (.getfield 267, 3) := by decide +kernel
theorem dX5_digest_16 : decode cX5_digest 16 = .ok (.i2l, 1) := by decide +kernel
theorem dX5_digest_17 : decode cX5_digest 17 = .ok (.ladd, 1) := by decide +kernel
theorem dX5_digest_18 : decode cX5_digest 18 = .ok (.lstore_n 1, 1) := by decide +kernel
theorem dX5_digest_19 : decode cX5_digest 19 = .ok (.ldc2_w 293, 3) := by decide +kernel
theorem dX5_digest_22 : decode cX5_digest 22 = .ok (.lload_n 1, 1) := by decide +kernel
theorem dX5_digest_23 : decode cX5_digest 23 = .ok (.lmul, 1) := by decide +kernel
theorem dX5_digest_24 : decode cX5_digest 24 = .ok (.aload_n 0, 1) := by decide +kernel
theorem dX5_digest_25 : decode cX5_digest 25 = .ok (.getfield 10, 3) := by decide +kernel
theorem dX5_digest_28 : decode cX5_digest 28 = .ok (.getfield 118, 3) := by decide +kernel
theorem dX5_digest_31 : decode cX5_digest 31 = .ok (.i2l, 1) := by decide +kernel
theorem dX5_digest_32 : decode cX5_digest 32 = .ok (.ladd, 1) := by decide +kernel
theorem dX5_digest_33 : decode cX5_digest 33 = .ok (.lstore_n 1, 1) := by decide +kernel
theorem dX5_digest_34 : decode cX5_digest 34 = .ok (.ldc2_w 293, 3) := by decide +kernel
theorem dX5_digest_37 : decode cX5_digest 37 = .ok (.lload_n 1, 1) := by decide +kernel
theorem dX5_digest_38 : decode cX5_digest 38 = .ok (.lmul, 1) := by decide +kernel
theorem dX5_digest_39 : decode cX5_digest 39 = .ok (.aload_n 0, 1) := by decide +kernel
theorem dX5_digest_40 : decode cX5_digest 40 = .ok (.getfield 10, 3) := by decide +kernel
theorem dX5_digest_43 : decode cX5_digest 43 = .ok (.getfield 121, 3) := by decide +kernel
theorem dX5_digest_46 : decode cX5_digest 46 = .ok (.i2l, 1) := by decide +kernel
theorem dX5_digest_47 : decode cX5_digest 47 = .ok (.ladd, 1) := by decide +kernel
theorem dX5_digest_48 : decode cX5_digest 48 = .ok (.lstore_n 1, 1) := by decide +kernel
theorem dX5_digest_49 : decode cX5_digest 49 = .ok (.ldc2_w 293, 3) := by decide +kernel
theorem dX5_digest_52 : decode cX5_digest 52 = .ok (.lload_n 1, 1) := by decide +kernel
theorem dX5_digest_53 : decode cX5_digest 53 = .ok (.lmul, 1) := by decide +kernel
theorem dX5_digest_54 : decode cX5_digest 54 = .ok (.aload_n 0, 1) := by decide +kernel
theorem dX5_digest_55 : decode cX5_digest 55 = .ok (.getfield 10, 3) := by decide +kernel
theorem dX5_digest_58 : decode cX5_digest 58 = .ok (.getfield 124, 3) := by decide +kernel
theorem dX5_digest_61 : decode cX5_digest 61 = .ok (.i2l, 1) := by decide +kernel
theorem dX5_digest_62 : decode cX5_digest 62 = .ok (.ladd, 1) := by decide +kernel
theorem dX5_digest_63 : decode cX5_digest 63 = .ok (.lstore_n 1, 1) := by decide +kernel
theorem dX5_digest_64 : decode cX5_digest 64 = .ok (.ldc2_w 293, 3) := by decide +kernel
theorem dX5_digest_67 : decode cX5_digest 67 = .ok (.lload_n 1, 1) := by decide +kernel
theorem dX5_digest_68 : decode cX5_digest 68 = .ok (.lmul, 1) := by decide +kernel
theorem dX5_digest_69 : decode cX5_digest 69 = .ok (.aload_n 0, 1) := by decide +kernel
theorem dX5_digest_70 : decode cX5_digest 70 = .ok (.getfield 10, 3) := by decide +kernel
theorem dX5_digest_73 : decode cX5_digest 73 = .ok (.getfield 132, 3) := by decide +kernel
theorem dX5_digest_76 : decode cX5_digest 76 = .ok (.i2l, 1) := by decide +kernel
theorem dX5_digest_77 : decode cX5_digest 77 = .ok (.ladd, 1) := by decide +kernel
theorem dX5_digest_78 : decode cX5_digest 78 = .ok (.lstore_n 1, 1) := by decide +kernel
theorem dX5_digest_79 : decode cX5_digest 79 = .ok (.ldc2_w 293, 3) := by decide +kernel
theorem dX5_digest_82 : decode cX5_digest 82 = .ok (.lload_n 1, 1) := by decide +kernel
theorem dX5_digest_83 : decode cX5_digest 83 = .ok (.lmul, 1) := by decide +kernel
theorem dX5_digest_84 : decode cX5_digest 84 = .ok (.aload_n 0, 1) := by decide +kernel
theorem dX5_digest_85 : decode cX5_digest 85 = .ok (.getfield 10, 3) := by decide +kernel
theorem dX5_digest_88 : decode cX5_digest 88 = .ok (.getfield 135, 3) := by decide +kernel
theorem dX5_digest_91 : decode cX5_digest 91 = .ok (.i2l, 1) := by decide +kernel
theorem dX5_digest_92 : decode cX5_digest 92 = .ok (.ladd, 1) := by decide +kernel
theorem dX5_digest_93 : decode cX5_digest 93 = .ok (.lstore_n 1, 1) := by decide +kernel
theorem dX5_digest_94 : decode cX5_digest 94 = .ok (.ldc2_w 293, 3) := by decide +kernel
theorem dX5_digest_97 : decode cX5_digest 97 = .ok (.lload_n 1, 1) := by decide +kernel
theorem dX5_digest_98 : decode cX5_digest 98 = .ok (.lmul, 1) := by decide +kernel
theorem dX5_digest_99 : decode cX5_digest 99 = .ok (.aload_n 0, 1) := by decide +kernel
theorem dX5_digest_100 : decode cX5_digest 100 = .ok (.getfield 10, 3) := by decide +kernel
theorem dX5_digest_103 : decode cX5_digest 103 = .ok (.getfield 80, 3) := by decide +kernel
theorem dX5_digest_106 : decode cX5_digest 106 = .ok (.i2l, 1) := by decide +kernel
theorem dX5_digest_107 : decode cX5_digest 107 = .ok (.ladd, 1) := by decide +kernel
theorem dX5_digest_108 : decode cX5_digest 108 = .ok (.lstore_n 1, 1) := by decide +kernel
theorem dX5_digest_109 : decode cX5_digest 109 = .ok (.iconst 0, 1) := by decide +kernel
theorem dX5_digest_110 : decode cX5_digest 110 = .ok (.istore_n 3, 1) := by decide +kernel
theorem dX5_digest_111 : decode cX5_digest 111 = .ok (.iload_n 3, 1) := by decide +kernel
theorem dX5_digest_112 : decode cX5_digest 112 = .ok (.aload_n 0, 1) := by decide +kernel
theorem dX5_digest_113 : decode cX5_digest 113 = .ok (.getfield 10, 3) := by decide +kernel
theorem dX5_digest_116 : decode cX5_digest 116 = .ok (.getfield 80, 3) := by decide +kernel
theorem dX5_digest_119 : decode cX5_digest 119 = .ok (.if_icmp .ge 41, 3) := by decide +kernel
theorem dX5_digest_122 : decode cX5_digest 122 = .ok (.ldc2_w 293, 3) := by decide +kernel
theorem dX5_digest_125 : decode cX5_digest 125 = .ok (.lload_n 1, 1) := by decide +kernel
theorem dX5_digest_126 : decode cX5_digest 126 = .ok (.lmul, 1) := by decide +kernel
theorem dX5_digest_127 : decode cX5_digest 127 = .ok (.aload_n 0, 1) := by decide +kernel
theorem dX5_digest_128 : decode cX5_digest 128 = .ok (.getfield 10, 3) := by decide +kernel
theorem dX5_digest_131 : decode cX5_digest 131 = .ok (.iload_n 3, 1) := by decide +kernel
theorem dX5_digest_132 : decode cX5_digest 132 = .ok (.invokevirtual 92, 3) := by decide +kernel
theorem dX5_digest_135 : decode cX5_digest 135 = .ok (.i2l, 1) := by decide +kernel
theorem dX5_digest_136 : decode cX5_digest 136 = .ok (.ladd, 1) := by decide +kernel
theorem dX5_digest_137 : decode cX5_digest 137 = .ok (.lstore_n 1, 1) := by decide +kernel
theorem dX5_digest_138 : decode cX5_digest 138 = .ok (.ldc2_w 293, 3) := by decide +kernel
theorem dX5_digest_141 : decode cX5_digest 141 = .ok (.lload_n 1, 1) := by decide +kernel
theorem dX5_digest_142 : decode cX5_digest 142 = .ok (.lmul, 1) := by decide +kernel
theorem dX5_digest_143 : decode cX5_digest 143 = .ok (.aload_n 0, 1) := by decide +kernel
theorem dX5_digest_144 : decode cX5_digest 144 = .ok (.getfield 10, 3) := by decide +kernel
theorem dX5_digest_147 : decode cX5_digest 147 = .ok (.iload_n 3, 1) := by decide +kernel
theorem dX5_digest_148 : decode cX5_digest 148 = .ok (.invokevirtual 143, 3) := by decide +kernel
theorem dX5_digest_151 : decode cX5_digest 151 = .ok (.i2l, 1) := by decide +kernel
theorem dX5_digest_152 : decode cX5_digest 152 = .ok (.ladd, 1) := by decide +kernel
theorem dX5_digest_153 : decode cX5_digest 153 = .ok (.lstore_n 1, 1) := by decide +kernel
theorem dX5_digest_154 : decode cX5_digest 154 = .ok (.iinc 3 1, 3) := by decide +kernel
theorem dX5_digest_157 : decode cX5_digest 157 = .ok (.goto (-46), 3) := by decide +kernel
theorem dX5_digest_160 : decode cX5_digest 160 = .ok (.ldc2_w 293, 3) := by decide +kernel
theorem dX5_digest_163 : decode cX5_digest 163 = .ok (.lload_n 1, 1) := by decide +kernel
theorem dX5_digest_164 : decode cX5_digest 164 = .ok (.lmul, 1) := by decide +kernel
theorem dX5_digest_165 : decode cX5_digest 165 = .ok (.aload_n 0, 1) := by decide +kernel
theorem dX5_digest_166 : decode cX5_digest 166 = .ok (.invokevirtual 295, 3) := by decide +kernel
theorem dX5_digest_169 : decode cX5_digest 169 = .ok (.i2l, 1) := by decide +kernel
theorem dX5_digest_170 : decode cX5_digest 170 = .ok (.ladd, 1) := by decide +kernel
theorem dX5_digest_171 : decode cX5_digest 171 = .ok (.lstore_n 1, 1) := by decide +kernel
theorem dX5_digest_172 : decode cX5_digest 172 = .ok (.ldc2_w 293, 3) := by decide +kernel
theorem dX5_digest_175 : decode cX5_digest 175 = .ok (.lload_n 1, 1) := by decide +kernel
theorem dX5_digest_176 : decode cX5_digest 176 = .ok (.lmul, 1) := by decide +kernel
theorem dX5_digest_177 : decode cX5_digest 177 = .ok (.aload_n 0, 1) := by decide +kernel
theorem dX5_digest_178 : decode cX5_digest 178 = .ok (.invokevirtual 298, 3) := by decide +kernel
theorem dX5_digest_181 : decode cX5_digest 181 = .ok (.i2l, 1) := by decide +kernel
theorem dX5_digest_182 : decode cX5_digest 182 = .ok (.ladd, 1) := by decide +kernel
theorem dX5_digest_183 : decode cX5_digest 183 = .ok (.lstore_n 1, 1) := by decide +kernel
theorem dX5_digest_184 : decode cX5_digest 184 = .ok (.ldc2_w 293, 3) := by decide +kernel
theorem dX5_digest_187 : decode cX5_digest 187 = .ok (.lload_n 1, 1) := by decide +kernel
theorem dX5_digest_188 : decode cX5_digest 188 = .ok (.lmul, 1) := by decide +kernel
theorem dX5_digest_189 : decode cX5_digest 189 = .ok (.aload_n 0, 1) := by decide +kernel
theorem dX5_digest_190 : decode cX5_digest 190 = .ok (.getfield 10, 3) := by decide +kernel
theorem dX5_digest_193 : decode cX5_digest 193 = .ok (.getfield 138, 3) := by decide +kernel
theorem dX5_digest_196 : decode cX5_digest 196 = .ok (.i2l, 1) := by decide +kernel
theorem dX5_digest_197 : decode cX5_digest 197 = .ok (.ladd, 1) := by decide +kernel
theorem dX5_digest_198 : decode cX5_digest 198 = .ok (.lstore_n 1, 1) := by decide +kernel
theorem dX5_digest_199 : decode cX5_digest 199 = .ok (.iconst 0, 1) := by decide +kernel
theorem dX5_digest_200 : decode cX5_digest 200 = .ok (.istore_n 3, 1) := by decide +kernel
theorem dX5_digest_201 : decode cX5_digest 201 = .ok (.iload_n 3, 1) := by decide +kernel
theorem dX5_digest_202 : decode cX5_digest 202 = .ok (.aload_n 0, 1) := by decide +kernel
theorem dX5_digest_203 : decode cX5_digest 203 = .ok (.getfield 10, 3) := by decide +kernel
theorem dX5_digest_206 : decode cX5_digest 206 = .ok (.getfield 138, 3) := by decide +kernel
theorem dX5_digest_209 : decode cX5_digest 209 = .ok (.if_icmp .ge 25, 3) := by decide +kernel
theorem dX5_digest_212 : decode cX5_digest 212 = .ok (.ldc2_w 293, 3) := by decide +kernel
theorem dX5_digest_215 : decode cX5_digest 215 = .ok (.lload_n 1, 1) := by decide +kernel
theorem dX5_digest_216 : decode cX5_digest 216 = .ok (.lmul, 1) := by decide +kernel
theorem dX5_digest_217 : decode cX5_digest 217 = .ok (.aload_n 0, 1) := by decide +kernel
theorem dX5_digest_218 : decode cX5_digest 218 = .ok (.getfield 10, 3) := by decide +kernel
theorem dX5_digest_221 : decode cX5_digest 221 = .ok (.iload_n 3, 1) := by decide +kernel
theorem dX5_digest_222 : decode cX5_digest 222 = .ok (.invokevirtual 224, 3) := by decide +kernel
theorem dX5_digest_225 : decode cX5_digest 225 = .ok (.i2l, 1) := by decide +kernel
theorem dX5_digest_226 : decode cX5_digest 226 = .ok (.ladd, 1) := by decide +kernel
theorem dX5_digest_227 : decode cX5_digest 227 = .ok (.lstore_n 1, 1) := by decide +kernel
theorem dX5_digest_228 : decode cX5_digest 228 = .ok (.iinc 3 1, 3) := by decide +kernel
theorem dX5_digest_231 : decode cX5_digest 231 = .ok (.goto (-30), 3) := by decide +kernel
theorem dX5_digest_234 : decode cX5_digest 234 = .ok (.ldc2_w 293, 3) := by decide +kernel
theorem dX5_digest_237 : decode cX5_digest 237 = .ok (.lload_n 1, 1) := by decide +kernel
theorem dX5_digest_238 : decode cX5_digest 238 = .ok (.lmul, 1) := by decide +kernel
theorem dX5_digest_239 : decode cX5_digest 239 = .ok (.aload_n 0, 1) := by decide +kernel
theorem dX5_digest_240 : decode cX5_digest 240 = .ok (.getfield 10, 3) := by decide +kernel
theorem dX5_digest_243 : decode cX5_digest 243 = .ok (.getfield 127, 3) := by decide +kernel
theorem dX5_digest_246 : decode cX5_digest 246 = .ok (.i2l, 1) := by decide +kernel
theorem dX5_digest_247 : decode cX5_digest 247 = .ok (.ladd, 1) := by decide +kernel
theorem dX5_digest_248 : decode cX5_digest 248 = .ok (.lstore_n 1, 1) := by decide +kernel
theorem dX5_digest_249 : decode cX5_digest 249 = .ok (.iconst 0, 1) := by decide +kernel
theorem dX5_digest_250 : decode cX5_digest 250 = .ok (.istore_n 3, 1) := by decide +kernel
theorem dX5_digest_251 : decode cX5_digest 251 = .ok (.iload_n 3, 1) := by decide +kernel
theorem dX5_digest_252 : decode cX5_digest 252 = .ok (.aload_n 0, 1) := by decide +kernel
theorem dX5_digest_253 : decode cX5_digest 253 = .ok (.getfield 10, 3) := by decide +kernel
theorem dX5_digest_256 : decode cX5_digest 256 = .ok (.getfield 127, 3) := by decide +kernel
theorem dX5_digest_259 : decode cX5_digest 259 = .ok (.if_icmp .ge 42, 3) := by decide +kernel
theorem dX5_digest_262 : decode cX5_digest 262 = .ok (.iconst 0, 1) := by decide +kernel
theorem dX5_digest_263 : decode cX5_digest 263 = .ok (.istore 4, 2) := by decide +kernel
theorem dX5_digest_265 : decode cX5_digest 265 = .ok (.iload 4, 2) := by decide +kernel
theorem dX5_digest_267 : decode cX5_digest 267 = .ok (.iconst 2, 1) := by decide +kernel
theorem dX5_digest_268 : decode cX5_digest 268 = .ok (.if_icmp .gt 27, 3) := by decide +kernel
theorem dX5_digest_271 : decode cX5_digest 271 = .ok (.ldc2_w 293, 3) := by decide +kernel
theorem dX5_digest_274 : decode cX5_digest 274 = .ok (.lload_n 1, 1) := by decide +kernel
theorem dX5_digest_275 : decode cX5_digest 275 = .ok (.lmul, 1) := by decide +kernel
theorem dX5_digest_276 : decode cX5_digest 276 = .ok (.aload_n 0, 1) := by decide +kernel
theorem dX5_digest_277 : decode cX5_digest 277 = .ok (.getfield 10, 3) := by decide +kernel
theorem dX5_digest_280 : decode cX5_digest 280 = .ok (.iload_n 3, 1) := by decide +kernel
theorem dX5_digest_281 : decode cX5_digest 281 = .ok (.iload 4, 2) := by decide +kernel
theorem dX5_digest_283 : decode cX5_digest 283 = .ok (.invokevirtual 250, 3) := by decide +kernel
theorem dX5_digest_286 : decode cX5_digest 286 = .ok (.i2l, 1) := by decide +kernel
theorem dX5_digest_287 : decode cX5_digest 287 = .ok (.ladd, 1) := by decide +kernel
theorem dX5_digest_288 : decode cX5_digest 288 = .ok (.lstore_n 1, 1) := by decide +kernel
theorem dX5_digest_289 : decode cX5_digest 289 = .ok (.iinc 4 1, 3) := by decide +kernel
theorem dX5_digest_292 : decode cX5_digest 292 = .ok (.goto (-27), 3) := by decide +kernel
theorem dX5_digest_295 : decode cX5_digest 295 = .ok (.iinc 3 1, 3) := by decide +kernel
theorem dX5_digest_298 : decode cX5_digest 298 = .ok (.goto (-47), 3) := by decide +kernel
theorem dX5_digest_301 : decode cX5_digest 301 = .ok (.ldc2_w 293, 3) := by decide +kernel
theorem dX5_digest_304 : decode cX5_digest 304 = .ok (.lload_n 1, 1) := by decide +kernel
theorem dX5_digest_305 : decode cX5_digest 305 = .ok (.lmul, 1) := by decide +kernel
theorem dX5_digest_306 : decode cX5_digest 306 = .ok (.aload_n 0, 1) := by decide +kernel
theorem dX5_digest_307 : decode cX5_digest 307 = .ok (.invokevirtual 301, 3) := by decide +kernel
theorem dX5_digest_310 : decode cX5_digest 310 = .ok (.i2l, 1) := by decide +kernel
theorem dX5_digest_311 : decode cX5_digest 311 = .ok (.ladd, 1) := by decide +kernel
theorem dX5_digest_312 : decode cX5_digest 312 = .ok (.lstore_n 1, 1) := by decide +kernel
theorem dX5_digest_313 : decode cX5_digest 313 = .ok (.ldc2_w 293, 3) := by decide +kernel
theorem dX5_digest_316 : decode cX5_digest 316 = .ok (.lload_n 1, 1) := by decide +kernel
theorem dX5_digest_317 : decode cX5_digest 317 = .ok (.lmul, 1) := by decide +kernel
theorem dX5_digest_318 : decode cX5_digest 318 = .ok (.aload_n 0, 1) := by decide +kernel
theorem dX5_digest_319 : decode cX5_digest 319 = .ok (.invokevirtual 304, 3) := by decide +kernel
theorem dX5_digest_322 : decode cX5_digest 322 = .ok (.i2l, 1) := by decide +kernel
theorem dX5_digest_323 : decode cX5_digest 323 = .ok (.ladd, 1) := by decide +kernel
theorem dX5_digest_324 : decode cX5_digest 324 = .ok (.lstore_n 1, 1) := by decide +kernel
theorem dX5_digest_325 : decode cX5_digest 325 = .ok (.ldc2_w 293, 3) := by decide +kernel
theorem dX5_digest_328 : decode cX5_digest 328 = .ok (.lload_n 1, 1) := by decide +kernel
theorem dX5_digest_329 : decode cX5_digest 329 = .ok (.lmul, 1) := by decide +kernel
theorem dX5_digest_330 : decode cX5_digest 330 = .ok (.aload_n 0, 1) := by decide +kernel
theorem dX5_digest_331 : decode cX5_digest 331 = .ok (.getfield 22, 3) := by decide +kernel
theorem dX5_digest_334 : decode cX5_digest 334 = .ok (.getfield 285, 3) := by decide +kernel
theorem dX5_digest_337 : decode cX5_digest 337 = .ok (.i2l, 1) := by decide +kernel
theorem dX5_digest_338 : decode cX5_digest 338 = .ok (.ladd, 1) := by decide +kernel
theorem dX5_digest_339 : decode cX5_digest 339 = .ok (.lstore_n 1, 1) := by decide +kernel
theorem dX5_digest_340 : decode cX5_digest 340 = .ok (.lload_n 1, 1) := by decide +kernel
theorem dX5_digest_341 : decode cX5_digest 341 = .ok (.lreturn, 1) := by decide +kernel
theorem dX5_isWithin_0 : decode cX5_isWithin 0 = .ok (.iload_n 0, 1) := by decide +kernel
theorem dX5_isWithin_1 : decode cX5_isWithin 1 = .ok (.iload_n 1, 1) := by decide +kernel
theorem dX5_isWithin_2 : decode cX5_isWithin 2 = .ok (.if_icmp .lt 12, 3) := by decide +kernel
theorem dX5_isWithin_5 : decode cX5_isWithin 5 = .ok (.iload_n 0, 1) := by decide +kernel
theorem dX5_isWithin_6 : decode cX5_isWithin 6 = .ok (.iload_n 2, 1) := by decide +kernel
theorem dX5_isWithin_7 : decode cX5_isWithin 7 = .ok (.if_icmp .gt 7, 3) := by decide +kernel
theorem dX5_isWithin_10 : decode cX5_isWithin 10 = .ok (.iconst 1, 1) := by decide +kernel
theorem dX5_isWithin_11 : decode cX5_isWithin 11 = .ok (.goto 4, 3) := by decide +kernel
theorem dX5_isWithin_14 : decode cX5_isWithin 14 = .ok (.iconst 0, 1) := by decide +kernel
theorem dX5_isWithin_15 : decode cX5_isWithin 15 = .ok (.ireturn, 1) := by decide +kernel
theorem dX5_isChannel_0 : decode cX5_isChannel 0 = .ok (.iload_n 0, 1) := by decide +kernel
theorem dX5_isChannel_1 : decode cX5_isChannel 1 = .ok (.ifCond .lt 13, 3) := by decide +kernel
theorem dX5_isChannel_4 : decode cX5_isChannel 4 = .ok (.iload_n 0, 1) := by decide +kernel
theorem dX5_isChannel_5 : decode cX5_isChannel 5 = .ok (.bipush 64, 2) := by decide +kernel
theorem dX5_isChannel_7 : decode cX5_isChannel 7 = .ok (.if_icmp .ge 7, 3) := by decide +kernel
theorem dX5_isChannel_10 : decode cX5_isChannel 10 = .ok (.iconst 1, 1) := by decide +kernel
theorem dX5_isChannel_11 : decode cX5_isChannel 11 = .ok (.goto 4, 3) := by decide +kernel
theorem dX5_isChannel_14 : decode cX5_isChannel 14 = .ok (.iconst 0, 1) := by decide +kernel
theorem dX5_isChannel_15 : decode cX5_isChannel 15 = .ok (.ireturn, 1) := by decide +kernel
theorem dX5_isLevel_0 : decode cX5_isLevel 0 = .ok (.iload_n 0, 1) := by decide +kernel
theorem dX5_isLevel_1 : decode cX5_isLevel 1 = .ok (.ifCond .lt 13, 3) := by decide +kernel
theorem dX5_isLevel_4 : decode cX5_isLevel 4 = .ok (.iload_n 0, 1) := by decide +kernel
theorem dX5_isLevel_5 : decode cX5_isLevel 5 = .ok (.bipush 60, 2) := by decide +kernel
theorem dX5_isLevel_7 : decode cX5_isLevel 7 = .ok (.if_icmp .gt 7, 3) := by decide +kernel
theorem dX5_isLevel_10 : decode cX5_isLevel 10 = .ok (.iconst 1, 1) := by decide +kernel
theorem dX5_isLevel_11 : decode cX5_isLevel 11 = .ok (.goto 4, 3) := by decide +kernel
theorem dX5_isLevel_14 : decode cX5_isLevel 14 = .ok (.iconst 0, 1) := by decide +kernel
theorem dX5_isLevel_15 : decode cX5_isLevel 15 = .ok (.ireturn, 1) := by decide +kernel
theorem dX5_isIn_0 : decode cX5_isIn 0 = .ok (.lload_n 1, 1) := by decide +kernel
theorem dX5_isIn_1 : decode cX5_isIn 1 = .ok (.iload_n 0, 1) := by decide +kernel
theorem dX5_isIn_2 : decode cX5_isIn 2 = .ok (.lushr, 1) := by decide +kernel
theorem dX5_isIn_3 : decode cX5_isIn 3 = .ok (.lconst 1, 1) := by decide +kernel
theorem dX5_isIn_4 : decode cX5_isIn 4 = .ok (.land, 1) := by decide +kernel
theorem dX5_isIn_5 : decode cX5_isIn 5 = .ok (.lconst 0, 1) := by decide +kernel
theorem dX5_isIn_6 : decode cX5_isIn 6 = .ok (.lcmp, 1) := by decide +kernel
theorem dX5_isIn_7 : decode cX5_isIn 7 = .ok (.ifCond .eq 7, 3) := by decide +kernel
theorem dX5_isIn_10 : decode cX5_isIn 10 = .ok (.iconst 1, 1) := by decide +kernel
theorem dX5_isIn_11 : decode cX5_isIn 11 = .ok (.goto 4, 3) := by decide +kernel
theorem dX5_isIn_14 : decode cX5_isIn 14 = .ok (.iconst 0, 1) := by decide +kernel
theorem dX5_isIn_15 : decode cX5_isIn 15 = .ok (.ireturn, 1) := by decide +kernel
theorem dX5_needChannel_0 : decode cX5_needChannel 0 = .ok (.iload_n 0, 1) := by decide +kernel
theorem dX5_needChannel_1 : decode cX5_needChannel 1 = .ok (.invokestatic 51, 3) := by decide +kernel
theorem dX5_needChannel_4 : decode cX5_needChannel 4 = .ok (.ifCond .ne 14, 3) := by decide +kernel
theorem dX5_needChannel_7 : decode cX5_needChannel 7 = .ok (.new 62, 3) := by decide +kernel
theorem dX5_needChannel_10 : decode cX5_needChannel 10 = .ok (.dup, 1) := by decide +kernel
theorem dX5_needChannel_11 : decode cX5_needChannel 11 = .ok (.ldc_w 307, 3) := by decide +kernel
theorem dX5_needChannel_14 : decode cX5_needChannel 14 = .ok (.invokespecial 66, 3) := by decide +kernel
theorem dX5_needChannel_17 : decode cX5_needChannel 17 = .ok (.athrow, 1) := by decide +kernel
theorem dX5_needChannel_18 : decode cX5_needChannel 18 = .ok (.return_, 1) := by decide +kernel
theorem dX5_needLevel_0 : decode cX5_needLevel 0 = .ok (.iload_n 0, 1) := by decide +kernel
theorem dX5_needLevel_1 : decode cX5_needLevel 1 = .ok (.invokestatic 55, 3) := by decide +kernel
theorem dX5_needLevel_4 : decode cX5_needLevel 4 = .ok (.ifCond .ne 14, 3) := by decide +kernel
theorem dX5_needLevel_7 : decode cX5_needLevel 7 = .ok (.new 62, 3) := by decide +kernel
theorem dX5_needLevel_10 : decode cX5_needLevel 10 = .ok (.dup, 1) := by decide +kernel
theorem dX5_needLevel_11 : decode cX5_needLevel 11 = .ok (.ldc_w 309, 3) := by decide +kernel
theorem dX5_needLevel_14 : decode cX5_needLevel 14 = .ok (.invokespecial 66, 3) := by decide +kernel
theorem dX5_needLevel_17 : decode cX5_needLevel 17 = .ok (.athrow, 1) := by decide +kernel
theorem dX5_needLevel_18 : decode cX5_needLevel 18 = .ok (.return_, 1) := by decide +kernel
theorem dX5_needMarks_0 : decode cX5_needMarks 0 = .ok (.iload_n 0, 1) := by decide +kernel
theorem dX5_needMarks_1 : decode cX5_needMarks 1 = .ok (.iconst 1, 1) := by decide +kernel
theorem dX5_needMarks_2 : decode cX5_needMarks 2 = .ok (.iload_n 1, 1) := by decide +kernel
theorem dX5_needMarks_3 : decode cX5_needMarks 3 = .ok (.invokestatic 112, 3) := by decide +kernel
theorem dX5_needMarks_6 : decode cX5_needMarks 6 = .ok (.ifCond .ne 14, 3) := by decide +kernel
theorem dX5_needMarks_9 : decode cX5_needMarks 9 = .ok (.new 62, 3) := by decide +kernel
theorem dX5_needMarks_12 : decode cX5_needMarks 12 = .ok (.dup, 1) := by decide +kernel
theorem dX5_needMarks_13 : decode cX5_needMarks 13 = .ok (.ldc_w 311, 3) := by decide +kernel
theorem dX5_needMarks_16 : decode cX5_needMarks 16 = .ok (.invokespecial 66, 3) := by decide +kernel
theorem dX5_needMarks_19 : decode cX5_needMarks 19 = .ok (.athrow, 1) := by decide +kernel
theorem dX5_needMarks_20 : decode cX5_needMarks 20 = .ok (.return_, 1) := by decide +kernel
theorem dX5_needRoomForCarrier_0 : decode cX5_needRoomForCarrier 0 = .ok (.aload_n 0, 1) := by decide +kernel
theorem dX5_needRoomForCarrier_1 : decode cX5_needRoomForCarrier 1 = .ok (.getfield 10, 3) := by decide +kernel
theorem dX5_needRoomForCarrier_4 : decode cX5_needRoomForCarrier 4 = .ok (.getfield 80, 3) := by decide +kernel
theorem dX5_needRoomForCarrier_7 : decode cX5_needRoomForCarrier 7 = .ok (.bipush 10, 2) := by decide +kernel
theorem dX5_needRoomForCarrier_9 : decode cX5_needRoomForCarrier 9 = .ok (.if_icmp .lt 14, 3) := by decide +kernel
theorem dX5_needRoomForCarrier_12 : decode cX5_needRoomForCarrier 12 = .ok (.new 104, 3) := by decide +kernel
theorem dX5_needRoomForCarrier_15 : decode cX5_needRoomForCarrier 15 = .ok (.dup, 1) := by decide +kernel
theorem dX5_needRoomForCarrier_16 : decode cX5_needRoomForCarrier 16 = .ok (.ldc_w 313, 3) := by decide +kernel
theorem dX5_needRoomForCarrier_19 : decode cX5_needRoomForCarrier 19 = .ok (.invokespecial 108, 3) := by decide +kernel
theorem dX5_needRoomForCarrier_22 : decode cX5_needRoomForCarrier 22 = .ok (.athrow, 1) := by decide +kernel
theorem dX5_needRoomForCarrier_23 : decode cX5_needRoomForCarrier 23 = .ok (.return_, 1) := by decide +kernel
theorem dX5_needCarrier_0 : decode cX5_needCarrier 0 = .ok (.aload_n 0, 1) := by decide +kernel
theorem dX5_needCarrier_1 : decode cX5_needCarrier 1 = .ok (.getfield 10, 3) := by decide +kernel
theorem dX5_needCarrier_4 : decode cX5_needCarrier 4 = .ok (.iload_n 1, 1) := by decide +kernel
theorem dX5_needCarrier_5 : decode cX5_needCarrier 5 = .ok (.invokevirtual 315, 3) := by decide +kernel
theorem dX5_needCarrier_8 : decode cX5_needCarrier 8 = .ok (.ifCond .ne 14, 3) := by decide +kernel
theorem dX5_needCarrier_11 : decode cX5_needCarrier 11 = .ok (.new 157, 3) := by decide +kernel
theorem dX5_needCarrier_14 : decode cX5_needCarrier 14 = .ok (.dup, 1) := by decide +kernel
theorem dX5_needCarrier_15 : decode cX5_needCarrier 15 = .ok (.ldc_w 318, 3) := by decide +kernel
theorem dX5_needCarrier_18 : decode cX5_needCarrier 18 = .ok (.invokespecial 161, 3) := by decide +kernel
theorem dX5_needCarrier_21 : decode cX5_needCarrier 21 = .ok (.athrow, 1) := by decide +kernel
theorem dX5_needCarrier_22 : decode cX5_needCarrier 22 = .ok (.return_, 1) := by decide +kernel
theorem dX5_needMixer_0 : decode cX5_needMixer 0 = .ok (.aload_n 0, 1) := by decide +kernel
theorem dX5_needMixer_1 : decode cX5_needMixer 1 = .ok (.getfield 10, 3) := by decide +kernel
theorem dX5_needMixer_4 : decode cX5_needMixer 4 = .ok (.iload_n 1, 1) := by decide +kernel
theorem dX5_needMixer_5 : decode cX5_needMixer 5 = .ok (.invokevirtual 320, 3) := by decide +kernel
theorem dX5_needMixer_8 : decode cX5_needMixer 8 = .ok (.ifCond .ne 14, 3) := by decide +kernel
theorem dX5_needMixer_11 : decode cX5_needMixer 11 = .ok (.new 157, 3) := by decide +kernel
theorem dX5_needMixer_14 : decode cX5_needMixer 14 = .ok (.dup, 1) := by decide +kernel
theorem dX5_needMixer_15 : decode cX5_needMixer 15 = .ok (.ldc_w 323, 3) := by decide +kernel
theorem dX5_needMixer_18 : decode cX5_needMixer 18 = .ok (.invokespecial 161, 3) := by decide +kernel
theorem dX5_needMixer_21 : decode cX5_needMixer 21 = .ok (.athrow, 1) := by decide +kernel
theorem dX5_needMixer_22 : decode cX5_needMixer 22 = .ok (.return_, 1) := by decide +kernel
theorem dX5_needSetOfCarriers_0 : decode cX5_needSetOfCarriers 0 = .ok (.iload_n 1, 1) := by decide +kernel
theorem dX5_needSetOfCarriers_1 : decode cX5_needSetOfCarriers 1 = .ok (.ifCond .lt 14, 3) := by decide +kernel
theorem dX5_needSetOfCarriers_4 : decode cX5_needSetOfCarriers 4 = .ok (.iload_n 1, 1) := by decide +kernel
theorem dX5_needSetOfCarriers_5 : decode cX5_needSetOfCarriers 5 = .ok (.aload_n 0, 1) := by decide +kernel
theorem dX5_needSetOfCarriers_6 : decode cX5_needSetOfCarriers 6 = .ok (.getfield 10, 3) := by decide +kernel
theorem dX5_needSetOfCarriers_9 : decode cX5_needSetOfCarriers 9 = .ok (.invokevirtual 146, 3) := by decide +kernel
theorem dX5_needSetOfCarriers_12 : decode cX5_needSetOfCarriers 12 = .ok (.if_icmp .le 14, 3) := by decide +kernel
theorem dX5_needSetOfCarriers_15 : decode cX5_needSetOfCarriers 15 = .ok (.new 62, 3) := by decide +kernel
theorem dX5_needSetOfCarriers_18 : decode cX5_needSetOfCarriers 18 = .ok (.dup, 1) := by decide +kernel
theorem dX5_needSetOfCarriers_19 : decode cX5_needSetOfCarriers 19 = .ok (.ldc_w 325, 3) := by decide +kernel
theorem dX5_needSetOfCarriers_22 : decode cX5_needSetOfCarriers 22 = .ok (.invokespecial 66, 3) := by decide +kernel
theorem dX5_needSetOfCarriers_25 : decode cX5_needSetOfCarriers 25 = .ok (.athrow, 1) := by decide +kernel
theorem dX5_needSetOfCarriers_26 : decode cX5_needSetOfCarriers 26 = .ok (.return_, 1) := by decide +kernel
theorem dX5_lowestOf_0 : decode cX5_lowestOf 0 = .ok (.iconst 0, 1) := by decide +kernel
theorem dX5_lowestOf_1 : decode cX5_lowestOf 1 = .ok (.istore_n 2, 1) := by decide +kernel
theorem dX5_lowestOf_2 : decode cX5_lowestOf 2 = .ok (.iload_n 2, 1) := by decide +kernel
theorem dX5_lowestOf_3 : decode cX5_lowestOf 3 = .ok (.bipush 64, 2) := by decide +kernel
theorem dX5_lowestOf_5 : decode cX5_lowestOf 5 = .ok (.if_icmp .ge 19, 3) := by decide +kernel
theorem dX5_lowestOf_8 : decode cX5_lowestOf 8 = .ok (.iload_n 2, 1) := by decide +kernel
theorem dX5_lowestOf_9 : decode cX5_lowestOf 9 = .ok (.lload_n 0, 1) := by decide +kernel
theorem dX5_lowestOf_10 : decode cX5_lowestOf 10 = .ok (.invokestatic 327, 3) := by decide +kernel
theorem dX5_lowestOf_13 : decode cX5_lowestOf 13 = .ok (.ifCond .eq 5, 3) := by decide +kernel
theorem dX5_lowestOf_16 : decode cX5_lowestOf 16 = .ok (.iload_n 2, 1) := by decide +kernel
theorem dX5_lowestOf_17 : decode cX5_lowestOf 17 = .ok (.ireturn, 1) := by decide +kernel
theorem dX5_lowestOf_18 : decode cX5_lowestOf 18 = .ok (.iinc 2 1, 3) := by decide +kernel
theorem dX5_lowestOf_21 : decode cX5_lowestOf 21 = .ok (.goto (-19), 3) := by decide +kernel
theorem dX5_lowestOf_24 : decode cX5_lowestOf 24 = .ok (.iconst (-1), 1) := by decide +kernel
theorem dX5_lowestOf_25 : decode cX5_lowestOf 25 = .ok (.ireturn, 1) := by decide +kernel
theorem dX5_falloutOf_0 : decode cX5_falloutOf 0 = .ok (.aload_n 0, 1) := by decide +kernel
theorem dX5_falloutOf_1 : decode cX5_falloutOf 1 = .ok (.getfield 29, 3) := by decide +kernel
theorem dX5_falloutOf_4 : decode cX5_falloutOf 4 = .ok (.aload_n 0, 1) := by decide +kernel
theorem dX5_falloutOf_5 : decode cX5_falloutOf 5 = .ok (.getfield 10, 3) := by decide +kernel
theorem dX5_falloutOf_8 : decode cX5_falloutOf 8 = .ok (.iload_n 1, 1) := by decide +kernel
theorem dX5_falloutOf_9 : decode cX5_falloutOf 9 = .ok (.invokevirtual 150, 3) := by decide +kernel
theorem dX5_falloutOf_12 : decode cX5_falloutOf 12 = .ok (.aload_n 0, 1) := by decide +kernel
theorem dX5_falloutOf_13 : decode cX5_falloutOf 13 = .ok (.getfield 29, 3) := by decide +kernel
theorem dX5_falloutOf_16 : decode cX5_falloutOf 16 = .ok (.invokevirtual 331, 3) := by decide +kernel
theorem dX5_falloutOf_19 : decode cX5_falloutOf 19 = .ok (.lreturn, 1) := by decide +kernel
theorem dX5_standsClean_0 : decode cX5_standsClean 0 = .ok (.aload_n 0, 1) := by decide +kernel
theorem dX5_standsClean_1 : decode cX5_standsClean 1 = .ok (.getfield 36, 3) := by decide +kernel
theorem dX5_standsClean_4 : decode cX5_standsClean 4 = .ok (.aload_n 0, 1) := by decide +kernel
theorem dX5_standsClean_5 : decode cX5_standsClean 5 = .ok (.getfield 10, 3) := by decide +kernel
theorem dX5_standsClean_8 : decode cX5_standsClean 8 = .ok (.invokevirtual 332, 3) := by decide +kernel
theorem dX5_standsClean_11 : decode cX5_standsClean 11 = .ok (.iconst 0, 1) := by decide +kernel
theorem dX5_standsClean_12 : decode cX5_standsClean 12 = .ok (.istore_n 2, 1) := by decide +kernel
theorem dX5_standsClean_13 : decode cX5_standsClean 13 = .ok (.iload_n 2, 1) := by decide +kernel
theorem dX5_standsClean_14 : decode cX5_standsClean 14 = .ok (.aload_n 0, 1) := by decide +kernel
theorem dX5_standsClean_15 : decode cX5_standsClean 15 = .ok (.getfield 10, 3) := by decide +kernel
theorem dX5_standsClean_18 : decode cX5_standsClean 18 = .ok (.getfield 80, 3) := by decide +kernel
theorem dX5_standsClean_21 : decode cX5_standsClean 21 = .ok (.if_icmp .ge 46, 3) := by decide +kernel
theorem dX5_standsClean_24 : decode cX5_standsClean 24 = .ok (.iload_n 2, 1) := by decide +kernel
theorem dX5_standsClean_25 : decode cX5_standsClean 25 = .ok (.iload_n 1, 1) := by decide +kernel
theorem dX5_standsClean_26 : decode cX5_standsClean 26 = .ok (.i2l, 1) := by decide +kernel
theorem dX5_standsClean_27 : decode cX5_standsClean 27 = .ok (.invokestatic 327, 3) := by decide +kernel
theorem dX5_standsClean_30 : decode cX5_standsClean 30 = .ok (.ifCond .eq 31, 3) := by decide +kernel
theorem dX5_standsClean_33 : decode cX5_standsClean 33 = .ok (.aload_n 0, 1) := by decide +kernel
theorem dX5_standsClean_34 : decode cX5_standsClean 34 = .ok (.getfield 36, 3) := by decide +kernel
theorem dX5_standsClean_37 : decode cX5_standsClean 37 = .ok (.aload_n 0, 1) := by decide +kernel
theorem dX5_standsClean_38 : decode cX5_standsClean 38 = .ok (.getfield 10, 3) := by decide +kernel
theorem dX5_standsClean_41 : decode cX5_standsClean 41 = .ok (.iload_n 2, 1) := by decide +kernel
theorem dX5_standsClean_42 : decode cX5_standsClean 42 = .ok (.invokevirtual 92, 3) := by decide +kernel
theorem dX5_standsClean_45 : decode cX5_standsClean 45 = .ok (.aload_n 0, 1) := by decide +kernel
theorem dX5_standsClean_46 : decode cX5_standsClean 46 = .ok (.getfield 10, 3) := by decide +kernel
theorem dX5_standsClean_49 : decode cX5_standsClean 49 = .ok (.iload_n 2, 1) := by decide +kernel
theorem dX5_standsClean_50 : decode cX5_standsClean 50 = .ok (.invokevirtual 143, 3) := by decide +kernel
theorem dX5_standsClean_53 : decode cX5_standsClean 53 = .ok (.invokevirtual 335, 3) := by decide +kernel
theorem dX5_standsClean_56 : decode cX5_standsClean 56 = .ok (.ifCond .ne 5, 3) := by decide +kernel
theorem dX5_standsClean_59 : decode cX5_standsClean 59 = .ok (.iconst 0, 1) := by decide +kernel
theorem dX5_standsClean_60 : decode cX5_standsClean 60 = .ok (.ireturn, 1) := by decide +kernel
theorem dX5_standsClean_61 : decode cX5_standsClean 61 = .ok (.iinc 2 1, 3) := by decide +kernel
theorem dX5_standsClean_64 : decode cX5_standsClean 64 = .ok (.goto (-51), 3) := by decide +kernel
theorem dX5_standsClean_67 : decode cX5_standsClean 67 = .ok (.iconst 1, 1) := by decide +kernel
theorem dX5_standsClean_68 : decode cX5_standsClean 68 = .ok (.ireturn, 1) := by decide +kernel
theorem dX5_openChannels_0 : decode cX5_openChannels 0 = .ok (.aload_n 0, 1) := by decide +kernel
theorem dX5_openChannels_1 : decode cX5_openChannels 1 = .ok (.aload_n 0, 1) := by decide +kernel
theorem dX5_openChannels_2 : decode cX5_openChannels 2 = .ok (.getfield 10, 3) := by decide +kernel
theorem dX5_openChannels_5 : decode cX5_openChannels 5 = .ok (.invokevirtual 146, 3) := by decide +kernel
theorem dX5_openChannels_8 : decode cX5_openChannels 8 = .ok (.invokevirtual 176, 3) := by decide +kernel
theorem dX5_openChannels_11 : decode cX5_openChannels 11 = .ok (.ifCond .ne 5, 3) := by decide +kernel
theorem dX5_openChannels_14 : decode cX5_openChannels 14 = .ok (.lconst 0, 1) := by decide +kernel
theorem dX5_openChannels_15 : decode cX5_openChannels 15 = .ok (.lreturn, 1) := by decide +kernel
theorem dX5_openChannels_16 : decode cX5_openChannels 16 = .ok (.lconst 0, 1) := by decide +kernel
theorem dX5_openChannels_17 : decode cX5_openChannels 17 = .ok (.lstore_n 2, 1) := by decide +kernel
theorem dX5_openChannels_18 : decode cX5_openChannels 18 = .ok (.iconst 0, 1) := by decide +kernel
theorem dX5_openChannels_19 : decode cX5_openChannels 19 = .ok (.istore 4, 2) := by decide +kernel
theorem dX5_openChannels_21 : decode cX5_openChannels 21 = .ok (.iload 4, 2) := by decide +kernel
theorem dX5_openChannels_23 : decode cX5_openChannels 23 = .ok (.bipush 64, 2) := by decide +kernel
theorem dX5_openChannels_25 : decode cX5_openChannels 25 = .ok (.if_icmp .ge 36, 3) := by decide +kernel
theorem dX5_openChannels_28 : decode cX5_openChannels 28 = .ok (.aload_n 0, 1) := by decide +kernel
theorem dX5_openChannels_29 : decode cX5_openChannels 29 = .ok (.getfield 36, 3) := by decide +kernel
theorem dX5_openChannels_32 : decode cX5_openChannels 32 = .ok (.iload 4, 2) := by decide +kernel
theorem dX5_openChannels_34 : decode cX5_openChannels 34 = .ok (.iload_n 1, 1) := by decide +kernel
theorem dX5_openChannels_35 : decode cX5_openChannels 35 = .ok (.invokevirtual 335, 3) := by decide +kernel
theorem dX5_openChannels_38 : decode cX5_openChannels 38 = .ok (.ifCond .eq 17, 3) := by decide +kernel
theorem dX5_openChannels_41 : decode cX5_openChannels 41 = .ok (.lload_n 2, 1) := by decide +kernel
theorem dX5_openChannels_42 : decode cX5_openChannels 42 = .ok (.lconst 1, 1) := by decide +kernel
theorem dX5_openChannels_43 : decode cX5_openChannels 43 = .ok (.iload 4, 2) := by decide +kernel
theorem dX5_openChannels_45 : decode cX5_openChannels 45 = .ok (.lshl, 1) := by decide +kernel
theorem dX5_openChannels_46 : decode cX5_openChannels 46 = .ok (.lor, 1) := by decide +kernel
theorem dX5_openChannels_47 : decode cX5_openChannels 47 = .ok (.lstore_n 2, 1) := by decide +kernel
theorem dX5_openChannels_48 : decode cX5_openChannels 48 = .ok (.aload_n 0, 1) := by decide +kernel
theorem dX5_openChannels_49 : decode cX5_openChannels 49 = .ok (.getfield 36, 3) := by decide +kernel
theorem dX5_openChannels_52 : decode cX5_openChannels 52 = .ok (.invokevirtual 339, 3) := by decide +kernel
theorem dX5_openChannels_55 : decode cX5_openChannels 55 = .ok (.iinc 4 1, 3) := by decide +kernel
theorem dX5_openChannels_58 : decode cX5_openChannels 58 = .ok (.goto (-37), 3) := by decide +kernel
theorem dX5_openChannels_61 : decode cX5_openChannels 61 = .ok (.lload_n 2, 1) := by decide +kernel
theorem dX5_openChannels_62 : decode cX5_openChannels 62 = .ok (.lreturn, 1) := by decide +kernel
theorem dX5_findBestRuler_0 : decode cX5_findBestRuler 0 = .ok (.iconst 0, 1) := by decide +kernel
theorem dX5_findBestRuler_1 : decode cX5_findBestRuler 1 = .ok (.istore_n 2, 1) := by decide +kernel
theorem dX5_findBestRuler_2 : decode cX5_findBestRuler 2 = .ok (.iload_n 2, 1) := by decide +kernel
theorem dX5_findBestRuler_3 : decode cX5_findBestRuler 3 = .ok (.bipush 40, 2) := by decide +kernel
theorem dX5_findBestRuler_5 : decode cX5_findBestRuler 5 = .ok (.if_icmp .gt 21, 3) := by decide +kernel
theorem dX5_findBestRuler_8 : decode cX5_findBestRuler 8 = .ok (.aload_n 0, 1) := by decide +kernel
theorem dX5_findBestRuler_9 : decode cX5_findBestRuler 9 = .ok (.iload_n 1, 1) := by decide +kernel
theorem dX5_findBestRuler_10 : decode cX5_findBestRuler 10 = .ok (.iload_n 2, 1) := by decide +kernel
theorem dX5_findBestRuler_11 : decode cX5_findBestRuler 11 = .ok (.iconst 1, 1) := by decide +kernel
theorem dX5_findBestRuler_12 : decode cX5_findBestRuler 12 = .ok (.invokevirtual 202, 3) := by decide +kernel
theorem dX5_findBestRuler_15 : decode cX5_findBestRuler 15 = .ok (.ifCond .le 5, 3) := by decide +kernel
theorem dX5_findBestRuler_18 : decode cX5_findBestRuler 18 = .ok (.iload_n 2, 1) := by decide +kernel
theorem dX5_findBestRuler_19 : decode cX5_findBestRuler 19 = .ok (.ireturn, 1) := by decide +kernel
theorem dX5_findBestRuler_20 : decode cX5_findBestRuler 20 = .ok (.iinc 2 1, 3) := by decide +kernel
theorem dX5_findBestRuler_23 : decode cX5_findBestRuler 23 = .ok (.goto (-21), 3) := by decide +kernel
theorem dX5_findBestRuler_26 : decode cX5_findBestRuler 26 = .ok (.iconst (-1), 1) := by decide +kernel
theorem dX5_findBestRuler_27 : decode cX5_findBestRuler 27 = .ok (.ireturn, 1) := by decide +kernel
theorem dX5_countRulers_0 : decode cX5_countRulers 0 = .ok (.aload_n 0, 1) := by decide +kernel
theorem dX5_countRulers_1 : decode cX5_countRulers 1 = .ok (.getfield 36, 3) := by decide +kernel
theorem dX5_countRulers_4 : decode cX5_countRulers 4 = .ok (.aload_n 0, 1) := by decide +kernel
theorem dX5_countRulers_5 : decode cX5_countRulers 5 = .ok (.getfield 10, 3) := by decide +kernel
theorem dX5_countRulers_8 : decode cX5_countRulers 8 = .ok (.invokevirtual 332, 3) := by decide +kernel
theorem dX5_countRulers_11 : decode cX5_countRulers 11 = .ok (.aload_n 0, 1) := by decide +kernel
theorem dX5_countRulers_12 : decode cX5_countRulers 12 = .ok (.getfield 36, 3) := by decide +kernel
theorem dX5_countRulers_15 : decode cX5_countRulers 15 = .ok (.iconst 0, 1) := by decide +kernel
theorem dX5_countRulers_16 : decode cX5_countRulers 16 = .ok (.bipush 60, 2) := by decide +kernel
theorem dX5_countRulers_18 : decode cX5_countRulers 18 = .ok (.invokevirtual 335, 3) := by decide +kernel
theorem dX5_countRulers_21 : decode cX5_countRulers 21 = .ok (.pop, 1) := by decide +kernel
theorem dX5_countRulers_22 : decode cX5_countRulers 22 = .ok (.iload_n 1, 1) := by decide +kernel
theorem dX5_countRulers_23 : decode cX5_countRulers 23 = .ok (.iconst 1, 1) := by decide +kernel
theorem dX5_countRulers_24 : decode cX5_countRulers 24 = .ok (.if_icmp .ne 13, 3) := by decide +kernel
theorem dX5_countRulers_27 : decode cX5_countRulers 27 = .ok (.iload_n 2, 1) := by decide +kernel
theorem dX5_countRulers_28 : decode cX5_countRulers 28 = .ok (.ifCond .ne 7, 3) := by decide +kernel
theorem dX5_countRulers_31 : decode cX5_countRulers 31 = .ok (.iconst 1, 1) := by decide +kernel
theorem dX5_countRulers_32 : decode cX5_countRulers 32 = .ok (.goto 4, 3) := by decide +kernel
theorem dX5_countRulers_35 : decode cX5_countRulers 35 = .ok (.iconst 0, 1) := by decide +kernel
theorem dX5_countRulers_36 : decode cX5_countRulers 36 = .ok (.ireturn, 1) := by decide +kernel
theorem dX5_countRulers_37 : decode cX5_countRulers 37 = .ok (.aload_n 0, 1) := by decide +kernel
theorem dX5_countRulers_38 : decode cX5_countRulers 38 = .ok (.getfield 36, 3) := by decide +kernel
theorem dX5_countRulers_41 : decode cX5_countRulers 41 = .ok (.iload_n 2, 1) := by decide +kernel
theorem dX5_countRulers_42 : decode cX5_countRulers 42 = .ok (.bipush 60, 2) := by decide +kernel
theorem dX5_countRulers_44 : decode cX5_countRulers 44 = .ok (.invokevirtual 335, 3) := by decide +kernel
theorem dX5_countRulers_47 : decode cX5_countRulers 47 = .ok (.ifCond .ne 5, 3) := by decide +kernel
theorem dX5_countRulers_50 : decode cX5_countRulers 50 = .ok (.iconst 0, 1) := by decide +kernel
theorem dX5_countRulers_51 : decode cX5_countRulers 51 = .ok (.ireturn, 1) := by decide +kernel
theorem dX5_countRulers_52 : decode cX5_countRulers 52 = .ok (.aload_n 0, 1) := by decide +kernel
theorem dX5_countRulers_53 : decode cX5_countRulers 53 = .ok (.getfield 36, 3) := by decide +kernel
theorem dX5_countRulers_56 : decode cX5_countRulers 56 = .ok (.iload_n 1, 1) := by decide +kernel
theorem dX5_countRulers_57 : decode cX5_countRulers 57 = .ok (.iconst 2, 1) := by decide +kernel
theorem dX5_countRulers_58 : decode cX5_countRulers 58 = .ok (.isub, 1) := by decide +kernel
theorem dX5_countRulers_59 : decode cX5_countRulers 59 = .ok (.aload_n 0, 1) := by decide +kernel
theorem dX5_countRulers_60 : decode cX5_countRulers 60 = .ok (.getfield 10, 3) := by decide +kernel
theorem dX5_countRulers_63 : decode cX5_countRulers 63 = .ok (.getfield 135, 3) := by decide +kernel
theorem dX5_countRulers_66 : decode cX5_countRulers 66 = .ok (.iload_n 2, 1) := by decide +kernel
theorem dX5_countRulers_67 : decode cX5_countRulers 67 = .ok (.iload_n 3, 1) := by decide +kernel
theorem dX5_countRulers_68 : decode cX5_countRulers 68 = .ok (.invokestatic 342, 3) := by decide +kernel
theorem dX5_countRulers_71 : decode cX5_countRulers 71 = .ok (.ireturn, 1) := by decide +kernel
theorem dX5_countInner_0 : decode cX5_countInner 0 = .ok (.iload_n 1, 1) := by decide +kernel
theorem dX5_countInner_1 : decode cX5_countInner 1 = .ok (.ifCond .gt 5, 3) := by decide +kernel
theorem dX5_countInner_4 : decode cX5_countInner 4 = .ok (.iconst 1, 1) := by decide +kernel
theorem dX5_countInner_5 : decode cX5_countInner 5 = .ok (.ireturn, 1) := by decide +kernel
theorem dX5_countInner_6 : decode cX5_countInner 6 = .ok (.iconst 0, 1) := by decide +kernel
theorem dX5_countInner_7 : decode cX5_countInner 7 = .ok (.istore 5, 2) := by decide +kernel
theorem dX5_countInner_9 : decode cX5_countInner 9 = .ok (.iload_n 3, 1) := by decide +kernel
theorem dX5_countInner_10 : decode cX5_countInner 10 = .ok (.iload_n 1, 1) := by decide +kernel
theorem dX5_countInner_11 : decode cX5_countInner 11 = .ok (.aload_n 0, 1) := by decide +kernel
theorem dX5_countInner_12 : decode cX5_countInner 12 = .ok (.getfield 346, 3) := by decide +kernel
theorem dX5_countInner_15 : decode cX5_countInner 15 = .ok (.imul, 1) := by decide +kernel
theorem dX5_countInner_16 : decode cX5_countInner 16 = .ok (.isub, 1) := by decide +kernel
theorem dX5_countInner_17 : decode cX5_countInner 17 = .ok (.istore 6, 2) := by decide +kernel
theorem dX5_countInner_19 : decode cX5_countInner 19 = .ok (.iload_n 2, 1) := by decide +kernel
theorem dX5_countInner_20 : decode cX5_countInner 20 = .ok (.istore 7, 2) := by decide +kernel
theorem dX5_countInner_22 : decode cX5_countInner 22 = .ok (.iload 7, 2) := by decide +kernel
theorem dX5_countInner_24 : decode cX5_countInner 24 = .ok (.iload 6, 2) := by decide +kernel
theorem dX5_countInner_26 : decode cX5_countInner 26 = .ok (.if_icmp .gt 63, 3) := by decide +kernel
theorem dX5_countInner_29 : decode cX5_countInner 29 = .ok (.iload 5, 2) := by decide +kernel
theorem dX5_countInner_31 : decode cX5_countInner 31 = .ok (.iload 4, 2) := by decide +kernel
theorem dX5_countInner_33 : decode cX5_countInner 33 = .ok (.if_icmp .ge 56, 3) := by decide +kernel
theorem dX5_countInner_36 : decode cX5_countInner 36 = .ok (.aload_n 0, 1) := by decide +kernel
theorem dX5_countInner_37 : decode cX5_countInner 37 = .ok (.iload 7, 2) := by decide +kernel
theorem dX5_countInner_39 : decode cX5_countInner 39 = .ok (.bipush 60, 2) := by decide +kernel
theorem dX5_countInner_41 : decode cX5_countInner 41 = .ok (.invokevirtual 335, 3) := by decide +kernel
theorem dX5_countInner_44 : decode cX5_countInner 44 = .ok (.ifCond .eq 39, 3) := by decide +kernel
theorem dX5_countInner_47 : decode cX5_countInner 47 = .ok (.iload 5, 2) := by decide +kernel
theorem dX5_countInner_49 : decode cX5_countInner 49 = .ok (.aload_n 0, 1) := by decide +kernel
theorem dX5_countInner_50 : decode cX5_countInner 50 = .ok (.iload_n 1, 1) := by decide +kernel
theorem dX5_countInner_51 : decode cX5_countInner 51 = .ok (.iconst 1, 1) := by decide +kernel
theorem dX5_countInner_52 : decode cX5_countInner 52 = .ok (.isub, 1) := by decide +kernel
theorem dX5_countInner_53 : decode cX5_countInner 53 = .ok (.iload 7, 2) := by decide +kernel
theorem dX5_countInner_55 : decode cX5_countInner 55 = .ok (.aload_n 0, 1) := by decide +kernel
theorem dX5_countInner_56 : decode cX5_countInner 56 = .ok (.getfield 346, 3) := by decide +kernel
theorem dX5_countInner_59 : decode cX5_countInner 59 = .ok (.iadd, 1) := by decide +kernel
theorem dX5_countInner_60 : decode cX5_countInner 60 = .ok (.iload_n 3, 1) := by decide +kernel
theorem dX5_countInner_61 : decode cX5_countInner 61 = .ok (.iload 4, 2) := by decide +kernel
theorem dX5_countInner_63 : decode cX5_countInner 63 = .ok (.iload 5, 2) := by decide +kernel
theorem dX5_countInner_65 : decode cX5_countInner 65 = .ok (.isub, 1) := by decide +kernel
theorem dX5_countInner_66 : decode cX5_countInner 66 = .ok (.invokestatic 342, 3) := by decide +kernel
theorem dX5_countInner_69 : decode cX5_countInner 69 = .ok (.iadd, 1) := by decide +kernel
theorem dX5_countInner_70 : decode cX5_countInner 70 = .ok (.istore 5, 2) := by decide +kernel
theorem dX5_countInner_72 : decode cX5_countInner 72 = .ok (.iload 5, 2) := by decide +kernel
theorem dX5_countInner_74 : decode cX5_countInner 74 = .ok (.iload 4, 2) := by decide +kernel
theorem dX5_countInner_76 : decode cX5_countInner 76 = .ok (.if_icmp .ge 7, 3) := by decide +kernel
theorem dX5_countInner_79 : decode cX5_countInner 79 = .ok (.aload_n 0, 1) := by decide +kernel
theorem dX5_countInner_80 : decode cX5_countInner 80 = .ok (.invokevirtual 339, 3) := by decide +kernel
theorem dX5_countInner_83 : decode cX5_countInner 83 = .ok (.iinc 7 1, 3) := by decide +kernel
theorem dX5_countInner_86 : decode cX5_countInner 86 = .ok (.goto (-64), 3) := by decide +kernel
theorem dX5_countInner_89 : decode cX5_countInner 89 = .ok (.iload 5, 2) := by decide +kernel
theorem dX5_countInner_91 : decode cX5_countInner 91 = .ok (.ireturn, 1) := by decide +kernel
theorem dX5_mixActive_0 : decode cX5_mixActive 0 = .ok (.iconst 0, 1) := by decide +kernel
theorem dX5_mixActive_1 : decode cX5_mixActive 1 = .ok (.istore_n 2, 1) := by decide +kernel
theorem dX5_mixActive_2 : decode cX5_mixActive 2 = .ok (.iload_n 2, 1) := by decide +kernel
theorem dX5_mixActive_3 : decode cX5_mixActive 3 = .ok (.aload_n 0, 1) := by decide +kernel
theorem dX5_mixActive_4 : decode cX5_mixActive 4 = .ok (.getfield 47, 3) := by decide +kernel
theorem dX5_mixActive_7 : decode cX5_mixActive 7 = .ok (.arraylength, 1) := by decide +kernel
theorem dX5_mixActive_8 : decode cX5_mixActive 8 = .ok (.if_icmp .ge 29, 3) := by decide +kernel
theorem dX5_mixActive_11 : decode cX5_mixActive 11 = .ok (.aload_n 0, 1) := by decide +kernel
theorem dX5_mixActive_12 : decode cX5_mixActive 12 = .ok (.getfield 47, 3) := by decide +kernel
theorem dX5_mixActive_15 : decode cX5_mixActive 15 = .ok (.iload_n 2, 1) := by decide +kernel
theorem dX5_mixActive_16 : decode cX5_mixActive 16 = .ok (.aload_n 0, 1) := by decide +kernel
theorem dX5_mixActive_17 : decode cX5_mixActive 17 = .ok (.aload_n 0, 1) := by decide +kernel
theorem dX5_mixActive_18 : decode cX5_mixActive 18 = .ok (.getfield 10, 3) := by decide +kernel
theorem dX5_mixActive_21 : decode cX5_mixActive 21 = .ok (.iload_n 2, 1) := by decide +kernel
theorem dX5_mixActive_22 : decode cX5_mixActive 22 = .ok (.invokevirtual 224, 3) := by decide +kernel
theorem dX5_mixActive_25 : decode cX5_mixActive 25 = .ok (.iload_n 1, 1) := by decide +kernel
theorem dX5_mixActive_26 : decode cX5_mixActive 26 = .ok (.iand, 1) := by decide +kernel
theorem dX5_mixActive_27 : decode cX5_mixActive 27 = .ok (.invokevirtual 169, 3) := by decide +kernel
theorem dX5_mixActive_30 : decode cX5_mixActive 30 = .ok (.lastore, 1) := by decide +kernel
theorem dX5_mixActive_31 : decode cX5_mixActive 31 = .ok (.iinc 2 1, 3) := by decide +kernel
theorem dX5_mixActive_34 : decode cX5_mixActive 34 = .ok (.goto (-32), 3) := by decide +kernel
theorem dX5_mixActive_37 : decode cX5_mixActive 37 = .ok (.return_, 1) := by decide +kernel
theorem dX5_mixersOn_0 : decode cX5_mixersOn 0 = .ok (.iconst 0, 1) := by decide +kernel
theorem dX5_mixersOn_1 : decode cX5_mixersOn 1 = .ok (.istore_n 2, 1) := by decide +kernel
theorem dX5_mixersOn_2 : decode cX5_mixersOn 2 = .ok (.iconst 0, 1) := by decide +kernel
theorem dX5_mixersOn_3 : decode cX5_mixersOn 3 = .ok (.istore_n 3, 1) := by decide +kernel
theorem dX5_mixersOn_4 : decode cX5_mixersOn 4 = .ok (.iload_n 3, 1) := by decide +kernel
theorem dX5_mixersOn_5 : decode cX5_mixersOn 5 = .ok (.aload_n 0, 1) := by decide +kernel
theorem dX5_mixersOn_6 : decode cX5_mixersOn 6 = .ok (.getfield 47, 3) := by decide +kernel
theorem dX5_mixersOn_9 : decode cX5_mixersOn 9 = .ok (.arraylength, 1) := by decide +kernel
theorem dX5_mixersOn_10 : decode cX5_mixersOn 10 = .ok (.if_icmp .ge 28, 3) := by decide +kernel
theorem dX5_mixersOn_13 : decode cX5_mixersOn 13 = .ok (.iload_n 1, 1) := by decide +kernel
theorem dX5_mixersOn_14 : decode cX5_mixersOn 14 = .ok (.aload_n 0, 1) := by decide +kernel
theorem dX5_mixersOn_15 : decode cX5_mixersOn 15 = .ok (.getfield 47, 3) := by decide +kernel
theorem dX5_mixersOn_18 : decode cX5_mixersOn 18 = .ok (.iload_n 3, 1) := by decide +kernel
theorem dX5_mixersOn_19 : decode cX5_mixersOn 19 = .ok (.laload, 1) := by decide +kernel
theorem dX5_mixersOn_20 : decode cX5_mixersOn 20 = .ok (.invokestatic 327, 3) := by decide +kernel
theorem dX5_mixersOn_23 : decode cX5_mixersOn 23 = .ok (.ifCond .eq 9, 3) := by decide +kernel
theorem dX5_mixersOn_26 : decode cX5_mixersOn 26 = .ok (.iload_n 2, 1) := by decide +kernel
theorem dX5_mixersOn_27 : decode cX5_mixersOn 27 = .ok (.iconst 1, 1) := by decide +kernel
theorem dX5_mixersOn_28 : decode cX5_mixersOn 28 = .ok (.iload_n 3, 1) := by decide +kernel
theorem dX5_mixersOn_29 : decode cX5_mixersOn 29 = .ok (.ishl, 1) := by decide +kernel
theorem dX5_mixersOn_30 : decode cX5_mixersOn 30 = .ok (.ior, 1) := by decide +kernel
theorem dX5_mixersOn_31 : decode cX5_mixersOn 31 = .ok (.istore_n 2, 1) := by decide +kernel
theorem dX5_mixersOn_32 : decode cX5_mixersOn 32 = .ok (.iinc 3 1, 3) := by decide +kernel
theorem dX5_mixersOn_35 : decode cX5_mixersOn 35 = .ok (.goto (-31), 3) := by decide +kernel
theorem dX5_mixersOn_38 : decode cX5_mixersOn 38 = .ok (.iload_n 2, 1) := by decide +kernel
theorem dX5_mixersOn_39 : decode cX5_mixersOn 39 = .ok (.ireturn, 1) := by decide +kernel
theorem dX5_countDiagnoses_0 : decode cX5_countDiagnoses 0 = .ok (.iconst 0, 1) := by decide +kernel
theorem dX5_countDiagnoses_1 : decode cX5_countDiagnoses 1 = .ok (.istore_n 1, 1) := by decide +kernel
theorem dX5_countDiagnoses_2 : decode cX5_countDiagnoses 2 = .ok (.iconst 0, 1) := by decide +kernel
theorem dX5_countDiagnoses_3 : decode cX5_countDiagnoses 3 = .ok (.istore_n 2, 1) := by decide +kernel
theorem dX5_countDiagnoses_4 : decode cX5_countDiagnoses 4 = .ok (.iload_n 2, 1) := by decide +kernel
theorem dX5_countDiagnoses_5 : decode cX5_countDiagnoses 5 = .ok (.aload_n 0, 1) := by decide +kernel
theorem dX5_countDiagnoses_6 : decode cX5_countDiagnoses 6 = .ok (.getfield 10, 3) := by decide +kernel
theorem dX5_countDiagnoses_9 : decode cX5_countDiagnoses 9 = .ok (.invokevirtual 253, 3) := by decide +kernel
theorem dX5_countDiagnoses_12 : decode cX5_countDiagnoses 12 = .ok (.if_icmp .gt 23, 3) := by decide +kernel
theorem dX5_countDiagnoses_15 : decode cX5_countDiagnoses 15 = .ok (.aload_n 0, 1) := by decide +kernel
theorem dX5_countDiagnoses_16 : decode cX5_countDiagnoses 16 = .ok (.getfield 10, 3) := by decide +kernel
theorem dX5_countDiagnoses_19 : decode cX5_countDiagnoses 19 = .ok (.iload_n 2, 1) := by decide +kernel
theorem dX5_countDiagnoses_20 : decode cX5_countDiagnoses 20 = .ok (.invokevirtual 256, 3) := by decide +kernel
theorem dX5_countDiagnoses_23 : decode cX5_countDiagnoses 23 = .ok (.ifCond .eq 6, 3) := by decide +kernel
theorem dX5_countDiagnoses_26 : decode cX5_countDiagnoses 26 = .ok (.iinc 1 1, 3) := by decide +kernel
theorem dX5_countDiagnoses_29 : decode cX5_countDiagnoses 29 = .ok (.iinc 2 1, 3) := by decide +kernel
theorem dX5_countDiagnoses_32 : decode cX5_countDiagnoses 32 = .ok (.goto (-28), 3) := by decide +kernel
theorem dX5_countDiagnoses_35 : decode cX5_countDiagnoses 35 = .ok (.iload_n 1, 1) := by decide +kernel
theorem dX5_countDiagnoses_36 : decode cX5_countDiagnoses 36 = .ok (.ireturn, 1) := by decide +kernel
theorem dX5_countHeard_0 : decode cX5_countHeard 0 = .ok (.iconst 0, 1) := by decide +kernel
theorem dX5_countHeard_1 : decode cX5_countHeard 1 = .ok (.istore_n 2, 1) := by decide +kernel
theorem dX5_countHeard_2 : decode cX5_countHeard 2 = .ok (.iconst 0, 1) := by decide +kernel
theorem dX5_countHeard_3 : decode cX5_countHeard 3 = .ok (.istore_n 3, 1) := by decide +kernel
theorem dX5_countHeard_4 : decode cX5_countHeard 4 = .ok (.iload_n 3, 1) := by decide +kernel
theorem dX5_countHeard_5 : decode cX5_countHeard 5 = .ok (.aload_n 0, 1) := by decide +kernel
theorem dX5_countHeard_6 : decode cX5_countHeard 6 = .ok (.getfield 10, 3) := by decide +kernel
theorem dX5_countHeard_9 : decode cX5_countHeard 9 = .ok (.invokevirtual 253, 3) := by decide +kernel
theorem dX5_countHeard_12 : decode cX5_countHeard 12 = .ok (.if_icmp .gt 29, 3) := by decide +kernel
theorem dX5_countHeard_15 : decode cX5_countHeard 15 = .ok (.iload_n 3, 1) := by decide +kernel
theorem dX5_countHeard_16 : decode cX5_countHeard 16 = .ok (.iload_n 1, 1) := by decide +kernel
theorem dX5_countHeard_17 : decode cX5_countHeard 17 = .ok (.iand, 1) := by decide +kernel
theorem dX5_countHeard_18 : decode cX5_countHeard 18 = .ok (.ifCond .eq 17, 3) := by decide +kernel
theorem dX5_countHeard_21 : decode cX5_countHeard 21 = .ok (.aload_n 0, 1) := by decide +kernel
theorem dX5_countHeard_22 : decode cX5_countHeard 22 = .ok (.getfield 10, 3) := by decide +kernel
theorem dX5_countHeard_25 : decode cX5_countHeard 25 = .ok (.iload_n 3, 1) := by decide +kernel
theorem dX5_countHeard_26 : decode cX5_countHeard 26 = .ok (.invokevirtual 256, 3) := by decide +kernel
theorem dX5_countHeard_29 : decode cX5_countHeard 29 = .ok (.ifCond .eq 6, 3) := by decide +kernel
theorem dX5_countHeard_32 : decode cX5_countHeard 32 = .ok (.iinc 2 1, 3) := by decide +kernel
theorem dX5_countHeard_35 : decode cX5_countHeard 35 = .ok (.iinc 3 1, 3) := by decide +kernel
theorem dX5_countHeard_38 : decode cX5_countHeard 38 = .ok (.goto (-34), 3) := by decide +kernel
theorem dX5_countHeard_41 : decode cX5_countHeard 41 = .ok (.iload_n 2, 1) := by decide +kernel
theorem dX5_countHeard_42 : decode cX5_countHeard 42 = .ok (.ireturn, 1) := by decide +kernel
theorem dX6_init_0 : decode cX6_init 0 = .ok (.aload_n 0, 1) := by decide +kernel
theorem dX6_init_1 : decode cX6_init 1 = .ok (.invokespecial 1, 3) := by decide +kernel
theorem dX6_init_4 : decode cX6_init 4 = .ok (.aload_n 0, 1) := by decide +kernel
theorem dX6_init_5 : decode cX6_init 5 = .ok (.bipush 81, 2) := by decide +kernel
theorem dX6_init_7 : decode cX6_init 7 = .ok (.newarray .int, 2) := by decide +kernel
theorem dX6_init_9 : decode cX6_init 9 = .ok (.putfield 7, 3) := by decide +kernel
theorem dX6_init_12 : decode cX6_init 12 = .ok (.aload_n 0, 1) := by decide +kernel
theorem dX6_init_13 : decode cX6_init 13 = .ok (.sipush 324, 3) := by decide +kernel
theorem dX6_init_16 : decode cX6_init 16 = .ok (.newarray .int, 2) := by decide +kernel
theorem dX6_init_18 : decode cX6_init 18 = .ok (.putfield 13, 3) := by decide +kernel
theorem dX6_init_21 : decode cX6_init 21 = .ok (.aload_n 0, 1) := by decide +kernel
theorem dX6_init_22 : decode cX6_init 22 = .ok (.bipush 120, 2) := by decide +kernel
theorem dX6_init_24 : decode cX6_init 24 = .ok (.newarray .int, 2) := by decide +kernel
theorem dX6_init_26 : decode cX6_init 26 = .ok (.putfield 16, 3) := by decide +kernel
theorem dX6_init_29 : decode cX6_init 29 = .ok (.aload_n 0, 1) := by decide +kernel
theorem dX6_init_30 : decode cX6_init 30 = .ok (.bipush 12, 2) := by decide +kernel
theorem dX6_init_32 : decode cX6_init 32 = .ok (.newarray .int, 2) := by decide +kernel
theorem dX6_init_34 : decode cX6_init 34 = .ok (.putfield 19, 3) := by decide +kernel
theorem dX6_init_37 : decode cX6_init 37 = .ok (.aload_n 0, 1) := by decide +kernel
theorem dX6_init_38 : decode cX6_init 38 = .ok (.bipush 12, 2) := by decide +kernel
theorem dX6_init_40 : decode cX6_init 40 = .ok (.newarray .int, 2) := by decide +kernel
theorem dX6_init_42 : decode cX6_init 42 = .ok (.putfield 22, 3) := by decide +kernel
theorem dX6_init_45 : decode cX6_init 45 = .ok (.aload_n 0, 1) := by decide +kernel
theorem dX6_init_46 : decode cX6_init 46 = .ok (.sipush 3300, 3) := by decide +kernel
theorem dX6_init_49 : decode cX6_init 49 = .ok (.newarray .int, 2) := by decide +kernel
theorem dX6_init_51 : decode cX6_init 51 = .ok (.putfield 25, 3) := by decide +kernel
theorem dX6_init_54 : decode cX6_init 54 = .ok (.aload_n 0, 1) := by decide +kernel
theorem dX6_init_55 : decode cX6_init 55 = .ok (.bipush 8, 2) := by decide +kernel
theorem dX6_init_57 : decode cX6_init 57 = .ok (.newarray .int, 2) := by decide +kernel
theorem dX6_init_59 : decode cX6_init 59 = .ok (.putfield 28, 3) := by decide +kernel
theorem dX6_init_62 : decode cX6_init 62 = .ok (.aload_n 0, 1) := by decide +kernel
theorem dX6_init_63 : decode cX6_init 63 = .ok (.bipush 17, 2) := by decide +kernel
theorem dX6_init_65 : decode cX6_init 65 = .ok (.newarray .int, 2) := by decide +kernel
theorem dX6_init_67 : decode cX6_init 67 = .ok (.putfield 31, 3) := by decide +kernel
theorem dX6_init_70 : decode cX6_init 70 = .ok (.aload_n 0, 1) := by decide +kernel
theorem dX6_init_71 : decode cX6_init 71 = .ok (.bipush 32, 2) := by decide +kernel
theorem dX6_init_73 : decode cX6_init 73 = .ok (.newarray .int, 2) := by decide +kernel
theorem dX6_init_75 : decode cX6_init 75 = .ok (.putfield 34, 3) := by decide +kernel
theorem dX6_init_78 : decode cX6_init 78 = .ok (.aload_n 0, 1) := by decide +kernel
theorem dX6_init_79 : decode cX6_init 79 = .ok (.bipush 20, 2) := by decide +kernel
theorem dX6_init_81 : decode cX6_init 81 = .ok (.newarray .int, 2) := by decide +kernel
theorem dX6_init_83 : decode cX6_init 83 = .ok (.putfield 37, 3) := by decide +kernel
theorem dX6_init_86 : decode cX6_init 86 = .ok (.aload_n 0, 1) := by decide +kernel
theorem dX6_init_87 : decode cX6_init 87 = .ok (.iconst 5, 1) := by decide +kernel
theorem dX6_init_88 : decode cX6_init 88 = .ok (.newarray .int, 2) := by decide +kernel
theorem dX6_init_90 : decode cX6_init 90 = .ok (.putfield 40, 3) := by decide +kernel
theorem dX6_init_93 : decode cX6_init 93 = .ok (.aload_n 0, 1) := by decide +kernel
theorem dX6_init_94 : decode cX6_init 94 = .ok (.getfield 7, 3) := by decide +kernel
theorem dX6_init_97 : decode cX6_init 97 = .ok (.iconst 0, 1) := by decide +kernel
theorem dX6_init_98 : decode cX6_init 98 = .ok (.iconst 3, 1) := by decide +kernel
theorem dX6_init_99 : decode cX6_init 99 = .ok (.iastore, 1) := by decide +kernel
theorem dX6_init_100 : decode cX6_init 100 = .ok (.aload_n 0, 1) := by decide +kernel
theorem dX6_init_101 : decode cX6_init 101 = .ok (.getfield 7, 3) := by decide +kernel
theorem dX6_init_104 : decode cX6_init 104 = .ok (.iconst 2, 1) := by decide +kernel
theorem dX6_init_105 : decode cX6_init 105 = .ok (.bipush 100, 2) := by decide +kernel
theorem dX6_init_107 : decode cX6_init 107 = .ok (.iastore, 1) := by decide +kernel
theorem dX6_init_108 : decode cX6_init 108 = .ok (.aload_n 0, 1) := by decide +kernel
theorem dX6_init_109 : decode cX6_init 109 = .ok (.getfield 7, 3) := by decide +kernel
theorem dX6_init_112 : decode cX6_init 112 = .ok (.iconst 4, 1) := by decide +kernel
theorem dX6_init_113 : decode cX6_init 113 = .ok (.iconst 1, 1) := by decide +kernel
theorem dX6_init_114 : decode cX6_init 114 = .ok (.iastore, 1) := by decide +kernel
theorem dX6_init_115 : decode cX6_init 115 = .ok (.return_, 1) := by decide +kernel
theorem dX6_thrown_0 : decode cX6_thrown 0 = .ok (.aload_n 0, 1) := by decide +kernel
theorem dX6_thrown_1 : decode cX6_thrown 1 = .ok (.getfield 43, 3) := by decide +kernel
theorem dX6_thrown_4 : decode cX6_thrown 4 = .ok (.ireturn, 1) := by decide +kernel
theorem dX6_in_0 : decode cX6_in 0 = .ok (.iload_n 0, 1) := by decide +kernel
theorem dX6_in_1 : decode cX6_in 1 = .ok (.iload_n 1, 1) := by decide +kernel
theorem dX6_in_2 : decode cX6_in 2 = .ok (.if_icmp .lt 12, 3) := by decide +kernel
theorem dX6_in_5 : decode cX6_in 5 = .ok (.iload_n 0, 1) := by decide +kernel
theorem dX6_in_6 : decode cX6_in 6 = .ok (.iload_n 2, 1) := by decide +kernel
theorem dX6_in_7 : decode cX6_in 7 = .ok (.if_icmp .gt 7, 3) := by decide +kernel
theorem dX6_in_10 : decode cX6_in 10 = .ok (.iconst 1, 1) := by decide +kernel
theorem dX6_in_11 : decode cX6_in 11 = .ok (.goto 4, 3) := by decide +kernel
theorem dX6_in_14 : decode cX6_in 14 = .ok (.iconst 0, 1) := by decide +kernel
theorem dX6_in_15 : decode cX6_in 15 = .ok (.ireturn, 1) := by decide +kernel
theorem dX6_keep_0 : decode cX6_keep 0 = .ok (.aload_n 0, 1) := by decide +kernel
theorem dX6_keep_1 : decode cX6_keep 1 = .ok (.getfield 47, 3) := by decide +kernel
theorem dX6_keep_4 : decode cX6_keep 4 = .ok (.iconst 4, 1) := by decide +kernel
theorem dX6_keep_5 : decode cX6_keep 5 = .ok (.if_icmp .ne 43, 3) := by decide +kernel
theorem dX6_keep_8 : decode cX6_keep 8 = .ok (.iconst 0, 1) := by decide +kernel
theorem dX6_keep_9 : decode cX6_keep 9 = .ok (.istore_n 1, 1) := by decide +kernel
theorem dX6_keep_10 : decode cX6_keep 10 = .ok (.iload_n 1, 1) := by decide +kernel
theorem dX6_keep_11 : decode cX6_keep 11 = .ok (.sipush 243, 3) := by decide +kernel
theorem dX6_keep_14 : decode cX6_keep 14 = .ok (.if_icmp .ge 24, 3) := by decide +kernel
theorem dX6_keep_17 : decode cX6_keep 17 = .ok (.aload_n 0, 1) := by decide +kernel
theorem dX6_keep_18 : decode cX6_keep 18 = .ok (.getfield 13, 3) := by decide +kernel
theorem dX6_keep_21 : decode cX6_keep 21 = .ok (.iload_n 1, 1) := by decide +kernel
theorem dX6_keep_22 : decode cX6_keep 22 = .ok (.aload_n 0, 1) := by decide +kernel
theorem dX6_keep_23 : decode cX6_keep 23 = .ok (.getfield 13, 3) := by decide +kernel
theorem dX6_keep_26 : decode cX6_keep 26 = .ok (.iload_n 1, 1) := by decide +kernel
theorem dX6_keep_27 : decode cX6_keep 27 = .ok (.bipush 81, 2) := by decide +kernel
theorem dX6_keep_29 : decode cX6_keep 29 = .ok (.iadd, 1) := by decide +kernel
theorem dX6_keep_30 : decode cX6_keep 30 = .ok (.iaload, 1) := by decide +kernel
theorem dX6_keep_31 : decode cX6_keep 31 = .ok (.iastore, 1) := by decide +kernel
theorem dX6_keep_32 : decode cX6_keep 32 = .ok (.iinc 1 1, 3) := by decide +kernel
theorem dX6_keep_35 : decode cX6_keep 35 = .ok (.goto (-25), 3) := by decide +kernel
theorem dX6_keep_38 : decode cX6_keep 38 = .ok (.aload_n 0, 1) := by decide +kernel
theorem dX6_keep_39 : decode cX6_keep 39 = .ok (.dup, 1) := by decide +kernel
theorem dX6_keep_40 : decode cX6_keep 40 = .ok (.getfield 47, 3) := by decide +kernel
theorem dX6_keep_43 : decode cX6_keep 43 = .ok (.iconst 1, 1) := by decide +kernel
theorem dX6_keep_44 : decode cX6_keep 44 = .ok (.isub, 1) := by decide +kernel
theorem dX6_keep_45 : decode cX6_keep 45 = .ok (.putfield 47, 3) := by decide +kernel
theorem dX6_keep_48 : decode cX6_keep 48 = .ok (.iconst 0, 1) := by decide +kernel
theorem dX6_keep_49 : decode cX6_keep 49 = .ok (.istore_n 1, 1) := by decide +kernel
theorem dX6_keep_50 : decode cX6_keep 50 = .ok (.iload_n 1, 1) := by decide +kernel
theorem dX6_keep_51 : decode cX6_keep 51 = .ok (.bipush 81, 2) := by decide +kernel
theorem dX6_keep_53 : decode cX6_keep 53 = .ok (.if_icmp .ge 29, 3) := by decide +kernel
theorem dX6_keep_56 : decode cX6_keep 56 = .ok (.aload_n 0, 1) := by decide +kernel
theorem dX6_keep_57 : decode cX6_keep 57 = .ok (.getfield 13, 3) := by decide +kernel
theorem dX6_keep_60 : decode cX6_keep 60 = .ok (.bipush 81, 2) := by decide +kernel
theorem dX6_keep_62 : decode cX6_keep 62 = .ok (.aload_n 0, 1) := by decide +kernel
theorem dX6_keep_63 : decode cX6_keep 63 = .ok (.getfield 47, 3) := by decide +kernel
theorem dX6_keep_66 : decode cX6_keep 66 = .ok (.imul, 1) := by decide +kernel
theorem dX6_keep_67 : decode cX6_keep 67 = .ok (.iload_n 1, 1) := by decide +kernel
theorem dX6_keep_68 : decode cX6_keep 68 = .ok (.iadd, 1) := by decide +kernel
theorem dX6_keep_69 : decode cX6_keep 69 = .ok (.aload_n 0, 1) := by decide +kernel
theorem dX6_keep_70 : decode cX6_keep 70 = .ok (.getfield 7, 3) := by decide +kernel
theorem dX6_keep_73 : decode cX6_keep 73 = .ok (.iload_n 1, 1) := by decide +kernel
theorem dX6_keep_74 : decode cX6_keep 74 = .ok (.iaload, 1) := by decide +kernel
theorem dX6_keep_75 : decode cX6_keep 75 = .ok (.iastore, 1) := by decide +kernel
theorem dX6_keep_76 : decode cX6_keep 76 = .ok (.iinc 1 1, 3) := by decide +kernel
theorem dX6_keep_79 : decode cX6_keep 79 = .ok (.goto (-29), 3) := by decide +kernel
theorem dX6_keep_82 : decode cX6_keep 82 = .ok (.aload_n 0, 1) := by decide +kernel
theorem dX6_keep_83 : decode cX6_keep 83 = .ok (.dup, 1) := by decide +kernel
theorem dX6_keep_84 : decode cX6_keep 84 = .ok (.getfield 47, 3) := by decide +kernel
theorem dX6_keep_87 : decode cX6_keep 87 = .ok (.iconst 1, 1) := by decide +kernel
theorem dX6_keep_88 : decode cX6_keep 88 = .ok (.iadd, 1) := by decide +kernel
theorem dX6_keep_89 : decode cX6_keep 89 = .ok (.putfield 47, 3) := by decide +kernel
theorem dX6_keep_92 : decode cX6_keep 92 = .ok (.return_, 1) := by decide +kernel
theorem dX6_change_0 : decode cX6_change 0 = .ok (.aload_n 0, 1) := by decide +kernel
theorem dX6_change_1 : decode cX6_change 1 = .ok (.invokevirtual 50, 3) := by decide +kernel
theorem dX6_change_4 : decode cX6_change 4 = .ok (.aload_n 0, 1) := by decide +kernel
theorem dX6_change_5 : decode cX6_change 5 = .ok (.getfield 7, 3) := by decide +kernel
theorem dX6_change_8 : decode cX6_change 8 = .ok (.bipush 32, 2) := by decide +kernel
theorem dX6_change_10 : decode cX6_change 10 = .ok (.iconst 0, 1) := by decide +kernel
theorem dX6_change_11 : decode cX6_change 11 = .ok (.iastore, 1) := by decide +kernel
theorem dX6_change_12 : decode cX6_change 12 = .ok (.return_, 1) := by decide +kernel
theorem dX6_has_0 : decode cX6_has 0 = .ok (.iload_n 0, 1) := by decide +kernel
theorem dX6_has_1 : decode cX6_has 1 = .ok (.iload_n 1, 1) := by decide +kernel
theorem dX6_has_2 : decode cX6_has 2 = .ok (.ishr, 1) := by decide +kernel
theorem dX6_has_3 : decode cX6_has 3 = .ok (.iconst 1, 1) := by decide +kernel
theorem dX6_has_4 : decode cX6_has 4 = .ok (.iand, 1) := by decide +kernel
theorem dX6_has_5 : decode cX6_has 5 = .ok (.iconst 1, 1) := by decide +kernel
theorem dX6_has_6 : decode cX6_has 6 = .ok (.if_icmp .ne 7, 3) := by decide +kernel
theorem dX6_has_9 : decode cX6_has 9 = .ok (.iconst 1, 1) := by decide +kernel
theorem dX6_has_10 : decode cX6_has 10 = .ok (.goto 4, 3) := by decide +kernel
theorem dX6_has_13 : decode cX6_has 13 = .ok (.iconst 0, 1) := by decide +kernel
theorem dX6_has_14 : decode cX6_has 14 = .ok (.ireturn, 1) := by decide +kernel
theorem dX6_bits_0 : decode cX6_bits 0 = .ok (.iconst 0, 1) := by decide +kernel
theorem dX6_bits_1 : decode cX6_bits 1 = .ok (.istore_n 1, 1) := by decide +kernel
theorem dX6_bits_2 : decode cX6_bits 2 = .ok (.iload_n 0, 1) := by decide +kernel
theorem dX6_bits_3 : decode cX6_bits 3 = .ok (.istore_n 2, 1) := by decide +kernel
theorem dX6_bits_4 : decode cX6_bits 4 = .ok (.iload_n 2, 1) := by decide +kernel
theorem dX6_bits_5 : decode cX6_bits 5 = .ok (.ifCond .eq 15, 3) := by decide +kernel
theorem dX6_bits_8 : decode cX6_bits 8 = .ok (.iinc 1 1, 3) := by decide +kernel
theorem dX6_bits_11 : decode cX6_bits 11 = .ok (.iload_n 2, 1) := by decide +kernel
theorem dX6_bits_12 : decode cX6_bits 12 = .ok (.iload_n 2, 1) := by decide +kernel
theorem dX6_bits_13 : decode cX6_bits 13 = .ok (.iconst 1, 1) := by decide +kernel
theorem dX6_bits_14 : decode cX6_bits 14 = .ok (.isub, 1) := by decide +kernel
theorem dX6_bits_15 : decode cX6_bits 15 = .ok (.iand, 1) := by decide +kernel
theorem dX6_bits_16 : decode cX6_bits 16 = .ok (.istore_n 2, 1) := by decide +kernel
theorem dX6_bits_17 : decode cX6_bits 17 = .ok (.goto (-13), 3) := by decide +kernel
theorem dX6_bits_20 : decode cX6_bits 20 = .ok (.iload_n 1, 1) := by decide +kernel
theorem dX6_bits_21 : decode cX6_bits 21 = .ok (.ireturn, 1) := by decide +kernel
theorem dX6_channelOf_0 : decode cX6_channelOf 0 = .ok (.aload_n 0, 1) := by decide +kernel
theorem dX6_channelOf_1 : decode cX6_channelOf 1 = .ok (.getfield 7, 3) := by decide +kernel
theorem dX6_channelOf_4 : decode cX6_channelOf 4 = .ok (.bipush 6, 2) := by decide +kernel
theorem dX6_channelOf_6 : decode cX6_channelOf 6 = .ok (.iconst 2, 1) := by decide +kernel
theorem dX6_channelOf_7 : decode cX6_channelOf 7 = .ok (.iload_n 1, 1) := by decide +kernel
theorem dX6_channelOf_8 : decode cX6_channelOf 8 = .ok (.imul, 1) := by decide +kernel
theorem dX6_channelOf_9 : decode cX6_channelOf 9 = .ok (.iadd, 1) := by decide +kernel
theorem dX6_channelOf_10 : decode cX6_channelOf 10 = .ok (.iaload, 1) := by decide +kernel
theorem dX6_channelOf_11 : decode cX6_channelOf 11 = .ok (.ireturn, 1) := by decide +kernel
theorem dX6_levelOf_0 : decode cX6_levelOf 0 = .ok (.aload_n 0, 1) := by decide +kernel
theorem dX6_levelOf_1 : decode cX6_levelOf 1 = .ok (.getfield 7, 3) := by decide +kernel
theorem dX6_levelOf_4 : decode cX6_levelOf 4 = .ok (.bipush 6, 2) := by decide +kernel
theorem dX6_levelOf_6 : decode cX6_levelOf 6 = .ok (.iconst 2, 1) := by decide +kernel
theorem dX6_levelOf_7 : decode cX6_levelOf 7 = .ok (.iload_n 1, 1) := by decide +kernel
theorem dX6_levelOf_8 : decode cX6_levelOf 8 = .ok (.imul, 1) := by decide +kernel
theorem dX6_levelOf_9 : decode cX6_levelOf 9 = .ok (.iadd, 1) := by decide +kernel
theorem dX6_levelOf_10 : decode cX6_levelOf 10 = .ok (.iconst 1, 1) := by decide +kernel
theorem dX6_levelOf_11 : decode cX6_levelOf 11 = .ok (.iadd, 1) := by decide +kernel
theorem dX6_levelOf_12 : decode cX6_levelOf 12 = .ok (.iaload, 1) := by decide +kernel
theorem dX6_levelOf_13 : decode cX6_levelOf 13 = .ok (.ireturn, 1) := by decide +kernel
theorem dX6_isCarrier_0 : decode cX6_isCarrier 0 = .ok (.iload_n 1, 1) := by decide +kernel
theorem dX6_isCarrier_1 : decode cX6_isCarrier 1 = .ok (.iconst 0, 1) := by decide +kernel
theorem dX6_isCarrier_2 : decode cX6_isCarrier 2 = .ok (.aload_n 0, 1) := by decide +kernel
theorem dX6_isCarrier_3 : decode cX6_isCarrier 3 = .ok (.getfield 7, 3) := by decide +kernel
theorem dX6_isCarrier_6 : decode cX6_isCarrier 6 = .ok (.iconst 5, 1) := by decide +kernel
theorem dX6_isCarrier_7 : decode cX6_isCarrier 7 = .ok (.iaload, 1) := by decide +kernel
theorem dX6_isCarrier_8 : decode cX6_isCarrier 8 = .ok (.iconst 1, 1) := by decide +kernel
theorem dX6_isCarrier_9 : decode cX6_isCarrier 9 = .ok (.isub, 1) := by decide +kernel
theorem dX6_isCarrier_10 : decode cX6_isCarrier 10 = .ok (.invokestatic 53, 3) := by decide +kernel
theorem dX6_isCarrier_13 : decode cX6_isCarrier 13 = .ok (.ireturn, 1) := by decide +kernel
theorem dX6_isSet_0 : decode cX6_isSet 0 = .ok (.iload_n 1, 1) := by decide +kernel
theorem dX6_isSet_1 : decode cX6_isSet 1 = .ok (.iconst 0, 1) := by decide +kernel
theorem dX6_isSet_2 : decode cX6_isSet 2 = .ok (.iconst 1, 1) := by decide +kernel
theorem dX6_isSet_3 : decode cX6_isSet 3 = .ok (.aload_n 0, 1) := by decide +kernel
theorem dX6_isSet_4 : decode cX6_isSet 4 = .ok (.getfield 7, 3) := by decide +kernel
theorem dX6_isSet_7 : decode cX6_isSet 7 = .ok (.iconst 5, 1) := by decide +kernel
theorem dX6_isSet_8 : decode cX6_isSet 8 = .ok (.iaload, 1) := by decide +kernel
theorem dX6_isSet_9 : decode cX6_isSet 9 = .ok (.ishl, 1) := by decide +kernel
theorem dX6_isSet_10 : decode cX6_isSet 10 = .ok (.iconst 1, 1) := by decide +kernel
theorem dX6_isSet_11 : decode cX6_isSet 11 = .ok (.isub, 1) := by decide +kernel
theorem dX6_isSet_12 : decode cX6_isSet 12 = .ok (.invokestatic 53, 3) := by decide +kernel
theorem dX6_isSet_15 : decode cX6_isSet 15 = .ok (.ireturn, 1) := by decide +kernel
theorem dX6_isChannel_0 : decode cX6_isChannel 0 = .ok (.iload_n 0, 1) := by decide +kernel
theorem dX6_isChannel_1 : decode cX6_isChannel 1 = .ok (.iconst 0, 1) := by decide +kernel
theorem dX6_isChannel_2 : decode cX6_isChannel 2 = .ok (.bipush 63, 2) := by decide +kernel
theorem dX6_isChannel_4 : decode cX6_isChannel 4 = .ok (.invokestatic 53, 3) := by decide +kernel
theorem dX6_isChannel_7 : decode cX6_isChannel 7 = .ok (.ireturn, 1) := by decide +kernel
theorem dX6_isTaken_0 : decode cX6_isTaken 0 = .ok (.iconst 0, 1) := by decide +kernel
theorem dX6_isTaken_1 : decode cX6_isTaken 1 = .ok (.istore_n 3, 1) := by decide +kernel
theorem dX6_isTaken_2 : decode cX6_isTaken 2 = .ok (.iconst 0, 1) := by decide +kernel
theorem dX6_isTaken_3 : decode cX6_isTaken 3 = .ok (.istore 4, 2) := by decide +kernel
theorem dX6_isTaken_5 : decode cX6_isTaken 5 = .ok (.iload 4, 2) := by decide +kernel
theorem dX6_isTaken_7 : decode cX6_isTaken 7 = .ok (.aload_n 0, 1) := by decide +kernel
theorem dX6_isTaken_8 : decode cX6_isTaken 8 = .ok (.getfield 7, 3) := by decide +kernel
theorem dX6_isTaken_11 : decode cX6_isTaken 11 = .ok (.iconst 5, 1) := by decide +kernel
theorem dX6_isTaken_12 : decode cX6_isTaken 12 = .ok (.iaload, 1) := by decide +kernel
theorem dX6_isTaken_13 : decode cX6_isTaken 13 = .ok (.if_icmp .ge 35, 3) := by decide +kernel
theorem dX6_isTaken_16 : decode cX6_isTaken 16 = .ok (.iload_n 3, 1) := by decide +kernel
theorem dX6_isTaken_17 : decode cX6_isTaken 17 = .ok (.ifCond .ne 19, 3) := by decide +kernel
theorem dX6_isTaken_20 : decode cX6_isTaken 20 = .ok (.iload 4, 2) := by decide +kernel
theorem dX6_isTaken_22 : decode cX6_isTaken 22 = .ok (.iload_n 2, 1) := by decide +kernel
theorem dX6_isTaken_23 : decode cX6_isTaken 23 = .ok (.if_icmp .eq 17, 3) := by decide +kernel
theorem dX6_isTaken_26 : decode cX6_isTaken 26 = .ok (.aload_n 0, 1) := by decide +kernel
theorem dX6_isTaken_27 : decode cX6_isTaken 27 = .ok (.iload 4, 2) := by decide +kernel
theorem dX6_isTaken_29 : decode cX6_isTaken 29 = .ok (.invokevirtual 57, 3) := by decide +kernel
theorem dX6_isTaken_32 : decode cX6_isTaken 32 = .ok (.iload_n 1, 1) := by decide +kernel
theorem dX6_isTaken_33 : decode cX6_isTaken 33 = .ok (.if_icmp .ne 7, 3) := by decide +kernel
theorem dX6_isTaken_36 : decode cX6_isTaken 36 = .ok (.iconst 1, 1) := by decide +kernel
theorem dX6_isTaken_37 : decode cX6_isTaken 37 = .ok (.goto 4, 3) := by decide +kernel
theorem dX6_isTaken_40 : decode cX6_isTaken 40 = .ok (.iconst 0, 1) := by decide +kernel
theorem dX6_isTaken_41 : decode cX6_isTaken 41 = .ok (.istore_n 3, 1) := by decide +kernel
theorem dX6_isTaken_42 : decode cX6_isTaken 42 = .ok (.iinc 4 1, 3) := by decide +kernel
theorem dX6_isTaken_45 : decode cX6_isTaken 45 = .ok (.goto (-40), 3) := by decide +kernel
theorem dX6_isTaken_48 : decode cX6_isTaken 48 = .ok (.iload_n 3, 1) := by decide +kernel
theorem dX6_isTaken_49 : decode cX6_isTaken 49 = .ok (.ireturn, 1) := by decide +kernel
theorem dX6_lay_0 : decode cX6_lay 0 = .ok (.aload_n 0, 1) := by decide +kernel
theorem dX6_lay_1 : decode cX6_lay 1 = .ok (.getfield 7, 3) := by decide +kernel
theorem dX6_lay_4 : decode cX6_lay 4 = .ok (.bipush 6, 2) := by decide +kernel
theorem dX6_lay_6 : decode cX6_lay 6 = .ok (.iconst 2, 1) := by decide +kernel
theorem dX6_lay_7 : decode cX6_lay 7 = .ok (.iload_n 1, 1) := by decide +kernel
theorem dX6_lay_8 : decode cX6_lay 8 = .ok (.imul, 1) := by decide +kernel
theorem dX6_lay_9 : decode cX6_lay 9 = .ok (.iadd, 1) := by decide +kernel
theorem dX6_lay_10 : decode cX6_lay 10 = .ok (.iload_n 2, 1) := by decide +kernel
theorem dX6_lay_11 : decode cX6_lay 11 = .ok (.iastore, 1) := by decide +kernel
theorem dX6_lay_12 : decode cX6_lay 12 = .ok (.aload_n 0, 1) := by decide +kernel
theorem dX6_lay_13 : decode cX6_lay 13 = .ok (.getfield 7, 3) := by decide +kernel
theorem dX6_lay_16 : decode cX6_lay 16 = .ok (.bipush 6, 2) := by decide +kernel
theorem dX6_lay_18 : decode cX6_lay 18 = .ok (.iconst 2, 1) := by decide +kernel
theorem dX6_lay_19 : decode cX6_lay 19 = .ok (.iload_n 1, 1) := by decide +kernel
theorem dX6_lay_20 : decode cX6_lay 20 = .ok (.imul, 1) := by decide +kernel
theorem dX6_lay_21 : decode cX6_lay 21 = .ok (.iadd, 1) := by decide +kernel
theorem dX6_lay_22 : decode cX6_lay 22 = .ok (.iconst 1, 1) := by decide +kernel
theorem dX6_lay_23 : decode cX6_lay 23 = .ok (.iadd, 1) := by decide +kernel
theorem dX6_lay_24 : decode cX6_lay 24 = .ok (.iload_n 3, 1) := by decide +kernel
theorem dX6_lay_25 : decode cX6_lay 25 = .ok (.iastore, 1) := by decide +kernel
theorem dX6_lay_26 : decode cX6_lay 26 = .ok (.return_, 1) := by decide +kernel
theorem dX6_isFit_0 : decode cX6_isFit 0 = .ok (.iload_n 1, 1) := by decide +kernel
theorem dX6_isFit_1 : decode cX6_isFit 1 = .ok (.invokestatic 61, 3) := by decide +kernel
theorem dX6_isFit_4 : decode cX6_isFit 4 = .ok (.ifCond .eq 26, 3) := by decide +kernel
theorem dX6_isFit_7 : decode cX6_isFit 7 = .ok (.iload_n 2, 1) := by decide +kernel
theorem dX6_isFit_8 : decode cX6_isFit 8 = .ok (.iconst 0, 1) := by decide +kernel
theorem dX6_isFit_9 : decode cX6_isFit 9 = .ok (.bipush 60, 2) := by decide +kernel
theorem dX6_isFit_11 : decode cX6_isFit 11 = .ok (.invokestatic 53, 3) := by decide +kernel
theorem dX6_isFit_14 : decode cX6_isFit 14 = .ok (.ifCond .eq 16, 3) := by decide +kernel
theorem dX6_isFit_17 : decode cX6_isFit 17 = .ok (.aload_n 0, 1) := by decide +kernel
theorem dX6_isFit_18 : decode cX6_isFit 18 = .ok (.iload_n 1, 1) := by decide +kernel
theorem dX6_isFit_19 : decode cX6_isFit 19 = .ok (.iload_n 3, 1) := by decide +kernel
theorem dX6_isFit_20 : decode cX6_isFit 20 = .ok (.invokevirtual 65, 3) := by decide +kernel
theorem dX6_isFit_23 : decode cX6_isFit 23 = .ok (.ifCond .ne 7, 3) := by decide +kernel
theorem dX6_isFit_26 : decode cX6_isFit 26 = .ok (.iconst 1, 1) := by decide +kernel
theorem dX6_isFit_27 : decode cX6_isFit 27 = .ok (.goto 4, 3) := by decide +kernel
theorem dX6_isFit_30 : decode cX6_isFit 30 = .ok (.iconst 0, 1) := by decide +kernel
theorem dX6_isFit_31 : decode cX6_isFit 31 = .ok (.ireturn, 1) := by decide +kernel
theorem dX6_addCarrier_0 : decode cX6_addCarrier 0 = .ok (.aload_n 0, 1) := by decide +kernel
theorem dX6_addCarrier_1 : decode cX6_addCarrier 1 = .ok (.aload_n 0, 1) := by decide +kernel
theorem dX6_addCarrier_2 : decode cX6_addCarrier 2 = .ok (.iload_n 1, 1) := by decide +kernel
theorem dX6_addCarrier_3 : decode cX6_addCarrier 3 = .ok (.iload_n 2, 1) := by decide +kernel
theorem dX6_addCarrier_4 : decode cX6_addCarrier 4 = .ok (.iconst (-1), 1) := by decide +kernel
theorem dX6_addCarrier_5 : decode cX6_addCarrier 5 = .ok (.invokevirtual 69, 3) := by decide +kernel
theorem dX6_addCarrier_8 : decode cX6_addCarrier 8 = .ok (.ifCond .ne 7, 3) := by decide +kernel
theorem dX6_addCarrier_11 : decode cX6_addCarrier 11 = .ok (.iconst 1, 1) := by decide +kernel
theorem dX6_addCarrier_12 : decode cX6_addCarrier 12 = .ok (.goto 19, 3) := by decide +kernel
theorem dX6_addCarrier_15 : decode cX6_addCarrier 15 = .ok (.aload_n 0, 1) := by decide +kernel
theorem dX6_addCarrier_16 : decode cX6_addCarrier 16 = .ok (.getfield 7, 3) := by decide +kernel
theorem dX6_addCarrier_19 : decode cX6_addCarrier 19 = .ok (.iconst 5, 1) := by decide +kernel
theorem dX6_addCarrier_20 : decode cX6_addCarrier 20 = .ok (.iaload, 1) := by decide +kernel
theorem dX6_addCarrier_21 : decode cX6_addCarrier 21 = .ok (.bipush 10, 2) := by decide +kernel
theorem dX6_addCarrier_23 : decode cX6_addCarrier 23 = .ok (.if_icmp .ne 7, 3) := by decide +kernel
theorem dX6_addCarrier_26 : decode cX6_addCarrier 26 = .ok (.iconst 2, 1) := by decide +kernel
theorem dX6_addCarrier_27 : decode cX6_addCarrier 27 = .ok (.goto 4, 3) := by decide +kernel
theorem dX6_addCarrier_30 : decode cX6_addCarrier 30 = .ok (.iconst 0, 1) := by decide +kernel
theorem dX6_addCarrier_31 : decode cX6_addCarrier 31 = .ok (.putfield 43, 3) := by decide +kernel
theorem dX6_addCarrier_34 : decode cX6_addCarrier 34 = .ok (.aload_n 0, 1) := by decide +kernel
theorem dX6_addCarrier_35 : decode cX6_addCarrier 35 = .ok (.getfield 43, 3) := by decide +kernel
theorem dX6_addCarrier_38 : decode cX6_addCarrier 38 = .ok (.ifCond .eq 5, 3) := by decide +kernel
theorem dX6_addCarrier_41 : decode cX6_addCarrier 41 = .ok (.iconst 0, 1) := by decide +kernel
theorem dX6_addCarrier_42 : decode cX6_addCarrier 42 = .ok (.ireturn, 1) := by decide +kernel
theorem dX6_addCarrier_43 : decode cX6_addCarrier 43 = .ok (.aload_n 0, 1) := by decide +kernel
theorem dX6_addCarrier_44 : decode cX6_addCarrier 44 = .ok (.invokevirtual 72, 3) := by decide +kernel
theorem dX6_addCarrier_47 : decode cX6_addCarrier 47 = .ok (.aload_n 0, 1) := by decide +kernel
theorem dX6_addCarrier_48 : decode cX6_addCarrier 48 = .ok (.aload_n 0, 1) := by decide +kernel
theorem dX6_addCarrier_49 : decode cX6_addCarrier 49 = .ok (.getfield 7, 3) := by decide +kernel
theorem dX6_addCarrier_52 : decode cX6_addCarrier 52 = .ok (.iconst 5, 1) := by decide +kernel
theorem dX6_addCarrier_53 : decode cX6_addCarrier 53 = .ok (.iaload, 1) := by decide +kernel
theorem dX6_addCarrier_54 : decode cX6_addCarrier 54 = .ok (.iload_n 1, 1) := by decide +kernel
theorem dX6_addCarrier_55 : decode cX6_addCarrier 55 = .ok (.iload_n 2, 1) := by decide +kernel
theorem dX6_addCarrier_56 : decode cX6_addCarrier 56 = .ok (.invokevirtual 75, 3) := by decide +kernel
theorem dX6_addCarrier_59 : decode cX6_addCarrier 59 = .ok (.aload_n 0, 1) := by decide +kernel
theorem dX6_addCarrier_60 : decode cX6_addCarrier 60 = .ok (.getfield 7, 3) := by decide +kernel
theorem dX6_addCarrier_63 : decode cX6_addCarrier 63 = .ok (.iconst 5, 1) := by decide +kernel
theorem dX6_addCarrier_64 : decode cX6_addCarrier 64 = .ok (.dup2, 1) := by decide +kernel
theorem dX6_addCarrier_65 : decode cX6_addCarrier 65 = .ok (.iaload, 1) := by decide +kernel
theorem dX6_addCarrier_66 : decode cX6_addCarrier 66 = .ok (.iconst 1, 1) := by decide +kernel
theorem dX6_addCarrier_67 : decode cX6_addCarrier 67 = .ok (.iadd, 1) := by decide +kernel
theorem dX6_addCarrier_68 : decode cX6_addCarrier 68 = .ok (.iastore, 1) := by decide +kernel
theorem dX6_addCarrier_69 : decode cX6_addCarrier 69 = .ok (.aload_n 0, 1) := by decide +kernel
theorem dX6_addCarrier_70 : decode cX6_addCarrier 70 = .ok (.getfield 7, 3) := by decide +kernel
theorem dX6_addCarrier_73 : decode cX6_addCarrier 73 = .ok (.iconst 5, 1) := by decide +kernel
theorem dX6_addCarrier_74 : decode cX6_addCarrier 74 = .ok (.iaload, 1) := by decide +kernel
theorem dX6_addCarrier_75 : decode cX6_addCarrier 75 = .ok (.iconst 1, 1) := by decide +kernel
theorem dX6_addCarrier_76 : decode cX6_addCarrier 76 = .ok (.isub, 1) := by decide +kernel
theorem dX6_addCarrier_77 : decode cX6_addCarrier 77 = .ok (.ireturn, 1) := by decide +kernel
theorem dX6_moveCarrier_0 : decode cX6_moveCarrier 0 = .ok (.aload_n 0, 1) := by decide +kernel
theorem dX6_moveCarrier_1 : decode cX6_moveCarrier 1 = .ok (.aload_n 0, 1) := by decide +kernel
theorem dX6_moveCarrier_2 : decode cX6_moveCarrier 2 = .ok (.iload_n 1, 1) := by decide +kernel
theorem dX6_moveCarrier_3 : decode cX6_moveCarrier 3 = .ok (.invokevirtual 79, 3) := by decide +kernel
theorem dX6_moveCarrier_6 : decode cX6_moveCarrier 6 = .ok (.ifCond .ne 7, 3) := by decide +kernel
theorem dX6_moveCarrier_9 : decode cX6_moveCarrier 9 = .ok (.iconst 1, 1) := by decide +kernel
theorem dX6_moveCarrier_10 : decode cX6_moveCarrier 10 = .ok (.goto 18, 3) := by decide +kernel
theorem dX6_moveCarrier_13 : decode cX6_moveCarrier 13 = .ok (.aload_n 0, 1) := by decide +kernel
theorem dX6_moveCarrier_14 : decode cX6_moveCarrier 14 = .ok (.iload_n 2, 1) := by decide +kernel
theorem dX6_moveCarrier_15 : decode cX6_moveCarrier 15 = .ok (.iload_n 3, 1) := by decide +kernel
theorem dX6_moveCarrier_16 : decode cX6_moveCarrier 16 = .ok (.iload_n 1, 1) := by decide +kernel
theorem dX6_moveCarrier_17 : decode cX6_moveCarrier 17 = .ok (.invokevirtual 69, 3) := by decide +kernel
theorem dX6_moveCarrier_20 : decode cX6_moveCarrier 20 = .ok (.ifCond .eq 7, 3) := by decide +kernel
theorem dX6_moveCarrier_23 : decode cX6_moveCarrier 23 = .ok (.iconst 0, 1) := by decide +kernel
theorem dX6_moveCarrier_24 : decode cX6_moveCarrier 24 = .ok (.goto 4, 3) := by decide +kernel
theorem dX6_moveCarrier_27 : decode cX6_moveCarrier 27 = .ok (.iconst 2, 1) := by decide +kernel
theorem dX6_moveCarrier_28 : decode cX6_moveCarrier 28 = .ok (.putfield 43, 3) := by decide +kernel
theorem dX6_moveCarrier_31 : decode cX6_moveCarrier 31 = .ok (.aload_n 0, 1) := by decide +kernel
theorem dX6_moveCarrier_32 : decode cX6_moveCarrier 32 = .ok (.getfield 43, 3) := by decide +kernel
theorem dX6_moveCarrier_35 : decode cX6_moveCarrier 35 = .ok (.ifCond .eq 5, 3) := by decide +kernel
theorem dX6_moveCarrier_38 : decode cX6_moveCarrier 38 = .ok (.iconst 0, 1) := by decide +kernel
theorem dX6_moveCarrier_39 : decode cX6_moveCarrier 39 = .ok (.ireturn, 1) := by decide +kernel
theorem dX6_moveCarrier_40 : decode cX6_moveCarrier 40 = .ok (.aload_n 0, 1) := by decide +kernel
theorem dX6_moveCarrier_41 : decode cX6_moveCarrier 41 = .ok (.invokevirtual 72, 3) := by decide +kernel
theorem dX6_moveCarrier_44 : decode cX6_moveCarrier 44 = .ok (.aload_n 0, 1) := by decide +kernel
theorem dX6_moveCarrier_45 : decode cX6_moveCarrier 45 = .ok (.iload_n 1, 1) := by decide +kernel
theorem dX6_moveCarrier_46 : decode cX6_moveCarrier 46 = .ok (.invokevirtual 57, 3) := by decide +kernel
theorem dX6_moveCarrier_49 : decode cX6_moveCarrier 49 = .ok (.istore 4, 2) := by decide +kernel
theorem dX6_moveCarrier_51 : decode cX6_moveCarrier 51 = .ok (.aload_n 0, 1) := by decide +kernel
theorem dX6_moveCarrier_52 : decode cX6_moveCarrier 52 = .ok (.iload_n 1, 1) := by decide +kernel
theorem dX6_moveCarrier_53 : decode cX6_moveCarrier 53 = .ok (.iload_n 2, 1) := by decide +kernel
theorem dX6_moveCarrier_54 : decode cX6_moveCarrier 54 = .ok (.iload_n 3, 1) := by decide +kernel
theorem dX6_moveCarrier_55 : decode cX6_moveCarrier 55 = .ok (.invokevirtual 75, 3) := by decide +kernel
theorem dX6_moveCarrier_58 : decode cX6_moveCarrier 58 = .ok (.iload 4, 2) := by decide +kernel
theorem dX6_moveCarrier_60 : decode cX6_moveCarrier 60 = .ok (.ireturn, 1) := by decide +kernel
theorem dX6_removeCarrier_0 : decode cX6_removeCarrier 0 = .ok (.aload_n 0, 1) := by decide +kernel
theorem dX6_removeCarrier_1 : decode cX6_removeCarrier 1 = .ok (.aload_n 0, 1) := by decide +kernel
theorem dX6_removeCarrier_2 : decode cX6_removeCarrier 2 = .ok (.iload_n 1, 1) := by decide +kernel
theorem dX6_removeCarrier_3 : decode cX6_removeCarrier 3 = .ok (.invokevirtual 79, 3) := by decide +kernel
theorem dX6_removeCarrier_6 : decode cX6_removeCarrier 6 = .ok (.ifCond .eq 7, 3) := by decide +kernel
theorem dX6_removeCarrier_9 : decode cX6_removeCarrier 9 = .ok (.iconst 0, 1) := by decide +kernel
theorem dX6_removeCarrier_10 : decode cX6_removeCarrier 10 = .ok (.goto 4, 3) := by decide +kernel
theorem dX6_removeCarrier_13 : decode cX6_removeCarrier 13 = .ok (.iconst 1, 1) := by decide +kernel
theorem dX6_removeCarrier_14 : decode cX6_removeCarrier 14 = .ok (.putfield 43, 3) := by decide +kernel
theorem dX6_removeCarrier_17 : decode cX6_removeCarrier 17 = .ok (.aload_n 0, 1) := by decide +kernel
theorem dX6_removeCarrier_18 : decode cX6_removeCarrier 18 = .ok (.getfield 43, 3) := by decide +kernel
theorem dX6_removeCarrier_21 : decode cX6_removeCarrier 21 = .ok (.ifCond .eq 5, 3) := by decide +kernel
theorem dX6_removeCarrier_24 : decode cX6_removeCarrier 24 = .ok (.iconst 0, 1) := by decide +kernel
theorem dX6_removeCarrier_25 : decode cX6_removeCarrier 25 = .ok (.ireturn, 1) := by decide +kernel
theorem dX6_removeCarrier_26 : decode cX6_removeCarrier 26 = .ok (.aload_n 0, 1) := by decide +kernel
theorem dX6_removeCarrier_27 : decode cX6_removeCarrier 27 = .ok (.invokevirtual 72, 3) := by decide +kernel
theorem dX6_removeCarrier_30 : decode cX6_removeCarrier 30 = .ok (.aload_n 0, 1) := by decide +kernel
theorem dX6_removeCarrier_31 : decode cX6_removeCarrier 31 = .ok (.getfield 7, 3) := by decide +kernel
theorem dX6_removeCarrier_34 : decode cX6_removeCarrier 34 = .ok (.iconst 5, 1) := by decide +kernel
theorem dX6_removeCarrier_35 : decode cX6_removeCarrier 35 = .ok (.dup2, 1) := by decide +kernel
theorem dX6_removeCarrier_36 : decode cX6_removeCarrier 36 = .ok (.iaload, 1) := by decide +kernel
theorem dX6_removeCarrier_37 : decode cX6_removeCarrier 37 = .ok (.iconst 1, 1) := by decide +kernel
theorem dX6_removeCarrier_38 : decode cX6_removeCarrier 38 = .ok (.isub, 1) := by decide +kernel
theorem dX6_removeCarrier_39 : decode cX6_removeCarrier 39 = .ok (.iastore, 1) := by decide +kernel
theorem dX6_removeCarrier_40 : decode cX6_removeCarrier 40 = .ok (.iload_n 1, 1) := by decide +kernel
theorem dX6_removeCarrier_41 : decode cX6_removeCarrier 41 = .ok (.istore_n 2, 1) := by decide +kernel
theorem dX6_removeCarrier_42 : decode cX6_removeCarrier 42 = .ok (.iload_n 2, 1) := by decide +kernel
theorem dX6_removeCarrier_43 : decode cX6_removeCarrier 43 = .ok (.aload_n 0, 1) := by decide +kernel
theorem dX6_removeCarrier_44 : decode cX6_removeCarrier 44 = .ok (.getfield 7, 3) := by decide +kernel
theorem dX6_removeCarrier_47 : decode cX6_removeCarrier 47 = .ok (.iconst 5, 1) := by decide +kernel
theorem dX6_removeCarrier_48 : decode cX6_removeCarrier 48 = .ok (.iaload, 1) := by decide +kernel
theorem dX6_removeCarrier_49 : decode cX6_removeCarrier 49 = .ok (.if_icmp .ge 28, 3) := by decide +kernel
theorem dX6_removeCarrier_52 : decode cX6_removeCarrier 52 = .ok (.aload_n 0, 1) := by decide +kernel
theorem dX6_removeCarrier_53 : decode cX6_removeCarrier 53 = .ok (.iload_n 2, 1) := by decide +kernel
theorem dX6_removeCarrier_54 : decode cX6_removeCarrier 54 = .ok (.aload_n 0, 1) := by decide +kernel
theorem dX6_removeCarrier_55 : decode cX6_removeCarrier 55 = .ok (.iload_n 2, 1) := by decide +kernel
theorem dX6_removeCarrier_56 : decode cX6_removeCarrier 56 = .ok (.iconst 1, 1) := by decide +kernel
theorem dX6_removeCarrier_57 : decode cX6_removeCarrier 57 = .ok (.iadd, 1) := by decide +kernel
theorem dX6_removeCarrier_58 : decode cX6_removeCarrier 58 = .ok (.invokevirtual 57, 3) := by decide +kernel
theorem dX6_removeCarrier_61 : decode cX6_removeCarrier 61 = .ok (.aload_n 0, 1) := by decide +kernel
theorem dX6_removeCarrier_62 : decode cX6_removeCarrier 62 = .ok (.iload_n 2, 1) := by decide +kernel
theorem dX6_removeCarrier_63 : decode cX6_removeCarrier 63 = .ok (.iconst 1, 1) := by decide +kernel
theorem dX6_removeCarrier_64 : decode cX6_removeCarrier 64 = .ok (.iadd, 1) := by decide +kernel
theorem dX6_removeCarrier_65 : decode cX6_removeCarrier 65 = .ok (.invokevirtual 82, 3) := by decide +kernel
theorem dX6_removeCarrier_68 : decode cX6_removeCarrier 68 = .ok (.invokevirtual 75, 3) := by decide +kernel
theorem dX6_removeCarrier_71 : decode cX6_removeCarrier 71 = .ok (.iinc 2 1, 3) := by decide +kernel
theorem dX6_removeCarrier_74 : decode cX6_removeCarrier 74 = .ok (.goto (-32), 3) := by decide +kernel
theorem dX6_removeCarrier_77 : decode cX6_removeCarrier 77 = .ok (.iconst 1, 1) := by decide +kernel
theorem dX6_removeCarrier_78 : decode cX6_removeCarrier 78 = .ok (.iload_n 1, 1) := by decide +kernel
theorem dX6_removeCarrier_79 : decode cX6_removeCarrier 79 = .ok (.ishl, 1) := by decide +kernel
theorem dX6_removeCarrier_80 : decode cX6_removeCarrier 80 = .ok (.iconst 1, 1) := by decide +kernel
theorem dX6_removeCarrier_81 : decode cX6_removeCarrier 81 = .ok (.isub, 1) := by decide +kernel
theorem dX6_removeCarrier_82 : decode cX6_removeCarrier 82 = .ok (.istore_n 2, 1) := by decide +kernel
theorem dX6_removeCarrier_83 : decode cX6_removeCarrier 83 = .ok (.iconst 0, 1) := by decide +kernel
theorem dX6_removeCarrier_84 : decode cX6_removeCarrier 84 = .ok (.istore_n 3, 1) := by decide +kernel
theorem dX6_removeCarrier_85 : decode cX6_removeCarrier 85 = .ok (.iload_n 3, 1) := by decide +kernel
theorem dX6_removeCarrier_86 : decode cX6_removeCarrier 86 = .ok (.aload_n 0, 1) := by decide +kernel
theorem dX6_removeCarrier_87 : decode cX6_removeCarrier 87 = .ok (.getfield 7, 3) := by decide +kernel
theorem dX6_removeCarrier_90 : decode cX6_removeCarrier 90 = .ok (.bipush 26, 2) := by decide +kernel
theorem dX6_removeCarrier_92 : decode cX6_removeCarrier 92 = .ok (.iaload, 1) := by decide +kernel
theorem dX6_removeCarrier_93 : decode cX6_removeCarrier 93 = .ok (.if_icmp .ge 45, 3) := by decide +kernel
theorem dX6_removeCarrier_96 : decode cX6_removeCarrier 96 = .ok (.aload_n 0, 1) := by decide +kernel
theorem dX6_removeCarrier_97 : decode cX6_removeCarrier 97 = .ok (.getfield 7, 3) := by decide +kernel
theorem dX6_removeCarrier_100 : decode cX6_removeCarrier 100 = .ok (.bipush 27, 2) := by decide +kernel
theorem dX6_removeCarrier_102 : decode cX6_removeCarrier 102 = .ok (.iload_n 3, 1) := by decide +kernel
theorem dX6_removeCarrier_103 : decode cX6_removeCarrier 103 = .ok (.iadd, 1) := by decide +kernel
theorem dX6_removeCarrier_104 : decode cX6_removeCarrier 104 = .ok (.aload_n 0, 1) := by decide +kernel
theorem dX6_removeCarrier_105 : decode cX6_removeCarrier 105 = .ok (.getfield 7, 3) := by decide +kernel
theorem dX6_removeCarrier_108 : decode cX6_removeCarrier 108 = .ok (.bipush 27, 2) := by decide +kernel
theorem dX6_removeCarrier_110 : decode cX6_removeCarrier 110 = .ok (.iload_n 3, 1) := by decide +kernel
theorem dX6_removeCarrier_111 : decode cX6_removeCarrier 111 = .ok (.iadd, 1) := by decide +kernel
theorem dX6_removeCarrier_112 : decode cX6_removeCarrier 112 = .ok (.iaload, 1) := by decide +kernel
theorem dX6_removeCarrier_113 : decode cX6_removeCarrier 113 = .ok (.iload_n 2, 1) := by decide +kernel
theorem dX6_removeCarrier_114 : decode cX6_removeCarrier 114 = .ok (.iand, 1) := by decide +kernel
theorem dX6_removeCarrier_115 : decode cX6_removeCarrier 115 = .ok (.aload_n 0, 1) := by decide +kernel
theorem dX6_removeCarrier_116 : decode cX6_removeCarrier 116 = .ok (.getfield 7, 3) := by decide +kernel
theorem dX6_removeCarrier_119 : decode cX6_removeCarrier 119 = .ok (.bipush 27, 2) := by decide +kernel
theorem dX6_removeCarrier_121 : decode cX6_removeCarrier 121 = .ok (.iload_n 3, 1) := by decide +kernel
theorem dX6_removeCarrier_122 : decode cX6_removeCarrier 122 = .ok (.iadd, 1) := by decide +kernel
theorem dX6_removeCarrier_123 : decode cX6_removeCarrier 123 = .ok (.iaload, 1) := by decide +kernel
theorem dX6_removeCarrier_124 : decode cX6_removeCarrier 124 = .ok (.iconst 1, 1) := by decide +kernel
theorem dX6_removeCarrier_125 : decode cX6_removeCarrier 125 = .ok (.ishr, 1) := by decide +kernel
theorem dX6_removeCarrier_126 : decode cX6_removeCarrier 126 = .ok (.iload_n 2, 1) := by decide +kernel
theorem dX6_removeCarrier_127 : decode cX6_removeCarrier 127 = .ok (.iconst (-1), 1) := by decide +kernel
theorem dX6_removeCarrier_128 : decode cX6_removeCarrier 128 = .ok (.ixor, 1) := by decide +kernel
theorem dX6_removeCarrier_129 : decode cX6_removeCarrier 129 = .ok (.iand, 1) := by decide +kernel
theorem dX6_removeCarrier_130 : decode cX6_removeCarrier 130 = .ok (.ior, 1) := by decide +kernel
theorem dX6_removeCarrier_131 : decode cX6_removeCarrier 131 = .ok (.iastore, 1) := by decide +kernel
theorem dX6_removeCarrier_132 : decode cX6_removeCarrier 132 = .ok (.iinc 3 1, 3) := by decide +kernel
theorem dX6_removeCarrier_135 : decode cX6_removeCarrier 135 = .ok (.goto (-50), 3) := by decide +kernel
theorem dX6_removeCarrier_138 : decode cX6_removeCarrier 138 = .ok (.aload_n 0, 1) := by decide +kernel
theorem dX6_removeCarrier_139 : decode cX6_removeCarrier 139 = .ok (.getfield 7, 3) := by decide +kernel
theorem dX6_removeCarrier_142 : decode cX6_removeCarrier 142 = .ok (.iconst 5, 1) := by decide +kernel
theorem dX6_removeCarrier_143 : decode cX6_removeCarrier 143 = .ok (.iaload, 1) := by decide +kernel
theorem dX6_removeCarrier_144 : decode cX6_removeCarrier 144 = .ok (.ireturn, 1) := by decide +kernel
theorem dX6_shift_0 : decode cX6_shift 0 = .ok (.iconst 1, 1) := by decide +kernel
theorem dX6_shift_1 : decode cX6_shift 1 = .ok (.istore_n 2, 1) := by decide +kernel
theorem dX6_shift_2 : decode cX6_shift 2 = .ok (.iconst 0, 1) := by decide +kernel
theorem dX6_shift_3 : decode cX6_shift 3 = .ok (.istore_n 3, 1) := by decide +kernel
theorem dX6_shift_4 : decode cX6_shift 4 = .ok (.iload_n 3, 1) := by decide +kernel
theorem dX6_shift_5 : decode cX6_shift 5 = .ok (.aload_n 0, 1) := by decide +kernel
theorem dX6_shift_6 : decode cX6_shift 6 = .ok (.getfield 7, 3) := by decide +kernel
theorem dX6_shift_9 : decode cX6_shift 9 = .ok (.iconst 5, 1) := by decide +kernel
theorem dX6_shift_10 : decode cX6_shift 10 = .ok (.iaload, 1) := by decide +kernel
theorem dX6_shift_11 : decode cX6_shift 11 = .ok (.if_icmp .ge 43, 3) := by decide +kernel
theorem dX6_shift_14 : decode cX6_shift 14 = .ok (.iload_n 1, 1) := by decide +kernel
theorem dX6_shift_15 : decode cX6_shift 15 = .ok (.bipush (-63), 2) := by decide +kernel
theorem dX6_shift_17 : decode cX6_shift 17 = .ok (.bipush 63, 2) := by decide +kernel
theorem dX6_shift_19 : decode cX6_shift 19 = .ok (.invokestatic 53, 3) := by decide +kernel
theorem dX6_shift_22 : decode cX6_shift 22 = .ok (.ifCond .eq 32, 3) := by decide +kernel
theorem dX6_shift_25 : decode cX6_shift 25 = .ok (.iload_n 2, 1) := by decide +kernel
theorem dX6_shift_26 : decode cX6_shift 26 = .ok (.ifCond .eq 20, 3) := by decide +kernel
theorem dX6_shift_29 : decode cX6_shift 29 = .ok (.aload_n 0, 1) := by decide +kernel
theorem dX6_shift_30 : decode cX6_shift 30 = .ok (.iload_n 3, 1) := by decide +kernel
theorem dX6_shift_31 : decode cX6_shift 31 = .ok (.invokevirtual 57, 3) := by decide +kernel
theorem dX6_shift_34 : decode cX6_shift 34 = .ok (.iload_n 1, 1) := by decide +kernel
theorem dX6_shift_35 : decode cX6_shift 35 = .ok (.iadd, 1) := by decide +kernel
theorem dX6_shift_36 : decode cX6_shift 36 = .ok (.invokestatic 61, 3) := by decide +kernel
theorem dX6_shift_39 : decode cX6_shift 39 = .ok (.ifCond .eq 7, 3) := by decide +kernel
theorem dX6_shift_42 : decode cX6_shift 42 = .ok (.iconst 1, 1) := by decide +kernel
theorem dX6_shift_43 : decode cX6_shift 43 = .ok (.goto 4, 3) := by decide +kernel
theorem dX6_shift_46 : decode cX6_shift 46 = .ok (.iconst 0, 1) := by decide +kernel
theorem dX6_shift_47 : decode cX6_shift 47 = .ok (.istore_n 2, 1) := by decide +kernel
theorem dX6_shift_48 : decode cX6_shift 48 = .ok (.iinc 3 1, 3) := by decide +kernel
theorem dX6_shift_51 : decode cX6_shift 51 = .ok (.goto (-47), 3) := by decide +kernel
theorem dX6_shift_54 : decode cX6_shift 54 = .ok (.aload_n 0, 1) := by decide +kernel
theorem dX6_shift_55 : decode cX6_shift 55 = .ok (.iload_n 1, 1) := by decide +kernel
theorem dX6_shift_56 : decode cX6_shift 56 = .ok (.bipush (-63), 2) := by decide +kernel
theorem dX6_shift_58 : decode cX6_shift 58 = .ok (.bipush 63, 2) := by decide +kernel
theorem dX6_shift_60 : decode cX6_shift 60 = .ok (.invokestatic 53, 3) := by decide +kernel
theorem dX6_shift_63 : decode cX6_shift 63 = .ok (.ifCond .ne 7, 3) := by decide +kernel
theorem dX6_shift_66 : decode cX6_shift 66 = .ok (.iconst 1, 1) := by decide +kernel
theorem dX6_shift_67 : decode cX6_shift 67 = .ok (.goto 12, 3) := by decide +kernel
theorem dX6_shift_70 : decode cX6_shift 70 = .ok (.iload_n 2, 1) := by decide +kernel
theorem dX6_shift_71 : decode cX6_shift 71 = .ok (.ifCond .eq 7, 3) := by decide +kernel
theorem dX6_shift_74 : decode cX6_shift 74 = .ok (.iconst 0, 1) := by decide +kernel
theorem dX6_shift_75 : decode cX6_shift 75 = .ok (.goto 4, 3) := by decide +kernel
theorem dX6_shift_78 : decode cX6_shift 78 = .ok (.iconst 2, 1) := by decide +kernel
theorem dX6_shift_79 : decode cX6_shift 79 = .ok (.putfield 43, 3) := by decide +kernel
theorem dX6_shift_82 : decode cX6_shift 82 = .ok (.aload_n 0, 1) := by decide +kernel
theorem dX6_shift_83 : decode cX6_shift 83 = .ok (.getfield 43, 3) := by decide +kernel
theorem dX6_shift_86 : decode cX6_shift 86 = .ok (.ifCond .eq 5, 3) := by decide +kernel
theorem dX6_shift_89 : decode cX6_shift 89 = .ok (.iconst 0, 1) := by decide +kernel
theorem dX6_shift_90 : decode cX6_shift 90 = .ok (.ireturn, 1) := by decide +kernel
theorem dX6_shift_91 : decode cX6_shift 91 = .ok (.aload_n 0, 1) := by decide +kernel
theorem dX6_shift_92 : decode cX6_shift 92 = .ok (.invokevirtual 72, 3) := by decide +kernel
theorem dX6_shift_95 : decode cX6_shift 95 = .ok (.iconst 0, 1) := by decide +kernel
theorem dX6_shift_96 : decode cX6_shift 96 = .ok (.istore_n 3, 1) := by decide +kernel
theorem dX6_shift_97 : decode cX6_shift 97 = .ok (.iload_n 3, 1) := by decide +kernel
theorem dX6_shift_98 : decode cX6_shift 98 = .ok (.aload_n 0, 1) := by decide +kernel
theorem dX6_shift_99 : decode cX6_shift 99 = .ok (.getfield 7, 3) := by decide +kernel
theorem dX6_shift_102 : decode cX6_shift 102 = .ok (.iconst 5, 1) := by decide +kernel
theorem dX6_shift_103 : decode cX6_shift 103 = .ok (.iaload, 1) := by decide +kernel
theorem dX6_shift_104 : decode cX6_shift 104 = .ok (.if_icmp .ge 26, 3) := by decide +kernel
theorem dX6_shift_107 : decode cX6_shift 107 = .ok (.aload_n 0, 1) := by decide +kernel
theorem dX6_shift_108 : decode cX6_shift 108 = .ok (.iload_n 3, 1) := by decide +kernel
theorem dX6_shift_109 : decode cX6_shift 109 = .ok (.aload_n 0, 1) := by decide +kernel
theorem dX6_shift_110 : decode cX6_shift 110 = .ok (.iload_n 3, 1) := by decide +kernel
theorem dX6_shift_111 : decode cX6_shift 111 = .ok (.invokevirtual 57, 3) := by decide +kernel
theorem dX6_shift_114 : decode cX6_shift 114 = .ok (.iload_n 1, 1) := by decide +kernel
theorem dX6_shift_115 : decode cX6_shift 115 = .ok (.iadd, 1) := by decide +kernel
theorem dX6_shift_116 : decode cX6_shift 116 = .ok (.aload_n 0, 1) := by decide +kernel
theorem dX6_shift_117 : decode cX6_shift 117 = .ok (.iload_n 3, 1) := by decide +kernel
theorem dX6_shift_118 : decode cX6_shift 118 = .ok (.invokevirtual 82, 3) := by decide +kernel
theorem dX6_shift_121 : decode cX6_shift 121 = .ok (.invokevirtual 75, 3) := by decide +kernel
theorem dX6_shift_124 : decode cX6_shift 124 = .ok (.iinc 3 1, 3) := by decide +kernel
theorem dX6_shift_127 : decode cX6_shift 127 = .ok (.goto (-30), 3) := by decide +kernel
theorem dX6_shift_130 : decode cX6_shift 130 = .ok (.aload_n 0, 1) := by decide +kernel
theorem dX6_shift_131 : decode cX6_shift 131 = .ok (.getfield 7, 3) := by decide +kernel
theorem dX6_shift_134 : decode cX6_shift 134 = .ok (.iconst 5, 1) := by decide +kernel
theorem dX6_shift_135 : decode cX6_shift 135 = .ok (.iaload, 1) := by decide +kernel
theorem dX6_shift_136 : decode cX6_shift 136 = .ok (.ireturn, 1) := by decide +kernel
theorem dX6_setProducts_0 : decode cX6_setProducts 0 = .ok (.aload_n 0, 1) := by decide +kernel
theorem dX6_setProducts_1 : decode cX6_setProducts 1 = .ok (.iload_n 1, 1) := by decide +kernel
theorem dX6_setProducts_2 : decode cX6_setProducts 2 = .ok (.iconst 0, 1) := by decide +kernel
theorem dX6_setProducts_3 : decode cX6_setProducts 3 = .ok (.bipush 7, 2) := by decide +kernel
theorem dX6_setProducts_5 : decode cX6_setProducts 5 = .ok (.invokestatic 53, 3) := by decide +kernel
theorem dX6_setProducts_8 : decode cX6_setProducts 8 = .ok (.ifCond .eq 29, 3) := by decide +kernel
theorem dX6_setProducts_11 : decode cX6_setProducts 11 = .ok (.iload_n 2, 1) := by decide +kernel
theorem dX6_setProducts_12 : decode cX6_setProducts 12 = .ok (.iconst 0, 1) := by decide +kernel
theorem dX6_setProducts_13 : decode cX6_setProducts 13 = .ok (.sipush 300, 3) := by decide +kernel
theorem dX6_setProducts_16 : decode cX6_setProducts 16 = .ok (.invokestatic 53, 3) := by decide +kernel
theorem dX6_setProducts_19 : decode cX6_setProducts 19 = .ok (.ifCond .eq 18, 3) := by decide +kernel
theorem dX6_setProducts_22 : decode cX6_setProducts 22 = .ok (.iload_n 3, 1) := by decide +kernel
theorem dX6_setProducts_23 : decode cX6_setProducts 23 = .ok (.iconst 0, 1) := by decide +kernel
theorem dX6_setProducts_24 : decode cX6_setProducts 24 = .ok (.sipush 300, 3) := by decide +kernel
theorem dX6_setProducts_27 : decode cX6_setProducts 27 = .ok (.invokestatic 53, 3) := by decide +kernel
theorem dX6_setProducts_30 : decode cX6_setProducts 30 = .ok (.ifCond .eq 7, 3) := by decide +kernel
theorem dX6_setProducts_33 : decode cX6_setProducts 33 = .ok (.iconst 0, 1) := by decide +kernel
theorem dX6_setProducts_34 : decode cX6_setProducts 34 = .ok (.goto 4, 3) := by decide +kernel
theorem dX6_setProducts_37 : decode cX6_setProducts 37 = .ok (.iconst 1, 1) := by decide +kernel
theorem dX6_setProducts_38 : decode cX6_setProducts 38 = .ok (.putfield 43, 3) := by decide +kernel
theorem dX6_setProducts_41 : decode cX6_setProducts 41 = .ok (.aload_n 0, 1) := by decide +kernel
theorem dX6_setProducts_42 : decode cX6_setProducts 42 = .ok (.getfield 43, 3) := by decide +kernel
theorem dX6_setProducts_45 : decode cX6_setProducts 45 = .ok (.ifCond .eq 5, 3) := by decide +kernel
theorem dX6_setProducts_48 : decode cX6_setProducts 48 = .ok (.iconst 0, 1) := by decide +kernel
theorem dX6_setProducts_49 : decode cX6_setProducts 49 = .ok (.ireturn, 1) := by decide +kernel
theorem dX6_setProducts_50 : decode cX6_setProducts 50 = .ok (.aload_n 0, 1) := by decide +kernel
theorem dX6_setProducts_51 : decode cX6_setProducts 51 = .ok (.invokevirtual 72, 3) := by decide +kernel
theorem dX6_setProducts_54 : decode cX6_setProducts 54 = .ok (.aload_n 0, 1) := by decide +kernel
theorem dX6_setProducts_55 : decode cX6_setProducts 55 = .ok (.getfield 7, 3) := by decide +kernel
theorem dX6_setProducts_58 : decode cX6_setProducts 58 = .ok (.iconst 0, 1) := by decide +kernel
theorem dX6_setProducts_59 : decode cX6_setProducts 59 = .ok (.iaload, 1) := by decide +kernel
theorem dX6_setProducts_60 : decode cX6_setProducts 60 = .ok (.istore 4, 2) := by decide +kernel
theorem dX6_setProducts_62 : decode cX6_setProducts 62 = .ok (.aload_n 0, 1) := by decide +kernel
theorem dX6_setProducts_63 : decode cX6_setProducts 63 = .ok (.getfield 7, 3) := by decide +kernel
theorem dX6_setProducts_66 : decode cX6_setProducts 66 = .ok (.iconst 0, 1) := by decide +kernel
theorem dX6_setProducts_67 : decode cX6_setProducts 67 = .ok (.iload_n 1, 1) := by decide +kernel
theorem dX6_setProducts_68 : decode cX6_setProducts 68 = .ok (.iastore, 1) := by decide +kernel
theorem dX6_setProducts_69 : decode cX6_setProducts 69 = .ok (.aload_n 0, 1) := by decide +kernel
theorem dX6_setProducts_70 : decode cX6_setProducts 70 = .ok (.getfield 7, 3) := by decide +kernel
theorem dX6_setProducts_73 : decode cX6_setProducts 73 = .ok (.iconst 1, 1) := by decide +kernel
theorem dX6_setProducts_74 : decode cX6_setProducts 74 = .ok (.iload_n 2, 1) := by decide +kernel
theorem dX6_setProducts_75 : decode cX6_setProducts 75 = .ok (.iastore, 1) := by decide +kernel
theorem dX6_setProducts_76 : decode cX6_setProducts 76 = .ok (.aload_n 0, 1) := by decide +kernel
theorem dX6_setProducts_77 : decode cX6_setProducts 77 = .ok (.getfield 7, 3) := by decide +kernel
theorem dX6_setProducts_80 : decode cX6_setProducts 80 = .ok (.iconst 2, 1) := by decide +kernel
theorem dX6_setProducts_81 : decode cX6_setProducts 81 = .ok (.iload_n 3, 1) := by decide +kernel
theorem dX6_setProducts_82 : decode cX6_setProducts 82 = .ok (.iastore, 1) := by decide +kernel
theorem dX6_setProducts_83 : decode cX6_setProducts 83 = .ok (.iload 4, 2) := by decide +kernel
theorem dX6_setProducts_85 : decode cX6_setProducts 85 = .ok (.ireturn, 1) := by decide +kernel
theorem dX6_setSpacing_0 : decode cX6_setSpacing 0 = .ok (.aload_n 0, 1) := by decide +kernel
theorem dX6_setSpacing_1 : decode cX6_setSpacing 1 = .ok (.iload_n 1, 1) := by decide +kernel
theorem dX6_setSpacing_2 : decode cX6_setSpacing 2 = .ok (.iconst 0, 1) := by decide +kernel
theorem dX6_setSpacing_3 : decode cX6_setSpacing 3 = .ok (.iconst 5, 1) := by decide +kernel
theorem dX6_setSpacing_4 : decode cX6_setSpacing 4 = .ok (.invokestatic 53, 3) := by decide +kernel
theorem dX6_setSpacing_7 : decode cX6_setSpacing 7 = .ok (.ifCond .eq 17, 3) := by decide +kernel
theorem dX6_setSpacing_10 : decode cX6_setSpacing 10 = .ok (.iload_n 2, 1) := by decide +kernel
theorem dX6_setSpacing_11 : decode cX6_setSpacing 11 = .ok (.iconst 1, 1) := by decide +kernel
theorem dX6_setSpacing_12 : decode cX6_setSpacing 12 = .ok (.bipush 10, 2) := by decide +kernel
theorem dX6_setSpacing_14 : decode cX6_setSpacing 14 = .ok (.invokestatic 53, 3) := by decide +kernel
theorem dX6_setSpacing_17 : decode cX6_setSpacing 17 = .ok (.ifCond .eq 7, 3) := by decide +kernel
theorem dX6_setSpacing_20 : decode cX6_setSpacing 20 = .ok (.iconst 0, 1) := by decide +kernel
theorem dX6_setSpacing_21 : decode cX6_setSpacing 21 = .ok (.goto 4, 3) := by decide +kernel
theorem dX6_setSpacing_24 : decode cX6_setSpacing 24 = .ok (.iconst 1, 1) := by decide +kernel
theorem dX6_setSpacing_25 : decode cX6_setSpacing 25 = .ok (.putfield 43, 3) := by decide +kernel
theorem dX6_setSpacing_28 : decode cX6_setSpacing 28 = .ok (.aload_n 0, 1) := by decide +kernel
theorem dX6_setSpacing_29 : decode cX6_setSpacing 29 = .ok (.getfield 43, 3) := by decide +kernel
theorem dX6_setSpacing_32 : decode cX6_setSpacing 32 = .ok (.ifCond .eq 5, 3) := by decide +kernel
theorem dX6_setSpacing_35 : decode cX6_setSpacing 35 = .ok (.iconst 0, 1) := by decide +kernel
theorem dX6_setSpacing_36 : decode cX6_setSpacing 36 = .ok (.ireturn, 1) := by decide +kernel
theorem dX6_setSpacing_37 : decode cX6_setSpacing 37 = .ok (.aload_n 0, 1) := by decide +kernel
theorem dX6_setSpacing_38 : decode cX6_setSpacing 38 = .ok (.invokevirtual 72, 3) := by decide +kernel
theorem dX6_setSpacing_41 : decode cX6_setSpacing 41 = .ok (.aload_n 0, 1) := by decide +kernel
theorem dX6_setSpacing_42 : decode cX6_setSpacing 42 = .ok (.getfield 7, 3) := by decide +kernel
theorem dX6_setSpacing_45 : decode cX6_setSpacing 45 = .ok (.iconst 3, 1) := by decide +kernel
theorem dX6_setSpacing_46 : decode cX6_setSpacing 46 = .ok (.iaload, 1) := by decide +kernel
theorem dX6_setSpacing_47 : decode cX6_setSpacing 47 = .ok (.istore_n 3, 1) := by decide +kernel
theorem dX6_setSpacing_48 : decode cX6_setSpacing 48 = .ok (.aload_n 0, 1) := by decide +kernel
theorem dX6_setSpacing_49 : decode cX6_setSpacing 49 = .ok (.getfield 7, 3) := by decide +kernel
theorem dX6_setSpacing_52 : decode cX6_setSpacing 52 = .ok (.iconst 3, 1) := by decide +kernel
theorem dX6_setSpacing_53 : decode cX6_setSpacing 53 = .ok (.iload_n 1, 1) := by decide +kernel
theorem dX6_setSpacing_54 : decode cX6_setSpacing 54 = .ok (.iastore, 1) := by decide +kernel
theorem dX6_setSpacing_55 : decode cX6_setSpacing 55 = .ok (.aload_n 0, 1) := by decide +kernel
theorem dX6_setSpacing_56 : decode cX6_setSpacing 56 = .ok (.getfield 7, 3) := by decide +kernel
theorem dX6_setSpacing_59 : decode cX6_setSpacing 59 = .ok (.iconst 4, 1) := by decide +kernel
theorem dX6_setSpacing_60 : decode cX6_setSpacing 60 = .ok (.iload_n 2, 1) := by decide +kernel
theorem dX6_setSpacing_61 : decode cX6_setSpacing 61 = .ok (.iastore, 1) := by decide +kernel
theorem dX6_setSpacing_62 : decode cX6_setSpacing 62 = .ok (.iload_n 3, 1) := by decide +kernel
theorem dX6_setSpacing_63 : decode cX6_setSpacing 63 = .ok (.ireturn, 1) := by decide +kernel
theorem dX6_size_0 : decode cX6_size 0 = .ok (.aload_n 0, 1) := by decide +kernel
theorem dX6_size_1 : decode cX6_size 1 = .ok (.iload_n 1, 1) := by decide +kernel
theorem dX6_size_2 : decode cX6_size 2 = .ok (.iconst 0, 1) := by decide +kernel
theorem dX6_size_3 : decode cX6_size 3 = .ok (.iconst 2, 1) := by decide +kernel
theorem dX6_size_4 : decode cX6_size 4 = .ok (.invokestatic 53, 3) := by decide +kernel
theorem dX6_size_7 : decode cX6_size 7 = .ok (.ifCond .eq 7, 3) := by decide +kernel
theorem dX6_size_10 : decode cX6_size 10 = .ok (.iconst 0, 1) := by decide +kernel
theorem dX6_size_11 : decode cX6_size 11 = .ok (.goto 4, 3) := by decide +kernel
theorem dX6_size_14 : decode cX6_size 14 = .ok (.iconst 1, 1) := by decide +kernel
theorem dX6_size_15 : decode cX6_size 15 = .ok (.putfield 43, 3) := by decide +kernel
theorem dX6_size_18 : decode cX6_size 18 = .ok (.aload_n 0, 1) := by decide +kernel
theorem dX6_size_19 : decode cX6_size 19 = .ok (.getfield 43, 3) := by decide +kernel
theorem dX6_size_22 : decode cX6_size 22 = .ok (.ifCond .eq 5, 3) := by decide +kernel
theorem dX6_size_25 : decode cX6_size 25 = .ok (.iconst 0, 1) := by decide +kernel
theorem dX6_size_26 : decode cX6_size 26 = .ok (.ireturn, 1) := by decide +kernel
theorem dX6_size_27 : decode cX6_size 27 = .ok (.iload_n 1, 1) := by decide +kernel
theorem dX6_size_28 : decode cX6_size 28 = .ok (.ifCond .ne 12, 3) := by decide +kernel
theorem dX6_size_31 : decode cX6_size 31 = .ok (.aload_n 0, 1) := by decide +kernel
theorem dX6_size_32 : decode cX6_size 32 = .ok (.getfield 7, 3) := by decide +kernel
theorem dX6_size_35 : decode cX6_size 35 = .ok (.iconst 5, 1) := by decide +kernel
theorem dX6_size_36 : decode cX6_size 36 = .ok (.iaload, 1) := by decide +kernel
theorem dX6_size_37 : decode cX6_size 37 = .ok (.goto 25, 3) := by decide +kernel
theorem dX6_size_40 : decode cX6_size 40 = .ok (.iload_n 1, 1) := by decide +kernel
theorem dX6_size_41 : decode cX6_size 41 = .ok (.iconst 1, 1) := by decide +kernel
theorem dX6_size_42 : decode cX6_size 42 = .ok (.if_icmp .ne 13, 3) := by decide +kernel
theorem dX6_size_45 : decode cX6_size 45 = .ok (.aload_n 0, 1) := by decide +kernel
theorem dX6_size_46 : decode cX6_size 46 = .ok (.getfield 7, 3) := by decide +kernel
theorem dX6_size_49 : decode cX6_size 49 = .ok (.bipush 26, 2) := by decide +kernel
theorem dX6_size_51 : decode cX6_size 51 = .ok (.iaload, 1) := by decide +kernel
theorem dX6_size_52 : decode cX6_size 52 = .ok (.goto 10, 3) := by decide +kernel
theorem dX6_size_55 : decode cX6_size 55 = .ok (.aload_n 0, 1) := by decide +kernel
theorem dX6_size_56 : decode cX6_size 56 = .ok (.getfield 7, 3) := by decide +kernel
theorem dX6_size_59 : decode cX6_size 59 = .ok (.bipush 32, 2) := by decide +kernel
theorem dX6_size_61 : decode cX6_size 61 = .ok (.iaload, 1) := by decide +kernel
theorem dX6_size_62 : decode cX6_size 62 = .ok (.ireturn, 1) := by decide +kernel
theorem dX6_carrier_0 : decode cX6_carrier 0 = .ok (.aload_n 0, 1) := by decide +kernel
theorem dX6_carrier_1 : decode cX6_carrier 1 = .ok (.aload_n 0, 1) := by decide +kernel
theorem dX6_carrier_2 : decode cX6_carrier 2 = .ok (.iload_n 1, 1) := by decide +kernel
theorem dX6_carrier_3 : decode cX6_carrier 3 = .ok (.invokevirtual 79, 3) := by decide +kernel
theorem dX6_carrier_6 : decode cX6_carrier 6 = .ok (.ifCond .eq 7, 3) := by decide +kernel
theorem dX6_carrier_9 : decode cX6_carrier 9 = .ok (.iconst 0, 1) := by decide +kernel
theorem dX6_carrier_10 : decode cX6_carrier 10 = .ok (.goto 4, 3) := by decide +kernel
theorem dX6_carrier_13 : decode cX6_carrier 13 = .ok (.iconst 1, 1) := by decide +kernel
theorem dX6_carrier_14 : decode cX6_carrier 14 = .ok (.putfield 43, 3) := by decide +kernel
theorem dX6_carrier_17 : decode cX6_carrier 17 = .ok (.aload_n 0, 1) := by decide +kernel
theorem dX6_carrier_18 : decode cX6_carrier 18 = .ok (.getfield 43, 3) := by decide +kernel
theorem dX6_carrier_21 : decode cX6_carrier 21 = .ok (.ifCond .eq 7, 3) := by decide +kernel
theorem dX6_carrier_24 : decode cX6_carrier 24 = .ok (.iconst 0, 1) := by decide +kernel
theorem dX6_carrier_25 : decode cX6_carrier 25 = .ok (.goto 20, 3) := by decide +kernel
theorem dX6_carrier_28 : decode cX6_carrier 28 = .ok (.iload_n 2, 1) := by decide +kernel
theorem dX6_carrier_29 : decode cX6_carrier 29 = .ok (.ifCond .eq 11, 3) := by decide +kernel
theorem dX6_carrier_32 : decode cX6_carrier 32 = .ok (.aload_n 0, 1) := by decide +kernel
theorem dX6_carrier_33 : decode cX6_carrier 33 = .ok (.iload_n 1, 1) := by decide +kernel
theorem dX6_carrier_34 : decode cX6_carrier 34 = .ok (.invokevirtual 82, 3) := by decide +kernel
theorem dX6_carrier_37 : decode cX6_carrier 37 = .ok (.goto 8, 3) := by decide +kernel
theorem dX6_carrier_40 : decode cX6_carrier 40 = .ok (.aload_n 0, 1) := by decide +kernel
theorem dX6_carrier_41 : decode cX6_carrier 41 = .ok (.iload_n 1, 1) := by decide +kernel
theorem dX6_carrier_42 : decode cX6_carrier 42 = .ok (.invokevirtual 57, 3) := by decide +kernel
theorem dX6_carrier_45 : decode cX6_carrier 45 = .ok (.ireturn, 1) := by decide +kernel
theorem dX6_channels_0 : decode cX6_channels 0 = .ok (.aload_n 0, 1) := by decide +kernel
theorem dX6_channels_1 : decode cX6_channels 1 = .ok (.iconst 0, 1) := by decide +kernel
theorem dX6_channels_2 : decode cX6_channels 2 = .ok (.putfield 43, 3) := by decide +kernel
theorem dX6_channels_5 : decode cX6_channels 5 = .ok (.lconst 0, 1) := by decide +kernel
theorem dX6_channels_6 : decode cX6_channels 6 = .ok (.lstore_n 1, 1) := by decide +kernel
theorem dX6_channels_7 : decode cX6_channels 7 = .ok (.iconst 0, 1) := by decide +kernel
theorem dX6_channels_8 : decode cX6_channels 8 = .ok (.istore_n 3, 1) := by decide +kernel
theorem dX6_channels_9 : decode cX6_channels 9 = .ok (.iload_n 3, 1) := by decide +kernel
theorem dX6_channels_10 : decode cX6_channels 10 = .ok (.aload_n 0, 1) := by decide +kernel
theorem dX6_channels_11 : decode cX6_channels 11 = .ok (.getfield 7, 3) := by decide +kernel
theorem dX6_channels_14 : decode cX6_channels 14 = .ok (.iconst 5, 1) := by decide +kernel
theorem dX6_channels_15 : decode cX6_channels 15 = .ok (.iaload, 1) := by decide +kernel
theorem dX6_channels_16 : decode cX6_channels 16 = .ok (.if_icmp .ge 19, 3) := by decide +kernel
theorem dX6_channels_19 : decode cX6_channels 19 = .ok (.lload_n 1, 1) := by decide +kernel
theorem dX6_channels_20 : decode cX6_channels 20 = .ok (.lconst 1, 1) := by decide +kernel
theorem dX6_channels_21 : decode cX6_channels 21 = .ok (.aload_n 0, 1) := by decide +kernel
theorem dX6_channels_22 : decode cX6_channels 22 = .ok (.iload_n 3, 1) := by decide +kernel
theorem dX6_channels_23 : decode cX6_channels 23 = .ok (.invokevirtual 57, 3) := by decide +kernel
theorem dX6_channels_26 : decode cX6_channels 26 = .ok (.lshl, 1) := by decide +kernel
theorem dX6_channels_27 : decode cX6_channels 27 = .ok (.lor, 1) := by decide +kernel
theorem dX6_channels_28 : decode cX6_channels 28 = .ok (.lstore_n 1, 1) := by decide +kernel
theorem dX6_channels_29 : decode cX6_channels 29 = .ok (.iinc 3 1, 3) := by decide +kernel
theorem dX6_channels_32 : decode cX6_channels 32 = .ok (.goto (-23), 3) := by decide +kernel
theorem dX6_channels_35 : decode cX6_channels 35 = .ok (.lload_n 1, 1) := by decide +kernel
theorem dX6_channels_36 : decode cX6_channels 36 = .ok (.lreturn, 1) := by decide +kernel
theorem dX6_falls_0 : decode cX6_falls 0 = .ok (.iload_n 1, 1) := by decide +kernel
theorem dX6_falls_1 : decode cX6_falls 1 = .ok (.ifCond .ne 21, 3) := by decide +kernel
theorem dX6_falls_4 : decode cX6_falls 4 = .ok (.iconst 2, 1) := by decide +kernel
theorem dX6_falls_5 : decode cX6_falls 5 = .ok (.aload_n 0, 1) := by decide +kernel
theorem dX6_falls_6 : decode cX6_falls 6 = .ok (.getfield 19, 3) := by decide +kernel
theorem dX6_falls_9 : decode cX6_falls 9 = .ok (.iload_n 2, 1) := by decide +kernel
theorem dX6_falls_10 : decode cX6_falls 10 = .ok (.iaload, 1) := by decide +kernel
theorem dX6_falls_11 : decode cX6_falls 11 = .ok (.imul, 1) := by decide +kernel
theorem dX6_falls_12 : decode cX6_falls 12 = .ok (.aload_n 0, 1) := by decide +kernel
theorem dX6_falls_13 : decode cX6_falls 13 = .ok (.getfield 19, 3) := by decide +kernel
theorem dX6_falls_16 : decode cX6_falls 16 = .ok (.iload_n 3, 1) := by decide +kernel
theorem dX6_falls_17 : decode cX6_falls 17 = .ok (.iaload, 1) := by decide +kernel
theorem dX6_falls_18 : decode cX6_falls 18 = .ok (.isub, 1) := by decide +kernel
theorem dX6_falls_19 : decode cX6_falls 19 = .ok (.goto 49, 3) := by decide +kernel
theorem dX6_falls_22 : decode cX6_falls 22 = .ok (.iload_n 1, 1) := by decide +kernel
theorem dX6_falls_23 : decode cX6_falls 23 = .ok (.iconst 1, 1) := by decide +kernel
theorem dX6_falls_24 : decode cX6_falls 24 = .ok (.if_icmp .ne 27, 3) := by decide +kernel
theorem dX6_falls_27 : decode cX6_falls 27 = .ok (.aload_n 0, 1) := by decide +kernel
theorem dX6_falls_28 : decode cX6_falls 28 = .ok (.getfield 19, 3) := by decide +kernel
theorem dX6_falls_31 : decode cX6_falls 31 = .ok (.iload_n 2, 1) := by decide +kernel
theorem dX6_falls_32 : decode cX6_falls 32 = .ok (.iaload, 1) := by decide +kernel
theorem dX6_falls_33 : decode cX6_falls 33 = .ok (.aload_n 0, 1) := by decide +kernel
theorem dX6_falls_34 : decode cX6_falls 34 = .ok (.getfield 19, 3) := by decide +kernel
theorem dX6_falls_37 : decode cX6_falls 37 = .ok (.iload_n 3, 1) := by decide +kernel
theorem dX6_falls_38 : decode cX6_falls 38 = .ok (.iaload, 1) := by decide +kernel
theorem dX6_falls_39 : decode cX6_falls 39 = .ok (.iadd, 1) := by decide +kernel
theorem dX6_falls_40 : decode cX6_falls 40 = .ok (.aload_n 0, 1) := by decide +kernel
theorem dX6_falls_41 : decode cX6_falls 41 = .ok (.getfield 19, 3) := by decide +kernel
theorem dX6_falls_44 : decode cX6_falls 44 = .ok (.iload 4, 2) := by decide +kernel
theorem dX6_falls_46 : decode cX6_falls 46 = .ok (.iaload, 1) := by decide +kernel
theorem dX6_falls_47 : decode cX6_falls 47 = .ok (.isub, 1) := by decide +kernel
theorem dX6_falls_48 : decode cX6_falls 48 = .ok (.goto 20, 3) := by decide +kernel
theorem dX6_falls_51 : decode cX6_falls 51 = .ok (.iconst 3, 1) := by decide +kernel
theorem dX6_falls_52 : decode cX6_falls 52 = .ok (.aload_n 0, 1) := by decide +kernel
theorem dX6_falls_53 : decode cX6_falls 53 = .ok (.getfield 19, 3) := by decide +kernel
theorem dX6_falls_56 : decode cX6_falls 56 = .ok (.iload_n 2, 1) := by decide +kernel
theorem dX6_falls_57 : decode cX6_falls 57 = .ok (.iaload, 1) := by decide +kernel
theorem dX6_falls_58 : decode cX6_falls 58 = .ok (.imul, 1) := by decide +kernel
theorem dX6_falls_59 : decode cX6_falls 59 = .ok (.iconst 2, 1) := by decide +kernel
theorem dX6_falls_60 : decode cX6_falls 60 = .ok (.aload_n 0, 1) := by decide +kernel
theorem dX6_falls_61 : decode cX6_falls 61 = .ok (.getfield 19, 3) := by decide +kernel
theorem dX6_falls_64 : decode cX6_falls 64 = .ok (.iload_n 3, 1) := by decide +kernel
theorem dX6_falls_65 : decode cX6_falls 65 = .ok (.iaload, 1) := by decide +kernel
theorem dX6_falls_66 : decode cX6_falls 66 = .ok (.imul, 1) := by decide +kernel
theorem dX6_falls_67 : decode cX6_falls 67 = .ok (.isub, 1) := by decide +kernel
theorem dX6_falls_68 : decode cX6_falls 68 = .ok (.istore 5, 2) := by decide +kernel
theorem dX6_falls_70 : decode cX6_falls 70 = .ok (.iload 5, 2) := by decide +kernel
theorem dX6_falls_72 : decode cX6_falls 72 = .ok (.invokestatic 61, 3) := by decide +kernel
theorem dX6_falls_75 : decode cX6_falls 75 = .ok (.ifCond .eq 33, 3) := by decide +kernel
theorem dX6_falls_78 : decode cX6_falls 78 = .ok (.aload_n 0, 1) := by decide +kernel
theorem dX6_falls_79 : decode cX6_falls 79 = .ok (.getfield 7, 3) := by decide +kernel
theorem dX6_falls_82 : decode cX6_falls 82 = .ok (.iconst 0, 1) := by decide +kernel
theorem dX6_falls_83 : decode cX6_falls 83 = .ok (.iaload, 1) := by decide +kernel
theorem dX6_falls_84 : decode cX6_falls 84 = .ok (.iload_n 1, 1) := by decide +kernel
theorem dX6_falls_85 : decode cX6_falls 85 = .ok (.invokestatic 85, 3) := by decide +kernel
theorem dX6_falls_88 : decode cX6_falls 88 = .ok (.ifCond .eq 20, 3) := by decide +kernel
theorem dX6_falls_91 : decode cX6_falls 91 = .ok (.aload_n 0, 1) := by decide +kernel
theorem dX6_falls_92 : decode cX6_falls 92 = .ok (.iload_n 1, 1) := by decide +kernel
theorem dX6_falls_93 : decode cX6_falls 93 = .ok (.iload_n 2, 1) := by decide +kernel
theorem dX6_falls_94 : decode cX6_falls 94 = .ok (.iload_n 3, 1) := by decide +kernel
theorem dX6_falls_95 : decode cX6_falls 95 = .ok (.iload 4, 2) := by decide +kernel
theorem dX6_falls_97 : decode cX6_falls 97 = .ok (.invokevirtual 88, 3) := by decide +kernel
theorem dX6_falls_100 : decode cX6_falls 100 = .ok (.ifCond .lt 8, 3) := by decide +kernel
theorem dX6_falls_103 : decode cX6_falls 103 = .ok (.iload 5, 2) := by decide +kernel
theorem dX6_falls_105 : decode cX6_falls 105 = .ok (.goto 4, 3) := by decide +kernel
theorem dX6_falls_108 : decode cX6_falls 108 = .ok (.iconst (-1), 1) := by decide +kernel
theorem dX6_falls_109 : decode cX6_falls 109 = .ok (.ireturn, 1) := by decide +kernel
theorem dX6_level_0 : decode cX6_level 0 = .ok (.iload_n 1, 1) := by decide +kernel
end
section
theorem dX6_level_1 : decode cX6_level 1 = .ok (.iconst 2, 1) := by decide +kernel
theorem dX6_level_2 : decode cX6_level 2 = .ok (.if_icmp .ne 28, 3) := by decide +kernel
theorem dX6_level_5 : decode cX6_level 5 = .ok (.iconst 3, 1) := by decide +kernel
theorem dX6_level_6 : decode cX6_level 6 = .ok (.aload_n 0, 1) := by decide +kernel
theorem dX6_level_7 : decode cX6_level 7 = .ok (.getfield 22, 3) := by decide +kernel
theorem dX6_level_10 : decode cX6_level 10 = .ok (.iload_n 2, 1) := by decide +kernel
theorem dX6_level_11 : decode cX6_level 11 = .ok (.iaload, 1) := by decide +kernel
theorem dX6_level_12 : decode cX6_level 12 = .ok (.imul, 1) := by decide +kernel
theorem dX6_level_13 : decode cX6_level 13 = .ok (.iconst 2, 1) := by decide +kernel
theorem dX6_level_14 : decode cX6_level 14 = .ok (.aload_n 0, 1) := by decide +kernel
theorem dX6_level_15 : decode cX6_level 15 = .ok (.getfield 22, 3) := by decide +kernel
theorem dX6_level_18 : decode cX6_level 18 = .ok (.iload_n 3, 1) := by decide +kernel
theorem dX6_level_19 : decode cX6_level 19 = .ok (.iaload, 1) := by decide +kernel
theorem dX6_level_20 : decode cX6_level 20 = .ok (.imul, 1) := by decide +kernel
theorem dX6_level_21 : decode cX6_level 21 = .ok (.iadd, 1) := by decide +kernel
theorem dX6_level_22 : decode cX6_level 22 = .ok (.aload_n 0, 1) := by decide +kernel
theorem dX6_level_23 : decode cX6_level 23 = .ok (.getfield 7, 3) := by decide +kernel
theorem dX6_level_26 : decode cX6_level 26 = .ok (.iconst 2, 1) := by decide +kernel
theorem dX6_level_27 : decode cX6_level 27 = .ok (.iaload, 1) := by decide +kernel
theorem dX6_level_28 : decode cX6_level 28 = .ok (.isub, 1) := by decide +kernel
theorem dX6_level_29 : decode cX6_level 29 = .ok (.ireturn, 1) := by decide +kernel
theorem dX6_level_30 : decode cX6_level 30 = .ok (.aload_n 0, 1) := by decide +kernel
theorem dX6_level_31 : decode cX6_level 31 = .ok (.getfield 22, 3) := by decide +kernel
theorem dX6_level_34 : decode cX6_level 34 = .ok (.iload_n 2, 1) := by decide +kernel
theorem dX6_level_35 : decode cX6_level 35 = .ok (.iaload, 1) := by decide +kernel
theorem dX6_level_36 : decode cX6_level 36 = .ok (.aload_n 0, 1) := by decide +kernel
theorem dX6_level_37 : decode cX6_level 37 = .ok (.getfield 22, 3) := by decide +kernel
theorem dX6_level_40 : decode cX6_level 40 = .ok (.iload_n 3, 1) := by decide +kernel
theorem dX6_level_41 : decode cX6_level 41 = .ok (.iaload, 1) := by decide +kernel
theorem dX6_level_42 : decode cX6_level 42 = .ok (.iadd, 1) := by decide +kernel
theorem dX6_level_43 : decode cX6_level 43 = .ok (.aload_n 0, 1) := by decide +kernel
theorem dX6_level_44 : decode cX6_level 44 = .ok (.getfield 22, 3) := by decide +kernel
theorem dX6_level_47 : decode cX6_level 47 = .ok (.iload_n 1, 1) := by decide +kernel
theorem dX6_level_48 : decode cX6_level 48 = .ok (.ifCond .ne 7, 3) := by decide +kernel
theorem dX6_level_51 : decode cX6_level 51 = .ok (.iload_n 2, 1) := by decide +kernel
theorem dX6_level_52 : decode cX6_level 52 = .ok (.goto 5, 3) := by decide +kernel
theorem dX6_level_55 : decode cX6_level 55 = .ok (.iload 4, 2) := by decide +kernel
theorem dX6_level_57 : decode cX6_level 57 = .ok (.iaload, 1) := by decide +kernel
theorem dX6_level_58 : decode cX6_level 58 = .ok (.iadd, 1) := by decide +kernel
theorem dX6_level_59 : decode cX6_level 59 = .ok (.aload_n 0, 1) := by decide +kernel
theorem dX6_level_60 : decode cX6_level 60 = .ok (.getfield 7, 3) := by decide +kernel
theorem dX6_level_63 : decode cX6_level 63 = .ok (.iconst 1, 1) := by decide +kernel
theorem dX6_level_64 : decode cX6_level 64 = .ok (.iaload, 1) := by decide +kernel
theorem dX6_level_65 : decode cX6_level 65 = .ok (.isub, 1) := by decide +kernel
theorem dX6_level_66 : decode cX6_level 66 = .ok (.ireturn, 1) := by decide +kernel
theorem dX6_lists_0 : decode cX6_lists 0 = .ok (.aload_n 0, 1) := by decide +kernel
theorem dX6_lists_1 : decode cX6_lists 1 = .ok (.iload_n 1, 1) := by decide +kernel
theorem dX6_lists_2 : decode cX6_lists 2 = .ok (.iload_n 2, 1) := by decide +kernel
theorem dX6_lists_3 : decode cX6_lists 3 = .ok (.iload_n 3, 1) := by decide +kernel
theorem dX6_lists_4 : decode cX6_lists 4 = .ok (.iload 4, 2) := by decide +kernel
theorem dX6_lists_6 : decode cX6_lists 6 = .ok (.invokevirtual 92, 3) := by decide +kernel
theorem dX6_lists_9 : decode cX6_lists 9 = .ok (.istore 5, 2) := by decide +kernel
theorem dX6_lists_11 : decode cX6_lists 11 = .ok (.iload 5, 2) := by decide +kernel
theorem dX6_lists_13 : decode cX6_lists 13 = .ok (.iconst (-1), 1) := by decide +kernel
theorem dX6_lists_14 : decode cX6_lists 14 = .ok (.if_icmp .eq 99, 3) := by decide +kernel
theorem dX6_lists_17 : decode cX6_lists 17 = .ok (.bipush 6, 2) := by decide +kernel
theorem dX6_lists_19 : decode cX6_lists 19 = .ok (.aload_n 0, 1) := by decide +kernel
theorem dX6_lists_20 : decode cX6_lists 20 = .ok (.getfield 95, 3) := by decide +kernel
theorem dX6_lists_23 : decode cX6_lists 23 = .ok (.imul, 1) := by decide +kernel
theorem dX6_lists_24 : decode cX6_lists 24 = .ok (.istore 6, 2) := by decide +kernel
theorem dX6_lists_26 : decode cX6_lists 26 = .ok (.aload_n 0, 1) := by decide +kernel
theorem dX6_lists_27 : decode cX6_lists 27 = .ok (.getfield 25, 3) := by decide +kernel
theorem dX6_lists_30 : decode cX6_lists 30 = .ok (.iload 6, 2) := by decide +kernel
theorem dX6_lists_32 : decode cX6_lists 32 = .ok (.iload_n 1, 1) := by decide +kernel
theorem dX6_lists_33 : decode cX6_lists 33 = .ok (.iastore, 1) := by decide +kernel
theorem dX6_lists_34 : decode cX6_lists 34 = .ok (.aload_n 0, 1) := by decide +kernel
theorem dX6_lists_35 : decode cX6_lists 35 = .ok (.getfield 25, 3) := by decide +kernel
theorem dX6_lists_38 : decode cX6_lists 38 = .ok (.iload 6, 2) := by decide +kernel
theorem dX6_lists_40 : decode cX6_lists 40 = .ok (.iconst 1, 1) := by decide +kernel
theorem dX6_lists_41 : decode cX6_lists 41 = .ok (.iadd, 1) := by decide +kernel
theorem dX6_lists_42 : decode cX6_lists 42 = .ok (.iload_n 2, 1) := by decide +kernel
theorem dX6_lists_43 : decode cX6_lists 43 = .ok (.iastore, 1) := by decide +kernel
theorem dX6_lists_44 : decode cX6_lists 44 = .ok (.aload_n 0, 1) := by decide +kernel
theorem dX6_lists_45 : decode cX6_lists 45 = .ok (.getfield 25, 3) := by decide +kernel
theorem dX6_lists_48 : decode cX6_lists 48 = .ok (.iload 6, 2) := by decide +kernel
theorem dX6_lists_50 : decode cX6_lists 50 = .ok (.iconst 2, 1) := by decide +kernel
theorem dX6_lists_51 : decode cX6_lists 51 = .ok (.iadd, 1) := by decide +kernel
theorem dX6_lists_52 : decode cX6_lists 52 = .ok (.iload_n 3, 1) := by decide +kernel
theorem dX6_lists_53 : decode cX6_lists 53 = .ok (.iastore, 1) := by decide +kernel
theorem dX6_lists_54 : decode cX6_lists 54 = .ok (.aload_n 0, 1) := by decide +kernel
theorem dX6_lists_55 : decode cX6_lists 55 = .ok (.getfield 25, 3) := by decide +kernel
theorem dX6_lists_58 : decode cX6_lists 58 = .ok (.iload 6, 2) := by decide +kernel
theorem dX6_lists_60 : decode cX6_lists 60 = .ok (.iconst 3, 1) := by decide +kernel
theorem dX6_lists_61 : decode cX6_lists 61 = .ok (.iadd, 1) := by decide +kernel
theorem dX6_lists_62 : decode cX6_lists 62 = .ok (.iload_n 1, 1) := by decide +kernel
theorem dX6_lists_63 : decode cX6_lists 63 = .ok (.iconst 1, 1) := by decide +kernel
theorem dX6_lists_64 : decode cX6_lists 64 = .ok (.if_icmp .ne 8, 3) := by decide +kernel
theorem dX6_lists_67 : decode cX6_lists 67 = .ok (.iload 4, 2) := by decide +kernel
theorem dX6_lists_69 : decode cX6_lists 69 = .ok (.goto 4, 3) := by decide +kernel
theorem dX6_lists_72 : decode cX6_lists 72 = .ok (.iconst (-1), 1) := by decide +kernel
theorem dX6_lists_73 : decode cX6_lists 73 = .ok (.iastore, 1) := by decide +kernel
theorem dX6_lists_74 : decode cX6_lists 74 = .ok (.aload_n 0, 1) := by decide +kernel
theorem dX6_lists_75 : decode cX6_lists 75 = .ok (.getfield 25, 3) := by decide +kernel
theorem dX6_lists_78 : decode cX6_lists 78 = .ok (.iload 6, 2) := by decide +kernel
theorem dX6_lists_80 : decode cX6_lists 80 = .ok (.iconst 4, 1) := by decide +kernel
theorem dX6_lists_81 : decode cX6_lists 81 = .ok (.iadd, 1) := by decide +kernel
theorem dX6_lists_82 : decode cX6_lists 82 = .ok (.iload 5, 2) := by decide +kernel
theorem dX6_lists_84 : decode cX6_lists 84 = .ok (.iastore, 1) := by decide +kernel
theorem dX6_lists_85 : decode cX6_lists 85 = .ok (.aload_n 0, 1) := by decide +kernel
theorem dX6_lists_86 : decode cX6_lists 86 = .ok (.getfield 25, 3) := by decide +kernel
theorem dX6_lists_89 : decode cX6_lists 89 = .ok (.iload 6, 2) := by decide +kernel
theorem dX6_lists_91 : decode cX6_lists 91 = .ok (.iconst 5, 1) := by decide +kernel
theorem dX6_lists_92 : decode cX6_lists 92 = .ok (.iadd, 1) := by decide +kernel
theorem dX6_lists_93 : decode cX6_lists 93 = .ok (.aload_n 0, 1) := by decide +kernel
theorem dX6_lists_94 : decode cX6_lists 94 = .ok (.iload_n 1, 1) := by decide +kernel
theorem dX6_lists_95 : decode cX6_lists 95 = .ok (.iload_n 2, 1) := by decide +kernel
theorem dX6_lists_96 : decode cX6_lists 96 = .ok (.iload_n 3, 1) := by decide +kernel
theorem dX6_lists_97 : decode cX6_lists 97 = .ok (.iload 4, 2) := by decide +kernel
theorem dX6_lists_99 : decode cX6_lists 99 = .ok (.invokevirtual 88, 3) := by decide +kernel
theorem dX6_lists_102 : decode cX6_lists 102 = .ok (.iastore, 1) := by decide +kernel
theorem dX6_lists_103 : decode cX6_lists 103 = .ok (.aload_n 0, 1) := by decide +kernel
theorem dX6_lists_104 : decode cX6_lists 104 = .ok (.dup, 1) := by decide +kernel
theorem dX6_lists_105 : decode cX6_lists 105 = .ok (.getfield 95, 3) := by decide +kernel
theorem dX6_lists_108 : decode cX6_lists 108 = .ok (.iconst 1, 1) := by decide +kernel
theorem dX6_lists_109 : decode cX6_lists 109 = .ok (.iadd, 1) := by decide +kernel
theorem dX6_lists_110 : decode cX6_lists 110 = .ok (.putfield 95, 3) := by decide +kernel
theorem dX6_lists_113 : decode cX6_lists 113 = .ok (.return_, 1) := by decide +kernel
theorem dX6_rowsOfAll_0 : decode cX6_rowsOfAll 0 = .ok (.iconst 0, 1) := by decide +kernel
theorem dX6_rowsOfAll_1 : decode cX6_rowsOfAll 1 = .ok (.istore_n 1, 1) := by decide +kernel
theorem dX6_rowsOfAll_2 : decode cX6_rowsOfAll 2 = .ok (.iload_n 1, 1) := by decide +kernel
theorem dX6_rowsOfAll_3 : decode cX6_rowsOfAll 3 = .ok (.aload_n 0, 1) := by decide +kernel
theorem dX6_rowsOfAll_4 : decode cX6_rowsOfAll 4 = .ok (.getfield 7, 3) := by decide +kernel
theorem dX6_rowsOfAll_7 : decode cX6_rowsOfAll 7 = .ok (.iconst 5, 1) := by decide +kernel
theorem dX6_rowsOfAll_8 : decode cX6_rowsOfAll 8 = .ok (.iaload, 1) := by decide +kernel
theorem dX6_rowsOfAll_9 : decode cX6_rowsOfAll 9 = .ok (.if_icmp .ge 31, 3) := by decide +kernel
theorem dX6_rowsOfAll_12 : decode cX6_rowsOfAll 12 = .ok (.aload_n 0, 1) := by decide +kernel
theorem dX6_rowsOfAll_13 : decode cX6_rowsOfAll 13 = .ok (.getfield 19, 3) := by decide +kernel
theorem dX6_rowsOfAll_16 : decode cX6_rowsOfAll 16 = .ok (.iload_n 1, 1) := by decide +kernel
theorem dX6_rowsOfAll_17 : decode cX6_rowsOfAll 17 = .ok (.aload_n 0, 1) := by decide +kernel
theorem dX6_rowsOfAll_18 : decode cX6_rowsOfAll 18 = .ok (.iload_n 1, 1) := by decide +kernel
theorem dX6_rowsOfAll_19 : decode cX6_rowsOfAll 19 = .ok (.invokevirtual 57, 3) := by decide +kernel
theorem dX6_rowsOfAll_22 : decode cX6_rowsOfAll 22 = .ok (.iastore, 1) := by decide +kernel
theorem dX6_rowsOfAll_23 : decode cX6_rowsOfAll 23 = .ok (.aload_n 0, 1) := by decide +kernel
theorem dX6_rowsOfAll_24 : decode cX6_rowsOfAll 24 = .ok (.getfield 22, 3) := by decide +kernel
theorem dX6_rowsOfAll_27 : decode cX6_rowsOfAll 27 = .ok (.iload_n 1, 1) := by decide +kernel
theorem dX6_rowsOfAll_28 : decode cX6_rowsOfAll 28 = .ok (.aload_n 0, 1) := by decide +kernel
theorem dX6_rowsOfAll_29 : decode cX6_rowsOfAll 29 = .ok (.iload_n 1, 1) := by decide +kernel
theorem dX6_rowsOfAll_30 : decode cX6_rowsOfAll 30 = .ok (.invokevirtual 82, 3) := by decide +kernel
theorem dX6_rowsOfAll_33 : decode cX6_rowsOfAll 33 = .ok (.iastore, 1) := by decide +kernel
theorem dX6_rowsOfAll_34 : decode cX6_rowsOfAll 34 = .ok (.iinc 1 1, 3) := by decide +kernel
theorem dX6_rowsOfAll_37 : decode cX6_rowsOfAll 37 = .ok (.goto (-35), 3) := by decide +kernel
theorem dX6_rowsOfAll_40 : decode cX6_rowsOfAll 40 = .ok (.return_, 1) := by decide +kernel
theorem dX6_listAll_0 : decode cX6_listAll 0 = .ok (.aload_n 0, 1) := by decide +kernel
theorem dX6_listAll_1 : decode cX6_listAll 1 = .ok (.invokevirtual 98, 3) := by decide +kernel
theorem dX6_listAll_4 : decode cX6_listAll 4 = .ok (.aload_n 0, 1) := by decide +kernel
theorem dX6_listAll_5 : decode cX6_listAll 5 = .ok (.iconst 0, 1) := by decide +kernel
theorem dX6_listAll_6 : decode cX6_listAll 6 = .ok (.putfield 95, 3) := by decide +kernel
theorem dX6_listAll_9 : decode cX6_listAll 9 = .ok (.aload_n 0, 1) := by decide +kernel
theorem dX6_listAll_10 : decode cX6_listAll 10 = .ok (.getfield 7, 3) := by decide +kernel
theorem dX6_listAll_13 : decode cX6_listAll 13 = .ok (.iconst 5, 1) := by decide +kernel
theorem dX6_listAll_14 : decode cX6_listAll 14 = .ok (.iaload, 1) := by decide +kernel
theorem dX6_listAll_15 : decode cX6_listAll 15 = .ok (.istore_n 2, 1) := by decide +kernel
theorem dX6_listAll_16 : decode cX6_listAll 16 = .ok (.iconst 0, 1) := by decide +kernel
theorem dX6_listAll_17 : decode cX6_listAll 17 = .ok (.istore_n 3, 1) := by decide +kernel
theorem dX6_listAll_18 : decode cX6_listAll 18 = .ok (.iload_n 3, 1) := by decide +kernel
theorem dX6_listAll_19 : decode cX6_listAll 19 = .ok (.iconst 3, 1) := by decide +kernel
theorem dX6_listAll_20 : decode cX6_listAll 20 = .ok (.if_icmp .ge 151, 3) := by decide +kernel
theorem dX6_listAll_23 : decode cX6_listAll 23 = .ok (.iconst 0, 1) := by decide +kernel
theorem dX6_listAll_24 : decode cX6_listAll 24 = .ok (.istore 4, 2) := by decide +kernel
theorem dX6_listAll_26 : decode cX6_listAll 26 = .ok (.iload 4, 2) := by decide +kernel
theorem dX6_listAll_28 : decode cX6_listAll 28 = .ok (.iload_n 2, 1) := by decide +kernel
theorem dX6_listAll_29 : decode cX6_listAll 29 = .ok (.if_icmp .ge 136, 3) := by decide +kernel
theorem dX6_listAll_32 : decode cX6_listAll 32 = .ok (.iload_n 3, 1) := by decide +kernel
theorem dX6_listAll_33 : decode cX6_listAll 33 = .ok (.iconst 1, 1) := by decide +kernel
theorem dX6_listAll_34 : decode cX6_listAll 34 = .ok (.if_icmp .ne 10, 3) := by decide +kernel
theorem dX6_listAll_37 : decode cX6_listAll 37 = .ok (.iload 4, 2) := by decide +kernel
theorem dX6_listAll_39 : decode cX6_listAll 39 = .ok (.iconst 1, 1) := by decide +kernel
theorem dX6_listAll_40 : decode cX6_listAll 40 = .ok (.iadd, 1) := by decide +kernel
theorem dX6_listAll_41 : decode cX6_listAll 41 = .ok (.goto 4, 3) := by decide +kernel
theorem dX6_listAll_44 : decode cX6_listAll 44 = .ok (.iconst 0, 1) := by decide +kernel
theorem dX6_listAll_45 : decode cX6_listAll 45 = .ok (.istore 5, 2) := by decide +kernel
theorem dX6_listAll_47 : decode cX6_listAll 47 = .ok (.iload 5, 2) := by decide +kernel
theorem dX6_listAll_49 : decode cX6_listAll 49 = .ok (.iload_n 2, 1) := by decide +kernel
theorem dX6_listAll_50 : decode cX6_listAll 50 = .ok (.if_icmp .ge 109, 3) := by decide +kernel
theorem dX6_listAll_53 : decode cX6_listAll 53 = .ok (.iload 4, 2) := by decide +kernel
theorem dX6_listAll_55 : decode cX6_listAll 55 = .ok (.iload 5, 2) := by decide +kernel
theorem dX6_listAll_57 : decode cX6_listAll 57 = .ok (.if_icmp .eq 25, 3) := by decide +kernel
theorem dX6_listAll_60 : decode cX6_listAll 60 = .ok (.iload_n 1, 1) := by decide +kernel
theorem dX6_listAll_61 : decode cX6_listAll 61 = .ok (.iload 4, 2) := by decide +kernel
theorem dX6_listAll_63 : decode cX6_listAll 63 = .ok (.invokestatic 85, 3) := by decide +kernel
theorem dX6_listAll_66 : decode cX6_listAll 66 = .ok (.ifCond .eq 16, 3) := by decide +kernel
theorem dX6_listAll_69 : decode cX6_listAll 69 = .ok (.iload_n 1, 1) := by decide +kernel
theorem dX6_listAll_70 : decode cX6_listAll 70 = .ok (.iload 5, 2) := by decide +kernel
theorem dX6_listAll_72 : decode cX6_listAll 72 = .ok (.invokestatic 85, 3) := by decide +kernel
theorem dX6_listAll_75 : decode cX6_listAll 75 = .ok (.ifCond .eq 7, 3) := by decide +kernel
theorem dX6_listAll_78 : decode cX6_listAll 78 = .ok (.iconst 1, 1) := by decide +kernel
theorem dX6_listAll_79 : decode cX6_listAll 79 = .ok (.goto 4, 3) := by decide +kernel
theorem dX6_listAll_82 : decode cX6_listAll 82 = .ok (.iconst 0, 1) := by decide +kernel
theorem dX6_listAll_83 : decode cX6_listAll 83 = .ok (.istore 6, 2) := by decide +kernel
theorem dX6_listAll_85 : decode cX6_listAll 85 = .ok (.iconst 0, 1) := by decide +kernel
theorem dX6_listAll_86 : decode cX6_listAll 86 = .ok (.istore 7, 2) := by decide +kernel
theorem dX6_listAll_88 : decode cX6_listAll 88 = .ok (.iload 7, 2) := by decide +kernel
theorem dX6_listAll_90 : decode cX6_listAll 90 = .ok (.iload_n 3, 1) := by decide +kernel
theorem dX6_listAll_91 : decode cX6_listAll 91 = .ok (.iconst 1, 1) := by decide +kernel
theorem dX6_listAll_92 : decode cX6_listAll 92 = .ok (.if_icmp .ne 7, 3) := by decide +kernel
theorem dX6_listAll_95 : decode cX6_listAll 95 = .ok (.iload_n 2, 1) := by decide +kernel
theorem dX6_listAll_96 : decode cX6_listAll 96 = .ok (.goto 4, 3) := by decide +kernel
theorem dX6_listAll_99 : decode cX6_listAll 99 = .ok (.iconst 1, 1) := by decide +kernel
theorem dX6_listAll_100 : decode cX6_listAll 100 = .ok (.if_icmp .ge 53, 3) := by decide +kernel
theorem dX6_listAll_103 : decode cX6_listAll 103 = .ok (.iload 6, 2) := by decide +kernel
theorem dX6_listAll_105 : decode cX6_listAll 105 = .ok (.ifCond .eq 48, 3) := by decide +kernel
theorem dX6_listAll_108 : decode cX6_listAll 108 = .ok (.iload_n 3, 1) := by decide +kernel
theorem dX6_listAll_109 : decode cX6_listAll 109 = .ok (.iconst 1, 1) := by decide +kernel
theorem dX6_listAll_110 : decode cX6_listAll 110 = .ok (.if_icmp .ne 26, 3) := by decide +kernel
theorem dX6_listAll_113 : decode cX6_listAll 113 = .ok (.iload 7, 2) := by decide +kernel
theorem dX6_listAll_115 : decode cX6_listAll 115 = .ok (.iload 4, 2) := by decide +kernel
theorem dX6_listAll_117 : decode cX6_listAll 117 = .ok (.if_icmp .eq 30, 3) := by decide +kernel
theorem dX6_listAll_120 : decode cX6_listAll 120 = .ok (.iload 7, 2) := by decide +kernel
theorem dX6_listAll_122 : decode cX6_listAll 122 = .ok (.iload 5, 2) := by decide +kernel
theorem dX6_listAll_124 : decode cX6_listAll 124 = .ok (.if_icmp .eq 23, 3) := by decide +kernel
theorem dX6_listAll_127 : decode cX6_listAll 127 = .ok (.iload_n 1, 1) := by decide +kernel
theorem dX6_listAll_128 : decode cX6_listAll 128 = .ok (.iload 7, 2) := by decide +kernel
theorem dX6_listAll_130 : decode cX6_listAll 130 = .ok (.invokestatic 85, 3) := by decide +kernel
theorem dX6_listAll_133 : decode cX6_listAll 133 = .ok (.ifCond .eq 14, 3) := by decide +kernel
theorem dX6_listAll_136 : decode cX6_listAll 136 = .ok (.aload_n 0, 1) := by decide +kernel
theorem dX6_listAll_137 : decode cX6_listAll 137 = .ok (.iload_n 3, 1) := by decide +kernel
theorem dX6_listAll_138 : decode cX6_listAll 138 = .ok (.iload 4, 2) := by decide +kernel
theorem dX6_listAll_140 : decode cX6_listAll 140 = .ok (.iload 5, 2) := by decide +kernel
theorem dX6_listAll_142 : decode cX6_listAll 142 = .ok (.iload 7, 2) := by decide +kernel
theorem dX6_listAll_144 : decode cX6_listAll 144 = .ok (.invokevirtual 101, 3) := by decide +kernel
theorem dX6_listAll_147 : decode cX6_listAll 147 = .ok (.iinc 7 1, 3) := by decide +kernel
theorem dX6_listAll_150 : decode cX6_listAll 150 = .ok (.goto (-62), 3) := by decide +kernel
theorem dX6_listAll_153 : decode cX6_listAll 153 = .ok (.iinc 5 1, 3) := by decide +kernel
theorem dX6_listAll_156 : decode cX6_listAll 156 = .ok (.goto (-109), 3) := by decide +kernel
theorem dX6_listAll_159 : decode cX6_listAll 159 = .ok (.iinc 4 1, 3) := by decide +kernel
theorem dX6_listAll_162 : decode cX6_listAll 162 = .ok (.goto (-136), 3) := by decide +kernel
theorem dX6_listAll_165 : decode cX6_listAll 165 = .ok (.iinc 3 1, 3) := by decide +kernel
theorem dX6_listAll_168 : decode cX6_listAll 168 = .ok (.goto (-150), 3) := by decide +kernel
theorem dX6_listAll_171 : decode cX6_listAll 171 = .ok (.return_, 1) := by decide +kernel
theorem dX6_all_0 : decode cX6_all 0 = .ok (.iconst 1, 1) := by decide +kernel
theorem dX6_all_1 : decode cX6_all 1 = .ok (.aload_n 0, 1) := by decide +kernel
theorem dX6_all_2 : decode cX6_all 2 = .ok (.getfield 7, 3) := by decide +kernel
theorem dX6_all_5 : decode cX6_all 5 = .ok (.iconst 5, 1) := by decide +kernel
theorem dX6_all_6 : decode cX6_all 6 = .ok (.iaload, 1) := by decide +kernel
theorem dX6_all_7 : decode cX6_all 7 = .ok (.ishl, 1) := by decide +kernel
theorem dX6_all_8 : decode cX6_all 8 = .ok (.iconst 1, 1) := by decide +kernel
theorem dX6_all_9 : decode cX6_all 9 = .ok (.isub, 1) := by decide +kernel
theorem dX6_all_10 : decode cX6_all 10 = .ok (.ireturn, 1) := by decide +kernel
theorem dX6_products_0 : decode cX6_products 0 = .ok (.aload_n 0, 1) := by decide +kernel
theorem dX6_products_1 : decode cX6_products 1 = .ok (.iconst 0, 1) := by decide +kernel
theorem dX6_products_2 : decode cX6_products 2 = .ok (.putfield 43, 3) := by decide +kernel
theorem dX6_products_5 : decode cX6_products 5 = .ok (.aload_n 0, 1) := by decide +kernel
theorem dX6_products_6 : decode cX6_products 6 = .ok (.aload_n 0, 1) := by decide +kernel
theorem dX6_products_7 : decode cX6_products 7 = .ok (.invokevirtual 105, 3) := by decide +kernel
theorem dX6_products_10 : decode cX6_products 10 = .ok (.invokevirtual 109, 3) := by decide +kernel
theorem dX6_products_13 : decode cX6_products 13 = .ok (.aload_n 0, 1) := by decide +kernel
theorem dX6_products_14 : decode cX6_products 14 = .ok (.getfield 95, 3) := by decide +kernel
theorem dX6_products_17 : decode cX6_products 17 = .ok (.ireturn, 1) := by decide +kernel
theorem dX6_product_0 : decode cX6_product 0 = .ok (.aload_n 0, 1) := by decide +kernel
theorem dX6_product_1 : decode cX6_product 1 = .ok (.aload_n 0, 1) := by decide +kernel
theorem dX6_product_2 : decode cX6_product 2 = .ok (.invokevirtual 105, 3) := by decide +kernel
theorem dX6_product_5 : decode cX6_product 5 = .ok (.invokevirtual 109, 3) := by decide +kernel
theorem dX6_product_8 : decode cX6_product 8 = .ok (.aload_n 0, 1) := by decide +kernel
theorem dX6_product_9 : decode cX6_product 9 = .ok (.iload_n 1, 1) := by decide +kernel
theorem dX6_product_10 : decode cX6_product 10 = .ok (.iconst 0, 1) := by decide +kernel
theorem dX6_product_11 : decode cX6_product 11 = .ok (.aload_n 0, 1) := by decide +kernel
theorem dX6_product_12 : decode cX6_product 12 = .ok (.getfield 95, 3) := by decide +kernel
theorem dX6_product_15 : decode cX6_product 15 = .ok (.iconst 1, 1) := by decide +kernel
theorem dX6_product_16 : decode cX6_product 16 = .ok (.isub, 1) := by decide +kernel
theorem dX6_product_17 : decode cX6_product 17 = .ok (.invokestatic 53, 3) := by decide +kernel
theorem dX6_product_20 : decode cX6_product 20 = .ok (.ifCond .ne 7, 3) := by decide +kernel
theorem dX6_product_23 : decode cX6_product 23 = .ok (.iconst 1, 1) := by decide +kernel
theorem dX6_product_24 : decode cX6_product 24 = .ok (.goto 17, 3) := by decide +kernel
theorem dX6_product_27 : decode cX6_product 27 = .ok (.iload_n 2, 1) := by decide +kernel
theorem dX6_product_28 : decode cX6_product 28 = .ok (.iconst 0, 1) := by decide +kernel
theorem dX6_product_29 : decode cX6_product 29 = .ok (.iconst 5, 1) := by decide +kernel
theorem dX6_product_30 : decode cX6_product 30 = .ok (.invokestatic 53, 3) := by decide +kernel
theorem dX6_product_33 : decode cX6_product 33 = .ok (.ifCond .ne 7, 3) := by decide +kernel
theorem dX6_product_36 : decode cX6_product 36 = .ok (.iconst 2, 1) := by decide +kernel
theorem dX6_product_37 : decode cX6_product 37 = .ok (.goto 4, 3) := by decide +kernel
theorem dX6_product_40 : decode cX6_product 40 = .ok (.iconst 0, 1) := by decide +kernel
theorem dX6_product_41 : decode cX6_product 41 = .ok (.putfield 43, 3) := by decide +kernel
theorem dX6_product_44 : decode cX6_product 44 = .ok (.aload_n 0, 1) := by decide +kernel
theorem dX6_product_45 : decode cX6_product 45 = .ok (.getfield 43, 3) := by decide +kernel
theorem dX6_product_48 : decode cX6_product 48 = .ok (.ifCond .eq 7, 3) := by decide +kernel
theorem dX6_product_51 : decode cX6_product 51 = .ok (.iconst 0, 1) := by decide +kernel
theorem dX6_product_52 : decode cX6_product 52 = .ok (.goto 14, 3) := by decide +kernel
theorem dX6_product_55 : decode cX6_product 55 = .ok (.aload_n 0, 1) := by decide +kernel
theorem dX6_product_56 : decode cX6_product 56 = .ok (.getfield 25, 3) := by decide +kernel
theorem dX6_product_59 : decode cX6_product 59 = .ok (.bipush 6, 2) := by decide +kernel
theorem dX6_product_61 : decode cX6_product 61 = .ok (.iload_n 1, 1) := by decide +kernel
theorem dX6_product_62 : decode cX6_product 62 = .ok (.imul, 1) := by decide +kernel
theorem dX6_product_63 : decode cX6_product 63 = .ok (.iload_n 2, 1) := by decide +kernel
theorem dX6_product_64 : decode cX6_product 64 = .ok (.iadd, 1) := by decide +kernel
theorem dX6_product_65 : decode cX6_product 65 = .ok (.iaload, 1) := by decide +kernel
theorem dX6_product_66 : decode cX6_product 66 = .ok (.ireturn, 1) := by decide +kernel
theorem dX6_falloutOf_0 : decode cX6_falloutOf 0 = .ok (.aload_n 0, 1) := by decide +kernel
theorem dX6_falloutOf_1 : decode cX6_falloutOf 1 = .ok (.iload_n 1, 1) := by decide +kernel
theorem dX6_falloutOf_2 : decode cX6_falloutOf 2 = .ok (.invokevirtual 109, 3) := by decide +kernel
theorem dX6_falloutOf_5 : decode cX6_falloutOf 5 = .ok (.lconst 0, 1) := by decide +kernel
theorem dX6_falloutOf_6 : decode cX6_falloutOf 6 = .ok (.lstore_n 2, 1) := by decide +kernel
theorem dX6_falloutOf_7 : decode cX6_falloutOf 7 = .ok (.iconst 0, 1) := by decide +kernel
theorem dX6_falloutOf_8 : decode cX6_falloutOf 8 = .ok (.istore 4, 2) := by decide +kernel
theorem dX6_falloutOf_10 : decode cX6_falloutOf 10 = .ok (.iload 4, 2) := by decide +kernel
theorem dX6_falloutOf_12 : decode cX6_falloutOf 12 = .ok (.aload_n 0, 1) := by decide +kernel
theorem dX6_falloutOf_13 : decode cX6_falloutOf 13 = .ok (.getfield 95, 3) := by decide +kernel
theorem dX6_falloutOf_16 : decode cX6_falloutOf 16 = .ok (.if_icmp .ge 26, 3) := by decide +kernel
theorem dX6_falloutOf_19 : decode cX6_falloutOf 19 = .ok (.lload_n 2, 1) := by decide +kernel
theorem dX6_falloutOf_20 : decode cX6_falloutOf 20 = .ok (.lconst 1, 1) := by decide +kernel
theorem dX6_falloutOf_21 : decode cX6_falloutOf 21 = .ok (.aload_n 0, 1) := by decide +kernel
theorem dX6_falloutOf_22 : decode cX6_falloutOf 22 = .ok (.getfield 25, 3) := by decide +kernel
theorem dX6_falloutOf_25 : decode cX6_falloutOf 25 = .ok (.bipush 6, 2) := by decide +kernel
theorem dX6_falloutOf_27 : decode cX6_falloutOf 27 = .ok (.iload 4, 2) := by decide +kernel
theorem dX6_falloutOf_29 : decode cX6_falloutOf 29 = .ok (.imul, 1) := by decide +kernel
theorem dX6_falloutOf_30 : decode cX6_falloutOf 30 = .ok (.iconst 4, 1) := by decide +kernel
theorem dX6_falloutOf_31 : decode cX6_falloutOf 31 = .ok (.iadd, 1) := by decide +kernel
theorem dX6_falloutOf_32 : decode cX6_falloutOf 32 = .ok (.iaload, 1) := by decide +kernel
theorem dX6_falloutOf_33 : decode cX6_falloutOf 33 = .ok (.lshl, 1) := by decide +kernel
theorem dX6_falloutOf_34 : decode cX6_falloutOf 34 = .ok (.lor, 1) := by decide +kernel
theorem dX6_falloutOf_35 : decode cX6_falloutOf 35 = .ok (.lstore_n 2, 1) := by decide +kernel
theorem dX6_falloutOf_36 : decode cX6_falloutOf 36 = .ok (.iinc 4 1, 3) := by decide +kernel
theorem dX6_falloutOf_39 : decode cX6_falloutOf 39 = .ok (.goto (-29), 3) := by decide +kernel
theorem dX6_falloutOf_42 : decode cX6_falloutOf 42 = .ok (.lload_n 2, 1) := by decide +kernel
theorem dX6_falloutOf_43 : decode cX6_falloutOf 43 = .ok (.lreturn, 1) := by decide +kernel
theorem dX6_fallout_0 : decode cX6_fallout 0 = .ok (.aload_n 0, 1) := by decide +kernel
theorem dX6_fallout_1 : decode cX6_fallout 1 = .ok (.aload_n 0, 1) := by decide +kernel
theorem dX6_fallout_2 : decode cX6_fallout 2 = .ok (.iload_n 1, 1) := by decide +kernel
theorem dX6_fallout_3 : decode cX6_fallout 3 = .ok (.invokevirtual 113, 3) := by decide +kernel
theorem dX6_fallout_6 : decode cX6_fallout 6 = .ok (.ifCond .eq 7, 3) := by decide +kernel
theorem dX6_fallout_9 : decode cX6_fallout 9 = .ok (.iconst 0, 1) := by decide +kernel
theorem dX6_fallout_10 : decode cX6_fallout 10 = .ok (.goto 4, 3) := by decide +kernel
theorem dX6_fallout_13 : decode cX6_fallout 13 = .ok (.iconst 1, 1) := by decide +kernel
theorem dX6_fallout_14 : decode cX6_fallout 14 = .ok (.putfield 43, 3) := by decide +kernel
theorem dX6_fallout_17 : decode cX6_fallout 17 = .ok (.aload_n 0, 1) := by decide +kernel
theorem dX6_fallout_18 : decode cX6_fallout 18 = .ok (.getfield 43, 3) := by decide +kernel
theorem dX6_fallout_21 : decode cX6_fallout 21 = .ok (.ifCond .eq 7, 3) := by decide +kernel
theorem dX6_fallout_24 : decode cX6_fallout 24 = .ok (.lconst 0, 1) := by decide +kernel
theorem dX6_fallout_25 : decode cX6_fallout 25 = .ok (.goto 8, 3) := by decide +kernel
theorem dX6_fallout_28 : decode cX6_fallout 28 = .ok (.aload_n 0, 1) := by decide +kernel
theorem dX6_fallout_29 : decode cX6_fallout 29 = .ok (.iload_n 1, 1) := by decide +kernel
theorem dX6_fallout_30 : decode cX6_fallout 30 = .ok (.invokevirtual 116, 3) := by decide +kernel
theorem dX6_fallout_33 : decode cX6_fallout 33 = .ok (.lreturn, 1) := by decide +kernel
theorem dX6_isNear_0 : decode cX6_isNear 0 = .ok (.iload_n 1, 1) := by decide +kernel
theorem dX6_isNear_1 : decode cX6_isNear 1 = .ok (.iload_n 2, 1) := by decide +kernel
theorem dX6_isNear_2 : decode cX6_isNear 2 = .ok (.isub, 1) := by decide +kernel
theorem dX6_isNear_3 : decode cX6_isNear 3 = .ok (.aload_n 0, 1) := by decide +kernel
theorem dX6_isNear_4 : decode cX6_isNear 4 = .ok (.getfield 7, 3) := by decide +kernel
theorem dX6_isNear_7 : decode cX6_isNear 7 = .ok (.iconst 3, 1) := by decide +kernel
theorem dX6_isNear_8 : decode cX6_isNear 8 = .ok (.iaload, 1) := by decide +kernel
theorem dX6_isNear_9 : decode cX6_isNear 9 = .ok (.ineg, 1) := by decide +kernel
theorem dX6_isNear_10 : decode cX6_isNear 10 = .ok (.aload_n 0, 1) := by decide +kernel
theorem dX6_isNear_11 : decode cX6_isNear 11 = .ok (.getfield 7, 3) := by decide +kernel
theorem dX6_isNear_14 : decode cX6_isNear 14 = .ok (.iconst 3, 1) := by decide +kernel
theorem dX6_isNear_15 : decode cX6_isNear 15 = .ok (.iaload, 1) := by decide +kernel
theorem dX6_isNear_16 : decode cX6_isNear 16 = .ok (.invokestatic 53, 3) := by decide +kernel
theorem dX6_isNear_19 : decode cX6_isNear 19 = .ok (.ireturn, 1) := by decide +kernel
theorem dX6_hitsAt_0 : decode cX6_hitsAt 0 = .ok (.iconst 0, 1) := by decide +kernel
theorem dX6_hitsAt_1 : decode cX6_hitsAt 1 = .ok (.istore_n 2, 1) := by decide +kernel
theorem dX6_hitsAt_2 : decode cX6_hitsAt 2 = .ok (.iconst 0, 1) := by decide +kernel
theorem dX6_hitsAt_3 : decode cX6_hitsAt 3 = .ok (.istore_n 3, 1) := by decide +kernel
theorem dX6_hitsAt_4 : decode cX6_hitsAt 4 = .ok (.iload_n 3, 1) := by decide +kernel
theorem dX6_hitsAt_5 : decode cX6_hitsAt 5 = .ok (.aload_n 0, 1) := by decide +kernel
theorem dX6_hitsAt_6 : decode cX6_hitsAt 6 = .ok (.getfield 95, 3) := by decide +kernel
theorem dX6_hitsAt_9 : decode cX6_hitsAt 9 = .ok (.if_icmp .ge 36, 3) := by decide +kernel
theorem dX6_hitsAt_12 : decode cX6_hitsAt 12 = .ok (.iload_n 2, 1) := by decide +kernel
theorem dX6_hitsAt_13 : decode cX6_hitsAt 13 = .ok (.aload_n 0, 1) := by decide +kernel
theorem dX6_hitsAt_14 : decode cX6_hitsAt 14 = .ok (.aload_n 0, 1) := by decide +kernel
theorem dX6_hitsAt_15 : decode cX6_hitsAt 15 = .ok (.getfield 25, 3) := by decide +kernel
theorem dX6_hitsAt_18 : decode cX6_hitsAt 18 = .ok (.bipush 6, 2) := by decide +kernel
theorem dX6_hitsAt_20 : decode cX6_hitsAt 20 = .ok (.iload_n 3, 1) := by decide +kernel
theorem dX6_hitsAt_21 : decode cX6_hitsAt 21 = .ok (.imul, 1) := by decide +kernel
theorem dX6_hitsAt_22 : decode cX6_hitsAt 22 = .ok (.iconst 4, 1) := by decide +kernel
theorem dX6_hitsAt_23 : decode cX6_hitsAt 23 = .ok (.iadd, 1) := by decide +kernel
theorem dX6_hitsAt_24 : decode cX6_hitsAt 24 = .ok (.iaload, 1) := by decide +kernel
theorem dX6_hitsAt_25 : decode cX6_hitsAt 25 = .ok (.iload_n 1, 1) := by decide +kernel
theorem dX6_hitsAt_26 : decode cX6_hitsAt 26 = .ok (.invokevirtual 120, 3) := by decide +kernel
theorem dX6_hitsAt_29 : decode cX6_hitsAt 29 = .ok (.ifCond .eq 7, 3) := by decide +kernel
theorem dX6_hitsAt_32 : decode cX6_hitsAt 32 = .ok (.iconst 1, 1) := by decide +kernel
theorem dX6_hitsAt_33 : decode cX6_hitsAt 33 = .ok (.goto 4, 3) := by decide +kernel
theorem dX6_hitsAt_36 : decode cX6_hitsAt 36 = .ok (.iconst 0, 1) := by decide +kernel
theorem dX6_hitsAt_37 : decode cX6_hitsAt 37 = .ok (.iadd, 1) := by decide +kernel
theorem dX6_hitsAt_38 : decode cX6_hitsAt 38 = .ok (.istore_n 2, 1) := by decide +kernel
theorem dX6_hitsAt_39 : decode cX6_hitsAt 39 = .ok (.iinc 3 1, 3) := by decide +kernel
theorem dX6_hitsAt_42 : decode cX6_hitsAt 42 = .ok (.goto (-38), 3) := by decide +kernel
theorem dX6_hitsAt_45 : decode cX6_hitsAt 45 = .ok (.iload_n 2, 1) := by decide +kernel
theorem dX6_hitsAt_46 : decode cX6_hitsAt 46 = .ok (.ireturn, 1) := by decide +kernel
theorem dX6_hitsAll_0 : decode cX6_hitsAll 0 = .ok (.aload_n 0, 1) := by decide +kernel
theorem dX6_hitsAll_1 : decode cX6_hitsAll 1 = .ok (.aload_n 0, 1) := by decide +kernel
theorem dX6_hitsAll_2 : decode cX6_hitsAll 2 = .ok (.invokevirtual 105, 3) := by decide +kernel
theorem dX6_hitsAll_5 : decode cX6_hitsAll 5 = .ok (.invokevirtual 109, 3) := by decide +kernel
theorem dX6_hitsAll_8 : decode cX6_hitsAll 8 = .ok (.iconst 0, 1) := by decide +kernel
theorem dX6_hitsAll_9 : decode cX6_hitsAll 9 = .ok (.istore_n 1, 1) := by decide +kernel
theorem dX6_hitsAll_10 : decode cX6_hitsAll 10 = .ok (.iconst 0, 1) := by decide +kernel
theorem dX6_hitsAll_11 : decode cX6_hitsAll 11 = .ok (.istore_n 2, 1) := by decide +kernel
theorem dX6_hitsAll_12 : decode cX6_hitsAll 12 = .ok (.iload_n 2, 1) := by decide +kernel
theorem dX6_hitsAll_13 : decode cX6_hitsAll 13 = .ok (.aload_n 0, 1) := by decide +kernel
theorem dX6_hitsAll_14 : decode cX6_hitsAll 14 = .ok (.getfield 7, 3) := by decide +kernel
theorem dX6_hitsAll_17 : decode cX6_hitsAll 17 = .ok (.iconst 5, 1) := by decide +kernel
theorem dX6_hitsAll_18 : decode cX6_hitsAll 18 = .ok (.iaload, 1) := by decide +kernel
theorem dX6_hitsAll_19 : decode cX6_hitsAll 19 = .ok (.if_icmp .ge 21, 3) := by decide +kernel
theorem dX6_hitsAll_22 : decode cX6_hitsAll 22 = .ok (.iload_n 1, 1) := by decide +kernel
theorem dX6_hitsAll_23 : decode cX6_hitsAll 23 = .ok (.aload_n 0, 1) := by decide +kernel
theorem dX6_hitsAll_24 : decode cX6_hitsAll 24 = .ok (.aload_n 0, 1) := by decide +kernel
theorem dX6_hitsAll_25 : decode cX6_hitsAll 25 = .ok (.iload_n 2, 1) := by decide +kernel
theorem dX6_hitsAll_26 : decode cX6_hitsAll 26 = .ok (.invokevirtual 57, 3) := by decide +kernel
theorem dX6_hitsAll_29 : decode cX6_hitsAll 29 = .ok (.invokevirtual 123, 3) := by decide +kernel
theorem dX6_hitsAll_32 : decode cX6_hitsAll 32 = .ok (.iadd, 1) := by decide +kernel
theorem dX6_hitsAll_33 : decode cX6_hitsAll 33 = .ok (.istore_n 1, 1) := by decide +kernel
theorem dX6_hitsAll_34 : decode cX6_hitsAll 34 = .ok (.iinc 2 1, 3) := by decide +kernel
theorem dX6_hitsAll_37 : decode cX6_hitsAll 37 = .ok (.goto (-25), 3) := by decide +kernel
theorem dX6_hitsAll_40 : decode cX6_hitsAll 40 = .ok (.iload_n 1, 1) := by decide +kernel
theorem dX6_hitsAll_41 : decode cX6_hitsAll 41 = .ok (.ireturn, 1) := by decide +kernel
theorem dX6_hits_0 : decode cX6_hits 0 = .ok (.aload_n 0, 1) := by decide +kernel
theorem dX6_hits_1 : decode cX6_hits 1 = .ok (.iconst 0, 1) := by decide +kernel
theorem dX6_hits_2 : decode cX6_hits 2 = .ok (.putfield 43, 3) := by decide +kernel
theorem dX6_hits_5 : decode cX6_hits 5 = .ok (.aload_n 0, 1) := by decide +kernel
theorem dX6_hits_6 : decode cX6_hits 6 = .ok (.invokevirtual 126, 3) := by decide +kernel
theorem dX6_hits_9 : decode cX6_hits 9 = .ok (.ireturn, 1) := by decide +kernel
theorem dX6_hitsOn_0 : decode cX6_hitsOn 0 = .ok (.aload_n 0, 1) := by decide +kernel
theorem dX6_hitsOn_1 : decode cX6_hitsOn 1 = .ok (.aload_n 0, 1) := by decide +kernel
theorem dX6_hitsOn_2 : decode cX6_hitsOn 2 = .ok (.iload_n 1, 1) := by decide +kernel
theorem dX6_hitsOn_3 : decode cX6_hitsOn 3 = .ok (.invokevirtual 79, 3) := by decide +kernel
theorem dX6_hitsOn_6 : decode cX6_hitsOn 6 = .ok (.ifCond .eq 7, 3) := by decide +kernel
theorem dX6_hitsOn_9 : decode cX6_hitsOn 9 = .ok (.iconst 0, 1) := by decide +kernel
theorem dX6_hitsOn_10 : decode cX6_hitsOn 10 = .ok (.goto 4, 3) := by decide +kernel
theorem dX6_hitsOn_13 : decode cX6_hitsOn 13 = .ok (.iconst 1, 1) := by decide +kernel
theorem dX6_hitsOn_14 : decode cX6_hitsOn 14 = .ok (.putfield 43, 3) := by decide +kernel
theorem dX6_hitsOn_17 : decode cX6_hitsOn 17 = .ok (.aload_n 0, 1) := by decide +kernel
theorem dX6_hitsOn_18 : decode cX6_hitsOn 18 = .ok (.getfield 43, 3) := by decide +kernel
theorem dX6_hitsOn_21 : decode cX6_hitsOn 21 = .ok (.ifCond .eq 5, 3) := by decide +kernel
theorem dX6_hitsOn_24 : decode cX6_hitsOn 24 = .ok (.iconst 0, 1) := by decide +kernel
theorem dX6_hitsOn_25 : decode cX6_hitsOn 25 = .ok (.ireturn, 1) := by decide +kernel
theorem dX6_hitsOn_26 : decode cX6_hitsOn 26 = .ok (.aload_n 0, 1) := by decide +kernel
theorem dX6_hitsOn_27 : decode cX6_hitsOn 27 = .ok (.aload_n 0, 1) := by decide +kernel
theorem dX6_hitsOn_28 : decode cX6_hitsOn 28 = .ok (.invokevirtual 105, 3) := by decide +kernel
theorem dX6_hitsOn_31 : decode cX6_hitsOn 31 = .ok (.invokevirtual 109, 3) := by decide +kernel
theorem dX6_hitsOn_34 : decode cX6_hitsOn 34 = .ok (.aload_n 0, 1) := by decide +kernel
theorem dX6_hitsOn_35 : decode cX6_hitsOn 35 = .ok (.aload_n 0, 1) := by decide +kernel
theorem dX6_hitsOn_36 : decode cX6_hitsOn 36 = .ok (.iload_n 1, 1) := by decide +kernel
theorem dX6_hitsOn_37 : decode cX6_hitsOn 37 = .ok (.invokevirtual 57, 3) := by decide +kernel
theorem dX6_hitsOn_40 : decode cX6_hitsOn 40 = .ok (.invokevirtual 123, 3) := by decide +kernel
theorem dX6_hitsOn_43 : decode cX6_hitsOn 43 = .ok (.ireturn, 1) := by decide +kernel
theorem dX6_hitsRow_0 : decode cX6_hitsRow 0 = .ok (.iconst 0, 1) := by decide +kernel
theorem dX6_hitsRow_1 : decode cX6_hitsRow 1 = .ok (.istore_n 3, 1) := by decide +kernel
theorem dX6_hitsRow_2 : decode cX6_hitsRow 2 = .ok (.iconst 0, 1) := by decide +kernel
theorem dX6_hitsRow_3 : decode cX6_hitsRow 3 = .ok (.istore 4, 2) := by decide +kernel
theorem dX6_hitsRow_5 : decode cX6_hitsRow 5 = .ok (.iload 4, 2) := by decide +kernel
theorem dX6_hitsRow_7 : decode cX6_hitsRow 7 = .ok (.iload_n 2, 1) := by decide +kernel
theorem dX6_hitsRow_8 : decode cX6_hitsRow 8 = .ok (.if_icmp .ge 39, 3) := by decide +kernel
theorem dX6_hitsRow_11 : decode cX6_hitsRow 11 = .ok (.iload_n 3, 1) := by decide +kernel
theorem dX6_hitsRow_12 : decode cX6_hitsRow 12 = .ok (.ifCond .ne 23, 3) := by decide +kernel
theorem dX6_hitsRow_15 : decode cX6_hitsRow 15 = .ok (.iload_n 1, 1) := by decide +kernel
theorem dX6_hitsRow_16 : decode cX6_hitsRow 16 = .ok (.iconst (-1), 1) := by decide +kernel
theorem dX6_hitsRow_17 : decode cX6_hitsRow 17 = .ok (.if_icmp .eq 22, 3) := by decide +kernel
theorem dX6_hitsRow_20 : decode cX6_hitsRow 20 = .ok (.aload_n 0, 1) := by decide +kernel
theorem dX6_hitsRow_21 : decode cX6_hitsRow 21 = .ok (.iload_n 1, 1) := by decide +kernel
theorem dX6_hitsRow_22 : decode cX6_hitsRow 22 = .ok (.aload_n 0, 1) := by decide +kernel
theorem dX6_hitsRow_23 : decode cX6_hitsRow 23 = .ok (.getfield 19, 3) := by decide +kernel
theorem dX6_hitsRow_26 : decode cX6_hitsRow 26 = .ok (.iload 4, 2) := by decide +kernel
theorem dX6_hitsRow_28 : decode cX6_hitsRow 28 = .ok (.iaload, 1) := by decide +kernel
theorem dX6_hitsRow_29 : decode cX6_hitsRow 29 = .ok (.invokevirtual 120, 3) := by decide +kernel
theorem dX6_hitsRow_32 : decode cX6_hitsRow 32 = .ok (.ifCond .eq 7, 3) := by decide +kernel
theorem dX6_hitsRow_35 : decode cX6_hitsRow 35 = .ok (.iconst 1, 1) := by decide +kernel
theorem dX6_hitsRow_36 : decode cX6_hitsRow 36 = .ok (.goto 4, 3) := by decide +kernel
theorem dX6_hitsRow_39 : decode cX6_hitsRow 39 = .ok (.iconst 0, 1) := by decide +kernel
theorem dX6_hitsRow_40 : decode cX6_hitsRow 40 = .ok (.istore_n 3, 1) := by decide +kernel
theorem dX6_hitsRow_41 : decode cX6_hitsRow 41 = .ok (.iinc 4 1, 3) := by decide +kernel
theorem dX6_hitsRow_44 : decode cX6_hitsRow 44 = .ok (.goto (-39), 3) := by decide +kernel
theorem dX6_hitsRow_47 : decode cX6_hitsRow 47 = .ok (.iload_n 3, 1) := by decide +kernel
theorem dX6_hitsRow_48 : decode cX6_hitsRow 48 = .ok (.ireturn, 1) := by decide +kernel
theorem dX6_isRowClean_0 : decode cX6_isRowClean 0 = .ok (.iconst 0, 1) := by decide +kernel
theorem dX6_isRowClean_1 : decode cX6_isRowClean 1 = .ok (.istore_n 2, 1) := by decide +kernel
theorem dX6_isRowClean_2 : decode cX6_isRowClean 2 = .ok (.iload_n 2, 1) := by decide +kernel
theorem dX6_isRowClean_3 : decode cX6_isRowClean 3 = .ok (.iload_n 1, 1) := by decide +kernel
theorem dX6_isRowClean_4 : decode cX6_isRowClean 4 = .ok (.if_icmp .ge 158, 3) := by decide +kernel
theorem dX6_isRowClean_7 : decode cX6_isRowClean 7 = .ok (.iconst 0, 1) := by decide +kernel
theorem dX6_isRowClean_8 : decode cX6_isRowClean 8 = .ok (.istore_n 3, 1) := by decide +kernel
theorem dX6_isRowClean_9 : decode cX6_isRowClean 9 = .ok (.iload_n 3, 1) := by decide +kernel
theorem dX6_isRowClean_10 : decode cX6_isRowClean 10 = .ok (.iload_n 1, 1) := by decide +kernel
theorem dX6_isRowClean_11 : decode cX6_isRowClean 11 = .ok (.if_icmp .ge 145, 3) := by decide +kernel
theorem dX6_isRowClean_14 : decode cX6_isRowClean 14 = .ok (.aload_n 0, 1) := by decide +kernel
theorem dX6_isRowClean_15 : decode cX6_isRowClean 15 = .ok (.getfield 19, 3) := by decide +kernel
theorem dX6_isRowClean_18 : decode cX6_isRowClean 18 = .ok (.iload_n 2, 1) := by decide +kernel
theorem dX6_isRowClean_19 : decode cX6_isRowClean 19 = .ok (.iaload, 1) := by decide +kernel
theorem dX6_isRowClean_20 : decode cX6_isRowClean 20 = .ok (.aload_n 0, 1) := by decide +kernel
theorem dX6_isRowClean_21 : decode cX6_isRowClean 21 = .ok (.getfield 19, 3) := by decide +kernel
theorem dX6_isRowClean_24 : decode cX6_isRowClean 24 = .ok (.iload_n 3, 1) := by decide +kernel
theorem dX6_isRowClean_25 : decode cX6_isRowClean 25 = .ok (.iaload, 1) := by decide +kernel
theorem dX6_isRowClean_26 : decode cX6_isRowClean 26 = .ok (.isub, 1) := by decide +kernel
theorem dX6_isRowClean_27 : decode cX6_isRowClean 27 = .ok (.istore 4, 2) := by decide +kernel
theorem dX6_isRowClean_29 : decode cX6_isRowClean 29 = .ok (.iload_n 2, 1) := by decide +kernel
theorem dX6_isRowClean_30 : decode cX6_isRowClean 30 = .ok (.iload_n 3, 1) := by decide +kernel
theorem dX6_isRowClean_31 : decode cX6_isRowClean 31 = .ok (.if_icmp .eq 29, 3) := by decide +kernel
theorem dX6_isRowClean_34 : decode cX6_isRowClean 34 = .ok (.iload 4, 2) := by decide +kernel
theorem dX6_isRowClean_36 : decode cX6_isRowClean 36 = .ok (.iconst 1, 1) := by decide +kernel
theorem dX6_isRowClean_37 : decode cX6_isRowClean 37 = .ok (.aload_n 0, 1) := by decide +kernel
theorem dX6_isRowClean_38 : decode cX6_isRowClean 38 = .ok (.getfield 7, 3) := by decide +kernel
theorem dX6_isRowClean_41 : decode cX6_isRowClean 41 = .ok (.iconst 4, 1) := by decide +kernel
theorem dX6_isRowClean_42 : decode cX6_isRowClean 42 = .ok (.iaload, 1) := by decide +kernel
theorem dX6_isRowClean_43 : decode cX6_isRowClean 43 = .ok (.isub, 1) := by decide +kernel
theorem dX6_isRowClean_44 : decode cX6_isRowClean 44 = .ok (.aload_n 0, 1) := by decide +kernel
theorem dX6_isRowClean_45 : decode cX6_isRowClean 45 = .ok (.getfield 7, 3) := by decide +kernel
theorem dX6_isRowClean_48 : decode cX6_isRowClean 48 = .ok (.iconst 4, 1) := by decide +kernel
theorem dX6_isRowClean_49 : decode cX6_isRowClean 49 = .ok (.iaload, 1) := by decide +kernel
theorem dX6_isRowClean_50 : decode cX6_isRowClean 50 = .ok (.iconst 1, 1) := by decide +kernel
theorem dX6_isRowClean_51 : decode cX6_isRowClean 51 = .ok (.isub, 1) := by decide +kernel
theorem dX6_isRowClean_52 : decode cX6_isRowClean 52 = .ok (.invokestatic 53, 3) := by decide +kernel
theorem dX6_isRowClean_55 : decode cX6_isRowClean 55 = .ok (.ifCond .eq 5, 3) := by decide +kernel
theorem dX6_isRowClean_58 : decode cX6_isRowClean 58 = .ok (.iconst 0, 1) := by decide +kernel
theorem dX6_isRowClean_59 : decode cX6_isRowClean 59 = .ok (.ireturn, 1) := by decide +kernel
theorem dX6_isRowClean_60 : decode cX6_isRowClean 60 = .ok (.iload_n 2, 1) := by decide +kernel
theorem dX6_isRowClean_61 : decode cX6_isRowClean 61 = .ok (.iload_n 3, 1) := by decide +kernel
theorem dX6_isRowClean_62 : decode cX6_isRowClean 62 = .ok (.if_icmp .eq 37, 3) := by decide +kernel
theorem dX6_isRowClean_65 : decode cX6_isRowClean 65 = .ok (.aload_n 0, 1) := by decide +kernel
theorem dX6_isRowClean_66 : decode cX6_isRowClean 66 = .ok (.aload_n 0, 1) := by decide +kernel
theorem dX6_isRowClean_67 : decode cX6_isRowClean 67 = .ok (.iconst 0, 1) := by decide +kernel
theorem dX6_isRowClean_68 : decode cX6_isRowClean 68 = .ok (.iload_n 2, 1) := by decide +kernel
theorem dX6_isRowClean_69 : decode cX6_isRowClean 69 = .ok (.iload_n 3, 1) := by decide +kernel
theorem dX6_isRowClean_70 : decode cX6_isRowClean 70 = .ok (.iconst 0, 1) := by decide +kernel
theorem dX6_isRowClean_71 : decode cX6_isRowClean 71 = .ok (.invokevirtual 92, 3) := by decide +kernel
theorem dX6_isRowClean_74 : decode cX6_isRowClean 74 = .ok (.iload_n 1, 1) := by decide +kernel
theorem dX6_isRowClean_75 : decode cX6_isRowClean 75 = .ok (.invokevirtual 129, 3) := by decide +kernel
theorem dX6_isRowClean_78 : decode cX6_isRowClean 78 = .ok (.ifCond .ne 19, 3) := by decide +kernel
theorem dX6_isRowClean_81 : decode cX6_isRowClean 81 = .ok (.aload_n 0, 1) := by decide +kernel
theorem dX6_isRowClean_82 : decode cX6_isRowClean 82 = .ok (.aload_n 0, 1) := by decide +kernel
theorem dX6_isRowClean_83 : decode cX6_isRowClean 83 = .ok (.iconst 2, 1) := by decide +kernel
theorem dX6_isRowClean_84 : decode cX6_isRowClean 84 = .ok (.iload_n 2, 1) := by decide +kernel
theorem dX6_isRowClean_85 : decode cX6_isRowClean 85 = .ok (.iload_n 3, 1) := by decide +kernel
theorem dX6_isRowClean_86 : decode cX6_isRowClean 86 = .ok (.iconst 0, 1) := by decide +kernel
theorem dX6_isRowClean_87 : decode cX6_isRowClean 87 = .ok (.invokevirtual 92, 3) := by decide +kernel
theorem dX6_isRowClean_90 : decode cX6_isRowClean 90 = .ok (.iload_n 1, 1) := by decide +kernel
theorem dX6_isRowClean_91 : decode cX6_isRowClean 91 = .ok (.invokevirtual 129, 3) := by decide +kernel
theorem dX6_isRowClean_94 : decode cX6_isRowClean 94 = .ok (.ifCond .eq 5, 3) := by decide +kernel
theorem dX6_isRowClean_97 : decode cX6_isRowClean 97 = .ok (.iconst 0, 1) := by decide +kernel
theorem dX6_isRowClean_98 : decode cX6_isRowClean 98 = .ok (.ireturn, 1) := by decide +kernel
theorem dX6_isRowClean_99 : decode cX6_isRowClean 99 = .ok (.iconst 0, 1) := by decide +kernel
theorem dX6_isRowClean_100 : decode cX6_isRowClean 100 = .ok (.istore 5, 2) := by decide +kernel
theorem dX6_isRowClean_102 : decode cX6_isRowClean 102 = .ok (.iload 5, 2) := by decide +kernel
theorem dX6_isRowClean_104 : decode cX6_isRowClean 104 = .ok (.iload_n 1, 1) := by decide +kernel
theorem dX6_isRowClean_105 : decode cX6_isRowClean 105 = .ok (.if_icmp .ge 45, 3) := by decide +kernel
theorem dX6_isRowClean_108 : decode cX6_isRowClean 108 = .ok (.iload_n 2, 1) := by decide +kernel
theorem dX6_isRowClean_109 : decode cX6_isRowClean 109 = .ok (.iload_n 3, 1) := by decide +kernel
theorem dX6_isRowClean_110 : decode cX6_isRowClean 110 = .ok (.if_icmp .ge 40, 3) := by decide +kernel
theorem dX6_isRowClean_113 : decode cX6_isRowClean 113 = .ok (.iload 5, 2) := by decide +kernel
theorem dX6_isRowClean_115 : decode cX6_isRowClean 115 = .ok (.iload_n 2, 1) := by decide +kernel
theorem dX6_isRowClean_116 : decode cX6_isRowClean 116 = .ok (.if_icmp .eq 28, 3) := by decide +kernel
theorem dX6_isRowClean_119 : decode cX6_isRowClean 119 = .ok (.iload 5, 2) := by decide +kernel
theorem dX6_isRowClean_121 : decode cX6_isRowClean 121 = .ok (.iload_n 3, 1) := by decide +kernel
theorem dX6_isRowClean_122 : decode cX6_isRowClean 122 = .ok (.if_icmp .eq 22, 3) := by decide +kernel
theorem dX6_isRowClean_125 : decode cX6_isRowClean 125 = .ok (.aload_n 0, 1) := by decide +kernel
theorem dX6_isRowClean_126 : decode cX6_isRowClean 126 = .ok (.aload_n 0, 1) := by decide +kernel
theorem dX6_isRowClean_127 : decode cX6_isRowClean 127 = .ok (.iconst 1, 1) := by decide +kernel
theorem dX6_isRowClean_128 : decode cX6_isRowClean 128 = .ok (.iload_n 2, 1) := by decide +kernel
theorem dX6_isRowClean_129 : decode cX6_isRowClean 129 = .ok (.iload_n 3, 1) := by decide +kernel
theorem dX6_isRowClean_130 : decode cX6_isRowClean 130 = .ok (.iload 5, 2) := by decide +kernel
theorem dX6_isRowClean_132 : decode cX6_isRowClean 132 = .ok (.invokevirtual 92, 3) := by decide +kernel
theorem dX6_isRowClean_135 : decode cX6_isRowClean 135 = .ok (.iload_n 1, 1) := by decide +kernel
theorem dX6_isRowClean_136 : decode cX6_isRowClean 136 = .ok (.invokevirtual 129, 3) := by decide +kernel
theorem dX6_isRowClean_139 : decode cX6_isRowClean 139 = .ok (.ifCond .eq 5, 3) := by decide +kernel
theorem dX6_isRowClean_142 : decode cX6_isRowClean 142 = .ok (.iconst 0, 1) := by decide +kernel
theorem dX6_isRowClean_143 : decode cX6_isRowClean 143 = .ok (.ireturn, 1) := by decide +kernel
theorem dX6_isRowClean_144 : decode cX6_isRowClean 144 = .ok (.iinc 5 1, 3) := by decide +kernel
theorem dX6_isRowClean_147 : decode cX6_isRowClean 147 = .ok (.goto (-45), 3) := by decide +kernel
theorem dX6_isRowClean_150 : decode cX6_isRowClean 150 = .ok (.iinc 3 1, 3) := by decide +kernel
theorem dX6_isRowClean_153 : decode cX6_isRowClean 153 = .ok (.goto (-144), 3) := by decide +kernel
theorem dX6_isRowClean_156 : decode cX6_isRowClean 156 = .ok (.iinc 2 1, 3) := by decide +kernel
theorem dX6_isRowClean_159 : decode cX6_isRowClean 159 = .ok (.goto (-157), 3) := by decide +kernel
theorem dX6_isRowClean_162 : decode cX6_isRowClean 162 = .ok (.iconst 1, 1) := by decide +kernel
theorem dX6_isRowClean_163 : decode cX6_isRowClean 163 = .ok (.ireturn, 1) := by decide +kernel
theorem dX6_isClean_0 : decode cX6_isClean 0 = .ok (.aload_n 0, 1) := by decide +kernel
theorem dX6_isClean_1 : decode cX6_isClean 1 = .ok (.iconst 0, 1) := by decide +kernel
theorem dX6_isClean_2 : decode cX6_isClean 2 = .ok (.putfield 43, 3) := by decide +kernel
theorem dX6_isClean_5 : decode cX6_isClean 5 = .ok (.aload_n 0, 1) := by decide +kernel
theorem dX6_isClean_6 : decode cX6_isClean 6 = .ok (.invokevirtual 98, 3) := by decide +kernel
theorem dX6_isClean_9 : decode cX6_isClean 9 = .ok (.aload_n 0, 1) := by decide +kernel
theorem dX6_isClean_10 : decode cX6_isClean 10 = .ok (.aload_n 0, 1) := by decide +kernel
theorem dX6_isClean_11 : decode cX6_isClean 11 = .ok (.getfield 7, 3) := by decide +kernel
theorem dX6_isClean_14 : decode cX6_isClean 14 = .ok (.iconst 5, 1) := by decide +kernel
theorem dX6_isClean_15 : decode cX6_isClean 15 = .ok (.iaload, 1) := by decide +kernel
theorem dX6_isClean_16 : decode cX6_isClean 16 = .ok (.invokevirtual 132, 3) := by decide +kernel
theorem dX6_isClean_19 : decode cX6_isClean 19 = .ok (.ireturn, 1) := by decide +kernel
theorem dX6_closest_0 : decode cX6_closest 0 = .ok (.aload_n 0, 1) := by decide +kernel
theorem dX6_closest_1 : decode cX6_closest 1 = .ok (.iconst 0, 1) := by decide +kernel
theorem dX6_closest_2 : decode cX6_closest 2 = .ok (.putfield 43, 3) := by decide +kernel
theorem dX6_closest_5 : decode cX6_closest 5 = .ok (.iconst (-1), 1) := by decide +kernel
theorem dX6_closest_6 : decode cX6_closest 6 = .ok (.istore_n 1, 1) := by decide +kernel
theorem dX6_closest_7 : decode cX6_closest 7 = .ok (.iconst 0, 1) := by decide +kernel
theorem dX6_closest_8 : decode cX6_closest 8 = .ok (.istore_n 2, 1) := by decide +kernel
theorem dX6_closest_9 : decode cX6_closest 9 = .ok (.iload_n 2, 1) := by decide +kernel
theorem dX6_closest_10 : decode cX6_closest 10 = .ok (.aload_n 0, 1) := by decide +kernel
theorem dX6_closest_11 : decode cX6_closest 11 = .ok (.getfield 7, 3) := by decide +kernel
theorem dX6_closest_14 : decode cX6_closest 14 = .ok (.iconst 5, 1) := by decide +kernel
theorem dX6_closest_15 : decode cX6_closest 15 = .ok (.iaload, 1) := by decide +kernel
theorem dX6_closest_16 : decode cX6_closest 16 = .ok (.if_icmp .ge 63, 3) := by decide +kernel
theorem dX6_closest_19 : decode cX6_closest 19 = .ok (.iconst 0, 1) := by decide +kernel
theorem dX6_closest_20 : decode cX6_closest 20 = .ok (.istore_n 3, 1) := by decide +kernel
theorem dX6_closest_21 : decode cX6_closest 21 = .ok (.iload_n 3, 1) := by decide +kernel
theorem dX6_closest_22 : decode cX6_closest 22 = .ok (.aload_n 0, 1) := by decide +kernel
theorem dX6_closest_23 : decode cX6_closest 23 = .ok (.getfield 7, 3) := by decide +kernel
theorem dX6_closest_26 : decode cX6_closest 26 = .ok (.iconst 5, 1) := by decide +kernel
theorem dX6_closest_27 : decode cX6_closest 27 = .ok (.iaload, 1) := by decide +kernel
theorem dX6_closest_28 : decode cX6_closest 28 = .ok (.if_icmp .ge 45, 3) := by decide +kernel
theorem dX6_closest_31 : decode cX6_closest 31 = .ok (.aload_n 0, 1) := by decide +kernel
theorem dX6_closest_32 : decode cX6_closest 32 = .ok (.iload_n 2, 1) := by decide +kernel
theorem dX6_closest_33 : decode cX6_closest 33 = .ok (.invokevirtual 57, 3) := by decide +kernel
theorem dX6_closest_36 : decode cX6_closest 36 = .ok (.aload_n 0, 1) := by decide +kernel
theorem dX6_closest_37 : decode cX6_closest 37 = .ok (.iload_n 3, 1) := by decide +kernel
theorem dX6_closest_38 : decode cX6_closest 38 = .ok (.invokevirtual 57, 3) := by decide +kernel
theorem dX6_closest_41 : decode cX6_closest 41 = .ok (.isub, 1) := by decide +kernel
theorem dX6_closest_42 : decode cX6_closest 42 = .ok (.istore 4, 2) := by decide +kernel
theorem dX6_closest_44 : decode cX6_closest 44 = .ok (.iload 4, 2) := by decide +kernel
theorem dX6_closest_46 : decode cX6_closest 46 = .ok (.ifCond .le 19, 3) := by decide +kernel
theorem dX6_closest_49 : decode cX6_closest 49 = .ok (.iload_n 1, 1) := by decide +kernel
theorem dX6_closest_50 : decode cX6_closest 50 = .ok (.iconst (-1), 1) := by decide +kernel
theorem dX6_closest_51 : decode cX6_closest 51 = .ok (.if_icmp .eq 9, 3) := by decide +kernel
theorem dX6_closest_54 : decode cX6_closest 54 = .ok (.iload 4, 2) := by decide +kernel
theorem dX6_closest_56 : decode cX6_closest 56 = .ok (.iload_n 1, 1) := by decide +kernel
theorem dX6_closest_57 : decode cX6_closest 57 = .ok (.if_icmp .ge 8, 3) := by decide +kernel
theorem dX6_closest_60 : decode cX6_closest 60 = .ok (.iload 4, 2) := by decide +kernel
theorem dX6_closest_62 : decode cX6_closest 62 = .ok (.goto 4, 3) := by decide +kernel
theorem dX6_closest_65 : decode cX6_closest 65 = .ok (.iload_n 1, 1) := by decide +kernel
theorem dX6_closest_66 : decode cX6_closest 66 = .ok (.istore_n 1, 1) := by decide +kernel
theorem dX6_closest_67 : decode cX6_closest 67 = .ok (.iinc 3 1, 3) := by decide +kernel
theorem dX6_closest_70 : decode cX6_closest 70 = .ok (.goto (-49), 3) := by decide +kernel
theorem dX6_closest_73 : decode cX6_closest 73 = .ok (.iinc 2 1, 3) := by decide +kernel
theorem dX6_closest_76 : decode cX6_closest 76 = .ok (.goto (-67), 3) := by decide +kernel
theorem dX6_closest_79 : decode cX6_closest 79 = .ok (.iload_n 1, 1) := by decide +kernel
theorem dX6_closest_80 : decode cX6_closest 80 = .ok (.ireturn, 1) := by decide +kernel
theorem dX6_isCleanWithout_0 : decode cX6_isCleanWithout 0 = .ok (.iconst 0, 1) := by decide +kernel
theorem dX6_isCleanWithout_1 : decode cX6_isCleanWithout 1 = .ok (.istore_n 2, 1) := by decide +kernel
theorem dX6_isCleanWithout_2 : decode cX6_isCleanWithout 2 = .ok (.iconst 0, 1) := by decide +kernel
theorem dX6_isCleanWithout_3 : decode cX6_isCleanWithout 3 = .ok (.istore_n 3, 1) := by decide +kernel
theorem dX6_isCleanWithout_4 : decode cX6_isCleanWithout 4 = .ok (.iload_n 3, 1) := by decide +kernel
theorem dX6_isCleanWithout_5 : decode cX6_isCleanWithout 5 = .ok (.aload_n 0, 1) := by decide +kernel
theorem dX6_isCleanWithout_6 : decode cX6_isCleanWithout 6 = .ok (.getfield 7, 3) := by decide +kernel
theorem dX6_isCleanWithout_9 : decode cX6_isCleanWithout 9 = .ok (.iconst 5, 1) := by decide +kernel
theorem dX6_isCleanWithout_10 : decode cX6_isCleanWithout 10 = .ok (.iaload, 1) := by decide +kernel
theorem dX6_isCleanWithout_11 : decode cX6_isCleanWithout 11 = .ok (.if_icmp .ge 42, 3) := by decide +kernel
theorem dX6_isCleanWithout_14 : decode cX6_isCleanWithout 14 = .ok (.iload_n 1, 1) := by decide +kernel
theorem dX6_isCleanWithout_15 : decode cX6_isCleanWithout 15 = .ok (.iload_n 3, 1) := by decide +kernel
theorem dX6_isCleanWithout_16 : decode cX6_isCleanWithout 16 = .ok (.invokestatic 85, 3) := by decide +kernel
theorem dX6_isCleanWithout_19 : decode cX6_isCleanWithout 19 = .ok (.ifCond .ne 28, 3) := by decide +kernel
theorem dX6_isCleanWithout_22 : decode cX6_isCleanWithout 22 = .ok (.aload_n 0, 1) := by decide +kernel
theorem dX6_isCleanWithout_23 : decode cX6_isCleanWithout 23 = .ok (.getfield 19, 3) := by decide +kernel
theorem dX6_isCleanWithout_26 : decode cX6_isCleanWithout 26 = .ok (.iload_n 2, 1) := by decide +kernel
theorem dX6_isCleanWithout_27 : decode cX6_isCleanWithout 27 = .ok (.aload_n 0, 1) := by decide +kernel
theorem dX6_isCleanWithout_28 : decode cX6_isCleanWithout 28 = .ok (.iload_n 3, 1) := by decide +kernel
theorem dX6_isCleanWithout_29 : decode cX6_isCleanWithout 29 = .ok (.invokevirtual 57, 3) := by decide +kernel
theorem dX6_isCleanWithout_32 : decode cX6_isCleanWithout 32 = .ok (.iastore, 1) := by decide +kernel
theorem dX6_isCleanWithout_33 : decode cX6_isCleanWithout 33 = .ok (.aload_n 0, 1) := by decide +kernel
theorem dX6_isCleanWithout_34 : decode cX6_isCleanWithout 34 = .ok (.getfield 22, 3) := by decide +kernel
theorem dX6_isCleanWithout_37 : decode cX6_isCleanWithout 37 = .ok (.iload_n 2, 1) := by decide +kernel
theorem dX6_isCleanWithout_38 : decode cX6_isCleanWithout 38 = .ok (.aload_n 0, 1) := by decide +kernel
theorem dX6_isCleanWithout_39 : decode cX6_isCleanWithout 39 = .ok (.iload_n 3, 1) := by decide +kernel
theorem dX6_isCleanWithout_40 : decode cX6_isCleanWithout 40 = .ok (.invokevirtual 82, 3) := by decide +kernel
theorem dX6_isCleanWithout_43 : decode cX6_isCleanWithout 43 = .ok (.iastore, 1) := by decide +kernel
theorem dX6_isCleanWithout_44 : decode cX6_isCleanWithout 44 = .ok (.iinc 2 1, 3) := by decide +kernel
theorem dX6_isCleanWithout_47 : decode cX6_isCleanWithout 47 = .ok (.iinc 3 1, 3) := by decide +kernel
theorem dX6_isCleanWithout_50 : decode cX6_isCleanWithout 50 = .ok (.goto (-46), 3) := by decide +kernel
theorem dX6_isCleanWithout_53 : decode cX6_isCleanWithout 53 = .ok (.aload_n 0, 1) := by decide +kernel
theorem dX6_isCleanWithout_54 : decode cX6_isCleanWithout 54 = .ok (.iload_n 2, 1) := by decide +kernel
theorem dX6_isCleanWithout_55 : decode cX6_isCleanWithout 55 = .ok (.invokevirtual 132, 3) := by decide +kernel
theorem dX6_isCleanWithout_58 : decode cX6_isCleanWithout 58 = .ok (.ireturn, 1) := by decide +kernel
theorem dX6_removal_0 : decode cX6_removal 0 = .ok (.aload_n 0, 1) := by decide +kernel
theorem dX6_removal_1 : decode cX6_removal 1 = .ok (.iconst 0, 1) := by decide +kernel
theorem dX6_removal_2 : decode cX6_removal 2 = .ok (.putfield 43, 3) := by decide +kernel
theorem dX6_removal_5 : decode cX6_removal 5 = .ok (.aload_n 0, 1) := by decide +kernel
theorem dX6_removal_6 : decode cX6_removal 6 = .ok (.invokevirtual 105, 3) := by decide +kernel
theorem dX6_removal_9 : decode cX6_removal 9 = .ok (.istore_n 1, 1) := by decide +kernel
theorem dX6_removal_10 : decode cX6_removal 10 = .ok (.aload_n 0, 1) := by decide +kernel
theorem dX6_removal_11 : decode cX6_removal 11 = .ok (.invokevirtual 105, 3) := by decide +kernel
theorem dX6_removal_14 : decode cX6_removal 14 = .ok (.istore_n 2, 1) := by decide +kernel
theorem dX6_removal_15 : decode cX6_removal 15 = .ok (.iload_n 2, 1) := by decide +kernel
theorem dX6_removal_16 : decode cX6_removal 16 = .ok (.ifCond .lt 34, 3) := by decide +kernel
theorem dX6_removal_19 : decode cX6_removal 19 = .ok (.iload_n 2, 1) := by decide +kernel
theorem dX6_removal_20 : decode cX6_removal 20 = .ok (.invokestatic 135, 3) := by decide +kernel
theorem dX6_removal_23 : decode cX6_removal 23 = .ok (.iload_n 1, 1) := by decide +kernel
theorem dX6_removal_24 : decode cX6_removal 24 = .ok (.invokestatic 135, 3) := by decide +kernel
theorem dX6_removal_27 : decode cX6_removal 27 = .ok (.if_icmp .gt 15, 3) := by decide +kernel
theorem dX6_removal_30 : decode cX6_removal 30 = .ok (.aload_n 0, 1) := by decide +kernel
theorem dX6_removal_31 : decode cX6_removal 31 = .ok (.iload_n 2, 1) := by decide +kernel
theorem dX6_removal_32 : decode cX6_removal 32 = .ok (.invokevirtual 138, 3) := by decide +kernel
theorem dX6_removal_35 : decode cX6_removal 35 = .ok (.ifCond .eq 7, 3) := by decide +kernel
theorem dX6_removal_38 : decode cX6_removal 38 = .ok (.iload_n 2, 1) := by decide +kernel
theorem dX6_removal_39 : decode cX6_removal 39 = .ok (.goto 4, 3) := by decide +kernel
theorem dX6_removal_42 : decode cX6_removal 42 = .ok (.iload_n 1, 1) := by decide +kernel
theorem dX6_removal_43 : decode cX6_removal 43 = .ok (.istore_n 1, 1) := by decide +kernel
theorem dX6_removal_44 : decode cX6_removal 44 = .ok (.iinc 2 (-1), 3) := by decide +kernel
theorem dX6_removal_47 : decode cX6_removal 47 = .ok (.goto (-32), 3) := by decide +kernel
theorem dX6_removal_50 : decode cX6_removal 50 = .ok (.iload_n 1, 1) := by decide +kernel
theorem dX6_removal_51 : decode cX6_removal 51 = .ok (.ireturn, 1) := by decide +kernel
theorem dX6_seek_0 : decode cX6_seek 0 = .ok (.iload_n 1, 1) := by decide +kernel
theorem dX6_seek_1 : decode cX6_seek 1 = .ok (.iconst 1, 1) := by decide +kernel
theorem dX6_seek_2 : decode cX6_seek 2 = .ok (.if_icmp .eq 7, 3) := by decide +kernel
theorem dX6_seek_5 : decode cX6_seek 5 = .ok (.iload_n 2, 1) := by decide +kernel
theorem dX6_seek_6 : decode cX6_seek 6 = .ok (.ifCond .ne 23, 3) := by decide +kernel
theorem dX6_seek_9 : decode cX6_seek 9 = .ok (.aload_n 0, 1) := by decide +kernel
theorem dX6_seek_10 : decode cX6_seek 10 = .ok (.lconst 1, 1) := by decide +kernel
theorem dX6_seek_11 : decode cX6_seek 11 = .ok (.putfield 141, 3) := by decide +kernel
theorem dX6_seek_14 : decode cX6_seek 14 = .ok (.iload_n 1, 1) := by decide +kernel
theorem dX6_seek_15 : decode cX6_seek 15 = .ok (.iconst 1, 1) := by decide +kernel
theorem dX6_seek_16 : decode cX6_seek 16 = .ok (.if_icmp .ne 11, 3) := by decide +kernel
theorem dX6_seek_19 : decode cX6_seek 19 = .ok (.iload_n 2, 1) := by decide +kernel
theorem dX6_seek_20 : decode cX6_seek 20 = .ok (.ifCond .ne 7, 3) := by decide +kernel
theorem dX6_seek_23 : decode cX6_seek 23 = .ok (.iconst 1, 1) := by decide +kernel
theorem dX6_seek_24 : decode cX6_seek 24 = .ok (.goto 4, 3) := by decide +kernel
theorem dX6_seek_27 : decode cX6_seek 27 = .ok (.iconst 0, 1) := by decide +kernel
theorem dX6_seek_28 : decode cX6_seek 28 = .ok (.ireturn, 1) := by decide +kernel
theorem dX6_seek_29 : decode cX6_seek 29 = .ok (.iconst 0, 1) := by decide +kernel
theorem dX6_seek_30 : decode cX6_seek 30 = .ok (.istore 4, 2) := by decide +kernel
theorem dX6_seek_32 : decode cX6_seek 32 = .ok (.iload 4, 2) := by decide +kernel
theorem dX6_seek_34 : decode cX6_seek 34 = .ok (.iload_n 1, 1) := by decide +kernel
theorem dX6_seek_35 : decode cX6_seek 35 = .ok (.if_icmp .ge 18, 3) := by decide +kernel
theorem dX6_seek_38 : decode cX6_seek 38 = .ok (.aload_n 0, 1) := by decide +kernel
theorem dX6_seek_39 : decode cX6_seek 39 = .ok (.getfield 22, 3) := by decide +kernel
theorem dX6_seek_42 : decode cX6_seek 42 = .ok (.iload 4, 2) := by decide +kernel
theorem dX6_seek_44 : decode cX6_seek 44 = .ok (.bipush 60, 2) := by decide +kernel
theorem dX6_seek_46 : decode cX6_seek 46 = .ok (.iastore, 1) := by decide +kernel
theorem dX6_seek_47 : decode cX6_seek 47 = .ok (.iinc 4 1, 3) := by decide +kernel
theorem dX6_seek_50 : decode cX6_seek 50 = .ok (.goto (-18), 3) := by decide +kernel
theorem dX6_seek_53 : decode cX6_seek 53 = .ok (.aload_n 0, 1) := by decide +kernel
theorem dX6_seek_54 : decode cX6_seek 54 = .ok (.getfield 19, 3) := by decide +kernel
theorem dX6_seek_57 : decode cX6_seek 57 = .ok (.iconst 0, 1) := by decide +kernel
theorem dX6_seek_58 : decode cX6_seek 58 = .ok (.iconst 0, 1) := by decide +kernel
theorem dX6_seek_59 : decode cX6_seek 59 = .ok (.iastore, 1) := by decide +kernel
theorem dX6_seek_60 : decode cX6_seek 60 = .ok (.aload_n 0, 1) := by decide +kernel
theorem dX6_seek_61 : decode cX6_seek 61 = .ok (.getfield 19, 3) := by decide +kernel
theorem dX6_seek_64 : decode cX6_seek 64 = .ok (.iconst 1, 1) := by decide +kernel
theorem dX6_seek_65 : decode cX6_seek 65 = .ok (.iload_n 2, 1) := by decide +kernel
theorem dX6_seek_66 : decode cX6_seek 66 = .ok (.iastore, 1) := by decide +kernel
theorem dX6_seek_67 : decode cX6_seek 67 = .ok (.aload_n 0, 1) := by decide +kernel
theorem dX6_seek_68 : decode cX6_seek 68 = .ok (.iconst 2, 1) := by decide +kernel
theorem dX6_seek_69 : decode cX6_seek 69 = .ok (.invokevirtual 132, 3) := by decide +kernel
theorem dX6_seek_72 : decode cX6_seek 72 = .ok (.ifCond .ne 5, 3) := by decide +kernel
theorem dX6_seek_75 : decode cX6_seek 75 = .ok (.iconst 0, 1) := by decide +kernel
theorem dX6_seek_76 : decode cX6_seek 76 = .ok (.ireturn, 1) := by decide +kernel
theorem dX6_seek_77 : decode cX6_seek 77 = .ok (.aload_n 0, 1) := by decide +kernel
theorem dX6_seek_78 : decode cX6_seek 78 = .ok (.lconst 1, 1) := by decide +kernel
theorem dX6_seek_79 : decode cX6_seek 79 = .ok (.lconst 1, 1) := by decide +kernel
theorem dX6_seek_80 : decode cX6_seek 80 = .ok (.iload_n 2, 1) := by decide +kernel
theorem dX6_seek_81 : decode cX6_seek 81 = .ok (.lshl, 1) := by decide +kernel
theorem dX6_seek_82 : decode cX6_seek 82 = .ok (.lor, 1) := by decide +kernel
theorem dX6_seek_83 : decode cX6_seek 83 = .ok (.putfield 141, 3) := by decide +kernel
theorem dX6_seek_86 : decode cX6_seek 86 = .ok (.iload_n 1, 1) := by decide +kernel
theorem dX6_seek_87 : decode cX6_seek 87 = .ok (.iconst 2, 1) := by decide +kernel
theorem dX6_seek_88 : decode cX6_seek 88 = .ok (.if_icmp .ne 5, 3) := by decide +kernel
theorem dX6_seek_91 : decode cX6_seek 91 = .ok (.iconst 1, 1) := by decide +kernel
theorem dX6_seek_92 : decode cX6_seek 92 = .ok (.ireturn, 1) := by decide +kernel
theorem dX6_seek_93 : decode cX6_seek 93 = .ok (.iconst 0, 1) := by decide +kernel
theorem dX6_seek_94 : decode cX6_seek 94 = .ok (.istore 4, 2) := by decide +kernel
theorem dX6_seek_96 : decode cX6_seek 96 = .ok (.iconst 2, 1) := by decide +kernel
theorem dX6_seek_97 : decode cX6_seek 97 = .ok (.istore 5, 2) := by decide +kernel
theorem dX6_seek_99 : decode cX6_seek 99 = .ok (.aload_n 0, 1) := by decide +kernel
theorem dX6_seek_100 : decode cX6_seek 100 = .ok (.getfield 28, 3) := by decide +kernel
theorem dX6_seek_103 : decode cX6_seek 103 = .ok (.iconst 2, 1) := by decide +kernel
theorem dX6_seek_104 : decode cX6_seek 104 = .ok (.iconst 1, 1) := by decide +kernel
theorem dX6_seek_105 : decode cX6_seek 105 = .ok (.iastore, 1) := by decide +kernel
theorem dX6_seek_106 : decode cX6_seek 106 = .ok (.iload 5, 2) := by decide +kernel
theorem dX6_seek_108 : decode cX6_seek 108 = .ok (.iconst 1, 1) := by decide +kernel
theorem dX6_seek_109 : decode cX6_seek 109 = .ok (.if_icmp .le 102, 3) := by decide +kernel
theorem dX6_seek_112 : decode cX6_seek 112 = .ok (.aload_n 0, 1) := by decide +kernel
theorem dX6_seek_113 : decode cX6_seek 113 = .ok (.getfield 28, 3) := by decide +kernel
theorem dX6_seek_116 : decode cX6_seek 116 = .ok (.iload 5, 2) := by decide +kernel
theorem dX6_seek_118 : decode cX6_seek 118 = .ok (.iaload, 1) := by decide +kernel
theorem dX6_seek_119 : decode cX6_seek 119 = .ok (.iload_n 2, 1) := by decide +kernel
theorem dX6_seek_120 : decode cX6_seek 120 = .ok (.if_icmp .lt 9, 3) := by decide +kernel
theorem dX6_seek_123 : decode cX6_seek 123 = .ok (.iinc 5 (-1), 3) := by decide +kernel
theorem dX6_seek_126 : decode cX6_seek 126 = .ok (.goto (-20), 3) := by decide +kernel
theorem dX6_seek_129 : decode cX6_seek 129 = .ok (.aload_n 0, 1) := by decide +kernel
theorem dX6_seek_130 : decode cX6_seek 130 = .ok (.getfield 19, 3) := by decide +kernel
theorem dX6_seek_133 : decode cX6_seek 133 = .ok (.iload 5, 2) := by decide +kernel
theorem dX6_seek_135 : decode cX6_seek 135 = .ok (.aload_n 0, 1) := by decide +kernel
theorem dX6_seek_136 : decode cX6_seek 136 = .ok (.getfield 28, 3) := by decide +kernel
theorem dX6_seek_139 : decode cX6_seek 139 = .ok (.iload 5, 2) := by decide +kernel
theorem dX6_seek_141 : decode cX6_seek 141 = .ok (.iaload, 1) := by decide +kernel
theorem dX6_seek_142 : decode cX6_seek 142 = .ok (.iastore, 1) := by decide +kernel
theorem dX6_seek_143 : decode cX6_seek 143 = .ok (.aload_n 0, 1) := by decide +kernel
theorem dX6_seek_144 : decode cX6_seek 144 = .ok (.getfield 28, 3) := by decide +kernel
theorem dX6_seek_147 : decode cX6_seek 147 = .ok (.iload 5, 2) := by decide +kernel
theorem dX6_seek_149 : decode cX6_seek 149 = .ok (.dup2, 1) := by decide +kernel
theorem dX6_seek_150 : decode cX6_seek 150 = .ok (.iaload, 1) := by decide +kernel
theorem dX6_seek_151 : decode cX6_seek 151 = .ok (.iconst 1, 1) := by decide +kernel
theorem dX6_seek_152 : decode cX6_seek 152 = .ok (.iadd, 1) := by decide +kernel
theorem dX6_seek_153 : decode cX6_seek 153 = .ok (.iastore, 1) := by decide +kernel
theorem dX6_seek_154 : decode cX6_seek 154 = .ok (.aload_n 0, 1) := by decide +kernel
theorem dX6_seek_155 : decode cX6_seek 155 = .ok (.iload 5, 2) := by decide +kernel
theorem dX6_seek_157 : decode cX6_seek 157 = .ok (.iconst 1, 1) := by decide +kernel
theorem dX6_seek_158 : decode cX6_seek 158 = .ok (.iadd, 1) := by decide +kernel
theorem dX6_seek_159 : decode cX6_seek 159 = .ok (.invokevirtual 132, 3) := by decide +kernel
theorem dX6_seek_162 : decode cX6_seek 162 = .ok (.ifCond .eq (-56), 3) := by decide +kernel
theorem dX6_seek_165 : decode cX6_seek 165 = .ok (.iload 5, 2) := by decide +kernel
theorem dX6_seek_167 : decode cX6_seek 167 = .ok (.iconst 1, 1) := by decide +kernel
theorem dX6_seek_168 : decode cX6_seek 168 = .ok (.iadd, 1) := by decide +kernel
theorem dX6_seek_169 : decode cX6_seek 169 = .ok (.iload_n 1, 1) := by decide +kernel
theorem dX6_seek_170 : decode cX6_seek 170 = .ok (.if_icmp .ge 27, 3) := by decide +kernel
theorem dX6_seek_173 : decode cX6_seek 173 = .ok (.iinc 5 1, 3) := by decide +kernel
theorem dX6_seek_176 : decode cX6_seek 176 = .ok (.aload_n 0, 1) := by decide +kernel
theorem dX6_seek_177 : decode cX6_seek 177 = .ok (.getfield 28, 3) := by decide +kernel
theorem dX6_seek_180 : decode cX6_seek 180 = .ok (.iload 5, 2) := by decide +kernel
theorem dX6_seek_182 : decode cX6_seek 182 = .ok (.aload_n 0, 1) := by decide +kernel
theorem dX6_seek_183 : decode cX6_seek 183 = .ok (.getfield 19, 3) := by decide +kernel
theorem dX6_seek_186 : decode cX6_seek 186 = .ok (.iload 5, 2) := by decide +kernel
theorem dX6_seek_188 : decode cX6_seek 188 = .ok (.iconst 1, 1) := by decide +kernel
theorem dX6_seek_189 : decode cX6_seek 189 = .ok (.isub, 1) := by decide +kernel
theorem dX6_seek_190 : decode cX6_seek 190 = .ok (.iaload, 1) := by decide +kernel
theorem dX6_seek_191 : decode cX6_seek 191 = .ok (.iconst 1, 1) := by decide +kernel
theorem dX6_seek_192 : decode cX6_seek 192 = .ok (.iadd, 1) := by decide +kernel
theorem dX6_seek_193 : decode cX6_seek 193 = .ok (.iastore, 1) := by decide +kernel
theorem dX6_seek_194 : decode cX6_seek 194 = .ok (.goto (-88), 3) := by decide +kernel
theorem dX6_seek_197 : decode cX6_seek 197 = .ok (.iinc 4 1, 3) := by decide +kernel
theorem dX6_seek_200 : decode cX6_seek 200 = .ok (.iload_n 3, 1) := by decide +kernel
theorem dX6_seek_201 : decode cX6_seek 201 = .ok (.ifCond .eq (-95), 3) := by decide +kernel
theorem dX6_seek_204 : decode cX6_seek 204 = .ok (.aload_n 0, 1) := by decide +kernel
theorem dX6_seek_205 : decode cX6_seek 205 = .ok (.iload_n 1, 1) := by decide +kernel
theorem dX6_seek_206 : decode cX6_seek 206 = .ok (.invokevirtual 145, 3) := by decide +kernel
theorem dX6_seek_209 : decode cX6_seek 209 = .ok (.iconst 1, 1) := by decide +kernel
theorem dX6_seek_210 : decode cX6_seek 210 = .ok (.ireturn, 1) := by decide +kernel
theorem dX6_seek_211 : decode cX6_seek 211 = .ok (.iload 4, 2) := by decide +kernel
theorem dX6_seek_213 : decode cX6_seek 213 = .ok (.ireturn, 1) := by decide +kernel
theorem dX6_laysFirst_0 : decode cX6_laysFirst 0 = .ok (.aload_n 0, 1) := by decide +kernel
theorem dX6_laysFirst_1 : decode cX6_laysFirst 1 = .ok (.lconst 0, 1) := by decide +kernel
theorem dX6_laysFirst_2 : decode cX6_laysFirst 2 = .ok (.putfield 141, 3) := by decide +kernel
theorem dX6_laysFirst_5 : decode cX6_laysFirst 5 = .ok (.iconst 0, 1) := by decide +kernel
theorem dX6_laysFirst_6 : decode cX6_laysFirst 6 = .ok (.istore_n 2, 1) := by decide +kernel
theorem dX6_laysFirst_7 : decode cX6_laysFirst 7 = .ok (.iload_n 2, 1) := by decide +kernel
theorem dX6_laysFirst_8 : decode cX6_laysFirst 8 = .ok (.iload_n 1, 1) := by decide +kernel
theorem dX6_laysFirst_9 : decode cX6_laysFirst 9 = .ok (.if_icmp .ge 26, 3) := by decide +kernel
theorem dX6_laysFirst_12 : decode cX6_laysFirst 12 = .ok (.aload_n 0, 1) := by decide +kernel
theorem dX6_laysFirst_13 : decode cX6_laysFirst 13 = .ok (.dup, 1) := by decide +kernel
theorem dX6_laysFirst_14 : decode cX6_laysFirst 14 = .ok (.getfield 141, 3) := by decide +kernel
theorem dX6_laysFirst_17 : decode cX6_laysFirst 17 = .ok (.lconst 1, 1) := by decide +kernel
theorem dX6_laysFirst_18 : decode cX6_laysFirst 18 = .ok (.aload_n 0, 1) := by decide +kernel
theorem dX6_laysFirst_19 : decode cX6_laysFirst 19 = .ok (.getfield 19, 3) := by decide +kernel
theorem dX6_laysFirst_22 : decode cX6_laysFirst 22 = .ok (.iload_n 2, 1) := by decide +kernel
theorem dX6_laysFirst_23 : decode cX6_laysFirst 23 = .ok (.iaload, 1) := by decide +kernel
theorem dX6_laysFirst_24 : decode cX6_laysFirst 24 = .ok (.lshl, 1) := by decide +kernel
theorem dX6_laysFirst_25 : decode cX6_laysFirst 25 = .ok (.lor, 1) := by decide +kernel
theorem dX6_laysFirst_26 : decode cX6_laysFirst 26 = .ok (.putfield 141, 3) := by decide +kernel
theorem dX6_laysFirst_29 : decode cX6_laysFirst 29 = .ok (.iinc 2 1, 3) := by decide +kernel
theorem dX6_laysFirst_32 : decode cX6_laysFirst 32 = .ok (.goto (-25), 3) := by decide +kernel
theorem dX6_laysFirst_35 : decode cX6_laysFirst 35 = .ok (.return_, 1) := by decide +kernel
theorem dX6_least_0 : decode cX6_least 0 = .ok (.iconst 0, 1) := by decide +kernel
theorem dX6_least_1 : decode cX6_least 1 = .ok (.istore_n 2, 1) := by decide +kernel
theorem dX6_least_2 : decode cX6_least 2 = .ok (.iload_n 2, 1) := by decide +kernel
theorem dX6_least_3 : decode cX6_least 3 = .ok (.bipush 40, 2) := by decide +kernel
theorem dX6_least_5 : decode cX6_least 5 = .ok (.if_icmp .gt 21, 3) := by decide +kernel
theorem dX6_least_8 : decode cX6_least 8 = .ok (.aload_n 0, 1) := by decide +kernel
theorem dX6_least_9 : decode cX6_least 9 = .ok (.iload_n 1, 1) := by decide +kernel
theorem dX6_least_10 : decode cX6_least 10 = .ok (.iload_n 2, 1) := by decide +kernel
theorem dX6_least_11 : decode cX6_least 11 = .ok (.iconst 1, 1) := by decide +kernel
theorem dX6_least_12 : decode cX6_least 12 = .ok (.invokevirtual 148, 3) := by decide +kernel
theorem dX6_least_15 : decode cX6_least 15 = .ok (.ifCond .le 5, 3) := by decide +kernel
theorem dX6_least_18 : decode cX6_least 18 = .ok (.iload_n 2, 1) := by decide +kernel
theorem dX6_least_19 : decode cX6_least 19 = .ok (.ireturn, 1) := by decide +kernel
theorem dX6_least_20 : decode cX6_least 20 = .ok (.iinc 2 1, 3) := by decide +kernel
theorem dX6_least_23 : decode cX6_least 23 = .ok (.goto (-21), 3) := by decide +kernel
theorem dX6_least_26 : decode cX6_least 26 = .ok (.iconst (-1), 1) := by decide +kernel
theorem dX6_least_27 : decode cX6_least 27 = .ok (.ireturn, 1) := by decide +kernel
theorem dX6_leastSpan_0 : decode cX6_leastSpan 0 = .ok (.aload_n 0, 1) := by decide +kernel
theorem dX6_leastSpan_1 : decode cX6_leastSpan 1 = .ok (.iload_n 1, 1) := by decide +kernel
theorem dX6_leastSpan_2 : decode cX6_leastSpan 2 = .ok (.iconst 1, 1) := by decide +kernel
theorem dX6_leastSpan_3 : decode cX6_leastSpan 3 = .ok (.bipush 6, 2) := by decide +kernel
theorem dX6_leastSpan_5 : decode cX6_leastSpan 5 = .ok (.invokestatic 53, 3) := by decide +kernel
theorem dX6_leastSpan_8 : decode cX6_leastSpan 8 = .ok (.ifCond .eq 7, 3) := by decide +kernel
theorem dX6_leastSpan_11 : decode cX6_leastSpan 11 = .ok (.iconst 0, 1) := by decide +kernel
theorem dX6_leastSpan_12 : decode cX6_leastSpan 12 = .ok (.goto 4, 3) := by decide +kernel
theorem dX6_leastSpan_15 : decode cX6_leastSpan 15 = .ok (.iconst 1, 1) := by decide +kernel
theorem dX6_leastSpan_16 : decode cX6_leastSpan 16 = .ok (.putfield 43, 3) := by decide +kernel
theorem dX6_leastSpan_19 : decode cX6_leastSpan 19 = .ok (.aload_n 0, 1) := by decide +kernel
theorem dX6_leastSpan_20 : decode cX6_leastSpan 20 = .ok (.getfield 43, 3) := by decide +kernel
theorem dX6_leastSpan_23 : decode cX6_leastSpan 23 = .ok (.ifCond .eq 7, 3) := by decide +kernel
theorem dX6_leastSpan_26 : decode cX6_leastSpan 26 = .ok (.iconst 0, 1) := by decide +kernel
theorem dX6_leastSpan_27 : decode cX6_leastSpan 27 = .ok (.goto 8, 3) := by decide +kernel
theorem dX6_leastSpan_30 : decode cX6_leastSpan 30 = .ok (.aload_n 0, 1) := by decide +kernel
theorem dX6_leastSpan_31 : decode cX6_leastSpan 31 = .ok (.iload_n 1, 1) := by decide +kernel
theorem dX6_leastSpan_32 : decode cX6_leastSpan 32 = .ok (.invokevirtual 152, 3) := by decide +kernel
theorem dX6_leastSpan_35 : decode cX6_leastSpan 35 = .ok (.ireturn, 1) := by decide +kernel
theorem dX6_bestRuler_0 : decode cX6_bestRuler 0 = .ok (.aload_n 0, 1) := by decide +kernel
theorem dX6_bestRuler_1 : decode cX6_bestRuler 1 = .ok (.iload_n 1, 1) := by decide +kernel
theorem dX6_bestRuler_2 : decode cX6_bestRuler 2 = .ok (.iconst 1, 1) := by decide +kernel
theorem dX6_bestRuler_3 : decode cX6_bestRuler 3 = .ok (.bipush 6, 2) := by decide +kernel
theorem dX6_bestRuler_5 : decode cX6_bestRuler 5 = .ok (.invokestatic 53, 3) := by decide +kernel
theorem dX6_bestRuler_8 : decode cX6_bestRuler 8 = .ok (.ifCond .eq 7, 3) := by decide +kernel
theorem dX6_bestRuler_11 : decode cX6_bestRuler 11 = .ok (.iconst 0, 1) := by decide +kernel
theorem dX6_bestRuler_12 : decode cX6_bestRuler 12 = .ok (.goto 4, 3) := by decide +kernel
theorem dX6_bestRuler_15 : decode cX6_bestRuler 15 = .ok (.iconst 1, 1) := by decide +kernel
theorem dX6_bestRuler_16 : decode cX6_bestRuler 16 = .ok (.putfield 43, 3) := by decide +kernel
theorem dX6_bestRuler_19 : decode cX6_bestRuler 19 = .ok (.aload_n 0, 1) := by decide +kernel
theorem dX6_bestRuler_20 : decode cX6_bestRuler 20 = .ok (.getfield 43, 3) := by decide +kernel
theorem dX6_bestRuler_23 : decode cX6_bestRuler 23 = .ok (.ifCond .eq 5, 3) := by decide +kernel
theorem dX6_bestRuler_26 : decode cX6_bestRuler 26 = .ok (.lconst 0, 1) := by decide +kernel
theorem dX6_bestRuler_27 : decode cX6_bestRuler 27 = .ok (.lreturn, 1) := by decide +kernel
theorem dX6_bestRuler_28 : decode cX6_bestRuler 28 = .ok (.aload_n 0, 1) := by decide +kernel
theorem dX6_bestRuler_29 : decode cX6_bestRuler 29 = .ok (.iload_n 1, 1) := by decide +kernel
theorem dX6_bestRuler_30 : decode cX6_bestRuler 30 = .ok (.invokevirtual 152, 3) := by decide +kernel
theorem dX6_bestRuler_33 : decode cX6_bestRuler 33 = .ok (.iconst (-1), 1) := by decide +kernel
theorem dX6_bestRuler_34 : decode cX6_bestRuler 34 = .ok (.if_icmp .ne 7, 3) := by decide +kernel
theorem dX6_bestRuler_37 : decode cX6_bestRuler 37 = .ok (.lconst 0, 1) := by decide +kernel
theorem dX6_bestRuler_38 : decode cX6_bestRuler 38 = .ok (.goto 7, 3) := by decide +kernel
theorem dX6_bestRuler_41 : decode cX6_bestRuler 41 = .ok (.aload_n 0, 1) := by decide +kernel
theorem dX6_bestRuler_42 : decode cX6_bestRuler 42 = .ok (.getfield 141, 3) := by decide +kernel
theorem dX6_bestRuler_45 : decode cX6_bestRuler 45 = .ok (.lreturn, 1) := by decide +kernel
theorem dX6_rulers_0 : decode cX6_rulers 0 = .ok (.aload_n 0, 1) := by decide +kernel
theorem dX6_rulers_1 : decode cX6_rulers 1 = .ok (.iload_n 1, 1) := by decide +kernel
theorem dX6_rulers_2 : decode cX6_rulers 2 = .ok (.iconst 1, 1) := by decide +kernel
theorem dX6_rulers_3 : decode cX6_rulers 3 = .ok (.iconst 5, 1) := by decide +kernel
theorem dX6_rulers_4 : decode cX6_rulers 4 = .ok (.invokestatic 53, 3) := by decide +kernel
theorem dX6_rulers_7 : decode cX6_rulers 7 = .ok (.ifCond .eq 17, 3) := by decide +kernel
theorem dX6_rulers_10 : decode cX6_rulers 10 = .ok (.iload_n 2, 1) := by decide +kernel
theorem dX6_rulers_11 : decode cX6_rulers 11 = .ok (.iconst 0, 1) := by decide +kernel
theorem dX6_rulers_12 : decode cX6_rulers 12 = .ok (.bipush 40, 2) := by decide +kernel
theorem dX6_rulers_14 : decode cX6_rulers 14 = .ok (.invokestatic 53, 3) := by decide +kernel
theorem dX6_rulers_17 : decode cX6_rulers 17 = .ok (.ifCond .eq 7, 3) := by decide +kernel
theorem dX6_rulers_20 : decode cX6_rulers 20 = .ok (.iconst 0, 1) := by decide +kernel
theorem dX6_rulers_21 : decode cX6_rulers 21 = .ok (.goto 4, 3) := by decide +kernel
theorem dX6_rulers_24 : decode cX6_rulers 24 = .ok (.iconst 1, 1) := by decide +kernel
theorem dX6_rulers_25 : decode cX6_rulers 25 = .ok (.putfield 43, 3) := by decide +kernel
theorem dX6_rulers_28 : decode cX6_rulers 28 = .ok (.aload_n 0, 1) := by decide +kernel
theorem dX6_rulers_29 : decode cX6_rulers 29 = .ok (.getfield 43, 3) := by decide +kernel
theorem dX6_rulers_32 : decode cX6_rulers 32 = .ok (.ifCond .eq 7, 3) := by decide +kernel
theorem dX6_rulers_35 : decode cX6_rulers 35 = .ok (.iconst 0, 1) := by decide +kernel
theorem dX6_rulers_36 : decode cX6_rulers 36 = .ok (.goto 10, 3) := by decide +kernel
theorem dX6_rulers_39 : decode cX6_rulers 39 = .ok (.aload_n 0, 1) := by decide +kernel
theorem dX6_rulers_40 : decode cX6_rulers 40 = .ok (.iload_n 1, 1) := by decide +kernel
theorem dX6_rulers_41 : decode cX6_rulers 41 = .ok (.iload_n 2, 1) := by decide +kernel
theorem dX6_rulers_42 : decode cX6_rulers 42 = .ok (.iconst 0, 1) := by decide +kernel
theorem dX6_rulers_43 : decode cX6_rulers 43 = .ok (.invokevirtual 148, 3) := by decide +kernel
theorem dX6_rulers_46 : decode cX6_rulers 46 = .ok (.ireturn, 1) := by decide +kernel
theorem dX6_openingsFor_0 : decode cX6_openingsFor 0 = .ok (.lconst 0, 1) := by decide +kernel
theorem dX6_openingsFor_1 : decode cX6_openingsFor 1 = .ok (.lstore_n 2, 1) := by decide +kernel
theorem dX6_openingsFor_2 : decode cX6_openingsFor 2 = .ok (.iconst 0, 1) := by decide +kernel
theorem dX6_openingsFor_3 : decode cX6_openingsFor 3 = .ok (.istore 4, 2) := by decide +kernel
theorem dX6_openingsFor_5 : decode cX6_openingsFor 5 = .ok (.iload 4, 2) := by decide +kernel
theorem dX6_openingsFor_7 : decode cX6_openingsFor 7 = .ok (.bipush 64, 2) := by decide +kernel
theorem dX6_openingsFor_9 : decode cX6_openingsFor 9 = .ok (.if_icmp .ge 74, 3) := by decide +kernel
theorem dX6_openingsFor_12 : decode cX6_openingsFor 12 = .ok (.aload_n 0, 1) := by decide +kernel
theorem dX6_openingsFor_13 : decode cX6_openingsFor 13 = .ok (.invokevirtual 98, 3) := by decide +kernel
theorem dX6_openingsFor_16 : decode cX6_openingsFor 16 = .ok (.aload_n 0, 1) := by decide +kernel
theorem dX6_openingsFor_17 : decode cX6_openingsFor 17 = .ok (.getfield 19, 3) := by decide +kernel
theorem dX6_openingsFor_20 : decode cX6_openingsFor 20 = .ok (.aload_n 0, 1) := by decide +kernel
theorem dX6_openingsFor_21 : decode cX6_openingsFor 21 = .ok (.getfield 7, 3) := by decide +kernel
theorem dX6_openingsFor_24 : decode cX6_openingsFor 24 = .ok (.iconst 5, 1) := by decide +kernel
theorem dX6_openingsFor_25 : decode cX6_openingsFor 25 = .ok (.iaload, 1) := by decide +kernel
theorem dX6_openingsFor_26 : decode cX6_openingsFor 26 = .ok (.iload 4, 2) := by decide +kernel
theorem dX6_openingsFor_28 : decode cX6_openingsFor 28 = .ok (.iastore, 1) := by decide +kernel
theorem dX6_openingsFor_29 : decode cX6_openingsFor 29 = .ok (.aload_n 0, 1) := by decide +kernel
theorem dX6_openingsFor_30 : decode cX6_openingsFor 30 = .ok (.getfield 22, 3) := by decide +kernel
theorem dX6_openingsFor_33 : decode cX6_openingsFor 33 = .ok (.aload_n 0, 1) := by decide +kernel
theorem dX6_openingsFor_34 : decode cX6_openingsFor 34 = .ok (.getfield 7, 3) := by decide +kernel
theorem dX6_openingsFor_37 : decode cX6_openingsFor 37 = .ok (.iconst 5, 1) := by decide +kernel
theorem dX6_openingsFor_38 : decode cX6_openingsFor 38 = .ok (.iaload, 1) := by decide +kernel
theorem dX6_openingsFor_39 : decode cX6_openingsFor 39 = .ok (.iload_n 1, 1) := by decide +kernel
theorem dX6_openingsFor_40 : decode cX6_openingsFor 40 = .ok (.iastore, 1) := by decide +kernel
theorem dX6_openingsFor_41 : decode cX6_openingsFor 41 = .ok (.lload_n 2, 1) := by decide +kernel
theorem dX6_openingsFor_42 : decode cX6_openingsFor 42 = .ok (.aload_n 0, 1) := by decide +kernel
theorem dX6_openingsFor_43 : decode cX6_openingsFor 43 = .ok (.iload 4, 2) := by decide +kernel
theorem dX6_openingsFor_45 : decode cX6_openingsFor 45 = .ok (.iconst (-1), 1) := by decide +kernel
theorem dX6_openingsFor_46 : decode cX6_openingsFor 46 = .ok (.invokevirtual 65, 3) := by decide +kernel
theorem dX6_openingsFor_49 : decode cX6_openingsFor 49 = .ok (.ifCond .ne 25, 3) := by decide +kernel
theorem dX6_openingsFor_52 : decode cX6_openingsFor 52 = .ok (.aload_n 0, 1) := by decide +kernel
theorem dX6_openingsFor_53 : decode cX6_openingsFor 53 = .ok (.aload_n 0, 1) := by decide +kernel
theorem dX6_openingsFor_54 : decode cX6_openingsFor 54 = .ok (.getfield 7, 3) := by decide +kernel
theorem dX6_openingsFor_57 : decode cX6_openingsFor 57 = .ok (.iconst 5, 1) := by decide +kernel
theorem dX6_openingsFor_58 : decode cX6_openingsFor 58 = .ok (.iaload, 1) := by decide +kernel
theorem dX6_openingsFor_59 : decode cX6_openingsFor 59 = .ok (.iconst 1, 1) := by decide +kernel
theorem dX6_openingsFor_60 : decode cX6_openingsFor 60 = .ok (.iadd, 1) := by decide +kernel
theorem dX6_openingsFor_61 : decode cX6_openingsFor 61 = .ok (.invokevirtual 132, 3) := by decide +kernel
theorem dX6_openingsFor_64 : decode cX6_openingsFor 64 = .ok (.ifCond .eq 10, 3) := by decide +kernel
theorem dX6_openingsFor_67 : decode cX6_openingsFor 67 = .ok (.lconst 1, 1) := by decide +kernel
theorem dX6_openingsFor_68 : decode cX6_openingsFor 68 = .ok (.iload 4, 2) := by decide +kernel
theorem dX6_openingsFor_70 : decode cX6_openingsFor 70 = .ok (.lshl, 1) := by decide +kernel
theorem dX6_openingsFor_71 : decode cX6_openingsFor 71 = .ok (.goto 4, 3) := by decide +kernel
theorem dX6_openingsFor_74 : decode cX6_openingsFor 74 = .ok (.lconst 0, 1) := by decide +kernel
theorem dX6_openingsFor_75 : decode cX6_openingsFor 75 = .ok (.lor, 1) := by decide +kernel
theorem dX6_openingsFor_76 : decode cX6_openingsFor 76 = .ok (.lstore_n 2, 1) := by decide +kernel
theorem dX6_openingsFor_77 : decode cX6_openingsFor 77 = .ok (.iinc 4 1, 3) := by decide +kernel
theorem dX6_openingsFor_80 : decode cX6_openingsFor 80 = .ok (.goto (-75), 3) := by decide +kernel
theorem dX6_openingsFor_83 : decode cX6_openingsFor 83 = .ok (.lload_n 2, 1) := by decide +kernel
theorem dX6_openingsFor_84 : decode cX6_openingsFor 84 = .ok (.lreturn, 1) := by decide +kernel
theorem dX6_openings_0 : decode cX6_openings 0 = .ok (.aload_n 0, 1) := by decide +kernel
theorem dX6_openings_1 : decode cX6_openings 1 = .ok (.iload_n 1, 1) := by decide +kernel
theorem dX6_openings_2 : decode cX6_openings 2 = .ok (.iconst 0, 1) := by decide +kernel
theorem dX6_openings_3 : decode cX6_openings 3 = .ok (.bipush 60, 2) := by decide +kernel
theorem dX6_openings_5 : decode cX6_openings 5 = .ok (.invokestatic 53, 3) := by decide +kernel
theorem dX6_openings_8 : decode cX6_openings 8 = .ok (.ifCond .eq 7, 3) := by decide +kernel
theorem dX6_openings_11 : decode cX6_openings 11 = .ok (.iconst 0, 1) := by decide +kernel
theorem dX6_openings_12 : decode cX6_openings 12 = .ok (.goto 4, 3) := by decide +kernel
theorem dX6_openings_15 : decode cX6_openings 15 = .ok (.iconst 1, 1) := by decide +kernel
theorem dX6_openings_16 : decode cX6_openings 16 = .ok (.putfield 43, 3) := by decide +kernel
theorem dX6_openings_19 : decode cX6_openings 19 = .ok (.aload_n 0, 1) := by decide +kernel
theorem dX6_openings_20 : decode cX6_openings 20 = .ok (.getfield 43, 3) := by decide +kernel
theorem dX6_openings_23 : decode cX6_openings 23 = .ok (.ifCond .eq 7, 3) := by decide +kernel
theorem dX6_openings_26 : decode cX6_openings 26 = .ok (.lconst 0, 1) := by decide +kernel
theorem dX6_openings_27 : decode cX6_openings 27 = .ok (.goto 8, 3) := by decide +kernel
theorem dX6_openings_30 : decode cX6_openings 30 = .ok (.aload_n 0, 1) := by decide +kernel
theorem dX6_openings_31 : decode cX6_openings 31 = .ok (.iload_n 1, 1) := by decide +kernel
theorem dX6_openings_32 : decode cX6_openings 32 = .ok (.invokevirtual 155, 3) := by decide +kernel
theorem dX6_openings_35 : decode cX6_openings 35 = .ok (.lreturn, 1) := by decide +kernel
theorem dX6_putIn_0 : decode cX6_putIn 0 = .ok (.aload_n 0, 1) := by decide +kernel
theorem dX6_putIn_1 : decode cX6_putIn 1 = .ok (.iload_n 1, 1) := by decide +kernel
theorem dX6_putIn_2 : decode cX6_putIn 2 = .ok (.iconst 0, 1) := by decide +kernel
theorem dX6_putIn_3 : decode cX6_putIn 3 = .ok (.bipush 60, 2) := by decide +kernel
theorem dX6_putIn_5 : decode cX6_putIn 5 = .ok (.invokestatic 53, 3) := by decide +kernel
theorem dX6_putIn_8 : decode cX6_putIn 8 = .ok (.ifCond .ne 7, 3) := by decide +kernel
theorem dX6_putIn_11 : decode cX6_putIn 11 = .ok (.iconst 1, 1) := by decide +kernel
theorem dX6_putIn_12 : decode cX6_putIn 12 = .ok (.goto 19, 3) := by decide +kernel
theorem dX6_putIn_15 : decode cX6_putIn 15 = .ok (.aload_n 0, 1) := by decide +kernel
theorem dX6_putIn_16 : decode cX6_putIn 16 = .ok (.getfield 7, 3) := by decide +kernel
theorem dX6_putIn_19 : decode cX6_putIn 19 = .ok (.iconst 5, 1) := by decide +kernel
theorem dX6_putIn_20 : decode cX6_putIn 20 = .ok (.iaload, 1) := by decide +kernel
theorem dX6_putIn_21 : decode cX6_putIn 21 = .ok (.bipush 10, 2) := by decide +kernel
theorem dX6_putIn_23 : decode cX6_putIn 23 = .ok (.if_icmp .ne 7, 3) := by decide +kernel
theorem dX6_putIn_26 : decode cX6_putIn 26 = .ok (.iconst 2, 1) := by decide +kernel
theorem dX6_putIn_27 : decode cX6_putIn 27 = .ok (.goto 4, 3) := by decide +kernel
theorem dX6_putIn_30 : decode cX6_putIn 30 = .ok (.iconst 0, 1) := by decide +kernel
theorem dX6_putIn_31 : decode cX6_putIn 31 = .ok (.putfield 43, 3) := by decide +kernel
theorem dX6_putIn_34 : decode cX6_putIn 34 = .ok (.aload_n 0, 1) := by decide +kernel
theorem dX6_putIn_35 : decode cX6_putIn 35 = .ok (.getfield 43, 3) := by decide +kernel
theorem dX6_putIn_38 : decode cX6_putIn 38 = .ok (.ifCond .eq 5, 3) := by decide +kernel
theorem dX6_putIn_41 : decode cX6_putIn 41 = .ok (.iconst 0, 1) := by decide +kernel
theorem dX6_putIn_42 : decode cX6_putIn 42 = .ok (.ireturn, 1) := by decide +kernel
theorem dX6_putIn_43 : decode cX6_putIn 43 = .ok (.aload_n 0, 1) := by decide +kernel
theorem dX6_putIn_44 : decode cX6_putIn 44 = .ok (.iload_n 1, 1) := by decide +kernel
theorem dX6_putIn_45 : decode cX6_putIn 45 = .ok (.invokevirtual 155, 3) := by decide +kernel
theorem dX6_putIn_48 : decode cX6_putIn 48 = .ok (.lstore_n 2, 1) := by decide +kernel
theorem dX6_putIn_49 : decode cX6_putIn 49 = .ok (.lload_n 2, 1) := by decide +kernel
theorem dX6_putIn_50 : decode cX6_putIn 50 = .ok (.lconst 0, 1) := by decide +kernel
theorem dX6_putIn_51 : decode cX6_putIn 51 = .ok (.lcmp, 1) := by decide +kernel
theorem dX6_putIn_52 : decode cX6_putIn 52 = .ok (.ifCond .ne 5, 3) := by decide +kernel
theorem dX6_putIn_55 : decode cX6_putIn 55 = .ok (.iconst (-1), 1) := by decide +kernel
theorem dX6_putIn_56 : decode cX6_putIn 56 = .ok (.ireturn, 1) := by decide +kernel
theorem dX6_putIn_57 : decode cX6_putIn 57 = .ok (.iconst 0, 1) := by decide +kernel
theorem dX6_putIn_58 : decode cX6_putIn 58 = .ok (.istore 4, 2) := by decide +kernel
theorem dX6_putIn_60 : decode cX6_putIn 60 = .ok (.lload_n 2, 1) := by decide +kernel
theorem dX6_putIn_61 : decode cX6_putIn 61 = .ok (.iload 4, 2) := by decide +kernel
theorem dX6_putIn_63 : decode cX6_putIn 63 = .ok (.lshr, 1) := by decide +kernel
theorem dX6_putIn_64 : decode cX6_putIn 64 = .ok (.lconst 1, 1) := by decide +kernel
theorem dX6_putIn_65 : decode cX6_putIn 65 = .ok (.land, 1) := by decide +kernel
theorem dX6_putIn_66 : decode cX6_putIn 66 = .ok (.lconst 0, 1) := by decide +kernel
theorem dX6_putIn_67 : decode cX6_putIn 67 = .ok (.lcmp, 1) := by decide +kernel
theorem dX6_putIn_68 : decode cX6_putIn 68 = .ok (.ifCond .ne 9, 3) := by decide +kernel
theorem dX6_putIn_71 : decode cX6_putIn 71 = .ok (.iinc 4 1, 3) := by decide +kernel
theorem dX6_putIn_74 : decode cX6_putIn 74 = .ok (.goto (-14), 3) := by decide +kernel
theorem dX6_putIn_77 : decode cX6_putIn 77 = .ok (.aload_n 0, 1) := by decide +kernel
theorem dX6_putIn_78 : decode cX6_putIn 78 = .ok (.invokevirtual 72, 3) := by decide +kernel
theorem dX6_putIn_81 : decode cX6_putIn 81 = .ok (.aload_n 0, 1) := by decide +kernel
theorem dX6_putIn_82 : decode cX6_putIn 82 = .ok (.aload_n 0, 1) := by decide +kernel
theorem dX6_putIn_83 : decode cX6_putIn 83 = .ok (.getfield 7, 3) := by decide +kernel
theorem dX6_putIn_86 : decode cX6_putIn 86 = .ok (.iconst 5, 1) := by decide +kernel
theorem dX6_putIn_87 : decode cX6_putIn 87 = .ok (.iaload, 1) := by decide +kernel
theorem dX6_putIn_88 : decode cX6_putIn 88 = .ok (.iload 4, 2) := by decide +kernel
theorem dX6_putIn_90 : decode cX6_putIn 90 = .ok (.iload_n 1, 1) := by decide +kernel
theorem dX6_putIn_91 : decode cX6_putIn 91 = .ok (.invokevirtual 75, 3) := by decide +kernel
theorem dX6_putIn_94 : decode cX6_putIn 94 = .ok (.aload_n 0, 1) := by decide +kernel
theorem dX6_putIn_95 : decode cX6_putIn 95 = .ok (.getfield 7, 3) := by decide +kernel
theorem dX6_putIn_98 : decode cX6_putIn 98 = .ok (.iconst 5, 1) := by decide +kernel
theorem dX6_putIn_99 : decode cX6_putIn 99 = .ok (.dup2, 1) := by decide +kernel
theorem dX6_putIn_100 : decode cX6_putIn 100 = .ok (.iaload, 1) := by decide +kernel
theorem dX6_putIn_101 : decode cX6_putIn 101 = .ok (.iconst 1, 1) := by decide +kernel
theorem dX6_putIn_102 : decode cX6_putIn 102 = .ok (.iadd, 1) := by decide +kernel
theorem dX6_putIn_103 : decode cX6_putIn 103 = .ok (.iastore, 1) := by decide +kernel
theorem dX6_putIn_104 : decode cX6_putIn 104 = .ok (.iload 4, 2) := by decide +kernel
theorem dX6_putIn_106 : decode cX6_putIn 106 = .ok (.ireturn, 1) := by decide +kernel
theorem dX6_isMixer_0 : decode cX6_isMixer 0 = .ok (.iload_n 1, 1) := by decide +kernel
theorem dX6_isMixer_1 : decode cX6_isMixer 1 = .ok (.iconst 0, 1) := by decide +kernel
theorem dX6_isMixer_2 : decode cX6_isMixer 2 = .ok (.aload_n 0, 1) := by decide +kernel
theorem dX6_isMixer_3 : decode cX6_isMixer 3 = .ok (.getfield 7, 3) := by decide +kernel
theorem dX6_isMixer_6 : decode cX6_isMixer 6 = .ok (.bipush 26, 2) := by decide +kernel
theorem dX6_isMixer_8 : decode cX6_isMixer 8 = .ok (.iaload, 1) := by decide +kernel
theorem dX6_isMixer_9 : decode cX6_isMixer 9 = .ok (.iconst 1, 1) := by decide +kernel
theorem dX6_isMixer_10 : decode cX6_isMixer 10 = .ok (.isub, 1) := by decide +kernel
theorem dX6_isMixer_11 : decode cX6_isMixer 11 = .ok (.invokestatic 53, 3) := by decide +kernel
theorem dX6_isMixer_14 : decode cX6_isMixer 14 = .ok (.ireturn, 1) := by decide +kernel
theorem dX6_addMixer_0 : decode cX6_addMixer 0 = .ok (.aload_n 0, 1) := by decide +kernel
theorem dX6_addMixer_1 : decode cX6_addMixer 1 = .ok (.aload_n 0, 1) := by decide +kernel
theorem dX6_addMixer_2 : decode cX6_addMixer 2 = .ok (.iload_n 1, 1) := by decide +kernel
theorem dX6_addMixer_3 : decode cX6_addMixer 3 = .ok (.invokevirtual 113, 3) := by decide +kernel
theorem dX6_addMixer_6 : decode cX6_addMixer 6 = .ok (.ifCond .ne 7, 3) := by decide +kernel
theorem dX6_addMixer_9 : decode cX6_addMixer 9 = .ok (.iconst 1, 1) := by decide +kernel
theorem dX6_addMixer_10 : decode cX6_addMixer 10 = .ok (.goto 19, 3) := by decide +kernel
theorem dX6_addMixer_13 : decode cX6_addMixer 13 = .ok (.aload_n 0, 1) := by decide +kernel
theorem dX6_addMixer_14 : decode cX6_addMixer 14 = .ok (.getfield 7, 3) := by decide +kernel
theorem dX6_addMixer_17 : decode cX6_addMixer 17 = .ok (.bipush 26, 2) := by decide +kernel
theorem dX6_addMixer_19 : decode cX6_addMixer 19 = .ok (.iaload, 1) := by decide +kernel
theorem dX6_addMixer_20 : decode cX6_addMixer 20 = .ok (.iconst 5, 1) := by decide +kernel
theorem dX6_addMixer_21 : decode cX6_addMixer 21 = .ok (.if_icmp .ne 7, 3) := by decide +kernel
theorem dX6_addMixer_24 : decode cX6_addMixer 24 = .ok (.iconst 2, 1) := by decide +kernel
theorem dX6_addMixer_25 : decode cX6_addMixer 25 = .ok (.goto 4, 3) := by decide +kernel
theorem dX6_addMixer_28 : decode cX6_addMixer 28 = .ok (.iconst 0, 1) := by decide +kernel
theorem dX6_addMixer_29 : decode cX6_addMixer 29 = .ok (.putfield 43, 3) := by decide +kernel
theorem dX6_addMixer_32 : decode cX6_addMixer 32 = .ok (.aload_n 0, 1) := by decide +kernel
theorem dX6_addMixer_33 : decode cX6_addMixer 33 = .ok (.getfield 43, 3) := by decide +kernel
theorem dX6_addMixer_36 : decode cX6_addMixer 36 = .ok (.ifCond .eq 5, 3) := by decide +kernel
theorem dX6_addMixer_39 : decode cX6_addMixer 39 = .ok (.iconst 0, 1) := by decide +kernel
theorem dX6_addMixer_40 : decode cX6_addMixer 40 = .ok (.ireturn, 1) := by decide +kernel
theorem dX6_addMixer_41 : decode cX6_addMixer 41 = .ok (.aload_n 0, 1) := by decide +kernel
theorem dX6_addMixer_42 : decode cX6_addMixer 42 = .ok (.invokevirtual 72, 3) := by decide +kernel
theorem dX6_addMixer_45 : decode cX6_addMixer 45 = .ok (.aload_n 0, 1) := by decide +kernel
theorem dX6_addMixer_46 : decode cX6_addMixer 46 = .ok (.getfield 7, 3) := by decide +kernel
theorem dX6_addMixer_49 : decode cX6_addMixer 49 = .ok (.bipush 27, 2) := by decide +kernel
theorem dX6_addMixer_51 : decode cX6_addMixer 51 = .ok (.aload_n 0, 1) := by decide +kernel
theorem dX6_addMixer_52 : decode cX6_addMixer 52 = .ok (.getfield 7, 3) := by decide +kernel
theorem dX6_addMixer_55 : decode cX6_addMixer 55 = .ok (.bipush 26, 2) := by decide +kernel
theorem dX6_addMixer_57 : decode cX6_addMixer 57 = .ok (.iaload, 1) := by decide +kernel
theorem dX6_addMixer_58 : decode cX6_addMixer 58 = .ok (.iadd, 1) := by decide +kernel
theorem dX6_addMixer_59 : decode cX6_addMixer 59 = .ok (.iload_n 1, 1) := by decide +kernel
theorem dX6_addMixer_60 : decode cX6_addMixer 60 = .ok (.iastore, 1) := by decide +kernel
theorem dX6_addMixer_61 : decode cX6_addMixer 61 = .ok (.aload_n 0, 1) := by decide +kernel
theorem dX6_addMixer_62 : decode cX6_addMixer 62 = .ok (.getfield 7, 3) := by decide +kernel
theorem dX6_addMixer_65 : decode cX6_addMixer 65 = .ok (.bipush 26, 2) := by decide +kernel
theorem dX6_addMixer_67 : decode cX6_addMixer 67 = .ok (.dup2, 1) := by decide +kernel
theorem dX6_addMixer_68 : decode cX6_addMixer 68 = .ok (.iaload, 1) := by decide +kernel
theorem dX6_addMixer_69 : decode cX6_addMixer 69 = .ok (.iconst 1, 1) := by decide +kernel
theorem dX6_addMixer_70 : decode cX6_addMixer 70 = .ok (.iadd, 1) := by decide +kernel
theorem dX6_addMixer_71 : decode cX6_addMixer 71 = .ok (.iastore, 1) := by decide +kernel
theorem dX6_addMixer_72 : decode cX6_addMixer 72 = .ok (.aload_n 0, 1) := by decide +kernel
theorem dX6_addMixer_73 : decode cX6_addMixer 73 = .ok (.getfield 7, 3) := by decide +kernel
theorem dX6_addMixer_76 : decode cX6_addMixer 76 = .ok (.bipush 26, 2) := by decide +kernel
theorem dX6_addMixer_78 : decode cX6_addMixer 78 = .ok (.iaload, 1) := by decide +kernel
theorem dX6_addMixer_79 : decode cX6_addMixer 79 = .ok (.iconst 1, 1) := by decide +kernel
theorem dX6_addMixer_80 : decode cX6_addMixer 80 = .ok (.isub, 1) := by decide +kernel
theorem dX6_addMixer_81 : decode cX6_addMixer 81 = .ok (.ireturn, 1) := by decide +kernel
theorem dX6_setMember_0 : decode cX6_setMember 0 = .ok (.aload_n 0, 1) := by decide +kernel
theorem dX6_setMember_1 : decode cX6_setMember 1 = .ok (.aload_n 0, 1) := by decide +kernel
theorem dX6_setMember_2 : decode cX6_setMember 2 = .ok (.iload_n 1, 1) := by decide +kernel
theorem dX6_setMember_3 : decode cX6_setMember 3 = .ok (.invokevirtual 158, 3) := by decide +kernel
theorem dX6_setMember_6 : decode cX6_setMember 6 = .ok (.ifCond .eq 15, 3) := by decide +kernel
theorem dX6_setMember_9 : decode cX6_setMember 9 = .ok (.aload_n 0, 1) := by decide +kernel
theorem dX6_setMember_10 : decode cX6_setMember 10 = .ok (.iload_n 2, 1) := by decide +kernel
theorem dX6_setMember_11 : decode cX6_setMember 11 = .ok (.invokevirtual 79, 3) := by decide +kernel
theorem dX6_setMember_14 : decode cX6_setMember 14 = .ok (.ifCond .eq 7, 3) := by decide +kernel
theorem dX6_setMember_17 : decode cX6_setMember 17 = .ok (.iconst 0, 1) := by decide +kernel
theorem dX6_setMember_18 : decode cX6_setMember 18 = .ok (.goto 4, 3) := by decide +kernel
theorem dX6_setMember_21 : decode cX6_setMember 21 = .ok (.iconst 1, 1) := by decide +kernel
theorem dX6_setMember_22 : decode cX6_setMember 22 = .ok (.putfield 43, 3) := by decide +kernel
theorem dX6_setMember_25 : decode cX6_setMember 25 = .ok (.aload_n 0, 1) := by decide +kernel
theorem dX6_setMember_26 : decode cX6_setMember 26 = .ok (.getfield 43, 3) := by decide +kernel
theorem dX6_setMember_29 : decode cX6_setMember 29 = .ok (.ifCond .eq 5, 3) := by decide +kernel
theorem dX6_setMember_32 : decode cX6_setMember 32 = .ok (.iconst 0, 1) := by decide +kernel
theorem dX6_setMember_33 : decode cX6_setMember 33 = .ok (.ireturn, 1) := by decide +kernel
theorem dX6_setMember_34 : decode cX6_setMember 34 = .ok (.aload_n 0, 1) := by decide +kernel
theorem dX6_setMember_35 : decode cX6_setMember 35 = .ok (.invokevirtual 72, 3) := by decide +kernel
theorem dX6_setMember_38 : decode cX6_setMember 38 = .ok (.aload_n 0, 1) := by decide +kernel
theorem dX6_setMember_39 : decode cX6_setMember 39 = .ok (.getfield 7, 3) := by decide +kernel
theorem dX6_setMember_42 : decode cX6_setMember 42 = .ok (.bipush 27, 2) := by decide +kernel
theorem dX6_setMember_44 : decode cX6_setMember 44 = .ok (.iload_n 1, 1) := by decide +kernel
theorem dX6_setMember_45 : decode cX6_setMember 45 = .ok (.iadd, 1) := by decide +kernel
theorem dX6_setMember_46 : decode cX6_setMember 46 = .ok (.iaload, 1) := by decide +kernel
theorem dX6_setMember_47 : decode cX6_setMember 47 = .ok (.iconst 1, 1) := by decide +kernel
theorem dX6_setMember_48 : decode cX6_setMember 48 = .ok (.iload_n 2, 1) := by decide +kernel
theorem dX6_setMember_49 : decode cX6_setMember 49 = .ok (.ishl, 1) := by decide +kernel
theorem dX6_setMember_50 : decode cX6_setMember 50 = .ok (.iconst (-1), 1) := by decide +kernel
theorem dX6_setMember_51 : decode cX6_setMember 51 = .ok (.ixor, 1) := by decide +kernel
theorem dX6_setMember_52 : decode cX6_setMember 52 = .ok (.iand, 1) := by decide +kernel
theorem dX6_setMember_53 : decode cX6_setMember 53 = .ok (.istore 4, 2) := by decide +kernel
theorem dX6_setMember_55 : decode cX6_setMember 55 = .ok (.aload_n 0, 1) := by decide +kernel
theorem dX6_setMember_56 : decode cX6_setMember 56 = .ok (.getfield 7, 3) := by decide +kernel
theorem dX6_setMember_59 : decode cX6_setMember 59 = .ok (.bipush 27, 2) := by decide +kernel
theorem dX6_setMember_61 : decode cX6_setMember 61 = .ok (.iload_n 1, 1) := by decide +kernel
theorem dX6_setMember_62 : decode cX6_setMember 62 = .ok (.iadd, 1) := by decide +kernel
theorem dX6_setMember_63 : decode cX6_setMember 63 = .ok (.iload_n 3, 1) := by decide +kernel
theorem dX6_setMember_64 : decode cX6_setMember 64 = .ok (.ifCond .eq 12, 3) := by decide +kernel
theorem dX6_setMember_67 : decode cX6_setMember 67 = .ok (.iload 4, 2) := by decide +kernel
theorem dX6_setMember_69 : decode cX6_setMember 69 = .ok (.iconst 1, 1) := by decide +kernel
theorem dX6_setMember_70 : decode cX6_setMember 70 = .ok (.iload_n 2, 1) := by decide +kernel
theorem dX6_setMember_71 : decode cX6_setMember 71 = .ok (.ishl, 1) := by decide +kernel
theorem dX6_setMember_72 : decode cX6_setMember 72 = .ok (.ior, 1) := by decide +kernel
theorem dX6_setMember_73 : decode cX6_setMember 73 = .ok (.goto 5, 3) := by decide +kernel
theorem dX6_setMember_76 : decode cX6_setMember 76 = .ok (.iload 4, 2) := by decide +kernel
theorem dX6_setMember_78 : decode cX6_setMember 78 = .ok (.iastore, 1) := by decide +kernel
theorem dX6_setMember_79 : decode cX6_setMember 79 = .ok (.aload_n 0, 1) := by decide +kernel
theorem dX6_setMember_80 : decode cX6_setMember 80 = .ok (.getfield 7, 3) := by decide +kernel
theorem dX6_setMember_83 : decode cX6_setMember 83 = .ok (.bipush 27, 2) := by decide +kernel
theorem dX6_setMember_85 : decode cX6_setMember 85 = .ok (.iload_n 1, 1) := by decide +kernel
theorem dX6_setMember_86 : decode cX6_setMember 86 = .ok (.iadd, 1) := by decide +kernel
theorem dX6_setMember_87 : decode cX6_setMember 87 = .ok (.iaload, 1) := by decide +kernel
theorem dX6_setMember_88 : decode cX6_setMember 88 = .ok (.ireturn, 1) := by decide +kernel
theorem dX6_mixer_0 : decode cX6_mixer 0 = .ok (.aload_n 0, 1) := by decide +kernel
theorem dX6_mixer_1 : decode cX6_mixer 1 = .ok (.aload_n 0, 1) := by decide +kernel
theorem dX6_mixer_2 : decode cX6_mixer 2 = .ok (.iload_n 1, 1) := by decide +kernel
theorem dX6_mixer_3 : decode cX6_mixer 3 = .ok (.invokevirtual 158, 3) := by decide +kernel
theorem dX6_mixer_6 : decode cX6_mixer 6 = .ok (.ifCond .eq 7, 3) := by decide +kernel
theorem dX6_mixer_9 : decode cX6_mixer 9 = .ok (.iconst 0, 1) := by decide +kernel
theorem dX6_mixer_10 : decode cX6_mixer 10 = .ok (.goto 4, 3) := by decide +kernel
theorem dX6_mixer_13 : decode cX6_mixer 13 = .ok (.iconst 1, 1) := by decide +kernel
theorem dX6_mixer_14 : decode cX6_mixer 14 = .ok (.putfield 43, 3) := by decide +kernel
theorem dX6_mixer_17 : decode cX6_mixer 17 = .ok (.aload_n 0, 1) := by decide +kernel
theorem dX6_mixer_18 : decode cX6_mixer 18 = .ok (.getfield 43, 3) := by decide +kernel
theorem dX6_mixer_21 : decode cX6_mixer 21 = .ok (.ifCond .eq 7, 3) := by decide +kernel
theorem dX6_mixer_24 : decode cX6_mixer 24 = .ok (.iconst 0, 1) := by decide +kernel
theorem dX6_mixer_25 : decode cX6_mixer 25 = .ok (.goto 12, 3) := by decide +kernel
theorem dX6_mixer_28 : decode cX6_mixer 28 = .ok (.aload_n 0, 1) := by decide +kernel
theorem dX6_mixer_29 : decode cX6_mixer 29 = .ok (.getfield 7, 3) := by decide +kernel
theorem dX6_mixer_32 : decode cX6_mixer 32 = .ok (.bipush 27, 2) := by decide +kernel
theorem dX6_mixer_34 : decode cX6_mixer 34 = .ok (.iload_n 1, 1) := by decide +kernel
theorem dX6_mixer_35 : decode cX6_mixer 35 = .ok (.iadd, 1) := by decide +kernel
theorem dX6_mixer_36 : decode cX6_mixer 36 = .ok (.iaload, 1) := by decide +kernel
theorem dX6_mixer_37 : decode cX6_mixer 37 = .ok (.ireturn, 1) := by decide +kernel
theorem dX6_heardBy_0 : decode cX6_heardBy 0 = .ok (.iconst 0, 1) := by decide +kernel
theorem dX6_heardBy_1 : decode cX6_heardBy 1 = .ok (.istore_n 3, 1) := by decide +kernel
theorem dX6_heardBy_2 : decode cX6_heardBy 2 = .ok (.iconst 0, 1) := by decide +kernel
theorem dX6_heardBy_3 : decode cX6_heardBy 3 = .ok (.istore 4, 2) := by decide +kernel
theorem dX6_heardBy_5 : decode cX6_heardBy 5 = .ok (.iload 4, 2) := by decide +kernel
theorem dX6_heardBy_7 : decode cX6_heardBy 7 = .ok (.aload_n 0, 1) := by decide +kernel
theorem dX6_heardBy_8 : decode cX6_heardBy 8 = .ok (.getfield 7, 3) := by decide +kernel
theorem dX6_heardBy_11 : decode cX6_heardBy 11 = .ok (.bipush 26, 2) := by decide +kernel
theorem dX6_heardBy_13 : decode cX6_heardBy 13 = .ok (.iaload, 1) := by decide +kernel
theorem dX6_heardBy_14 : decode cX6_heardBy 14 = .ok (.if_icmp .ge 45, 3) := by decide +kernel
theorem dX6_heardBy_17 : decode cX6_heardBy 17 = .ok (.iload_n 3, 1) := by decide +kernel
theorem dX6_heardBy_18 : decode cX6_heardBy 18 = .ok (.aload_n 0, 1) := by decide +kernel
theorem dX6_heardBy_19 : decode cX6_heardBy 19 = .ok (.aload_n 0, 1) := by decide +kernel
theorem dX6_heardBy_20 : decode cX6_heardBy 20 = .ok (.getfield 7, 3) := by decide +kernel
theorem dX6_heardBy_23 : decode cX6_heardBy 23 = .ok (.bipush 27, 2) := by decide +kernel
theorem dX6_heardBy_25 : decode cX6_heardBy 25 = .ok (.iload 4, 2) := by decide +kernel
theorem dX6_heardBy_27 : decode cX6_heardBy 27 = .ok (.iadd, 1) := by decide +kernel
theorem dX6_heardBy_28 : decode cX6_heardBy 28 = .ok (.iaload, 1) := by decide +kernel
theorem dX6_heardBy_29 : decode cX6_heardBy 29 = .ok (.iload_n 1, 1) := by decide +kernel
theorem dX6_heardBy_30 : decode cX6_heardBy 30 = .ok (.iand, 1) := by decide +kernel
theorem dX6_heardBy_31 : decode cX6_heardBy 31 = .ok (.invokevirtual 116, 3) := by decide +kernel
theorem dX6_heardBy_34 : decode cX6_heardBy 34 = .ok (.iload_n 2, 1) := by decide +kernel
theorem dX6_heardBy_35 : decode cX6_heardBy 35 = .ok (.lshr, 1) := by decide +kernel
theorem dX6_heardBy_36 : decode cX6_heardBy 36 = .ok (.lconst 1, 1) := by decide +kernel
theorem dX6_heardBy_37 : decode cX6_heardBy 37 = .ok (.land, 1) := by decide +kernel
theorem dX6_heardBy_38 : decode cX6_heardBy 38 = .ok (.lconst 1, 1) := by decide +kernel
theorem dX6_heardBy_39 : decode cX6_heardBy 39 = .ok (.lcmp, 1) := by decide +kernel
theorem dX6_heardBy_40 : decode cX6_heardBy 40 = .ok (.ifCond .ne 10, 3) := by decide +kernel
theorem dX6_heardBy_43 : decode cX6_heardBy 43 = .ok (.iconst 1, 1) := by decide +kernel
theorem dX6_heardBy_44 : decode cX6_heardBy 44 = .ok (.iload 4, 2) := by decide +kernel
theorem dX6_heardBy_46 : decode cX6_heardBy 46 = .ok (.ishl, 1) := by decide +kernel
theorem dX6_heardBy_47 : decode cX6_heardBy 47 = .ok (.goto 4, 3) := by decide +kernel
theorem dX6_heardBy_50 : decode cX6_heardBy 50 = .ok (.iconst 0, 1) := by decide +kernel
theorem dX6_heardBy_51 : decode cX6_heardBy 51 = .ok (.ior, 1) := by decide +kernel
theorem dX6_heardBy_52 : decode cX6_heardBy 52 = .ok (.istore_n 3, 1) := by decide +kernel
theorem dX6_heardBy_53 : decode cX6_heardBy 53 = .ok (.iinc 4 1, 3) := by decide +kernel
theorem dX6_heardBy_56 : decode cX6_heardBy 56 = .ok (.goto (-51), 3) := by decide +kernel
theorem dX6_heardBy_59 : decode cX6_heardBy 59 = .ok (.iload_n 3, 1) := by decide +kernel
theorem dX6_heardBy_60 : decode cX6_heardBy 60 = .ok (.ireturn, 1) := by decide +kernel
theorem dX6_diagnose_0 : decode cX6_diagnose 0 = .ok (.iconst 0, 1) := by decide +kernel
theorem dX6_diagnose_1 : decode cX6_diagnose 1 = .ok (.istore_n 1, 1) := by decide +kernel
theorem dX6_diagnose_2 : decode cX6_diagnose 2 = .ok (.iload_n 1, 1) := by decide +kernel
theorem dX6_diagnose_3 : decode cX6_diagnose 3 = .ok (.aload_n 0, 1) := by decide +kernel
theorem dX6_diagnose_4 : decode cX6_diagnose 4 = .ok (.getfield 7, 3) := by decide +kernel
theorem dX6_diagnose_7 : decode cX6_diagnose 7 = .ok (.bipush 32, 2) := by decide +kernel
theorem dX6_diagnose_9 : decode cX6_diagnose 9 = .ok (.iaload, 1) := by decide +kernel
theorem dX6_diagnose_10 : decode cX6_diagnose 10 = .ok (.if_icmp .ge 43, 3) := by decide +kernel
theorem dX6_diagnose_13 : decode cX6_diagnose 13 = .ok (.aload_n 0, 1) := by decide +kernel
theorem dX6_diagnose_14 : decode cX6_diagnose 14 = .ok (.getfield 31, 3) := by decide +kernel
theorem dX6_diagnose_17 : decode cX6_diagnose 17 = .ok (.iload_n 1, 1) := by decide +kernel
theorem dX6_diagnose_18 : decode cX6_diagnose 18 = .ok (.aload_n 0, 1) := by decide +kernel
theorem dX6_diagnose_19 : decode cX6_diagnose 19 = .ok (.aload_n 0, 1) := by decide +kernel
theorem dX6_diagnose_20 : decode cX6_diagnose 20 = .ok (.getfield 7, 3) := by decide +kernel
theorem dX6_diagnose_23 : decode cX6_diagnose 23 = .ok (.bipush 33, 2) := by decide +kernel
theorem dX6_diagnose_25 : decode cX6_diagnose 25 = .ok (.iconst 3, 1) := by decide +kernel
theorem dX6_diagnose_26 : decode cX6_diagnose 26 = .ok (.iload_n 1, 1) := by decide +kernel
theorem dX6_diagnose_27 : decode cX6_diagnose 27 = .ok (.imul, 1) := by decide +kernel
theorem dX6_diagnose_28 : decode cX6_diagnose 28 = .ok (.iadd, 1) := by decide +kernel
theorem dX6_diagnose_29 : decode cX6_diagnose 29 = .ok (.iaload, 1) := by decide +kernel
theorem dX6_diagnose_30 : decode cX6_diagnose 30 = .ok (.aload_n 0, 1) := by decide +kernel
theorem dX6_diagnose_31 : decode cX6_diagnose 31 = .ok (.getfield 7, 3) := by decide +kernel
theorem dX6_diagnose_34 : decode cX6_diagnose 34 = .ok (.bipush 33, 2) := by decide +kernel
theorem dX6_diagnose_36 : decode cX6_diagnose 36 = .ok (.iconst 3, 1) := by decide +kernel
theorem dX6_diagnose_37 : decode cX6_diagnose 37 = .ok (.iload_n 1, 1) := by decide +kernel
theorem dX6_diagnose_38 : decode cX6_diagnose 38 = .ok (.imul, 1) := by decide +kernel
theorem dX6_diagnose_39 : decode cX6_diagnose 39 = .ok (.iadd, 1) := by decide +kernel
theorem dX6_diagnose_40 : decode cX6_diagnose 40 = .ok (.iconst 1, 1) := by decide +kernel
theorem dX6_diagnose_41 : decode cX6_diagnose 41 = .ok (.iadd, 1) := by decide +kernel
theorem dX6_diagnose_42 : decode cX6_diagnose 42 = .ok (.iaload, 1) := by decide +kernel
theorem dX6_diagnose_43 : decode cX6_diagnose 43 = .ok (.invokevirtual 161, 3) := by decide +kernel
theorem dX6_diagnose_46 : decode cX6_diagnose 46 = .ok (.iastore, 1) := by decide +kernel
theorem dX6_diagnose_47 : decode cX6_diagnose 47 = .ok (.iinc 1 1, 3) := by decide +kernel
theorem dX6_diagnose_50 : decode cX6_diagnose 50 = .ok (.goto (-48), 3) := by decide +kernel
theorem dX6_diagnose_53 : decode cX6_diagnose 53 = .ok (.aload_n 0, 1) := by decide +kernel
theorem dX6_diagnose_54 : decode cX6_diagnose 54 = .ok (.iconst 0, 1) := by decide +kernel
theorem dX6_diagnose_55 : decode cX6_diagnose 55 = .ok (.putfield 165, 3) := by decide +kernel
theorem dX6_diagnose_58 : decode cX6_diagnose 58 = .ok (.iconst 0, 1) := by decide +kernel
theorem dX6_diagnose_59 : decode cX6_diagnose 59 = .ok (.istore_n 1, 1) := by decide +kernel
theorem dX6_diagnose_60 : decode cX6_diagnose 60 = .ok (.iload_n 1, 1) := by decide +kernel
theorem dX6_diagnose_61 : decode cX6_diagnose 61 = .ok (.iconst 1, 1) := by decide +kernel
theorem dX6_diagnose_62 : decode cX6_diagnose 62 = .ok (.aload_n 0, 1) := by decide +kernel
theorem dX6_diagnose_63 : decode cX6_diagnose 63 = .ok (.getfield 7, 3) := by decide +kernel
theorem dX6_diagnose_66 : decode cX6_diagnose 66 = .ok (.bipush 26, 2) := by decide +kernel
theorem dX6_diagnose_68 : decode cX6_diagnose 68 = .ok (.iaload, 1) := by decide +kernel
theorem dX6_diagnose_69 : decode cX6_diagnose 69 = .ok (.ishl, 1) := by decide +kernel
theorem dX6_diagnose_70 : decode cX6_diagnose 70 = .ok (.if_icmp .ge 105, 3) := by decide +kernel
theorem dX6_diagnose_73 : decode cX6_diagnose 73 = .ok (.iconst 1, 1) := by decide +kernel
theorem dX6_diagnose_74 : decode cX6_diagnose 74 = .ok (.istore_n 2, 1) := by decide +kernel
theorem dX6_diagnose_75 : decode cX6_diagnose 75 = .ok (.iconst 0, 1) := by decide +kernel
theorem dX6_diagnose_76 : decode cX6_diagnose 76 = .ok (.istore_n 3, 1) := by decide +kernel
theorem dX6_diagnose_77 : decode cX6_diagnose 77 = .ok (.iload_n 3, 1) := by decide +kernel
theorem dX6_diagnose_78 : decode cX6_diagnose 78 = .ok (.aload_n 0, 1) := by decide +kernel
theorem dX6_diagnose_79 : decode cX6_diagnose 79 = .ok (.getfield 7, 3) := by decide +kernel
theorem dX6_diagnose_82 : decode cX6_diagnose 82 = .ok (.bipush 32, 2) := by decide +kernel
theorem dX6_diagnose_84 : decode cX6_diagnose 84 = .ok (.iaload, 1) := by decide +kernel
theorem dX6_diagnose_85 : decode cX6_diagnose 85 = .ok (.if_icmp .ge 60, 3) := by decide +kernel
theorem dX6_diagnose_88 : decode cX6_diagnose 88 = .ok (.iload_n 2, 1) := by decide +kernel
theorem dX6_diagnose_89 : decode cX6_diagnose 89 = .ok (.ifCond .eq 48, 3) := by decide +kernel
theorem dX6_diagnose_92 : decode cX6_diagnose 92 = .ok (.aload_n 0, 1) := by decide +kernel
theorem dX6_diagnose_93 : decode cX6_diagnose 93 = .ok (.getfield 31, 3) := by decide +kernel
theorem dX6_diagnose_96 : decode cX6_diagnose 96 = .ok (.iload_n 3, 1) := by decide +kernel
theorem dX6_diagnose_97 : decode cX6_diagnose 97 = .ok (.iaload, 1) := by decide +kernel
theorem dX6_diagnose_98 : decode cX6_diagnose 98 = .ok (.iload_n 1, 1) := by decide +kernel
theorem dX6_diagnose_99 : decode cX6_diagnose 99 = .ok (.iand, 1) := by decide +kernel
theorem dX6_diagnose_100 : decode cX6_diagnose 100 = .ok (.ifCond .eq 7, 3) := by decide +kernel
theorem dX6_diagnose_103 : decode cX6_diagnose 103 = .ok (.iconst 1, 1) := by decide +kernel
theorem dX6_diagnose_104 : decode cX6_diagnose 104 = .ok (.goto 4, 3) := by decide +kernel
theorem dX6_diagnose_107 : decode cX6_diagnose 107 = .ok (.iconst 0, 1) := by decide +kernel
theorem dX6_diagnose_108 : decode cX6_diagnose 108 = .ok (.aload_n 0, 1) := by decide +kernel
theorem dX6_diagnose_109 : decode cX6_diagnose 109 = .ok (.getfield 7, 3) := by decide +kernel
theorem dX6_diagnose_112 : decode cX6_diagnose 112 = .ok (.bipush 33, 2) := by decide +kernel
theorem dX6_diagnose_114 : decode cX6_diagnose 114 = .ok (.iconst 3, 1) := by decide +kernel
theorem dX6_diagnose_115 : decode cX6_diagnose 115 = .ok (.iload_n 3, 1) := by decide +kernel
theorem dX6_diagnose_116 : decode cX6_diagnose 116 = .ok (.imul, 1) := by decide +kernel
theorem dX6_diagnose_117 : decode cX6_diagnose 117 = .ok (.iadd, 1) := by decide +kernel
theorem dX6_diagnose_118 : decode cX6_diagnose 118 = .ok (.iconst 2, 1) := by decide +kernel
theorem dX6_diagnose_119 : decode cX6_diagnose 119 = .ok (.iadd, 1) := by decide +kernel
theorem dX6_diagnose_120 : decode cX6_diagnose 120 = .ok (.iaload, 1) := by decide +kernel
theorem dX6_diagnose_121 : decode cX6_diagnose 121 = .ok (.iconst 1, 1) := by decide +kernel
theorem dX6_diagnose_122 : decode cX6_diagnose 122 = .ok (.if_icmp .ne 7, 3) := by decide +kernel
theorem dX6_diagnose_125 : decode cX6_diagnose 125 = .ok (.iconst 1, 1) := by decide +kernel
theorem dX6_diagnose_126 : decode cX6_diagnose 126 = .ok (.goto 4, 3) := by decide +kernel
theorem dX6_diagnose_129 : decode cX6_diagnose 129 = .ok (.iconst 0, 1) := by decide +kernel
theorem dX6_diagnose_130 : decode cX6_diagnose 130 = .ok (.if_icmp .ne 7, 3) := by decide +kernel
theorem dX6_diagnose_133 : decode cX6_diagnose 133 = .ok (.iconst 1, 1) := by decide +kernel
theorem dX6_diagnose_134 : decode cX6_diagnose 134 = .ok (.goto 4, 3) := by decide +kernel
theorem dX6_diagnose_137 : decode cX6_diagnose 137 = .ok (.iconst 0, 1) := by decide +kernel
theorem dX6_diagnose_138 : decode cX6_diagnose 138 = .ok (.istore_n 2, 1) := by decide +kernel
theorem dX6_diagnose_139 : decode cX6_diagnose 139 = .ok (.iinc 3 1, 3) := by decide +kernel
theorem dX6_diagnose_142 : decode cX6_diagnose 142 = .ok (.goto (-65), 3) := by decide +kernel
theorem dX6_diagnose_145 : decode cX6_diagnose 145 = .ok (.iload_n 2, 1) := by decide +kernel
theorem dX6_diagnose_146 : decode cX6_diagnose 146 = .ok (.ifCond .eq 23, 3) := by decide +kernel
theorem dX6_diagnose_149 : decode cX6_diagnose 149 = .ok (.aload_n 0, 1) := by decide +kernel
theorem dX6_diagnose_150 : decode cX6_diagnose 150 = .ok (.getfield 34, 3) := by decide +kernel
theorem dX6_diagnose_153 : decode cX6_diagnose 153 = .ok (.aload_n 0, 1) := by decide +kernel
theorem dX6_diagnose_154 : decode cX6_diagnose 154 = .ok (.getfield 165, 3) := by decide +kernel
theorem dX6_diagnose_157 : decode cX6_diagnose 157 = .ok (.iload_n 1, 1) := by decide +kernel
theorem dX6_diagnose_158 : decode cX6_diagnose 158 = .ok (.iastore, 1) := by decide +kernel
theorem dX6_diagnose_159 : decode cX6_diagnose 159 = .ok (.aload_n 0, 1) := by decide +kernel
theorem dX6_diagnose_160 : decode cX6_diagnose 160 = .ok (.dup, 1) := by decide +kernel
theorem dX6_diagnose_161 : decode cX6_diagnose 161 = .ok (.getfield 165, 3) := by decide +kernel
theorem dX6_diagnose_164 : decode cX6_diagnose 164 = .ok (.iconst 1, 1) := by decide +kernel
theorem dX6_diagnose_165 : decode cX6_diagnose 165 = .ok (.iadd, 1) := by decide +kernel
theorem dX6_diagnose_166 : decode cX6_diagnose 166 = .ok (.putfield 165, 3) := by decide +kernel
theorem dX6_diagnose_169 : decode cX6_diagnose 169 = .ok (.iinc 1 1, 3) := by decide +kernel
theorem dX6_diagnose_172 : decode cX6_diagnose 172 = .ok (.goto (-112), 3) := by decide +kernel
theorem dX6_diagnose_175 : decode cX6_diagnose 175 = .ok (.return_, 1) := by decide +kernel
theorem dX6_addTest_0 : decode cX6_addTest 0 = .ok (.aload_n 0, 1) := by decide +kernel
theorem dX6_addTest_1 : decode cX6_addTest 1 = .ok (.aload_n 0, 1) := by decide +kernel
theorem dX6_addTest_2 : decode cX6_addTest 2 = .ok (.iload_n 1, 1) := by decide +kernel
theorem dX6_addTest_3 : decode cX6_addTest 3 = .ok (.invokevirtual 113, 3) := by decide +kernel
theorem dX6_addTest_6 : decode cX6_addTest 6 = .ok (.ifCond .eq 10, 3) := by decide +kernel
theorem dX6_addTest_9 : decode cX6_addTest 9 = .ok (.iload_n 2, 1) := by decide +kernel
theorem dX6_addTest_10 : decode cX6_addTest 10 = .ok (.invokestatic 61, 3) := by decide +kernel
theorem dX6_addTest_13 : decode cX6_addTest 13 = .ok (.ifCond .ne 7, 3) := by decide +kernel
theorem dX6_addTest_16 : decode cX6_addTest 16 = .ok (.iconst 1, 1) := by decide +kernel
theorem dX6_addTest_17 : decode cX6_addTest 17 = .ok (.goto 20, 3) := by decide +kernel
theorem dX6_addTest_20 : decode cX6_addTest 20 = .ok (.aload_n 0, 1) := by decide +kernel
theorem dX6_addTest_21 : decode cX6_addTest 21 = .ok (.getfield 7, 3) := by decide +kernel
theorem dX6_addTest_24 : decode cX6_addTest 24 = .ok (.bipush 32, 2) := by decide +kernel
theorem dX6_addTest_26 : decode cX6_addTest 26 = .ok (.iaload, 1) := by decide +kernel
theorem dX6_addTest_27 : decode cX6_addTest 27 = .ok (.bipush 16, 2) := by decide +kernel
theorem dX6_addTest_29 : decode cX6_addTest 29 = .ok (.if_icmp .ne 7, 3) := by decide +kernel
theorem dX6_addTest_32 : decode cX6_addTest 32 = .ok (.iconst 2, 1) := by decide +kernel
theorem dX6_addTest_33 : decode cX6_addTest 33 = .ok (.goto 4, 3) := by decide +kernel
theorem dX6_addTest_36 : decode cX6_addTest 36 = .ok (.iconst 0, 1) := by decide +kernel
theorem dX6_addTest_37 : decode cX6_addTest 37 = .ok (.putfield 43, 3) := by decide +kernel
theorem dX6_addTest_40 : decode cX6_addTest 40 = .ok (.aload_n 0, 1) := by decide +kernel
theorem dX6_addTest_41 : decode cX6_addTest 41 = .ok (.getfield 43, 3) := by decide +kernel
theorem dX6_addTest_44 : decode cX6_addTest 44 = .ok (.ifCond .eq 5, 3) := by decide +kernel
theorem dX6_addTest_47 : decode cX6_addTest 47 = .ok (.iconst 0, 1) := by decide +kernel
theorem dX6_addTest_48 : decode cX6_addTest 48 = .ok (.ireturn, 1) := by decide +kernel
theorem dX6_addTest_49 : decode cX6_addTest 49 = .ok (.aload_n 0, 1) := by decide +kernel
theorem dX6_addTest_50 : decode cX6_addTest 50 = .ok (.invokevirtual 50, 3) := by decide +kernel
theorem dX6_addTest_53 : decode cX6_addTest 53 = .ok (.bipush 33, 2) := by decide +kernel
theorem dX6_addTest_55 : decode cX6_addTest 55 = .ok (.iconst 3, 1) := by decide +kernel
theorem dX6_addTest_56 : decode cX6_addTest 56 = .ok (.aload_n 0, 1) := by decide +kernel
theorem dX6_addTest_57 : decode cX6_addTest 57 = .ok (.getfield 7, 3) := by decide +kernel
theorem dX6_addTest_60 : decode cX6_addTest 60 = .ok (.bipush 32, 2) := by decide +kernel
theorem dX6_addTest_62 : decode cX6_addTest 62 = .ok (.iaload, 1) := by decide +kernel
theorem dX6_addTest_63 : decode cX6_addTest 63 = .ok (.imul, 1) := by decide +kernel
theorem dX6_addTest_64 : decode cX6_addTest 64 = .ok (.iadd, 1) := by decide +kernel
theorem dX6_addTest_65 : decode cX6_addTest 65 = .ok (.istore 4, 2) := by decide +kernel
theorem dX6_addTest_67 : decode cX6_addTest 67 = .ok (.aload_n 0, 1) := by decide +kernel
theorem dX6_addTest_68 : decode cX6_addTest 68 = .ok (.getfield 7, 3) := by decide +kernel
theorem dX6_addTest_71 : decode cX6_addTest 71 = .ok (.iload 4, 2) := by decide +kernel
theorem dX6_addTest_73 : decode cX6_addTest 73 = .ok (.iload_n 1, 1) := by decide +kernel
theorem dX6_addTest_74 : decode cX6_addTest 74 = .ok (.iastore, 1) := by decide +kernel
theorem dX6_addTest_75 : decode cX6_addTest 75 = .ok (.aload_n 0, 1) := by decide +kernel
theorem dX6_addTest_76 : decode cX6_addTest 76 = .ok (.getfield 7, 3) := by decide +kernel
theorem dX6_addTest_79 : decode cX6_addTest 79 = .ok (.iload 4, 2) := by decide +kernel
theorem dX6_addTest_81 : decode cX6_addTest 81 = .ok (.iconst 1, 1) := by decide +kernel
theorem dX6_addTest_82 : decode cX6_addTest 82 = .ok (.iadd, 1) := by decide +kernel
theorem dX6_addTest_83 : decode cX6_addTest 83 = .ok (.iload_n 2, 1) := by decide +kernel
theorem dX6_addTest_84 : decode cX6_addTest 84 = .ok (.iastore, 1) := by decide +kernel
theorem dX6_addTest_85 : decode cX6_addTest 85 = .ok (.aload_n 0, 1) := by decide +kernel
theorem dX6_addTest_86 : decode cX6_addTest 86 = .ok (.getfield 7, 3) := by decide +kernel
theorem dX6_addTest_89 : decode cX6_addTest 89 = .ok (.iload 4, 2) := by decide +kernel
theorem dX6_addTest_91 : decode cX6_addTest 91 = .ok (.iconst 2, 1) := by decide +kernel
theorem dX6_addTest_92 : decode cX6_addTest 92 = .ok (.iadd, 1) := by decide +kernel
theorem dX6_addTest_93 : decode cX6_addTest 93 = .ok (.iload_n 3, 1) := by decide +kernel
theorem dX6_addTest_94 : decode cX6_addTest 94 = .ok (.ifCond .eq 7, 3) := by decide +kernel
theorem dX6_addTest_97 : decode cX6_addTest 97 = .ok (.iconst 1, 1) := by decide +kernel
theorem dX6_addTest_98 : decode cX6_addTest 98 = .ok (.goto 4, 3) := by decide +kernel
theorem dX6_addTest_101 : decode cX6_addTest 101 = .ok (.iconst 0, 1) := by decide +kernel
theorem dX6_addTest_102 : decode cX6_addTest 102 = .ok (.iastore, 1) := by decide +kernel
theorem dX6_addTest_103 : decode cX6_addTest 103 = .ok (.aload_n 0, 1) := by decide +kernel
theorem dX6_addTest_104 : decode cX6_addTest 104 = .ok (.getfield 7, 3) := by decide +kernel
theorem dX6_addTest_107 : decode cX6_addTest 107 = .ok (.bipush 32, 2) := by decide +kernel
theorem dX6_addTest_109 : decode cX6_addTest 109 = .ok (.dup2, 1) := by decide +kernel
theorem dX6_addTest_110 : decode cX6_addTest 110 = .ok (.iaload, 1) := by decide +kernel
theorem dX6_addTest_111 : decode cX6_addTest 111 = .ok (.iconst 1, 1) := by decide +kernel
theorem dX6_addTest_112 : decode cX6_addTest 112 = .ok (.iadd, 1) := by decide +kernel
theorem dX6_addTest_113 : decode cX6_addTest 113 = .ok (.iastore, 1) := by decide +kernel
theorem dX6_addTest_114 : decode cX6_addTest 114 = .ok (.aload_n 0, 1) := by decide +kernel
theorem dX6_addTest_115 : decode cX6_addTest 115 = .ok (.invokevirtual 168, 3) := by decide +kernel
theorem dX6_addTest_118 : decode cX6_addTest 118 = .ok (.aload_n 0, 1) := by decide +kernel
theorem dX6_addTest_119 : decode cX6_addTest 119 = .ok (.getfield 165, 3) := by decide +kernel
theorem dX6_addTest_122 : decode cX6_addTest 122 = .ok (.ireturn, 1) := by decide +kernel
theorem dX6_test_0 : decode cX6_test 0 = .ok (.aload_n 0, 1) := by decide +kernel
theorem dX6_test_1 : decode cX6_test 1 = .ok (.iload_n 1, 1) := by decide +kernel
theorem dX6_test_2 : decode cX6_test 2 = .ok (.iconst 0, 1) := by decide +kernel
theorem dX6_test_3 : decode cX6_test 3 = .ok (.aload_n 0, 1) := by decide +kernel
theorem dX6_test_4 : decode cX6_test 4 = .ok (.getfield 7, 3) := by decide +kernel
theorem dX6_test_7 : decode cX6_test 7 = .ok (.bipush 32, 2) := by decide +kernel
theorem dX6_test_9 : decode cX6_test 9 = .ok (.iaload, 1) := by decide +kernel
theorem dX6_test_10 : decode cX6_test 10 = .ok (.iconst 1, 1) := by decide +kernel
theorem dX6_test_11 : decode cX6_test 11 = .ok (.isub, 1) := by decide +kernel
theorem dX6_test_12 : decode cX6_test 12 = .ok (.invokestatic 53, 3) := by decide +kernel
theorem dX6_test_15 : decode cX6_test 15 = .ok (.ifCond .ne 7, 3) := by decide +kernel
theorem dX6_test_18 : decode cX6_test 18 = .ok (.iconst 1, 1) := by decide +kernel
theorem dX6_test_19 : decode cX6_test 19 = .ok (.goto 17, 3) := by decide +kernel
theorem dX6_test_22 : decode cX6_test 22 = .ok (.iload_n 2, 1) := by decide +kernel
theorem dX6_test_23 : decode cX6_test 23 = .ok (.iconst 0, 1) := by decide +kernel
theorem dX6_test_24 : decode cX6_test 24 = .ok (.iconst 2, 1) := by decide +kernel
theorem dX6_test_25 : decode cX6_test 25 = .ok (.invokestatic 53, 3) := by decide +kernel
theorem dX6_test_28 : decode cX6_test 28 = .ok (.ifCond .ne 7, 3) := by decide +kernel
theorem dX6_test_31 : decode cX6_test 31 = .ok (.iconst 2, 1) := by decide +kernel
theorem dX6_test_32 : decode cX6_test 32 = .ok (.goto 4, 3) := by decide +kernel
theorem dX6_test_35 : decode cX6_test 35 = .ok (.iconst 0, 1) := by decide +kernel
theorem dX6_test_36 : decode cX6_test 36 = .ok (.putfield 43, 3) := by decide +kernel
theorem dX6_test_39 : decode cX6_test 39 = .ok (.aload_n 0, 1) := by decide +kernel
theorem dX6_test_40 : decode cX6_test 40 = .ok (.getfield 43, 3) := by decide +kernel
theorem dX6_test_43 : decode cX6_test 43 = .ok (.ifCond .eq 7, 3) := by decide +kernel
theorem dX6_test_46 : decode cX6_test 46 = .ok (.iconst 0, 1) := by decide +kernel
theorem dX6_test_47 : decode cX6_test 47 = .ok (.goto 16, 3) := by decide +kernel
theorem dX6_test_50 : decode cX6_test 50 = .ok (.aload_n 0, 1) := by decide +kernel
theorem dX6_test_51 : decode cX6_test 51 = .ok (.getfield 7, 3) := by decide +kernel
theorem dX6_test_54 : decode cX6_test 54 = .ok (.bipush 33, 2) := by decide +kernel
theorem dX6_test_56 : decode cX6_test 56 = .ok (.iconst 3, 1) := by decide +kernel
theorem dX6_test_57 : decode cX6_test 57 = .ok (.iload_n 1, 1) := by decide +kernel
theorem dX6_test_58 : decode cX6_test 58 = .ok (.imul, 1) := by decide +kernel
theorem dX6_test_59 : decode cX6_test 59 = .ok (.iadd, 1) := by decide +kernel
theorem dX6_test_60 : decode cX6_test 60 = .ok (.iload_n 2, 1) := by decide +kernel
theorem dX6_test_61 : decode cX6_test 61 = .ok (.iadd, 1) := by decide +kernel
theorem dX6_test_62 : decode cX6_test 62 = .ok (.iaload, 1) := by decide +kernel
theorem dX6_test_63 : decode cX6_test 63 = .ok (.ireturn, 1) := by decide +kernel
theorem dX6_heard_0 : decode cX6_heard 0 = .ok (.aload_n 0, 1) := by decide +kernel
theorem dX6_heard_1 : decode cX6_heard 1 = .ok (.aload_n 0, 1) := by decide +kernel
theorem dX6_heard_2 : decode cX6_heard 2 = .ok (.iload_n 1, 1) := by decide +kernel
theorem dX6_heard_3 : decode cX6_heard 3 = .ok (.invokevirtual 113, 3) := by decide +kernel
theorem dX6_heard_6 : decode cX6_heard 6 = .ok (.ifCond .eq 14, 3) := by decide +kernel
theorem dX6_heard_9 : decode cX6_heard 9 = .ok (.iload_n 2, 1) := by decide +kernel
theorem dX6_heard_10 : decode cX6_heard 10 = .ok (.invokestatic 61, 3) := by decide +kernel
theorem dX6_heard_13 : decode cX6_heard 13 = .ok (.ifCond .eq 7, 3) := by decide +kernel
theorem dX6_heard_16 : decode cX6_heard 16 = .ok (.iconst 0, 1) := by decide +kernel
theorem dX6_heard_17 : decode cX6_heard 17 = .ok (.goto 4, 3) := by decide +kernel
theorem dX6_heard_20 : decode cX6_heard 20 = .ok (.iconst 1, 1) := by decide +kernel
theorem dX6_heard_21 : decode cX6_heard 21 = .ok (.putfield 43, 3) := by decide +kernel
theorem dX6_heard_24 : decode cX6_heard 24 = .ok (.aload_n 0, 1) := by decide +kernel
theorem dX6_heard_25 : decode cX6_heard 25 = .ok (.getfield 43, 3) := by decide +kernel
theorem dX6_heard_28 : decode cX6_heard 28 = .ok (.ifCond .eq 7, 3) := by decide +kernel
theorem dX6_heard_31 : decode cX6_heard 31 = .ok (.iconst 0, 1) := by decide +kernel
theorem dX6_heard_32 : decode cX6_heard 32 = .ok (.goto 9, 3) := by decide +kernel
theorem dX6_heard_35 : decode cX6_heard 35 = .ok (.aload_n 0, 1) := by decide +kernel
theorem dX6_heard_36 : decode cX6_heard 36 = .ok (.iload_n 1, 1) := by decide +kernel
theorem dX6_heard_37 : decode cX6_heard 37 = .ok (.iload_n 2, 1) := by decide +kernel
theorem dX6_heard_38 : decode cX6_heard 38 = .ok (.invokevirtual 161, 3) := by decide +kernel
theorem dX6_heard_41 : decode cX6_heard 41 = .ok (.ireturn, 1) := by decide +kernel
theorem dX6_diagnoses_0 : decode cX6_diagnoses 0 = .ok (.aload_n 0, 1) := by decide +kernel
theorem dX6_diagnoses_1 : decode cX6_diagnoses 1 = .ok (.iconst 0, 1) := by decide +kernel
theorem dX6_diagnoses_2 : decode cX6_diagnoses 2 = .ok (.putfield 43, 3) := by decide +kernel
theorem dX6_diagnoses_5 : decode cX6_diagnoses 5 = .ok (.aload_n 0, 1) := by decide +kernel
theorem dX6_diagnoses_6 : decode cX6_diagnoses 6 = .ok (.invokevirtual 168, 3) := by decide +kernel
theorem dX6_diagnoses_9 : decode cX6_diagnoses 9 = .ok (.aload_n 0, 1) := by decide +kernel
theorem dX6_diagnoses_10 : decode cX6_diagnoses 10 = .ok (.getfield 165, 3) := by decide +kernel
theorem dX6_diagnoses_13 : decode cX6_diagnoses 13 = .ok (.ireturn, 1) := by decide +kernel
theorem dX6_best_0 : decode cX6_best 0 = .ok (.aload_n 0, 1) := by decide +kernel
theorem dX6_best_1 : decode cX6_best 1 = .ok (.invokevirtual 168, 3) := by decide +kernel
theorem dX6_best_4 : decode cX6_best 4 = .ok (.iconst (-1), 1) := by decide +kernel
theorem dX6_best_5 : decode cX6_best 5 = .ok (.istore_n 1, 1) := by decide +kernel
theorem dX6_best_6 : decode cX6_best 6 = .ok (.iconst 0, 1) := by decide +kernel
theorem dX6_best_7 : decode cX6_best 7 = .ok (.istore_n 2, 1) := by decide +kernel
theorem dX6_best_8 : decode cX6_best 8 = .ok (.iload_n 2, 1) := by decide +kernel
theorem dX6_best_9 : decode cX6_best 9 = .ok (.aload_n 0, 1) := by decide +kernel
theorem dX6_best_10 : decode cX6_best 10 = .ok (.getfield 165, 3) := by decide +kernel
theorem dX6_best_13 : decode cX6_best 13 = .ok (.if_icmp .ge 41, 3) := by decide +kernel
theorem dX6_best_16 : decode cX6_best 16 = .ok (.iload_n 1, 1) := by decide +kernel
theorem dX6_best_17 : decode cX6_best 17 = .ok (.iconst (-1), 1) := by decide +kernel
theorem dX6_best_18 : decode cX6_best 18 = .ok (.if_icmp .eq 19, 3) := by decide +kernel
theorem dX6_best_21 : decode cX6_best 21 = .ok (.aload_n 0, 1) := by decide +kernel
theorem dX6_best_22 : decode cX6_best 22 = .ok (.getfield 34, 3) := by decide +kernel
theorem dX6_best_25 : decode cX6_best 25 = .ok (.iload_n 2, 1) := by decide +kernel
theorem dX6_best_26 : decode cX6_best 26 = .ok (.iaload, 1) := by decide +kernel
theorem dX6_best_27 : decode cX6_best 27 = .ok (.invokestatic 135, 3) := by decide +kernel
theorem dX6_best_30 : decode cX6_best 30 = .ok (.iload_n 1, 1) := by decide +kernel
theorem dX6_best_31 : decode cX6_best 31 = .ok (.invokestatic 135, 3) := by decide +kernel
theorem dX6_best_34 : decode cX6_best 34 = .ok (.if_icmp .ge 12, 3) := by decide +kernel
theorem dX6_best_37 : decode cX6_best 37 = .ok (.aload_n 0, 1) := by decide +kernel
theorem dX6_best_38 : decode cX6_best 38 = .ok (.getfield 34, 3) := by decide +kernel
theorem dX6_best_41 : decode cX6_best 41 = .ok (.iload_n 2, 1) := by decide +kernel
theorem dX6_best_42 : decode cX6_best 42 = .ok (.iaload, 1) := by decide +kernel
theorem dX6_best_43 : decode cX6_best 43 = .ok (.goto 4, 3) := by decide +kernel
theorem dX6_best_46 : decode cX6_best 46 = .ok (.iload_n 1, 1) := by decide +kernel
theorem dX6_best_47 : decode cX6_best 47 = .ok (.istore_n 1, 1) := by decide +kernel
theorem dX6_best_48 : decode cX6_best 48 = .ok (.iinc 2 1, 3) := by decide +kernel
theorem dX6_best_51 : decode cX6_best 51 = .ok (.goto (-43), 3) := by decide +kernel
theorem dX6_best_54 : decode cX6_best 54 = .ok (.iload_n 1, 1) := by decide +kernel
theorem dX6_best_55 : decode cX6_best 55 = .ok (.ireturn, 1) := by decide +kernel
theorem dX6_diagnosis_0 : decode cX6_diagnosis 0 = .ok (.aload_n 0, 1) := by decide +kernel
theorem dX6_diagnosis_1 : decode cX6_diagnosis 1 = .ok (.iconst 0, 1) := by decide +kernel
theorem dX6_diagnosis_2 : decode cX6_diagnosis 2 = .ok (.putfield 43, 3) := by decide +kernel
theorem dX6_diagnosis_5 : decode cX6_diagnosis 5 = .ok (.aload_n 0, 1) := by decide +kernel
theorem dX6_diagnosis_6 : decode cX6_diagnosis 6 = .ok (.invokevirtual 171, 3) := by decide +kernel
theorem dX6_diagnosis_9 : decode cX6_diagnosis 9 = .ok (.ireturn, 1) := by decide +kernel
theorem dX6_certain_0 : decode cX6_certain 0 = .ok (.aload_n 0, 1) := by decide +kernel
theorem dX6_certain_1 : decode cX6_certain 1 = .ok (.iconst 0, 1) := by decide +kernel
theorem dX6_certain_2 : decode cX6_certain 2 = .ok (.putfield 43, 3) := by decide +kernel
theorem dX6_certain_5 : decode cX6_certain 5 = .ok (.aload_n 0, 1) := by decide +kernel
theorem dX6_certain_6 : decode cX6_certain 6 = .ok (.invokevirtual 168, 3) := by decide +kernel
theorem dX6_certain_9 : decode cX6_certain 9 = .ok (.iconst 1, 1) := by decide +kernel
theorem dX6_certain_10 : decode cX6_certain 10 = .ok (.aload_n 0, 1) := by decide +kernel
theorem dX6_certain_11 : decode cX6_certain 11 = .ok (.getfield 7, 3) := by decide +kernel
theorem dX6_certain_14 : decode cX6_certain 14 = .ok (.bipush 26, 2) := by decide +kernel
theorem dX6_certain_16 : decode cX6_certain 16 = .ok (.iaload, 1) := by decide +kernel
theorem dX6_certain_17 : decode cX6_certain 17 = .ok (.ishl, 1) := by decide +kernel
theorem dX6_certain_18 : decode cX6_certain 18 = .ok (.iconst 1, 1) := by decide +kernel
theorem dX6_certain_19 : decode cX6_certain 19 = .ok (.isub, 1) := by decide +kernel
theorem dX6_certain_20 : decode cX6_certain 20 = .ok (.istore_n 2, 1) := by decide +kernel
theorem dX6_certain_21 : decode cX6_certain 21 = .ok (.iconst 0, 1) := by decide +kernel
theorem dX6_certain_22 : decode cX6_certain 22 = .ok (.istore_n 3, 1) := by decide +kernel
theorem dX6_certain_23 : decode cX6_certain 23 = .ok (.iload_n 3, 1) := by decide +kernel
theorem dX6_certain_24 : decode cX6_certain 24 = .ok (.aload_n 0, 1) := by decide +kernel
theorem dX6_certain_25 : decode cX6_certain 25 = .ok (.getfield 165, 3) := by decide +kernel
theorem dX6_certain_28 : decode cX6_certain 28 = .ok (.if_icmp .ge 33, 3) := by decide +kernel
theorem dX6_certain_31 : decode cX6_certain 31 = .ok (.iload_n 2, 1) := by decide +kernel
theorem dX6_certain_32 : decode cX6_certain 32 = .ok (.iload_n 1, 1) := by decide +kernel
theorem dX6_certain_33 : decode cX6_certain 33 = .ok (.ifCond .eq 12, 3) := by decide +kernel
theorem dX6_certain_36 : decode cX6_certain 36 = .ok (.aload_n 0, 1) := by decide +kernel
theorem dX6_certain_37 : decode cX6_certain 37 = .ok (.getfield 34, 3) := by decide +kernel
theorem dX6_certain_40 : decode cX6_certain 40 = .ok (.iload_n 3, 1) := by decide +kernel
theorem dX6_certain_41 : decode cX6_certain 41 = .ok (.iaload, 1) := by decide +kernel
theorem dX6_certain_42 : decode cX6_certain 42 = .ok (.goto 11, 3) := by decide +kernel
theorem dX6_certain_45 : decode cX6_certain 45 = .ok (.aload_n 0, 1) := by decide +kernel
theorem dX6_certain_46 : decode cX6_certain 46 = .ok (.getfield 34, 3) := by decide +kernel
theorem dX6_certain_49 : decode cX6_certain 49 = .ok (.iload_n 3, 1) := by decide +kernel
theorem dX6_certain_50 : decode cX6_certain 50 = .ok (.iaload, 1) := by decide +kernel
theorem dX6_certain_51 : decode cX6_certain 51 = .ok (.iconst (-1), 1) := by decide +kernel
theorem dX6_certain_52 : decode cX6_certain 52 = .ok (.ixor, 1) := by decide +kernel
theorem dX6_certain_53 : decode cX6_certain 53 = .ok (.iand, 1) := by decide +kernel
theorem dX6_certain_54 : decode cX6_certain 54 = .ok (.istore_n 2, 1) := by decide +kernel
theorem dX6_certain_55 : decode cX6_certain 55 = .ok (.iinc 3 1, 3) := by decide +kernel
theorem dX6_certain_58 : decode cX6_certain 58 = .ok (.goto (-35), 3) := by decide +kernel
theorem dX6_certain_61 : decode cX6_certain 61 = .ok (.iload_n 2, 1) := by decide +kernel
theorem dX6_certain_62 : decode cX6_certain 62 = .ok (.ireturn, 1) := by decide +kernel
theorem dX6_bestTest_0 : decode cX6_bestTest 0 = .ok (.aload_n 0, 1) := by decide +kernel
theorem dX6_bestTest_1 : decode cX6_bestTest 1 = .ok (.aload_n 0, 1) := by decide +kernel
theorem dX6_bestTest_2 : decode cX6_bestTest 2 = .ok (.iload_n 1, 1) := by decide +kernel
theorem dX6_bestTest_3 : decode cX6_bestTest 3 = .ok (.invokevirtual 113, 3) := by decide +kernel
theorem dX6_bestTest_6 : decode cX6_bestTest 6 = .ok (.ifCond .eq 7, 3) := by decide +kernel
theorem dX6_bestTest_9 : decode cX6_bestTest 9 = .ok (.iconst 0, 1) := by decide +kernel
theorem dX6_bestTest_10 : decode cX6_bestTest 10 = .ok (.goto 4, 3) := by decide +kernel
theorem dX6_bestTest_13 : decode cX6_bestTest 13 = .ok (.iconst 1, 1) := by decide +kernel
theorem dX6_bestTest_14 : decode cX6_bestTest 14 = .ok (.putfield 43, 3) := by decide +kernel
theorem dX6_bestTest_17 : decode cX6_bestTest 17 = .ok (.aload_n 0, 1) := by decide +kernel
theorem dX6_bestTest_18 : decode cX6_bestTest 18 = .ok (.getfield 43, 3) := by decide +kernel
theorem dX6_bestTest_21 : decode cX6_bestTest 21 = .ok (.ifCond .eq 5, 3) := by decide +kernel
theorem dX6_bestTest_24 : decode cX6_bestTest 24 = .ok (.iconst 0, 1) := by decide +kernel
theorem dX6_bestTest_25 : decode cX6_bestTest 25 = .ok (.ireturn, 1) := by decide +kernel
theorem dX6_bestTest_26 : decode cX6_bestTest 26 = .ok (.aload_n 0, 1) := by decide +kernel
theorem dX6_bestTest_27 : decode cX6_bestTest 27 = .ok (.invokevirtual 168, 3) := by decide +kernel
theorem dX6_bestTest_30 : decode cX6_bestTest 30 = .ok (.iconst 0, 1) := by decide +kernel
theorem dX6_bestTest_31 : decode cX6_bestTest 31 = .ok (.istore_n 2, 1) := by decide +kernel
theorem dX6_bestTest_32 : decode cX6_bestTest 32 = .ok (.bipush 100, 2) := by decide +kernel
theorem dX6_bestTest_34 : decode cX6_bestTest 34 = .ok (.istore_n 3, 1) := by decide +kernel
theorem dX6_bestTest_35 : decode cX6_bestTest 35 = .ok (.iconst 0, 1) := by decide +kernel
theorem dX6_bestTest_36 : decode cX6_bestTest 36 = .ok (.istore 4, 2) := by decide +kernel
theorem dX6_bestTest_38 : decode cX6_bestTest 38 = .ok (.iload 4, 2) := by decide +kernel
theorem dX6_bestTest_40 : decode cX6_bestTest 40 = .ok (.bipush 64, 2) := by decide +kernel
theorem dX6_bestTest_42 : decode cX6_bestTest 42 = .ok (.if_icmp .ge 114, 3) := by decide +kernel
theorem dX6_bestTest_45 : decode cX6_bestTest 45 = .ok (.aload_n 0, 1) := by decide +kernel
theorem dX6_bestTest_46 : decode cX6_bestTest 46 = .ok (.iload_n 1, 1) := by decide +kernel
theorem dX6_bestTest_47 : decode cX6_bestTest 47 = .ok (.iload 4, 2) := by decide +kernel
theorem dX6_bestTest_49 : decode cX6_bestTest 49 = .ok (.invokevirtual 161, 3) := by decide +kernel
theorem dX6_bestTest_52 : decode cX6_bestTest 52 = .ok (.istore 5, 2) := by decide +kernel
theorem dX6_bestTest_54 : decode cX6_bestTest 54 = .ok (.iconst 0, 1) := by decide +kernel
theorem dX6_bestTest_55 : decode cX6_bestTest 55 = .ok (.istore 6, 2) := by decide +kernel
theorem dX6_bestTest_57 : decode cX6_bestTest 57 = .ok (.iconst 0, 1) := by decide +kernel
theorem dX6_bestTest_58 : decode cX6_bestTest 58 = .ok (.istore 7, 2) := by decide +kernel
theorem dX6_bestTest_60 : decode cX6_bestTest 60 = .ok (.iload 7, 2) := by decide +kernel
theorem dX6_bestTest_62 : decode cX6_bestTest 62 = .ok (.aload_n 0, 1) := by decide +kernel
theorem dX6_bestTest_63 : decode cX6_bestTest 63 = .ok (.getfield 165, 3) := by decide +kernel
theorem dX6_bestTest_66 : decode cX6_bestTest 66 = .ok (.if_icmp .ge 32, 3) := by decide +kernel
theorem dX6_bestTest_69 : decode cX6_bestTest 69 = .ok (.iload 6, 2) := by decide +kernel
theorem dX6_bestTest_71 : decode cX6_bestTest 71 = .ok (.aload_n 0, 1) := by decide +kernel
theorem dX6_bestTest_72 : decode cX6_bestTest 72 = .ok (.getfield 34, 3) := by decide +kernel
theorem dX6_bestTest_75 : decode cX6_bestTest 75 = .ok (.iload 7, 2) := by decide +kernel
theorem dX6_bestTest_77 : decode cX6_bestTest 77 = .ok (.iaload, 1) := by decide +kernel
theorem dX6_bestTest_78 : decode cX6_bestTest 78 = .ok (.iload 5, 2) := by decide +kernel
theorem dX6_bestTest_80 : decode cX6_bestTest 80 = .ok (.iand, 1) := by decide +kernel
theorem dX6_bestTest_81 : decode cX6_bestTest 81 = .ok (.ifCond .eq 7, 3) := by decide +kernel
theorem dX6_bestTest_84 : decode cX6_bestTest 84 = .ok (.iconst 1, 1) := by decide +kernel
theorem dX6_bestTest_85 : decode cX6_bestTest 85 = .ok (.goto 4, 3) := by decide +kernel
theorem dX6_bestTest_88 : decode cX6_bestTest 88 = .ok (.iconst 0, 1) := by decide +kernel
theorem dX6_bestTest_89 : decode cX6_bestTest 89 = .ok (.iadd, 1) := by decide +kernel
theorem dX6_bestTest_90 : decode cX6_bestTest 90 = .ok (.istore 6, 2) := by decide +kernel
theorem dX6_bestTest_92 : decode cX6_bestTest 92 = .ok (.iinc 7 1, 3) := by decide +kernel
theorem dX6_bestTest_95 : decode cX6_bestTest 95 = .ok (.goto (-35), 3) := by decide +kernel
theorem dX6_bestTest_98 : decode cX6_bestTest 98 = .ok (.iload 6, 2) := by decide +kernel
theorem dX6_bestTest_100 : decode cX6_bestTest 100 = .ok (.aload_n 0, 1) := by decide +kernel
theorem dX6_bestTest_101 : decode cX6_bestTest 101 = .ok (.getfield 165, 3) := by decide +kernel
theorem dX6_bestTest_104 : decode cX6_bestTest 104 = .ok (.iload 6, 2) := by decide +kernel
theorem dX6_bestTest_106 : decode cX6_bestTest 106 = .ok (.isub, 1) := by decide +kernel
theorem dX6_bestTest_107 : decode cX6_bestTest 107 = .ok (.if_icmp .le 8, 3) := by decide +kernel
theorem dX6_bestTest_110 : decode cX6_bestTest 110 = .ok (.iload 6, 2) := by decide +kernel
theorem dX6_bestTest_112 : decode cX6_bestTest 112 = .ok (.goto 10, 3) := by decide +kernel
theorem dX6_bestTest_115 : decode cX6_bestTest 115 = .ok (.aload_n 0, 1) := by decide +kernel
theorem dX6_bestTest_116 : decode cX6_bestTest 116 = .ok (.getfield 165, 3) := by decide +kernel
theorem dX6_bestTest_119 : decode cX6_bestTest 119 = .ok (.iload 6, 2) := by decide +kernel
theorem dX6_bestTest_121 : decode cX6_bestTest 121 = .ok (.isub, 1) := by decide +kernel
theorem dX6_bestTest_122 : decode cX6_bestTest 122 = .ok (.istore 7, 2) := by decide +kernel
theorem dX6_bestTest_124 : decode cX6_bestTest 124 = .ok (.iload 7, 2) := by decide +kernel
theorem dX6_bestTest_126 : decode cX6_bestTest 126 = .ok (.iload_n 3, 1) := by decide +kernel
theorem dX6_bestTest_127 : decode cX6_bestTest 127 = .ok (.if_icmp .ge 8, 3) := by decide +kernel
theorem dX6_bestTest_130 : decode cX6_bestTest 130 = .ok (.iload 4, 2) := by decide +kernel
theorem dX6_bestTest_132 : decode cX6_bestTest 132 = .ok (.goto 4, 3) := by decide +kernel
theorem dX6_bestTest_135 : decode cX6_bestTest 135 = .ok (.iload_n 2, 1) := by decide +kernel
theorem dX6_bestTest_136 : decode cX6_bestTest 136 = .ok (.istore_n 2, 1) := by decide +kernel
theorem dX6_bestTest_137 : decode cX6_bestTest 137 = .ok (.iload 7, 2) := by decide +kernel
theorem dX6_bestTest_139 : decode cX6_bestTest 139 = .ok (.iload_n 3, 1) := by decide +kernel
theorem dX6_bestTest_140 : decode cX6_bestTest 140 = .ok (.if_icmp .ge 8, 3) := by decide +kernel
theorem dX6_bestTest_143 : decode cX6_bestTest 143 = .ok (.iload 7, 2) := by decide +kernel
theorem dX6_bestTest_145 : decode cX6_bestTest 145 = .ok (.goto 4, 3) := by decide +kernel
theorem dX6_bestTest_148 : decode cX6_bestTest 148 = .ok (.iload_n 3, 1) := by decide +kernel
theorem dX6_bestTest_149 : decode cX6_bestTest 149 = .ok (.istore_n 3, 1) := by decide +kernel
theorem dX6_bestTest_150 : decode cX6_bestTest 150 = .ok (.iinc 4 1, 3) := by decide +kernel
theorem dX6_bestTest_153 : decode cX6_bestTest 153 = .ok (.goto (-115), 3) := by decide +kernel
theorem dX6_bestTest_156 : decode cX6_bestTest 156 = .ok (.iload_n 2, 1) := by decide +kernel
theorem dX6_bestTest_157 : decode cX6_bestTest 157 = .ok (.ireturn, 1) := by decide +kernel
theorem dX6_append_0 : decode cX6_append 0 = .ok (.aload_n 0, 1) := by decide +kernel
theorem dX6_append_1 : decode cX6_append 1 = .ok (.iload_n 1, 1) := by decide +kernel
theorem dX6_append_2 : decode cX6_append 2 = .ok (.iconst 0, 1) := by decide +kernel
theorem dX6_append_3 : decode cX6_append 3 = .ok (.bipush 127, 2) := by decide +kernel
theorem dX6_append_5 : decode cX6_append 5 = .ok (.invokestatic 53, 3) := by decide +kernel
theorem dX6_append_8 : decode cX6_append 8 = .ok (.ifCond .ne 7, 3) := by decide +kernel
theorem dX6_append_11 : decode cX6_append 11 = .ok (.iconst 1, 1) := by decide +kernel
theorem dX6_append_12 : decode cX6_append 12 = .ok (.goto 17, 3) := by decide +kernel
theorem dX6_append_15 : decode cX6_append 15 = .ok (.aload_n 0, 1) := by decide +kernel
theorem dX6_append_16 : decode cX6_append 16 = .ok (.getfield 174, 3) := by decide +kernel
theorem dX6_append_19 : decode cX6_append 19 = .ok (.bipush 120, 2) := by decide +kernel
theorem dX6_append_21 : decode cX6_append 21 = .ok (.if_icmp .ne 7, 3) := by decide +kernel
theorem dX6_append_24 : decode cX6_append 24 = .ok (.iconst 2, 1) := by decide +kernel
theorem dX6_append_25 : decode cX6_append 25 = .ok (.goto 4, 3) := by decide +kernel
theorem dX6_append_28 : decode cX6_append 28 = .ok (.iconst 0, 1) := by decide +kernel
theorem dX6_append_29 : decode cX6_append 29 = .ok (.putfield 43, 3) := by decide +kernel
theorem dX6_append_32 : decode cX6_append 32 = .ok (.aload_n 0, 1) := by decide +kernel
theorem dX6_append_33 : decode cX6_append 33 = .ok (.getfield 43, 3) := by decide +kernel
theorem dX6_append_36 : decode cX6_append 36 = .ok (.ifCond .eq 5, 3) := by decide +kernel
theorem dX6_append_39 : decode cX6_append 39 = .ok (.iconst 0, 1) := by decide +kernel
theorem dX6_append_40 : decode cX6_append 40 = .ok (.ireturn, 1) := by decide +kernel
theorem dX6_append_41 : decode cX6_append 41 = .ok (.aload_n 0, 1) := by decide +kernel
theorem dX6_append_42 : decode cX6_append 42 = .ok (.getfield 16, 3) := by decide +kernel
theorem dX6_append_45 : decode cX6_append 45 = .ok (.aload_n 0, 1) := by decide +kernel
theorem dX6_append_46 : decode cX6_append 46 = .ok (.getfield 174, 3) := by decide +kernel
theorem dX6_append_49 : decode cX6_append 49 = .ok (.iload_n 1, 1) := by decide +kernel
theorem dX6_append_50 : decode cX6_append 50 = .ok (.iastore, 1) := by decide +kernel
theorem dX6_append_51 : decode cX6_append 51 = .ok (.aload_n 0, 1) := by decide +kernel
theorem dX6_append_52 : decode cX6_append 52 = .ok (.dup, 1) := by decide +kernel
theorem dX6_append_53 : decode cX6_append 53 = .ok (.getfield 174, 3) := by decide +kernel
theorem dX6_append_56 : decode cX6_append 56 = .ok (.iconst 1, 1) := by decide +kernel
theorem dX6_append_57 : decode cX6_append 57 = .ok (.iadd, 1) := by decide +kernel
theorem dX6_append_58 : decode cX6_append 58 = .ok (.putfield 174, 3) := by decide +kernel
theorem dX6_append_61 : decode cX6_append 61 = .ok (.aload_n 0, 1) := by decide +kernel
theorem dX6_append_62 : decode cX6_append 62 = .ok (.getfield 174, 3) := by decide +kernel
theorem dX6_append_65 : decode cX6_append 65 = .ok (.ireturn, 1) := by decide +kernel
theorem dX6_clearText_0 : decode cX6_clearText 0 = .ok (.aload_n 0, 1) := by decide +kernel
theorem dX6_clearText_1 : decode cX6_clearText 1 = .ok (.iconst 0, 1) := by decide +kernel
theorem dX6_clearText_2 : decode cX6_clearText 2 = .ok (.putfield 43, 3) := by decide +kernel
theorem dX6_clearText_5 : decode cX6_clearText 5 = .ok (.aload_n 0, 1) := by decide +kernel
theorem dX6_clearText_6 : decode cX6_clearText 6 = .ok (.getfield 174, 3) := by decide +kernel
theorem dX6_clearText_9 : decode cX6_clearText 9 = .ok (.istore_n 1, 1) := by decide +kernel
theorem dX6_clearText_10 : decode cX6_clearText 10 = .ok (.aload_n 0, 1) := by decide +kernel
theorem dX6_clearText_11 : decode cX6_clearText 11 = .ok (.iconst 0, 1) := by decide +kernel
theorem dX6_clearText_12 : decode cX6_clearText 12 = .ok (.putfield 174, 3) := by decide +kernel
theorem dX6_clearText_15 : decode cX6_clearText 15 = .ok (.iload_n 1, 1) := by decide +kernel
theorem dX6_clearText_16 : decode cX6_clearText 16 = .ok (.ireturn, 1) := by decide +kernel
theorem dX6_here_0 : decode cX6_here 0 = .ok (.aload_n 0, 1) := by decide +kernel
theorem dX6_here_1 : decode cX6_here 1 = .ok (.getfield 177, 3) := by decide +kernel
theorem dX6_here_4 : decode cX6_here 4 = .ok (.aload_n 0, 1) := by decide +kernel
theorem dX6_here_5 : decode cX6_here 5 = .ok (.getfield 174, 3) := by decide +kernel
theorem dX6_here_8 : decode cX6_here 8 = .ok (.if_icmp .ge 15, 3) := by decide +kernel
theorem dX6_here_11 : decode cX6_here 11 = .ok (.aload_n 0, 1) := by decide +kernel
theorem dX6_here_12 : decode cX6_here 12 = .ok (.getfield 16, 3) := by decide +kernel
theorem dX6_here_15 : decode cX6_here 15 = .ok (.aload_n 0, 1) := by decide +kernel
theorem dX6_here_16 : decode cX6_here 16 = .ok (.getfield 177, 3) := by decide +kernel
theorem dX6_here_19 : decode cX6_here 19 = .ok (.iaload, 1) := by decide +kernel
theorem dX6_here_20 : decode cX6_here 20 = .ok (.goto 4, 3) := by decide +kernel
theorem dX6_here_23 : decode cX6_here 23 = .ok (.iconst (-1), 1) := by decide +kernel
theorem dX6_here_24 : decode cX6_here 24 = .ok (.ireturn, 1) := by decide +kernel
theorem dX6_takes_0 : decode cX6_takes 0 = .ok (.aload_n 0, 1) := by decide +kernel
theorem dX6_takes_1 : decode cX6_takes 1 = .ok (.invokevirtual 180, 3) := by decide +kernel
theorem dX6_takes_4 : decode cX6_takes 4 = .ok (.iload_n 1, 1) := by decide +kernel
theorem dX6_takes_5 : decode cX6_takes 5 = .ok (.if_icmp .ne 7, 3) := by decide +kernel
theorem dX6_takes_8 : decode cX6_takes 8 = .ok (.iconst 1, 1) := by decide +kernel
theorem dX6_takes_9 : decode cX6_takes 9 = .ok (.goto 4, 3) := by decide +kernel
theorem dX6_takes_12 : decode cX6_takes 12 = .ok (.iconst 0, 1) := by decide +kernel
theorem dX6_takes_13 : decode cX6_takes 13 = .ok (.istore_n 2, 1) := by decide +kernel
theorem dX6_takes_14 : decode cX6_takes 14 = .ok (.aload_n 0, 1) := by decide +kernel
theorem dX6_takes_15 : decode cX6_takes 15 = .ok (.dup, 1) := by decide +kernel
theorem dX6_takes_16 : decode cX6_takes 16 = .ok (.getfield 177, 3) := by decide +kernel
theorem dX6_takes_19 : decode cX6_takes 19 = .ok (.iload_n 2, 1) := by decide +kernel
theorem dX6_takes_20 : decode cX6_takes 20 = .ok (.ifCond .eq 7, 3) := by decide +kernel
theorem dX6_takes_23 : decode cX6_takes 23 = .ok (.iconst 1, 1) := by decide +kernel
theorem dX6_takes_24 : decode cX6_takes 24 = .ok (.goto 4, 3) := by decide +kernel
theorem dX6_takes_27 : decode cX6_takes 27 = .ok (.iconst 0, 1) := by decide +kernel
theorem dX6_takes_28 : decode cX6_takes 28 = .ok (.iadd, 1) := by decide +kernel
theorem dX6_takes_29 : decode cX6_takes 29 = .ok (.putfield 177, 3) := by decide +kernel
theorem dX6_takes_32 : decode cX6_takes 32 = .ok (.iload_n 2, 1) := by decide +kernel
theorem dX6_takes_33 : decode cX6_takes 33 = .ok (.ireturn, 1) := by decide +kernel
theorem dX6_readNumber_0 : decode cX6_readNumber 0 = .ok (.aload_n 0, 1) := by decide +kernel
theorem dX6_readNumber_1 : decode cX6_readNumber 1 = .ok (.aload_n 0, 1) := by decide +kernel
theorem dX6_readNumber_2 : decode cX6_readNumber 2 = .ok (.getfield 177, 3) := by decide +kernel
theorem dX6_readNumber_5 : decode cX6_readNumber 5 = .ok (.putfield 183, 3) := by decide +kernel
theorem dX6_readNumber_8 : decode cX6_readNumber 8 = .ok (.aload_n 0, 1) := by decide +kernel
theorem dX6_readNumber_9 : decode cX6_readNumber 9 = .ok (.iconst 0, 1) := by decide +kernel
theorem dX6_readNumber_10 : decode cX6_readNumber 10 = .ok (.putfield 186, 3) := by decide +kernel
theorem dX6_readNumber_13 : decode cX6_readNumber 13 = .ok (.aload_n 0, 1) := by decide +kernel
theorem dX6_readNumber_14 : decode cX6_readNumber 14 = .ok (.getfield 177, 3) := by decide +kernel
theorem dX6_readNumber_17 : decode cX6_readNumber 17 = .ok (.aload_n 0, 1) := by decide +kernel
theorem dX6_readNumber_18 : decode cX6_readNumber 18 = .ok (.getfield 183, 3) := by decide +kernel
theorem dX6_readNumber_21 : decode cX6_readNumber 21 = .ok (.iconst 2, 1) := by decide +kernel
theorem dX6_readNumber_22 : decode cX6_readNumber 22 = .ok (.iadd, 1) := by decide +kernel
theorem dX6_readNumber_23 : decode cX6_readNumber 23 = .ok (.if_icmp .ge 49, 3) := by decide +kernel
theorem dX6_readNumber_26 : decode cX6_readNumber 26 = .ok (.aload_n 0, 1) := by decide +kernel
theorem dX6_readNumber_27 : decode cX6_readNumber 27 = .ok (.invokevirtual 180, 3) := by decide +kernel
theorem dX6_readNumber_30 : decode cX6_readNumber 30 = .ok (.bipush 48, 2) := by decide +kernel
theorem dX6_readNumber_32 : decode cX6_readNumber 32 = .ok (.bipush 57, 2) := by decide +kernel
theorem dX6_readNumber_34 : decode cX6_readNumber 34 = .ok (.invokestatic 53, 3) := by decide +kernel
theorem dX6_readNumber_37 : decode cX6_readNumber 37 = .ok (.ifCond .eq 35, 3) := by decide +kernel
theorem dX6_readNumber_40 : decode cX6_readNumber 40 = .ok (.aload_n 0, 1) := by decide +kernel
theorem dX6_readNumber_41 : decode cX6_readNumber 41 = .ok (.bipush 10, 2) := by decide +kernel
theorem dX6_readNumber_43 : decode cX6_readNumber 43 = .ok (.aload_n 0, 1) := by decide +kernel
theorem dX6_readNumber_44 : decode cX6_readNumber 44 = .ok (.getfield 186, 3) := by decide +kernel
theorem dX6_readNumber_47 : decode cX6_readNumber 47 = .ok (.imul, 1) := by decide +kernel
theorem dX6_readNumber_48 : decode cX6_readNumber 48 = .ok (.aload_n 0, 1) := by decide +kernel
theorem dX6_readNumber_49 : decode cX6_readNumber 49 = .ok (.invokevirtual 180, 3) := by decide +kernel
theorem dX6_readNumber_52 : decode cX6_readNumber 52 = .ok (.iadd, 1) := by decide +kernel
theorem dX6_readNumber_53 : decode cX6_readNumber 53 = .ok (.bipush 48, 2) := by decide +kernel
theorem dX6_readNumber_55 : decode cX6_readNumber 55 = .ok (.isub, 1) := by decide +kernel
theorem dX6_readNumber_56 : decode cX6_readNumber 56 = .ok (.putfield 186, 3) := by decide +kernel
theorem dX6_readNumber_59 : decode cX6_readNumber 59 = .ok (.aload_n 0, 1) := by decide +kernel
theorem dX6_readNumber_60 : decode cX6_readNumber 60 = .ok (.dup, 1) := by decide +kernel
theorem dX6_readNumber_61 : decode cX6_readNumber 61 = .ok (.getfield 177, 3) := by decide +kernel
theorem dX6_readNumber_64 : decode cX6_readNumber 64 = .ok (.iconst 1, 1) := by decide +kernel
theorem dX6_readNumber_65 : decode cX6_readNumber 65 = .ok (.iadd, 1) := by decide +kernel
theorem dX6_readNumber_66 : decode cX6_readNumber 66 = .ok (.putfield 177, 3) := by decide +kernel
theorem dX6_readNumber_69 : decode cX6_readNumber 69 = .ok (.goto (-56), 3) := by decide +kernel
theorem dX6_readNumber_72 : decode cX6_readNumber 72 = .ok (.aload_n 0, 1) := by decide +kernel
theorem dX6_readNumber_73 : decode cX6_readNumber 73 = .ok (.getfield 177, 3) := by decide +kernel
theorem dX6_readNumber_76 : decode cX6_readNumber 76 = .ok (.aload_n 0, 1) := by decide +kernel
theorem dX6_readNumber_77 : decode cX6_readNumber 77 = .ok (.getfield 183, 3) := by decide +kernel
theorem dX6_readNumber_80 : decode cX6_readNumber 80 = .ok (.if_icmp .le 21, 3) := by decide +kernel
theorem dX6_readNumber_83 : decode cX6_readNumber 83 = .ok (.aload_n 0, 1) := by decide +kernel
theorem dX6_readNumber_84 : decode cX6_readNumber 84 = .ok (.invokevirtual 180, 3) := by decide +kernel
theorem dX6_readNumber_87 : decode cX6_readNumber 87 = .ok (.bipush 48, 2) := by decide +kernel
theorem dX6_readNumber_89 : decode cX6_readNumber 89 = .ok (.bipush 57, 2) := by decide +kernel
theorem dX6_readNumber_91 : decode cX6_readNumber 91 = .ok (.invokestatic 53, 3) := by decide +kernel
theorem dX6_readNumber_94 : decode cX6_readNumber 94 = .ok (.ifCond .ne 7, 3) := by decide +kernel
theorem dX6_readNumber_97 : decode cX6_readNumber 97 = .ok (.iconst 1, 1) := by decide +kernel
theorem dX6_readNumber_98 : decode cX6_readNumber 98 = .ok (.goto 4, 3) := by decide +kernel
theorem dX6_readNumber_101 : decode cX6_readNumber 101 = .ok (.iconst 0, 1) := by decide +kernel
theorem dX6_readNumber_102 : decode cX6_readNumber 102 = .ok (.ireturn, 1) := by decide +kernel
theorem dX6_refuse_0 : decode cX6_refuse 0 = .ok (.aload_n 0, 1) := by decide +kernel
theorem dX6_refuse_1 : decode cX6_refuse 1 = .ok (.iload_n 1, 1) := by decide +kernel
theorem dX6_refuse_2 : decode cX6_refuse 2 = .ok (.ifCond .eq 10, 3) := by decide +kernel
theorem dX6_refuse_5 : decode cX6_refuse 5 = .ok (.aload_n 0, 1) := by decide +kernel
theorem dX6_refuse_6 : decode cX6_refuse 6 = .ok (.getfield 183, 3) := by decide +kernel
theorem dX6_refuse_9 : decode cX6_refuse 9 = .ok (.goto 7, 3) := by decide +kernel
theorem dX6_refuse_12 : decode cX6_refuse 12 = .ok (.aload_n 0, 1) := by decide +kernel
theorem dX6_refuse_13 : decode cX6_refuse 13 = .ok (.getfield 177, 3) := by decide +kernel
theorem dX6_refuse_16 : decode cX6_refuse 16 = .ok (.putfield 177, 3) := by decide +kernel
theorem dX6_refuse_19 : decode cX6_refuse 19 = .ok (.iload_n 1, 1) := by decide +kernel
theorem dX6_refuse_20 : decode cX6_refuse 20 = .ok (.ireturn, 1) := by decide +kernel
theorem dX6_readCarrier_0 : decode cX6_readCarrier 0 = .ok (.aload_n 0, 1) := by decide +kernel
theorem dX6_readCarrier_1 : decode cX6_readCarrier 1 = .ok (.getfield 189, 3) := by decide +kernel
theorem dX6_readCarrier_4 : decode cX6_readCarrier 4 = .ok (.bipush 10, 2) := by decide +kernel
theorem dX6_readCarrier_6 : decode cX6_readCarrier 6 = .ok (.if_icmp .ne 5, 3) := by decide +kernel
theorem dX6_readCarrier_9 : decode cX6_readCarrier 9 = .ok (.iconst 0, 1) := by decide +kernel
theorem dX6_readCarrier_10 : decode cX6_readCarrier 10 = .ok (.ireturn, 1) := by decide +kernel
theorem dX6_readCarrier_11 : decode cX6_readCarrier 11 = .ok (.aload_n 0, 1) := by decide +kernel
theorem dX6_readCarrier_12 : decode cX6_readCarrier 12 = .ok (.dup, 1) := by decide +kernel
theorem dX6_readCarrier_13 : decode cX6_readCarrier 13 = .ok (.getfield 177, 3) := by decide +kernel
theorem dX6_readCarrier_16 : decode cX6_readCarrier 16 = .ok (.iconst 1, 1) := by decide +kernel
theorem dX6_readCarrier_17 : decode cX6_readCarrier 17 = .ok (.iadd, 1) := by decide +kernel
theorem dX6_readCarrier_18 : decode cX6_readCarrier 18 = .ok (.putfield 177, 3) := by decide +kernel
theorem dX6_readCarrier_21 : decode cX6_readCarrier 21 = .ok (.aload_n 0, 1) := by decide +kernel
theorem dX6_readCarrier_22 : decode cX6_readCarrier 22 = .ok (.invokevirtual 192, 3) := by decide +kernel
theorem dX6_readCarrier_25 : decode cX6_readCarrier 25 = .ok (.ifCond .ne 5, 3) := by decide +kernel
theorem dX6_readCarrier_28 : decode cX6_readCarrier 28 = .ok (.iconst 0, 1) := by decide +kernel
theorem dX6_readCarrier_29 : decode cX6_readCarrier 29 = .ok (.ireturn, 1) := by decide +kernel
theorem dX6_readCarrier_30 : decode cX6_readCarrier 30 = .ok (.aload_n 0, 1) := by decide +kernel
theorem dX6_readCarrier_31 : decode cX6_readCarrier 31 = .ok (.getfield 186, 3) := by decide +kernel
theorem dX6_readCarrier_34 : decode cX6_readCarrier 34 = .ok (.invokestatic 61, 3) := by decide +kernel
theorem dX6_readCarrier_37 : decode cX6_readCarrier 37 = .ok (.ifCond .ne 7, 3) := by decide +kernel
theorem dX6_readCarrier_40 : decode cX6_readCarrier 40 = .ok (.iconst 1, 1) := by decide +kernel
theorem dX6_readCarrier_41 : decode cX6_readCarrier 41 = .ok (.goto 4, 3) := by decide +kernel
theorem dX6_readCarrier_44 : decode cX6_readCarrier 44 = .ok (.iconst 0, 1) := by decide +kernel
theorem dX6_readCarrier_45 : decode cX6_readCarrier 45 = .ok (.istore_n 1, 1) := by decide +kernel
theorem dX6_readCarrier_46 : decode cX6_readCarrier 46 = .ok (.iconst 0, 1) := by decide +kernel
theorem dX6_readCarrier_47 : decode cX6_readCarrier 47 = .ok (.istore_n 2, 1) := by decide +kernel
theorem dX6_readCarrier_48 : decode cX6_readCarrier 48 = .ok (.iload_n 2, 1) := by decide +kernel
theorem dX6_readCarrier_49 : decode cX6_readCarrier 49 = .ok (.aload_n 0, 1) := by decide +kernel
theorem dX6_readCarrier_50 : decode cX6_readCarrier 50 = .ok (.getfield 189, 3) := by decide +kernel
theorem dX6_readCarrier_53 : decode cX6_readCarrier 53 = .ok (.if_icmp .ge 34, 3) := by decide +kernel
theorem dX6_readCarrier_56 : decode cX6_readCarrier 56 = .ok (.iload_n 1, 1) := by decide +kernel
theorem dX6_readCarrier_57 : decode cX6_readCarrier 57 = .ok (.ifCond .ne 18, 3) := by decide +kernel
theorem dX6_readCarrier_60 : decode cX6_readCarrier 60 = .ok (.aload_n 0, 1) := by decide +kernel
theorem dX6_readCarrier_61 : decode cX6_readCarrier 61 = .ok (.getfield 37, 3) := by decide +kernel
theorem dX6_readCarrier_64 : decode cX6_readCarrier 64 = .ok (.iconst 2, 1) := by decide +kernel
theorem dX6_readCarrier_65 : decode cX6_readCarrier 65 = .ok (.iload_n 2, 1) := by decide +kernel
theorem dX6_readCarrier_66 : decode cX6_readCarrier 66 = .ok (.imul, 1) := by decide +kernel
theorem dX6_readCarrier_67 : decode cX6_readCarrier 67 = .ok (.iaload, 1) := by decide +kernel
theorem dX6_readCarrier_68 : decode cX6_readCarrier 68 = .ok (.aload_n 0, 1) := by decide +kernel
theorem dX6_readCarrier_69 : decode cX6_readCarrier 69 = .ok (.getfield 186, 3) := by decide +kernel
theorem dX6_readCarrier_72 : decode cX6_readCarrier 72 = .ok (.if_icmp .ne 7, 3) := by decide +kernel
theorem dX6_readCarrier_75 : decode cX6_readCarrier 75 = .ok (.iconst 1, 1) := by decide +kernel
theorem dX6_readCarrier_76 : decode cX6_readCarrier 76 = .ok (.goto 4, 3) := by decide +kernel
theorem dX6_readCarrier_79 : decode cX6_readCarrier 79 = .ok (.iconst 0, 1) := by decide +kernel
theorem dX6_readCarrier_80 : decode cX6_readCarrier 80 = .ok (.istore_n 1, 1) := by decide +kernel
theorem dX6_readCarrier_81 : decode cX6_readCarrier 81 = .ok (.iinc 2 1, 3) := by decide +kernel
theorem dX6_readCarrier_84 : decode cX6_readCarrier 84 = .ok (.goto (-36), 3) := by decide +kernel
theorem dX6_readCarrier_87 : decode cX6_readCarrier 87 = .ok (.aload_n 0, 1) := by decide +kernel
theorem dX6_readCarrier_88 : decode cX6_readCarrier 88 = .ok (.iload_n 1, 1) := by decide +kernel
theorem dX6_readCarrier_89 : decode cX6_readCarrier 89 = .ok (.invokevirtual 196, 3) := by decide +kernel
theorem dX6_readCarrier_92 : decode cX6_readCarrier 92 = .ok (.ifCond .eq 5, 3) := by decide +kernel
theorem dX6_readCarrier_95 : decode cX6_readCarrier 95 = .ok (.iconst 0, 1) := by decide +kernel
theorem dX6_readCarrier_96 : decode cX6_readCarrier 96 = .ok (.ireturn, 1) := by decide +kernel
theorem dX6_readCarrier_97 : decode cX6_readCarrier 97 = .ok (.aload_n 0, 1) := by decide +kernel
theorem dX6_readCarrier_98 : decode cX6_readCarrier 98 = .ok (.getfield 37, 3) := by decide +kernel
theorem dX6_readCarrier_101 : decode cX6_readCarrier 101 = .ok (.iconst 2, 1) := by decide +kernel
theorem dX6_readCarrier_102 : decode cX6_readCarrier 102 = .ok (.aload_n 0, 1) := by decide +kernel
theorem dX6_readCarrier_103 : decode cX6_readCarrier 103 = .ok (.getfield 189, 3) := by decide +kernel
theorem dX6_readCarrier_106 : decode cX6_readCarrier 106 = .ok (.imul, 1) := by decide +kernel
theorem dX6_readCarrier_107 : decode cX6_readCarrier 107 = .ok (.aload_n 0, 1) := by decide +kernel
theorem dX6_readCarrier_108 : decode cX6_readCarrier 108 = .ok (.getfield 186, 3) := by decide +kernel
theorem dX6_readCarrier_111 : decode cX6_readCarrier 111 = .ok (.iastore, 1) := by decide +kernel
theorem dX6_readCarrier_112 : decode cX6_readCarrier 112 = .ok (.aload_n 0, 1) := by decide +kernel
theorem dX6_readCarrier_113 : decode cX6_readCarrier 113 = .ok (.bipush 44, 2) := by decide +kernel
theorem dX6_readCarrier_115 : decode cX6_readCarrier 115 = .ok (.invokevirtual 200, 3) := by decide +kernel
theorem dX6_readCarrier_118 : decode cX6_readCarrier 118 = .ok (.ifCond .eq 31, 3) := by decide +kernel
theorem dX6_readCarrier_121 : decode cX6_readCarrier 121 = .ok (.aload_n 0, 1) := by decide +kernel
theorem dX6_readCarrier_122 : decode cX6_readCarrier 122 = .ok (.invokevirtual 192, 3) := by decide +kernel
theorem dX6_readCarrier_125 : decode cX6_readCarrier 125 = .ok (.ifCond .eq 24, 3) := by decide +kernel
theorem dX6_readCarrier_128 : decode cX6_readCarrier 128 = .ok (.aload_n 0, 1) := by decide +kernel
theorem dX6_readCarrier_129 : decode cX6_readCarrier 129 = .ok (.aload_n 0, 1) := by decide +kernel
theorem dX6_readCarrier_130 : decode cX6_readCarrier 130 = .ok (.getfield 186, 3) := by decide +kernel
theorem dX6_readCarrier_133 : decode cX6_readCarrier 133 = .ok (.bipush 60, 2) := by decide +kernel
theorem dX6_readCarrier_135 : decode cX6_readCarrier 135 = .ok (.if_icmp .le 7, 3) := by decide +kernel
theorem dX6_readCarrier_138 : decode cX6_readCarrier 138 = .ok (.iconst 1, 1) := by decide +kernel
theorem dX6_readCarrier_139 : decode cX6_readCarrier 139 = .ok (.goto 4, 3) := by decide +kernel
theorem dX6_readCarrier_142 : decode cX6_readCarrier 142 = .ok (.iconst 0, 1) := by decide +kernel
theorem dX6_readCarrier_143 : decode cX6_readCarrier 143 = .ok (.invokevirtual 196, 3) := by decide +kernel
theorem dX6_readCarrier_146 : decode cX6_readCarrier 146 = .ok (.ifCond .eq 5, 3) := by decide +kernel
theorem dX6_readCarrier_149 : decode cX6_readCarrier 149 = .ok (.iconst 0, 1) := by decide +kernel
theorem dX6_readCarrier_150 : decode cX6_readCarrier 150 = .ok (.ireturn, 1) := by decide +kernel
theorem dX6_readCarrier_151 : decode cX6_readCarrier 151 = .ok (.aload_n 0, 1) := by decide +kernel
theorem dX6_readCarrier_152 : decode cX6_readCarrier 152 = .ok (.getfield 37, 3) := by decide +kernel
theorem dX6_readCarrier_155 : decode cX6_readCarrier 155 = .ok (.iconst 2, 1) := by decide +kernel
theorem dX6_readCarrier_156 : decode cX6_readCarrier 156 = .ok (.aload_n 0, 1) := by decide +kernel
theorem dX6_readCarrier_157 : decode cX6_readCarrier 157 = .ok (.getfield 189, 3) := by decide +kernel
theorem dX6_readCarrier_160 : decode cX6_readCarrier 160 = .ok (.imul, 1) := by decide +kernel
theorem dX6_readCarrier_161 : decode cX6_readCarrier 161 = .ok (.iconst 1, 1) := by decide +kernel
theorem dX6_readCarrier_162 : decode cX6_readCarrier 162 = .ok (.iadd, 1) := by decide +kernel
theorem dX6_readCarrier_163 : decode cX6_readCarrier 163 = .ok (.aload_n 0, 1) := by decide +kernel
theorem dX6_readCarrier_164 : decode cX6_readCarrier 164 = .ok (.getfield 186, 3) := by decide +kernel
theorem dX6_readCarrier_167 : decode cX6_readCarrier 167 = .ok (.iastore, 1) := by decide +kernel
theorem dX6_readCarrier_168 : decode cX6_readCarrier 168 = .ok (.aload_n 0, 1) := by decide +kernel
theorem dX6_readCarrier_169 : decode cX6_readCarrier 169 = .ok (.dup, 1) := by decide +kernel
theorem dX6_readCarrier_170 : decode cX6_readCarrier 170 = .ok (.getfield 189, 3) := by decide +kernel
theorem dX6_readCarrier_173 : decode cX6_readCarrier 173 = .ok (.iconst 1, 1) := by decide +kernel
theorem dX6_readCarrier_174 : decode cX6_readCarrier 174 = .ok (.iadd, 1) := by decide +kernel
theorem dX6_readCarrier_175 : decode cX6_readCarrier 175 = .ok (.putfield 189, 3) := by decide +kernel
theorem dX6_readCarrier_178 : decode cX6_readCarrier 178 = .ok (.iconst 1, 1) := by decide +kernel
theorem dX6_readCarrier_179 : decode cX6_readCarrier 179 = .ok (.ireturn, 1) := by decide +kernel
theorem dX6_readMixer_0 : decode cX6_readMixer 0 = .ok (.aload_n 0, 1) := by decide +kernel
theorem dX6_readMixer_1 : decode cX6_readMixer 1 = .ok (.getfield 203, 3) := by decide +kernel
theorem dX6_readMixer_4 : decode cX6_readMixer 4 = .ok (.iconst 5, 1) := by decide +kernel
theorem dX6_readMixer_5 : decode cX6_readMixer 5 = .ok (.if_icmp .ne 5, 3) := by decide +kernel
theorem dX6_readMixer_8 : decode cX6_readMixer 8 = .ok (.iconst 0, 1) := by decide +kernel
theorem dX6_readMixer_9 : decode cX6_readMixer 9 = .ok (.ireturn, 1) := by decide +kernel
theorem dX6_readMixer_10 : decode cX6_readMixer 10 = .ok (.iconst 0, 1) := by decide +kernel
theorem dX6_readMixer_11 : decode cX6_readMixer 11 = .ok (.istore_n 1, 1) := by decide +kernel
theorem dX6_readMixer_12 : decode cX6_readMixer 12 = .ok (.iconst 1, 1) := by decide +kernel
theorem dX6_readMixer_13 : decode cX6_readMixer 13 = .ok (.istore_n 2, 1) := by decide +kernel
theorem dX6_readMixer_14 : decode cX6_readMixer 14 = .ok (.iload_n 2, 1) := by decide +kernel
theorem dX6_readMixer_15 : decode cX6_readMixer 15 = .ok (.ifCond .eq 83, 3) := by decide +kernel
theorem dX6_readMixer_18 : decode cX6_readMixer 18 = .ok (.aload_n 0, 1) := by decide +kernel
theorem dX6_readMixer_19 : decode cX6_readMixer 19 = .ok (.dup, 1) := by decide +kernel
theorem dX6_readMixer_20 : decode cX6_readMixer 20 = .ok (.getfield 177, 3) := by decide +kernel
theorem dX6_readMixer_23 : decode cX6_readMixer 23 = .ok (.iconst 1, 1) := by decide +kernel
theorem dX6_readMixer_24 : decode cX6_readMixer 24 = .ok (.iadd, 1) := by decide +kernel
theorem dX6_readMixer_25 : decode cX6_readMixer 25 = .ok (.putfield 177, 3) := by decide +kernel
theorem dX6_readMixer_28 : decode cX6_readMixer 28 = .ok (.aload_n 0, 1) := by decide +kernel
theorem dX6_readMixer_29 : decode cX6_readMixer 29 = .ok (.invokevirtual 192, 3) := by decide +kernel
theorem dX6_readMixer_32 : decode cX6_readMixer 32 = .ok (.ifCond .eq 37, 3) := by decide +kernel
theorem dX6_readMixer_35 : decode cX6_readMixer 35 = .ok (.aload_n 0, 1) := by decide +kernel
theorem dX6_readMixer_36 : decode cX6_readMixer 36 = .ok (.aload_n 0, 1) := by decide +kernel
theorem dX6_readMixer_37 : decode cX6_readMixer 37 = .ok (.getfield 186, 3) := by decide +kernel
theorem dX6_readMixer_40 : decode cX6_readMixer 40 = .ok (.aload_n 0, 1) := by decide +kernel
theorem dX6_readMixer_41 : decode cX6_readMixer 41 = .ok (.getfield 189, 3) := by decide +kernel
theorem dX6_readMixer_44 : decode cX6_readMixer 44 = .ok (.if_icmp .ge 14, 3) := by decide +kernel
theorem dX6_readMixer_47 : decode cX6_readMixer 47 = .ok (.iload_n 1, 1) := by decide +kernel
theorem dX6_readMixer_48 : decode cX6_readMixer 48 = .ok (.aload_n 0, 1) := by decide +kernel
theorem dX6_readMixer_49 : decode cX6_readMixer 49 = .ok (.getfield 186, 3) := by decide +kernel
theorem dX6_readMixer_52 : decode cX6_readMixer 52 = .ok (.invokestatic 85, 3) := by decide +kernel
theorem dX6_readMixer_55 : decode cX6_readMixer 55 = .ok (.ifCond .eq 7, 3) := by decide +kernel
theorem dX6_readMixer_58 : decode cX6_readMixer 58 = .ok (.iconst 1, 1) := by decide +kernel
theorem dX6_readMixer_59 : decode cX6_readMixer 59 = .ok (.goto 4, 3) := by decide +kernel
theorem dX6_readMixer_62 : decode cX6_readMixer 62 = .ok (.iconst 0, 1) := by decide +kernel
theorem dX6_readMixer_63 : decode cX6_readMixer 63 = .ok (.invokevirtual 196, 3) := by decide +kernel
theorem dX6_readMixer_66 : decode cX6_readMixer 66 = .ok (.ifCond .eq 5, 3) := by decide +kernel
theorem dX6_readMixer_69 : decode cX6_readMixer 69 = .ok (.iconst 0, 1) := by decide +kernel
theorem dX6_readMixer_70 : decode cX6_readMixer 70 = .ok (.ireturn, 1) := by decide +kernel
theorem dX6_readMixer_71 : decode cX6_readMixer 71 = .ok (.iload_n 1, 1) := by decide +kernel
theorem dX6_readMixer_72 : decode cX6_readMixer 72 = .ok (.iconst 1, 1) := by decide +kernel
theorem dX6_readMixer_73 : decode cX6_readMixer 73 = .ok (.aload_n 0, 1) := by decide +kernel
theorem dX6_readMixer_74 : decode cX6_readMixer 74 = .ok (.getfield 186, 3) := by decide +kernel
theorem dX6_readMixer_77 : decode cX6_readMixer 77 = .ok (.ishl, 1) := by decide +kernel
theorem dX6_readMixer_78 : decode cX6_readMixer 78 = .ok (.ior, 1) := by decide +kernel
theorem dX6_readMixer_79 : decode cX6_readMixer 79 = .ok (.istore_n 1, 1) := by decide +kernel
theorem dX6_readMixer_80 : decode cX6_readMixer 80 = .ok (.aload_n 0, 1) := by decide +kernel
theorem dX6_readMixer_81 : decode cX6_readMixer 81 = .ok (.invokevirtual 180, 3) := by decide +kernel
theorem dX6_readMixer_84 : decode cX6_readMixer 84 = .ok (.bipush 44, 2) := by decide +kernel
theorem dX6_readMixer_86 : decode cX6_readMixer 86 = .ok (.if_icmp .ne 7, 3) := by decide +kernel
theorem dX6_readMixer_89 : decode cX6_readMixer 89 = .ok (.iconst 1, 1) := by decide +kernel
theorem dX6_readMixer_90 : decode cX6_readMixer 90 = .ok (.goto 4, 3) := by decide +kernel
theorem dX6_readMixer_93 : decode cX6_readMixer 93 = .ok (.iconst 0, 1) := by decide +kernel
theorem dX6_readMixer_94 : decode cX6_readMixer 94 = .ok (.istore_n 2, 1) := by decide +kernel
theorem dX6_readMixer_95 : decode cX6_readMixer 95 = .ok (.goto (-81), 3) := by decide +kernel
theorem dX6_readMixer_98 : decode cX6_readMixer 98 = .ok (.aload_n 0, 1) := by decide +kernel
theorem dX6_readMixer_99 : decode cX6_readMixer 99 = .ok (.getfield 40, 3) := by decide +kernel
theorem dX6_readMixer_102 : decode cX6_readMixer 102 = .ok (.aload_n 0, 1) := by decide +kernel
theorem dX6_readMixer_103 : decode cX6_readMixer 103 = .ok (.getfield 203, 3) := by decide +kernel
theorem dX6_readMixer_106 : decode cX6_readMixer 106 = .ok (.iload_n 1, 1) := by decide +kernel
theorem dX6_readMixer_107 : decode cX6_readMixer 107 = .ok (.iastore, 1) := by decide +kernel
theorem dX6_readMixer_108 : decode cX6_readMixer 108 = .ok (.aload_n 0, 1) := by decide +kernel
theorem dX6_readMixer_109 : decode cX6_readMixer 109 = .ok (.dup, 1) := by decide +kernel
theorem dX6_readMixer_110 : decode cX6_readMixer 110 = .ok (.getfield 203, 3) := by decide +kernel
theorem dX6_readMixer_113 : decode cX6_readMixer 113 = .ok (.iconst 1, 1) := by decide +kernel
theorem dX6_readMixer_114 : decode cX6_readMixer 114 = .ok (.iadd, 1) := by decide +kernel
theorem dX6_readMixer_115 : decode cX6_readMixer 115 = .ok (.putfield 203, 3) := by decide +kernel
theorem dX6_readMixer_118 : decode cX6_readMixer 118 = .ok (.iconst 1, 1) := by decide +kernel
theorem dX6_readMixer_119 : decode cX6_readMixer 119 = .ok (.ireturn, 1) := by decide +kernel
theorem dX6_readAll_0 : decode cX6_readAll 0 = .ok (.aload_n 0, 1) := by decide +kernel
theorem dX6_readAll_1 : decode cX6_readAll 1 = .ok (.iconst 0, 1) := by decide +kernel
theorem dX6_readAll_2 : decode cX6_readAll 2 = .ok (.putfield 177, 3) := by decide +kernel
theorem dX6_readAll_5 : decode cX6_readAll 5 = .ok (.aload_n 0, 1) := by decide +kernel
theorem dX6_readAll_6 : decode cX6_readAll 6 = .ok (.iconst 0, 1) := by decide +kernel
theorem dX6_readAll_7 : decode cX6_readAll 7 = .ok (.putfield 189, 3) := by decide +kernel
theorem dX6_readAll_10 : decode cX6_readAll 10 = .ok (.aload_n 0, 1) := by decide +kernel
theorem dX6_readAll_11 : decode cX6_readAll 11 = .ok (.iconst 0, 1) := by decide +kernel
theorem dX6_readAll_12 : decode cX6_readAll 12 = .ok (.putfield 203, 3) := by decide +kernel
theorem dX6_readAll_15 : decode cX6_readAll 15 = .ok (.iconst 0, 1) := by decide +kernel
theorem dX6_readAll_16 : decode cX6_readAll 16 = .ok (.istore_n 1, 1) := by decide +kernel
theorem dX6_readAll_17 : decode cX6_readAll 17 = .ok (.aload_n 0, 1) := by decide +kernel
theorem dX6_readAll_18 : decode cX6_readAll 18 = .ok (.getfield 177, 3) := by decide +kernel
theorem dX6_readAll_21 : decode cX6_readAll 21 = .ok (.aload_n 0, 1) := by decide +kernel
theorem dX6_readAll_22 : decode cX6_readAll 22 = .ok (.getfield 174, 3) := by decide +kernel
theorem dX6_readAll_25 : decode cX6_readAll 25 = .ok (.if_icmp .ge 62, 3) := by decide +kernel
theorem dX6_readAll_28 : decode cX6_readAll 28 = .ok (.aload_n 0, 1) := by decide +kernel
theorem dX6_readAll_29 : decode cX6_readAll 29 = .ok (.invokevirtual 180, 3) := by decide +kernel
theorem dX6_readAll_32 : decode cX6_readAll 32 = .ok (.bipush 99, 2) := by decide +kernel
theorem dX6_readAll_34 : decode cX6_readAll 34 = .ok (.if_icmp .ne 10, 3) := by decide +kernel
theorem dX6_readAll_37 : decode cX6_readAll 37 = .ok (.aload_n 0, 1) := by decide +kernel
theorem dX6_readAll_38 : decode cX6_readAll 38 = .ok (.invokevirtual 206, 3) := by decide +kernel
theorem dX6_readAll_41 : decode cX6_readAll 41 = .ok (.goto 24, 3) := by decide +kernel
theorem dX6_readAll_44 : decode cX6_readAll 44 = .ok (.aload_n 0, 1) := by decide +kernel
theorem dX6_readAll_45 : decode cX6_readAll 45 = .ok (.invokevirtual 180, 3) := by decide +kernel
theorem dX6_readAll_48 : decode cX6_readAll 48 = .ok (.bipush 109, 2) := by decide +kernel
theorem dX6_readAll_50 : decode cX6_readAll 50 = .ok (.if_icmp .ne 14, 3) := by decide +kernel
theorem dX6_readAll_53 : decode cX6_readAll 53 = .ok (.aload_n 0, 1) := by decide +kernel
theorem dX6_readAll_54 : decode cX6_readAll 54 = .ok (.invokevirtual 209, 3) := by decide +kernel
theorem dX6_readAll_57 : decode cX6_readAll 57 = .ok (.ifCond .eq 7, 3) := by decide +kernel
theorem dX6_readAll_60 : decode cX6_readAll 60 = .ok (.iconst 1, 1) := by decide +kernel
theorem dX6_readAll_61 : decode cX6_readAll 61 = .ok (.goto 4, 3) := by decide +kernel
theorem dX6_readAll_64 : decode cX6_readAll 64 = .ok (.iconst 0, 1) := by decide +kernel
theorem dX6_readAll_65 : decode cX6_readAll 65 = .ok (.istore_n 2, 1) := by decide +kernel
theorem dX6_readAll_66 : decode cX6_readAll 66 = .ok (.iload_n 2, 1) := by decide +kernel
theorem dX6_readAll_67 : decode cX6_readAll 67 = .ok (.ifCond .eq 12, 3) := by decide +kernel
theorem dX6_readAll_70 : decode cX6_readAll 70 = .ok (.aload_n 0, 1) := by decide +kernel
theorem dX6_readAll_71 : decode cX6_readAll 71 = .ok (.bipush 59, 2) := by decide +kernel
theorem dX6_readAll_73 : decode cX6_readAll 73 = .ok (.invokevirtual 200, 3) := by decide +kernel
theorem dX6_readAll_76 : decode cX6_readAll 76 = .ok (.ifCond .ne 5, 3) := by decide +kernel
theorem dX6_readAll_79 : decode cX6_readAll 79 = .ok (.iconst (-1), 1) := by decide +kernel
theorem dX6_readAll_80 : decode cX6_readAll 80 = .ok (.ireturn, 1) := by decide +kernel
theorem dX6_readAll_81 : decode cX6_readAll 81 = .ok (.iinc 1 1, 3) := by decide +kernel
theorem dX6_readAll_84 : decode cX6_readAll 84 = .ok (.goto (-67), 3) := by decide +kernel
theorem dX6_readAll_87 : decode cX6_readAll 87 = .ok (.iload_n 1, 1) := by decide +kernel
theorem dX6_readAll_88 : decode cX6_readAll 88 = .ok (.ireturn, 1) := by decide +kernel
theorem dX6_parse_0 : decode cX6_parse 0 = .ok (.aload_n 0, 1) := by decide +kernel
theorem dX6_parse_1 : decode cX6_parse 1 = .ok (.iconst 0, 1) := by decide +kernel
theorem dX6_parse_2 : decode cX6_parse 2 = .ok (.putfield 43, 3) := by decide +kernel
end
section
theorem dX6_parse_5 : decode cX6_parse 5 = .ok (.aload_n 0, 1) := by decide +kernel
theorem dX6_parse_6 : decode cX6_parse 6 = .ok (.invokevirtual 212, 3) := by decide +kernel
theorem dX6_parse_9 : decode cX6_parse 9 = .ok (.istore_n 1, 1) := by decide +kernel
theorem dX6_parse_10 : decode cX6_parse 10 = .ok (.iload_n 1, 1) := by decide +kernel
theorem dX6_parse_11 : decode cX6_parse 11 = .ok (.iconst (-1), 1) := by decide +kernel
theorem dX6_parse_12 : decode cX6_parse 12 = .ok (.if_icmp .ne 11, 3) := by decide +kernel
theorem dX6_parse_15 : decode cX6_parse 15 = .ok (.bipush (-10), 2) := by decide +kernel
theorem dX6_parse_17 : decode cX6_parse 17 = .ok (.aload_n 0, 1) := by decide +kernel
theorem dX6_parse_18 : decode cX6_parse 18 = .ok (.getfield 177, 3) := by decide +kernel
theorem dX6_parse_21 : decode cX6_parse 21 = .ok (.isub, 1) := by decide +kernel
theorem dX6_parse_22 : decode cX6_parse 22 = .ok (.ireturn, 1) := by decide +kernel
theorem dX6_parse_23 : decode cX6_parse 23 = .ok (.aload_n 0, 1) := by decide +kernel
theorem dX6_parse_24 : decode cX6_parse 24 = .ok (.invokevirtual 72, 3) := by decide +kernel
theorem dX6_parse_27 : decode cX6_parse 27 = .ok (.aload_n 0, 1) := by decide +kernel
theorem dX6_parse_28 : decode cX6_parse 28 = .ok (.getfield 7, 3) := by decide +kernel
theorem dX6_parse_31 : decode cX6_parse 31 = .ok (.iconst 5, 1) := by decide +kernel
theorem dX6_parse_32 : decode cX6_parse 32 = .ok (.aload_n 0, 1) := by decide +kernel
theorem dX6_parse_33 : decode cX6_parse 33 = .ok (.getfield 189, 3) := by decide +kernel
theorem dX6_parse_36 : decode cX6_parse 36 = .ok (.iastore, 1) := by decide +kernel
theorem dX6_parse_37 : decode cX6_parse 37 = .ok (.iconst 0, 1) := by decide +kernel
theorem dX6_parse_38 : decode cX6_parse 38 = .ok (.istore_n 2, 1) := by decide +kernel
theorem dX6_parse_39 : decode cX6_parse 39 = .ok (.iload_n 2, 1) := by decide +kernel
theorem dX6_parse_40 : decode cX6_parse 40 = .ok (.iconst 2, 1) := by decide +kernel
theorem dX6_parse_41 : decode cX6_parse 41 = .ok (.aload_n 0, 1) := by decide +kernel
theorem dX6_parse_42 : decode cX6_parse 42 = .ok (.getfield 189, 3) := by decide +kernel
theorem dX6_parse_45 : decode cX6_parse 45 = .ok (.imul, 1) := by decide +kernel
theorem dX6_parse_46 : decode cX6_parse 46 = .ok (.if_icmp .ge 24, 3) := by decide +kernel
theorem dX6_parse_49 : decode cX6_parse 49 = .ok (.aload_n 0, 1) := by decide +kernel
theorem dX6_parse_50 : decode cX6_parse 50 = .ok (.getfield 7, 3) := by decide +kernel
theorem dX6_parse_53 : decode cX6_parse 53 = .ok (.bipush 6, 2) := by decide +kernel
theorem dX6_parse_55 : decode cX6_parse 55 = .ok (.iload_n 2, 1) := by decide +kernel
theorem dX6_parse_56 : decode cX6_parse 56 = .ok (.iadd, 1) := by decide +kernel
theorem dX6_parse_57 : decode cX6_parse 57 = .ok (.aload_n 0, 1) := by decide +kernel
theorem dX6_parse_58 : decode cX6_parse 58 = .ok (.getfield 37, 3) := by decide +kernel
theorem dX6_parse_61 : decode cX6_parse 61 = .ok (.iload_n 2, 1) := by decide +kernel
theorem dX6_parse_62 : decode cX6_parse 62 = .ok (.iaload, 1) := by decide +kernel
theorem dX6_parse_63 : decode cX6_parse 63 = .ok (.iastore, 1) := by decide +kernel
theorem dX6_parse_64 : decode cX6_parse 64 = .ok (.iinc 2 1, 3) := by decide +kernel
theorem dX6_parse_67 : decode cX6_parse 67 = .ok (.goto (-28), 3) := by decide +kernel
theorem dX6_parse_70 : decode cX6_parse 70 = .ok (.aload_n 0, 1) := by decide +kernel
theorem dX6_parse_71 : decode cX6_parse 71 = .ok (.getfield 7, 3) := by decide +kernel
theorem dX6_parse_74 : decode cX6_parse 74 = .ok (.bipush 26, 2) := by decide +kernel
theorem dX6_parse_76 : decode cX6_parse 76 = .ok (.aload_n 0, 1) := by decide +kernel
theorem dX6_parse_77 : decode cX6_parse 77 = .ok (.getfield 203, 3) := by decide +kernel
theorem dX6_parse_80 : decode cX6_parse 80 = .ok (.iastore, 1) := by decide +kernel
theorem dX6_parse_81 : decode cX6_parse 81 = .ok (.iconst 0, 1) := by decide +kernel
theorem dX6_parse_82 : decode cX6_parse 82 = .ok (.istore_n 2, 1) := by decide +kernel
theorem dX6_parse_83 : decode cX6_parse 83 = .ok (.iload_n 2, 1) := by decide +kernel
theorem dX6_parse_84 : decode cX6_parse 84 = .ok (.aload_n 0, 1) := by decide +kernel
theorem dX6_parse_85 : decode cX6_parse 85 = .ok (.getfield 203, 3) := by decide +kernel
theorem dX6_parse_88 : decode cX6_parse 88 = .ok (.if_icmp .ge 24, 3) := by decide +kernel
theorem dX6_parse_91 : decode cX6_parse 91 = .ok (.aload_n 0, 1) := by decide +kernel
theorem dX6_parse_92 : decode cX6_parse 92 = .ok (.getfield 7, 3) := by decide +kernel
theorem dX6_parse_95 : decode cX6_parse 95 = .ok (.bipush 27, 2) := by decide +kernel
theorem dX6_parse_97 : decode cX6_parse 97 = .ok (.iload_n 2, 1) := by decide +kernel
theorem dX6_parse_98 : decode cX6_parse 98 = .ok (.iadd, 1) := by decide +kernel
theorem dX6_parse_99 : decode cX6_parse 99 = .ok (.aload_n 0, 1) := by decide +kernel
theorem dX6_parse_100 : decode cX6_parse 100 = .ok (.getfield 40, 3) := by decide +kernel
theorem dX6_parse_103 : decode cX6_parse 103 = .ok (.iload_n 2, 1) := by decide +kernel
theorem dX6_parse_104 : decode cX6_parse 104 = .ok (.iaload, 1) := by decide +kernel
theorem dX6_parse_105 : decode cX6_parse 105 = .ok (.iastore, 1) := by decide +kernel
theorem dX6_parse_106 : decode cX6_parse 106 = .ok (.iinc 2 1, 3) := by decide +kernel
theorem dX6_parse_109 : decode cX6_parse 109 = .ok (.goto (-26), 3) := by decide +kernel
theorem dX6_parse_112 : decode cX6_parse 112 = .ok (.iload_n 1, 1) := by decide +kernel
theorem dX6_parse_113 : decode cX6_parse 113 = .ok (.ireturn, 1) := by decide +kernel
theorem dX6_undo_0 : decode cX6_undo 0 = .ok (.aload_n 0, 1) := by decide +kernel
theorem dX6_undo_1 : decode cX6_undo 1 = .ok (.aload_n 0, 1) := by decide +kernel
theorem dX6_undo_2 : decode cX6_undo 2 = .ok (.getfield 47, 3) := by decide +kernel
theorem dX6_undo_5 : decode cX6_undo 5 = .ok (.ifCond .ne 7, 3) := by decide +kernel
theorem dX6_undo_8 : decode cX6_undo 8 = .ok (.iconst 1, 1) := by decide +kernel
theorem dX6_undo_9 : decode cX6_undo 9 = .ok (.goto 4, 3) := by decide +kernel
theorem dX6_undo_12 : decode cX6_undo 12 = .ok (.iconst 0, 1) := by decide +kernel
theorem dX6_undo_13 : decode cX6_undo 13 = .ok (.putfield 43, 3) := by decide +kernel
theorem dX6_undo_16 : decode cX6_undo 16 = .ok (.aload_n 0, 1) := by decide +kernel
theorem dX6_undo_17 : decode cX6_undo 17 = .ok (.getfield 43, 3) := by decide +kernel
theorem dX6_undo_20 : decode cX6_undo 20 = .ok (.ifCond .eq 5, 3) := by decide +kernel
theorem dX6_undo_23 : decode cX6_undo 23 = .ok (.iconst 0, 1) := by decide +kernel
theorem dX6_undo_24 : decode cX6_undo 24 = .ok (.ireturn, 1) := by decide +kernel
theorem dX6_undo_25 : decode cX6_undo 25 = .ok (.aload_n 0, 1) := by decide +kernel
theorem dX6_undo_26 : decode cX6_undo 26 = .ok (.dup, 1) := by decide +kernel
theorem dX6_undo_27 : decode cX6_undo 27 = .ok (.getfield 47, 3) := by decide +kernel
theorem dX6_undo_30 : decode cX6_undo 30 = .ok (.iconst 1, 1) := by decide +kernel
theorem dX6_undo_31 : decode cX6_undo 31 = .ok (.isub, 1) := by decide +kernel
theorem dX6_undo_32 : decode cX6_undo 32 = .ok (.putfield 47, 3) := by decide +kernel
theorem dX6_undo_35 : decode cX6_undo 35 = .ok (.iconst 0, 1) := by decide +kernel
theorem dX6_undo_36 : decode cX6_undo 36 = .ok (.istore_n 1, 1) := by decide +kernel
theorem dX6_undo_37 : decode cX6_undo 37 = .ok (.iload_n 1, 1) := by decide +kernel
theorem dX6_undo_38 : decode cX6_undo 38 = .ok (.bipush 81, 2) := by decide +kernel
theorem dX6_undo_40 : decode cX6_undo 40 = .ok (.if_icmp .ge 29, 3) := by decide +kernel
theorem dX6_undo_43 : decode cX6_undo 43 = .ok (.aload_n 0, 1) := by decide +kernel
theorem dX6_undo_44 : decode cX6_undo 44 = .ok (.getfield 7, 3) := by decide +kernel
theorem dX6_undo_47 : decode cX6_undo 47 = .ok (.iload_n 1, 1) := by decide +kernel
theorem dX6_undo_48 : decode cX6_undo 48 = .ok (.aload_n 0, 1) := by decide +kernel
theorem dX6_undo_49 : decode cX6_undo 49 = .ok (.getfield 13, 3) := by decide +kernel
theorem dX6_undo_52 : decode cX6_undo 52 = .ok (.bipush 81, 2) := by decide +kernel
theorem dX6_undo_54 : decode cX6_undo 54 = .ok (.aload_n 0, 1) := by decide +kernel
theorem dX6_undo_55 : decode cX6_undo 55 = .ok (.getfield 47, 3) := by decide +kernel
theorem dX6_undo_58 : decode cX6_undo 58 = .ok (.imul, 1) := by decide +kernel
theorem dX6_undo_59 : decode cX6_undo 59 = .ok (.iload_n 1, 1) := by decide +kernel
theorem dX6_undo_60 : decode cX6_undo 60 = .ok (.iadd, 1) := by decide +kernel
theorem dX6_undo_61 : decode cX6_undo 61 = .ok (.iaload, 1) := by decide +kernel
theorem dX6_undo_62 : decode cX6_undo 62 = .ok (.iastore, 1) := by decide +kernel
theorem dX6_undo_63 : decode cX6_undo 63 = .ok (.iinc 1 1, 3) := by decide +kernel
theorem dX6_undo_66 : decode cX6_undo 66 = .ok (.goto (-29), 3) := by decide +kernel
theorem dX6_undo_69 : decode cX6_undo 69 = .ok (.aload_n 0, 1) := by decide +kernel
theorem dX6_undo_70 : decode cX6_undo 70 = .ok (.getfield 47, 3) := by decide +kernel
theorem dX6_undo_73 : decode cX6_undo 73 = .ok (.ireturn, 1) := by decide +kernel
theorem dX6_mix_0 : decode cX6_mix 0 = .ok (.aload_n 0, 1) := by decide +kernel
theorem dX6_mix_1 : decode cX6_mix 1 = .ok (.ldc2_w 215, 3) := by decide +kernel
theorem dX6_mix_4 : decode cX6_mix 4 = .ok (.aload_n 0, 1) := by decide +kernel
theorem dX6_mix_5 : decode cX6_mix 5 = .ok (.getfield 217, 3) := by decide +kernel
theorem dX6_mix_8 : decode cX6_mix 8 = .ok (.lmul, 1) := by decide +kernel
theorem dX6_mix_9 : decode cX6_mix 9 = .ok (.lload_n 1, 1) := by decide +kernel
theorem dX6_mix_10 : decode cX6_mix 10 = .ok (.ladd, 1) := by decide +kernel
theorem dX6_mix_11 : decode cX6_mix 11 = .ok (.putfield 217, 3) := by decide +kernel
theorem dX6_mix_14 : decode cX6_mix 14 = .ok (.return_, 1) := by decide +kernel
theorem dX6_digest_0 : decode cX6_digest 0 = .ok (.aload_n 0, 1) := by decide +kernel
theorem dX6_digest_1 : decode cX6_digest 1 = .ok (.iconst 0, 1) := by decide +kernel
theorem dX6_digest_2 : decode cX6_digest 2 = .ok (.putfield 43, 3) := by decide +kernel
theorem dX6_digest_5 : decode cX6_digest 5 = .ok (.aload_n 0, 1) := by decide +kernel
theorem dX6_digest_6 : decode cX6_digest 6 = .ok (.ldc2_w 220, 3) := by decide +kernel
theorem dX6_digest_9 : decode cX6_digest 9 = .ok (.putfield 217, 3) := by decide +kernel
theorem dX6_digest_12 : decode cX6_digest 12 = .ok (.aload_n 0, 1) := by decide +kernel
theorem dX6_digest_13 : decode cX6_digest 13 = .ok (.aload_n 0, 1) := by decide +kernel
theorem dX6_digest_14 : decode cX6_digest 14 = .ok (.getfield 174, 3) := by decide +kernel
theorem dX6_digest_17 : decode cX6_digest 17 = .ok (.i2l, 1) := by decide +kernel
theorem dX6_digest_18 : decode cX6_digest 18 = .ok (.invokevirtual 222, 3) := by decide +kernel
theorem dX6_digest_21 : decode cX6_digest 21 = .ok (.iconst 0, 1) := by decide +kernel
theorem dX6_digest_22 : decode cX6_digest 22 = .ok (.istore_n 1, 1) := by decide +kernel
theorem dX6_digest_23 : decode cX6_digest 23 = .ok (.iload_n 1, 1) := by decide +kernel
theorem dX6_digest_24 : decode cX6_digest 24 = .ok (.bipush 6, 2) := by decide +kernel
theorem dX6_digest_26 : decode cX6_digest 26 = .ok (.iconst 2, 1) := by decide +kernel
theorem dX6_digest_27 : decode cX6_digest 27 = .ok (.aload_n 0, 1) := by decide +kernel
theorem dX6_digest_28 : decode cX6_digest 28 = .ok (.getfield 7, 3) := by decide +kernel
theorem dX6_digest_31 : decode cX6_digest 31 = .ok (.iconst 5, 1) := by decide +kernel
theorem dX6_digest_32 : decode cX6_digest 32 = .ok (.iaload, 1) := by decide +kernel
theorem dX6_digest_33 : decode cX6_digest 33 = .ok (.imul, 1) := by decide +kernel
theorem dX6_digest_34 : decode cX6_digest 34 = .ok (.iadd, 1) := by decide +kernel
theorem dX6_digest_35 : decode cX6_digest 35 = .ok (.if_icmp .ge 20, 3) := by decide +kernel
theorem dX6_digest_38 : decode cX6_digest 38 = .ok (.aload_n 0, 1) := by decide +kernel
theorem dX6_digest_39 : decode cX6_digest 39 = .ok (.aload_n 0, 1) := by decide +kernel
theorem dX6_digest_40 : decode cX6_digest 40 = .ok (.getfield 7, 3) := by decide +kernel
theorem dX6_digest_43 : decode cX6_digest 43 = .ok (.iload_n 1, 1) := by decide +kernel
theorem dX6_digest_44 : decode cX6_digest 44 = .ok (.iaload, 1) := by decide +kernel
theorem dX6_digest_45 : decode cX6_digest 45 = .ok (.i2l, 1) := by decide +kernel
theorem dX6_digest_46 : decode cX6_digest 46 = .ok (.invokevirtual 222, 3) := by decide +kernel
theorem dX6_digest_49 : decode cX6_digest 49 = .ok (.iinc 1 1, 3) := by decide +kernel
theorem dX6_digest_52 : decode cX6_digest 52 = .ok (.goto (-29), 3) := by decide +kernel
theorem dX6_digest_55 : decode cX6_digest 55 = .ok (.aload_n 0, 1) := by decide +kernel
theorem dX6_digest_56 : decode cX6_digest 56 = .ok (.aload_n 0, 1) := by decide +kernel
theorem dX6_digest_57 : decode cX6_digest 57 = .ok (.invokevirtual 105, 3) := by decide +kernel
theorem dX6_digest_60 : decode cX6_digest 60 = .ok (.invokevirtual 109, 3) := by decide +kernel
theorem dX6_digest_63 : decode cX6_digest 63 = .ok (.aload_n 0, 1) := by decide +kernel
theorem dX6_digest_64 : decode cX6_digest 64 = .ok (.aload_n 0, 1) := by decide +kernel
theorem dX6_digest_65 : decode cX6_digest 65 = .ok (.getfield 95, 3) := by decide +kernel
theorem dX6_digest_68 : decode cX6_digest 68 = .ok (.i2l, 1) := by decide +kernel
theorem dX6_digest_69 : decode cX6_digest 69 = .ok (.invokevirtual 222, 3) := by decide +kernel
theorem dX6_digest_72 : decode cX6_digest 72 = .ok (.aload_n 0, 1) := by decide +kernel
theorem dX6_digest_73 : decode cX6_digest 73 = .ok (.aload_n 0, 1) := by decide +kernel
theorem dX6_digest_74 : decode cX6_digest 74 = .ok (.invokevirtual 126, 3) := by decide +kernel
theorem dX6_digest_77 : decode cX6_digest 77 = .ok (.i2l, 1) := by decide +kernel
theorem dX6_digest_78 : decode cX6_digest 78 = .ok (.invokevirtual 222, 3) := by decide +kernel
theorem dX6_digest_81 : decode cX6_digest 81 = .ok (.aload_n 0, 1) := by decide +kernel
theorem dX6_digest_82 : decode cX6_digest 82 = .ok (.aload_n 0, 1) := by decide +kernel
theorem dX6_digest_83 : decode cX6_digest 83 = .ok (.getfield 7, 3) := by decide +kernel
theorem dX6_digest_86 : decode cX6_digest 86 = .ok (.bipush 26, 2) := by decide +kernel
theorem dX6_digest_88 : decode cX6_digest 88 = .ok (.iaload, 1) := by decide +kernel
theorem dX6_digest_89 : decode cX6_digest 89 = .ok (.i2l, 1) := by decide +kernel
theorem dX6_digest_90 : decode cX6_digest 90 = .ok (.invokevirtual 222, 3) := by decide +kernel
theorem dX6_digest_93 : decode cX6_digest 93 = .ok (.iconst 0, 1) := by decide +kernel
theorem dX6_digest_94 : decode cX6_digest 94 = .ok (.istore_n 1, 1) := by decide +kernel
theorem dX6_digest_95 : decode cX6_digest 95 = .ok (.iload_n 1, 1) := by decide +kernel
theorem dX6_digest_96 : decode cX6_digest 96 = .ok (.aload_n 0, 1) := by decide +kernel
theorem dX6_digest_97 : decode cX6_digest 97 = .ok (.getfield 7, 3) := by decide +kernel
theorem dX6_digest_100 : decode cX6_digest 100 = .ok (.bipush 26, 2) := by decide +kernel
theorem dX6_digest_102 : decode cX6_digest 102 = .ok (.iaload, 1) := by decide +kernel
theorem dX6_digest_103 : decode cX6_digest 103 = .ok (.if_icmp .ge 23, 3) := by decide +kernel
theorem dX6_digest_106 : decode cX6_digest 106 = .ok (.aload_n 0, 1) := by decide +kernel
theorem dX6_digest_107 : decode cX6_digest 107 = .ok (.aload_n 0, 1) := by decide +kernel
theorem dX6_digest_108 : decode cX6_digest 108 = .ok (.getfield 7, 3) := by decide +kernel
theorem dX6_digest_111 : decode cX6_digest 111 = .ok (.bipush 27, 2) := by decide +kernel
theorem dX6_digest_113 : decode cX6_digest 113 = .ok (.iload_n 1, 1) := by decide +kernel
theorem dX6_digest_114 : decode cX6_digest 114 = .ok (.iadd, 1) := by decide +kernel
theorem dX6_digest_115 : decode cX6_digest 115 = .ok (.iaload, 1) := by decide +kernel
theorem dX6_digest_116 : decode cX6_digest 116 = .ok (.i2l, 1) := by decide +kernel
theorem dX6_digest_117 : decode cX6_digest 117 = .ok (.invokevirtual 222, 3) := by decide +kernel
theorem dX6_digest_120 : decode cX6_digest 120 = .ok (.iinc 1 1, 3) := by decide +kernel
theorem dX6_digest_123 : decode cX6_digest 123 = .ok (.goto (-28), 3) := by decide +kernel
theorem dX6_digest_126 : decode cX6_digest 126 = .ok (.aload_n 0, 1) := by decide +kernel
theorem dX6_digest_127 : decode cX6_digest 127 = .ok (.aload_n 0, 1) := by decide +kernel
theorem dX6_digest_128 : decode cX6_digest 128 = .ok (.getfield 7, 3) := by decide +kernel
theorem dX6_digest_131 : decode cX6_digest 131 = .ok (.bipush 32, 2) := by decide +kernel
theorem dX6_digest_133 : decode cX6_digest 133 = .ok (.iaload, 1) := by decide +kernel
theorem dX6_digest_134 : decode cX6_digest 134 = .ok (.i2l, 1) := by decide +kernel
theorem dX6_digest_135 : decode cX6_digest 135 = .ok (.invokevirtual 222, 3) := by decide +kernel
theorem dX6_digest_138 : decode cX6_digest 138 = .ok (.iconst 0, 1) := by decide +kernel
theorem dX6_digest_139 : decode cX6_digest 139 = .ok (.istore_n 1, 1) := by decide +kernel
theorem dX6_digest_140 : decode cX6_digest 140 = .ok (.iload_n 1, 1) := by decide +kernel
theorem dX6_digest_141 : decode cX6_digest 141 = .ok (.iconst 3, 1) := by decide +kernel
theorem dX6_digest_142 : decode cX6_digest 142 = .ok (.aload_n 0, 1) := by decide +kernel
theorem dX6_digest_143 : decode cX6_digest 143 = .ok (.getfield 7, 3) := by decide +kernel
theorem dX6_digest_146 : decode cX6_digest 146 = .ok (.bipush 32, 2) := by decide +kernel
theorem dX6_digest_148 : decode cX6_digest 148 = .ok (.iaload, 1) := by decide +kernel
theorem dX6_digest_149 : decode cX6_digest 149 = .ok (.imul, 1) := by decide +kernel
theorem dX6_digest_150 : decode cX6_digest 150 = .ok (.if_icmp .ge 23, 3) := by decide +kernel
theorem dX6_digest_153 : decode cX6_digest 153 = .ok (.aload_n 0, 1) := by decide +kernel
theorem dX6_digest_154 : decode cX6_digest 154 = .ok (.aload_n 0, 1) := by decide +kernel
theorem dX6_digest_155 : decode cX6_digest 155 = .ok (.getfield 7, 3) := by decide +kernel
theorem dX6_digest_158 : decode cX6_digest 158 = .ok (.bipush 33, 2) := by decide +kernel
theorem dX6_digest_160 : decode cX6_digest 160 = .ok (.iload_n 1, 1) := by decide +kernel
theorem dX6_digest_161 : decode cX6_digest 161 = .ok (.iadd, 1) := by decide +kernel
theorem dX6_digest_162 : decode cX6_digest 162 = .ok (.iaload, 1) := by decide +kernel
theorem dX6_digest_163 : decode cX6_digest 163 = .ok (.i2l, 1) := by decide +kernel
theorem dX6_digest_164 : decode cX6_digest 164 = .ok (.invokevirtual 222, 3) := by decide +kernel
theorem dX6_digest_167 : decode cX6_digest 167 = .ok (.iinc 1 1, 3) := by decide +kernel
theorem dX6_digest_170 : decode cX6_digest 170 = .ok (.goto (-30), 3) := by decide +kernel
theorem dX6_digest_173 : decode cX6_digest 173 = .ok (.aload_n 0, 1) := by decide +kernel
theorem dX6_digest_174 : decode cX6_digest 174 = .ok (.invokevirtual 168, 3) := by decide +kernel
theorem dX6_digest_177 : decode cX6_digest 177 = .ok (.aload_n 0, 1) := by decide +kernel
theorem dX6_digest_178 : decode cX6_digest 178 = .ok (.aload_n 0, 1) := by decide +kernel
theorem dX6_digest_179 : decode cX6_digest 179 = .ok (.getfield 165, 3) := by decide +kernel
theorem dX6_digest_182 : decode cX6_digest 182 = .ok (.i2l, 1) := by decide +kernel
theorem dX6_digest_183 : decode cX6_digest 183 = .ok (.invokevirtual 222, 3) := by decide +kernel
theorem dX6_digest_186 : decode cX6_digest 186 = .ok (.aload_n 0, 1) := by decide +kernel
theorem dX6_digest_187 : decode cX6_digest 187 = .ok (.aload_n 0, 1) := by decide +kernel
theorem dX6_digest_188 : decode cX6_digest 188 = .ok (.invokevirtual 171, 3) := by decide +kernel
theorem dX6_digest_191 : decode cX6_digest 191 = .ok (.i2l, 1) := by decide +kernel
theorem dX6_digest_192 : decode cX6_digest 192 = .ok (.invokevirtual 222, 3) := by decide +kernel
theorem dX6_digest_195 : decode cX6_digest 195 = .ok (.aload_n 0, 1) := by decide +kernel
theorem dX6_digest_196 : decode cX6_digest 196 = .ok (.aload_n 0, 1) := by decide +kernel
theorem dX6_digest_197 : decode cX6_digest 197 = .ok (.getfield 47, 3) := by decide +kernel
theorem dX6_digest_200 : decode cX6_digest 200 = .ok (.i2l, 1) := by decide +kernel
theorem dX6_digest_201 : decode cX6_digest 201 = .ok (.invokevirtual 222, 3) := by decide +kernel
theorem dX6_digest_204 : decode cX6_digest 204 = .ok (.aload_n 0, 1) := by decide +kernel
theorem dX6_digest_205 : decode cX6_digest 205 = .ok (.getfield 217, 3) := by decide +kernel
theorem dX6_digest_208 : decode cX6_digest 208 = .ok (.lreturn, 1) := by decide +kernel
theorem dJ6_bitCount_0f7a4_0 : decode cJ6_bitCount_0f7a4 0 = .ok (.iload_n 0, 1) := by decide +kernel
theorem dJ6_bitCount_0f7a4_1 : decode cJ6_bitCount_0f7a4 1 = .ok (.iload_n 0, 1) := by decide +kernel
theorem dJ6_bitCount_0f7a4_2 : decode cJ6_bitCount_0f7a4 2 = .ok (.iconst 1, 1) := by decide +kernel
theorem dJ6_bitCount_0f7a4_3 : decode cJ6_bitCount_0f7a4 3 = .ok (.iushr, 1) := by decide +kernel
theorem dJ6_bitCount_0f7a4_4 : decode cJ6_bitCount_0f7a4 4 = .ok (.ldc_w 265, 3) := by decide +kernel
theorem dJ6_bitCount_0f7a4_7 : decode cJ6_bitCount_0f7a4 7 = .ok (.iand, 1) := by decide +kernel
theorem dJ6_bitCount_0f7a4_8 : decode cJ6_bitCount_0f7a4 8 = .ok (.isub, 1) := by decide +kernel
theorem dJ6_bitCount_0f7a4_9 : decode cJ6_bitCount_0f7a4 9 = .ok (.istore_n 0, 1) := by decide +kernel
theorem dJ6_bitCount_0f7a4_10 : decode cJ6_bitCount_0f7a4 10 = .ok (.iload_n 0, 1) := by decide +kernel
theorem dJ6_bitCount_0f7a4_11 : decode cJ6_bitCount_0f7a4 11 = .ok (.ldc_w 266, 3) := by decide +kernel
theorem dJ6_bitCount_0f7a4_14 : decode cJ6_bitCount_0f7a4 14 = .ok (.iand, 1) := by decide +kernel
theorem dJ6_bitCount_0f7a4_15 : decode cJ6_bitCount_0f7a4 15 = .ok (.iload_n 0, 1) := by decide +kernel
theorem dJ6_bitCount_0f7a4_16 : decode cJ6_bitCount_0f7a4 16 = .ok (.iconst 2, 1) := by decide +kernel
theorem dJ6_bitCount_0f7a4_17 : decode cJ6_bitCount_0f7a4 17 = .ok (.iushr, 1) := by decide +kernel
theorem dJ6_bitCount_0f7a4_18 : decode cJ6_bitCount_0f7a4 18 = .ok (.ldc_w 266, 3) := by decide +kernel
theorem dJ6_bitCount_0f7a4_21 : decode cJ6_bitCount_0f7a4 21 = .ok (.iand, 1) := by decide +kernel
theorem dJ6_bitCount_0f7a4_22 : decode cJ6_bitCount_0f7a4 22 = .ok (.iadd, 1) := by decide +kernel
theorem dJ6_bitCount_0f7a4_23 : decode cJ6_bitCount_0f7a4 23 = .ok (.istore_n 0, 1) := by decide +kernel
theorem dJ6_bitCount_0f7a4_24 : decode cJ6_bitCount_0f7a4 24 = .ok (.iload_n 0, 1) := by decide +kernel
theorem dJ6_bitCount_0f7a4_25 : decode cJ6_bitCount_0f7a4 25 = .ok (.iload_n 0, 1) := by decide +kernel
theorem dJ6_bitCount_0f7a4_26 : decode cJ6_bitCount_0f7a4 26 = .ok (.iconst 4, 1) := by decide +kernel
theorem dJ6_bitCount_0f7a4_27 : decode cJ6_bitCount_0f7a4 27 = .ok (.iushr, 1) := by decide +kernel
theorem dJ6_bitCount_0f7a4_28 : decode cJ6_bitCount_0f7a4 28 = .ok (.iadd, 1) := by decide +kernel
theorem dJ6_bitCount_0f7a4_29 : decode cJ6_bitCount_0f7a4 29 = .ok (.ldc_w 267, 3) := by decide +kernel
theorem dJ6_bitCount_0f7a4_32 : decode cJ6_bitCount_0f7a4 32 = .ok (.iand, 1) := by decide +kernel
theorem dJ6_bitCount_0f7a4_33 : decode cJ6_bitCount_0f7a4 33 = .ok (.istore_n 0, 1) := by decide +kernel
theorem dJ6_bitCount_0f7a4_34 : decode cJ6_bitCount_0f7a4 34 = .ok (.iload_n 0, 1) := by decide +kernel
theorem dJ6_bitCount_0f7a4_35 : decode cJ6_bitCount_0f7a4 35 = .ok (.iload_n 0, 1) := by decide +kernel
theorem dJ6_bitCount_0f7a4_36 : decode cJ6_bitCount_0f7a4 36 = .ok (.bipush 8, 2) := by decide +kernel
theorem dJ6_bitCount_0f7a4_38 : decode cJ6_bitCount_0f7a4 38 = .ok (.iushr, 1) := by decide +kernel
theorem dJ6_bitCount_0f7a4_39 : decode cJ6_bitCount_0f7a4 39 = .ok (.iadd, 1) := by decide +kernel
theorem dJ6_bitCount_0f7a4_40 : decode cJ6_bitCount_0f7a4 40 = .ok (.istore_n 0, 1) := by decide +kernel
theorem dJ6_bitCount_0f7a4_41 : decode cJ6_bitCount_0f7a4 41 = .ok (.iload_n 0, 1) := by decide +kernel
theorem dJ6_bitCount_0f7a4_42 : decode cJ6_bitCount_0f7a4 42 = .ok (.iload_n 0, 1) := by decide +kernel
theorem dJ6_bitCount_0f7a4_43 : decode cJ6_bitCount_0f7a4 43 = .ok (.bipush 16, 2) := by decide +kernel
theorem dJ6_bitCount_0f7a4_45 : decode cJ6_bitCount_0f7a4 45 = .ok (.iushr, 1) := by decide +kernel
theorem dJ6_bitCount_0f7a4_46 : decode cJ6_bitCount_0f7a4 46 = .ok (.iadd, 1) := by decide +kernel
theorem dJ6_bitCount_0f7a4_47 : decode cJ6_bitCount_0f7a4 47 = .ok (.istore_n 0, 1) := by decide +kernel
theorem dJ6_bitCount_0f7a4_48 : decode cJ6_bitCount_0f7a4 48 = .ok (.iload_n 0, 1) := by decide +kernel
theorem dJ6_bitCount_0f7a4_49 : decode cJ6_bitCount_0f7a4 49 = .ok (.bipush 63, 2) := by decide +kernel
theorem dJ6_bitCount_0f7a4_51 : decode cJ6_bitCount_0f7a4 51 = .ok (.iand, 1) := by decide +kernel
theorem dJ6_bitCount_0f7a4_52 : decode cJ6_bitCount_0f7a4 52 = .ok (.ireturn, 1) := by decide +kernel
theorem dJ9_abs_0f7a4_0 : decode cJ9_abs_0f7a4 0 = .ok (.iload_n 0, 1) := by decide +kernel
theorem dJ9_abs_0f7a4_1 : decode cJ9_abs_0f7a4 1 = .ok (.ifCond .ge 8, 3) := by decide +kernel
theorem dJ9_abs_0f7a4_4 : decode cJ9_abs_0f7a4 4 = .ok (.iload_n 0, 1) := by decide +kernel
theorem dJ9_abs_0f7a4_5 : decode cJ9_abs_0f7a4 5 = .ok (.ineg, 1) := by decide +kernel
theorem dJ9_abs_0f7a4_6 : decode cJ9_abs_0f7a4 6 = .ok (.goto 4, 3) := by decide +kernel
theorem dJ9_abs_0f7a4_9 : decode cJ9_abs_0f7a4 9 = .ok (.iload_n 0, 1) := by decide +kernel
theorem dJ9_abs_0f7a4_10 : decode cJ9_abs_0f7a4 10 = .ok (.ireturn, 1) := by decide +kernel
theorem dJ9_max_7cf53_0 : decode cJ9_max_7cf53 0 = .ok (.iload_n 0, 1) := by decide +kernel
theorem dJ9_max_7cf53_1 : decode cJ9_max_7cf53 1 = .ok (.iload_n 1, 1) := by decide +kernel
theorem dJ9_max_7cf53_2 : decode cJ9_max_7cf53 2 = .ok (.if_icmp .lt 7, 3) := by decide +kernel
theorem dJ9_max_7cf53_5 : decode cJ9_max_7cf53 5 = .ok (.iload_n 0, 1) := by decide +kernel
theorem dJ9_max_7cf53_6 : decode cJ9_max_7cf53 6 = .ok (.goto 4, 3) := by decide +kernel
theorem dJ9_max_7cf53_9 : decode cJ9_max_7cf53 9 = .ok (.iload_n 1, 1) := by decide +kernel
theorem dJ9_max_7cf53_10 : decode cJ9_max_7cf53 10 = .ok (.ireturn, 1) := by decide +kernel
theorem dJ9_min_7cf53_0 : decode cJ9_min_7cf53 0 = .ok (.iload_n 0, 1) := by decide +kernel
theorem dJ9_min_7cf53_1 : decode cJ9_min_7cf53 1 = .ok (.iload_n 1, 1) := by decide +kernel
theorem dJ9_min_7cf53_2 : decode cJ9_min_7cf53 2 = .ok (.if_icmp .gt 7, 3) := by decide +kernel
theorem dJ9_min_7cf53_5 : decode cJ9_min_7cf53 5 = .ok (.iload_n 0, 1) := by decide +kernel
theorem dJ9_min_7cf53_6 : decode cJ9_min_7cf53 6 = .ok (.goto 4, 3) := by decide +kernel
theorem dJ9_min_7cf53_9 : decode cJ9_min_7cf53 9 = .ok (.iload_n 1, 1) := by decide +kernel
theorem dJ9_min_7cf53_10 : decode cJ9_min_7cf53 10 = .ok (.ireturn, 1) := by decide +kernel
theorem dL_addCarrier_0 : decode cL_addCarrier 0 = .ok (.aload_n 3, 1) := by decide +kernel
theorem dL_addCarrier_1 : decode cL_addCarrier 1 = .ok (.iconst 0, 1) := by decide +kernel
theorem dL_addCarrier_2 : decode cL_addCarrier 2 = .ok (.aload_n 0, 1) := by decide +kernel
theorem dL_addCarrier_3 : decode cL_addCarrier 3 = .ok (.iload_n 1, 1) := by decide +kernel
theorem dL_addCarrier_4 : decode cL_addCarrier 4 = .ok (.iload_n 2, 1) := by decide +kernel
theorem dL_addCarrier_5 : decode cL_addCarrier 5 = .ok (.invokevirtual 7, 3) := by decide +kernel
theorem dL_addCarrier_8 : decode cL_addCarrier 8 = .ok (.i2l, 1) := by decide +kernel
theorem dL_addCarrier_9 : decode cL_addCarrier 9 = .ok (.lastore, 1) := by decide +kernel
theorem dL_addCarrier_10 : decode cL_addCarrier 10 = .ok (.goto 11, 3) := by decide +kernel
theorem dL_addCarrier_13 : decode cL_addCarrier 13 = .ok (.astore 4, 2) := by decide +kernel
theorem dL_addCarrier_15 : decode cL_addCarrier 15 = .ok (.iconst 1, 1) := by decide +kernel
theorem dL_addCarrier_16 : decode cL_addCarrier 16 = .ok (.ireturn, 1) := by decide +kernel
theorem dL_addCarrier_17 : decode cL_addCarrier 17 = .ok (.astore 4, 2) := by decide +kernel
theorem dL_addCarrier_19 : decode cL_addCarrier 19 = .ok (.iconst 2, 1) := by decide +kernel
theorem dL_addCarrier_20 : decode cL_addCarrier 20 = .ok (.ireturn, 1) := by decide +kernel
theorem dL_addCarrier_21 : decode cL_addCarrier 21 = .ok (.iconst 0, 1) := by decide +kernel
theorem dL_addCarrier_22 : decode cL_addCarrier 22 = .ok (.ireturn, 1) := by decide +kernel
theorem dL_moveCarrier_0 : decode cL_moveCarrier 0 = .ok (.aload 4, 2) := by decide +kernel
theorem dL_moveCarrier_2 : decode cL_moveCarrier 2 = .ok (.iconst 0, 1) := by decide +kernel
theorem dL_moveCarrier_3 : decode cL_moveCarrier 3 = .ok (.aload_n 0, 1) := by decide +kernel
theorem dL_moveCarrier_4 : decode cL_moveCarrier 4 = .ok (.iload_n 1, 1) := by decide +kernel
theorem dL_moveCarrier_5 : decode cL_moveCarrier 5 = .ok (.iload_n 2, 1) := by decide +kernel
theorem dL_moveCarrier_6 : decode cL_moveCarrier 6 = .ok (.iload_n 3, 1) := by decide +kernel
theorem dL_moveCarrier_7 : decode cL_moveCarrier 7 = .ok (.invokevirtual 17, 3) := by decide +kernel
theorem dL_moveCarrier_10 : decode cL_moveCarrier 10 = .ok (.i2l, 1) := by decide +kernel
theorem dL_moveCarrier_11 : decode cL_moveCarrier 11 = .ok (.lastore, 1) := by decide +kernel
theorem dL_moveCarrier_12 : decode cL_moveCarrier 12 = .ok (.goto 11, 3) := by decide +kernel
theorem dL_moveCarrier_15 : decode cL_moveCarrier 15 = .ok (.astore 5, 2) := by decide +kernel
theorem dL_moveCarrier_17 : decode cL_moveCarrier 17 = .ok (.iconst 1, 1) := by decide +kernel
theorem dL_moveCarrier_18 : decode cL_moveCarrier 18 = .ok (.ireturn, 1) := by decide +kernel
theorem dL_moveCarrier_19 : decode cL_moveCarrier 19 = .ok (.astore 5, 2) := by decide +kernel
theorem dL_moveCarrier_21 : decode cL_moveCarrier 21 = .ok (.iconst 2, 1) := by decide +kernel
theorem dL_moveCarrier_22 : decode cL_moveCarrier 22 = .ok (.ireturn, 1) := by decide +kernel
theorem dL_moveCarrier_23 : decode cL_moveCarrier 23 = .ok (.iconst 0, 1) := by decide +kernel
theorem dL_moveCarrier_24 : decode cL_moveCarrier 24 = .ok (.ireturn, 1) := by decide +kernel
theorem dL_removeCarrier_0 : decode cL_removeCarrier 0 = .ok (.aload_n 2, 1) := by decide +kernel
theorem dL_removeCarrier_1 : decode cL_removeCarrier 1 = .ok (.iconst 0, 1) := by decide +kernel
theorem dL_removeCarrier_2 : decode cL_removeCarrier 2 = .ok (.aload_n 0, 1) := by decide +kernel
theorem dL_removeCarrier_3 : decode cL_removeCarrier 3 = .ok (.iload_n 1, 1) := by decide +kernel
theorem dL_removeCarrier_4 : decode cL_removeCarrier 4 = .ok (.invokevirtual 23, 3) := by decide +kernel
theorem dL_removeCarrier_7 : decode cL_removeCarrier 7 = .ok (.i2l, 1) := by decide +kernel
theorem dL_removeCarrier_8 : decode cL_removeCarrier 8 = .ok (.lastore, 1) := by decide +kernel
theorem dL_removeCarrier_9 : decode cL_removeCarrier 9 = .ok (.goto 6, 3) := by decide +kernel
theorem dL_removeCarrier_12 : decode cL_removeCarrier 12 = .ok (.astore_n 3, 1) := by decide +kernel
theorem dL_removeCarrier_13 : decode cL_removeCarrier 13 = .ok (.iconst 1, 1) := by decide +kernel
theorem dL_removeCarrier_14 : decode cL_removeCarrier 14 = .ok (.ireturn, 1) := by decide +kernel
theorem dL_removeCarrier_15 : decode cL_removeCarrier 15 = .ok (.iconst 0, 1) := by decide +kernel
theorem dL_removeCarrier_16 : decode cL_removeCarrier 16 = .ok (.ireturn, 1) := by decide +kernel
theorem dL_shift_0 : decode cL_shift 0 = .ok (.aload_n 2, 1) := by decide +kernel
theorem dL_shift_1 : decode cL_shift 1 = .ok (.iconst 0, 1) := by decide +kernel
theorem dL_shift_2 : decode cL_shift 2 = .ok (.aload_n 0, 1) := by decide +kernel
theorem dL_shift_3 : decode cL_shift 3 = .ok (.iload_n 1, 1) := by decide +kernel
theorem dL_shift_4 : decode cL_shift 4 = .ok (.invokevirtual 27, 3) := by decide +kernel
theorem dL_shift_7 : decode cL_shift 7 = .ok (.i2l, 1) := by decide +kernel
theorem dL_shift_8 : decode cL_shift 8 = .ok (.lastore, 1) := by decide +kernel
theorem dL_shift_9 : decode cL_shift 9 = .ok (.goto 9, 3) := by decide +kernel
theorem dL_shift_12 : decode cL_shift 12 = .ok (.astore_n 3, 1) := by decide +kernel
theorem dL_shift_13 : decode cL_shift 13 = .ok (.iconst 1, 1) := by decide +kernel
theorem dL_shift_14 : decode cL_shift 14 = .ok (.ireturn, 1) := by decide +kernel
theorem dL_shift_15 : decode cL_shift 15 = .ok (.astore_n 3, 1) := by decide +kernel
theorem dL_shift_16 : decode cL_shift 16 = .ok (.iconst 2, 1) := by decide +kernel
theorem dL_shift_17 : decode cL_shift 17 = .ok (.ireturn, 1) := by decide +kernel
theorem dL_shift_18 : decode cL_shift 18 = .ok (.iconst 0, 1) := by decide +kernel
theorem dL_shift_19 : decode cL_shift 19 = .ok (.ireturn, 1) := by decide +kernel
theorem dL_setProducts_0 : decode cL_setProducts 0 = .ok (.aload 4, 2) := by decide +kernel
theorem dL_setProducts_2 : decode cL_setProducts 2 = .ok (.iconst 0, 1) := by decide +kernel
theorem dL_setProducts_3 : decode cL_setProducts 3 = .ok (.aload_n 0, 1) := by decide +kernel
theorem dL_setProducts_4 : decode cL_setProducts 4 = .ok (.iload_n 1, 1) := by decide +kernel
theorem dL_setProducts_5 : decode cL_setProducts 5 = .ok (.iload_n 2, 1) := by decide +kernel
theorem dL_setProducts_6 : decode cL_setProducts 6 = .ok (.iload_n 3, 1) := by decide +kernel
theorem dL_setProducts_7 : decode cL_setProducts 7 = .ok (.invokevirtual 30, 3) := by decide +kernel
theorem dL_setProducts_10 : decode cL_setProducts 10 = .ok (.i2l, 1) := by decide +kernel
theorem dL_setProducts_11 : decode cL_setProducts 11 = .ok (.lastore, 1) := by decide +kernel
theorem dL_setProducts_12 : decode cL_setProducts 12 = .ok (.goto 7, 3) := by decide +kernel
theorem dL_setProducts_15 : decode cL_setProducts 15 = .ok (.astore 5, 2) := by decide +kernel
theorem dL_setProducts_17 : decode cL_setProducts 17 = .ok (.iconst 1, 1) := by decide +kernel
theorem dL_setProducts_18 : decode cL_setProducts 18 = .ok (.ireturn, 1) := by decide +kernel
theorem dL_setProducts_19 : decode cL_setProducts 19 = .ok (.iconst 0, 1) := by decide +kernel
theorem dL_setProducts_20 : decode cL_setProducts 20 = .ok (.ireturn, 1) := by decide +kernel
theorem dL_setSpacing_0 : decode cL_setSpacing 0 = .ok (.aload_n 3, 1) := by decide +kernel
theorem dL_setSpacing_1 : decode cL_setSpacing 1 = .ok (.iconst 0, 1) := by decide +kernel
theorem dL_setSpacing_2 : decode cL_setSpacing 2 = .ok (.aload_n 0, 1) := by decide +kernel
theorem dL_setSpacing_3 : decode cL_setSpacing 3 = .ok (.iload_n 1, 1) := by decide +kernel
theorem dL_setSpacing_4 : decode cL_setSpacing 4 = .ok (.iload_n 2, 1) := by decide +kernel
theorem dL_setSpacing_5 : decode cL_setSpacing 5 = .ok (.invokevirtual 33, 3) := by decide +kernel
theorem dL_setSpacing_8 : decode cL_setSpacing 8 = .ok (.i2l, 1) := by decide +kernel
theorem dL_setSpacing_9 : decode cL_setSpacing 9 = .ok (.lastore, 1) := by decide +kernel
theorem dL_setSpacing_10 : decode cL_setSpacing 10 = .ok (.goto 7, 3) := by decide +kernel
theorem dL_setSpacing_13 : decode cL_setSpacing 13 = .ok (.astore 4, 2) := by decide +kernel
theorem dL_setSpacing_15 : decode cL_setSpacing 15 = .ok (.iconst 1, 1) := by decide +kernel
theorem dL_setSpacing_16 : decode cL_setSpacing 16 = .ok (.ireturn, 1) := by decide +kernel
theorem dL_setSpacing_17 : decode cL_setSpacing 17 = .ok (.iconst 0, 1) := by decide +kernel
theorem dL_setSpacing_18 : decode cL_setSpacing 18 = .ok (.ireturn, 1) := by decide +kernel
theorem dL_size_0 : decode cL_size 0 = .ok (.aload_n 2, 1) := by decide +kernel
theorem dL_size_1 : decode cL_size 1 = .ok (.iconst 0, 1) := by decide +kernel
theorem dL_size_2 : decode cL_size 2 = .ok (.aload_n 0, 1) := by decide +kernel
theorem dL_size_3 : decode cL_size 3 = .ok (.iload_n 1, 1) := by decide +kernel
theorem dL_size_4 : decode cL_size 4 = .ok (.invokevirtual 36, 3) := by decide +kernel
theorem dL_size_7 : decode cL_size 7 = .ok (.i2l, 1) := by decide +kernel
theorem dL_size_8 : decode cL_size 8 = .ok (.lastore, 1) := by decide +kernel
theorem dL_size_9 : decode cL_size 9 = .ok (.goto 6, 3) := by decide +kernel
theorem dL_size_12 : decode cL_size 12 = .ok (.astore_n 3, 1) := by decide +kernel
theorem dL_size_13 : decode cL_size 13 = .ok (.iconst 1, 1) := by decide +kernel
theorem dL_size_14 : decode cL_size 14 = .ok (.ireturn, 1) := by decide +kernel
theorem dL_size_15 : decode cL_size 15 = .ok (.iconst 0, 1) := by decide +kernel
theorem dL_size_16 : decode cL_size 16 = .ok (.ireturn, 1) := by decide +kernel
theorem dL_carrier_0 : decode cL_carrier 0 = .ok (.aload_n 3, 1) := by decide +kernel
theorem dL_carrier_1 : decode cL_carrier 1 = .ok (.iconst 0, 1) := by decide +kernel
theorem dL_carrier_2 : decode cL_carrier 2 = .ok (.aload_n 0, 1) := by decide +kernel
theorem dL_carrier_3 : decode cL_carrier 3 = .ok (.iload_n 1, 1) := by decide +kernel
theorem dL_carrier_4 : decode cL_carrier 4 = .ok (.iload_n 2, 1) := by decide +kernel
theorem dL_carrier_5 : decode cL_carrier 5 = .ok (.invokevirtual 39, 3) := by decide +kernel
theorem dL_carrier_8 : decode cL_carrier 8 = .ok (.i2l, 1) := by decide +kernel
theorem dL_carrier_9 : decode cL_carrier 9 = .ok (.lastore, 1) := by decide +kernel
theorem dL_carrier_10 : decode cL_carrier 10 = .ok (.goto 7, 3) := by decide +kernel
theorem dL_carrier_13 : decode cL_carrier 13 = .ok (.astore 4, 2) := by decide +kernel
theorem dL_carrier_15 : decode cL_carrier 15 = .ok (.iconst 1, 1) := by decide +kernel
theorem dL_carrier_16 : decode cL_carrier 16 = .ok (.ireturn, 1) := by decide +kernel
theorem dL_carrier_17 : decode cL_carrier 17 = .ok (.iconst 0, 1) := by decide +kernel
theorem dL_carrier_18 : decode cL_carrier 18 = .ok (.ireturn, 1) := by decide +kernel
theorem dL_product_0 : decode cL_product 0 = .ok (.aload_n 3, 1) := by decide +kernel
theorem dL_product_1 : decode cL_product 1 = .ok (.iconst 0, 1) := by decide +kernel
theorem dL_product_2 : decode cL_product 2 = .ok (.aload_n 0, 1) := by decide +kernel
theorem dL_product_3 : decode cL_product 3 = .ok (.iload_n 1, 1) := by decide +kernel
theorem dL_product_4 : decode cL_product 4 = .ok (.iload_n 2, 1) := by decide +kernel
theorem dL_product_5 : decode cL_product 5 = .ok (.invokevirtual 43, 3) := by decide +kernel
theorem dL_product_8 : decode cL_product 8 = .ok (.i2l, 1) := by decide +kernel
theorem dL_product_9 : decode cL_product 9 = .ok (.lastore, 1) := by decide +kernel
theorem dL_product_10 : decode cL_product 10 = .ok (.goto 11, 3) := by decide +kernel
theorem dL_product_13 : decode cL_product 13 = .ok (.astore 4, 2) := by decide +kernel
theorem dL_product_15 : decode cL_product 15 = .ok (.iconst 1, 1) := by decide +kernel
theorem dL_product_16 : decode cL_product 16 = .ok (.ireturn, 1) := by decide +kernel
theorem dL_product_17 : decode cL_product 17 = .ok (.astore 4, 2) := by decide +kernel
theorem dL_product_19 : decode cL_product 19 = .ok (.iconst 2, 1) := by decide +kernel
theorem dL_product_20 : decode cL_product 20 = .ok (.ireturn, 1) := by decide +kernel
theorem dL_product_21 : decode cL_product 21 = .ok (.iconst 0, 1) := by decide +kernel
theorem dL_product_22 : decode cL_product 22 = .ok (.ireturn, 1) := by decide +kernel
theorem dL_fallout_0 : decode cL_fallout 0 = .ok (.aload_n 2, 1) := by decide +kernel
theorem dL_fallout_1 : decode cL_fallout 1 = .ok (.iconst 0, 1) := by decide +kernel
theorem dL_fallout_2 : decode cL_fallout 2 = .ok (.aload_n 0, 1) := by decide +kernel
theorem dL_fallout_3 : decode cL_fallout 3 = .ok (.iload_n 1, 1) := by decide +kernel
theorem dL_fallout_4 : decode cL_fallout 4 = .ok (.invokevirtual 46, 3) := by decide +kernel
theorem dL_fallout_7 : decode cL_fallout 7 = .ok (.lastore, 1) := by decide +kernel
theorem dL_fallout_8 : decode cL_fallout 8 = .ok (.goto 6, 3) := by decide +kernel
theorem dL_fallout_11 : decode cL_fallout 11 = .ok (.astore_n 3, 1) := by decide +kernel
theorem dL_fallout_12 : decode cL_fallout 12 = .ok (.iconst 1, 1) := by decide +kernel
theorem dL_fallout_13 : decode cL_fallout 13 = .ok (.ireturn, 1) := by decide +kernel
theorem dL_fallout_14 : decode cL_fallout 14 = .ok (.iconst 0, 1) := by decide +kernel
theorem dL_fallout_15 : decode cL_fallout 15 = .ok (.ireturn, 1) := by decide +kernel
theorem dL_hitsOn_0 : decode cL_hitsOn 0 = .ok (.aload_n 2, 1) := by decide +kernel
theorem dL_hitsOn_1 : decode cL_hitsOn 1 = .ok (.iconst 0, 1) := by decide +kernel
theorem dL_hitsOn_2 : decode cL_hitsOn 2 = .ok (.aload_n 0, 1) := by decide +kernel
theorem dL_hitsOn_3 : decode cL_hitsOn 3 = .ok (.iload_n 1, 1) := by decide +kernel
theorem dL_hitsOn_4 : decode cL_hitsOn 4 = .ok (.invokevirtual 50, 3) := by decide +kernel
theorem dL_hitsOn_7 : decode cL_hitsOn 7 = .ok (.i2l, 1) := by decide +kernel
theorem dL_hitsOn_8 : decode cL_hitsOn 8 = .ok (.lastore, 1) := by decide +kernel
theorem dL_hitsOn_9 : decode cL_hitsOn 9 = .ok (.goto 6, 3) := by decide +kernel
theorem dL_hitsOn_12 : decode cL_hitsOn 12 = .ok (.astore_n 3, 1) := by decide +kernel
theorem dL_hitsOn_13 : decode cL_hitsOn 13 = .ok (.iconst 1, 1) := by decide +kernel
theorem dL_hitsOn_14 : decode cL_hitsOn 14 = .ok (.ireturn, 1) := by decide +kernel
theorem dL_hitsOn_15 : decode cL_hitsOn 15 = .ok (.iconst 0, 1) := by decide +kernel
theorem dL_hitsOn_16 : decode cL_hitsOn 16 = .ok (.ireturn, 1) := by decide +kernel
theorem dL_leastSpan_0 : decode cL_leastSpan 0 = .ok (.aload_n 2, 1) := by decide +kernel
theorem dL_leastSpan_1 : decode cL_leastSpan 1 = .ok (.iconst 0, 1) := by decide +kernel
theorem dL_leastSpan_2 : decode cL_leastSpan 2 = .ok (.aload_n 0, 1) := by decide +kernel
theorem dL_leastSpan_3 : decode cL_leastSpan 3 = .ok (.iload_n 1, 1) := by decide +kernel
theorem dL_leastSpan_4 : decode cL_leastSpan 4 = .ok (.invokevirtual 53, 3) := by decide +kernel
theorem dL_leastSpan_7 : decode cL_leastSpan 7 = .ok (.i2l, 1) := by decide +kernel
theorem dL_leastSpan_8 : decode cL_leastSpan 8 = .ok (.lastore, 1) := by decide +kernel
theorem dL_leastSpan_9 : decode cL_leastSpan 9 = .ok (.goto 6, 3) := by decide +kernel
theorem dL_leastSpan_12 : decode cL_leastSpan 12 = .ok (.astore_n 3, 1) := by decide +kernel
theorem dL_leastSpan_13 : decode cL_leastSpan 13 = .ok (.iconst 1, 1) := by decide +kernel
theorem dL_leastSpan_14 : decode cL_leastSpan 14 = .ok (.ireturn, 1) := by decide +kernel
theorem dL_leastSpan_15 : decode cL_leastSpan 15 = .ok (.iconst 0, 1) := by decide +kernel
theorem dL_leastSpan_16 : decode cL_leastSpan 16 = .ok (.ireturn, 1) := by decide +kernel
theorem dL_bestRuler_0 : decode cL_bestRuler 0 = .ok (.aload_n 2, 1) := by decide +kernel
theorem dL_bestRuler_1 : decode cL_bestRuler 1 = .ok (.iconst 0, 1) := by decide +kernel
theorem dL_bestRuler_2 : decode cL_bestRuler 2 = .ok (.aload_n 0, 1) := by decide +kernel
theorem dL_bestRuler_3 : decode cL_bestRuler 3 = .ok (.iload_n 1, 1) := by decide +kernel
theorem dL_bestRuler_4 : decode cL_bestRuler 4 = .ok (.invokevirtual 56, 3) := by decide +kernel
theorem dL_bestRuler_7 : decode cL_bestRuler 7 = .ok (.lastore, 1) := by decide +kernel
theorem dL_bestRuler_8 : decode cL_bestRuler 8 = .ok (.goto 6, 3) := by decide +kernel
theorem dL_bestRuler_11 : decode cL_bestRuler 11 = .ok (.astore_n 3, 1) := by decide +kernel
theorem dL_bestRuler_12 : decode cL_bestRuler 12 = .ok (.iconst 1, 1) := by decide +kernel
theorem dL_bestRuler_13 : decode cL_bestRuler 13 = .ok (.ireturn, 1) := by decide +kernel
theorem dL_bestRuler_14 : decode cL_bestRuler 14 = .ok (.iconst 0, 1) := by decide +kernel
theorem dL_bestRuler_15 : decode cL_bestRuler 15 = .ok (.ireturn, 1) := by decide +kernel
theorem dL_rulers_0 : decode cL_rulers 0 = .ok (.aload_n 3, 1) := by decide +kernel
theorem dL_rulers_1 : decode cL_rulers 1 = .ok (.iconst 0, 1) := by decide +kernel
theorem dL_rulers_2 : decode cL_rulers 2 = .ok (.aload_n 0, 1) := by decide +kernel
theorem dL_rulers_3 : decode cL_rulers 3 = .ok (.iload_n 1, 1) := by decide +kernel
theorem dL_rulers_4 : decode cL_rulers 4 = .ok (.iload_n 2, 1) := by decide +kernel
theorem dL_rulers_5 : decode cL_rulers 5 = .ok (.invokevirtual 59, 3) := by decide +kernel
theorem dL_rulers_8 : decode cL_rulers 8 = .ok (.i2l, 1) := by decide +kernel
theorem dL_rulers_9 : decode cL_rulers 9 = .ok (.lastore, 1) := by decide +kernel
theorem dL_rulers_10 : decode cL_rulers 10 = .ok (.goto 7, 3) := by decide +kernel
theorem dL_rulers_13 : decode cL_rulers 13 = .ok (.astore 4, 2) := by decide +kernel
theorem dL_rulers_15 : decode cL_rulers 15 = .ok (.iconst 1, 1) := by decide +kernel
theorem dL_rulers_16 : decode cL_rulers 16 = .ok (.ireturn, 1) := by decide +kernel
theorem dL_rulers_17 : decode cL_rulers 17 = .ok (.iconst 0, 1) := by decide +kernel
theorem dL_rulers_18 : decode cL_rulers 18 = .ok (.ireturn, 1) := by decide +kernel
theorem dL_openings_0 : decode cL_openings 0 = .ok (.aload_n 2, 1) := by decide +kernel
theorem dL_openings_1 : decode cL_openings 1 = .ok (.iconst 0, 1) := by decide +kernel
theorem dL_openings_2 : decode cL_openings 2 = .ok (.aload_n 0, 1) := by decide +kernel
theorem dL_openings_3 : decode cL_openings 3 = .ok (.iload_n 1, 1) := by decide +kernel
theorem dL_openings_4 : decode cL_openings 4 = .ok (.invokevirtual 62, 3) := by decide +kernel
theorem dL_openings_7 : decode cL_openings 7 = .ok (.lastore, 1) := by decide +kernel
theorem dL_openings_8 : decode cL_openings 8 = .ok (.goto 6, 3) := by decide +kernel
theorem dL_openings_11 : decode cL_openings 11 = .ok (.astore_n 3, 1) := by decide +kernel
theorem dL_openings_12 : decode cL_openings 12 = .ok (.iconst 1, 1) := by decide +kernel
theorem dL_openings_13 : decode cL_openings 13 = .ok (.ireturn, 1) := by decide +kernel
theorem dL_openings_14 : decode cL_openings 14 = .ok (.iconst 0, 1) := by decide +kernel
theorem dL_openings_15 : decode cL_openings 15 = .ok (.ireturn, 1) := by decide +kernel
theorem dL_putIn_0 : decode cL_putIn 0 = .ok (.aload_n 2, 1) := by decide +kernel
theorem dL_putIn_1 : decode cL_putIn 1 = .ok (.iconst 0, 1) := by decide +kernel
theorem dL_putIn_2 : decode cL_putIn 2 = .ok (.aload_n 0, 1) := by decide +kernel
theorem dL_putIn_3 : decode cL_putIn 3 = .ok (.iload_n 1, 1) := by decide +kernel
theorem dL_putIn_4 : decode cL_putIn 4 = .ok (.invokevirtual 65, 3) := by decide +kernel
theorem dL_putIn_7 : decode cL_putIn 7 = .ok (.i2l, 1) := by decide +kernel
theorem dL_putIn_8 : decode cL_putIn 8 = .ok (.lastore, 1) := by decide +kernel
theorem dL_putIn_9 : decode cL_putIn 9 = .ok (.goto 9, 3) := by decide +kernel
theorem dL_putIn_12 : decode cL_putIn 12 = .ok (.astore_n 3, 1) := by decide +kernel
theorem dL_putIn_13 : decode cL_putIn 13 = .ok (.iconst 1, 1) := by decide +kernel
theorem dL_putIn_14 : decode cL_putIn 14 = .ok (.ireturn, 1) := by decide +kernel
theorem dL_putIn_15 : decode cL_putIn 15 = .ok (.astore_n 3, 1) := by decide +kernel
theorem dL_putIn_16 : decode cL_putIn 16 = .ok (.iconst 2, 1) := by decide +kernel
theorem dL_putIn_17 : decode cL_putIn 17 = .ok (.ireturn, 1) := by decide +kernel
theorem dL_putIn_18 : decode cL_putIn 18 = .ok (.iconst 0, 1) := by decide +kernel
theorem dL_putIn_19 : decode cL_putIn 19 = .ok (.ireturn, 1) := by decide +kernel
theorem dL_addMixer_0 : decode cL_addMixer 0 = .ok (.aload_n 2, 1) := by decide +kernel
theorem dL_addMixer_1 : decode cL_addMixer 1 = .ok (.iconst 0, 1) := by decide +kernel
theorem dL_addMixer_2 : decode cL_addMixer 2 = .ok (.aload_n 0, 1) := by decide +kernel
theorem dL_addMixer_3 : decode cL_addMixer 3 = .ok (.iload_n 1, 1) := by decide +kernel
theorem dL_addMixer_4 : decode cL_addMixer 4 = .ok (.invokevirtual 68, 3) := by decide +kernel
theorem dL_addMixer_7 : decode cL_addMixer 7 = .ok (.i2l, 1) := by decide +kernel
theorem dL_addMixer_8 : decode cL_addMixer 8 = .ok (.lastore, 1) := by decide +kernel
theorem dL_addMixer_9 : decode cL_addMixer 9 = .ok (.goto 9, 3) := by decide +kernel
theorem dL_addMixer_12 : decode cL_addMixer 12 = .ok (.astore_n 3, 1) := by decide +kernel
theorem dL_addMixer_13 : decode cL_addMixer 13 = .ok (.iconst 1, 1) := by decide +kernel
theorem dL_addMixer_14 : decode cL_addMixer 14 = .ok (.ireturn, 1) := by decide +kernel
theorem dL_addMixer_15 : decode cL_addMixer 15 = .ok (.astore_n 3, 1) := by decide +kernel
theorem dL_addMixer_16 : decode cL_addMixer 16 = .ok (.iconst 2, 1) := by decide +kernel
theorem dL_addMixer_17 : decode cL_addMixer 17 = .ok (.ireturn, 1) := by decide +kernel
theorem dL_addMixer_18 : decode cL_addMixer 18 = .ok (.iconst 0, 1) := by decide +kernel
theorem dL_addMixer_19 : decode cL_addMixer 19 = .ok (.ireturn, 1) := by decide +kernel
theorem dL_setMember_0 : decode cL_setMember 0 = .ok (.aload 4, 2) := by decide +kernel
theorem dL_setMember_2 : decode cL_setMember 2 = .ok (.iconst 0, 1) := by decide +kernel
theorem dL_setMember_3 : decode cL_setMember 3 = .ok (.aload_n 0, 1) := by decide +kernel
theorem dL_setMember_4 : decode cL_setMember 4 = .ok (.iload_n 1, 1) := by decide +kernel
theorem dL_setMember_5 : decode cL_setMember 5 = .ok (.iload_n 2, 1) := by decide +kernel
theorem dL_setMember_6 : decode cL_setMember 6 = .ok (.iload_n 3, 1) := by decide +kernel
theorem dL_setMember_7 : decode cL_setMember 7 = .ok (.invokevirtual 71, 3) := by decide +kernel
theorem dL_setMember_10 : decode cL_setMember 10 = .ok (.i2l, 1) := by decide +kernel
theorem dL_setMember_11 : decode cL_setMember 11 = .ok (.lastore, 1) := by decide +kernel
theorem dL_setMember_12 : decode cL_setMember 12 = .ok (.goto 7, 3) := by decide +kernel
theorem dL_setMember_15 : decode cL_setMember 15 = .ok (.astore 5, 2) := by decide +kernel
theorem dL_setMember_17 : decode cL_setMember 17 = .ok (.iconst 1, 1) := by decide +kernel
theorem dL_setMember_18 : decode cL_setMember 18 = .ok (.ireturn, 1) := by decide +kernel
theorem dL_setMember_19 : decode cL_setMember 19 = .ok (.iconst 0, 1) := by decide +kernel
theorem dL_setMember_20 : decode cL_setMember 20 = .ok (.ireturn, 1) := by decide +kernel
theorem dL_mixer_0 : decode cL_mixer 0 = .ok (.aload_n 2, 1) := by decide +kernel
theorem dL_mixer_1 : decode cL_mixer 1 = .ok (.iconst 0, 1) := by decide +kernel
theorem dL_mixer_2 : decode cL_mixer 2 = .ok (.aload_n 0, 1) := by decide +kernel
theorem dL_mixer_3 : decode cL_mixer 3 = .ok (.iload_n 1, 1) := by decide +kernel
theorem dL_mixer_4 : decode cL_mixer 4 = .ok (.invokevirtual 75, 3) := by decide +kernel
theorem dL_mixer_7 : decode cL_mixer 7 = .ok (.i2l, 1) := by decide +kernel
theorem dL_mixer_8 : decode cL_mixer 8 = .ok (.lastore, 1) := by decide +kernel
theorem dL_mixer_9 : decode cL_mixer 9 = .ok (.goto 6, 3) := by decide +kernel
theorem dL_mixer_12 : decode cL_mixer 12 = .ok (.astore_n 3, 1) := by decide +kernel
theorem dL_mixer_13 : decode cL_mixer 13 = .ok (.iconst 1, 1) := by decide +kernel
theorem dL_mixer_14 : decode cL_mixer 14 = .ok (.ireturn, 1) := by decide +kernel
theorem dL_mixer_15 : decode cL_mixer 15 = .ok (.iconst 0, 1) := by decide +kernel
theorem dL_mixer_16 : decode cL_mixer 16 = .ok (.ireturn, 1) := by decide +kernel
theorem dL_addTest_0 : decode cL_addTest 0 = .ok (.aload 4, 2) := by decide +kernel
theorem dL_addTest_2 : decode cL_addTest 2 = .ok (.iconst 0, 1) := by decide +kernel
theorem dL_addTest_3 : decode cL_addTest 3 = .ok (.aload_n 0, 1) := by decide +kernel
theorem dL_addTest_4 : decode cL_addTest 4 = .ok (.iload_n 1, 1) := by decide +kernel
theorem dL_addTest_5 : decode cL_addTest 5 = .ok (.iload_n 2, 1) := by decide +kernel
theorem dL_addTest_6 : decode cL_addTest 6 = .ok (.iload_n 3, 1) := by decide +kernel
theorem dL_addTest_7 : decode cL_addTest 7 = .ok (.invokevirtual 78, 3) := by decide +kernel
theorem dL_addTest_10 : decode cL_addTest 10 = .ok (.i2l, 1) := by decide +kernel
theorem dL_addTest_11 : decode cL_addTest 11 = .ok (.lastore, 1) := by decide +kernel
theorem dL_addTest_12 : decode cL_addTest 12 = .ok (.goto 11, 3) := by decide +kernel
theorem dL_addTest_15 : decode cL_addTest 15 = .ok (.astore 5, 2) := by decide +kernel
theorem dL_addTest_17 : decode cL_addTest 17 = .ok (.iconst 1, 1) := by decide +kernel
theorem dL_addTest_18 : decode cL_addTest 18 = .ok (.ireturn, 1) := by decide +kernel
theorem dL_addTest_19 : decode cL_addTest 19 = .ok (.astore 5, 2) := by decide +kernel
theorem dL_addTest_21 : decode cL_addTest 21 = .ok (.iconst 2, 1) := by decide +kernel
theorem dL_addTest_22 : decode cL_addTest 22 = .ok (.ireturn, 1) := by decide +kernel
theorem dL_addTest_23 : decode cL_addTest 23 = .ok (.iconst 0, 1) := by decide +kernel
theorem dL_addTest_24 : decode cL_addTest 24 = .ok (.ireturn, 1) := by decide +kernel
theorem dL_test_0 : decode cL_test 0 = .ok (.aload_n 3, 1) := by decide +kernel
theorem dL_test_1 : decode cL_test 1 = .ok (.iconst 0, 1) := by decide +kernel
theorem dL_test_2 : decode cL_test 2 = .ok (.aload_n 0, 1) := by decide +kernel
theorem dL_test_3 : decode cL_test 3 = .ok (.iload_n 1, 1) := by decide +kernel
theorem dL_test_4 : decode cL_test 4 = .ok (.iload_n 2, 1) := by decide +kernel
theorem dL_test_5 : decode cL_test 5 = .ok (.invokevirtual 81, 3) := by decide +kernel
theorem dL_test_8 : decode cL_test 8 = .ok (.i2l, 1) := by decide +kernel
theorem dL_test_9 : decode cL_test 9 = .ok (.lastore, 1) := by decide +kernel
theorem dL_test_10 : decode cL_test 10 = .ok (.goto 11, 3) := by decide +kernel
theorem dL_test_13 : decode cL_test 13 = .ok (.astore 4, 2) := by decide +kernel
theorem dL_test_15 : decode cL_test 15 = .ok (.iconst 1, 1) := by decide +kernel
theorem dL_test_16 : decode cL_test 16 = .ok (.ireturn, 1) := by decide +kernel
theorem dL_test_17 : decode cL_test 17 = .ok (.astore 4, 2) := by decide +kernel
theorem dL_test_19 : decode cL_test 19 = .ok (.iconst 2, 1) := by decide +kernel
theorem dL_test_20 : decode cL_test 20 = .ok (.ireturn, 1) := by decide +kernel
theorem dL_test_21 : decode cL_test 21 = .ok (.iconst 0, 1) := by decide +kernel
theorem dL_test_22 : decode cL_test 22 = .ok (.ireturn, 1) := by decide +kernel
theorem dL_heard_0 : decode cL_heard 0 = .ok (.aload_n 3, 1) := by decide +kernel
theorem dL_heard_1 : decode cL_heard 1 = .ok (.iconst 0, 1) := by decide +kernel
theorem dL_heard_2 : decode cL_heard 2 = .ok (.aload_n 0, 1) := by decide +kernel
theorem dL_heard_3 : decode cL_heard 3 = .ok (.iload_n 1, 1) := by decide +kernel
theorem dL_heard_4 : decode cL_heard 4 = .ok (.iload_n 2, 1) := by decide +kernel
theorem dL_heard_5 : decode cL_heard 5 = .ok (.invokevirtual 84, 3) := by decide +kernel
theorem dL_heard_8 : decode cL_heard 8 = .ok (.i2l, 1) := by decide +kernel
theorem dL_heard_9 : decode cL_heard 9 = .ok (.lastore, 1) := by decide +kernel
theorem dL_heard_10 : decode cL_heard 10 = .ok (.goto 7, 3) := by decide +kernel
theorem dL_heard_13 : decode cL_heard 13 = .ok (.astore 4, 2) := by decide +kernel
theorem dL_heard_15 : decode cL_heard 15 = .ok (.iconst 1, 1) := by decide +kernel
theorem dL_heard_16 : decode cL_heard 16 = .ok (.ireturn, 1) := by decide +kernel
theorem dL_heard_17 : decode cL_heard 17 = .ok (.iconst 0, 1) := by decide +kernel
theorem dL_heard_18 : decode cL_heard 18 = .ok (.ireturn, 1) := by decide +kernel
theorem dL_bestTest_0 : decode cL_bestTest 0 = .ok (.aload_n 2, 1) := by decide +kernel
theorem dL_bestTest_1 : decode cL_bestTest 1 = .ok (.iconst 0, 1) := by decide +kernel
theorem dL_bestTest_2 : decode cL_bestTest 2 = .ok (.aload_n 0, 1) := by decide +kernel
theorem dL_bestTest_3 : decode cL_bestTest 3 = .ok (.iload_n 1, 1) := by decide +kernel
theorem dL_bestTest_4 : decode cL_bestTest 4 = .ok (.invokevirtual 87, 3) := by decide +kernel
theorem dL_bestTest_7 : decode cL_bestTest 7 = .ok (.i2l, 1) := by decide +kernel
theorem dL_bestTest_8 : decode cL_bestTest 8 = .ok (.lastore, 1) := by decide +kernel
theorem dL_bestTest_9 : decode cL_bestTest 9 = .ok (.goto 6, 3) := by decide +kernel
theorem dL_bestTest_12 : decode cL_bestTest 12 = .ok (.astore_n 3, 1) := by decide +kernel
theorem dL_bestTest_13 : decode cL_bestTest 13 = .ok (.iconst 1, 1) := by decide +kernel
theorem dL_bestTest_14 : decode cL_bestTest 14 = .ok (.ireturn, 1) := by decide +kernel
theorem dL_bestTest_15 : decode cL_bestTest 15 = .ok (.iconst 0, 1) := by decide +kernel
theorem dL_bestTest_16 : decode cL_bestTest 16 = .ok (.ireturn, 1) := by decide +kernel
theorem dL_append_0 : decode cL_append 0 = .ok (.aload_n 2, 1) := by decide +kernel
theorem dL_append_1 : decode cL_append 1 = .ok (.iconst 0, 1) := by decide +kernel
theorem dL_append_2 : decode cL_append 2 = .ok (.aload_n 0, 1) := by decide +kernel
theorem dL_append_3 : decode cL_append 3 = .ok (.iload_n 1, 1) := by decide +kernel
theorem dL_append_4 : decode cL_append 4 = .ok (.invokevirtual 90, 3) := by decide +kernel
theorem dL_append_7 : decode cL_append 7 = .ok (.i2l, 1) := by decide +kernel
theorem dL_append_8 : decode cL_append 8 = .ok (.lastore, 1) := by decide +kernel
theorem dL_append_9 : decode cL_append 9 = .ok (.goto 9, 3) := by decide +kernel
theorem dL_append_12 : decode cL_append 12 = .ok (.astore_n 3, 1) := by decide +kernel
theorem dL_append_13 : decode cL_append 13 = .ok (.iconst 1, 1) := by decide +kernel
theorem dL_append_14 : decode cL_append 14 = .ok (.ireturn, 1) := by decide +kernel
theorem dL_append_15 : decode cL_append 15 = .ok (.astore_n 3, 1) := by decide +kernel
theorem dL_append_16 : decode cL_append 16 = .ok (.iconst 2, 1) := by decide +kernel
theorem dL_append_17 : decode cL_append 17 = .ok (.ireturn, 1) := by decide +kernel
theorem dL_append_18 : decode cL_append 18 = .ok (.iconst 0, 1) := by decide +kernel
theorem dL_append_19 : decode cL_append 19 = .ok (.ireturn, 1) := by decide +kernel
theorem dL_undo_0 : decode cL_undo 0 = .ok (.aload_n 1, 1) := by decide +kernel
theorem dL_undo_1 : decode cL_undo 1 = .ok (.iconst 0, 1) := by decide +kernel
theorem dL_undo_2 : decode cL_undo 2 = .ok (.aload_n 0, 1) := by decide +kernel
theorem dL_undo_3 : decode cL_undo 3 = .ok (.invokevirtual 93, 3) := by decide +kernel
theorem dL_undo_6 : decode cL_undo 6 = .ok (.i2l, 1) := by decide +kernel
theorem dL_undo_7 : decode cL_undo 7 = .ok (.lastore, 1) := by decide +kernel
theorem dL_undo_8 : decode cL_undo 8 = .ok (.goto 6, 3) := by decide +kernel
theorem dL_undo_11 : decode cL_undo 11 = .ok (.astore_n 2, 1) := by decide +kernel
theorem dL_undo_12 : decode cL_undo 12 = .ok (.iconst 1, 1) := by decide +kernel
theorem dL_undo_13 : decode cL_undo 13 = .ok (.ireturn, 1) := by decide +kernel
theorem dL_undo_14 : decode cL_undo 14 = .ok (.iconst 0, 1) := by decide +kernel
theorem dL_undo_15 : decode cL_undo 15 = .ok (.ireturn, 1) := by decide +kernel
theorem dL_law_0 : decode cL_law 0 = .ok (.new 8, 3) := by decide +kernel
theorem dL_law_3 : decode cL_law 3 = .ok (.dup, 1) := by decide +kernel
theorem dL_law_4 : decode cL_law 4 = .ok (.invokespecial 97, 3) := by decide +kernel
theorem dL_law_7 : decode cL_law 7 = .ok (.astore_n 1, 1) := by decide +kernel
theorem dL_law_8 : decode cL_law 8 = .ok (.new 98, 3) := by decide +kernel
theorem dL_law_11 : decode cL_law 11 = .ok (.dup, 1) := by decide +kernel
theorem dL_law_12 : decode cL_law 12 = .ok (.invokespecial 100, 3) := by decide +kernel
theorem dL_law_15 : decode cL_law 15 = .ok (.astore_n 2, 1) := by decide +kernel
theorem dL_law_16 : decode cL_law 16 = .ok (.iconst 1, 1) := by decide +kernel
theorem dL_law_17 : decode cL_law 17 = .ok (.newarray .long, 2) := by decide +kernel
theorem dL_law_19 : decode cL_law 19 = .ok (.astore_n 3, 1) := by decide +kernel
theorem dL_law_20 : decode cL_law 20 = .ok (.iconst 0, 1) := by decide +kernel
theorem dL_law_21 : decode cL_law 21 = .ok (.istore 4, 2) := by decide +kernel
theorem dL_law_23 : decode cL_law 23 = .ok (.iload 4, 2) := by decide +kernel
theorem dL_law_25 : decode cL_law 25 = .ok (.aload_n 0, 1) := by decide +kernel
theorem dL_law_26 : decode cL_law 26 = .ok (.arraylength, 1) := by decide +kernel
theorem dL_law_27 : decode cL_law 27 = .ok (.iconst 4, 1) := by decide +kernel
theorem dL_law_28 : decode cL_law 28 = .ok (.isub, 1) := by decide +kernel
theorem dL_law_29 : decode cL_law 29 = .ok (.if_icmp .gt 1976, 3) := by decide +kernel
theorem dL_law_32 : decode cL_law 32 = .ok (.aload_n 0, 1) := by decide +kernel
theorem dL_law_33 : decode cL_law 33 = .ok (.iload 4, 2) := by decide +kernel
theorem dL_law_35 : decode cL_law 35 = .ok (.iaload, 1) := by decide +kernel
theorem dL_law_36 : decode cL_law 36 = .ok (.bipush 63, 2) := by decide +kernel
theorem dL_law_38 : decode cL_law 38 = .ok (.iand, 1) := by decide +kernel
theorem dL_law_39 : decode cL_law 39 = .ok (.tableswitch 1960 0 36 #[161, 229, 309, 365, 421, 501, 569, 625, 709, 723, 736, 804, 859, 872, 928, 941, 954, 967, 1023, 1078, 1146, 1201, 1257, 1313, 1409, 1465, 1561, 1629, 1697, 1710, 1723, 1764, 1820, 1876, 1889, 1902, 1946], 161) := by decide +kernel
theorem dL_law_200 : decode cL_law 200 = .ok (.aload_n 1, 1) := by decide +kernel
theorem dL_law_201 : decode cL_law 201 = .ok (.aload_n 0, 1) := by decide +kernel
theorem dL_law_202 : decode cL_law 202 = .ok (.iload 4, 2) := by decide +kernel
theorem dL_law_204 : decode cL_law 204 = .ok (.iconst 1, 1) := by decide +kernel
theorem dL_law_205 : decode cL_law 205 = .ok (.iadd, 1) := by decide +kernel
theorem dL_law_206 : decode cL_law 206 = .ok (.iaload, 1) := by decide +kernel
theorem dL_law_207 : decode cL_law 207 = .ok (.aload_n 0, 1) := by decide +kernel
theorem dL_law_208 : decode cL_law 208 = .ok (.iload 4, 2) := by decide +kernel
theorem dL_law_210 : decode cL_law 210 = .ok (.iconst 2, 1) := by decide +kernel
theorem dL_law_211 : decode cL_law 211 = .ok (.iadd, 1) := by decide +kernel
theorem dL_law_212 : decode cL_law 212 = .ok (.iaload, 1) := by decide +kernel
theorem dL_law_213 : decode cL_law 213 = .ok (.aload_n 3, 1) := by decide +kernel
theorem dL_law_214 : decode cL_law 214 = .ok (.invokestatic 101, 3) := by decide +kernel
theorem dL_law_217 : decode cL_law 217 = .ok (.istore 5, 2) := by decide +kernel
theorem dL_law_219 : decode cL_law 219 = .ok (.aload_n 2, 1) := by decide +kernel
theorem dL_law_220 : decode cL_law 220 = .ok (.aload_n 0, 1) := by decide +kernel
theorem dL_law_221 : decode cL_law 221 = .ok (.iload 4, 2) := by decide +kernel
theorem dL_law_223 : decode cL_law 223 = .ok (.iconst 1, 1) := by decide +kernel
theorem dL_law_224 : decode cL_law 224 = .ok (.iadd, 1) := by decide +kernel
theorem dL_law_225 : decode cL_law 225 = .ok (.iaload, 1) := by decide +kernel
theorem dL_law_226 : decode cL_law 226 = .ok (.aload_n 0, 1) := by decide +kernel
theorem dL_law_227 : decode cL_law 227 = .ok (.iload 4, 2) := by decide +kernel
theorem dL_law_229 : decode cL_law 229 = .ok (.iconst 2, 1) := by decide +kernel
theorem dL_law_230 : decode cL_law 230 = .ok (.iadd, 1) := by decide +kernel
theorem dL_law_231 : decode cL_law 231 = .ok (.iaload, 1) := by decide +kernel
theorem dL_law_232 : decode cL_law 232 = .ok (.invokevirtual 106, 3) := by decide +kernel
theorem dL_law_235 : decode cL_law 235 = .ok (.istore 6, 2) := by decide +kernel
theorem dL_law_237 : decode cL_law 237 = .ok (.aload_n 2, 1) := by decide +kernel
theorem dL_law_238 : decode cL_law 238 = .ok (.invokevirtual 107, 3) := by decide +kernel
theorem dL_law_241 : decode cL_law 241 = .ok (.iload 5, 2) := by decide +kernel
theorem dL_law_243 : decode cL_law 243 = .ok (.if_icmp .eq 5, 3) := by decide +kernel
theorem dL_law_246 : decode cL_law 246 = .ok (.iconst 0, 1) := by decide +kernel
theorem dL_law_247 : decode cL_law 247 = .ok (.ireturn, 1) := by decide +kernel
theorem dL_law_248 : decode cL_law 248 = .ok (.iload 5, 2) := by decide +kernel
theorem dL_law_250 : decode cL_law 250 = .ok (.ifCond .ne 15, 3) := by decide +kernel
theorem dL_law_253 : decode cL_law 253 = .ok (.aload_n 3, 1) := by decide +kernel
theorem dL_law_254 : decode cL_law 254 = .ok (.iconst 0, 1) := by decide +kernel
theorem dL_law_255 : decode cL_law 255 = .ok (.laload, 1) := by decide +kernel
theorem dL_law_256 : decode cL_law 256 = .ok (.iload 6, 2) := by decide +kernel
theorem dL_law_258 : decode cL_law 258 = .ok (.i2l, 1) := by decide +kernel
theorem dL_law_259 : decode cL_law 259 = .ok (.lcmp, 1) := by decide +kernel
theorem dL_law_260 : decode cL_law 260 = .ok (.ifCond .eq 5, 3) := by decide +kernel
theorem dL_law_263 : decode cL_law 263 = .ok (.iconst 0, 1) := by decide +kernel
theorem dL_law_264 : decode cL_law 264 = .ok (.ireturn, 1) := by decide +kernel
theorem dL_law_265 : decode cL_law 265 = .ok (.goto 1734, 3) := by decide +kernel
theorem dL_law_268 : decode cL_law 268 = .ok (.aload_n 1, 1) := by decide +kernel
theorem dL_law_269 : decode cL_law 269 = .ok (.aload_n 0, 1) := by decide +kernel
theorem dL_law_270 : decode cL_law 270 = .ok (.iload 4, 2) := by decide +kernel
theorem dL_law_272 : decode cL_law 272 = .ok (.iconst 1, 1) := by decide +kernel
theorem dL_law_273 : decode cL_law 273 = .ok (.iadd, 1) := by decide +kernel
theorem dL_law_274 : decode cL_law 274 = .ok (.iaload, 1) := by decide +kernel
theorem dL_law_275 : decode cL_law 275 = .ok (.aload_n 0, 1) := by decide +kernel
theorem dL_law_276 : decode cL_law 276 = .ok (.iload 4, 2) := by decide +kernel
theorem dL_law_278 : decode cL_law 278 = .ok (.iconst 2, 1) := by decide +kernel
theorem dL_law_279 : decode cL_law 279 = .ok (.iadd, 1) := by decide +kernel
theorem dL_law_280 : decode cL_law 280 = .ok (.iaload, 1) := by decide +kernel
theorem dL_law_281 : decode cL_law 281 = .ok (.aload_n 0, 1) := by decide +kernel
theorem dL_law_282 : decode cL_law 282 = .ok (.iload 4, 2) := by decide +kernel
theorem dL_law_284 : decode cL_law 284 = .ok (.iconst 3, 1) := by decide +kernel
theorem dL_law_285 : decode cL_law 285 = .ok (.iadd, 1) := by decide +kernel
theorem dL_law_286 : decode cL_law 286 = .ok (.iaload, 1) := by decide +kernel
theorem dL_law_287 : decode cL_law 287 = .ok (.aload_n 3, 1) := by decide +kernel
theorem dL_law_288 : decode cL_law 288 = .ok (.invokestatic 110, 3) := by decide +kernel
theorem dL_law_291 : decode cL_law 291 = .ok (.istore 5, 2) := by decide +kernel
theorem dL_law_293 : decode cL_law 293 = .ok (.aload_n 2, 1) := by decide +kernel
theorem dL_law_294 : decode cL_law 294 = .ok (.aload_n 0, 1) := by decide +kernel
theorem dL_law_295 : decode cL_law 295 = .ok (.iload 4, 2) := by decide +kernel
theorem dL_law_297 : decode cL_law 297 = .ok (.iconst 1, 1) := by decide +kernel
theorem dL_law_298 : decode cL_law 298 = .ok (.iadd, 1) := by decide +kernel
theorem dL_law_299 : decode cL_law 299 = .ok (.iaload, 1) := by decide +kernel
theorem dL_law_300 : decode cL_law 300 = .ok (.aload_n 0, 1) := by decide +kernel
theorem dL_law_301 : decode cL_law 301 = .ok (.iload 4, 2) := by decide +kernel
theorem dL_law_303 : decode cL_law 303 = .ok (.iconst 2, 1) := by decide +kernel
theorem dL_law_304 : decode cL_law 304 = .ok (.iadd, 1) := by decide +kernel
theorem dL_law_305 : decode cL_law 305 = .ok (.iaload, 1) := by decide +kernel
theorem dL_law_306 : decode cL_law 306 = .ok (.aload_n 0, 1) := by decide +kernel
theorem dL_law_307 : decode cL_law 307 = .ok (.iload 4, 2) := by decide +kernel
theorem dL_law_309 : decode cL_law 309 = .ok (.iconst 3, 1) := by decide +kernel
theorem dL_law_310 : decode cL_law 310 = .ok (.iadd, 1) := by decide +kernel
theorem dL_law_311 : decode cL_law 311 = .ok (.iaload, 1) := by decide +kernel
theorem dL_law_312 : decode cL_law 312 = .ok (.invokevirtual 113, 3) := by decide +kernel
theorem dL_law_315 : decode cL_law 315 = .ok (.istore 6, 2) := by decide +kernel
theorem dL_law_317 : decode cL_law 317 = .ok (.aload_n 2, 1) := by decide +kernel
theorem dL_law_318 : decode cL_law 318 = .ok (.invokevirtual 107, 3) := by decide +kernel
theorem dL_law_321 : decode cL_law 321 = .ok (.iload 5, 2) := by decide +kernel
theorem dL_law_323 : decode cL_law 323 = .ok (.if_icmp .eq 5, 3) := by decide +kernel
theorem dL_law_326 : decode cL_law 326 = .ok (.iconst 0, 1) := by decide +kernel
theorem dL_law_327 : decode cL_law 327 = .ok (.ireturn, 1) := by decide +kernel
theorem dL_law_328 : decode cL_law 328 = .ok (.iload 5, 2) := by decide +kernel
theorem dL_law_330 : decode cL_law 330 = .ok (.ifCond .ne 15, 3) := by decide +kernel
theorem dL_law_333 : decode cL_law 333 = .ok (.aload_n 3, 1) := by decide +kernel
theorem dL_law_334 : decode cL_law 334 = .ok (.iconst 0, 1) := by decide +kernel
theorem dL_law_335 : decode cL_law 335 = .ok (.laload, 1) := by decide +kernel
theorem dL_law_336 : decode cL_law 336 = .ok (.iload 6, 2) := by decide +kernel
theorem dL_law_338 : decode cL_law 338 = .ok (.i2l, 1) := by decide +kernel
theorem dL_law_339 : decode cL_law 339 = .ok (.lcmp, 1) := by decide +kernel
theorem dL_law_340 : decode cL_law 340 = .ok (.ifCond .eq 5, 3) := by decide +kernel
theorem dL_law_343 : decode cL_law 343 = .ok (.iconst 0, 1) := by decide +kernel
theorem dL_law_344 : decode cL_law 344 = .ok (.ireturn, 1) := by decide +kernel
theorem dL_law_345 : decode cL_law 345 = .ok (.goto 1654, 3) := by decide +kernel
theorem dL_law_348 : decode cL_law 348 = .ok (.aload_n 1, 1) := by decide +kernel
theorem dL_law_349 : decode cL_law 349 = .ok (.aload_n 0, 1) := by decide +kernel
theorem dL_law_350 : decode cL_law 350 = .ok (.iload 4, 2) := by decide +kernel
theorem dL_law_352 : decode cL_law 352 = .ok (.iconst 1, 1) := by decide +kernel
theorem dL_law_353 : decode cL_law 353 = .ok (.iadd, 1) := by decide +kernel
theorem dL_law_354 : decode cL_law 354 = .ok (.iaload, 1) := by decide +kernel
theorem dL_law_355 : decode cL_law 355 = .ok (.aload_n 3, 1) := by decide +kernel
theorem dL_law_356 : decode cL_law 356 = .ok (.invokestatic 114, 3) := by decide +kernel
theorem dL_law_359 : decode cL_law 359 = .ok (.istore 5, 2) := by decide +kernel
theorem dL_law_361 : decode cL_law 361 = .ok (.aload_n 2, 1) := by decide +kernel
theorem dL_law_362 : decode cL_law 362 = .ok (.aload_n 0, 1) := by decide +kernel
theorem dL_law_363 : decode cL_law 363 = .ok (.iload 4, 2) := by decide +kernel
theorem dL_law_365 : decode cL_law 365 = .ok (.iconst 1, 1) := by decide +kernel
theorem dL_law_366 : decode cL_law 366 = .ok (.iadd, 1) := by decide +kernel
theorem dL_law_367 : decode cL_law 367 = .ok (.iaload, 1) := by decide +kernel
theorem dL_law_368 : decode cL_law 368 = .ok (.invokevirtual 117, 3) := by decide +kernel
theorem dL_law_371 : decode cL_law 371 = .ok (.istore 6, 2) := by decide +kernel
theorem dL_law_373 : decode cL_law 373 = .ok (.aload_n 2, 1) := by decide +kernel
theorem dL_law_374 : decode cL_law 374 = .ok (.invokevirtual 107, 3) := by decide +kernel
theorem dL_law_377 : decode cL_law 377 = .ok (.iload 5, 2) := by decide +kernel
theorem dL_law_379 : decode cL_law 379 = .ok (.if_icmp .eq 5, 3) := by decide +kernel
theorem dL_law_382 : decode cL_law 382 = .ok (.iconst 0, 1) := by decide +kernel
theorem dL_law_383 : decode cL_law 383 = .ok (.ireturn, 1) := by decide +kernel
theorem dL_law_384 : decode cL_law 384 = .ok (.iload 5, 2) := by decide +kernel
theorem dL_law_386 : decode cL_law 386 = .ok (.ifCond .ne 15, 3) := by decide +kernel
theorem dL_law_389 : decode cL_law 389 = .ok (.aload_n 3, 1) := by decide +kernel
theorem dL_law_390 : decode cL_law 390 = .ok (.iconst 0, 1) := by decide +kernel
theorem dL_law_391 : decode cL_law 391 = .ok (.laload, 1) := by decide +kernel
theorem dL_law_392 : decode cL_law 392 = .ok (.iload 6, 2) := by decide +kernel
theorem dL_law_394 : decode cL_law 394 = .ok (.i2l, 1) := by decide +kernel
theorem dL_law_395 : decode cL_law 395 = .ok (.lcmp, 1) := by decide +kernel
theorem dL_law_396 : decode cL_law 396 = .ok (.ifCond .eq 5, 3) := by decide +kernel
theorem dL_law_399 : decode cL_law 399 = .ok (.iconst 0, 1) := by decide +kernel
theorem dL_law_400 : decode cL_law 400 = .ok (.ireturn, 1) := by decide +kernel
theorem dL_law_401 : decode cL_law 401 = .ok (.goto 1598, 3) := by decide +kernel
theorem dL_law_404 : decode cL_law 404 = .ok (.aload_n 1, 1) := by decide +kernel
theorem dL_law_405 : decode cL_law 405 = .ok (.aload_n 0, 1) := by decide +kernel
theorem dL_law_406 : decode cL_law 406 = .ok (.iload 4, 2) := by decide +kernel
theorem dL_law_408 : decode cL_law 408 = .ok (.iconst 1, 1) := by decide +kernel
theorem dL_law_409 : decode cL_law 409 = .ok (.iadd, 1) := by decide +kernel
theorem dL_law_410 : decode cL_law 410 = .ok (.iaload, 1) := by decide +kernel
theorem dL_law_411 : decode cL_law 411 = .ok (.aload_n 3, 1) := by decide +kernel
theorem dL_law_412 : decode cL_law 412 = .ok (.invokestatic 118, 3) := by decide +kernel
theorem dL_law_415 : decode cL_law 415 = .ok (.istore 5, 2) := by decide +kernel
theorem dL_law_417 : decode cL_law 417 = .ok (.aload_n 2, 1) := by decide +kernel
theorem dL_law_418 : decode cL_law 418 = .ok (.aload_n 0, 1) := by decide +kernel
theorem dL_law_419 : decode cL_law 419 = .ok (.iload 4, 2) := by decide +kernel
theorem dL_law_421 : decode cL_law 421 = .ok (.iconst 1, 1) := by decide +kernel
theorem dL_law_422 : decode cL_law 422 = .ok (.iadd, 1) := by decide +kernel
theorem dL_law_423 : decode cL_law 423 = .ok (.iaload, 1) := by decide +kernel
theorem dL_law_424 : decode cL_law 424 = .ok (.invokevirtual 120, 3) := by decide +kernel
theorem dL_law_427 : decode cL_law 427 = .ok (.istore 6, 2) := by decide +kernel
theorem dL_law_429 : decode cL_law 429 = .ok (.aload_n 2, 1) := by decide +kernel
theorem dL_law_430 : decode cL_law 430 = .ok (.invokevirtual 107, 3) := by decide +kernel
theorem dL_law_433 : decode cL_law 433 = .ok (.iload 5, 2) := by decide +kernel
theorem dL_law_435 : decode cL_law 435 = .ok (.if_icmp .eq 5, 3) := by decide +kernel
theorem dL_law_438 : decode cL_law 438 = .ok (.iconst 0, 1) := by decide +kernel
theorem dL_law_439 : decode cL_law 439 = .ok (.ireturn, 1) := by decide +kernel
theorem dL_law_440 : decode cL_law 440 = .ok (.iload 5, 2) := by decide +kernel
theorem dL_law_442 : decode cL_law 442 = .ok (.ifCond .ne 15, 3) := by decide +kernel
theorem dL_law_445 : decode cL_law 445 = .ok (.aload_n 3, 1) := by decide +kernel
theorem dL_law_446 : decode cL_law 446 = .ok (.iconst 0, 1) := by decide +kernel
theorem dL_law_447 : decode cL_law 447 = .ok (.laload, 1) := by decide +kernel
theorem dL_law_448 : decode cL_law 448 = .ok (.iload 6, 2) := by decide +kernel
theorem dL_law_450 : decode cL_law 450 = .ok (.i2l, 1) := by decide +kernel
theorem dL_law_451 : decode cL_law 451 = .ok (.lcmp, 1) := by decide +kernel
theorem dL_law_452 : decode cL_law 452 = .ok (.ifCond .eq 5, 3) := by decide +kernel
theorem dL_law_455 : decode cL_law 455 = .ok (.iconst 0, 1) := by decide +kernel
theorem dL_law_456 : decode cL_law 456 = .ok (.ireturn, 1) := by decide +kernel
theorem dL_law_457 : decode cL_law 457 = .ok (.goto 1542, 3) := by decide +kernel
theorem dL_law_460 : decode cL_law 460 = .ok (.aload_n 1, 1) := by decide +kernel
theorem dL_law_461 : decode cL_law 461 = .ok (.aload_n 0, 1) := by decide +kernel
theorem dL_law_462 : decode cL_law 462 = .ok (.iload 4, 2) := by decide +kernel
theorem dL_law_464 : decode cL_law 464 = .ok (.iconst 1, 1) := by decide +kernel
theorem dL_law_465 : decode cL_law 465 = .ok (.iadd, 1) := by decide +kernel
theorem dL_law_466 : decode cL_law 466 = .ok (.iaload, 1) := by decide +kernel
theorem dL_law_467 : decode cL_law 467 = .ok (.aload_n 0, 1) := by decide +kernel
theorem dL_law_468 : decode cL_law 468 = .ok (.iload 4, 2) := by decide +kernel
theorem dL_law_470 : decode cL_law 470 = .ok (.iconst 2, 1) := by decide +kernel
theorem dL_law_471 : decode cL_law 471 = .ok (.iadd, 1) := by decide +kernel
theorem dL_law_472 : decode cL_law 472 = .ok (.iaload, 1) := by decide +kernel
theorem dL_law_473 : decode cL_law 473 = .ok (.aload_n 0, 1) := by decide +kernel
theorem dL_law_474 : decode cL_law 474 = .ok (.iload 4, 2) := by decide +kernel
theorem dL_law_476 : decode cL_law 476 = .ok (.iconst 3, 1) := by decide +kernel
theorem dL_law_477 : decode cL_law 477 = .ok (.iadd, 1) := by decide +kernel
theorem dL_law_478 : decode cL_law 478 = .ok (.iaload, 1) := by decide +kernel
theorem dL_law_479 : decode cL_law 479 = .ok (.aload_n 3, 1) := by decide +kernel
theorem dL_law_480 : decode cL_law 480 = .ok (.invokestatic 121, 3) := by decide +kernel
theorem dL_law_483 : decode cL_law 483 = .ok (.istore 5, 2) := by decide +kernel
theorem dL_law_485 : decode cL_law 485 = .ok (.aload_n 2, 1) := by decide +kernel
theorem dL_law_486 : decode cL_law 486 = .ok (.aload_n 0, 1) := by decide +kernel
theorem dL_law_487 : decode cL_law 487 = .ok (.iload 4, 2) := by decide +kernel
theorem dL_law_489 : decode cL_law 489 = .ok (.iconst 1, 1) := by decide +kernel
theorem dL_law_490 : decode cL_law 490 = .ok (.iadd, 1) := by decide +kernel
theorem dL_law_491 : decode cL_law 491 = .ok (.iaload, 1) := by decide +kernel
theorem dL_law_492 : decode cL_law 492 = .ok (.aload_n 0, 1) := by decide +kernel
theorem dL_law_493 : decode cL_law 493 = .ok (.iload 4, 2) := by decide +kernel
theorem dL_law_495 : decode cL_law 495 = .ok (.iconst 2, 1) := by decide +kernel
theorem dL_law_496 : decode cL_law 496 = .ok (.iadd, 1) := by decide +kernel
theorem dL_law_497 : decode cL_law 497 = .ok (.iaload, 1) := by decide +kernel
theorem dL_law_498 : decode cL_law 498 = .ok (.aload_n 0, 1) := by decide +kernel
theorem dL_law_499 : decode cL_law 499 = .ok (.iload 4, 2) := by decide +kernel
theorem dL_law_501 : decode cL_law 501 = .ok (.iconst 3, 1) := by decide +kernel
theorem dL_law_502 : decode cL_law 502 = .ok (.iadd, 1) := by decide +kernel
theorem dL_law_503 : decode cL_law 503 = .ok (.iaload, 1) := by decide +kernel
theorem dL_law_504 : decode cL_law 504 = .ok (.invokevirtual 123, 3) := by decide +kernel
theorem dL_law_507 : decode cL_law 507 = .ok (.istore 6, 2) := by decide +kernel
theorem dL_law_509 : decode cL_law 509 = .ok (.aload_n 2, 1) := by decide +kernel
theorem dL_law_510 : decode cL_law 510 = .ok (.invokevirtual 107, 3) := by decide +kernel
theorem dL_law_513 : decode cL_law 513 = .ok (.iload 5, 2) := by decide +kernel
theorem dL_law_515 : decode cL_law 515 = .ok (.if_icmp .eq 5, 3) := by decide +kernel
theorem dL_law_518 : decode cL_law 518 = .ok (.iconst 0, 1) := by decide +kernel
theorem dL_law_519 : decode cL_law 519 = .ok (.ireturn, 1) := by decide +kernel
theorem dL_law_520 : decode cL_law 520 = .ok (.iload 5, 2) := by decide +kernel
theorem dL_law_522 : decode cL_law 522 = .ok (.ifCond .ne 15, 3) := by decide +kernel
theorem dL_law_525 : decode cL_law 525 = .ok (.aload_n 3, 1) := by decide +kernel
theorem dL_law_526 : decode cL_law 526 = .ok (.iconst 0, 1) := by decide +kernel
theorem dL_law_527 : decode cL_law 527 = .ok (.laload, 1) := by decide +kernel
theorem dL_law_528 : decode cL_law 528 = .ok (.iload 6, 2) := by decide +kernel
theorem dL_law_530 : decode cL_law 530 = .ok (.i2l, 1) := by decide +kernel
theorem dL_law_531 : decode cL_law 531 = .ok (.lcmp, 1) := by decide +kernel
theorem dL_law_532 : decode cL_law 532 = .ok (.ifCond .eq 5, 3) := by decide +kernel
theorem dL_law_535 : decode cL_law 535 = .ok (.iconst 0, 1) := by decide +kernel
theorem dL_law_536 : decode cL_law 536 = .ok (.ireturn, 1) := by decide +kernel
theorem dL_law_537 : decode cL_law 537 = .ok (.goto 1462, 3) := by decide +kernel
theorem dL_law_540 : decode cL_law 540 = .ok (.aload_n 1, 1) := by decide +kernel
theorem dL_law_541 : decode cL_law 541 = .ok (.aload_n 0, 1) := by decide +kernel
theorem dL_law_542 : decode cL_law 542 = .ok (.iload 4, 2) := by decide +kernel
theorem dL_law_544 : decode cL_law 544 = .ok (.iconst 1, 1) := by decide +kernel
theorem dL_law_545 : decode cL_law 545 = .ok (.iadd, 1) := by decide +kernel
theorem dL_law_546 : decode cL_law 546 = .ok (.iaload, 1) := by decide +kernel
theorem dL_law_547 : decode cL_law 547 = .ok (.aload_n 0, 1) := by decide +kernel
theorem dL_law_548 : decode cL_law 548 = .ok (.iload 4, 2) := by decide +kernel
theorem dL_law_550 : decode cL_law 550 = .ok (.iconst 2, 1) := by decide +kernel
theorem dL_law_551 : decode cL_law 551 = .ok (.iadd, 1) := by decide +kernel
theorem dL_law_552 : decode cL_law 552 = .ok (.iaload, 1) := by decide +kernel
theorem dL_law_553 : decode cL_law 553 = .ok (.aload_n 3, 1) := by decide +kernel
theorem dL_law_554 : decode cL_law 554 = .ok (.invokestatic 124, 3) := by decide +kernel
theorem dL_law_557 : decode cL_law 557 = .ok (.istore 5, 2) := by decide +kernel
theorem dL_law_559 : decode cL_law 559 = .ok (.aload_n 2, 1) := by decide +kernel
theorem dL_law_560 : decode cL_law 560 = .ok (.aload_n 0, 1) := by decide +kernel
theorem dL_law_561 : decode cL_law 561 = .ok (.iload 4, 2) := by decide +kernel
theorem dL_law_563 : decode cL_law 563 = .ok (.iconst 1, 1) := by decide +kernel
theorem dL_law_564 : decode cL_law 564 = .ok (.iadd, 1) := by decide +kernel
theorem dL_law_565 : decode cL_law 565 = .ok (.iaload, 1) := by decide +kernel
theorem dL_law_566 : decode cL_law 566 = .ok (.aload_n 0, 1) := by decide +kernel
theorem dL_law_567 : decode cL_law 567 = .ok (.iload 4, 2) := by decide +kernel
theorem dL_law_569 : decode cL_law 569 = .ok (.iconst 2, 1) := by decide +kernel
theorem dL_law_570 : decode cL_law 570 = .ok (.iadd, 1) := by decide +kernel
theorem dL_law_571 : decode cL_law 571 = .ok (.iaload, 1) := by decide +kernel
theorem dL_law_572 : decode cL_law 572 = .ok (.invokevirtual 126, 3) := by decide +kernel
theorem dL_law_575 : decode cL_law 575 = .ok (.istore 6, 2) := by decide +kernel
theorem dL_law_577 : decode cL_law 577 = .ok (.aload_n 2, 1) := by decide +kernel
theorem dL_law_578 : decode cL_law 578 = .ok (.invokevirtual 107, 3) := by decide +kernel
theorem dL_law_581 : decode cL_law 581 = .ok (.iload 5, 2) := by decide +kernel
theorem dL_law_583 : decode cL_law 583 = .ok (.if_icmp .eq 5, 3) := by decide +kernel
theorem dL_law_586 : decode cL_law 586 = .ok (.iconst 0, 1) := by decide +kernel
theorem dL_law_587 : decode cL_law 587 = .ok (.ireturn, 1) := by decide +kernel
theorem dL_law_588 : decode cL_law 588 = .ok (.iload 5, 2) := by decide +kernel
theorem dL_law_590 : decode cL_law 590 = .ok (.ifCond .ne 15, 3) := by decide +kernel
theorem dL_law_593 : decode cL_law 593 = .ok (.aload_n 3, 1) := by decide +kernel
theorem dL_law_594 : decode cL_law 594 = .ok (.iconst 0, 1) := by decide +kernel
theorem dL_law_595 : decode cL_law 595 = .ok (.laload, 1) := by decide +kernel
theorem dL_law_596 : decode cL_law 596 = .ok (.iload 6, 2) := by decide +kernel
theorem dL_law_598 : decode cL_law 598 = .ok (.i2l, 1) := by decide +kernel
theorem dL_law_599 : decode cL_law 599 = .ok (.lcmp, 1) := by decide +kernel
theorem dL_law_600 : decode cL_law 600 = .ok (.ifCond .eq 5, 3) := by decide +kernel
theorem dL_law_603 : decode cL_law 603 = .ok (.iconst 0, 1) := by decide +kernel
theorem dL_law_604 : decode cL_law 604 = .ok (.ireturn, 1) := by decide +kernel
theorem dL_law_605 : decode cL_law 605 = .ok (.goto 1394, 3) := by decide +kernel
theorem dL_law_608 : decode cL_law 608 = .ok (.aload_n 1, 1) := by decide +kernel
theorem dL_law_609 : decode cL_law 609 = .ok (.aload_n 0, 1) := by decide +kernel
theorem dL_law_610 : decode cL_law 610 = .ok (.iload 4, 2) := by decide +kernel
theorem dL_law_612 : decode cL_law 612 = .ok (.iconst 1, 1) := by decide +kernel
theorem dL_law_613 : decode cL_law 613 = .ok (.iadd, 1) := by decide +kernel
theorem dL_law_614 : decode cL_law 614 = .ok (.iaload, 1) := by decide +kernel
theorem dL_law_615 : decode cL_law 615 = .ok (.aload_n 3, 1) := by decide +kernel
theorem dL_law_616 : decode cL_law 616 = .ok (.invokestatic 127, 3) := by decide +kernel
theorem dL_law_619 : decode cL_law 619 = .ok (.istore 5, 2) := by decide +kernel
theorem dL_law_621 : decode cL_law 621 = .ok (.aload_n 2, 1) := by decide +kernel
theorem dL_law_622 : decode cL_law 622 = .ok (.aload_n 0, 1) := by decide +kernel
theorem dL_law_623 : decode cL_law 623 = .ok (.iload 4, 2) := by decide +kernel
theorem dL_law_625 : decode cL_law 625 = .ok (.iconst 1, 1) := by decide +kernel
theorem dL_law_626 : decode cL_law 626 = .ok (.iadd, 1) := by decide +kernel
theorem dL_law_627 : decode cL_law 627 = .ok (.iaload, 1) := by decide +kernel
theorem dL_law_628 : decode cL_law 628 = .ok (.invokevirtual 129, 3) := by decide +kernel
theorem dL_law_631 : decode cL_law 631 = .ok (.istore 6, 2) := by decide +kernel
theorem dL_law_633 : decode cL_law 633 = .ok (.aload_n 2, 1) := by decide +kernel
theorem dL_law_634 : decode cL_law 634 = .ok (.invokevirtual 107, 3) := by decide +kernel
theorem dL_law_637 : decode cL_law 637 = .ok (.iload 5, 2) := by decide +kernel
theorem dL_law_639 : decode cL_law 639 = .ok (.if_icmp .eq 5, 3) := by decide +kernel
theorem dL_law_642 : decode cL_law 642 = .ok (.iconst 0, 1) := by decide +kernel
theorem dL_law_643 : decode cL_law 643 = .ok (.ireturn, 1) := by decide +kernel
theorem dL_law_644 : decode cL_law 644 = .ok (.iload 5, 2) := by decide +kernel
theorem dL_law_646 : decode cL_law 646 = .ok (.ifCond .ne 15, 3) := by decide +kernel
theorem dL_law_649 : decode cL_law 649 = .ok (.aload_n 3, 1) := by decide +kernel
theorem dL_law_650 : decode cL_law 650 = .ok (.iconst 0, 1) := by decide +kernel
theorem dL_law_651 : decode cL_law 651 = .ok (.laload, 1) := by decide +kernel
theorem dL_law_652 : decode cL_law 652 = .ok (.iload 6, 2) := by decide +kernel
theorem dL_law_654 : decode cL_law 654 = .ok (.i2l, 1) := by decide +kernel
theorem dL_law_655 : decode cL_law 655 = .ok (.lcmp, 1) := by decide +kernel
theorem dL_law_656 : decode cL_law 656 = .ok (.ifCond .eq 5, 3) := by decide +kernel
theorem dL_law_659 : decode cL_law 659 = .ok (.iconst 0, 1) := by decide +kernel
theorem dL_law_660 : decode cL_law 660 = .ok (.ireturn, 1) := by decide +kernel
theorem dL_law_661 : decode cL_law 661 = .ok (.goto 1338, 3) := by decide +kernel
theorem dL_law_664 : decode cL_law 664 = .ok (.aload_n 1, 1) := by decide +kernel
theorem dL_law_665 : decode cL_law 665 = .ok (.aload_n 0, 1) := by decide +kernel
theorem dL_law_666 : decode cL_law 666 = .ok (.iload 4, 2) := by decide +kernel
theorem dL_law_668 : decode cL_law 668 = .ok (.iconst 1, 1) := by decide +kernel
theorem dL_law_669 : decode cL_law 669 = .ok (.iadd, 1) := by decide +kernel
theorem dL_law_670 : decode cL_law 670 = .ok (.iaload, 1) := by decide +kernel
theorem dL_law_671 : decode cL_law 671 = .ok (.aload_n 0, 1) := by decide +kernel
theorem dL_law_672 : decode cL_law 672 = .ok (.iload 4, 2) := by decide +kernel
theorem dL_law_674 : decode cL_law 674 = .ok (.iconst 2, 1) := by decide +kernel
theorem dL_law_675 : decode cL_law 675 = .ok (.iadd, 1) := by decide +kernel
theorem dL_law_676 : decode cL_law 676 = .ok (.iaload, 1) := by decide +kernel
theorem dL_law_677 : decode cL_law 677 = .ok (.ifCond .eq 7, 3) := by decide +kernel
theorem dL_law_680 : decode cL_law 680 = .ok (.iconst 1, 1) := by decide +kernel
theorem dL_law_681 : decode cL_law 681 = .ok (.goto 4, 3) := by decide +kernel
theorem dL_law_684 : decode cL_law 684 = .ok (.iconst 0, 1) := by decide +kernel
theorem dL_law_685 : decode cL_law 685 = .ok (.aload_n 3, 1) := by decide +kernel
theorem dL_law_686 : decode cL_law 686 = .ok (.invokestatic 130, 3) := by decide +kernel
theorem dL_law_689 : decode cL_law 689 = .ok (.istore 5, 2) := by decide +kernel
theorem dL_law_691 : decode cL_law 691 = .ok (.aload_n 2, 1) := by decide +kernel
theorem dL_law_692 : decode cL_law 692 = .ok (.aload_n 0, 1) := by decide +kernel
theorem dL_law_693 : decode cL_law 693 = .ok (.iload 4, 2) := by decide +kernel
theorem dL_law_695 : decode cL_law 695 = .ok (.iconst 1, 1) := by decide +kernel
theorem dL_law_696 : decode cL_law 696 = .ok (.iadd, 1) := by decide +kernel
theorem dL_law_697 : decode cL_law 697 = .ok (.iaload, 1) := by decide +kernel
theorem dL_law_698 : decode cL_law 698 = .ok (.aload_n 0, 1) := by decide +kernel
theorem dL_law_699 : decode cL_law 699 = .ok (.iload 4, 2) := by decide +kernel
theorem dL_law_701 : decode cL_law 701 = .ok (.iconst 2, 1) := by decide +kernel
theorem dL_law_702 : decode cL_law 702 = .ok (.iadd, 1) := by decide +kernel
theorem dL_law_703 : decode cL_law 703 = .ok (.iaload, 1) := by decide +kernel
theorem dL_law_704 : decode cL_law 704 = .ok (.ifCond .eq 7, 3) := by decide +kernel
theorem dL_law_707 : decode cL_law 707 = .ok (.iconst 1, 1) := by decide +kernel
theorem dL_law_708 : decode cL_law 708 = .ok (.goto 4, 3) := by decide +kernel
theorem dL_law_711 : decode cL_law 711 = .ok (.iconst 0, 1) := by decide +kernel
theorem dL_law_712 : decode cL_law 712 = .ok (.invokevirtual 133, 3) := by decide +kernel
theorem dL_law_715 : decode cL_law 715 = .ok (.istore 6, 2) := by decide +kernel
theorem dL_law_717 : decode cL_law 717 = .ok (.aload_n 2, 1) := by decide +kernel
theorem dL_law_718 : decode cL_law 718 = .ok (.invokevirtual 107, 3) := by decide +kernel
theorem dL_law_721 : decode cL_law 721 = .ok (.iload 5, 2) := by decide +kernel
theorem dL_law_723 : decode cL_law 723 = .ok (.if_icmp .eq 5, 3) := by decide +kernel
theorem dL_law_726 : decode cL_law 726 = .ok (.iconst 0, 1) := by decide +kernel
theorem dL_law_727 : decode cL_law 727 = .ok (.ireturn, 1) := by decide +kernel
theorem dL_law_728 : decode cL_law 728 = .ok (.iload 5, 2) := by decide +kernel
theorem dL_law_730 : decode cL_law 730 = .ok (.ifCond .ne 15, 3) := by decide +kernel
theorem dL_law_733 : decode cL_law 733 = .ok (.aload_n 3, 1) := by decide +kernel
theorem dL_law_734 : decode cL_law 734 = .ok (.iconst 0, 1) := by decide +kernel
theorem dL_law_735 : decode cL_law 735 = .ok (.laload, 1) := by decide +kernel
theorem dL_law_736 : decode cL_law 736 = .ok (.iload 6, 2) := by decide +kernel
theorem dL_law_738 : decode cL_law 738 = .ok (.i2l, 1) := by decide +kernel
theorem dL_law_739 : decode cL_law 739 = .ok (.lcmp, 1) := by decide +kernel
theorem dL_law_740 : decode cL_law 740 = .ok (.ifCond .eq 5, 3) := by decide +kernel
theorem dL_law_743 : decode cL_law 743 = .ok (.iconst 0, 1) := by decide +kernel
theorem dL_law_744 : decode cL_law 744 = .ok (.ireturn, 1) := by decide +kernel
theorem dL_law_745 : decode cL_law 745 = .ok (.goto 1254, 3) := by decide +kernel
theorem dL_law_748 : decode cL_law 748 = .ok (.aload_n 1, 1) := by decide +kernel
theorem dL_law_749 : decode cL_law 749 = .ok (.invokevirtual 134, 3) := by decide +kernel
theorem dL_law_752 : decode cL_law 752 = .ok (.aload_n 2, 1) := by decide +kernel
theorem dL_law_753 : decode cL_law 753 = .ok (.invokevirtual 138, 3) := by decide +kernel
theorem dL_law_756 : decode cL_law 756 = .ok (.lcmp, 1) := by decide +kernel
theorem dL_law_757 : decode cL_law 757 = .ok (.ifCond .eq 1242, 3) := by decide +kernel
theorem dL_law_760 : decode cL_law 760 = .ok (.iconst 0, 1) := by decide +kernel
theorem dL_law_761 : decode cL_law 761 = .ok (.ireturn, 1) := by decide +kernel
theorem dL_law_762 : decode cL_law 762 = .ok (.aload_n 1, 1) := by decide +kernel
theorem dL_law_763 : decode cL_law 763 = .ok (.invokevirtual 139, 3) := by decide +kernel
theorem dL_law_766 : decode cL_law 766 = .ok (.aload_n 2, 1) := by decide +kernel
theorem dL_law_767 : decode cL_law 767 = .ok (.invokevirtual 142, 3) := by decide +kernel
theorem dL_law_770 : decode cL_law 770 = .ok (.if_icmp .eq 1229, 3) := by decide +kernel
theorem dL_law_773 : decode cL_law 773 = .ok (.iconst 0, 1) := by decide +kernel
theorem dL_law_774 : decode cL_law 774 = .ok (.ireturn, 1) := by decide +kernel
theorem dL_law_775 : decode cL_law 775 = .ok (.aload_n 1, 1) := by decide +kernel
theorem dL_law_776 : decode cL_law 776 = .ok (.aload_n 0, 1) := by decide +kernel
theorem dL_law_777 : decode cL_law 777 = .ok (.iload 4, 2) := by decide +kernel
theorem dL_law_779 : decode cL_law 779 = .ok (.iconst 1, 1) := by decide +kernel
theorem dL_law_780 : decode cL_law 780 = .ok (.iadd, 1) := by decide +kernel
theorem dL_law_781 : decode cL_law 781 = .ok (.iaload, 1) := by decide +kernel
theorem dL_law_782 : decode cL_law 782 = .ok (.aload_n 0, 1) := by decide +kernel
theorem dL_law_783 : decode cL_law 783 = .ok (.iload 4, 2) := by decide +kernel
theorem dL_law_785 : decode cL_law 785 = .ok (.iconst 2, 1) := by decide +kernel
theorem dL_law_786 : decode cL_law 786 = .ok (.iadd, 1) := by decide +kernel
theorem dL_law_787 : decode cL_law 787 = .ok (.iaload, 1) := by decide +kernel
theorem dL_law_788 : decode cL_law 788 = .ok (.aload_n 3, 1) := by decide +kernel
theorem dL_law_789 : decode cL_law 789 = .ok (.invokestatic 143, 3) := by decide +kernel
theorem dL_law_792 : decode cL_law 792 = .ok (.istore 5, 2) := by decide +kernel
theorem dL_law_794 : decode cL_law 794 = .ok (.aload_n 2, 1) := by decide +kernel
theorem dL_law_795 : decode cL_law 795 = .ok (.aload_n 0, 1) := by decide +kernel
theorem dL_law_796 : decode cL_law 796 = .ok (.iload 4, 2) := by decide +kernel
theorem dL_law_798 : decode cL_law 798 = .ok (.iconst 1, 1) := by decide +kernel
theorem dL_law_799 : decode cL_law 799 = .ok (.iadd, 1) := by decide +kernel
theorem dL_law_800 : decode cL_law 800 = .ok (.iaload, 1) := by decide +kernel
theorem dL_law_801 : decode cL_law 801 = .ok (.aload_n 0, 1) := by decide +kernel
theorem dL_law_802 : decode cL_law 802 = .ok (.iload 4, 2) := by decide +kernel
theorem dL_law_804 : decode cL_law 804 = .ok (.iconst 2, 1) := by decide +kernel
theorem dL_law_805 : decode cL_law 805 = .ok (.iadd, 1) := by decide +kernel
theorem dL_law_806 : decode cL_law 806 = .ok (.iaload, 1) := by decide +kernel
theorem dL_law_807 : decode cL_law 807 = .ok (.invokevirtual 145, 3) := by decide +kernel
theorem dL_law_810 : decode cL_law 810 = .ok (.istore 6, 2) := by decide +kernel
theorem dL_law_812 : decode cL_law 812 = .ok (.aload_n 2, 1) := by decide +kernel
theorem dL_law_813 : decode cL_law 813 = .ok (.invokevirtual 107, 3) := by decide +kernel
theorem dL_law_816 : decode cL_law 816 = .ok (.iload 5, 2) := by decide +kernel
theorem dL_law_818 : decode cL_law 818 = .ok (.if_icmp .eq 5, 3) := by decide +kernel
theorem dL_law_821 : decode cL_law 821 = .ok (.iconst 0, 1) := by decide +kernel
theorem dL_law_822 : decode cL_law 822 = .ok (.ireturn, 1) := by decide +kernel
theorem dL_law_823 : decode cL_law 823 = .ok (.iload 5, 2) := by decide +kernel
theorem dL_law_825 : decode cL_law 825 = .ok (.ifCond .ne 15, 3) := by decide +kernel
theorem dL_law_828 : decode cL_law 828 = .ok (.aload_n 3, 1) := by decide +kernel
theorem dL_law_829 : decode cL_law 829 = .ok (.iconst 0, 1) := by decide +kernel
theorem dL_law_830 : decode cL_law 830 = .ok (.laload, 1) := by decide +kernel
theorem dL_law_831 : decode cL_law 831 = .ok (.iload 6, 2) := by decide +kernel
theorem dL_law_833 : decode cL_law 833 = .ok (.i2l, 1) := by decide +kernel
theorem dL_law_834 : decode cL_law 834 = .ok (.lcmp, 1) := by decide +kernel
theorem dL_law_835 : decode cL_law 835 = .ok (.ifCond .eq 5, 3) := by decide +kernel
theorem dL_law_838 : decode cL_law 838 = .ok (.iconst 0, 1) := by decide +kernel
theorem dL_law_839 : decode cL_law 839 = .ok (.ireturn, 1) := by decide +kernel
theorem dL_law_840 : decode cL_law 840 = .ok (.goto 1159, 3) := by decide +kernel
theorem dL_law_843 : decode cL_law 843 = .ok (.aload_n 1, 1) := by decide +kernel
theorem dL_law_844 : decode cL_law 844 = .ok (.aload_n 0, 1) := by decide +kernel
theorem dL_law_845 : decode cL_law 845 = .ok (.iload 4, 2) := by decide +kernel
theorem dL_law_847 : decode cL_law 847 = .ok (.iconst 1, 1) := by decide +kernel
theorem dL_law_848 : decode cL_law 848 = .ok (.iadd, 1) := by decide +kernel
theorem dL_law_849 : decode cL_law 849 = .ok (.iaload, 1) := by decide +kernel
theorem dL_law_850 : decode cL_law 850 = .ok (.aload_n 3, 1) := by decide +kernel
theorem dL_law_851 : decode cL_law 851 = .ok (.invokestatic 146, 3) := by decide +kernel
theorem dL_law_854 : decode cL_law 854 = .ok (.istore 5, 2) := by decide +kernel
theorem dL_law_856 : decode cL_law 856 = .ok (.aload_n 2, 1) := by decide +kernel
theorem dL_law_857 : decode cL_law 857 = .ok (.aload_n 0, 1) := by decide +kernel
theorem dL_law_858 : decode cL_law 858 = .ok (.iload 4, 2) := by decide +kernel
theorem dL_law_860 : decode cL_law 860 = .ok (.iconst 1, 1) := by decide +kernel
theorem dL_law_861 : decode cL_law 861 = .ok (.iadd, 1) := by decide +kernel
theorem dL_law_862 : decode cL_law 862 = .ok (.iaload, 1) := by decide +kernel
theorem dL_law_863 : decode cL_law 863 = .ok (.invokevirtual 148, 3) := by decide +kernel
theorem dL_law_866 : decode cL_law 866 = .ok (.lstore 6, 2) := by decide +kernel
theorem dL_law_868 : decode cL_law 868 = .ok (.aload_n 2, 1) := by decide +kernel
theorem dL_law_869 : decode cL_law 869 = .ok (.invokevirtual 107, 3) := by decide +kernel
theorem dL_law_872 : decode cL_law 872 = .ok (.iload 5, 2) := by decide +kernel
theorem dL_law_874 : decode cL_law 874 = .ok (.if_icmp .eq 5, 3) := by decide +kernel
theorem dL_law_877 : decode cL_law 877 = .ok (.iconst 0, 1) := by decide +kernel
theorem dL_law_878 : decode cL_law 878 = .ok (.ireturn, 1) := by decide +kernel
theorem dL_law_879 : decode cL_law 879 = .ok (.iload 5, 2) := by decide +kernel
theorem dL_law_881 : decode cL_law 881 = .ok (.ifCond .ne 14, 3) := by decide +kernel
theorem dL_law_884 : decode cL_law 884 = .ok (.aload_n 3, 1) := by decide +kernel
theorem dL_law_885 : decode cL_law 885 = .ok (.iconst 0, 1) := by decide +kernel
theorem dL_law_886 : decode cL_law 886 = .ok (.laload, 1) := by decide +kernel
theorem dL_law_887 : decode cL_law 887 = .ok (.lload 6, 2) := by decide +kernel
theorem dL_law_889 : decode cL_law 889 = .ok (.lcmp, 1) := by decide +kernel
theorem dL_law_890 : decode cL_law 890 = .ok (.ifCond .eq 5, 3) := by decide +kernel
theorem dL_law_893 : decode cL_law 893 = .ok (.iconst 0, 1) := by decide +kernel
theorem dL_law_894 : decode cL_law 894 = .ok (.ireturn, 1) := by decide +kernel
theorem dL_law_895 : decode cL_law 895 = .ok (.goto 1104, 3) := by decide +kernel
theorem dL_law_898 : decode cL_law 898 = .ok (.aload_n 1, 1) := by decide +kernel
theorem dL_law_899 : decode cL_law 899 = .ok (.invokevirtual 149, 3) := by decide +kernel
theorem dL_law_902 : decode cL_law 902 = .ok (.aload_n 2, 1) := by decide +kernel
theorem dL_law_903 : decode cL_law 903 = .ok (.invokevirtual 152, 3) := by decide +kernel
theorem dL_law_906 : decode cL_law 906 = .ok (.if_icmp .eq 1093, 3) := by decide +kernel
theorem dL_law_909 : decode cL_law 909 = .ok (.iconst 0, 1) := by decide +kernel
theorem dL_law_910 : decode cL_law 910 = .ok (.ireturn, 1) := by decide +kernel
theorem dL_law_911 : decode cL_law 911 = .ok (.aload_n 1, 1) := by decide +kernel
theorem dL_law_912 : decode cL_law 912 = .ok (.aload_n 0, 1) := by decide +kernel
theorem dL_law_913 : decode cL_law 913 = .ok (.iload 4, 2) := by decide +kernel
theorem dL_law_915 : decode cL_law 915 = .ok (.iconst 1, 1) := by decide +kernel
theorem dL_law_916 : decode cL_law 916 = .ok (.iadd, 1) := by decide +kernel
theorem dL_law_917 : decode cL_law 917 = .ok (.iaload, 1) := by decide +kernel
theorem dL_law_918 : decode cL_law 918 = .ok (.aload_n 3, 1) := by decide +kernel
theorem dL_law_919 : decode cL_law 919 = .ok (.invokestatic 153, 3) := by decide +kernel
theorem dL_law_922 : decode cL_law 922 = .ok (.istore 5, 2) := by decide +kernel
theorem dL_law_924 : decode cL_law 924 = .ok (.aload_n 2, 1) := by decide +kernel
theorem dL_law_925 : decode cL_law 925 = .ok (.aload_n 0, 1) := by decide +kernel
theorem dL_law_926 : decode cL_law 926 = .ok (.iload 4, 2) := by decide +kernel
theorem dL_law_928 : decode cL_law 928 = .ok (.iconst 1, 1) := by decide +kernel
theorem dL_law_929 : decode cL_law 929 = .ok (.iadd, 1) := by decide +kernel
theorem dL_law_930 : decode cL_law 930 = .ok (.iaload, 1) := by decide +kernel
theorem dL_law_931 : decode cL_law 931 = .ok (.invokevirtual 155, 3) := by decide +kernel
theorem dL_law_934 : decode cL_law 934 = .ok (.istore 6, 2) := by decide +kernel
theorem dL_law_936 : decode cL_law 936 = .ok (.aload_n 2, 1) := by decide +kernel
theorem dL_law_937 : decode cL_law 937 = .ok (.invokevirtual 107, 3) := by decide +kernel
theorem dL_law_940 : decode cL_law 940 = .ok (.iload 5, 2) := by decide +kernel
theorem dL_law_942 : decode cL_law 942 = .ok (.if_icmp .eq 5, 3) := by decide +kernel
theorem dL_law_945 : decode cL_law 945 = .ok (.iconst 0, 1) := by decide +kernel
theorem dL_law_946 : decode cL_law 946 = .ok (.ireturn, 1) := by decide +kernel
theorem dL_law_947 : decode cL_law 947 = .ok (.iload 5, 2) := by decide +kernel
theorem dL_law_949 : decode cL_law 949 = .ok (.ifCond .ne 15, 3) := by decide +kernel
theorem dL_law_952 : decode cL_law 952 = .ok (.aload_n 3, 1) := by decide +kernel
theorem dL_law_953 : decode cL_law 953 = .ok (.iconst 0, 1) := by decide +kernel
theorem dL_law_954 : decode cL_law 954 = .ok (.laload, 1) := by decide +kernel
theorem dL_law_955 : decode cL_law 955 = .ok (.iload 6, 2) := by decide +kernel
theorem dL_law_957 : decode cL_law 957 = .ok (.i2l, 1) := by decide +kernel
theorem dL_law_958 : decode cL_law 958 = .ok (.lcmp, 1) := by decide +kernel
theorem dL_law_959 : decode cL_law 959 = .ok (.ifCond .eq 5, 3) := by decide +kernel
theorem dL_law_962 : decode cL_law 962 = .ok (.iconst 0, 1) := by decide +kernel
theorem dL_law_963 : decode cL_law 963 = .ok (.ireturn, 1) := by decide +kernel
theorem dL_law_964 : decode cL_law 964 = .ok (.goto 1035, 3) := by decide +kernel
theorem dL_law_967 : decode cL_law 967 = .ok (.aload_n 1, 1) := by decide +kernel
theorem dL_law_968 : decode cL_law 968 = .ok (.invokevirtual 156, 3) := by decide +kernel
theorem dL_law_971 : decode cL_law 971 = .ok (.aload_n 2, 1) := by decide +kernel
theorem dL_law_972 : decode cL_law 972 = .ok (.invokevirtual 160, 3) := by decide +kernel
theorem dL_law_975 : decode cL_law 975 = .ok (.if_icmp .eq 1024, 3) := by decide +kernel
theorem dL_law_978 : decode cL_law 978 = .ok (.iconst 0, 1) := by decide +kernel
theorem dL_law_979 : decode cL_law 979 = .ok (.ireturn, 1) := by decide +kernel
theorem dL_law_980 : decode cL_law 980 = .ok (.aload_n 1, 1) := by decide +kernel
theorem dL_law_981 : decode cL_law 981 = .ok (.invokevirtual 161, 3) := by decide +kernel
theorem dL_law_984 : decode cL_law 984 = .ok (.aload_n 2, 1) := by decide +kernel
theorem dL_law_985 : decode cL_law 985 = .ok (.invokevirtual 164, 3) := by decide +kernel
theorem dL_law_988 : decode cL_law 988 = .ok (.if_icmp .eq 1011, 3) := by decide +kernel
theorem dL_law_991 : decode cL_law 991 = .ok (.iconst 0, 1) := by decide +kernel
theorem dL_law_992 : decode cL_law 992 = .ok (.ireturn, 1) := by decide +kernel
theorem dL_law_993 : decode cL_law 993 = .ok (.aload_n 1, 1) := by decide +kernel
theorem dL_law_994 : decode cL_law 994 = .ok (.invokevirtual 165, 3) := by decide +kernel
theorem dL_law_997 : decode cL_law 997 = .ok (.aload_n 2, 1) := by decide +kernel
theorem dL_law_998 : decode cL_law 998 = .ok (.invokevirtual 168, 3) := by decide +kernel
theorem dL_law_1001 : decode cL_law 1001 = .ok (.if_icmp .eq 998, 3) := by decide +kernel
theorem dL_law_1004 : decode cL_law 1004 = .ok (.iconst 0, 1) := by decide +kernel
theorem dL_law_1005 : decode cL_law 1005 = .ok (.ireturn, 1) := by decide +kernel
theorem dL_law_1006 : decode cL_law 1006 = .ok (.aload_n 1, 1) := by decide +kernel
theorem dL_law_1007 : decode cL_law 1007 = .ok (.aload_n 0, 1) := by decide +kernel
theorem dL_law_1008 : decode cL_law 1008 = .ok (.iload 4, 2) := by decide +kernel
theorem dL_law_1010 : decode cL_law 1010 = .ok (.iconst 1, 1) := by decide +kernel
theorem dL_law_1011 : decode cL_law 1011 = .ok (.iadd, 1) := by decide +kernel
theorem dL_law_1012 : decode cL_law 1012 = .ok (.iaload, 1) := by decide +kernel
theorem dL_law_1013 : decode cL_law 1013 = .ok (.aload_n 3, 1) := by decide +kernel
theorem dL_law_1014 : decode cL_law 1014 = .ok (.invokestatic 169, 3) := by decide +kernel
theorem dL_law_1017 : decode cL_law 1017 = .ok (.istore 5, 2) := by decide +kernel
theorem dL_law_1019 : decode cL_law 1019 = .ok (.aload_n 2, 1) := by decide +kernel
theorem dL_law_1020 : decode cL_law 1020 = .ok (.aload_n 0, 1) := by decide +kernel
theorem dL_law_1021 : decode cL_law 1021 = .ok (.iload 4, 2) := by decide +kernel
theorem dL_law_1023 : decode cL_law 1023 = .ok (.iconst 1, 1) := by decide +kernel
theorem dL_law_1024 : decode cL_law 1024 = .ok (.iadd, 1) := by decide +kernel
theorem dL_law_1025 : decode cL_law 1025 = .ok (.iaload, 1) := by decide +kernel
theorem dL_law_1026 : decode cL_law 1026 = .ok (.invokevirtual 171, 3) := by decide +kernel
theorem dL_law_1029 : decode cL_law 1029 = .ok (.istore 6, 2) := by decide +kernel
theorem dL_law_1031 : decode cL_law 1031 = .ok (.aload_n 2, 1) := by decide +kernel
theorem dL_law_1032 : decode cL_law 1032 = .ok (.invokevirtual 107, 3) := by decide +kernel
theorem dL_law_1035 : decode cL_law 1035 = .ok (.iload 5, 2) := by decide +kernel
theorem dL_law_1037 : decode cL_law 1037 = .ok (.if_icmp .eq 5, 3) := by decide +kernel
theorem dL_law_1040 : decode cL_law 1040 = .ok (.iconst 0, 1) := by decide +kernel
theorem dL_law_1041 : decode cL_law 1041 = .ok (.ireturn, 1) := by decide +kernel
theorem dL_law_1042 : decode cL_law 1042 = .ok (.iload 5, 2) := by decide +kernel
theorem dL_law_1044 : decode cL_law 1044 = .ok (.ifCond .ne 15, 3) := by decide +kernel
theorem dL_law_1047 : decode cL_law 1047 = .ok (.aload_n 3, 1) := by decide +kernel
theorem dL_law_1048 : decode cL_law 1048 = .ok (.iconst 0, 1) := by decide +kernel
theorem dL_law_1049 : decode cL_law 1049 = .ok (.laload, 1) := by decide +kernel
theorem dL_law_1050 : decode cL_law 1050 = .ok (.iload 6, 2) := by decide +kernel
theorem dL_law_1052 : decode cL_law 1052 = .ok (.i2l, 1) := by decide +kernel
theorem dL_law_1053 : decode cL_law 1053 = .ok (.lcmp, 1) := by decide +kernel
theorem dL_law_1054 : decode cL_law 1054 = .ok (.ifCond .eq 5, 3) := by decide +kernel
theorem dL_law_1057 : decode cL_law 1057 = .ok (.iconst 0, 1) := by decide +kernel
theorem dL_law_1058 : decode cL_law 1058 = .ok (.ireturn, 1) := by decide +kernel
theorem dL_law_1059 : decode cL_law 1059 = .ok (.goto 940, 3) := by decide +kernel
theorem dL_law_1062 : decode cL_law 1062 = .ok (.aload_n 1, 1) := by decide +kernel
theorem dL_law_1063 : decode cL_law 1063 = .ok (.aload_n 0, 1) := by decide +kernel
theorem dL_law_1064 : decode cL_law 1064 = .ok (.iload 4, 2) := by decide +kernel
theorem dL_law_1066 : decode cL_law 1066 = .ok (.iconst 1, 1) := by decide +kernel
theorem dL_law_1067 : decode cL_law 1067 = .ok (.iadd, 1) := by decide +kernel
theorem dL_law_1068 : decode cL_law 1068 = .ok (.iaload, 1) := by decide +kernel
theorem dL_law_1069 : decode cL_law 1069 = .ok (.aload_n 3, 1) := by decide +kernel
theorem dL_law_1070 : decode cL_law 1070 = .ok (.invokestatic 172, 3) := by decide +kernel
theorem dL_law_1073 : decode cL_law 1073 = .ok (.istore 5, 2) := by decide +kernel
theorem dL_law_1075 : decode cL_law 1075 = .ok (.aload_n 2, 1) := by decide +kernel
theorem dL_law_1076 : decode cL_law 1076 = .ok (.aload_n 0, 1) := by decide +kernel
theorem dL_law_1077 : decode cL_law 1077 = .ok (.iload 4, 2) := by decide +kernel
theorem dL_law_1079 : decode cL_law 1079 = .ok (.iconst 1, 1) := by decide +kernel
theorem dL_law_1080 : decode cL_law 1080 = .ok (.iadd, 1) := by decide +kernel
theorem dL_law_1081 : decode cL_law 1081 = .ok (.iaload, 1) := by decide +kernel
theorem dL_law_1082 : decode cL_law 1082 = .ok (.invokevirtual 174, 3) := by decide +kernel
theorem dL_law_1085 : decode cL_law 1085 = .ok (.lstore 6, 2) := by decide +kernel
theorem dL_law_1087 : decode cL_law 1087 = .ok (.aload_n 2, 1) := by decide +kernel
theorem dL_law_1088 : decode cL_law 1088 = .ok (.invokevirtual 107, 3) := by decide +kernel
theorem dL_law_1091 : decode cL_law 1091 = .ok (.iload 5, 2) := by decide +kernel
theorem dL_law_1093 : decode cL_law 1093 = .ok (.if_icmp .eq 5, 3) := by decide +kernel
theorem dL_law_1096 : decode cL_law 1096 = .ok (.iconst 0, 1) := by decide +kernel
theorem dL_law_1097 : decode cL_law 1097 = .ok (.ireturn, 1) := by decide +kernel
theorem dL_law_1098 : decode cL_law 1098 = .ok (.iload 5, 2) := by decide +kernel
theorem dL_law_1100 : decode cL_law 1100 = .ok (.ifCond .ne 14, 3) := by decide +kernel
theorem dL_law_1103 : decode cL_law 1103 = .ok (.aload_n 3, 1) := by decide +kernel
theorem dL_law_1104 : decode cL_law 1104 = .ok (.iconst 0, 1) := by decide +kernel
theorem dL_law_1105 : decode cL_law 1105 = .ok (.laload, 1) := by decide +kernel
theorem dL_law_1106 : decode cL_law 1106 = .ok (.lload 6, 2) := by decide +kernel
theorem dL_law_1108 : decode cL_law 1108 = .ok (.lcmp, 1) := by decide +kernel
theorem dL_law_1109 : decode cL_law 1109 = .ok (.ifCond .eq 5, 3) := by decide +kernel
theorem dL_law_1112 : decode cL_law 1112 = .ok (.iconst 0, 1) := by decide +kernel
theorem dL_law_1113 : decode cL_law 1113 = .ok (.ireturn, 1) := by decide +kernel
theorem dL_law_1114 : decode cL_law 1114 = .ok (.goto 885, 3) := by decide +kernel
theorem dL_law_1117 : decode cL_law 1117 = .ok (.aload_n 1, 1) := by decide +kernel
theorem dL_law_1118 : decode cL_law 1118 = .ok (.aload_n 0, 1) := by decide +kernel
theorem dL_law_1119 : decode cL_law 1119 = .ok (.iload 4, 2) := by decide +kernel
theorem dL_law_1121 : decode cL_law 1121 = .ok (.iconst 1, 1) := by decide +kernel
theorem dL_law_1122 : decode cL_law 1122 = .ok (.iadd, 1) := by decide +kernel
theorem dL_law_1123 : decode cL_law 1123 = .ok (.iaload, 1) := by decide +kernel
theorem dL_law_1124 : decode cL_law 1124 = .ok (.aload_n 0, 1) := by decide +kernel
theorem dL_law_1125 : decode cL_law 1125 = .ok (.iload 4, 2) := by decide +kernel
theorem dL_law_1127 : decode cL_law 1127 = .ok (.iconst 2, 1) := by decide +kernel
theorem dL_law_1128 : decode cL_law 1128 = .ok (.iadd, 1) := by decide +kernel
theorem dL_law_1129 : decode cL_law 1129 = .ok (.iaload, 1) := by decide +kernel
theorem dL_law_1130 : decode cL_law 1130 = .ok (.aload_n 3, 1) := by decide +kernel
theorem dL_law_1131 : decode cL_law 1131 = .ok (.invokestatic 175, 3) := by decide +kernel
theorem dL_law_1134 : decode cL_law 1134 = .ok (.istore 5, 2) := by decide +kernel
theorem dL_law_1136 : decode cL_law 1136 = .ok (.aload_n 2, 1) := by decide +kernel
theorem dL_law_1137 : decode cL_law 1137 = .ok (.aload_n 0, 1) := by decide +kernel
theorem dL_law_1138 : decode cL_law 1138 = .ok (.iload 4, 2) := by decide +kernel
theorem dL_law_1140 : decode cL_law 1140 = .ok (.iconst 1, 1) := by decide +kernel
theorem dL_law_1141 : decode cL_law 1141 = .ok (.iadd, 1) := by decide +kernel
theorem dL_law_1142 : decode cL_law 1142 = .ok (.iaload, 1) := by decide +kernel
theorem dL_law_1143 : decode cL_law 1143 = .ok (.aload_n 0, 1) := by decide +kernel
theorem dL_law_1144 : decode cL_law 1144 = .ok (.iload 4, 2) := by decide +kernel
theorem dL_law_1146 : decode cL_law 1146 = .ok (.iconst 2, 1) := by decide +kernel
theorem dL_law_1147 : decode cL_law 1147 = .ok (.iadd, 1) := by decide +kernel
theorem dL_law_1148 : decode cL_law 1148 = .ok (.iaload, 1) := by decide +kernel
theorem dL_law_1149 : decode cL_law 1149 = .ok (.invokevirtual 177, 3) := by decide +kernel
theorem dL_law_1152 : decode cL_law 1152 = .ok (.istore 6, 2) := by decide +kernel
theorem dL_law_1154 : decode cL_law 1154 = .ok (.aload_n 2, 1) := by decide +kernel
theorem dL_law_1155 : decode cL_law 1155 = .ok (.invokevirtual 107, 3) := by decide +kernel
theorem dL_law_1158 : decode cL_law 1158 = .ok (.iload 5, 2) := by decide +kernel
theorem dL_law_1160 : decode cL_law 1160 = .ok (.if_icmp .eq 5, 3) := by decide +kernel
theorem dL_law_1163 : decode cL_law 1163 = .ok (.iconst 0, 1) := by decide +kernel
theorem dL_law_1164 : decode cL_law 1164 = .ok (.ireturn, 1) := by decide +kernel
theorem dL_law_1165 : decode cL_law 1165 = .ok (.iload 5, 2) := by decide +kernel
theorem dL_law_1167 : decode cL_law 1167 = .ok (.ifCond .ne 15, 3) := by decide +kernel
theorem dL_law_1170 : decode cL_law 1170 = .ok (.aload_n 3, 1) := by decide +kernel
theorem dL_law_1171 : decode cL_law 1171 = .ok (.iconst 0, 1) := by decide +kernel
theorem dL_law_1172 : decode cL_law 1172 = .ok (.laload, 1) := by decide +kernel
theorem dL_law_1173 : decode cL_law 1173 = .ok (.iload 6, 2) := by decide +kernel
theorem dL_law_1175 : decode cL_law 1175 = .ok (.i2l, 1) := by decide +kernel
theorem dL_law_1176 : decode cL_law 1176 = .ok (.lcmp, 1) := by decide +kernel
theorem dL_law_1177 : decode cL_law 1177 = .ok (.ifCond .eq 5, 3) := by decide +kernel
theorem dL_law_1180 : decode cL_law 1180 = .ok (.iconst 0, 1) := by decide +kernel
theorem dL_law_1181 : decode cL_law 1181 = .ok (.ireturn, 1) := by decide +kernel
theorem dL_law_1182 : decode cL_law 1182 = .ok (.goto 817, 3) := by decide +kernel
theorem dL_law_1185 : decode cL_law 1185 = .ok (.aload_n 1, 1) := by decide +kernel
theorem dL_law_1186 : decode cL_law 1186 = .ok (.aload_n 0, 1) := by decide +kernel
theorem dL_law_1187 : decode cL_law 1187 = .ok (.iload 4, 2) := by decide +kernel
theorem dL_law_1189 : decode cL_law 1189 = .ok (.iconst 1, 1) := by decide +kernel
theorem dL_law_1190 : decode cL_law 1190 = .ok (.iadd, 1) := by decide +kernel
theorem dL_law_1191 : decode cL_law 1191 = .ok (.iaload, 1) := by decide +kernel
theorem dL_law_1192 : decode cL_law 1192 = .ok (.aload_n 3, 1) := by decide +kernel
theorem dL_law_1193 : decode cL_law 1193 = .ok (.invokestatic 178, 3) := by decide +kernel
theorem dL_law_1196 : decode cL_law 1196 = .ok (.istore 5, 2) := by decide +kernel
theorem dL_law_1198 : decode cL_law 1198 = .ok (.aload_n 2, 1) := by decide +kernel
theorem dL_law_1199 : decode cL_law 1199 = .ok (.aload_n 0, 1) := by decide +kernel
theorem dL_law_1200 : decode cL_law 1200 = .ok (.iload 4, 2) := by decide +kernel
theorem dL_law_1202 : decode cL_law 1202 = .ok (.iconst 1, 1) := by decide +kernel
theorem dL_law_1203 : decode cL_law 1203 = .ok (.iadd, 1) := by decide +kernel
theorem dL_law_1204 : decode cL_law 1204 = .ok (.iaload, 1) := by decide +kernel
theorem dL_law_1205 : decode cL_law 1205 = .ok (.invokevirtual 180, 3) := by decide +kernel
theorem dL_law_1208 : decode cL_law 1208 = .ok (.lstore 6, 2) := by decide +kernel
theorem dL_law_1210 : decode cL_law 1210 = .ok (.aload_n 2, 1) := by decide +kernel
theorem dL_law_1211 : decode cL_law 1211 = .ok (.invokevirtual 107, 3) := by decide +kernel
theorem dL_law_1214 : decode cL_law 1214 = .ok (.iload 5, 2) := by decide +kernel
theorem dL_law_1216 : decode cL_law 1216 = .ok (.if_icmp .eq 5, 3) := by decide +kernel
theorem dL_law_1219 : decode cL_law 1219 = .ok (.iconst 0, 1) := by decide +kernel
theorem dL_law_1220 : decode cL_law 1220 = .ok (.ireturn, 1) := by decide +kernel
theorem dL_law_1221 : decode cL_law 1221 = .ok (.iload 5, 2) := by decide +kernel
theorem dL_law_1223 : decode cL_law 1223 = .ok (.ifCond .ne 14, 3) := by decide +kernel
theorem dL_law_1226 : decode cL_law 1226 = .ok (.aload_n 3, 1) := by decide +kernel
theorem dL_law_1227 : decode cL_law 1227 = .ok (.iconst 0, 1) := by decide +kernel
theorem dL_law_1228 : decode cL_law 1228 = .ok (.laload, 1) := by decide +kernel
theorem dL_law_1229 : decode cL_law 1229 = .ok (.lload 6, 2) := by decide +kernel
theorem dL_law_1231 : decode cL_law 1231 = .ok (.lcmp, 1) := by decide +kernel
theorem dL_law_1232 : decode cL_law 1232 = .ok (.ifCond .eq 5, 3) := by decide +kernel
theorem dL_law_1235 : decode cL_law 1235 = .ok (.iconst 0, 1) := by decide +kernel
theorem dL_law_1236 : decode cL_law 1236 = .ok (.ireturn, 1) := by decide +kernel
theorem dL_law_1237 : decode cL_law 1237 = .ok (.goto 762, 3) := by decide +kernel
theorem dL_law_1240 : decode cL_law 1240 = .ok (.aload_n 1, 1) := by decide +kernel
theorem dL_law_1241 : decode cL_law 1241 = .ok (.aload_n 0, 1) := by decide +kernel
theorem dL_law_1242 : decode cL_law 1242 = .ok (.iload 4, 2) := by decide +kernel
theorem dL_law_1244 : decode cL_law 1244 = .ok (.iconst 1, 1) := by decide +kernel
theorem dL_law_1245 : decode cL_law 1245 = .ok (.iadd, 1) := by decide +kernel
theorem dL_law_1246 : decode cL_law 1246 = .ok (.iaload, 1) := by decide +kernel
theorem dL_law_1247 : decode cL_law 1247 = .ok (.aload_n 3, 1) := by decide +kernel
theorem dL_law_1248 : decode cL_law 1248 = .ok (.invokestatic 181, 3) := by decide +kernel
theorem dL_law_1251 : decode cL_law 1251 = .ok (.istore 5, 2) := by decide +kernel
theorem dL_law_1253 : decode cL_law 1253 = .ok (.aload_n 2, 1) := by decide +kernel
theorem dL_law_1254 : decode cL_law 1254 = .ok (.aload_n 0, 1) := by decide +kernel
theorem dL_law_1255 : decode cL_law 1255 = .ok (.iload 4, 2) := by decide +kernel
theorem dL_law_1257 : decode cL_law 1257 = .ok (.iconst 1, 1) := by decide +kernel
theorem dL_law_1258 : decode cL_law 1258 = .ok (.iadd, 1) := by decide +kernel
theorem dL_law_1259 : decode cL_law 1259 = .ok (.iaload, 1) := by decide +kernel
theorem dL_law_1260 : decode cL_law 1260 = .ok (.invokevirtual 183, 3) := by decide +kernel
theorem dL_law_1263 : decode cL_law 1263 = .ok (.istore 6, 2) := by decide +kernel
theorem dL_law_1265 : decode cL_law 1265 = .ok (.aload_n 2, 1) := by decide +kernel
theorem dL_law_1266 : decode cL_law 1266 = .ok (.invokevirtual 107, 3) := by decide +kernel
theorem dL_law_1269 : decode cL_law 1269 = .ok (.iload 5, 2) := by decide +kernel
theorem dL_law_1271 : decode cL_law 1271 = .ok (.if_icmp .eq 5, 3) := by decide +kernel
theorem dL_law_1274 : decode cL_law 1274 = .ok (.iconst 0, 1) := by decide +kernel
theorem dL_law_1275 : decode cL_law 1275 = .ok (.ireturn, 1) := by decide +kernel
theorem dL_law_1276 : decode cL_law 1276 = .ok (.iload 5, 2) := by decide +kernel
theorem dL_law_1278 : decode cL_law 1278 = .ok (.ifCond .ne 15, 3) := by decide +kernel
theorem dL_law_1281 : decode cL_law 1281 = .ok (.aload_n 3, 1) := by decide +kernel
theorem dL_law_1282 : decode cL_law 1282 = .ok (.iconst 0, 1) := by decide +kernel
theorem dL_law_1283 : decode cL_law 1283 = .ok (.laload, 1) := by decide +kernel
theorem dL_law_1284 : decode cL_law 1284 = .ok (.iload 6, 2) := by decide +kernel
theorem dL_law_1286 : decode cL_law 1286 = .ok (.i2l, 1) := by decide +kernel
theorem dL_law_1287 : decode cL_law 1287 = .ok (.lcmp, 1) := by decide +kernel
theorem dL_law_1288 : decode cL_law 1288 = .ok (.ifCond .eq 5, 3) := by decide +kernel
theorem dL_law_1291 : decode cL_law 1291 = .ok (.iconst 0, 1) := by decide +kernel
theorem dL_law_1292 : decode cL_law 1292 = .ok (.ireturn, 1) := by decide +kernel
theorem dL_law_1293 : decode cL_law 1293 = .ok (.goto 706, 3) := by decide +kernel
theorem dL_law_1296 : decode cL_law 1296 = .ok (.aload_n 1, 1) := by decide +kernel
theorem dL_law_1297 : decode cL_law 1297 = .ok (.aload_n 0, 1) := by decide +kernel
theorem dL_law_1298 : decode cL_law 1298 = .ok (.iload 4, 2) := by decide +kernel
theorem dL_law_1300 : decode cL_law 1300 = .ok (.iconst 1, 1) := by decide +kernel
theorem dL_law_1301 : decode cL_law 1301 = .ok (.iadd, 1) := by decide +kernel
theorem dL_law_1302 : decode cL_law 1302 = .ok (.iaload, 1) := by decide +kernel
theorem dL_law_1303 : decode cL_law 1303 = .ok (.aload_n 3, 1) := by decide +kernel
theorem dL_law_1304 : decode cL_law 1304 = .ok (.invokestatic 184, 3) := by decide +kernel
theorem dL_law_1307 : decode cL_law 1307 = .ok (.istore 5, 2) := by decide +kernel
theorem dL_law_1309 : decode cL_law 1309 = .ok (.aload_n 2, 1) := by decide +kernel
theorem dL_law_1310 : decode cL_law 1310 = .ok (.aload_n 0, 1) := by decide +kernel
theorem dL_law_1311 : decode cL_law 1311 = .ok (.iload 4, 2) := by decide +kernel
theorem dL_law_1313 : decode cL_law 1313 = .ok (.iconst 1, 1) := by decide +kernel
theorem dL_law_1314 : decode cL_law 1314 = .ok (.iadd, 1) := by decide +kernel
theorem dL_law_1315 : decode cL_law 1315 = .ok (.iaload, 1) := by decide +kernel
theorem dL_law_1316 : decode cL_law 1316 = .ok (.invokevirtual 186, 3) := by decide +kernel
theorem dL_law_1319 : decode cL_law 1319 = .ok (.istore 6, 2) := by decide +kernel
theorem dL_law_1321 : decode cL_law 1321 = .ok (.aload_n 2, 1) := by decide +kernel
theorem dL_law_1322 : decode cL_law 1322 = .ok (.invokevirtual 107, 3) := by decide +kernel
theorem dL_law_1325 : decode cL_law 1325 = .ok (.iload 5, 2) := by decide +kernel
theorem dL_law_1327 : decode cL_law 1327 = .ok (.if_icmp .eq 5, 3) := by decide +kernel
theorem dL_law_1330 : decode cL_law 1330 = .ok (.iconst 0, 1) := by decide +kernel
theorem dL_law_1331 : decode cL_law 1331 = .ok (.ireturn, 1) := by decide +kernel
theorem dL_law_1332 : decode cL_law 1332 = .ok (.iload 5, 2) := by decide +kernel
theorem dL_law_1334 : decode cL_law 1334 = .ok (.ifCond .ne 15, 3) := by decide +kernel
theorem dL_law_1337 : decode cL_law 1337 = .ok (.aload_n 3, 1) := by decide +kernel
theorem dL_law_1338 : decode cL_law 1338 = .ok (.iconst 0, 1) := by decide +kernel
theorem dL_law_1339 : decode cL_law 1339 = .ok (.laload, 1) := by decide +kernel
theorem dL_law_1340 : decode cL_law 1340 = .ok (.iload 6, 2) := by decide +kernel
theorem dL_law_1342 : decode cL_law 1342 = .ok (.i2l, 1) := by decide +kernel
theorem dL_law_1343 : decode cL_law 1343 = .ok (.lcmp, 1) := by decide +kernel
theorem dL_law_1344 : decode cL_law 1344 = .ok (.ifCond .eq 5, 3) := by decide +kernel
theorem dL_law_1347 : decode cL_law 1347 = .ok (.iconst 0, 1) := by decide +kernel
theorem dL_law_1348 : decode cL_law 1348 = .ok (.ireturn, 1) := by decide +kernel
theorem dL_law_1349 : decode cL_law 1349 = .ok (.goto 650, 3) := by decide +kernel
theorem dL_law_1352 : decode cL_law 1352 = .ok (.aload_n 1, 1) := by decide +kernel
theorem dL_law_1353 : decode cL_law 1353 = .ok (.aload_n 0, 1) := by decide +kernel
theorem dL_law_1354 : decode cL_law 1354 = .ok (.iload 4, 2) := by decide +kernel
theorem dL_law_1356 : decode cL_law 1356 = .ok (.iconst 1, 1) := by decide +kernel
theorem dL_law_1357 : decode cL_law 1357 = .ok (.iadd, 1) := by decide +kernel
theorem dL_law_1358 : decode cL_law 1358 = .ok (.iaload, 1) := by decide +kernel
theorem dL_law_1359 : decode cL_law 1359 = .ok (.aload_n 0, 1) := by decide +kernel
theorem dL_law_1360 : decode cL_law 1360 = .ok (.iload 4, 2) := by decide +kernel
theorem dL_law_1362 : decode cL_law 1362 = .ok (.iconst 2, 1) := by decide +kernel
theorem dL_law_1363 : decode cL_law 1363 = .ok (.iadd, 1) := by decide +kernel
theorem dL_law_1364 : decode cL_law 1364 = .ok (.iaload, 1) := by decide +kernel
theorem dL_law_1365 : decode cL_law 1365 = .ok (.aload_n 0, 1) := by decide +kernel
theorem dL_law_1366 : decode cL_law 1366 = .ok (.iload 4, 2) := by decide +kernel
theorem dL_law_1368 : decode cL_law 1368 = .ok (.iconst 3, 1) := by decide +kernel
theorem dL_law_1369 : decode cL_law 1369 = .ok (.iadd, 1) := by decide +kernel
theorem dL_law_1370 : decode cL_law 1370 = .ok (.iaload, 1) := by decide +kernel
theorem dL_law_1371 : decode cL_law 1371 = .ok (.ifCond .eq 7, 3) := by decide +kernel
theorem dL_law_1374 : decode cL_law 1374 = .ok (.iconst 1, 1) := by decide +kernel
theorem dL_law_1375 : decode cL_law 1375 = .ok (.goto 4, 3) := by decide +kernel
theorem dL_law_1378 : decode cL_law 1378 = .ok (.iconst 0, 1) := by decide +kernel
theorem dL_law_1379 : decode cL_law 1379 = .ok (.aload_n 3, 1) := by decide +kernel
theorem dL_law_1380 : decode cL_law 1380 = .ok (.invokestatic 187, 3) := by decide +kernel
theorem dL_law_1383 : decode cL_law 1383 = .ok (.istore 5, 2) := by decide +kernel
theorem dL_law_1385 : decode cL_law 1385 = .ok (.aload_n 2, 1) := by decide +kernel
theorem dL_law_1386 : decode cL_law 1386 = .ok (.aload_n 0, 1) := by decide +kernel
theorem dL_law_1387 : decode cL_law 1387 = .ok (.iload 4, 2) := by decide +kernel
theorem dL_law_1389 : decode cL_law 1389 = .ok (.iconst 1, 1) := by decide +kernel
theorem dL_law_1390 : decode cL_law 1390 = .ok (.iadd, 1) := by decide +kernel
theorem dL_law_1391 : decode cL_law 1391 = .ok (.iaload, 1) := by decide +kernel
theorem dL_law_1392 : decode cL_law 1392 = .ok (.aload_n 0, 1) := by decide +kernel
theorem dL_law_1393 : decode cL_law 1393 = .ok (.iload 4, 2) := by decide +kernel
theorem dL_law_1395 : decode cL_law 1395 = .ok (.iconst 2, 1) := by decide +kernel
theorem dL_law_1396 : decode cL_law 1396 = .ok (.iadd, 1) := by decide +kernel
theorem dL_law_1397 : decode cL_law 1397 = .ok (.iaload, 1) := by decide +kernel
theorem dL_law_1398 : decode cL_law 1398 = .ok (.aload_n 0, 1) := by decide +kernel
theorem dL_law_1399 : decode cL_law 1399 = .ok (.iload 4, 2) := by decide +kernel
theorem dL_law_1401 : decode cL_law 1401 = .ok (.iconst 3, 1) := by decide +kernel
theorem dL_law_1402 : decode cL_law 1402 = .ok (.iadd, 1) := by decide +kernel
theorem dL_law_1403 : decode cL_law 1403 = .ok (.iaload, 1) := by decide +kernel
theorem dL_law_1404 : decode cL_law 1404 = .ok (.ifCond .eq 7, 3) := by decide +kernel
theorem dL_law_1407 : decode cL_law 1407 = .ok (.iconst 1, 1) := by decide +kernel
theorem dL_law_1408 : decode cL_law 1408 = .ok (.goto 4, 3) := by decide +kernel
theorem dL_law_1411 : decode cL_law 1411 = .ok (.iconst 0, 1) := by decide +kernel
theorem dL_law_1412 : decode cL_law 1412 = .ok (.invokevirtual 190, 3) := by decide +kernel
theorem dL_law_1415 : decode cL_law 1415 = .ok (.istore 6, 2) := by decide +kernel
theorem dL_law_1417 : decode cL_law 1417 = .ok (.aload_n 2, 1) := by decide +kernel
theorem dL_law_1418 : decode cL_law 1418 = .ok (.invokevirtual 107, 3) := by decide +kernel
theorem dL_law_1421 : decode cL_law 1421 = .ok (.iload 5, 2) := by decide +kernel
theorem dL_law_1423 : decode cL_law 1423 = .ok (.if_icmp .eq 5, 3) := by decide +kernel
theorem dL_law_1426 : decode cL_law 1426 = .ok (.iconst 0, 1) := by decide +kernel
theorem dL_law_1427 : decode cL_law 1427 = .ok (.ireturn, 1) := by decide +kernel
theorem dL_law_1428 : decode cL_law 1428 = .ok (.iload 5, 2) := by decide +kernel
theorem dL_law_1430 : decode cL_law 1430 = .ok (.ifCond .ne 15, 3) := by decide +kernel
theorem dL_law_1433 : decode cL_law 1433 = .ok (.aload_n 3, 1) := by decide +kernel
theorem dL_law_1434 : decode cL_law 1434 = .ok (.iconst 0, 1) := by decide +kernel
theorem dL_law_1435 : decode cL_law 1435 = .ok (.laload, 1) := by decide +kernel
theorem dL_law_1436 : decode cL_law 1436 = .ok (.iload 6, 2) := by decide +kernel
theorem dL_law_1438 : decode cL_law 1438 = .ok (.i2l, 1) := by decide +kernel
theorem dL_law_1439 : decode cL_law 1439 = .ok (.lcmp, 1) := by decide +kernel
theorem dL_law_1440 : decode cL_law 1440 = .ok (.ifCond .eq 5, 3) := by decide +kernel
theorem dL_law_1443 : decode cL_law 1443 = .ok (.iconst 0, 1) := by decide +kernel
theorem dL_law_1444 : decode cL_law 1444 = .ok (.ireturn, 1) := by decide +kernel
theorem dL_law_1445 : decode cL_law 1445 = .ok (.goto 554, 3) := by decide +kernel
theorem dL_law_1448 : decode cL_law 1448 = .ok (.aload_n 1, 1) := by decide +kernel
theorem dL_law_1449 : decode cL_law 1449 = .ok (.aload_n 0, 1) := by decide +kernel
theorem dL_law_1450 : decode cL_law 1450 = .ok (.iload 4, 2) := by decide +kernel
theorem dL_law_1452 : decode cL_law 1452 = .ok (.iconst 1, 1) := by decide +kernel
theorem dL_law_1453 : decode cL_law 1453 = .ok (.iadd, 1) := by decide +kernel
theorem dL_law_1454 : decode cL_law 1454 = .ok (.iaload, 1) := by decide +kernel
theorem dL_law_1455 : decode cL_law 1455 = .ok (.aload_n 3, 1) := by decide +kernel
theorem dL_law_1456 : decode cL_law 1456 = .ok (.invokestatic 191, 3) := by decide +kernel
theorem dL_law_1459 : decode cL_law 1459 = .ok (.istore 5, 2) := by decide +kernel
theorem dL_law_1461 : decode cL_law 1461 = .ok (.aload_n 2, 1) := by decide +kernel
theorem dL_law_1462 : decode cL_law 1462 = .ok (.aload_n 0, 1) := by decide +kernel
theorem dL_law_1463 : decode cL_law 1463 = .ok (.iload 4, 2) := by decide +kernel
theorem dL_law_1465 : decode cL_law 1465 = .ok (.iconst 1, 1) := by decide +kernel
theorem dL_law_1466 : decode cL_law 1466 = .ok (.iadd, 1) := by decide +kernel
theorem dL_law_1467 : decode cL_law 1467 = .ok (.iaload, 1) := by decide +kernel
theorem dL_law_1468 : decode cL_law 1468 = .ok (.invokevirtual 193, 3) := by decide +kernel
theorem dL_law_1471 : decode cL_law 1471 = .ok (.istore 6, 2) := by decide +kernel
theorem dL_law_1473 : decode cL_law 1473 = .ok (.aload_n 2, 1) := by decide +kernel
theorem dL_law_1474 : decode cL_law 1474 = .ok (.invokevirtual 107, 3) := by decide +kernel
theorem dL_law_1477 : decode cL_law 1477 = .ok (.iload 5, 2) := by decide +kernel
theorem dL_law_1479 : decode cL_law 1479 = .ok (.if_icmp .eq 5, 3) := by decide +kernel
theorem dL_law_1482 : decode cL_law 1482 = .ok (.iconst 0, 1) := by decide +kernel
theorem dL_law_1483 : decode cL_law 1483 = .ok (.ireturn, 1) := by decide +kernel
theorem dL_law_1484 : decode cL_law 1484 = .ok (.iload 5, 2) := by decide +kernel
theorem dL_law_1486 : decode cL_law 1486 = .ok (.ifCond .ne 15, 3) := by decide +kernel
theorem dL_law_1489 : decode cL_law 1489 = .ok (.aload_n 3, 1) := by decide +kernel
theorem dL_law_1490 : decode cL_law 1490 = .ok (.iconst 0, 1) := by decide +kernel
theorem dL_law_1491 : decode cL_law 1491 = .ok (.laload, 1) := by decide +kernel
theorem dL_law_1492 : decode cL_law 1492 = .ok (.iload 6, 2) := by decide +kernel
theorem dL_law_1494 : decode cL_law 1494 = .ok (.i2l, 1) := by decide +kernel
theorem dL_law_1495 : decode cL_law 1495 = .ok (.lcmp, 1) := by decide +kernel
theorem dL_law_1496 : decode cL_law 1496 = .ok (.ifCond .eq 5, 3) := by decide +kernel
theorem dL_law_1499 : decode cL_law 1499 = .ok (.iconst 0, 1) := by decide +kernel
theorem dL_law_1500 : decode cL_law 1500 = .ok (.ireturn, 1) := by decide +kernel
theorem dL_law_1501 : decode cL_law 1501 = .ok (.goto 498, 3) := by decide +kernel
theorem dL_law_1504 : decode cL_law 1504 = .ok (.aload_n 1, 1) := by decide +kernel
theorem dL_law_1505 : decode cL_law 1505 = .ok (.aload_n 0, 1) := by decide +kernel
theorem dL_law_1506 : decode cL_law 1506 = .ok (.iload 4, 2) := by decide +kernel
theorem dL_law_1508 : decode cL_law 1508 = .ok (.iconst 1, 1) := by decide +kernel
theorem dL_law_1509 : decode cL_law 1509 = .ok (.iadd, 1) := by decide +kernel
theorem dL_law_1510 : decode cL_law 1510 = .ok (.iaload, 1) := by decide +kernel
theorem dL_law_1511 : decode cL_law 1511 = .ok (.aload_n 0, 1) := by decide +kernel
theorem dL_law_1512 : decode cL_law 1512 = .ok (.iload 4, 2) := by decide +kernel
theorem dL_law_1514 : decode cL_law 1514 = .ok (.iconst 2, 1) := by decide +kernel
theorem dL_law_1515 : decode cL_law 1515 = .ok (.iadd, 1) := by decide +kernel
theorem dL_law_1516 : decode cL_law 1516 = .ok (.iaload, 1) := by decide +kernel
theorem dL_law_1517 : decode cL_law 1517 = .ok (.aload_n 0, 1) := by decide +kernel
theorem dL_law_1518 : decode cL_law 1518 = .ok (.iload 4, 2) := by decide +kernel
theorem dL_law_1520 : decode cL_law 1520 = .ok (.iconst 3, 1) := by decide +kernel
theorem dL_law_1521 : decode cL_law 1521 = .ok (.iadd, 1) := by decide +kernel
theorem dL_law_1522 : decode cL_law 1522 = .ok (.iaload, 1) := by decide +kernel
theorem dL_law_1523 : decode cL_law 1523 = .ok (.ifCond .eq 7, 3) := by decide +kernel
theorem dL_law_1526 : decode cL_law 1526 = .ok (.iconst 1, 1) := by decide +kernel
theorem dL_law_1527 : decode cL_law 1527 = .ok (.goto 4, 3) := by decide +kernel
theorem dL_law_1530 : decode cL_law 1530 = .ok (.iconst 0, 1) := by decide +kernel
theorem dL_law_1531 : decode cL_law 1531 = .ok (.aload_n 3, 1) := by decide +kernel
theorem dL_law_1532 : decode cL_law 1532 = .ok (.invokestatic 194, 3) := by decide +kernel
theorem dL_law_1535 : decode cL_law 1535 = .ok (.istore 5, 2) := by decide +kernel
theorem dL_law_1537 : decode cL_law 1537 = .ok (.aload_n 2, 1) := by decide +kernel
theorem dL_law_1538 : decode cL_law 1538 = .ok (.aload_n 0, 1) := by decide +kernel
theorem dL_law_1539 : decode cL_law 1539 = .ok (.iload 4, 2) := by decide +kernel
theorem dL_law_1541 : decode cL_law 1541 = .ok (.iconst 1, 1) := by decide +kernel
theorem dL_law_1542 : decode cL_law 1542 = .ok (.iadd, 1) := by decide +kernel
theorem dL_law_1543 : decode cL_law 1543 = .ok (.iaload, 1) := by decide +kernel
theorem dL_law_1544 : decode cL_law 1544 = .ok (.aload_n 0, 1) := by decide +kernel
theorem dL_law_1545 : decode cL_law 1545 = .ok (.iload 4, 2) := by decide +kernel
theorem dL_law_1547 : decode cL_law 1547 = .ok (.iconst 2, 1) := by decide +kernel
theorem dL_law_1548 : decode cL_law 1548 = .ok (.iadd, 1) := by decide +kernel
theorem dL_law_1549 : decode cL_law 1549 = .ok (.iaload, 1) := by decide +kernel
theorem dL_law_1550 : decode cL_law 1550 = .ok (.aload_n 0, 1) := by decide +kernel
theorem dL_law_1551 : decode cL_law 1551 = .ok (.iload 4, 2) := by decide +kernel
theorem dL_law_1553 : decode cL_law 1553 = .ok (.iconst 3, 1) := by decide +kernel
theorem dL_law_1554 : decode cL_law 1554 = .ok (.iadd, 1) := by decide +kernel
theorem dL_law_1555 : decode cL_law 1555 = .ok (.iaload, 1) := by decide +kernel
theorem dL_law_1556 : decode cL_law 1556 = .ok (.ifCond .eq 7, 3) := by decide +kernel
theorem dL_law_1559 : decode cL_law 1559 = .ok (.iconst 1, 1) := by decide +kernel
theorem dL_law_1560 : decode cL_law 1560 = .ok (.goto 4, 3) := by decide +kernel
theorem dL_law_1563 : decode cL_law 1563 = .ok (.iconst 0, 1) := by decide +kernel
theorem dL_law_1564 : decode cL_law 1564 = .ok (.invokevirtual 196, 3) := by decide +kernel
theorem dL_law_1567 : decode cL_law 1567 = .ok (.istore 6, 2) := by decide +kernel
theorem dL_law_1569 : decode cL_law 1569 = .ok (.aload_n 2, 1) := by decide +kernel
theorem dL_law_1570 : decode cL_law 1570 = .ok (.invokevirtual 107, 3) := by decide +kernel
theorem dL_law_1573 : decode cL_law 1573 = .ok (.iload 5, 2) := by decide +kernel
theorem dL_law_1575 : decode cL_law 1575 = .ok (.if_icmp .eq 5, 3) := by decide +kernel
theorem dL_law_1578 : decode cL_law 1578 = .ok (.iconst 0, 1) := by decide +kernel
theorem dL_law_1579 : decode cL_law 1579 = .ok (.ireturn, 1) := by decide +kernel
theorem dL_law_1580 : decode cL_law 1580 = .ok (.iload 5, 2) := by decide +kernel
theorem dL_law_1582 : decode cL_law 1582 = .ok (.ifCond .ne 15, 3) := by decide +kernel
theorem dL_law_1585 : decode cL_law 1585 = .ok (.aload_n 3, 1) := by decide +kernel
theorem dL_law_1586 : decode cL_law 1586 = .ok (.iconst 0, 1) := by decide +kernel
theorem dL_law_1587 : decode cL_law 1587 = .ok (.laload, 1) := by decide +kernel
theorem dL_law_1588 : decode cL_law 1588 = .ok (.iload 6, 2) := by decide +kernel
theorem dL_law_1590 : decode cL_law 1590 = .ok (.i2l, 1) := by decide +kernel
theorem dL_law_1591 : decode cL_law 1591 = .ok (.lcmp, 1) := by decide +kernel
theorem dL_law_1592 : decode cL_law 1592 = .ok (.ifCond .eq 5, 3) := by decide +kernel
theorem dL_law_1595 : decode cL_law 1595 = .ok (.iconst 0, 1) := by decide +kernel
theorem dL_law_1596 : decode cL_law 1596 = .ok (.ireturn, 1) := by decide +kernel
theorem dL_law_1597 : decode cL_law 1597 = .ok (.goto 402, 3) := by decide +kernel
theorem dL_law_1600 : decode cL_law 1600 = .ok (.aload_n 1, 1) := by decide +kernel
theorem dL_law_1601 : decode cL_law 1601 = .ok (.aload_n 0, 1) := by decide +kernel
theorem dL_law_1602 : decode cL_law 1602 = .ok (.iload 4, 2) := by decide +kernel
theorem dL_law_1604 : decode cL_law 1604 = .ok (.iconst 1, 1) := by decide +kernel
theorem dL_law_1605 : decode cL_law 1605 = .ok (.iadd, 1) := by decide +kernel
theorem dL_law_1606 : decode cL_law 1606 = .ok (.iaload, 1) := by decide +kernel
theorem dL_law_1607 : decode cL_law 1607 = .ok (.aload_n 0, 1) := by decide +kernel
theorem dL_law_1608 : decode cL_law 1608 = .ok (.iload 4, 2) := by decide +kernel
theorem dL_law_1610 : decode cL_law 1610 = .ok (.iconst 2, 1) := by decide +kernel
theorem dL_law_1611 : decode cL_law 1611 = .ok (.iadd, 1) := by decide +kernel
theorem dL_law_1612 : decode cL_law 1612 = .ok (.iaload, 1) := by decide +kernel
theorem dL_law_1613 : decode cL_law 1613 = .ok (.aload_n 3, 1) := by decide +kernel
theorem dL_law_1614 : decode cL_law 1614 = .ok (.invokestatic 197, 3) := by decide +kernel
theorem dL_law_1617 : decode cL_law 1617 = .ok (.istore 5, 2) := by decide +kernel
theorem dL_law_1619 : decode cL_law 1619 = .ok (.aload_n 2, 1) := by decide +kernel
theorem dL_law_1620 : decode cL_law 1620 = .ok (.aload_n 0, 1) := by decide +kernel
theorem dL_law_1621 : decode cL_law 1621 = .ok (.iload 4, 2) := by decide +kernel
theorem dL_law_1623 : decode cL_law 1623 = .ok (.iconst 1, 1) := by decide +kernel
theorem dL_law_1624 : decode cL_law 1624 = .ok (.iadd, 1) := by decide +kernel
theorem dL_law_1625 : decode cL_law 1625 = .ok (.iaload, 1) := by decide +kernel
theorem dL_law_1626 : decode cL_law 1626 = .ok (.aload_n 0, 1) := by decide +kernel
theorem dL_law_1627 : decode cL_law 1627 = .ok (.iload 4, 2) := by decide +kernel
theorem dL_law_1629 : decode cL_law 1629 = .ok (.iconst 2, 1) := by decide +kernel
theorem dL_law_1630 : decode cL_law 1630 = .ok (.iadd, 1) := by decide +kernel
theorem dL_law_1631 : decode cL_law 1631 = .ok (.iaload, 1) := by decide +kernel
theorem dL_law_1632 : decode cL_law 1632 = .ok (.invokevirtual 199, 3) := by decide +kernel
theorem dL_law_1635 : decode cL_law 1635 = .ok (.istore 6, 2) := by decide +kernel
theorem dL_law_1637 : decode cL_law 1637 = .ok (.aload_n 2, 1) := by decide +kernel
theorem dL_law_1638 : decode cL_law 1638 = .ok (.invokevirtual 107, 3) := by decide +kernel
theorem dL_law_1641 : decode cL_law 1641 = .ok (.iload 5, 2) := by decide +kernel
theorem dL_law_1643 : decode cL_law 1643 = .ok (.if_icmp .eq 5, 3) := by decide +kernel
theorem dL_law_1646 : decode cL_law 1646 = .ok (.iconst 0, 1) := by decide +kernel
theorem dL_law_1647 : decode cL_law 1647 = .ok (.ireturn, 1) := by decide +kernel
theorem dL_law_1648 : decode cL_law 1648 = .ok (.iload 5, 2) := by decide +kernel
theorem dL_law_1650 : decode cL_law 1650 = .ok (.ifCond .ne 15, 3) := by decide +kernel
theorem dL_law_1653 : decode cL_law 1653 = .ok (.aload_n 3, 1) := by decide +kernel
theorem dL_law_1654 : decode cL_law 1654 = .ok (.iconst 0, 1) := by decide +kernel
theorem dL_law_1655 : decode cL_law 1655 = .ok (.laload, 1) := by decide +kernel
theorem dL_law_1656 : decode cL_law 1656 = .ok (.iload 6, 2) := by decide +kernel
theorem dL_law_1658 : decode cL_law 1658 = .ok (.i2l, 1) := by decide +kernel
theorem dL_law_1659 : decode cL_law 1659 = .ok (.lcmp, 1) := by decide +kernel
theorem dL_law_1660 : decode cL_law 1660 = .ok (.ifCond .eq 5, 3) := by decide +kernel
theorem dL_law_1663 : decode cL_law 1663 = .ok (.iconst 0, 1) := by decide +kernel
theorem dL_law_1664 : decode cL_law 1664 = .ok (.ireturn, 1) := by decide +kernel
theorem dL_law_1665 : decode cL_law 1665 = .ok (.goto 334, 3) := by decide +kernel
theorem dL_law_1668 : decode cL_law 1668 = .ok (.aload_n 1, 1) := by decide +kernel
theorem dL_law_1669 : decode cL_law 1669 = .ok (.aload_n 0, 1) := by decide +kernel
theorem dL_law_1670 : decode cL_law 1670 = .ok (.iload 4, 2) := by decide +kernel
theorem dL_law_1672 : decode cL_law 1672 = .ok (.iconst 1, 1) := by decide +kernel
theorem dL_law_1673 : decode cL_law 1673 = .ok (.iadd, 1) := by decide +kernel
theorem dL_law_1674 : decode cL_law 1674 = .ok (.iaload, 1) := by decide +kernel
theorem dL_law_1675 : decode cL_law 1675 = .ok (.aload_n 0, 1) := by decide +kernel
theorem dL_law_1676 : decode cL_law 1676 = .ok (.iload 4, 2) := by decide +kernel
theorem dL_law_1678 : decode cL_law 1678 = .ok (.iconst 2, 1) := by decide +kernel
theorem dL_law_1679 : decode cL_law 1679 = .ok (.iadd, 1) := by decide +kernel
theorem dL_law_1680 : decode cL_law 1680 = .ok (.iaload, 1) := by decide +kernel
theorem dL_law_1681 : decode cL_law 1681 = .ok (.aload_n 3, 1) := by decide +kernel
theorem dL_law_1682 : decode cL_law 1682 = .ok (.invokestatic 200, 3) := by decide +kernel
theorem dL_law_1685 : decode cL_law 1685 = .ok (.istore 5, 2) := by decide +kernel
theorem dL_law_1687 : decode cL_law 1687 = .ok (.aload_n 2, 1) := by decide +kernel
theorem dL_law_1688 : decode cL_law 1688 = .ok (.aload_n 0, 1) := by decide +kernel
theorem dL_law_1689 : decode cL_law 1689 = .ok (.iload 4, 2) := by decide +kernel
theorem dL_law_1691 : decode cL_law 1691 = .ok (.iconst 1, 1) := by decide +kernel
theorem dL_law_1692 : decode cL_law 1692 = .ok (.iadd, 1) := by decide +kernel
theorem dL_law_1693 : decode cL_law 1693 = .ok (.iaload, 1) := by decide +kernel
theorem dL_law_1694 : decode cL_law 1694 = .ok (.aload_n 0, 1) := by decide +kernel
theorem dL_law_1695 : decode cL_law 1695 = .ok (.iload 4, 2) := by decide +kernel
theorem dL_law_1697 : decode cL_law 1697 = .ok (.iconst 2, 1) := by decide +kernel
theorem dL_law_1698 : decode cL_law 1698 = .ok (.iadd, 1) := by decide +kernel
theorem dL_law_1699 : decode cL_law 1699 = .ok (.iaload, 1) := by decide +kernel
theorem dL_law_1700 : decode cL_law 1700 = .ok (.invokevirtual 202, 3) := by decide +kernel
theorem dL_law_1703 : decode cL_law 1703 = .ok (.istore 6, 2) := by decide +kernel
theorem dL_law_1705 : decode cL_law 1705 = .ok (.aload_n 2, 1) := by decide +kernel
theorem dL_law_1706 : decode cL_law 1706 = .ok (.invokevirtual 107, 3) := by decide +kernel
theorem dL_law_1709 : decode cL_law 1709 = .ok (.iload 5, 2) := by decide +kernel
theorem dL_law_1711 : decode cL_law 1711 = .ok (.if_icmp .eq 5, 3) := by decide +kernel
theorem dL_law_1714 : decode cL_law 1714 = .ok (.iconst 0, 1) := by decide +kernel
theorem dL_law_1715 : decode cL_law 1715 = .ok (.ireturn, 1) := by decide +kernel
theorem dL_law_1716 : decode cL_law 1716 = .ok (.iload 5, 2) := by decide +kernel
theorem dL_law_1718 : decode cL_law 1718 = .ok (.ifCond .ne 15, 3) := by decide +kernel
theorem dL_law_1721 : decode cL_law 1721 = .ok (.aload_n 3, 1) := by decide +kernel
theorem dL_law_1722 : decode cL_law 1722 = .ok (.iconst 0, 1) := by decide +kernel
theorem dL_law_1723 : decode cL_law 1723 = .ok (.laload, 1) := by decide +kernel
theorem dL_law_1724 : decode cL_law 1724 = .ok (.iload 6, 2) := by decide +kernel
theorem dL_law_1726 : decode cL_law 1726 = .ok (.i2l, 1) := by decide +kernel
theorem dL_law_1727 : decode cL_law 1727 = .ok (.lcmp, 1) := by decide +kernel
theorem dL_law_1728 : decode cL_law 1728 = .ok (.ifCond .eq 5, 3) := by decide +kernel
theorem dL_law_1731 : decode cL_law 1731 = .ok (.iconst 0, 1) := by decide +kernel
theorem dL_law_1732 : decode cL_law 1732 = .ok (.ireturn, 1) := by decide +kernel
theorem dL_law_1733 : decode cL_law 1733 = .ok (.goto 266, 3) := by decide +kernel
theorem dL_law_1736 : decode cL_law 1736 = .ok (.aload_n 1, 1) := by decide +kernel
theorem dL_law_1737 : decode cL_law 1737 = .ok (.invokevirtual 203, 3) := by decide +kernel
theorem dL_law_1740 : decode cL_law 1740 = .ok (.aload_n 2, 1) := by decide +kernel
theorem dL_law_1741 : decode cL_law 1741 = .ok (.invokevirtual 206, 3) := by decide +kernel
theorem dL_law_1744 : decode cL_law 1744 = .ok (.if_icmp .eq 255, 3) := by decide +kernel
theorem dL_law_1747 : decode cL_law 1747 = .ok (.iconst 0, 1) := by decide +kernel
theorem dL_law_1748 : decode cL_law 1748 = .ok (.ireturn, 1) := by decide +kernel
theorem dL_law_1749 : decode cL_law 1749 = .ok (.aload_n 1, 1) := by decide +kernel
theorem dL_law_1750 : decode cL_law 1750 = .ok (.invokevirtual 207, 3) := by decide +kernel
theorem dL_law_1753 : decode cL_law 1753 = .ok (.aload_n 2, 1) := by decide +kernel
theorem dL_law_1754 : decode cL_law 1754 = .ok (.invokevirtual 210, 3) := by decide +kernel
theorem dL_law_1757 : decode cL_law 1757 = .ok (.if_icmp .eq 242, 3) := by decide +kernel
theorem dL_law_1760 : decode cL_law 1760 = .ok (.iconst 0, 1) := by decide +kernel
theorem dL_law_1761 : decode cL_law 1761 = .ok (.ireturn, 1) := by decide +kernel
theorem dL_law_1762 : decode cL_law 1762 = .ok (.aload_n 1, 1) := by decide +kernel
theorem dL_law_1763 : decode cL_law 1763 = .ok (.aload_n 0, 1) := by decide +kernel
theorem dL_law_1764 : decode cL_law 1764 = .ok (.iload 4, 2) := by decide +kernel
theorem dL_law_1766 : decode cL_law 1766 = .ok (.iconst 1, 1) := by decide +kernel
theorem dL_law_1767 : decode cL_law 1767 = .ok (.iadd, 1) := by decide +kernel
theorem dL_law_1768 : decode cL_law 1768 = .ok (.iaload, 1) := by decide +kernel
theorem dL_law_1769 : decode cL_law 1769 = .ok (.ifCond .eq 7, 3) := by decide +kernel
theorem dL_law_1772 : decode cL_law 1772 = .ok (.iconst 1, 1) := by decide +kernel
theorem dL_law_1773 : decode cL_law 1773 = .ok (.goto 4, 3) := by decide +kernel
theorem dL_law_1776 : decode cL_law 1776 = .ok (.iconst 0, 1) := by decide +kernel
theorem dL_law_1777 : decode cL_law 1777 = .ok (.invokevirtual 211, 3) := by decide +kernel
theorem dL_law_1780 : decode cL_law 1780 = .ok (.aload_n 2, 1) := by decide +kernel
theorem dL_law_1781 : decode cL_law 1781 = .ok (.aload_n 0, 1) := by decide +kernel
theorem dL_law_1782 : decode cL_law 1782 = .ok (.iload 4, 2) := by decide +kernel
theorem dL_law_1784 : decode cL_law 1784 = .ok (.iconst 1, 1) := by decide +kernel
theorem dL_law_1785 : decode cL_law 1785 = .ok (.iadd, 1) := by decide +kernel
theorem dL_law_1786 : decode cL_law 1786 = .ok (.iaload, 1) := by decide +kernel
theorem dL_law_1787 : decode cL_law 1787 = .ok (.ifCond .eq 7, 3) := by decide +kernel
theorem dL_law_1790 : decode cL_law 1790 = .ok (.iconst 1, 1) := by decide +kernel
theorem dL_law_1791 : decode cL_law 1791 = .ok (.goto 4, 3) := by decide +kernel
theorem dL_law_1794 : decode cL_law 1794 = .ok (.iconst 0, 1) := by decide +kernel
theorem dL_law_1795 : decode cL_law 1795 = .ok (.invokevirtual 215, 3) := by decide +kernel
theorem dL_law_1798 : decode cL_law 1798 = .ok (.if_icmp .eq 201, 3) := by decide +kernel
theorem dL_law_1801 : decode cL_law 1801 = .ok (.iconst 0, 1) := by decide +kernel
theorem dL_law_1802 : decode cL_law 1802 = .ok (.ireturn, 1) := by decide +kernel
theorem dL_law_1803 : decode cL_law 1803 = .ok (.aload_n 1, 1) := by decide +kernel
theorem dL_law_1804 : decode cL_law 1804 = .ok (.aload_n 0, 1) := by decide +kernel
theorem dL_law_1805 : decode cL_law 1805 = .ok (.iload 4, 2) := by decide +kernel
theorem dL_law_1807 : decode cL_law 1807 = .ok (.iconst 1, 1) := by decide +kernel
theorem dL_law_1808 : decode cL_law 1808 = .ok (.iadd, 1) := by decide +kernel
theorem dL_law_1809 : decode cL_law 1809 = .ok (.iaload, 1) := by decide +kernel
theorem dL_law_1810 : decode cL_law 1810 = .ok (.aload_n 3, 1) := by decide +kernel
theorem dL_law_1811 : decode cL_law 1811 = .ok (.invokestatic 216, 3) := by decide +kernel
theorem dL_law_1814 : decode cL_law 1814 = .ok (.istore 5, 2) := by decide +kernel
theorem dL_law_1816 : decode cL_law 1816 = .ok (.aload_n 2, 1) := by decide +kernel
theorem dL_law_1817 : decode cL_law 1817 = .ok (.aload_n 0, 1) := by decide +kernel
theorem dL_law_1818 : decode cL_law 1818 = .ok (.iload 4, 2) := by decide +kernel
theorem dL_law_1820 : decode cL_law 1820 = .ok (.iconst 1, 1) := by decide +kernel
theorem dL_law_1821 : decode cL_law 1821 = .ok (.iadd, 1) := by decide +kernel
theorem dL_law_1822 : decode cL_law 1822 = .ok (.iaload, 1) := by decide +kernel
theorem dL_law_1823 : decode cL_law 1823 = .ok (.invokevirtual 218, 3) := by decide +kernel
theorem dL_law_1826 : decode cL_law 1826 = .ok (.istore 6, 2) := by decide +kernel
theorem dL_law_1828 : decode cL_law 1828 = .ok (.aload_n 2, 1) := by decide +kernel
theorem dL_law_1829 : decode cL_law 1829 = .ok (.invokevirtual 107, 3) := by decide +kernel
theorem dL_law_1832 : decode cL_law 1832 = .ok (.iload 5, 2) := by decide +kernel
theorem dL_law_1834 : decode cL_law 1834 = .ok (.if_icmp .eq 5, 3) := by decide +kernel
theorem dL_law_1837 : decode cL_law 1837 = .ok (.iconst 0, 1) := by decide +kernel
theorem dL_law_1838 : decode cL_law 1838 = .ok (.ireturn, 1) := by decide +kernel
theorem dL_law_1839 : decode cL_law 1839 = .ok (.iload 5, 2) := by decide +kernel
theorem dL_law_1841 : decode cL_law 1841 = .ok (.ifCond .ne 15, 3) := by decide +kernel
theorem dL_law_1844 : decode cL_law 1844 = .ok (.aload_n 3, 1) := by decide +kernel
theorem dL_law_1845 : decode cL_law 1845 = .ok (.iconst 0, 1) := by decide +kernel
theorem dL_law_1846 : decode cL_law 1846 = .ok (.laload, 1) := by decide +kernel
theorem dL_law_1847 : decode cL_law 1847 = .ok (.iload 6, 2) := by decide +kernel
theorem dL_law_1849 : decode cL_law 1849 = .ok (.i2l, 1) := by decide +kernel
theorem dL_law_1850 : decode cL_law 1850 = .ok (.lcmp, 1) := by decide +kernel
theorem dL_law_1851 : decode cL_law 1851 = .ok (.ifCond .eq 5, 3) := by decide +kernel
theorem dL_law_1854 : decode cL_law 1854 = .ok (.iconst 0, 1) := by decide +kernel
theorem dL_law_1855 : decode cL_law 1855 = .ok (.ireturn, 1) := by decide +kernel
theorem dL_law_1856 : decode cL_law 1856 = .ok (.goto 143, 3) := by decide +kernel
theorem dL_law_1859 : decode cL_law 1859 = .ok (.aload_n 1, 1) := by decide +kernel
theorem dL_law_1860 : decode cL_law 1860 = .ok (.aload_n 0, 1) := by decide +kernel
theorem dL_law_1861 : decode cL_law 1861 = .ok (.iload 4, 2) := by decide +kernel
theorem dL_law_1863 : decode cL_law 1863 = .ok (.iconst 1, 1) := by decide +kernel
theorem dL_law_1864 : decode cL_law 1864 = .ok (.iadd, 1) := by decide +kernel
theorem dL_law_1865 : decode cL_law 1865 = .ok (.iaload, 1) := by decide +kernel
theorem dL_law_1866 : decode cL_law 1866 = .ok (.aload_n 3, 1) := by decide +kernel
theorem dL_law_1867 : decode cL_law 1867 = .ok (.invokestatic 219, 3) := by decide +kernel
theorem dL_law_1870 : decode cL_law 1870 = .ok (.istore 5, 2) := by decide +kernel
theorem dL_law_1872 : decode cL_law 1872 = .ok (.aload_n 2, 1) := by decide +kernel
theorem dL_law_1873 : decode cL_law 1873 = .ok (.aload_n 0, 1) := by decide +kernel
theorem dL_law_1874 : decode cL_law 1874 = .ok (.iload 4, 2) := by decide +kernel
theorem dL_law_1876 : decode cL_law 1876 = .ok (.iconst 1, 1) := by decide +kernel
theorem dL_law_1877 : decode cL_law 1877 = .ok (.iadd, 1) := by decide +kernel
theorem dL_law_1878 : decode cL_law 1878 = .ok (.iaload, 1) := by decide +kernel
theorem dL_law_1879 : decode cL_law 1879 = .ok (.invokevirtual 221, 3) := by decide +kernel
theorem dL_law_1882 : decode cL_law 1882 = .ok (.istore 6, 2) := by decide +kernel
theorem dL_law_1884 : decode cL_law 1884 = .ok (.aload_n 2, 1) := by decide +kernel
theorem dL_law_1885 : decode cL_law 1885 = .ok (.invokevirtual 107, 3) := by decide +kernel
theorem dL_law_1888 : decode cL_law 1888 = .ok (.iload 5, 2) := by decide +kernel
theorem dL_law_1890 : decode cL_law 1890 = .ok (.if_icmp .eq 5, 3) := by decide +kernel
theorem dL_law_1893 : decode cL_law 1893 = .ok (.iconst 0, 1) := by decide +kernel
theorem dL_law_1894 : decode cL_law 1894 = .ok (.ireturn, 1) := by decide +kernel
theorem dL_law_1895 : decode cL_law 1895 = .ok (.iload 5, 2) := by decide +kernel
theorem dL_law_1897 : decode cL_law 1897 = .ok (.ifCond .ne 15, 3) := by decide +kernel
theorem dL_law_1900 : decode cL_law 1900 = .ok (.aload_n 3, 1) := by decide +kernel
theorem dL_law_1901 : decode cL_law 1901 = .ok (.iconst 0, 1) := by decide +kernel
theorem dL_law_1902 : decode cL_law 1902 = .ok (.laload, 1) := by decide +kernel
theorem dL_law_1903 : decode cL_law 1903 = .ok (.iload 6, 2) := by decide +kernel
theorem dL_law_1905 : decode cL_law 1905 = .ok (.i2l, 1) := by decide +kernel
theorem dL_law_1906 : decode cL_law 1906 = .ok (.lcmp, 1) := by decide +kernel
theorem dL_law_1907 : decode cL_law 1907 = .ok (.ifCond .eq 5, 3) := by decide +kernel
theorem dL_law_1910 : decode cL_law 1910 = .ok (.iconst 0, 1) := by decide +kernel
theorem dL_law_1911 : decode cL_law 1911 = .ok (.ireturn, 1) := by decide +kernel
theorem dL_law_1912 : decode cL_law 1912 = .ok (.goto 87, 3) := by decide +kernel
theorem dL_law_1915 : decode cL_law 1915 = .ok (.aload_n 1, 1) := by decide +kernel
theorem dL_law_1916 : decode cL_law 1916 = .ok (.invokevirtual 222, 3) := by decide +kernel
theorem dL_law_1919 : decode cL_law 1919 = .ok (.aload_n 2, 1) := by decide +kernel
theorem dL_law_1920 : decode cL_law 1920 = .ok (.invokevirtual 225, 3) := by decide +kernel
theorem dL_law_1923 : decode cL_law 1923 = .ok (.if_icmp .eq 76, 3) := by decide +kernel
theorem dL_law_1926 : decode cL_law 1926 = .ok (.iconst 0, 1) := by decide +kernel
theorem dL_law_1927 : decode cL_law 1927 = .ok (.ireturn, 1) := by decide +kernel
theorem dL_law_1928 : decode cL_law 1928 = .ok (.aload_n 1, 1) := by decide +kernel
theorem dL_law_1929 : decode cL_law 1929 = .ok (.invokevirtual 226, 3) := by decide +kernel
theorem dL_law_1932 : decode cL_law 1932 = .ok (.aload_n 2, 1) := by decide +kernel
theorem dL_law_1933 : decode cL_law 1933 = .ok (.invokevirtual 229, 3) := by decide +kernel
theorem dL_law_1936 : decode cL_law 1936 = .ok (.if_icmp .eq 63, 3) := by decide +kernel
theorem dL_law_1939 : decode cL_law 1939 = .ok (.iconst 0, 1) := by decide +kernel
theorem dL_law_1940 : decode cL_law 1940 = .ok (.ireturn, 1) := by decide +kernel
theorem dL_law_1941 : decode cL_law 1941 = .ok (.aload_n 1, 1) := by decide +kernel
theorem dL_law_1942 : decode cL_law 1942 = .ok (.aload_n 3, 1) := by decide +kernel
theorem dL_law_1943 : decode cL_law 1943 = .ok (.invokestatic 230, 3) := by decide +kernel
theorem dL_law_1946 : decode cL_law 1946 = .ok (.istore 5, 2) := by decide +kernel
theorem dL_law_1948 : decode cL_law 1948 = .ok (.aload_n 2, 1) := by decide +kernel
theorem dL_law_1949 : decode cL_law 1949 = .ok (.invokevirtual 233, 3) := by decide +kernel
theorem dL_law_1952 : decode cL_law 1952 = .ok (.istore 6, 2) := by decide +kernel
theorem dL_law_1954 : decode cL_law 1954 = .ok (.aload_n 2, 1) := by decide +kernel
theorem dL_law_1955 : decode cL_law 1955 = .ok (.invokevirtual 107, 3) := by decide +kernel
theorem dL_law_1958 : decode cL_law 1958 = .ok (.iload 5, 2) := by decide +kernel
theorem dL_law_1960 : decode cL_law 1960 = .ok (.if_icmp .eq 5, 3) := by decide +kernel
theorem dL_law_1963 : decode cL_law 1963 = .ok (.iconst 0, 1) := by decide +kernel
theorem dL_law_1964 : decode cL_law 1964 = .ok (.ireturn, 1) := by decide +kernel
theorem dL_law_1965 : decode cL_law 1965 = .ok (.iload 5, 2) := by decide +kernel
theorem dL_law_1967 : decode cL_law 1967 = .ok (.ifCond .ne 15, 3) := by decide +kernel
theorem dL_law_1970 : decode cL_law 1970 = .ok (.aload_n 3, 1) := by decide +kernel
theorem dL_law_1971 : decode cL_law 1971 = .ok (.iconst 0, 1) := by decide +kernel
theorem dL_law_1972 : decode cL_law 1972 = .ok (.laload, 1) := by decide +kernel
theorem dL_law_1973 : decode cL_law 1973 = .ok (.iload 6, 2) := by decide +kernel
theorem dL_law_1975 : decode cL_law 1975 = .ok (.i2l, 1) := by decide +kernel
theorem dL_law_1976 : decode cL_law 1976 = .ok (.lcmp, 1) := by decide +kernel
theorem dL_law_1977 : decode cL_law 1977 = .ok (.ifCond .eq 5, 3) := by decide +kernel
theorem dL_law_1980 : decode cL_law 1980 = .ok (.iconst 0, 1) := by decide +kernel
theorem dL_law_1981 : decode cL_law 1981 = .ok (.ireturn, 1) := by decide +kernel
theorem dL_law_1982 : decode cL_law 1982 = .ok (.goto 17, 3) := by decide +kernel
theorem dL_law_1985 : decode cL_law 1985 = .ok (.aload_n 1, 1) := by decide +kernel
theorem dL_law_1986 : decode cL_law 1986 = .ok (.invokevirtual 234, 3) := by decide +kernel
theorem dL_law_1989 : decode cL_law 1989 = .ok (.aload_n 2, 1) := by decide +kernel
theorem dL_law_1990 : decode cL_law 1990 = .ok (.invokevirtual 237, 3) := by decide +kernel
theorem dL_law_1993 : decode cL_law 1993 = .ok (.lcmp, 1) := by decide +kernel
theorem dL_law_1994 : decode cL_law 1994 = .ok (.ifCond .eq 5, 3) := by decide +kernel
theorem dL_law_1997 : decode cL_law 1997 = .ok (.iconst 0, 1) := by decide +kernel
theorem dL_law_1998 : decode cL_law 1998 = .ok (.ireturn, 1) := by decide +kernel
theorem dL_law_1999 : decode cL_law 1999 = .ok (.iinc 4 4, 3) := by decide +kernel
theorem dL_law_2002 : decode cL_law 2002 = .ok (.goto (-1979), 3) := by decide +kernel
theorem dL_law_2005 : decode cL_law 2005 = .ok (.iconst 1, 1) := by decide +kernel
theorem dL_law_2006 : decode cL_law 2006 = .ok (.ireturn, 1) := by decide +kernel
end
section
/-! THE E LAYER: a method's frame over an abstract world (a list of cells; a reference is a place in that list). -/
section EL
abbrev AW : Type := List va_E
abbrev Gx : Type := va_G × (Nat → ClassId)
def mvW : Cond → Bool
  | .fieldLinkNest .. => true
  | .methodLinkNest .. => true
  | .castable .. => true
  | .declares .. => true
  | w => goodWord w
theorem mvW_move {w : Cond} (hm : mvW w = true) {args args' : Array Value} {s U : State} (hW : s.WarmedH U.vm) (h : w.before args s = true) : w.before args' U = true := by
  cases w with
  | fieldLinkNest a i b n d h9 => exact va_Nw.use rfl (va_Nw.warmF hW (va_Nw.of rfl h))
  | methodLinkNest a i x h9 => exact va_Nw.use rfl (va_Nw.warmM hW (va_Nw.of rfl h))
  | castable a b => exact va_Nw.use rfl (va_Nw.warmC hW (va_Nw.of rfl h))
  | declares x => exact va_Nw.use rfl (va_Nw.warmD hW (va_Nw.of rfl h))
  | _ => exact word_at hW (good_of_word hm) h
/-- a word of the tables that moves -/
def Wd (w : Cond) : Prop := w ∈ lw_tbl ∧ mvW w = true
def Tb (s : State) : Prop := ∀ w ∈ lw_tbl, mvW w = true → w.before #[] s = true
theorem Tb.use {s : State} {w : Cond} (h : Tb s) (hw : Wd w) {args : Array Value} : w.before args s = true := mvW_move hw.2 (State.WarmedH.refl s) (h w hw.1 hw.2)
theorem Tb.move {s U : State} (hW : s.WarmedH U.vm) (h : Tb s) : Tb U := fun w hw hm => mvW_move hm hW (h w hw hm)
def Str (own : String) (k : Nat) (tx : String) : Prop := Cond.stringRef own k tx ∈ tables_1
def SR (s : State) : Prop := ∀ (own : String) (k : Nat) (tx : String), Str own k tx → ∃ a, vk_R own k tx a s
theorem SR.move {s U : State} (hW : s.WarmedH U.vm) (h : SR s) : SR U := fun o k tx hs => (h o k tx hs).elim fun a ha => ⟨a, vk_R.warm hW ha⟩
def ZQ (A : Nat → Prop) (U : State) (H : Heap) : Prop := vx_Zq Bundle.tN "UNASSIGNED_STACK" Bundle.steD A U H ∧ vx_Zq Bundle.tN "SUPPRESSED_SENTINEL" Bundle.listD A U H
def tysG (g : Gx) : List (ClassId × FieldType) := [(g.2 0, .int), (g.2 1, .long), (g.2 2, .object "ChannelSpacer$Desk")]
def CS (g : Gx) (s : State) : Prop := Tb s ∧ SR s ∧ va_AO "ChannelSpacer$Desk" s ∧ va_K g.1 vwCl (tysG g) s
theorem CS.move {g : Gx} {s U : State} (hW : s.WarmedH U.vm) (h : CS g s) : CS g U := ⟨h.1.move hW, h.2.1.move hW, h.2.2.1.moved hW.alike, h.2.2.2.moved hW.alike⟩
/-- abstract values and cells, at addresses -/
def cV (ad : Nat → Nat) : Value → Value
  | .ref i => .ref (ad i)
  | v => v
def cE (g : Gx) (ad : Nat → Nat) : va_E → va_E
  | .inr (ci, fs) => .inr (ci, fs.map (cV ad))
  | .inl (t, n, .inr (.inr (.inr (.inr f)))) => .inl (g.2 t, n, .inr (.inr (.inr (.inr (fun j => (f j).map ad)))))
  | .inl (t, n, f) => .inl (g.2 t, n, f)
def cW (g : Gx) (ad : Nat → Nat) (w : AW) : va_W := w.mapIdx (fun i e => (ad i, cE g ad e))
def cL (ad : Nat → Nat) (lv : List (Nat × Value)) : List (Nat × Value) := lv.map (fun q => (q.1, cV ad q.2))
theorem cW_at {g : Gx} {ad : Nat → Nat} {w : AW} {i : Nat} {e : va_E} (h : w[i]? = some e) : (cW g ad w)[i]? = some (ad i, cE g ad e) := by
  simp [cW, List.getElem?_mapIdx, h]
theorem cW_set {g : Gx} {ad : Nat → Nat} {w : AW} {i : Nat} {e : va_E} : (cW g ad w).set i (ad i, cE g ad e) = cW g ad (w.set i e) := by
  apply List.ext_getElem?
  intro k
  simp only [cW, List.getElem?_mapIdx, List.getElem?_set, List.length_mapIdx]
  by_cases h : i = k
  · subst h
    by_cases h2 : i < w.length <;> simp [h2]
  · simp [h]
theorem cE_set {g : Gx} {ad : Nat → Nat} {ci : Nat} {fs : List Value} {k : Nat} {v : Value} : (Sum.inr (ci, (fs.map (cV ad)).set k (cV ad v)) : va_E) = cE g ad (.inr (ci, fs.set k v)) := by
  simp [cE, List.map_set]
theorem cL_at {ad : Nat → Nat} {lv : List (Nat × Value)} {k i : Nat} {v : Value} (h : lv[k]? = some (i, v)) : (cL ad lv)[k]? = some (i, cV ad v) := by simp [cL, h]
theorem cV_cat (ad : Nat → Nat) (v : Value) : (cV ad v).category = v.category := by cases v <;> rfl
theorem cV_sum (ad : Nat → Nat) (st : List Value) : ((st.map (cV ad)).map fun v => v.category).sum = (st.map fun v => v.category).sum := by
  simp [List.map_map, Function.comp_def, cV_cat]
/-- the locals behind a store, as a filtered list -/
def lst1 (i : Nat) (v : Value) (lv : List (Nat × Value)) : List (Nat × Value) := (i, v) :: lv.filter (fun q => !(q.1 == i) && !(q.1 + 1 == i && q.2.category == 2))
def lst2 (i : Nat) (v : Value) (lv : List (Nat × Value)) : List (Nat × Value) := (i, v) :: lv.filter (fun q => !(q.1 == i) && (!(q.1 == i + 1) && !(q.1 + 1 == i && q.2.category == 2)))
theorem cL_filter (ad : Nat → Nat) (P : Nat → Nat → Bool) (lv : List (Nat × Value)) : (cL ad lv).filter (fun q => P q.1 q.2.category) = cL ad (lv.filter (fun q => P q.1 q.2.category)) := by
  simp only [cL, List.filter_map]
  congr 1
  apply List.filter_congr
  intro q _
  simp [Function.comp, cV_cat]
theorem cL_lst1 (ad : Nat → Nat) (i : Nat) (v : Value) (lv : List (Nat × Value)) : lst1 i (cV ad v) (cL ad lv) = cL ad (lst1 i v lv) := by
  have h := cL_filter ad (fun a c => !(a == i) && !(a + 1 == i && c == 2)) lv
  unfold lst1
  rw [h]
  rfl
theorem cL_lst2 (ad : Nat → Nat) (i : Nat) (v : Value) (lv : List (Nat × Value)) : lst2 i (cV ad v) (cL ad lv) = cL ad (lst2 i v lv) := by
  have h := cL_filter ad (fun a c => !(a == i) && (!(a == i + 1) && !(a + 1 == i && c == 2))) lv
  unfold lst2
  rw [h]
  rfl
theorem cL_pick (ad : Nat → Nat) (lv : List (Nat × Value)) (ks : List Nat) : lv_pick (cL ad lv) ks = cL ad (lv_pick lv ks) := by
  simp only [lv_pick, cL]
  induction ks with
  | nil => rfl
  | cons a ks ih =>
    simp only [List.getElem?_map] at ih
    simp only [List.filterMap_cons, List.getElem?_map]
    cases h : lv[a]? with
    | none => simp [ih]
    | some q => simp [ih]
/-- rooms by depth -/
def rmE (d mc ms : Nat) : Room := { frames := d + 6, cells := mc, slots := ms, locals := 60 * d + 100 }
def PcE (g : Gx) (ad : Nat → Nat) (sz : Nat) (As : List Value) (w : AW) : Array Value → State → Prop := fun a U =>
  a = (As.map (cV ad)).toArray ∧ U.heap.size = sz ∧ CS g U ∧ va_P g.1 vwCl (cW g ad w) U.heap ∧ va_D (fun _ => True) (cW g ad w) ∧ ZQ (va_A (cW g ad w) sz) U U.heap
def QcE (g : Gx) (ad : Nat → Nat) (sz : Nat) (w : AW) (Q : Option Value → AW → Prop) : Array Value → State → Outcome → State → Prop := fun _ s o t =>
  (∃ (rv : Option Value) (w' : AW), o = .returned (rv.map (cV ad)) ∧ Q rv w' ∧ va_P g.1 vwCl (cW g ad w') t.heap ∧ va_D (va_A (cW g ad w) sz) (cW g ad w')) ∧ va_F (va_A (cW g ad w) sz) s t
def XcE (g : Gx) (ad : Nat → Nat) (sz : Nat) (w : AW) (X : String → AW → Prop) : String → State → State → Prop := fun E s t =>
  (∃ w' : AW, X E w' ∧ va_P g.1 vwCl (cW g ad w') t.heap ∧ va_D (va_A (cW g ad w) sz) (cW g ad w')) ∧ va_F (va_A (cW g ad w) sz) s t
/-- a method's contract, in place words -/
def Ct (l : Launch) (y : MethodName) (cw : Cond) (d mc ms : Nat) (As : List Value) (w : AW) (Q : Option Value → AW → Prop) (X : String → AW → Prop) : Prop :=
  ∀ (g : Gx) (ad : Nat → Nat) (sz : Nat), vx_Met l y [cw] (rmE d mc ms) (PcE g ad sz As w) (QcE g ad sz w Q) (XcE g ad sz w X) mc ms (va_A (cW g ad w) sz)
def Cx (p : Program) (l : Launch) (s : State) (m : MethodId) (meth : Method) (c : Code) (own : String) (cc : ByteArray) (nL : Nat) (ret : Option FieldType) (ini : Bool) (hh : List ExceptionTableEntry) (g : Gx) (A : Nat → Prop) : Prop :=
  p.tables.exec = Jvm.exec ∧ c.code = cc ∧ c.maxLocals = nL ∧ meth.sig.returnType = ret ∧ s.vm.findClass own = some m.cls ∧ meth.locks = false ∧ (ini = true → meth.name = "<init>") ∧ c.exceptionTable.toList = hh ∧ l.stackTraces = false ∧ CS g s ∧ ZQ A s s.heap
abbrev TgT : Type := List Frame → Array Value → State → Gx → (Nat → Nat) → State → Prop
def E (l : Launch) (own : String) (cc : ByteArray) (nL : Nat) (ret : Option FieldType) (ini : Bool) (hh : List ExceptionTableEntry) (R : Room) (w0 : AW) (Tg : TgT) (k n pc : Nat) (lv : List (Nat × Value)) (st : List Value) (w : AW) : Prop :=
  ∀ (p : Program) (e : Env) (s : State) (m : MethodId) (args : Array Value) (below : List Frame) (meth : Method) (c : Code) (g : Gx) (ad : Nat → Nat) (H : Heap) (locs : List Loc) (ls : Array Slot),
    Cx p l s m meth c own cc nL ret ini hh g (va_A (cW g ad w0) s.heap.size) → va_P g.1 vwCl (cW g ad w) H → va_D (va_A (cW g ad w0) s.heap.size) (cW g ad w) → va_S (va_A (cW g ad w0) s.heap.size) s.heap H locs → lv_has ls nL (cL ad lv) →
    W p l e R s m args below meth c H locs k n (Tg below args s g ad) (F0 m pc ls (st.map (cV ad)))
def TgM (w0 : AW) (mc ms : Nat) (Q : Option Value → AW → Prop) (X : String → AW → Prop) : TgT := fun below args s g ad =>
  vx_MQ below (QcE g ad s.heap.size w0 Q) (XcE g ad s.heap.size w0 X) args s mc ms (va_A (cW g ad w0) s.heap.size)
section rows
variable {l : Launch} {own : String} {cc : ByteArray} {nL : Nat} {ret : Option FieldType} {ini : Bool} {hh : List ExceptionTableEntry} {R : Room} {w0 : AW} {Tg : TgT} {k n pc : Nat} {lv : List (Nat × Value)} {st : List Value} {w : AW}

theorem E_iadd {x y : Int32} (hd : decode cc pc = .ok (.iadd, 1))
    (kk : E l own cc nL ret ini hh R w0 Tg k n (pc + 1) lv (.int (x + y) :: st) w) : E l own cc nL ret ini hh R w0 Tg k n pc lv (.int y :: .int x :: st) w := by
  intro p e s m args below meth c g ad H locs ls hc hP hD hS hl
  exact lv_iadd hc.1 hc.2.1 hd (kk p e s m args below meth c g ad H locs ls hc hP hD hS hl)
theorem E_isub {x y : Int32} (hd : decode cc pc = .ok (.isub, 1))
    (kk : E l own cc nL ret ini hh R w0 Tg k n (pc + 1) lv (.int (x - y) :: st) w) : E l own cc nL ret ini hh R w0 Tg k n pc lv (.int y :: .int x :: st) w := by
  intro p e s m args below meth c g ad H locs ls hc hP hD hS hl
  exact lv_isub hc.1 hc.2.1 hd (kk p e s m args below meth c g ad H locs ls hc hP hD hS hl)
theorem E_imul {x y : Int32} (hd : decode cc pc = .ok (.imul, 1))
    (kk : E l own cc nL ret ini hh R w0 Tg k n (pc + 1) lv (.int (x * y) :: st) w) : E l own cc nL ret ini hh R w0 Tg k n pc lv (.int y :: .int x :: st) w := by
  intro p e s m args below meth c g ad H locs ls hc hP hD hS hl
  exact lv_imul hc.1 hc.2.1 hd (kk p e s m args below meth c g ad H locs ls hc hP hD hS hl)
theorem E_iand {x y : Int32} (hd : decode cc pc = .ok (.iand, 1))
    (kk : E l own cc nL ret ini hh R w0 Tg k n (pc + 1) lv (.int (x &&& y) :: st) w) : E l own cc nL ret ini hh R w0 Tg k n pc lv (.int y :: .int x :: st) w := by
  intro p e s m args below meth c g ad H locs ls hc hP hD hS hl
  exact lv_iand hc.1 hc.2.1 hd (kk p e s m args below meth c g ad H locs ls hc hP hD hS hl)
theorem E_ior {x y : Int32} (hd : decode cc pc = .ok (.ior, 1))
    (kk : E l own cc nL ret ini hh R w0 Tg k n (pc + 1) lv (.int (x ||| y) :: st) w) : E l own cc nL ret ini hh R w0 Tg k n pc lv (.int y :: .int x :: st) w := by
  intro p e s m args below meth c g ad H locs ls hc hP hD hS hl
  exact lv_ior hc.1 hc.2.1 hd (kk p e s m args below meth c g ad H locs ls hc hP hD hS hl)
theorem E_ixor {x y : Int32} (hd : decode cc pc = .ok (.ixor, 1))
    (kk : E l own cc nL ret ini hh R w0 Tg k n (pc + 1) lv (.int (x ^^^ y) :: st) w) : E l own cc nL ret ini hh R w0 Tg k n pc lv (.int y :: .int x :: st) w := by
  intro p e s m args below meth c g ad H locs ls hc hP hD hS hl
  exact lv_ixor hc.1 hc.2.1 hd (kk p e s m args below meth c g ad H locs ls hc hP hD hS hl)
theorem E_ishl {x y : Int32} (hd : decode cc pc = .ok (.ishl, 1))
    (kk : E l own cc nL ret ini hh R w0 Tg k n (pc + 1) lv (.int (x <<< (y &&& 31)) :: st) w) : E l own cc nL ret ini hh R w0 Tg k n pc lv (.int y :: .int x :: st) w := by
  intro p e s m args below meth c g ad H locs ls hc hP hD hS hl
  exact lv_ishl hc.1 hc.2.1 hd (kk p e s m args below meth c g ad H locs ls hc hP hD hS hl)
theorem E_ishr {x y : Int32} (hd : decode cc pc = .ok (.ishr, 1))
    (kk : E l own cc nL ret ini hh R w0 Tg k n (pc + 1) lv (.int (x >>> (y &&& 31)) :: st) w) : E l own cc nL ret ini hh R w0 Tg k n pc lv (.int y :: .int x :: st) w := by
  intro p e s m args below meth c g ad H locs ls hc hP hD hS hl
  exact lv_ishr hc.1 hc.2.1 hd (kk p e s m args below meth c g ad H locs ls hc hP hD hS hl)
theorem E_ladd {x y : Int64} (hd : decode cc pc = .ok (.ladd, 1))
    (kk : E l own cc nL ret ini hh R w0 Tg k n (pc + 1) lv (.long (x + y) :: st) w) : E l own cc nL ret ini hh R w0 Tg k n pc lv (.long y :: .long x :: st) w := by
  intro p e s m args below meth c g ad H locs ls hc hP hD hS hl
  exact lv_ladd hc.1 hc.2.1 hd (kk p e s m args below meth c g ad H locs ls hc hP hD hS hl)
theorem E_lsub {x y : Int64} (hd : decode cc pc = .ok (.lsub, 1))
    (kk : E l own cc nL ret ini hh R w0 Tg k n (pc + 1) lv (.long (x - y) :: st) w) : E l own cc nL ret ini hh R w0 Tg k n pc lv (.long y :: .long x :: st) w := by
  intro p e s m args below meth c g ad H locs ls hc hP hD hS hl
  exact lv_lsub hc.1 hc.2.1 hd (kk p e s m args below meth c g ad H locs ls hc hP hD hS hl)
theorem E_lmul {x y : Int64} (hd : decode cc pc = .ok (.lmul, 1))
    (kk : E l own cc nL ret ini hh R w0 Tg k n (pc + 1) lv (.long (x * y) :: st) w) : E l own cc nL ret ini hh R w0 Tg k n pc lv (.long y :: .long x :: st) w := by
  intro p e s m args below meth c g ad H locs ls hc hP hD hS hl
  exact lv_lmul hc.1 hc.2.1 hd (kk p e s m args below meth c g ad H locs ls hc hP hD hS hl)
theorem E_land {x y : Int64} (hd : decode cc pc = .ok (.land, 1))
    (kk : E l own cc nL ret ini hh R w0 Tg k n (pc + 1) lv (.long (x &&& y) :: st) w) : E l own cc nL ret ini hh R w0 Tg k n pc lv (.long y :: .long x :: st) w := by
  intro p e s m args below meth c g ad H locs ls hc hP hD hS hl
  exact lv_land hc.1 hc.2.1 hd (kk p e s m args below meth c g ad H locs ls hc hP hD hS hl)
theorem E_lor {x y : Int64} (hd : decode cc pc = .ok (.lor, 1))
    (kk : E l own cc nL ret ini hh R w0 Tg k n (pc + 1) lv (.long (x ||| y) :: st) w) : E l own cc nL ret ini hh R w0 Tg k n pc lv (.long y :: .long x :: st) w := by
  intro p e s m args below meth c g ad H locs ls hc hP hD hS hl
  exact lv_lor hc.1 hc.2.1 hd (kk p e s m args below meth c g ad H locs ls hc hP hD hS hl)
theorem E_ineg {x : Int32} (hd : decode cc pc = .ok (.ineg, 1))
    (kk : E l own cc nL ret ini hh R w0 Tg k n (pc + 1) lv (.int (0 - x) :: st) w) : E l own cc nL ret ini hh R w0 Tg k n pc lv (.int x :: st) w := by
  intro p e s m args below meth c g ad H locs ls hc hP hD hS hl
  exact lv_ineg hc.1 hc.2.1 hd (kk p e s m args below meth c g ad H locs ls hc hP hD hS hl)
theorem E_iushr {x y : Int32} (hd : decode cc pc = .ok (.iushr, 1))
    (kk : E l own cc nL ret ini hh R w0 Tg k n (pc + 1) lv (.int ((x.toUInt32 >>> (y.toUInt32 &&& Int32.toUInt32 31)).toInt32) :: st) w) : E l own cc nL ret ini hh R w0 Tg k n pc lv (.int y :: .int x :: st) w := by
  intro p e s m args below meth c g ad H locs ls hc hP hD hS hl
  exact lv_iushr hc.1 hc.2.1 hd rfl (kk p e s m args below meth c g ad H locs ls hc hP hD hS hl)
theorem E_lushr {x : Int64} {y : Int32} (hd : decode cc pc = .ok (.lushr, 1))
    (kk : E l own cc nL ret ini hh R w0 Tg k n (pc + 1) lv (.long ((x.toUInt64 >>> (y.toInt64.toUInt64 &&& Int64.toUInt64 63)).toInt64) :: st) w) : E l own cc nL ret ini hh R w0 Tg k n pc lv (.int y :: .long x :: st) w := by
  intro p e s m args below meth c g ad H locs ls hc hP hD hS hl
  exact lv_lushr hc.1 hc.2.1 hd rfl (kk p e s m args below meth c g ad H locs ls hc hP hD hS hl)
theorem E_lshl {x : Int64} {y : Int32} (hd : decode cc pc = .ok (.lshl, 1))
    (kk : E l own cc nL ret ini hh R w0 Tg k n (pc + 1) lv (.long (x <<< (y.toInt64 &&& 63)) :: st) w) : E l own cc nL ret ini hh R w0 Tg k n pc lv (.int y :: .long x :: st) w := by
  intro p e s m args below meth c g ad H locs ls hc hP hD hS hl
  exact lv_lshl hc.1 hc.2.1 hd rfl (kk p e s m args below meth c g ad H locs ls hc hP hD hS hl)
theorem E_lshr {x : Int64} {y : Int32} (hd : decode cc pc = .ok (.lshr, 1))
    (kk : E l own cc nL ret ini hh R w0 Tg k n (pc + 1) lv (.long (x >>> (y.toInt64 &&& 63)) :: st) w) : E l own cc nL ret ini hh R w0 Tg k n pc lv (.int y :: .long x :: st) w := by
  intro p e s m args below meth c g ad H locs ls hc hP hD hS hl
  exact lv_lshr hc.1 hc.2.1 hd rfl (kk p e s m args below meth c g ad H locs ls hc hP hD hS hl)
theorem E_i2l {x : Int32} (hd : decode cc pc = .ok (.i2l, 1))
    (kk : E l own cc nL ret ini hh R w0 Tg k n (pc + 1) lv (.long x.toInt64 :: st) w) : E l own cc nL ret ini hh R w0 Tg k n pc lv (.int x :: st) w := by
  intro p e s m args below meth c g ad H locs ls hc hP hD hS hl
  exact lv_i2l hc.1 hc.2.1 hd rfl (kk p e s m args below meth c g ad H locs ls hc hP hD hS hl)
theorem E_lcmp {x y : Int64} (hd : decode cc pc = .ok (.lcmp, 1))
    (kk : E l own cc nL ret ini hh R w0 Tg k n (pc + 1) lv (.int (lg_cmp x y) :: st) w) : E l own cc nL ret ini hh R w0 Tg k n pc lv (.long y :: .long x :: st) w := by
  intro p e s m args below meth c g ad H locs ls hc hP hD hS hl
  exact W.lcmp hc.1 hc.2.1 hd (kk p e s m args below meth c g ad H locs ls hc hP hD hS hl)
theorem E_iconst {i : Int} (v : Int32) (hv : Int32.ofInt i = v) (hd : decode cc pc = .ok (.iconst i, 1))
    (kk : E l own cc nL ret ini hh R w0 Tg k n (pc + 1) lv (.int v :: st) w) : E l own cc nL ret ini hh R w0 Tg k n pc lv (st) w := by
  intro p e s m args below meth c g ad H locs ls hc hP hD hS hl
  exact lv_iconst hc.1 hc.2.1 hd hv (kk p e s m args below meth c g ad H locs ls hc hP hD hS hl)
theorem E_bipush {i : Int} (v : Int32) (hv : (Int8.ofInt i).toInt32 = v) (hd : decode cc pc = .ok (.bipush i, 2))
    (kk : E l own cc nL ret ini hh R w0 Tg k n (pc + 2) lv (.int v :: st) w) : E l own cc nL ret ini hh R w0 Tg k n pc lv (st) w := by
  intro p e s m args below meth c g ad H locs ls hc hP hD hS hl
  exact lv_bipush hc.1 hc.2.1 hd hv (kk p e s m args below meth c g ad H locs ls hc hP hD hS hl)
theorem E_sipush {i : Int} (v : Int32) (hv : (Int16.ofInt i).toInt32 = v) (hd : decode cc pc = .ok (.sipush i, 3))
    (kk : E l own cc nL ret ini hh R w0 Tg k n (pc + 3) lv (.int v :: st) w) : E l own cc nL ret ini hh R w0 Tg k n pc lv (st) w := by
  intro p e s m args below meth c g ad H locs ls hc hP hD hS hl
  exact lv_sipush hc.1 hc.2.1 hd hv (kk p e s m args below meth c g ad H locs ls hc hP hD hS hl)
theorem E_lconst {i : Fin 2} (v : Int64) (hv : Int64.ofNat (i : Nat) = v) (hd : decode cc pc = .ok (.lconst i, 1))
    (kk : E l own cc nL ret ini hh R w0 Tg k n (pc + 1) lv (.long v :: st) w) : E l own cc nL ret ini hh R w0 Tg k n pc lv (st) w := by
  intro p e s m args below meth c g ad H locs ls hc hP hD hS hl
  exact lv_lconst hc.1 hc.2.1 hd hv (kk p e s m args below meth c g ad H locs ls hc hP hD hS hl)
theorem E_null  (hd : decode cc pc = .ok (.aconst_null, 1))
    (kk : E l own cc nL ret ini hh R w0 Tg k n (pc + 1) lv (.null :: st) w) : E l own cc nL ret ini hh R w0 Tg k n pc lv (st) w := by
  intro p e s m args below meth c g ad H locs ls hc hP hD hS hl
  exact lv_null hc.1 hc.2.1 hd (kk p e s m args below meth c g ad H locs ls hc hP hD hS hl)
theorem E_dup {v : Value} (hv : v.category = 1) (hd : decode cc pc = .ok (.dup, 1))
    (kk : E l own cc nL ret ini hh R w0 Tg k n (pc + 1) lv (v :: v :: st) w) : E l own cc nL ret ini hh R w0 Tg k n pc lv (v :: st) w := by
  intro p e s m args below meth c g ad H locs ls hc hP hD hS hl
  exact lv_dup hc.1 hc.2.1 hd ((cV_cat ad v).trans hv) (kk p e s m args below meth c g ad H locs ls hc hP hD hS hl)
theorem E_pop {v : Value} (hv : v.category = 1) (hd : decode cc pc = .ok (.pop, 1))
    (kk : E l own cc nL ret ini hh R w0 Tg k n (pc + 1) lv st w) : E l own cc nL ret ini hh R w0 Tg k n pc lv (v :: st) w := by
  intro p e s m args below meth c g ad H locs ls hc hP hD hS hl
  exact lv_pop hc.1 hc.2.1 hd ((cV_cat ad v).trans hv) (kk p e s m args below meth c g ad H locs ls hc hP hD hS hl)
theorem E_dup2 {v u : Value} (hv : v.category = 1) (hu : u.category = 1) (hd : decode cc pc = .ok (.dup2, 1))
    (kk : E l own cc nL ret ini hh R w0 Tg k n (pc + 1) lv (v :: u :: v :: u :: st) w) : E l own cc nL ret ini hh R w0 Tg k n pc lv (v :: u :: st) w := by
  intro p e s m args below meth c g ad H locs ls hc hP hD hS hl
  exact lv_dup2_11 hc.1 hc.2.1 hd ((cV_cat ad v).trans hv) ((cV_cat ad u).trans hu) (kk p e s m args below meth c g ad H locs ls hc hP hD hS hl)
theorem E_goto {off : Int} (tgt : Nat) (hd : decode cc pc = .ok (.goto off, 3)) (ht : (pc : Int) + off = (tgt : Int))
    (kk : E l own cc nL ret ini hh R w0 Tg k n tgt lv st w) : E l own cc nL ret ini hh R w0 Tg k n pc lv st w := by
  intro p e s m args below meth c g ad H locs ls hc hP hD hS hl
  exact lv_goto hc.1 hc.2.1 hd ht (kk p e s m args below meth c g ad H locs ls hc hP hD hS hl)
theorem E_iload_n {q : Fin 4} {i : Nat} {x : Int32} (j : Nat) (hd : decode cc pc = .ok (.iload_n q, 1)) (hi : (q : Nat) = i) (hj : lv[j]? = some (i, .int x))
    (kk : E l own cc nL ret ini hh R w0 Tg k n (pc + 1) lv (.int x :: st) w) : E l own cc nL ret ini hh R w0 Tg k n pc lv st w := by
  intro p e s m args below meth c g ad H locs ls hc hP hD hS hl
  exact lv_iload_n hc.1 hc.2.1 hd hi (lv_at hl j (cL_at hj)) (kk p e s m args below meth c g ad H locs ls hc hP hD hS hl)
theorem E_iload {i : Nat} {x : Int32} (j : Nat) (hd : decode cc pc = .ok (.iload i, 2)) (hj : lv[j]? = some (i, .int x))
    (kk : E l own cc nL ret ini hh R w0 Tg k n (pc + 2) lv (.int x :: st) w) : E l own cc nL ret ini hh R w0 Tg k n pc lv st w := by
  intro p e s m args below meth c g ad H locs ls hc hP hD hS hl
  exact lv_iload hc.1 hc.2.1 hd (lv_at hl j (cL_at hj)) (kk p e s m args below meth c g ad H locs ls hc hP hD hS hl)
theorem E_lload_n {q : Fin 4} {i : Nat} {x : Int64} (j : Nat) (hd : decode cc pc = .ok (.lload_n q, 1)) (hi : (q : Nat) = i) (hj : lv[j]? = some (i, .long x))
    (kk : E l own cc nL ret ini hh R w0 Tg k n (pc + 1) lv (.long x :: st) w) : E l own cc nL ret ini hh R w0 Tg k n pc lv st w := by
  intro p e s m args below meth c g ad H locs ls hc hP hD hS hl
  exact lv_lload_n hc.1 hc.2.1 hd hi (lv_at hl j (cL_at hj)) (kk p e s m args below meth c g ad H locs ls hc hP hD hS hl)
theorem E_lload {i : Nat} {x : Int64} (j : Nat) (hd : decode cc pc = .ok (.lload i, 2)) (hj : lv[j]? = some (i, .long x))
    (kk : E l own cc nL ret ini hh R w0 Tg k n (pc + 2) lv (.long x :: st) w) : E l own cc nL ret ini hh R w0 Tg k n pc lv st w := by
  intro p e s m args below meth c g ad H locs ls hc hP hD hS hl
  exact lv_lload hc.1 hc.2.1 hd (lv_at hl j (cL_at hj)) (kk p e s m args below meth c g ad H locs ls hc hP hD hS hl)
theorem E_aload_n {q : Fin 4} {i : Nat} {x : Nat} (j : Nat) (hd : decode cc pc = .ok (.aload_n q, 1)) (hi : (q : Nat) = i) (hj : lv[j]? = some (i, .ref x))
    (kk : E l own cc nL ret ini hh R w0 Tg k n (pc + 1) lv (.ref x :: st) w) : E l own cc nL ret ini hh R w0 Tg k n pc lv st w := by
  intro p e s m args below meth c g ad H locs ls hc hP hD hS hl
  exact lv_aload_n hc.1 hc.2.1 hd hi (lv_at hl j (cL_at hj)) (kk p e s m args below meth c g ad H locs ls hc hP hD hS hl)
theorem E_aload {i : Nat} {x : Nat} (j : Nat) (hd : decode cc pc = .ok (.aload i, 2)) (hj : lv[j]? = some (i, .ref x))
    (kk : E l own cc nL ret ini hh R w0 Tg k n (pc + 2) lv (.ref x :: st) w) : E l own cc nL ret ini hh R w0 Tg k n pc lv st w := by
  intro p e s m args below meth c g ad H locs ls hc hP hD hS hl
  exact lv_aload hc.1 hc.2.1 hd (lv_at hl j (cL_at hj)) (kk p e s m args below meth c g ad H locs ls hc hP hD hS hl)
theorem E_istore_n {q : Fin 4} {i : Nat} {x : Int32} (lv' : List (Nat × Value)) (hd : decode cc pc = .ok (.istore_n q, 1)) (hi : (q : Nat) = i) (hn : i < nL) (hl' : lst1 i (.int x) lv = lv')
    (kk : E l own cc nL ret ini hh R w0 Tg k n (pc + 1) lv' st w) : E l own cc nL ret ini hh R w0 Tg k n pc lv (.int x :: st) w := by
  intro p e s m args below meth c g ad H locs ls hc hP hD hS hl
  exact lv_istore_n hc.1 hc.2.1 hd hi hl hn ((cL_lst1 ad i (.int x) lv).trans (congrArg (cL ad) hl')) (fun ls' hl'' => kk p e s m args below meth c g ad H locs ls' hc hP hD hS hl'')
theorem E_istore {i : Nat} {x : Int32} (lv' : List (Nat × Value)) (hd : decode cc pc = .ok (.istore i, 2)) (hn : i < nL) (hl' : lst1 i (.int x) lv = lv')
    (kk : E l own cc nL ret ini hh R w0 Tg k n (pc + 2) lv' st w) : E l own cc nL ret ini hh R w0 Tg k n pc lv (.int x :: st) w := by
  intro p e s m args below meth c g ad H locs ls hc hP hD hS hl
  exact lv_istore hc.1 hc.2.1 hd hl hn ((cL_lst1 ad i (.int x) lv).trans (congrArg (cL ad) hl')) (fun ls' hl'' => kk p e s m args below meth c g ad H locs ls' hc hP hD hS hl'')
theorem E_lstore_n {q : Fin 4} {i : Nat} {x : Int64} (lv' : List (Nat × Value)) (hd : decode cc pc = .ok (.lstore_n q, 1)) (hi : (q : Nat) = i) (hn : i + 1 < nL) (hl' : lst2 i (.long x) lv = lv')
    (kk : E l own cc nL ret ini hh R w0 Tg k n (pc + 1) lv' st w) : E l own cc nL ret ini hh R w0 Tg k n pc lv (.long x :: st) w := by
  intro p e s m args below meth c g ad H locs ls hc hP hD hS hl
  exact lv_lstore_n hc.1 hc.2.1 hd hi hl hn ((cL_lst2 ad i (.long x) lv).trans (congrArg (cL ad) hl')) (fun ls' hl'' => kk p e s m args below meth c g ad H locs ls' hc hP hD hS hl'')
theorem E_lstore {i : Nat} {x : Int64} (lv' : List (Nat × Value)) (hd : decode cc pc = .ok (.lstore i, 2)) (hn : i + 1 < nL) (hl' : lst2 i (.long x) lv = lv')
    (kk : E l own cc nL ret ini hh R w0 Tg k n (pc + 2) lv' st w) : E l own cc nL ret ini hh R w0 Tg k n pc lv (.long x :: st) w := by
  intro p e s m args below meth c g ad H locs ls hc hP hD hS hl
  exact lv_lstore hc.1 hc.2.1 hd hl hn ((cL_lst2 ad i (.long x) lv).trans (congrArg (cL ad) hl')) (fun ls' hl'' => kk p e s m args below meth c g ad H locs ls' hc hP hD hS hl'')
theorem E_astore_n {q : Fin 4} {i : Nat} {x : Nat} (lv' : List (Nat × Value)) (hd : decode cc pc = .ok (.astore_n q, 1)) (hi : (q : Nat) = i) (hn : i < nL) (hl' : lst1 i (.ref x) lv = lv')
    (kk : E l own cc nL ret ini hh R w0 Tg k n (pc + 1) lv' st w) : E l own cc nL ret ini hh R w0 Tg k n pc lv (.ref x :: st) w := by
  intro p e s m args below meth c g ad H locs ls hc hP hD hS hl
  exact lv_astore_n hc.1 hc.2.1 hd hi hl hn ((cL_lst1 ad i (.ref x) lv).trans (congrArg (cL ad) hl')) (fun ls' hl'' => kk p e s m args below meth c g ad H locs ls' hc hP hD hS hl'')
theorem E_astore {i : Nat} {x : Nat} (lv' : List (Nat × Value)) (hd : decode cc pc = .ok (.astore i, 2)) (hn : i < nL) (hl' : lst1 i (.ref x) lv = lv')
    (kk : E l own cc nL ret ini hh R w0 Tg k n (pc + 2) lv' st w) : E l own cc nL ret ini hh R w0 Tg k n pc lv (.ref x :: st) w := by
  intro p e s m args below meth c g ad H locs ls hc hP hD hS hl
  exact lv_astore hc.1 hc.2.1 hd hl hn ((cL_lst1 ad i (.ref x) lv).trans (congrArg (cL ad) hl')) (fun ls' hl'' => kk p e s m args below meth c g ad H locs ls' hc hP hD hS hl'')
theorem E_iinc {i : Nat} {q : Int} {x : Int32} (j : Nat) (v : Int32) (lv' : List (Nat × Value)) (hd : decode cc pc = .ok (.iinc i q, 3)) (hj : lv[j]? = some (i, .int x)) (hv : x + Int32.ofInt q = v) (hn : i < nL) (hl' : lst1 i (.int v) lv = lv')
    (kk : E l own cc nL ret ini hh R w0 Tg k n (pc + 3) lv' st w) : E l own cc nL ret ini hh R w0 Tg k n pc lv st w := by
  intro p e s m args below meth c g ad H locs ls hc hP hD hS hl
  exact lv_iinc hc.1 hc.2.1 hd hl (cL_at hj) hv hn ((cL_lst1 ad i (.int v) lv).trans (congrArg (cL ad) hl')) (fun ls' hl'' => kk p e s m args below meth c g ad H locs ls' hc hP hD hS hl'')
/-- fewer locals, or in another order -/
theorem E_sub (ks : List Nat) {lv' : List (Nat × Value)} (h : lv_pick lv ks = lv') (kk : E l own cc nL ret ini hh R w0 Tg k n pc lv' st w) : E l own cc nL ret ini hh R w0 Tg k n pc lv st w := by
  intro p e s m args below meth c g ad H locs ls hc hP hD hS hl
  exact kk p e s m args below meth c g ad H locs ls hc hP hD hS (lv_sub hl ks ((cL_pick ad lv ks).trans (congrArg (cL ad) h)))
theorem E_widen {k' n' : Nat} (h1 : k ≤ k') (h2 : n ≤ n') (kk : E l own cc nL ret ini hh R w0 Tg k' n' pc lv st w) : E l own cc nL ret ini hh R w0 Tg k n pc lv st w := by
  intro p e s m args below meth c g ad H locs ls hc hP hD hS hl
  exact W.widen h1 h2 (kk p e s m args below meth c g ad H locs ls hc hP hD hS hl)
theorem E_icmp_eq {x y : Int32} {off : Int} (tgt : Nat) (hd : decode cc pc = .ok (.if_icmp .eq off, 3)) (ht : (pc : Int) + off = (tgt : Int))
    (kt : x = y → E l own cc nL ret ini hh R w0 Tg k n tgt lv st w) (kf : ¬ x = y → E l own cc nL ret ini hh R w0 Tg k n (pc + 3) lv st w) : E l own cc nL ret ini hh R w0 Tg k n pc lv (.int y :: .int x :: st) w := by
  intro p e s m args below meth c g ad H locs ls hc hP hD hS hl
  exact lv_icmp_eq hc.1 hc.2.1 hd ht (fun h => kt h p e s m args below meth c g ad H locs ls hc hP hD hS hl) (fun h => kf h p e s m args below meth c g ad H locs ls hc hP hD hS hl)
theorem E_icmp_ne {x y : Int32} {off : Int} (tgt : Nat) (hd : decode cc pc = .ok (.if_icmp .ne off, 3)) (ht : (pc : Int) + off = (tgt : Int))
    (kt : ¬ x = y → E l own cc nL ret ini hh R w0 Tg k n tgt lv st w) (kf : x = y → E l own cc nL ret ini hh R w0 Tg k n (pc + 3) lv st w) : E l own cc nL ret ini hh R w0 Tg k n pc lv (.int y :: .int x :: st) w := by
  intro p e s m args below meth c g ad H locs ls hc hP hD hS hl
  exact lv_icmp_ne hc.1 hc.2.1 hd ht (fun h => kt h p e s m args below meth c g ad H locs ls hc hP hD hS hl) (fun h => kf h p e s m args below meth c g ad H locs ls hc hP hD hS hl)
theorem E_icmp_lt {x y : Int32} {off : Int} (tgt : Nat) (hd : decode cc pc = .ok (.if_icmp .lt off, 3)) (ht : (pc : Int) + off = (tgt : Int))
    (kt : x < y → E l own cc nL ret ini hh R w0 Tg k n tgt lv st w) (kf : ¬ x < y → E l own cc nL ret ini hh R w0 Tg k n (pc + 3) lv st w) : E l own cc nL ret ini hh R w0 Tg k n pc lv (.int y :: .int x :: st) w := by
  intro p e s m args below meth c g ad H locs ls hc hP hD hS hl
  exact lv_icmp_lt hc.1 hc.2.1 hd ht (fun h => kt h p e s m args below meth c g ad H locs ls hc hP hD hS hl) (fun h => kf h p e s m args below meth c g ad H locs ls hc hP hD hS hl)
theorem E_icmp_ge {x y : Int32} {off : Int} (tgt : Nat) (hd : decode cc pc = .ok (.if_icmp .ge off, 3)) (ht : (pc : Int) + off = (tgt : Int))
    (kt : y ≤ x → E l own cc nL ret ini hh R w0 Tg k n tgt lv st w) (kf : ¬ y ≤ x → E l own cc nL ret ini hh R w0 Tg k n (pc + 3) lv st w) : E l own cc nL ret ini hh R w0 Tg k n pc lv (.int y :: .int x :: st) w := by
  intro p e s m args below meth c g ad H locs ls hc hP hD hS hl
  exact lv_icmp_ge hc.1 hc.2.1 hd ht (fun h => kt h p e s m args below meth c g ad H locs ls hc hP hD hS hl) (fun h => kf h p e s m args below meth c g ad H locs ls hc hP hD hS hl)
theorem E_icmp_gt {x y : Int32} {off : Int} (tgt : Nat) (hd : decode cc pc = .ok (.if_icmp .gt off, 3)) (ht : (pc : Int) + off = (tgt : Int))
    (kt : y < x → E l own cc nL ret ini hh R w0 Tg k n tgt lv st w) (kf : ¬ y < x → E l own cc nL ret ini hh R w0 Tg k n (pc + 3) lv st w) : E l own cc nL ret ini hh R w0 Tg k n pc lv (.int y :: .int x :: st) w := by
  intro p e s m args below meth c g ad H locs ls hc hP hD hS hl
  exact lv_icmp_gt hc.1 hc.2.1 hd ht (fun h => kt h p e s m args below meth c g ad H locs ls hc hP hD hS hl) (fun h => kf h p e s m args below meth c g ad H locs ls hc hP hD hS hl)
theorem E_icmp_le {x y : Int32} {off : Int} (tgt : Nat) (hd : decode cc pc = .ok (.if_icmp .le off, 3)) (ht : (pc : Int) + off = (tgt : Int))
    (kt : x ≤ y → E l own cc nL ret ini hh R w0 Tg k n tgt lv st w) (kf : ¬ x ≤ y → E l own cc nL ret ini hh R w0 Tg k n (pc + 3) lv st w) : E l own cc nL ret ini hh R w0 Tg k n pc lv (.int y :: .int x :: st) w := by
  intro p e s m args below meth c g ad H locs ls hc hP hD hS hl
  exact lv_icmp_le hc.1 hc.2.1 hd ht (fun h => kt h p e s m args below meth c g ad H locs ls hc hP hD hS hl) (fun h => kf h p e s m args below meth c g ad H locs ls hc hP hD hS hl)
theorem E_if_eq {x : Int32} {off : Int} (tgt : Nat) (hd : decode cc pc = .ok (.ifCond .eq off, 3)) (ht : (pc : Int) + off = (tgt : Int))
    (kt : x = 0 → E l own cc nL ret ini hh R w0 Tg k n tgt lv st w) (kf : ¬ x = 0 → E l own cc nL ret ini hh R w0 Tg k n (pc + 3) lv st w) : E l own cc nL ret ini hh R w0 Tg k n pc lv (.int x :: st) w := by
  intro p e s m args below meth c g ad H locs ls hc hP hD hS hl
  exact lv_if_eq hc.1 hc.2.1 hd ht (fun h => kt h p e s m args below meth c g ad H locs ls hc hP hD hS hl) (fun h => kf h p e s m args below meth c g ad H locs ls hc hP hD hS hl)
theorem E_if_ne {x : Int32} {off : Int} (tgt : Nat) (hd : decode cc pc = .ok (.ifCond .ne off, 3)) (ht : (pc : Int) + off = (tgt : Int))
    (kt : ¬ x = 0 → E l own cc nL ret ini hh R w0 Tg k n tgt lv st w) (kf : x = 0 → E l own cc nL ret ini hh R w0 Tg k n (pc + 3) lv st w) : E l own cc nL ret ini hh R w0 Tg k n pc lv (.int x :: st) w := by
  intro p e s m args below meth c g ad H locs ls hc hP hD hS hl
  exact lv_if_ne hc.1 hc.2.1 hd ht (fun h => kt h p e s m args below meth c g ad H locs ls hc hP hD hS hl) (fun h => kf h p e s m args below meth c g ad H locs ls hc hP hD hS hl)
theorem E_if_lt {x : Int32} {off : Int} (tgt : Nat) (hd : decode cc pc = .ok (.ifCond .lt off, 3)) (ht : (pc : Int) + off = (tgt : Int))
    (kt : x < 0 → E l own cc nL ret ini hh R w0 Tg k n tgt lv st w) (kf : ¬ x < 0 → E l own cc nL ret ini hh R w0 Tg k n (pc + 3) lv st w) : E l own cc nL ret ini hh R w0 Tg k n pc lv (.int x :: st) w := by
  intro p e s m args below meth c g ad H locs ls hc hP hD hS hl
  exact lv_if_lt hc.1 hc.2.1 hd ht (fun h => kt h p e s m args below meth c g ad H locs ls hc hP hD hS hl) (fun h => kf h p e s m args below meth c g ad H locs ls hc hP hD hS hl)
theorem E_if_ge {x : Int32} {off : Int} (tgt : Nat) (hd : decode cc pc = .ok (.ifCond .ge off, 3)) (ht : (pc : Int) + off = (tgt : Int))
    (kt : 0 ≤ x → E l own cc nL ret ini hh R w0 Tg k n tgt lv st w) (kf : ¬ 0 ≤ x → E l own cc nL ret ini hh R w0 Tg k n (pc + 3) lv st w) : E l own cc nL ret ini hh R w0 Tg k n pc lv (.int x :: st) w := by
  intro p e s m args below meth c g ad H locs ls hc hP hD hS hl
  exact lv_if_ge hc.1 hc.2.1 hd ht (fun h => kt h p e s m args below meth c g ad H locs ls hc hP hD hS hl) (fun h => kf h p e s m args below meth c g ad H locs ls hc hP hD hS hl)
theorem E_if_gt {x : Int32} {off : Int} (tgt : Nat) (hd : decode cc pc = .ok (.ifCond .gt off, 3)) (ht : (pc : Int) + off = (tgt : Int))
    (kt : 0 < x → E l own cc nL ret ini hh R w0 Tg k n tgt lv st w) (kf : ¬ 0 < x → E l own cc nL ret ini hh R w0 Tg k n (pc + 3) lv st w) : E l own cc nL ret ini hh R w0 Tg k n pc lv (.int x :: st) w := by
  intro p e s m args below meth c g ad H locs ls hc hP hD hS hl
  exact lv_if_gt hc.1 hc.2.1 hd ht (fun h => kt h p e s m args below meth c g ad H locs ls hc hP hD hS hl) (fun h => kf h p e s m args below meth c g ad H locs ls hc hP hD hS hl)
theorem E_if_le {x : Int32} {off : Int} (tgt : Nat) (hd : decode cc pc = .ok (.ifCond .le off, 3)) (ht : (pc : Int) + off = (tgt : Int))
    (kt : x ≤ 0 → E l own cc nL ret ini hh R w0 Tg k n tgt lv st w) (kf : ¬ x ≤ 0 → E l own cc nL ret ini hh R w0 Tg k n (pc + 3) lv st w) : E l own cc nL ret ini hh R w0 Tg k n pc lv (.int x :: st) w := by
  intro p e s m args below meth c g ad H locs ls hc hP hD hS hl
  exact lv_if_le hc.1 hc.2.1 hd ht (fun h => kt h p e s m args below meth c g ad H locs ls hc hP hD hS hl) (fun h => kf h p e s m args below meth c g ad H locs ls hc hP hD hS hl)
theorem E_ifnull_ref {x : Nat} {off : Int} (hd : decode cc pc = .ok (.ifnull off, 3)) (kk : E l own cc nL ret ini hh R w0 Tg k n (pc + 3) lv st w) : E l own cc nL ret ini hh R w0 Tg k n pc lv (.ref x :: st) w := by
  intro p e s m args below meth c g ad H locs ls hc hP hD hS hl
  exact lv_ifnull hc.1 hc.2.1 hd (kk p e s m args below meth c g ad H locs ls hc hP hD hS hl)
theorem E_ifnull_null {off : Int} (tgt : Nat) (hd : decode cc pc = .ok (.ifnull off, 3)) (ht : (pc : Int) + off = (tgt : Int)) (kk : E l own cc nL ret ini hh R w0 Tg k n tgt lv st w) : E l own cc nL ret ini hh R w0 Tg k n pc lv (.null :: st) w := by
  intro p e s m args below meth c g ad H locs ls hc hP hD hS hl
  exact lv_ifnullN hc.1 hc.2.1 hd ht (kk p e s m args below meth c g ad H locs ls hc hP hD hS hl)
theorem E_ldc {i : Nat} {v : Int32} (hw : Wd (.constant own i v)) (hd : decode cc pc = .ok (.ldc i, 2)) (kk : E l own cc nL ret ini hh R w0 Tg k n (pc + 2) lv (.int v :: st) w) : E l own cc nL ret ini hh R w0 Tg k n pc lv st w := by
  intro p e s m args below meth c g ad H locs ls hc hP hD hS hl
  exact lv_ldc hc.1 hc.2.1 hc.2.2.2.2.1 (hc.2.2.2.2.2.2.2.2.2.1.1.use hw) hd (kk p e s m args below meth c g ad H locs ls hc hP hD hS hl)
theorem E_ldc_w {i : Nat} {v : Int32} (hw : Wd (.constant own i v)) (hd : decode cc pc = .ok (.ldc_w i, 3)) (kk : E l own cc nL ret ini hh R w0 Tg k n (pc + 3) lv (.int v :: st) w) : E l own cc nL ret ini hh R w0 Tg k n pc lv st w := by
  intro p e s m args below meth c g ad H locs ls hc hP hD hS hl
  exact lv_ldcw hc.1 hc.2.1 hc.2.2.2.2.1 (hc.2.2.2.2.2.2.2.2.2.1.1.use hw) hd (kk p e s m args below meth c g ad H locs ls hc hP hD hS hl)
theorem E_ldc2 {i : Nat} {v : Int64} (hw : Wd (.constantLong own i v)) (hd : decode cc pc = .ok (.ldc2_w i, 3)) (kk : E l own cc nL ret ini hh R w0 Tg k n (pc + 3) lv (.long v :: st) w) : E l own cc nL ret ini hh R w0 Tg k n pc lv st w := by
  intro p e s m args below meth c g ad H locs ls hc hP hD hS hl
  exact lv_ldc2 hc.1 hc.2.1 hc.2.2.2.2.1 (hc.2.2.2.2.2.2.2.2.2.1.1.use hw) hd (kk p e s m args below meth c g ad H locs ls hc hP hD hS hl)
/-- fields -/
theorem E_get {i ci idx f N : Nat} {ref C : String} {T : u_T} {fs : List Value} {v : Value} (hci : vwCl[ci]? = some (C, T, N)) (hin : ∀ x ∈ u_ws C T N, Wd x) (hf : f < N) (hlk : Wd (.fieldLink own idx ref (T f).2.1 (T f).2.2.1)) (href : (T f).1 = ref)
    (hw : w[i]? = some (.inr (ci, fs))) (hv : fs[f]? = some v) (hd : decode cc pc = .ok (.getfield idx, 3))
    (kk : E l own cc nL ret ini hh R w0 Tg k n (pc + 3) lv (v :: st) w) : E l own cc nL ret ini hh R w0 Tg k n pc lv (.ref i :: st) w := by
  intro p e s m args below meth c g ad H locs ls hc hP hD hS hl
  have hT := hc.2.2.2.2.2.2.2.2.2.1
  exact va_get (v := cV ad v) (ref := ref) hc.1 hc.2.1 (Ts := u_ws C T N) (fun x hx => hT.1.use (hin x hx)) (fun _ h => h) hc.2.2.2.2.1 hT.2.2.2 hP i (cW_at hw) hci f hf (hT.1.use hlk) (fun x h => by rw [← href]; exact h) (by simp [hv]) hd (kk p e s m args below meth c g ad H locs ls hc hP hD hS hl)
theorem E_getN {i ci idx f N : Nat} {ref C host : String} {T : u_T} {fs : List Value} {v : Value} (hci : vwCl[ci]? = some (C, T, N)) (hin : ∀ x ∈ u_ws C T N, Wd x) (hf : f < N) (hlk : Wd (.fieldLinkNest own idx ref (T f).2.1 (T f).2.2.1 host)) (href : (T f).1 = ref)
    (hw : w[i]? = some (.inr (ci, fs))) (hv : fs[f]? = some v) (hd : decode cc pc = .ok (.getfield idx, 3))
    (kk : E l own cc nL ret ini hh R w0 Tg k n (pc + 3) lv (v :: st) w) : E l own cc nL ret ini hh R w0 Tg k n pc lv (.ref i :: st) w := by
  intro p e s m args below meth c g ad H locs ls hc hP hD hS hl
  have hT := hc.2.2.2.2.2.2.2.2.2.1
  exact va_getN (v := cV ad v) (ref := ref) (host := host) hc.1 hc.2.1 (Ts := u_ws C T N) (fun x hx => hT.1.use (hin x hx)) (fun _ h => h) hc.2.2.2.2.1 hT.2.2.2 hP i (cW_at hw) hci f hf (hT.1.use hlk) (fun x h => by rw [← href]; exact h) (by simp [hv]) hd (kk p e s m args below meth c g ad H locs ls hc hP hD hS hl)
theorem E_put {i ci idx f N : Nat} {ref C : String} {T : u_T} {fs : List Value} {v : Value} {ty : FieldType} (ty0 : Nat → FieldType) (hty : ∀ k, k < N → parseFieldDescriptor (T k).2.2.1 = some (ty0 k)) (hnm : ∀ a, a < N → ∀ b, b < N → a ≠ b → (T a).2.1 ≠ (T b).2.1) (hci : vwCl[ci]? = some (C, T, N)) (hin : ∀ x ∈ u_ws C T N, Wd x) (hf : f < N) (hlk : Wd (.fieldLink own idx ref (T f).2.1 (T f).2.2.1)) (href : (T f).1 = ref)
    (hfin : (T f).2.2.2 = false) (hpd : parseFieldDescriptor (T f).2.2.1 = some ty) (hnw : ∀ ad, narrow ty (cV ad v) = cV ad v) (hfit : ∀ ad, fits ty (cV ad v) = true) (hw : w[i]? = some (.inr (ci, fs))) (hlen : f < fs.length) (hd : decode cc pc = .ok (.putfield idx, 3))
    (kk : E l own cc nL ret ini hh R w0 Tg k n (pc + 3) lv st (w.set i (.inr (ci, fs.set f v)))) : E l own cc nL ret ini hh R w0 Tg k n pc lv (v :: .ref i :: st) w := by
  intro p e s m args below meth c g ad H locs ls hc hP hD hS hl
  have hT := hc.2.2.2.2.2.2.2.2.2.1
  refine va_put (v := cV ad v) (ref := ref) hc.1 hc.2.1 (Ts := u_ws C T N) (fun x hx => hT.1.use (hin x hx)) (fun _ h => h) ty0 hty hnm hc.2.2.2.2.1 hT.2.2.2 hP hD hS i (cW_at hw) hci f hf (hT.1.use hlk) (fun x h => by rw [← href]; exact h) hfin hpd (hnw ad) (hfit ad) (by simpa using hlen) hd (fun H1 locs1 hP1 hD1 hS1 => ?_)
  rw [cE_set (g := g), cW_set] at hP1 hD1
  exact kk p e s m args below meth c g ad H1 locs1 ls hc hP1 hD1 hS1 hl
theorem E_putN {i ci idx f N : Nat} {ref C host : String} {T : u_T} {fs : List Value} {v : Value} {ty : FieldType} (ty0 : Nat → FieldType) (hty : ∀ k, k < N → parseFieldDescriptor (T k).2.2.1 = some (ty0 k)) (hnm : ∀ a, a < N → ∀ b, b < N → a ≠ b → (T a).2.1 ≠ (T b).2.1) (hci : vwCl[ci]? = some (C, T, N)) (hin : ∀ x ∈ u_ws C T N, Wd x) (hf : f < N) (hlk : Wd (.fieldLinkNest own idx ref (T f).2.1 (T f).2.2.1 host)) (href : (T f).1 = ref)
    (hfin : (T f).2.2.2 = false) (hpd : parseFieldDescriptor (T f).2.2.1 = some ty) (hnw : ∀ ad, narrow ty (cV ad v) = cV ad v) (hfit : ∀ ad, fits ty (cV ad v) = true) (hw : w[i]? = some (.inr (ci, fs))) (hlen : f < fs.length) (hd : decode cc pc = .ok (.putfield idx, 3))
    (kk : E l own cc nL ret ini hh R w0 Tg k n (pc + 3) lv st (w.set i (.inr (ci, fs.set f v)))) : E l own cc nL ret ini hh R w0 Tg k n pc lv (v :: .ref i :: st) w := by
  intro p e s m args below meth c g ad H locs ls hc hP hD hS hl
  have hT := hc.2.2.2.2.2.2.2.2.2.1
  refine va_putN (v := cV ad v) (ref := ref) (host := host) hc.1 hc.2.1 (Ts := u_ws C T N) (fun x hx => hT.1.use (hin x hx)) (fun _ h => h) ty0 hty hnm hc.2.2.2.2.1 hT.2.2.2 hP hD hS i (cW_at hw) hci f hf (hT.1.use hlk) (fun x h => by rw [← href]; exact h) hfin hpd (hnw ad) (hfit ad) (by simpa using hlen) hd (fun H1 locs1 hP1 hD1 hS1 => ?_)
  rw [cE_set (g := g), cW_set] at hP1 hD1
  exact kk p e s m args below meth c g ad H1 locs1 ls hc hP1 hD1 hS1 hl
theorem E_putF {i ci idx f N : Nat} {ref C : String} {T : u_T} {fs : List Value} {v : Value} {ty : FieldType} (ty0 : Nat → FieldType) (hty : ∀ k, k < N → parseFieldDescriptor (T k).2.2.1 = some (ty0 k)) (hnm : ∀ a, a < N → ∀ b, b < N → a ≠ b → (T a).2.1 ≠ (T b).2.1) (hci : vwCl[ci]? = some (C, T, N)) (hin : ∀ x ∈ u_ws C T N, Wd x) (hf : f < N) (hlk : Wd (.fieldLink own idx ref (T f).2.1 (T f).2.2.1)) (href : (T f).1 = ref)
    (hfin : (T f).2.2.2 = true) (hini : ini = true) (hdecl : (T f).1 = own) (hpd : parseFieldDescriptor (T f).2.2.1 = some ty) (hnw : ∀ ad, narrow ty (cV ad v) = cV ad v) (hfit : ∀ ad, fits ty (cV ad v) = true) (hw : w[i]? = some (.inr (ci, fs))) (hlen : f < fs.length) (hd : decode cc pc = .ok (.putfield idx, 3))
    (kk : E l own cc nL ret ini hh R w0 Tg k n (pc + 3) lv st (w.set i (.inr (ci, fs.set f v)))) : E l own cc nL ret ini hh R w0 Tg k n pc lv (v :: .ref i :: st) w := by
  intro p e s m args below meth c g ad H locs ls hc hP hD hS hl
  have hT := hc.2.2.2.2.2.2.2.2.2.1
  refine va_putF (v := cV ad v) (ref := ref) hc.1 hc.2.1 (Ts := u_ws C T N) (fun x hx => hT.1.use (hin x hx)) (fun _ h => h) ty0 hty hnm hc.2.2.2.2.1 hT.2.2.2 hP hD hS i (cW_at hw) hci f hf (hT.1.use hlk) (fun x h => by rw [← href]; exact h) hfin (hc.2.2.2.2.2.2.1 hini) hdecl hpd (hnw ad) (hfit ad) (by simpa using hlen) hd (fun H1 locs1 hP1 hD1 hS1 => ?_)
  rw [cE_set (g := g), cW_set] at hP1 hD1
  exact kk p e s m args below meth c g ad H1 locs1 ls hc hP1 hD1 hS1 hl
/-- arrays -/
theorem E_iald {i z : Nat} {f : Nat → Int32} {j : Int32} (hw : w[i]? = some (.inl (0, z, .inl f))) (hj : vp_in j z) (hd : decode cc pc = .ok (.iaload, 1))
    (kk : E l own cc nL ret ini hh R w0 Tg k n (pc + 1) lv (.int (f j.toNatClampNeg) :: st) w) : E l own cc nL ret ini hh R w0 Tg k n pc lv (.int j :: .ref i :: st) w := by
  intro p e s m args below meth c g ad H locs ls hc hP hD hS hl
  exact va_iald hc.1 hc.2.1 hc.2.2.2.2.2.2.2.2.2.1.2.2.2 hP i 0 (cW_at hw) rfl hj hd (kk p e s m args below meth c g ad H locs ls hc hP hD hS hl)
theorem E_lald {i z : Nat} {f : Nat → Int64} {j : Int32} (hw : w[i]? = some (.inl (1, z, .inr (.inl f)))) (hj : vp_in j z) (hd : decode cc pc = .ok (.laload, 1))
    (kk : E l own cc nL ret ini hh R w0 Tg k n (pc + 1) lv (.long (f j.toNatClampNeg) :: st) w) : E l own cc nL ret ini hh R w0 Tg k n pc lv (.int j :: .ref i :: st) w := by
  intro p e s m args below meth c g ad H locs ls hc hP hD hS hl
  exact va_lald hc.1 hc.2.1 hc.2.2.2.2.2.2.2.2.2.1.2.2.2 hP i 1 (cW_at hw) rfl hj hd (kk p e s m args below meth c g ad H locs ls hc hP hD hS hl)
theorem E_iast {i z : Nat} {f : Nat → Int32} {j x : Int32} (hw : w[i]? = some (.inl (0, z, .inl f))) (hj : vp_in j z) (hd : decode cc pc = .ok (.iastore, 1))
    (kk : E l own cc nL ret ini hh R w0 Tg k n (pc + 1) lv st (w.set i (.inl (0, z, .inl (upd f j.toNatClampNeg x))))) : E l own cc nL ret ini hh R w0 Tg k n pc lv (.int x :: .int j :: .ref i :: st) w := by
  intro p e s m args below meth c g ad H locs ls hc hP hD hS hl
  refine va_iast hc.1 hc.2.1 hc.2.2.2.2.2.2.2.2.2.1.2.2.2 hP hD hS i 0 (cW_at hw) rfl hj hd (fun H1 locs1 hP1 hD1 hS1 => ?_)
  rw [show (Sum.inl (g.2 0, z, Sum.inl (upd f j.toNatClampNeg x)) : va_E) = cE g ad (.inl (0, z, .inl (upd f j.toNatClampNeg x))) from rfl, cW_set] at hP1 hD1
  exact kk p e s m args below meth c g ad H1 locs1 ls hc hP1 hD1 hS1 hl
theorem E_last {i z : Nat} {f : Nat → Int64} {j : Int32} {x : Int64} (hw : w[i]? = some (.inl (1, z, .inr (.inl f)))) (hj : vp_in j z) (hd : decode cc pc = .ok (.lastore, 1))
    (kk : E l own cc nL ret ini hh R w0 Tg k n (pc + 1) lv st (w.set i (.inl (1, z, .inr (.inl (vp_updL f j.toNatClampNeg x)))))) : E l own cc nL ret ini hh R w0 Tg k n pc lv (.long x :: .int j :: .ref i :: st) w := by
  intro p e s m args below meth c g ad H locs ls hc hP hD hS hl
  refine va_last hc.1 hc.2.1 hc.2.2.2.2.2.2.2.2.2.1.2.2.2 hP hD hS i 1 (cW_at hw) rfl hj hd (fun H1 locs1 hP1 hD1 hS1 => ?_)
  rw [show (Sum.inl (g.2 1, z, Sum.inr (Sum.inl (vp_updL f j.toNatClampNeg x))) : va_E) = cE g ad (.inl (1, z, .inr (.inl (vp_updL f j.toNatClampNeg x)))) from rfl, cW_set] at hP1 hD1
  exact kk p e s m args below meth c g ad H1 locs1 ls hc hP1 hD1 hS1 hl
theorem E_alenJ {i z : Nat} {f : Nat → Int64} {v : Int32} (hw : w[i]? = some (.inl (1, z, .inr (.inl f)))) (hv : Int32.ofNat z = v) (hd : decode cc pc = .ok (.arraylength, 1))
    (kk : E l own cc nL ret ini hh R w0 Tg k n (pc + 1) lv (.int v :: st) w) : E l own cc nL ret ini hh R w0 Tg k n pc lv (.ref i :: st) w := by
  intro p e s m args below meth c g ad H locs ls hc hP hD hS hl
  exact va_alen hc.1 hc.2.1 hc.2.2.2.2.2.2.2.2.2.1.2.2.2 hP i 1 (cW_at hw) rfl hv hd (kk p e s m args below meth c g ad H locs ls hc hP hD hS hl)
theorem E_aald {i z : Nat} {f : Nat → Option Nat} {j : Int32} {q : Nat} (hw : w[i]? = some (.inl (2, z, .inr (.inr (.inr (.inr f)))))) (hj : vp_in j z) (hq : f j.toNatClampNeg = some q) (hd : decode cc pc = .ok (.aaload, 1))
    (kk : E l own cc nL ret ini hh R w0 Tg k n (pc + 1) lv (.ref q :: st) w) : E l own cc nL ret ini hh R w0 Tg k n pc lv (.int j :: .ref i :: st) w := by
  intro p e s m args below meth c g ad H locs ls hc hP hD hS hl
  refine va_aldq (C := "ChannelSpacer$Desk") (f := fun j => (f j).map ad) hc.1 hc.2.1 hc.2.2.2.2.2.2.2.2.2.1.2.2.2 hP i 2 (cW_at hw) rfl hj hd ?_
  simp only [hq, Option.map_some, va_rf]
  exact kk p e s m args below meth c g ad H locs ls hc hP hD hS hl
/-- Math -/
theorem E_abs {idx : Nat} {x : Int32} (hlk : Wd (.methodLink own idx Lib.Math.abs.name)) (hst : Wd (.static Lib.Math.abs.name)) (hni : Wd (.initialized "java/lang/Math")) (hcd : Wd (.code Lib.Math.abs.name Lib.Math.abs.code 1 (some .int))) (hR : 1 ≤ R.frames ∧ (st.map fun v => v.category).sum + 13 ≤ R.locals ∧ k ≤ R.cells ∧ n ≤ R.slots) (hd : decode cc pc = .ok (.invokestatic idx, 3))
    (kk : E l own cc nL ret ini hh R w0 Tg k n (pc + 3) lv (.int (if 0 ≤ x then x else 0 - x) :: st) w) : E l own cc nL ret ini hh R w0 Tg k n pc lv (.int x :: st) w := by
  intro p e s m args below meth c g ad H locs ls hc hP hD hS hl
  have hT := hc.2.2.2.2.2.2.2.2.2.1.1
  exact va_mabs hc.1 hc.2.1 (by rw [hc.2.2.1]; exact hl.1.symm) hc.2.2.2.2.1 (hT.use hlk) (hT.use hst) (hT.use hni) (hT.use hcd) hR.1 (by rw [cV_sum]; exact hR.2.1) hR.2.2.1 hR.2.2.2 hd (kk p e s m args below meth c g ad H locs ls hc hP hD hS hl)
theorem E_max {idx : Nat} {x y : Int32} (hlk : Wd (.methodLink own idx Lib.Math.max.name)) (hst : Wd (.static Lib.Math.max.name)) (hni : Wd (.initialized "java/lang/Math")) (hcd : Wd (.code Lib.Math.max.name Lib.Math.max.code 2 (some .int))) (hR : 1 ≤ R.frames ∧ (st.map fun v => v.category).sum + 13 ≤ R.locals ∧ k ≤ R.cells ∧ n ≤ R.slots) (hd : decode cc pc = .ok (.invokestatic idx, 3))
    (kk : E l own cc nL ret ini hh R w0 Tg k n (pc + 3) lv (.int (if x < y then y else x) :: st) w) : E l own cc nL ret ini hh R w0 Tg k n pc lv (.int y :: .int x :: st) w := by
  intro p e s m args below meth c g ad H locs ls hc hP hD hS hl
  have hT := hc.2.2.2.2.2.2.2.2.2.1.1
  exact va_mmax hc.1 hc.2.1 (by rw [hc.2.2.1]; exact hl.1.symm) hc.2.2.2.2.1 (hT.use hlk) (hT.use hst) (hT.use hni) (hT.use hcd) hR.1 (by rw [cV_sum]; exact hR.2.1) hR.2.2.1 hR.2.2.2 hd (kk p e s m args below meth c g ad H locs ls hc hP hD hS hl)
theorem E_min {idx : Nat} {x y : Int32} (hlk : Wd (.methodLink own idx Lib.Math.min.name)) (hst : Wd (.static Lib.Math.min.name)) (hni : Wd (.initialized "java/lang/Math")) (hcd : Wd (.code Lib.Math.min.name Lib.Math.min.code 2 (some .int))) (hR : 1 ≤ R.frames ∧ (st.map fun v => v.category).sum + 13 ≤ R.locals ∧ k ≤ R.cells ∧ n ≤ R.slots) (hd : decode cc pc = .ok (.invokestatic idx, 3))
    (kk : E l own cc nL ret ini hh R w0 Tg k n (pc + 3) lv (.int (if y < x then y else x) :: st) w) : E l own cc nL ret ini hh R w0 Tg k n pc lv (.int y :: .int x :: st) w := by
  intro p e s m args below meth c g ad H locs ls hc hP hD hS hl
  have hT := hc.2.2.2.2.2.2.2.2.2.1.1
  exact va_mmin hc.1 hc.2.1 (by rw [hc.2.2.1]; exact hl.1.symm) hc.2.2.2.2.1 (hT.use hlk) (hT.use hst) (hT.use hni) (hT.use hcd) hR.1 (by rw [cV_sum]; exact hR.2.1) hR.2.2.1 hR.2.2.2 hd (kk p e s m args below meth c g ad H locs ls hc hP hD hS hl)
end rows
end EL
end
section
/-! THE E LAYER: entry, ends, throws, calls -/
section EC
theorem lv_args_map (ad : Nat → Nat) : ∀ (As : List Value) (k : Nat), lv_args k (As.map (cV ad)) = cL ad (lv_args k As) := by
  intro As
  induction As with
  | nil => intro k; rfl
  | cons a As ih =>
    intro k
    cases a <;> simp [lv_args, cL, cV, ih, Value.category]
theorem lg_sl_len (ad : Nat → Nat) : ∀ (As : List Value), (lg_sl (As.map (cV ad))).length = (lg_sl As).length := by
  intro As
  induction As with
  | nil => rfl
  | cons a As ih => cases a <;> simp_all [lg_sl, cV, Value.category]
theorem ZQ.moved {A : Nat → Prop} {u U : State} {H : Heap} (hvm : u.vm.Alike U.vm) (h : ZQ A u H) : ZQ A U H := ⟨vx_Zq.moved hvm h.1, vx_Zq.moved hvm h.2⟩
theorem ZQ.kept {A : Nat → Prop} {U : State} {H H1 : Heap} (h : ZQ A U H) (hq : ∀ a : Nat, a < H.size → ¬ A a → H1[a]? = H[a]?) : ZQ A U H1 := ⟨h.1.kept hq, h.2.kept hq⟩
theorem ZQ.narrow {A B : Nat → Prop} {U : State} {H : Heap} (h : ZQ A U H) (hAB : ∀ q, B q → A q) : ZQ B U H := ⟨h.1.narrow hAB, h.2.narrow hAB⟩
theorem vaA_sub {A : Nat → Prop} {ws : va_W} {H0 H : Heap} {locs : List Loc} (hD : va_D A ws) (hS : va_S A H0 H locs) (hA : ∀ q, H0.size ≤ q → A q) : ∀ q, va_A ws H.size q → A q := by
  intro q h
  rcases h with ⟨k, e, h⟩ | h
  · exact hD.2 k (q, e) h
  · exact hA q (Nat.le_trans hS.1 h)
theorem PcE_blind {g : Gx} {ad : Nat → Nat} {sz : Nat} {As : List Value} {w : AW} : FrameBlind (PcE g ad sz As w) := by
  intro a U gg mk q
  obtain ⟨q0, q1, q2, q3, q4, q5⟩ := q
  exact ⟨q0, q1, CS.move (s := U) (U := U.calling gg mk a) (State.WarmedH.refl U) q2, q3, q4, ZQ.moved (u := U) (U := U.calling gg mk a) (Vm.Alike.refl U.vm) q5⟩
theorem PcE_at {g : Gx} {ad : Nat → Nat} {As : List Value} {w : AW} {A : Nat → Prop} {s : State} {H : Heap} {locs : List Loc} (hcs : CS g s) (hz : ZQ A s s.heap) (hP : va_P g.1 vwCl (cW g ad w) H) (hD : va_D A (cW g ad w)) (hS : va_S A s.heap H locs) (hA : ∀ q, s.heap.size ≤ q → A q) :
    ∀ U : State, U.heap = H → s.WarmedH U.vm → PcE g ad H.size As w (As.map (cV ad)).toArray U := by
  intro U hU hW
  refine ⟨rfl, by rw [hU], hcs.move hW, by rw [hU]; exact hP, hD.weaken (fun _ _ _ _ => trivial), ?_⟩
  rw [hU]
  exact ((hz.kept hS.2.1).moved hW.alike).narrow (vaA_sub hD hS hA)
theorem Ct_of {l : Launch} {y : MethodName} {cc : ByteArray} {nL : Nat} {ret : Option FieldType} {ini : Bool} {d mc ms : Nat} {As : List Value} {w : AW} {Q : Option Value → AW → Prop} {X : String → AW → Prop} (hy : plainName y.cls = true) (hfl : l.stackTraces = false) (hi : ini = true → y.name = "<init>") (hlen : (lg_sl As).length ≤ nL)
    (h : E l y.cls cc nL ret ini [] (rmE d mc ms) w (TgM w mc ms Q X) 0 0 0 (lv_args 0 As) [] w) : Ct l y (.code y cc nL ret) d mc ms As w Q X := by
  intro g ad sz
  refine vx_ofW (cc := cc) (maxL := nL) (ret := ret) hy rfl ?_
  intro p e s m args below meth c s₁ B hml hex hv
  obtain ⟨rfl, hsz, hcs, hP, hD0, hZ⟩ := hv
  subst hsz
  have hown : s.vm.findClass y.cls = some m.cls := findClass_of_methodNamed B.named
  have hD := hD0.self (sz := s.heap.size)
  have hl := lv_entry (As.map (cV ad)) (n := nL) (by rw [lg_sl_len]; exact hlen)
  rw [lg_entry_eq]
  rw [lv_args_map] at hl
  exact h p e s m _ below meth c g ad s.heap [] _ ⟨B.exec, B.bytes, hml, B.returns, hown, B.notSynchronized, fun q => (name_of_methodNamed B.named B.method).1.trans (hi q), List.eq_nil_iff_forall_not_mem.mpr hex, hfl, hcs, hZ⟩ hP hD va_S.rf hl
section ends
variable {l : Launch} {own : String} {cc : ByteArray} {nL : Nat} {ret : Option FieldType} {ini : Bool} {hh : List ExceptionTableEntry} {R : Room} {w0 : AW} {k n pc : Nat} {lv : List (Nat × Value)} {st : List Value} {w : AW} {mc ms : Nat} {Q : Option Value → AW → Prop} {X : String → AW → Prop}
theorem E_iret {v : Int32} (hr : ret = some .int) (hk : k ≤ mc) (hn : n ≤ ms) (hd : decode cc pc = .ok (.ireturn, 1)) (hq : Q (some (.int v)) w) : E l own cc nL ret ini hh R w0 (TgM w0 mc ms Q X) k n pc lv [.int v] w := by
  intro p e s m args below meth c g ad H locs ls hc hP hD hS hl
  refine W.widen hk hn (vx_ret ?_)
  exact W.iret (v := v) hc.1 hc.2.1 (hc.2.2.2.1.trans hr) (fun t ht hW => ⟨⟨some (.int v), w, rfl, hq, by rw [ht]; exact hP, hD⟩, hS.F ht⟩) hS.2.2 hd hc.2.2.2.2.2.1
theorem E_zret {v : Int32} {ty : FieldType} (hr : ret = some ty) (hnv : narrow ty (.int v) = .int v) (hk : k ≤ mc) (hn : n ≤ ms) (hd : decode cc pc = .ok (.ireturn, 1)) (hq : Q (some (.int v)) w) : E l own cc nL ret ini hh R w0 (TgM w0 mc ms Q X) k n pc lv [.int v] w := by
  intro p e s m args below meth c g ad H locs ls hc hP hD hS hl
  refine W.widen hk hn (vx_ret ?_)
  exact W.zret (v := v) hc.1 hc.2.1 (hc.2.2.2.1.trans hr) hnv (fun t ht hW => ⟨⟨some (.int v), w, rfl, hq, by rw [ht]; exact hP, hD⟩, hS.F ht⟩) hS.2.2 hd hc.2.2.2.2.2.1
theorem E_lret {v : Int64} (hr : ret = some .long) (hk : k ≤ mc) (hn : n ≤ ms) (hd : decode cc pc = .ok (.lreturn, 1)) (hq : Q (some (.long v)) w) : E l own cc nL ret ini hh R w0 (TgM w0 mc ms Q X) k n pc lv [.long v] w := by
  intro p e s m args below meth c g ad H locs ls hc hP hD hS hl
  refine W.widen hk hn (vx_ret ?_)
  exact W.lret (v := v) hc.1 hc.2.1 (hc.2.2.2.1.trans hr) (fun t ht hW => ⟨⟨some (.long v), w, rfl, hq, by rw [ht]; exact hP, hD⟩, hS.F ht⟩) hS.2.2 hd hc.2.2.2.2.2.1
theorem E_vret (hr : ret = none) (hk : k ≤ mc) (hn : n ≤ ms) (hd : decode cc pc = .ok (.return_, 1)) (hq : Q none w) : E l own cc nL ret ini hh R w0 (TgM w0 mc ms Q X) k n pc lv [] w := by
  intro p e s m args below meth c g ad H locs ls hc hP hD hS hl
  refine W.widen hk hn (vx_ret ?_)
  exact W.vret hc.1 hc.2.1 (hc.2.2.2.1.trans hr) (fun t ht hW => ⟨⟨none, w, rfl, hq, by rw [ht]; exact hP, hD⟩, hS.F ht⟩) hS.2.2 hd hc.2.2.2.2.2.1
theorem E_aret {v : Nat} {C : String} (hr : ret = some (.object C)) (hk : k ≤ mc) (hn : n ≤ ms) (hd : decode cc pc = .ok (.areturn, 1)) (hq : Q (some (.ref v)) w) : E l own cc nL ret ini hh R w0 (TgM w0 mc ms Q X) k n pc lv [.ref v] w := by
  intro p e s m args below meth c g ad H locs ls hc hP hD hS hl
  refine W.widen hk hn (vx_ret ?_)
  exact W.aret (v := .ref (ad v)) hc.1 hc.2.1 (hc.2.2.2.1.trans hr) (Or.inl ⟨C, rfl⟩) (Or.inr ⟨ad v, rfl⟩) (fun t ht hW => ⟨⟨some (.ref v), w, rfl, hq, by rw [ht]; exact hP, hD⟩, hS.F ht⟩) hS.2.2 hd hc.2.2.2.2.2.1
theorem XcE_of {g : Gx} {ad : Nat → Nat} {s : State} {H : Heap} {locs : List Loc} {En : String} (hX : X En w) (hP : va_P g.1 vwCl (cW g ad w) H) (hD : va_D (va_A (cW g ad w0) s.heap.size) (cW g ad w)) (hS : va_S (va_A (cW g ad w0) s.heap.size) s.heap H locs) (t : State) (hz : H.size ≤ t.heap.size) (hk : ∀ q : Nat, q < H.size → t.heap[q]? = H[q]?) : XcE g ad s.heap.size w0 X En s t := by
  refine ⟨⟨w, hX, hP.kept (fun k q hq => hk _ (hP k q hq).lt), hD⟩, Nat.le_trans hS.1 hz, fun q h1 h2 => ?_⟩
  rw [hk q (Nat.lt_of_lt_of_le h1 hS.1)]
  exact hS.2.1 q h1 h2
/-- throw new E("text") -/
theorem E_throw {cls text : String} {names : List String} {ik is ic : Nat} (hcls : Bundle.fit cls = true) (hnames : ∀ n ∈ names, Bundle.fit n = true) (hk1 : Wd (.classLink own ik cls)) (hini : Wd (.initialized cls)) (hstr : Str own is text) (hat : ∀ x ∈ vx_atS own ic cls names, Wd x)
    (hgood : ∀ x ∈ Cond.classLink own ik cls :: Cond.initialized cls :: vx_atS own ic cls names, vx_ot x = true) (hht : hh = [])
    (hR : names.length + 3 < R.frames ∧ (st.map fun v => v.category).sum + (13 * (names.length + 1) + 43) ≤ R.locals ∧ k + 1 ≤ R.cells ∧ n + 6 ≤ R.slots) (hk : k + 1 ≤ mc) (hn : n + 6 ≤ ms)
    (d0 : decode cc pc = .ok (.new ik, 3)) (d3 : decode cc (pc + 3) = .ok (.dup, 1)) (d4 : decode cc (pc + 4) = .ok (.ldc is, 2)) (d6 : decode cc (pc + 6) = .ok (.invokespecial ic, 3)) (d9 : decode cc (pc + 9) = .ok (.athrow, 1))
    (hx : X cls w) : E l own cc nL ret ini hh R w0 (TgM w0 mc ms Q X) k n pc lv st w := by
  intro p e s m args below meth c g ad H locs ls hc hP hD hS hl
  obtain ⟨hx1, hb, hml, hr, hown, hlocks, -, hex, hfl, hcs, hz⟩ := hc
  obtain ⟨sa, hsa⟩ := hcs.2.1 _ _ _ hstr
  exact vx_throwS (names := names) (sa := sa) (text := text) hx1 hb hfl hown hcls hnames (hcs.1.use hk1) (hcs.1.use hini) hsa (fun x hx => hcs.1.use (hat x hx)) hgood hz.1 hz.2 hS (by rw [hml]; exact hl.1) d0 d3 d4 d6 d9 (fun x hx => by rw [hex, hht] at hx; cases hx)
    hR.1 (by rw [cV_sum]; exact hR.2.1) hR.2.2.1 hR.2.2.2 hlocks (fun t _ h2 h3 => XcE_of hx hP hD hS t h2 h3) hS.2.2 hk hn
theorem E_throwW {cls text : String} {names : List String} {ik is ic : Nat} (hcls : Bundle.fit cls = true) (hnames : ∀ n ∈ names, Bundle.fit n = true) (hk1 : Wd (.classLink own ik cls)) (hini : Wd (.initialized cls)) (hstr : Str own is text) (hat : ∀ x ∈ vx_atS own ic cls names, Wd x)
    (hgood : ∀ x ∈ Cond.classLink own ik cls :: Cond.initialized cls :: vx_atS own ic cls names, vx_ot x = true) (hht : hh = [])
    (hR : names.length + 3 < R.frames ∧ (st.map fun v => v.category).sum + (13 * (names.length + 1) + 43) ≤ R.locals ∧ k + 1 ≤ R.cells ∧ n + 6 ≤ R.slots) (hk : k + 1 ≤ mc) (hn : n + 6 ≤ ms)
    (d0 : decode cc pc = .ok (.new ik, 3)) (d3 : decode cc (pc + 3) = .ok (.dup, 1)) (d4 : decode cc (pc + 4) = .ok (.ldc_w is, 3)) (d6 : decode cc (pc + 7) = .ok (.invokespecial ic, 3)) (d9 : decode cc (pc + 10) = .ok (.athrow, 1))
    (hx : X cls w) : E l own cc nL ret ini hh R w0 (TgM w0 mc ms Q X) k n pc lv st w := by
  intro p e s m args below meth c g ad H locs ls hc hP hD hS hl
  obtain ⟨hx1, hb, hml, hr, hown, hlocks, -, hex, hfl, hcs, hz⟩ := hc
  obtain ⟨sa, hsa⟩ := hcs.2.1 _ _ _ hstr
  exact vx_throwSW (names := names) (sa := sa) (text := text) hx1 hb hfl hown hcls hnames (hcs.1.use hk1) (hcs.1.use hini) hsa (fun x hx => hcs.1.use (hat x hx)) hgood hz.1 hz.2 hS (by rw [hml]; exact hl.1) d0 d3 d4 d6 d9 (fun x hx => by rw [hex, hht] at hx; cases hx)
    hR.1 (by rw [cV_sum]; exact hR.2.1) hR.2.2.1 hR.2.2.2 hlocks (fun t _ h2 h3 => XcE_of hx hP hD hS t h2 h3) hS.2.2 hk hn
end ends
/-- what a run of a callee in place words gives -/
def RunE (p : Program) (l : Launch) (e : Env) (R : Room) (s : State) (m : MethodId) (args : Array Value) (below : List Frame) (meth : Method) (c : Code) (g : Gx) (ad : Nat → Nat) (w : AW) (H : Heap) (locs : List Loc) (k n mc ms : Nat) (gg : JFrame) (rest : List Value) (Q : Option Value → AW → Prop) (X : String → AW → Prop) : Prop :=
  vx_Run p l e R s m args below meth c H locs k n mc ms gg rest (fun st₀ o t => QcE g ad H.size w Q #[] st₀ o t) (XcE g ad H.size w X) (va_A (cW g ad w) H.size)
theorem RunE_go {p : Program} {l : Launch} {e : Env} {R : Room} {s : State} {m : MethodId} {args : Array Value} {below : List Frame} {meth : Method} {c : Code} {g : Gx} {ad : Nat → Nat} {w w0 : AW} {H : Heap} {locs : List Loc} {k n mc ms : Nat} {st st0 : List Value} {Q : Option Value → AW → Prop} {X : String → AW → Prop} {own : String} {cc : ByteArray} {nL : Nat} {ret : Option FieldType} {ini : Bool} {hh : List ExceptionTableEntry} {Tg : TgT} {pc : Nat} {lv : List (Nat × Value)} {ls : Array Slot}
    (hr : RunE p l e R s m args below meth c g ad w H locs k n mc ms (F0 m pc ls st0) (st.map (cV ad)) Q X)
    (hc : Cx p l s m meth c own cc nL ret ini hh g (va_A (cW g ad w0) s.heap.size)) (hD : va_D (va_A (cW g ad w0) s.heap.size) (cW g ad w)) (hS : va_S (va_A (cW g ad w0) s.heap.size) s.heap H locs) (hl : lv_has ls nL (cL ad lv))
    (kx : ∀ (En : String) (w' : AW) (ce : Cell) (q9 : Addr) (H1 : Heap) (locs1 : List Loc), X En w' → va_P g.1 vwCl (cW g ad w') H1 → va_D (va_A (cW g ad w0) s.heap.size) (cW g ad w') → va_S (va_A (cW g ad w0) s.heap.size) s.heap H1 locs1 → H1[q9]? = some ce → ce.vm = .none → s.vm.findClass En = some ce.cls → vx_W p l e R s m args below meth c H1 locs1 (k + mc) (n + ms) (Tg below args s g ad) (F0 m pc ls (st.map (cV ad))) q9)
    (kk : ∀ (rv : Option Value) (w' : AW), Q rv w' → E l own cc nL ret ini hh R w0 Tg (k + mc) (n + ms) (pc + 3) lv (rv.toList ++ st) w') :
    W p l e R s m args below meth c H locs k n (Tg below args s g ad) (F0 m pc ls st0) := by
  have hA : ∀ q, s.heap.size ≤ q → va_A (cW g ad w0) s.heap.size q := fun q h => Or.inr h
  have hsub := vaA_sub hD hS hA
  intro T hT X9
  rcases hr T hT X9 with ⟨v, st₀, t, T', L, h0, X', hL, e1, e2, hq, stp⟩ | ⟨q, st₀, t, T', L, En, ce, h0, X', hL, e1, e2, hq, hce, hcv, hcl, stp⟩
  · obtain ⟨⟨rv, w', ho, hQ, hP', hD'⟩, hF⟩ := hq
    cases ho
    obtain ⟨-, -, hS'⟩ := vx_keep h0 e1 hS (fun q _ h => hsub q h) hsub hL hF
    obtain ⟨t2, a1, b1⟩ := kk rv w' hQ p e s m args below meth c g ad T'.heap _ ls hc (by rw [e1]; exact hP') (hD'.weaken (fun _ q _ h => hsub q.1 h)) hS' hl T' rfl X'
    refine ⟨t2, stp t2 ?_, b1⟩
    have e9 : (rv.map (cV ad)).toList ++ st.map (cV ad) = (rv.toList ++ st).map (cV ad) := by cases rv <;> simp
    rw [e9]
    exact a1
  · obtain ⟨⟨w', hX, hP', hD'⟩, hF⟩ := hq
    obtain ⟨-, -, hS'⟩ := vx_keep h0 e1 hS (fun q _ h => hsub q h) hsub hL hF
    obtain ⟨t2, a1, b1⟩ := kx En w' ce q T'.heap _ hX (by rw [e1]; exact hP') (hD'.weaken (fun _ q _ h => hsub q.1 h)) hS' (by rw [e1]; exact hce) hcv hcl T' rfl X'
    exact ⟨t2, stp.trans a1, b1⟩
section calls
variable {l : Launch} {own : String} {cc : ByteArray} {nL : Nat} {ret : Option FieldType} {ini : Bool} {hh : List ExceptionTableEntry} {R : Room} {w0 : AW} {Tg : TgT} {k n pc : Nat} {lv : List (Nat × Value)} {st : List Value} {w : AW} {Q : Option Value → AW → Prop} {X : String → AW → Prop}
/-- the words of a method that is called -/
def CwE (own : String) (idx : Nat) (y : MethodName) (bytes : ByteArray) (maxL : Nat) (rt : Option FieldType) (nA : Nat) : Prop :=
  Wd (.methodLink own idx y) ∧ Wd (.code y bytes maxL rt) ∧ Wd (.initialized y.cls) ∧ (y.cls ≠ "java/lang/invoke/MethodHandle" ∧ y.cls ≠ "java/lang/invoke/VarHandle") ∧ (parseMethodDescriptor y.desc).map (fun d => d.parameters.length) = some nA
def RoomOk (R : Room) (d mc ms maxL k n : Nat) : Prop := d + 7 ≤ R.frames ∧ 8 + (maxL + 11) + (60 * d + 100) ≤ R.locals ∧ k + mc ≤ R.cells ∧ n + ms ≤ R.slots
theorem CwE.callB {s : State} {args : Array Value} {own : String} {idx nA d mc ms maxL k n : Nat} {y : MethodName} {bytes : ByteArray} {rt : Option FieldType} {g : Gx} {R : Room} (h : CwE own idx y bytes maxL rt nA) (hcs : CS g s) (hR : RoomOk R d mc ms maxL k n) : CallB R s args own idx y bytes maxL rt [.code y bytes maxL rt] (rmE d mc ms) mc ms nA := by
  obtain ⟨h1, h2, h3, h4, h5⟩ := h
  refine ⟨rfl, rfl, hR.1, hR.2.1, fun w hw a' U hW => ?_, List.mem_singleton.mpr rfl, hcs.1.use h2, hcs.1.use h3, h4, fun sig hs => ?_, hcs.1.use h1⟩
  · rw [List.mem_singleton.mp hw]
    exact (hcs.1.move hW).use h2
  · rw [hs] at h5
    exact (Option.some.inj h5).symm
theorem E_callV {y : MethodName} {bytes : ByteArray} {maxL nA d mc ms i ci idx : Nat} {rt : Option FieldType} {As : List Value} {fs : List Value} {q : vw_C} (hC : Ct l y (.code y bytes maxL rt) d mc ms (.ref i :: As) w Q X)
    (hcw : CwE own idx y bytes maxL rt nA) (hin : Wd (.instanceMethod y)) (hse : Wd (.selects y.cls y y)) (hci : vwCl[ci]? = some q) (hq : q.1 = y.cls) (hw : w[i]? = some (.inr (ci, fs))) (hA : As.length = nA) (hR : RoomOk R d mc ms maxL k n) (hst : (st.map fun v => v.category).sum ≤ 8)
    (hd : decode cc pc = .ok (.invokevirtual idx, 3)) (hX : ∀ En w', X En w' → False) {st0 : List Value} (hst0 : As.reverse ++ .ref i :: st = st0)
    (kk : ∀ (rv : Option Value) (w' : AW), Q rv w' → E l own cc nL ret ini hh R w0 Tg (k + mc) (n + ms) (pc + 3) lv (rv.toList ++ st) w') : E l own cc nL ret ini hh R w0 Tg k n pc lv st0 w := by
  subst hst0
  intro p e s m args below meth c g ad H locs ls hc hP hD hS hl
  have hcs := hc.2.2.2.2.2.2.2.2.2.1
  have hrun := vx_runV (args := args) (Ts := []) (As := As.map (cV ad)) (rest := st.map (cV ad)) (g := F0 m pc ls ((As.reverse ++ .ref i :: st).map (cV ad))) (e := e) (below := below) (meth := meth) (H := H) (locs := locs) (cells := k) (slots := n) (nL := nL) ⟨hc.1, hc.2.1, hc.2.2.1, hc.2.2.2.2.1, fun _ h => nomatch h⟩ (hC g ad H.size) ⟨hcw.callB hcs hR, hcs.1.use hin, hcs.1.use hse⟩
    ⟨PcE_blind, by rw [← hq]; exact va_recv hcs.2.2.2 hP hci (cW_at hw), PcE_at (As := .ref i :: As) hcs hc.2.2.2.2.2.2.2.2.2.2 hP hD hS (fun q h => Or.inr h)⟩ rfl (by simpa using hA) hl.1 (by simp [cV, List.map_append, List.map_reverse]) (lv_room (by rw [cV_sum]; exact hst)) hd ⟨hR.2.2.1, hR.2.2.2⟩
  exact RunE_go (w0 := w0) (st := st) (lv := lv) hrun hc hD hS hl (fun En w' _ _ _ _ h => (hX En w' h).elim) kk
theorem E_callS {y : MethodName} {bytes : ByteArray} {maxL nA d mc ms idx : Nat} {rt : Option FieldType} {As : List Value} (hC : Ct l y (.code y bytes maxL rt) d mc ms As w Q X)
    (hcw : CwE own idx y bytes maxL rt nA) (hin : Wd (.static y)) (hA : As.length = nA) (hR : RoomOk R d mc ms maxL k n) (hst : (st.map fun v => v.category).sum ≤ 8)
    (hd : decode cc pc = .ok (.invokestatic idx, 3)) (hX : ∀ En w', X En w' → False) {st0 : List Value} (hst0 : As.reverse ++ st = st0)
    (kk : ∀ (rv : Option Value) (w' : AW), Q rv w' → E l own cc nL ret ini hh R w0 Tg (k + mc) (n + ms) (pc + 3) lv (rv.toList ++ st) w') : E l own cc nL ret ini hh R w0 Tg k n pc lv st0 w := by
  subst hst0
  intro p e s m args below meth c g ad H locs ls hc hP hD hS hl
  have hcs := hc.2.2.2.2.2.2.2.2.2.1
  have hrun := vx_runS (args := args) (Ts := []) (As := As.map (cV ad)) (rest := st.map (cV ad)) (g := F0 m pc ls ((As.reverse ++ st).map (cV ad))) (e := e) (below := below) (meth := meth) (H := H) (locs := locs) (cells := k) (slots := n) (nL := nL) ⟨hc.1, hc.2.1, hc.2.2.1, hc.2.2.2.2.1, fun _ h => nomatch h⟩ (hC g ad H.size) ⟨hcw.callB hcs hR, hcs.1.use hin⟩
    ⟨PcE_blind, PcE_at (As := As) hcs hc.2.2.2.2.2.2.2.2.2.2 hP hD hS (fun q h => Or.inr h)⟩ rfl (by simpa using hA) hl.1 (by simp [List.map_append, List.map_reverse]) (lv_room (by rw [cV_sum]; exact hst)) hd ⟨hR.2.2.1, hR.2.2.2⟩
  exact RunE_go (w0 := w0) (st := st) (lv := lv) hrun hc hD hS hl (fun En w' _ _ _ _ h => (hX En w' h).elim) kk
theorem E_callVx {mc0 ms0 : Nat} {Q0 : Option Value → AW → Prop} {X0 : String → AW → Prop} {y : MethodName} {bytes : ByteArray} {maxL nA d mc ms i ci idx : Nat} {rt : Option FieldType} {As : List Value} {fs : List Value} {q : vw_C} (hC : Ct l y (.code y bytes maxL rt) d mc ms (.ref i :: As) w Q X)
    (hcw : CwE own idx y bytes maxL rt nA) (hin : Wd (.instanceMethod y)) (hse : Wd (.selects y.cls y y)) (hci : vwCl[ci]? = some q) (hq : q.1 = y.cls) (hw : w[i]? = some (.inr (ci, fs))) (hA : As.length = nA) (hR : RoomOk R d mc ms maxL k n) (hst : (st.map fun v => v.category).sum ≤ 8)
    (hd : decode cc pc = .ok (.invokevirtual idx, 3)) (hht : hh = []) (hk0 : k + mc ≤ mc0) (hn0 : n + ms ≤ ms0) (hX : ∀ En w', X En w' → X0 En w') {st0 : List Value} (hst0 : As.reverse ++ .ref i :: st = st0)
    (kk : ∀ (rv : Option Value) (w' : AW), Q rv w' → E l own cc nL ret ini hh R w0 (TgM w0 mc0 ms0 Q0 X0) (k + mc) (n + ms) (pc + 3) lv (rv.toList ++ st) w') : E l own cc nL ret ini hh R w0 (TgM w0 mc0 ms0 Q0 X0) k n pc lv st0 w := by
  subst hst0
  intro p e s m args below meth c g ad H locs ls hc hP hD hS hl
  have hcs := hc.2.2.2.2.2.2.2.2.2.1
  have hrun := vx_runV (args := args) (Ts := []) (As := As.map (cV ad)) (rest := st.map (cV ad)) (g := F0 m pc ls ((As.reverse ++ .ref i :: st).map (cV ad))) (e := e) (below := below) (meth := meth) (H := H) (locs := locs) (cells := k) (slots := n) (nL := nL) ⟨hc.1, hc.2.1, hc.2.2.1, hc.2.2.2.2.1, fun _ h => nomatch h⟩ (hC g ad H.size) ⟨hcw.callB hcs hR, hcs.1.use hin, hcs.1.use hse⟩
    ⟨PcE_blind, by rw [← hq]; exact va_recv hcs.2.2.2 hP hci (cW_at hw), PcE_at (As := .ref i :: As) hcs hc.2.2.2.2.2.2.2.2.2.2 hP hD hS (fun q h => Or.inr h)⟩ rfl (by simpa using hA) hl.1 (by simp [cV, List.map_append, List.map_reverse]) (lv_room (by rw [cV_sum]; exact hst)) hd ⟨hR.2.2.1, hR.2.2.2⟩
  exact RunE_go (w0 := w0) (st := st) (lv := lv) hrun hc hD hS hl (fun En w' ce q9 H1 locs1 h hP1 hD1 hS1 hce hcv hcl => vx_out (fun x hx => by rw [hc.2.2.2.2.2.2.2.1, hht] at hx; cases hx) hc.2.2.2.2.2.1 hce hcv hcl (fun t ht _ => XcE_of (hX En w' h) hP1 hD1 hS1 t (by rw [ht]; exact Nat.le_refl _) (fun q _ => by rw [ht])) hS1.2.2 hk0 hn0) kk
theorem E_callSx {mc0 ms0 : Nat} {Q0 : Option Value → AW → Prop} {X0 : String → AW → Prop} {y : MethodName} {bytes : ByteArray} {maxL nA d mc ms idx : Nat} {rt : Option FieldType} {As : List Value} (hC : Ct l y (.code y bytes maxL rt) d mc ms As w Q X)
    (hcw : CwE own idx y bytes maxL rt nA) (hin : Wd (.static y)) (hA : As.length = nA) (hR : RoomOk R d mc ms maxL k n) (hst : (st.map fun v => v.category).sum ≤ 8)
    (hd : decode cc pc = .ok (.invokestatic idx, 3)) (hht : hh = []) (hk0 : k + mc ≤ mc0) (hn0 : n + ms ≤ ms0) (hX : ∀ En w', X En w' → X0 En w') {st0 : List Value} (hst0 : As.reverse ++ st = st0)
    (kk : ∀ (rv : Option Value) (w' : AW), Q rv w' → E l own cc nL ret ini hh R w0 (TgM w0 mc0 ms0 Q0 X0) (k + mc) (n + ms) (pc + 3) lv (rv.toList ++ st) w') : E l own cc nL ret ini hh R w0 (TgM w0 mc0 ms0 Q0 X0) k n pc lv st0 w := by
  subst hst0
  intro p e s m args below meth c g ad H locs ls hc hP hD hS hl
  have hcs := hc.2.2.2.2.2.2.2.2.2.1
  have hrun := vx_runS (args := args) (Ts := []) (As := As.map (cV ad)) (rest := st.map (cV ad)) (g := F0 m pc ls ((As.reverse ++ st).map (cV ad))) (e := e) (below := below) (meth := meth) (H := H) (locs := locs) (cells := k) (slots := n) (nL := nL) ⟨hc.1, hc.2.1, hc.2.2.1, hc.2.2.2.2.1, fun _ h => nomatch h⟩ (hC g ad H.size) ⟨hcw.callB hcs hR, hcs.1.use hin⟩
    ⟨PcE_blind, PcE_at (As := As) hcs hc.2.2.2.2.2.2.2.2.2.2 hP hD hS (fun q h => Or.inr h)⟩ rfl (by simpa using hA) hl.1 (by simp [List.map_append, List.map_reverse]) (lv_room (by rw [cV_sum]; exact hst)) hd ⟨hR.2.2.1, hR.2.2.2⟩
  exact RunE_go (w0 := w0) (st := st) (lv := lv) hrun hc hD hS hl (fun En w' ce q9 H1 locs1 h hP1 hD1 hS1 hce hcv hcl => vx_out (fun x hx => by rw [hc.2.2.2.2.2.2.2.1, hht] at hx; cases hx) hc.2.2.2.2.2.1 hce hcv hcl (fun t ht _ => XcE_of (hX En w' h) hP1 hD1 hS1 t (by rw [ht]; exact Nat.le_refl _) (fun q _ => by rw [ht])) hS1.2.2 hk0 hn0) kk
end calls
end EC
end
