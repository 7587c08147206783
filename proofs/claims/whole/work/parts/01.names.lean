-- ===== PART A: goes FIRST, ahead of the names: the tables' words, and 'selects' of the private methods out of them =====
/-- a private method of a class that the tables say can be made, by its rows of tables_1 -/
def lw_okq (q : MethodName × Nat) : Prop := (q.1.cls ≠ "java/lang/invoke/MethodHandle" ∧ q.1.cls ≠ "java/lang/invoke/VarHandle") ∧ Cond.instantiable q.1.cls q.2 ∈ tables_1 ∧ Cond.privateMethod q.1 ∈ tables_1 ∧ Cond.instanceMethod q.1 ∈ tables_1
theorem lw_p0 : lw_okq (⟨"TwinLines", "frameEnd", "(I)I"⟩, 12) := ⟨⟨by decide +kernel, by decide +kernel⟩, List.mem_of_getElem? (i := 16) (by decide +kernel), List.mem_of_getElem? (i := 449) (by decide +kernel), List.mem_of_getElem? (i := 450) (by decide +kernel)⟩
theorem lw_p1 : lw_okq (⟨"TwinLines", "beginFrame", "()V"⟩, 12) := ⟨⟨by decide +kernel, by decide +kernel⟩, List.mem_of_getElem? (i := 16) (by decide +kernel), List.mem_of_getElem? (i := 466) (by decide +kernel), List.mem_of_getElem? (i := 467) (by decide +kernel)⟩
theorem lw_p2 : lw_okq (⟨"TwinLines", "transferAt", "(I)LTwinLines$Transfer;"⟩, 12) := ⟨⟨by decide +kernel, by decide +kernel⟩, List.mem_of_getElem? (i := 16) (by decide +kernel), List.mem_of_getElem? (i := 470) (by decide +kernel), List.mem_of_getElem? (i := 471) (by decide +kernel)⟩
theorem lw_p3 : lw_okq (⟨"TwinLines", "perform", "(LTwinLines$Transfer;)Z"⟩, 12) := ⟨⟨by decide +kernel, by decide +kernel⟩, List.mem_of_getElem? (i := 16) (by decide +kernel), List.mem_of_getElem? (i := 474) (by decide +kernel), List.mem_of_getElem? (i := 475) (by decide +kernel)⟩
theorem lw_p4 : lw_okq (⟨"TwinLines", "attempt", "(LTwinLines$Transfer;I)V"⟩, 12) := ⟨⟨by decide +kernel, by decide +kernel⟩, List.mem_of_getElem? (i := 16) (by decide +kernel), List.mem_of_getElem? (i := 478) (by decide +kernel), List.mem_of_getElem? (i := 479) (by decide +kernel)⟩
theorem lw_p5 : lw_okq (⟨"TwinLines$Terminal", "asksForStatus", "(I)Z"⟩, 17) := ⟨⟨by decide +kernel, by decide +kernel⟩, List.mem_of_getElem? (i := 197) (by decide +kernel), List.mem_of_getElem? (i := 561) (by decide +kernel), List.mem_of_getElem? (i := 562) (by decide +kernel)⟩
theorem lw_p6 : lw_okq (⟨"TwinLines$Terminal", "tellStatus", "(ILTwinLines$Words;)I"⟩, 17) := ⟨⟨by decide +kernel, by decide +kernel⟩, List.mem_of_getElem? (i := 197) (by decide +kernel), List.mem_of_getElem? (i := 573) (by decide +kernel), List.mem_of_getElem? (i := 574) (by decide +kernel)⟩
theorem lw_p7 : lw_okq (⟨"TwinLines$Terminal", "takeMode", "(LTwinLines$Words;IILTwinLines$Words;)I"⟩, 17) := ⟨⟨by decide +kernel, by decide +kernel⟩, List.mem_of_getElem? (i := 197) (by decide +kernel), List.mem_of_getElem? (i := 586) (by decide +kernel), List.mem_of_getElem? (i := 587) (by decide +kernel)⟩
theorem lw_p8 : lw_okq (⟨"TwinLines$Terminal", "refuse", "()I"⟩, 17) := ⟨⟨by decide +kernel, by decide +kernel⟩, List.mem_of_getElem? (i := 197) (by decide +kernel), List.mem_of_getElem? (i := 598) (by decide +kernel), List.mem_of_getElem? (i := 599) (by decide +kernel)⟩
theorem lw_p9 : lw_okq (⟨"TwinLines$Terminal", "act", "(III)V"⟩, 17) := ⟨⟨by decide +kernel, by decide +kernel⟩, List.mem_of_getElem? (i := 197) (by decide +kernel), List.mem_of_getElem? (i := 602) (by decide +kernel), List.mem_of_getElem? (i := 603) (by decide +kernel)⟩
theorem lw_p10 : lw_okq (⟨"TwinLines$Terminal", "checkItself", "()V"⟩, 17) := ⟨⟨by decide +kernel, by decide +kernel⟩, List.mem_of_getElem? (i := 197) (by decide +kernel), List.mem_of_getElem? (i := 606) (by decide +kernel), List.mem_of_getElem? (i := 607) (by decide +kernel)⟩
theorem lw_p11 : lw_okq (⟨"TwinLines$Terminal", "reset", "()V"⟩, 17) := ⟨⟨by decide +kernel, by decide +kernel⟩, List.mem_of_getElem? (i := 197) (by decide +kernel), List.mem_of_getElem? (i := 612) (by decide +kernel), List.mem_of_getElem? (i := 613) (by decide +kernel)⟩
theorem lw_p12 : lw_okq (⟨"TwinLines$Terminal", "answerStatus", "(LTwinLines$Words;)I"⟩, 17) := ⟨⟨by decide +kernel, by decide +kernel⟩, List.mem_of_getElem? (i := 197) (by decide +kernel), List.mem_of_getElem? (i := 616) (by decide +kernel), List.mem_of_getElem? (i := 617) (by decide +kernel)⟩
theorem lw_p13 : lw_okq (⟨"TwinLines$Terminal", "takeSend", "(LTwinLines$Words;ILTwinLines$Words;)I"⟩, 17) := ⟨⟨by decide +kernel, by decide +kernel⟩, List.mem_of_getElem? (i := 197) (by decide +kernel), List.mem_of_getElem? (i := 620) (by decide +kernel), List.mem_of_getElem? (i := 621) (by decide +kernel)⟩
theorem lw_p14 : lw_okq (⟨"TwinLines$Terminal", "isFree", "(Z)Z"⟩, 17) := ⟨⟨by decide +kernel, by decide +kernel⟩, List.mem_of_getElem? (i := 197) (by decide +kernel), List.mem_of_getElem? (i := 624) (by decide +kernel), List.mem_of_getElem? (i := 625) (by decide +kernel)⟩
theorem lw_p15 : lw_okq (⟨"TwinLines$Terminal", "receive", "(LTwinLines$Words;ILTwinLines$Words;)I"⟩, 17) := ⟨⟨by decide +kernel, by decide +kernel⟩, List.mem_of_getElem? (i := 197) (by decide +kernel), List.mem_of_getElem? (i := 640) (by decide +kernel), List.mem_of_getElem? (i := 641) (by decide +kernel)⟩
def lw_privs_1 : List (MethodName × Nat) := [(⟨"TwinLines", "frameEnd", "(I)I"⟩, 12), (⟨"TwinLines", "beginFrame", "()V"⟩, 12), (⟨"TwinLines", "transferAt", "(I)LTwinLines$Transfer;"⟩, 12), (⟨"TwinLines", "perform", "(LTwinLines$Transfer;)Z"⟩, 12), (⟨"TwinLines", "attempt", "(LTwinLines$Transfer;I)V"⟩, 12), (⟨"TwinLines$Terminal", "asksForStatus", "(I)Z"⟩, 17), (⟨"TwinLines$Terminal", "tellStatus", "(ILTwinLines$Words;)I"⟩, 17), (⟨"TwinLines$Terminal", "takeMode", "(LTwinLines$Words;IILTwinLines$Words;)I"⟩, 17), (⟨"TwinLines$Terminal", "refuse", "()I"⟩, 17), (⟨"TwinLines$Terminal", "act", "(III)V"⟩, 17), (⟨"TwinLines$Terminal", "checkItself", "()V"⟩, 17), (⟨"TwinLines$Terminal", "reset", "()V"⟩, 17), (⟨"TwinLines$Terminal", "answerStatus", "(LTwinLines$Words;)I"⟩, 17), (⟨"TwinLines$Terminal", "takeSend", "(LTwinLines$Words;ILTwinLines$Words;)I"⟩, 17), (⟨"TwinLines$Terminal", "isFree", "(Z)Z"⟩, 17), (⟨"TwinLines$Terminal", "receive", "(LTwinLines$Words;ILTwinLines$Words;)I"⟩, 17)]
theorem lw_r1 : ∀ q ∈ lw_privs_1, lw_okq q := List.forall_mem_cons.mpr ⟨lw_p0, List.forall_mem_cons.mpr ⟨lw_p1, List.forall_mem_cons.mpr ⟨lw_p2, List.forall_mem_cons.mpr ⟨lw_p3, List.forall_mem_cons.mpr ⟨lw_p4, List.forall_mem_cons.mpr ⟨lw_p5, List.forall_mem_cons.mpr ⟨lw_p6, List.forall_mem_cons.mpr ⟨lw_p7, List.forall_mem_cons.mpr ⟨lw_p8, List.forall_mem_cons.mpr ⟨lw_p9, List.forall_mem_cons.mpr ⟨lw_p10, List.forall_mem_cons.mpr ⟨lw_p11, List.forall_mem_cons.mpr ⟨lw_p12, List.forall_mem_cons.mpr ⟨lw_p13, List.forall_mem_cons.mpr ⟨lw_p14, List.forall_mem_cons.mpr ⟨lw_p15, fun _ h => absurd h List.not_mem_nil⟩⟩⟩⟩⟩⟩⟩⟩⟩⟩⟩⟩⟩⟩⟩⟩
theorem lw_p16 : lw_okq (⟨"TwinLines$Terminal", "waitForPartner", "(LTwinLines$Words;I)I"⟩, 17) := ⟨⟨by decide +kernel, by decide +kernel⟩, List.mem_of_getElem? (i := 197) (by decide +kernel), List.mem_of_getElem? (i := 650) (by decide +kernel), List.mem_of_getElem? (i := 651) (by decide +kernel)⟩
theorem lw_p17 : lw_okq (⟨"TwinLines$Exchange", "sayReply", "(LTwinLines$Terminal;I)V"⟩, 10) := ⟨⟨by decide +kernel, by decide +kernel⟩, List.mem_of_getElem? (i := 78) (by decide +kernel), List.mem_of_getElem? (i := 659) (by decide +kernel), List.mem_of_getElem? (i := 660) (by decide +kernel)⟩
theorem lw_p18 : lw_okq (⟨"TwinLines$Transfer", "awaitsTo", "()Z"⟩, 13) := ⟨⟨by decide +kernel, by decide +kernel⟩, List.mem_of_getElem? (i := 389) (by decide +kernel), List.mem_of_getElem? (i := 684) (by decide +kernel), List.mem_of_getElem? (i := 685) (by decide +kernel)⟩
theorem lw_p19 : lw_okq (⟨"TwinLines$ToCome", "placeFor", "(I)I"⟩, 3) := ⟨⟨by decide +kernel, by decide +kernel⟩, List.mem_of_getElem? (i := 30) (by decide +kernel), List.mem_of_getElem? (i := 711) (by decide +kernel), List.mem_of_getElem? (i := 712) (by decide +kernel)⟩
theorem lw_p20 : lw_okq (⟨"TwinLinesModel", "isDone", "(I)Z"⟩, 57) := ⟨⟨by decide +kernel, by decide +kernel⟩, List.mem_of_getElem? (i := 757) (by decide +kernel), List.mem_of_getElem? (i := 958) (by decide +kernel), List.mem_of_getElem? (i := 959) (by decide +kernel)⟩
theorem lw_p21 : lw_okq (⟨"TwinLinesModel", "attempt", "(II)I"⟩, 57) := ⟨⟨by decide +kernel, by decide +kernel⟩, List.mem_of_getElem? (i := 757) (by decide +kernel), List.mem_of_getElem? (i := 962) (by decide +kernel), List.mem_of_getElem? (i := 963) (by decide +kernel)⟩
theorem lw_p22 : lw_okq (⟨"TwinLinesModel", "tell", "(II)V"⟩, 57) := ⟨⟨by decide +kernel, by decide +kernel⟩, List.mem_of_getElem? (i := 757) (by decide +kernel), List.mem_of_getElem? (i := 966) (by decide +kernel), List.mem_of_getElem? (i := 967) (by decide +kernel)⟩
theorem lw_p23 : lw_okq (⟨"TwinLinesModel", "send", "(IZI)V"⟩, 57) := ⟨⟨by decide +kernel, by decide +kernel⟩, List.mem_of_getElem? (i := 757) (by decide +kernel), List.mem_of_getElem? (i := 973) (by decide +kernel), List.mem_of_getElem? (i := 974) (by decide +kernel)⟩
theorem lw_p24 : lw_okq (⟨"TwinLinesModel", "say", "(IIZI)I"⟩, 57) := ⟨⟨by decide +kernel, by decide +kernel⟩, List.mem_of_getElem? (i := 757) (by decide +kernel), List.mem_of_getElem? (i := 977) (by decide +kernel), List.mem_of_getElem? (i := 978) (by decide +kernel)⟩
theorem lw_p25 : lw_okq (⟨"TwinLinesModel", "hear", "(II)V"⟩, 57) := ⟨⟨by decide +kernel, by decide +kernel⟩, List.mem_of_getElem? (i := 757) (by decide +kernel), List.mem_of_getElem? (i := 985) (by decide +kernel), List.mem_of_getElem? (i := 986) (by decide +kernel)⟩
theorem lw_p26 : lw_okq (⟨"TwinLinesModel", "commandFor", "(I)I"⟩, 57) := ⟨⟨by decide +kernel, by decide +kernel⟩, List.mem_of_getElem? (i := 757) (by decide +kernel), List.mem_of_getElem? (i := 989) (by decide +kernel), List.mem_of_getElem? (i := 990) (by decide +kernel)⟩
theorem lw_p27 : lw_okq (⟨"TwinLinesModel", "takes", "(I)Z"⟩, 57) := ⟨⟨by decide +kernel, by decide +kernel⟩, List.mem_of_getElem? (i := 757) (by decide +kernel), List.mem_of_getElem? (i := 999) (by decide +kernel), List.mem_of_getElem? (i := 1000) (by decide +kernel)⟩
theorem lw_p28 : lw_okq (⟨"TwinLinesModel", "statusOf", "(I)I"⟩, 57) := ⟨⟨by decide +kernel, by decide +kernel⟩, List.mem_of_getElem? (i := 757) (by decide +kernel), List.mem_of_getElem? (i := 1012) (by decide +kernel), List.mem_of_getElem? (i := 1013) (by decide +kernel)⟩
theorem lw_p29 : lw_okq (⟨"TwinLinesModel", "replyWith", "(I)V"⟩, 57) := ⟨⟨by decide +kernel, by decide +kernel⟩, List.mem_of_getElem? (i := 757) (by decide +kernel), List.mem_of_getElem? (i := 1016) (by decide +kernel), List.mem_of_getElem? (i := 1017) (by decide +kernel)⟩
theorem lw_p30 : lw_okq (⟨"TwinLinesModel", "answer", "(IIZ)V"⟩, 57) := ⟨⟨by decide +kernel, by decide +kernel⟩, List.mem_of_getElem? (i := 757) (by decide +kernel), List.mem_of_getElem? (i := 1020) (by decide +kernel), List.mem_of_getElem? (i := 1021) (by decide +kernel)⟩
theorem lw_p31 : lw_okq (⟨"TwinLinesModel", "isRestData", "(II)Z"⟩, 57) := ⟨⟨by decide +kernel, by decide +kernel⟩, List.mem_of_getElem? (i := 757) (by decide +kernel), List.mem_of_getElem? (i := 1027) (by decide +kernel), List.mem_of_getElem? (i := 1028) (by decide +kernel)⟩
def lw_privs_2 : List (MethodName × Nat) := [(⟨"TwinLines$Terminal", "waitForPartner", "(LTwinLines$Words;I)I"⟩, 17), (⟨"TwinLines$Exchange", "sayReply", "(LTwinLines$Terminal;I)V"⟩, 10), (⟨"TwinLines$Transfer", "awaitsTo", "()Z"⟩, 13), (⟨"TwinLines$ToCome", "placeFor", "(I)I"⟩, 3), (⟨"TwinLinesModel", "isDone", "(I)Z"⟩, 57), (⟨"TwinLinesModel", "attempt", "(II)I"⟩, 57), (⟨"TwinLinesModel", "tell", "(II)V"⟩, 57), (⟨"TwinLinesModel", "send", "(IZI)V"⟩, 57), (⟨"TwinLinesModel", "say", "(IIZI)I"⟩, 57), (⟨"TwinLinesModel", "hear", "(II)V"⟩, 57), (⟨"TwinLinesModel", "commandFor", "(I)I"⟩, 57), (⟨"TwinLinesModel", "takes", "(I)Z"⟩, 57), (⟨"TwinLinesModel", "statusOf", "(I)I"⟩, 57), (⟨"TwinLinesModel", "replyWith", "(I)V"⟩, 57), (⟨"TwinLinesModel", "answer", "(IIZ)V"⟩, 57), (⟨"TwinLinesModel", "isRestData", "(II)Z"⟩, 57)]
theorem lw_r2 : ∀ q ∈ lw_privs_2, lw_okq q := List.forall_mem_cons.mpr ⟨lw_p16, List.forall_mem_cons.mpr ⟨lw_p17, List.forall_mem_cons.mpr ⟨lw_p18, List.forall_mem_cons.mpr ⟨lw_p19, List.forall_mem_cons.mpr ⟨lw_p20, List.forall_mem_cons.mpr ⟨lw_p21, List.forall_mem_cons.mpr ⟨lw_p22, List.forall_mem_cons.mpr ⟨lw_p23, List.forall_mem_cons.mpr ⟨lw_p24, List.forall_mem_cons.mpr ⟨lw_p25, List.forall_mem_cons.mpr ⟨lw_p26, List.forall_mem_cons.mpr ⟨lw_p27, List.forall_mem_cons.mpr ⟨lw_p28, List.forall_mem_cons.mpr ⟨lw_p29, List.forall_mem_cons.mpr ⟨lw_p30, List.forall_mem_cons.mpr ⟨lw_p31, fun _ h => absurd h List.not_mem_nil⟩⟩⟩⟩⟩⟩⟩⟩⟩⟩⟩⟩⟩⟩⟩⟩
theorem lw_p32 : lw_okq (⟨"TwinLinesModel", "may", "(III)Z"⟩, 57) := ⟨⟨by decide +kernel, by decide +kernel⟩, List.mem_of_getElem? (i := 757) (by decide +kernel), List.mem_of_getElem? (i := 1034) (by decide +kernel), List.mem_of_getElem? (i := 1035) (by decide +kernel)⟩
theorem lw_p33 : lw_okq (⟨"TwinLinesModel", "isRelay", "(III)Z"⟩, 57) := ⟨⟨by decide +kernel, by decide +kernel⟩, List.mem_of_getElem? (i := 757) (by decide +kernel), List.mem_of_getElem? (i := 1038) (by decide +kernel), List.mem_of_getElem? (i := 1039) (by decide +kernel)⟩
theorem lw_p34 : lw_okq (⟨"TwinLinesModel", "isModeToDo", "(II)Z"⟩, 57) := ⟨⟨by decide +kernel, by decide +kernel⟩, List.mem_of_getElem? (i := 757) (by decide +kernel), List.mem_of_getElem? (i := 1042) (by decide +kernel), List.mem_of_getElem? (i := 1043) (by decide +kernel)⟩
theorem lw_p35 : lw_okq (⟨"TwinLinesModel", "mode", "(IIIIZ)V"⟩, 57) := ⟨⟨by decide +kernel, by decide +kernel⟩, List.mem_of_getElem? (i := 757) (by decide +kernel), List.mem_of_getElem? (i := 1046) (by decide +kernel), List.mem_of_getElem? (i := 1047) (by decide +kernel)⟩
theorem lw_p36 : lw_okq (⟨"TwinLinesModel", "change", "(IIII)V"⟩, 57) := ⟨⟨by decide +kernel, by decide +kernel⟩, List.mem_of_getElem? (i := 757) (by decide +kernel), List.mem_of_getElem? (i := 1050) (by decide +kernel), List.mem_of_getElem? (i := 1051) (by decide +kernel)⟩
theorem lw_p37 : lw_okq (⟨"TwinLinesModel", "getAnswer", "(II)V"⟩, 57) := ⟨⟨by decide +kernel, by decide +kernel⟩, List.mem_of_getElem? (i := 757) (by decide +kernel), List.mem_of_getElem? (i := 1054) (by decide +kernel), List.mem_of_getElem? (i := 1055) (by decide +kernel)⟩
theorem lw_p38 : lw_okq (⟨"TwinLinesModel", "awaited", "(I)I"⟩, 57) := ⟨⟨by decide +kernel, by decide +kernel⟩, List.mem_of_getElem? (i := 757) (by decide +kernel), List.mem_of_getElem? (i := 1058) (by decide +kernel), List.mem_of_getElem? (i := 1059) (by decide +kernel)⟩
theorem lw_p39 : lw_okq (⟨"TwinLinesModel", "wordsOf", "(I)I"⟩, 57) := ⟨⟨by decide +kernel, by decide +kernel⟩, List.mem_of_getElem? (i := 757) (by decide +kernel), List.mem_of_getElem? (i := 1062) (by decide +kernel), List.mem_of_getElem? (i := 1063) (by decide +kernel)⟩
theorem lw_p40 : lw_okq (⟨"TwinLinesModel", "why", "(III)I"⟩, 57) := ⟨⟨by decide +kernel, by decide +kernel⟩, List.mem_of_getElem? (i := 757) (by decide +kernel), List.mem_of_getElem? (i := 1066) (by decide +kernel), List.mem_of_getElem? (i := 1067) (by decide +kernel)⟩
theorem lw_p41 : lw_okq (⟨"TwinLinesModel", "isTerminal", "(I)Z"⟩, 57) := ⟨⟨by decide +kernel, by decide +kernel⟩, List.mem_of_getElem? (i := 757) (by decide +kernel), List.mem_of_getElem? (i := 1078) (by decide +kernel), List.mem_of_getElem? (i := 1079) (by decide +kernel)⟩
theorem lw_p42 : lw_okq (⟨"TwinLinesModel", "isWordPlace", "(III)Z"⟩, 57) := ⟨⟨by decide +kernel, by decide +kernel⟩, List.mem_of_getElem? (i := 757) (by decide +kernel), List.mem_of_getElem? (i := 1086) (by decide +kernel), List.mem_of_getElem? (i := 1087) (by decide +kernel)⟩
def lw_privs_3 : List (MethodName × Nat) := [(⟨"TwinLinesModel", "may", "(III)Z"⟩, 57), (⟨"TwinLinesModel", "isRelay", "(III)Z"⟩, 57), (⟨"TwinLinesModel", "isModeToDo", "(II)Z"⟩, 57), (⟨"TwinLinesModel", "mode", "(IIIIZ)V"⟩, 57), (⟨"TwinLinesModel", "change", "(IIII)V"⟩, 57), (⟨"TwinLinesModel", "getAnswer", "(II)V"⟩, 57), (⟨"TwinLinesModel", "awaited", "(I)I"⟩, 57), (⟨"TwinLinesModel", "wordsOf", "(I)I"⟩, 57), (⟨"TwinLinesModel", "why", "(III)I"⟩, 57), (⟨"TwinLinesModel", "isTerminal", "(I)Z"⟩, 57), (⟨"TwinLinesModel", "isWordPlace", "(III)Z"⟩, 57)]
theorem lw_r3 : ∀ q ∈ lw_privs_3, lw_okq q := List.forall_mem_cons.mpr ⟨lw_p32, List.forall_mem_cons.mpr ⟨lw_p33, List.forall_mem_cons.mpr ⟨lw_p34, List.forall_mem_cons.mpr ⟨lw_p35, List.forall_mem_cons.mpr ⟨lw_p36, List.forall_mem_cons.mpr ⟨lw_p37, List.forall_mem_cons.mpr ⟨lw_p38, List.forall_mem_cons.mpr ⟨lw_p39, List.forall_mem_cons.mpr ⟨lw_p40, List.forall_mem_cons.mpr ⟨lw_p41, List.forall_mem_cons.mpr ⟨lw_p42, fun _ h => absurd h List.not_mem_nil⟩⟩⟩⟩⟩⟩⟩⟩⟩⟩⟩
def lw_privs : List (MethodName × Nat) := lw_privs_1 ++ (lw_privs_2 ++ (lw_privs_3))
def lw_tbl : List Cond := k2_sels lw_privs ++ tables_1
theorem lw_privs_ok : ∀ q ∈ lw_privs, lw_okq q := by
  show ∀ q ∈ lw_privs_1 ++ (lw_privs_2 ++ (lw_privs_3)), lw_okq q
  exact List.forall_mem_append.mpr ⟨lw_r1, List.forall_mem_append.mpr ⟨lw_r2, lw_r3⟩⟩
def RX0 : String := "TwinLines$Coding"
def TX0 : u_T := fun k => match k with
  | _ => ("", "", "", false)
def tyX0 : Nat → FieldType := fun k => match k with
  | _ => .int
theorem nmX0 : ∀ a, a < 0 → ∀ b, b < 0 → a ≠ b → (TX0 a).2.1 ≠ (TX0 b).2.1 := by decide +kernel
theorem tyX0_ok : ∀ k, k < 0 → parseFieldDescriptor (TX0 k).2.2.1 = some (tyX0 k) := by decide +kernel
abbrev cX0_spell : ByteArray := prog_2_method_2_code
def yX0_spell : MethodName := ⟨RX0, "spell", "(I)J"⟩
abbrev cX0_read : ByteArray := prog_2_method_3_code
def yX0_read : MethodName := ⟨RX0, "read", "(J)I"⟩
def RX1 : String := "TwinLines$Command"
def TX1 : u_T := fun k => match k with
  | _ => ("", "", "", false)
def tyX1 : Nat → FieldType := fun k => match k with
  | _ => .int
theorem nmX1 : ∀ a, a < 0 → ∀ b, b < 0 → a ≠ b → (TX1 a).2.1 ≠ (TX1 b).2.1 := by decide +kernel
theorem tyX1_ok : ∀ k, k < 0 → parseFieldDescriptor (TX1 k).2.2.1 = some (tyX1 k) := by decide +kernel
abbrev cX1_of : ByteArray := prog_3_method_2_code
def yX1_of : MethodName := ⟨RX1, "of", "(IZII)I"⟩
abbrev cX1_addressOf : ByteArray := prog_3_method_3_code
def yX1_addressOf : MethodName := ⟨RX1, "addressOf", "(I)I"⟩
abbrev cX1_sends : ByteArray := prog_3_method_4_code
def yX1_sends : MethodName := ⟨RX1, "sends", "(I)Z"⟩
abbrev cX1_placeOf : ByteArray := prog_3_method_5_code
def yX1_placeOf : MethodName := ⟨RX1, "placeOf", "(I)I"⟩
abbrev cX1_isMode : ByteArray := prog_3_method_6_code
def yX1_isMode : MethodName := ⟨RX1, "isMode", "(I)Z"⟩
abbrev cX1_codeOf : ByteArray := prog_3_method_7_code
def yX1_codeOf : MethodName := ⟨RX1, "codeOf", "(I)I"⟩
abbrev cX1_countOf : ByteArray := prog_3_method_8_code
def yX1_countOf : MethodName := ⟨RX1, "countOf", "(I)I"⟩
def RX2 : String := "TwinLines$Exchange"
def TX2 : u_T := fun k => match k with
  | 0 => ("TwinLines$Exchange", "lines", "LTwinLines$Lines;", true)
  | 1 => ("TwinLines$Exchange", "terminals", "[LTwinLines$Terminal;", true)
  | 2 => ("TwinLines$Exchange", "toSay", "LTwinLines$Words;", true)
  | 3 => ("TwinLines$Exchange", "message", "LTwinLines$Words;", true)
  | 4 => ("TwinLines$Exchange", "reply", "LTwinLines$Words;", true)
  | 5 => ("TwinLines$Exchange", "firstAnswer", "LTwinLines$Words;", true)
  | 6 => ("TwinLines$Exchange", "secondAnswer", "LTwinLines$Words;", true)
  | 7 => ("TwinLines$Exchange", "terminalCount", "I", false)
  | 8 => ("TwinLines$Exchange", "answered", "I", false)
  | _ => ("TwinLines$Exchange", "waiting", "I", false)
def tyX2 : Nat → FieldType := fun k => match k with
  | 0 => .object "TwinLines$Lines"
  | 1 => .array (.object "TwinLines$Terminal")
  | 2 => .object "TwinLines$Words"
  | 3 => .object "TwinLines$Words"
  | 4 => .object "TwinLines$Words"
  | 5 => .object "TwinLines$Words"
  | 6 => .object "TwinLines$Words"
  | 7 => .int
  | 8 => .int
  | _ => .int
theorem nmX2 : ∀ a, a < 10 → ∀ b, b < 10 → a ≠ b → (TX2 a).2.1 ≠ (TX2 b).2.1 := by decide +kernel
theorem tyX2_ok : ∀ k, k < 10 → parseFieldDescriptor (TX2 k).2.2.1 = some (tyX2 k) := by decide +kernel
abbrev cX2_init : ByteArray := prog_4_method_1_code
def yX2_init : MethodName := ⟨RX2, "<init>", "(LTwinLines$Lines;)V"⟩
abbrev cX2_terminalAt : ByteArray := prog_4_method_2_code
def yX2_terminalAt : MethodName := ⟨RX2, "terminalAt", "(I)LTwinLines$Terminal;"⟩
abbrev cX2_addTerminal : ByteArray := prog_4_method_3_code
def yX2_addTerminal : MethodName := ⟨RX2, "addTerminal", "(II)Z"⟩
abbrev cX2_sayMessage : ByteArray := prog_4_method_4_code
def yX2_sayMessage : MethodName := ⟨RX2, "sayMessage", "(I)V"⟩
abbrev cX2_hearAnswers : ByteArray := prog_4_method_5_code
def yX2_hearAnswers : MethodName := ⟨RX2, "hearAnswers", "(I)V"⟩
abbrev cX2_hearRelayed : ByteArray := prog_4_method_6_code
def yX2_hearRelayed : MethodName := ⟨RX2, "hearRelayed", "(I)V"⟩
abbrev cX2_sayReply : ByteArray := prog_4_method_7_code
def yX2_sayReply : MethodName := ⟨RX2, "sayReply", "(LTwinLines$Terminal;I)V"⟩
def RX3 : String := "TwinLines$Lines"
def TX3 : u_T := fun k => match k with
  | 0 => ("TwinLines$Lines", "words", "[I", true)
  | 1 => ("TwinLines$Lines", "lineOf", "[I", true)
  | 2 => ("TwinLines$Lines", "sayerOf", "[I", true)
  | 3 => ("TwinLines$Lines", "beginOf", "[I", true)
  | 4 => ("TwinLines$Lines", "altered", "LTwinLines$ToCome;", true)
  | 5 => ("TwinLines$Lines", "said", "I", false)
  | _ => ("TwinLines$Lines", "time", "I", false)
def tyX3 : Nat → FieldType := fun k => match k with
  | 0 => .array .int
  | 1 => .array .int
  | 2 => .array .int
  | 3 => .array .int
  | 4 => .object "TwinLines$ToCome"
  | 5 => .int
  | _ => .int
theorem nmX3 : ∀ a, a < 7 → ∀ b, b < 7 → a ≠ b → (TX3 a).2.1 ≠ (TX3 b).2.1 := by decide +kernel
theorem tyX3_ok : ∀ k, k < 7 → parseFieldDescriptor (TX3 k).2.2.1 = some (tyX3 k) := by decide +kernel
abbrev cX3_init : ByteArray := prog_5_method_1_code
def yX3_init : MethodName := ⟨RX3, "<init>", "()V"⟩
abbrev cX3_speak : ByteArray := prog_5_method_2_code
def yX3_speak : MethodName := ⟨RX3, "speak", "(III)I"⟩
abbrev cX3_remembered : ByteArray := prog_5_method_3_code
def yX3_remembered : MethodName := ⟨RX3, "remembered", "(II)I"⟩
def RX4 : String := "TwinLines$Places"
def TX4 : u_T := fun k => match k with
  | 0 => ("TwinLines$Places", "held", "[I", true)
  | 1 => ("TwinLines$Places", "received", "[I", true)
  | 2 => ("TwinLines$Places", "barredToGet", "I", false)
  | _ => ("TwinLines$Places", "barredToSend", "I", false)
def tyX4 : Nat → FieldType := fun k => match k with
  | 0 => .array .int
  | 1 => .array .int
  | 2 => .int
  | _ => .int
theorem nmX4 : ∀ a, a < 4 → ∀ b, b < 4 → a ≠ b → (TX4 a).2.1 ≠ (TX4 b).2.1 := by decide +kernel
theorem tyX4_ok : ∀ k, k < 4 → parseFieldDescriptor (TX4 k).2.2.1 = some (tyX4 k) := by decide +kernel
abbrev cX4_init : ByteArray := prog_6_method_1_code
def yX4_init : MethodName := ⟨RX4, "<init>", "()V"⟩
abbrev cX4_exchangeHeld : ByteArray := prog_6_method_2_code
def yX4_exchangeHeld : MethodName := ⟨RX4, "exchangeHeld", "(III)I"⟩
abbrev cX4_receivedAt : ByteArray := prog_6_method_3_code
def yX4_receivedAt : MethodName := ⟨RX4, "receivedAt", "(II)I"⟩
abbrev cX4_isBarred : ByteArray := prog_6_method_4_code
def yX4_isBarred : MethodName := ⟨RX4, "isBarred", "(ZI)Z"⟩
abbrev cX4_setBarred : ByteArray := prog_6_method_5_code
def yX4_setBarred : MethodName := ⟨RX4, "setBarred", "(ZIZ)V"⟩
abbrev cX4_send : ByteArray := prog_6_method_6_code
def yX4_send : MethodName := ⟨RX4, "send", "(IILTwinLines$Words;)V"⟩
abbrev cX4_indexOf : ByteArray := prog_6_method_7_code
def yX4_indexOf : MethodName := ⟨RX4, "indexOf", "(II)I"⟩
def RX5 : String := "TwinLines$Terminal"
def TX5 : u_T := fun k => match k with
  | 0 => ("TwinLines$Terminal", "address", "I", true)
  | 1 => ("TwinLines$Terminal", "gap", "I", true)
  | 2 => ("TwinLines$Terminal", "places", "LTwinLines$Places;", true)
  | 3 => ("TwinLines$Terminal", "mutes", "LTwinLines$ToCome;", true)
  | 4 => ("TwinLines$Terminal", "listening", "I", false)
  | 5 => ("TwinLines$Terminal", "shut", "I", false)
  | 6 => ("TwinLines$Terminal", "flags", "I", false)
  | 7 => ("TwinLines$Terminal", "hidden", "Z", false)
  | 8 => ("TwinLines$Terminal", "vectorWord", "I", false)
  | 9 => ("TwinLines$Terminal", "check", "I", false)
  | 10 => ("TwinLines$Terminal", "checksDone", "I", false)
  | 11 => ("TwinLines$Terminal", "clock", "I", false)
  | 12 => ("TwinLines$Terminal", "last", "I", false)
  | 13 => ("TwinLines$Terminal", "taken", "I", false)
  | 14 => ("TwinLines$Terminal", "answersSaid", "I", false)
  | 15 => ("TwinLines$Terminal", "mutedNow", "Z", false)
  | _ => ("TwinLines$Terminal", "partner", "I", false)
def tyX5 : Nat → FieldType := fun k => match k with
  | 0 => .int
  | 1 => .int
  | 2 => .object "TwinLines$Places"
  | 3 => .object "TwinLines$ToCome"
  | 4 => .int
  | 5 => .int
  | 6 => .int
  | 7 => .boolean
  | 8 => .int
  | 9 => .int
  | 10 => .int
  | 11 => .int
  | 12 => .int
  | 13 => .int
  | 14 => .int
  | 15 => .boolean
  | _ => .int
theorem nmX5 : ∀ a, a < 17 → ∀ b, b < 17 → a ≠ b → (TX5 a).2.1 ≠ (TX5 b).2.1 := by decide +kernel
theorem tyX5_ok : ∀ k, k < 17 → parseFieldDescriptor (TX5 k).2.2.1 = some (tyX5 k) := by decide +kernel
abbrev cX5_init : ByteArray := prog_7_method_1_code
def yX5_init : MethodName := ⟨RX5, "<init>", "(II)V"⟩
abbrev cX5_status : ByteArray := prog_7_method_2_code
def yX5_status : MethodName := ⟨RX5, "status", "()I"⟩
abbrev cX5_hasFlag : ByteArray := prog_7_method_3_code
def yX5_hasFlag : MethodName := ⟨RX5, "hasFlag", "(I)Z"⟩
abbrev cX5_setFlag : ByteArray := prog_7_method_4_code
def yX5_setFlag : MethodName := ⟨RX5, "setFlag", "(IZ)V"⟩
abbrev cX5_maySpeak : ByteArray := prog_7_method_5_code
def yX5_maySpeak : MethodName := ⟨RX5, "maySpeak", "(I)Z"⟩
abbrev cX5_take : ByteArray := prog_7_method_6_code
def yX5_take : MethodName := ⟨RX5, "take", "(LTwinLines$Words;ILTwinLines$Words;)I"⟩
abbrev cX5_hearPartner : ByteArray := prog_7_method_7_code
def yX5_hearPartner : MethodName := ⟨RX5, "hearPartner", "(LTwinLines$Words;LTwinLines$Words;)I"⟩
abbrev cX5_asksForStatus : ByteArray := prog_7_method_8_code
def yX5_asksForStatus : MethodName := ⟨RX5, "asksForStatus", "(I)Z"⟩
abbrev cX5_tellStatus : ByteArray := prog_7_method_9_code
def yX5_tellStatus : MethodName := ⟨RX5, "tellStatus", "(ILTwinLines$Words;)I"⟩
abbrev cX5_takeMode : ByteArray := prog_7_method_10_code
def yX5_takeMode : MethodName := ⟨RX5, "takeMode", "(LTwinLines$Words;IILTwinLines$Words;)I"⟩
abbrev cX5_act : ByteArray := prog_7_method_11_code
def yX5_act : MethodName := ⟨RX5, "act", "(III)V"⟩
abbrev cX5_checkItself : ByteArray := prog_7_method_12_code
def yX5_checkItself : MethodName := ⟨RX5, "checkItself", "()V"⟩
abbrev cX5_reset : ByteArray := prog_7_method_13_code
def yX5_reset : MethodName := ⟨RX5, "reset", "()V"⟩
abbrev cX5_takeSend : ByteArray := prog_7_method_14_code
def yX5_takeSend : MethodName := ⟨RX5, "takeSend", "(LTwinLines$Words;ILTwinLines$Words;)I"⟩
abbrev cX5_receive : ByteArray := prog_7_method_15_code
def yX5_receive : MethodName := ⟨RX5, "receive", "(LTwinLines$Words;ILTwinLines$Words;)I"⟩
abbrev cX5_waitForPartner : ByteArray := prog_7_method_16_code
def yX5_waitForPartner : MethodName := ⟨RX5, "waitForPartner", "(LTwinLines$Words;I)I"⟩
abbrev cX5_isFree : ByteArray := prog_7_method_17_code
def yX5_isFree : MethodName := ⟨RX5, "isFree", "(Z)Z"⟩
abbrev cX5_refuse : ByteArray := prog_7_method_18_code
def yX5_refuse : MethodName := ⟨RX5, "refuse", "()I"⟩
abbrev cX5_answerStatus : ByteArray := prog_7_method_19_code
def yX5_answerStatus : MethodName := ⟨RX5, "answerStatus", "(LTwinLines$Words;)I"⟩
def RX6 : String := "TwinLines$ToCome"
def TX6 : u_T := fun k => match k with
  | 0 => ("TwinLines$ToCome", "numbers", "[I", true)
  | 1 => ("TwinLines$ToCome", "halvesOf", "[J", true)
  | _ => ("TwinLines$ToCome", "many", "I", false)
def tyX6 : Nat → FieldType := fun k => match k with
  | 0 => .array .int
  | 1 => .array .long
  | _ => .int
theorem nmX6 : ∀ a, a < 3 → ∀ b, b < 3 → a ≠ b → (TX6 a).2.1 ≠ (TX6 b).2.1 := by decide +kernel
theorem tyX6_ok : ∀ k, k < 3 → parseFieldDescriptor (TX6 k).2.2.1 = some (tyX6 k) := by decide +kernel
abbrev cX6_init : ByteArray := prog_8_method_1_code
def yX6_init : MethodName := ⟨RX6, "<init>", "(I)V"⟩
abbrev cX6_has : ByteArray := prog_8_method_2_code
def yX6_has : MethodName := ⟨RX6, "has", "(I)Z"⟩
abbrev cX6_put : ByteArray := prog_8_method_3_code
def yX6_put : MethodName := ⟨RX6, "put", "(IJ)Z"⟩
abbrev cX6_takeOut : ByteArray := prog_8_method_4_code
def yX6_takeOut : MethodName := ⟨RX6, "takeOut", "(I)J"⟩
abbrev cX6_placeFor : ByteArray := prog_8_method_5_code
def yX6_placeFor : MethodName := ⟨RX6, "placeFor", "(I)I"⟩
def RX7 : String := "TwinLines$Transfer"
def TX7 : u_T := fun k => match k with
  | 0 => ("TwinLines$Transfer", "toCommand", "I", true)
  | 1 => ("TwinLines$Transfer", "fromCommand", "I", true)
  | 2 => ("TwinLines$Transfer", "wordsSaid", "I", true)
  | 3 => ("TwinLines$Transfer", "wordsAwaited", "I", true)
  | 4 => ("TwinLines$Transfer", "keeps", "Z", true)
  | 5 => ("TwinLines$Transfer", "block", "I", true)
  | 6 => ("TwinLines$Transfer", "line", "I", true)
  | 7 => ("TwinLines$Transfer", "state", "I", false)
  | 8 => ("TwinLines$Transfer", "attempts", "I", false)
  | 9 => ("TwinLines$Transfer", "lastLine", "I", false)
  | 10 => ("TwinLines$Transfer", "why", "I", false)
  | 11 => ("TwinLines$Transfer", "lastStatus", "I", false)
  | _ => ("TwinLines$Transfer", "endTime", "I", false)
def tyX7 : Nat → FieldType := fun k => match k with
  | 0 => .int
  | 1 => .int
  | 2 => .int
  | 3 => .int
  | 4 => .boolean
  | 5 => .int
  | 6 => .int
  | 7 => .int
  | 8 => .int
  | 9 => .int
  | 10 => .int
  | 11 => .int
  | _ => .int
theorem nmX7 : ∀ a, a < 13 → ∀ b, b < 13 → a ≠ b → (TX7 a).2.1 ≠ (TX7 b).2.1 := by decide +kernel
theorem tyX7_ok : ∀ k, k < 13 → parseFieldDescriptor (TX7 k).2.2.1 = some (tyX7 k) := by decide +kernel
abbrev cX7_init : ByteArray := prog_9_method_1_code
def yX7_init : MethodName := ⟨RX7, "<init>", "(IIIIII)V"⟩
abbrev cX7_compose : ByteArray := prog_9_method_2_code
def yX7_compose : MethodName := ⟨RX7, "compose", "(LTwinLines$Words;[I)V"⟩
abbrev cX7_awaited : ByteArray := prog_9_method_3_code
def yX7_awaited : MethodName := ⟨RX7, "awaited", "()I"⟩
abbrev cX7_judge : ByteArray := prog_9_method_4_code
def yX7_judge : MethodName := ⟨RX7, "judge", "(LTwinLines$Exchange;)V"⟩
abbrev cX7_keepWords : ByteArray := prog_9_method_5_code
def yX7_keepWords : MethodName := ⟨RX7, "keepWords", "(LTwinLines$Words;[I)V"⟩
abbrev cX7_awaitsTo : ByteArray := prog_9_method_6_code
def yX7_awaitsTo : MethodName := ⟨RX7, "awaitsTo", "()Z"⟩
abbrev cX7_flawOf : ByteArray := prog_9_method_7_code
def yX7_flawOf : MethodName := ⟨RX7, "flawOf", "(LTwinLines$Words;II)I"⟩
def RX8 : String := "TwinLines$Words"
def TX8 : u_T := fun k => match k with
  | 0 => ("TwinLines$Words", "words", "[I", true)
  | 1 => ("TwinLines$Words", "commandAt", "[I", true)
  | 2 => ("TwinLines$Words", "many", "I", false)
  | 3 => ("TwinLines$Words", "commands", "I", false)
  | _ => ("TwinLines$Words", "dataAtEnd", "I", false)
def tyX8 : Nat → FieldType := fun k => match k with
  | 0 => .array .int
  | 1 => .array .int
  | 2 => .int
  | 3 => .int
  | _ => .int
theorem nmX8 : ∀ a, a < 5 → ∀ b, b < 5 → a ≠ b → (TX8 a).2.1 ≠ (TX8 b).2.1 := by decide +kernel
theorem tyX8_ok : ∀ k, k < 5 → parseFieldDescriptor (TX8 k).2.2.1 = some (tyX8 k) := by decide +kernel
abbrev cX8_init : ByteArray := prog_10_method_1_code
def yX8_init : MethodName := ⟨RX8, "<init>", "()V"⟩
abbrev cX8_clear : ByteArray := prog_10_method_2_code
def yX8_clear : MethodName := ⟨RX8, "clear", "()V"⟩
abbrev cX8_add : ByteArray := prog_10_method_3_code
def yX8_add : MethodName := ⟨RX8, "add", "(I)V"⟩
abbrev cX8_at : ByteArray := prog_10_method_4_code
def yX8_at : MethodName := ⟨RX8, "at", "(I)I"⟩
abbrev cX8_isCommand : ByteArray := prog_10_method_5_code
def yX8_isCommand : MethodName := ⟨RX8, "isCommand", "(I)Z"⟩
abbrev cX8_bitsAt : ByteArray := prog_10_method_6_code
def yX8_bitsAt : MethodName := ⟨RX8, "bitsAt", "(I)I"⟩
abbrev cX8_lastCommandTo : ByteArray := prog_10_method_7_code
def yX8_lastCommandTo : MethodName := ⟨RX8, "lastCommandTo", "(I)I"⟩
abbrev cX8_isJustData : ByteArray := prog_10_method_8_code
def yX8_isJustData : MethodName := ⟨RX8, "isJustData", "(II)Z"⟩
abbrev cX8_copyTo : ByteArray := prog_10_method_9_code
def yX8_copyTo : MethodName := ⟨RX8, "copyTo", "(I[III)V"⟩
def RX9 : String := "TwinLines"
def TX9 : u_T := fun k => match k with
  | 0 => ("TwinLines", "lines", "LTwinLines$Lines;", true)
  | 1 => ("TwinLines", "exchange", "LTwinLines$Exchange;", true)
  | 2 => ("TwinLines", "blocks", "[I", true)
  | 3 => ("TwinLines", "transfers", "[LTwinLines$Transfer;", true)
  | 4 => ("TwinLines", "frameEnds", "[I", true)
  | 5 => ("TwinLines", "transferCount", "I", false)
  | 6 => ("TwinLines", "frameCount", "I", false)
  | 7 => ("TwinLines", "nextFrame", "I", false)
  | 8 => ("TwinLines", "framesRun", "I", false)
  | 9 => ("TwinLines", "framesLate", "I", false)
  | 10 => ("TwinLines", "retryCount", "I", false)
  | _ => ("TwinLines", "periodTime", "I", false)
def tyX9 : Nat → FieldType := fun k => match k with
  | 0 => .object "TwinLines$Lines"
  | 1 => .object "TwinLines$Exchange"
  | 2 => .array .int
  | 3 => .array (.object "TwinLines$Transfer")
  | 4 => .array .int
  | 5 => .int
  | 6 => .int
  | 7 => .int
  | 8 => .int
  | 9 => .int
  | 10 => .int
  | _ => .int
theorem nmX9 : ∀ a, a < 12 → ∀ b, b < 12 → a ≠ b → (TX9 a).2.1 ≠ (TX9 b).2.1 := by decide +kernel
theorem tyX9_ok : ∀ k, k < 12 → parseFieldDescriptor (TX9 k).2.2.1 = some (tyX9 k) := by decide +kernel
abbrev cX9_init : ByteArray := prog_1_method_1_code
def yX9_init : MethodName := ⟨RX9, "<init>", "()V"⟩
abbrev cX9_terminal : ByteArray := prog_1_method_2_code
def yX9_terminal : MethodName := ⟨RX9, "terminal", "(II)I"⟩
abbrev cX9_listens : ByteArray := prog_1_method_3_code
def yX9_listens : MethodName := ⟨RX9, "listens", "(IIZ)I"⟩
abbrev cX9_hold : ByteArray := prog_1_method_4_code
def yX9_hold : MethodName := ⟨RX9, "hold", "(IIII)I"⟩
abbrev cX9_got : ByteArray := prog_1_method_5_code
def yX9_got : MethodName := ⟨RX9, "got", "(III)I"⟩
abbrev cX9_note : ByteArray := prog_1_method_6_code
def yX9_note : MethodName := ⟨RX9, "note", "(IIZ)I"⟩
abbrev cX9_vector : ByteArray := prog_1_method_7_code
def yX9_vector : MethodName := ⟨RX9, "vector", "(II)I"⟩
abbrev cX9_bar : ByteArray := prog_1_method_8_code
def yX9_bar : MethodName := ⟨RX9, "bar", "(IZIZ)I"⟩
abbrev cX9_block : ByteArray := prog_1_method_9_code
def yX9_block : MethodName := ⟨RX9, "block", "(III)I"⟩
abbrev cX9_transfer : ByteArray := prog_1_method_10_code
def yX9_transfer : MethodName := ⟨RX9, "transfer", "(IIIIIIII)I"⟩
abbrev cX9_close : ByteArray := prog_1_method_11_code
def yX9_close : MethodName := ⟨RX9, "close", "()I"⟩
abbrev cX9_retries : ByteArray := prog_1_method_12_code
def yX9_retries : MethodName := ⟨RX9, "retries", "(I)Z"⟩
abbrev cX9_period : ByteArray := prog_1_method_13_code
def yX9_period : MethodName := ⟨RX9, "period", "(I)Z"⟩
abbrev cX9_run : ByteArray := prog_1_method_14_code
def yX9_run : MethodName := ⟨RX9, "run", "(I)I"⟩
abbrev cX9_alter : ByteArray := prog_1_method_15_code
def yX9_alter : MethodName := ⟨RX9, "alter", "(IJ)Z"⟩
abbrev cX9_mute : ByteArray := prog_1_method_16_code
def yX9_mute : MethodName := ⟨RX9, "mute", "(II)Z"⟩
abbrev cX9_result : ByteArray := prog_1_method_17_code
def yX9_result : MethodName := ⟨RX9, "result", "(II)I"⟩
abbrev cX9_told : ByteArray := prog_1_method_18_code
def yX9_told : MethodName := ⟨RX9, "told", "(II)I"⟩
abbrev cX9_heard : ByteArray := prog_1_method_19_code
def yX9_heard : MethodName := ⟨RX9, "heard", "(II)I"⟩
abbrev cX9_halves : ByteArray := prog_1_method_20_code
def yX9_halves : MethodName := ⟨RX9, "halves", "(ZI)J"⟩
abbrev cX9_word : ByteArray := prog_1_method_21_code
def yX9_word : MethodName := ⟨RX9, "word", "(J)I"⟩
abbrev cX9_count : ByteArray := prog_1_method_22_code
def yX9_count : MethodName := ⟨RX9, "count", "(I)I"⟩
abbrev cX9_beginFrame : ByteArray := prog_1_method_23_code
def yX9_beginFrame : MethodName := ⟨RX9, "beginFrame", "()V"⟩
abbrev cX9_perform : ByteArray := prog_1_method_24_code
def yX9_perform : MethodName := ⟨RX9, "perform", "(LTwinLines$Transfer;)Z"⟩
abbrev cX9_attempt : ByteArray := prog_1_method_25_code
def yX9_attempt : MethodName := ⟨RX9, "attempt", "(LTwinLines$Transfer;I)V"⟩
abbrev cX9_transferAt : ByteArray := prog_1_method_26_code
def yX9_transferAt : MethodName := ⟨RX9, "transferAt", "(I)LTwinLines$Transfer;"⟩
abbrev cX9_frameEnd : ByteArray := prog_1_method_27_code
def yX9_frameEnd : MethodName := ⟨RX9, "frameEnd", "(I)I"⟩
abbrev cX9_within : ByteArray := prog_1_method_28_code
def yX9_within : MethodName := ⟨RX9, "within", "(III)Z"⟩
abbrev cX9_isLine : ByteArray := prog_1_method_29_code
def yX9_isLine : MethodName := ⟨RX9, "isLine", "(I)Z"⟩
abbrev cX9_isPlace : ByteArray := prog_1_method_30_code
def yX9_isPlace : MethodName := ⟨RX9, "isPlace", "(I)Z"⟩
abbrev cX9_isRowIndex : ByteArray := prog_1_method_31_code
def yX9_isRowIndex : MethodName := ⟨RX9, "isRowIndex", "(I)Z"⟩
abbrev cX9_isBits : ByteArray := prog_1_method_32_code
def yX9_isBits : MethodName := ⟨RX9, "isBits", "(I)Z"⟩
abbrev cX9_isBlock : ByteArray := prog_1_method_33_code
def yX9_isBlock : MethodName := ⟨RX9, "isBlock", "(I)Z"⟩
abbrev cX9_isNote : ByteArray := prog_1_method_34_code
def yX9_isNote : MethodName := ⟨RX9, "isNote", "(I)Z"⟩
abbrev cX9_isModeTo : ByteArray := prog_1_method_35_code
def yX9_isModeTo : MethodName := ⟨RX9, "isModeTo", "(II)Z"⟩
abbrev cX9_inSet : ByteArray := prog_1_method_36_code
def yX9_inSet : MethodName := ⟨RX9, "inSet", "(II)Z"⟩
abbrev cX9_bitAt : ByteArray := prog_1_method_37_code
def yX9_bitAt : MethodName := ⟨RX9, "bitAt", "(II)I"⟩
abbrev cX9_withBit : ByteArray := prog_1_method_38_code
def yX9_withBit : MethodName := ⟨RX9, "withBit", "(IIZ)I"⟩
def RX10 : String := "TwinLinesModel"
def TX10 : u_T := fun k => match k with
  | 0 => ("TwinLinesModel", "there", "[Z", true)
  | 1 => ("TwinLinesModel", "gaps", "[I", true)
  | 2 => ("TwinLinesModel", "deaf", "[Z", true)
  | 3 => ("TwinLinesModel", "shut", "[Z", true)
  | 4 => ("TwinLinesModel", "holds", "[I", true)
  | 5 => ("TwinLinesModel", "gots", "[I", true)
  | 6 => ("TwinLinesModel", "barred", "[Z", true)
  | 7 => ("TwinLinesModel", "vectors", "[I", true)
  | 8 => ("TwinLinesModel", "checks", "[I", true)
  | 9 => ("TwinLinesModel", "clocks", "[I", true)
  | 10 => ("TwinLinesModel", "lasts", "[I", true)
  | 11 => ("TwinLinesModel", "notes", "[I", true)
  | 12 => ("TwinLinesModel", "errors", "[Z", true)
  | 13 => ("TwinLinesModel", "forAll", "[Z", true)
  | 14 => ("TwinLinesModel", "hidden", "[Z", true)
  | 15 => ("TwinLinesModel", "thirds", "[I", true)
  | 16 => ("TwinLinesModel", "taken", "[I", true)
  | 17 => ("TwinLinesModel", "said", "[I", true)
  | 18 => ("TwinLinesModel", "mutes", "[I", true)
  | 19 => ("TwinLinesModel", "muteCounts", "[I", true)
  | 20 => ("TwinLinesModel", "terminals", "I", false)
  | 21 => ("TwinLinesModel", "words", "I", false)
  | 22 => ("TwinLinesModel", "time", "I", false)
  | 23 => ("TwinLinesModel", "keptWords", "[I", true)
  | 24 => ("TwinLinesModel", "keptLines", "[I", true)
  | 25 => ("TwinLinesModel", "keptWho", "[I", true)
  | 26 => ("TwinLinesModel", "keptTimes", "[I", true)
  | 27 => ("TwinLinesModel", "alteredWords", "[I", true)
  | 28 => ("TwinLinesModel", "alteredHalves", "[J", true)
  | 29 => ("TwinLinesModel", "altered", "I", false)
  | 30 => ("TwinLinesModel", "blocks", "[I", true)
  | 31 => ("TwinLinesModel", "kinds", "[I", true)
  | 32 => ("TwinLinesModel", "froms", "[I", true)
  | 33 => ("TwinLinesModel", "fromPlaces", "[I", true)
  | 34 => ("TwinLinesModel", "tos", "[I", true)
  | 35 => ("TwinLinesModel", "toPlaces", "[I", true)
  | 36 => ("TwinLinesModel", "counts", "[I", true)
  | 37 => ("TwinLinesModel", "blockOf", "[I", true)
  | 38 => ("TwinLinesModel", "lineOf", "[I", true)
  | 39 => ("TwinLinesModel", "results", "[I", true)
  | 40 => ("TwinLinesModel", "transfers", "I", false)
  | 41 => ("TwinLinesModel", "frameEnds", "[I", true)
  | 42 => ("TwinLinesModel", "frames", "I", false)
  | 43 => ("TwinLinesModel", "nextFrame", "I", false)
  | 44 => ("TwinLinesModel", "framesRun", "I", false)
  | 45 => ("TwinLinesModel", "late", "I", false)
  | 46 => ("TwinLinesModel", "retries", "I", false)
  | 47 => ("TwinLinesModel", "period", "I", false)
  | 48 => ("TwinLinesModel", "message", "[I", true)
  | 49 => ("TwinLinesModel", "size", "I", false)
  | 50 => ("TwinLinesModel", "answers", "[I", true)
  | 51 => ("TwinLinesModel", "answerSizes", "[I", true)
  | 52 => ("TwinLinesModel", "answerCount", "I", false)
  | 53 => ("TwinLinesModel", "relayed", "[Z", true)
  | 54 => ("TwinLinesModel", "isMute", "[Z", true)
  | 55 => ("TwinLinesModel", "reply", "[I", true)
  | _ => ("TwinLinesModel", "replySize", "I", false)
def tyX10 : Nat → FieldType := fun k => match k with
  | 0 => .array .boolean
  | 1 => .array .int
  | 2 => .array .boolean
  | 3 => .array .boolean
  | 4 => .array .int
  | 5 => .array .int
  | 6 => .array .boolean
  | 7 => .array .int
  | 8 => .array .int
  | 9 => .array .int
  | 10 => .array .int
  | 11 => .array .int
  | 12 => .array .boolean
  | 13 => .array .boolean
  | 14 => .array .boolean
  | 15 => .array .int
  | 16 => .array .int
  | 17 => .array .int
  | 18 => .array .int
  | 19 => .array .int
  | 20 => .int
  | 21 => .int
  | 22 => .int
  | 23 => .array .int
  | 24 => .array .int
  | 25 => .array .int
  | 26 => .array .int
  | 27 => .array .int
  | 28 => .array .long
  | 29 => .int
  | 30 => .array .int
  | 31 => .array .int
  | 32 => .array .int
  | 33 => .array .int
  | 34 => .array .int
  | 35 => .array .int
  | 36 => .array .int
  | 37 => .array .int
  | 38 => .array .int
  | 39 => .array .int
  | 40 => .int
  | 41 => .array .int
  | 42 => .int
  | 43 => .int
  | 44 => .int
  | 45 => .int
  | 46 => .int
  | 47 => .int
  | 48 => .array .int
  | 49 => .int
  | 50 => .array .int
  | 51 => .array .int
  | 52 => .int
  | 53 => .array .boolean
  | 54 => .array .boolean
  | 55 => .array .int
  | _ => .int
theorem nmX10 : ∀ a, a < 57 → ∀ b, b < 57 → a ≠ b → (TX10 a).2.1 ≠ (TX10 b).2.1 := by decide +kernel
theorem tyX10_ok : ∀ k, k < 57 → parseFieldDescriptor (TX10 k).2.2.1 = some (tyX10 k) := by decide +kernel
abbrev cX10_init : ByteArray := prog_12_method_1_code
def yX10_init : MethodName := ⟨RX10, "<init>", "()V"⟩
abbrev cX10_isIn : ByteArray := prog_12_method_2_code
def yX10_isIn : MethodName := ⟨RX10, "isIn", "(III)Z"⟩
abbrev cX10_isTerminal : ByteArray := prog_12_method_3_code
def yX10_isTerminal : MethodName := ⟨RX10, "isTerminal", "(I)Z"⟩
abbrev cX10_halves : ByteArray := prog_12_method_4_code
def yX10_halves : MethodName := ⟨RX10, "halves", "(ZI)J"⟩
abbrev cX10_word : ByteArray := prog_12_method_5_code
def yX10_word : MethodName := ⟨RX10, "word", "(J)I"⟩
abbrev cX10_isCommand : ByteArray := prog_12_method_6_code
def yX10_isCommand : MethodName := ⟨RX10, "isCommand", "(I)Z"⟩
abbrev cX10_isData : ByteArray := prog_12_method_7_code
def yX10_isData : MethodName := ⟨RX10, "isData", "(I)Z"⟩
abbrev cX10_say : ByteArray := prog_12_method_8_code
def yX10_say : MethodName := ⟨RX10, "say", "(IIZI)I"⟩
abbrev cX10_statusOf : ByteArray := prog_12_method_9_code
def yX10_statusOf : MethodName := ⟨RX10, "statusOf", "(I)I"⟩
abbrev cX10_addressOf : ByteArray := prog_12_method_10_code
def yX10_addressOf : MethodName := ⟨RX10, "addressOf", "(I)I"⟩
abbrev cX10_isToSend : ByteArray := prog_12_method_11_code
def yX10_isToSend : MethodName := ⟨RX10, "isToSend", "(I)Z"⟩
abbrev cX10_placeOf : ByteArray := prog_12_method_12_code
def yX10_placeOf : MethodName := ⟨RX10, "placeOf", "(I)I"⟩
abbrev cX10_isMode : ByteArray := prog_12_method_13_code
def yX10_isMode : MethodName := ⟨RX10, "isMode", "(I)Z"⟩
abbrev cX10_countOf : ByteArray := prog_12_method_14_code
def yX10_countOf : MethodName := ⟨RX10, "countOf", "(I)I"⟩
abbrev cX10_commandFor : ByteArray := prog_12_method_15_code
def yX10_commandFor : MethodName := ⟨RX10, "commandFor", "(I)I"⟩
abbrev cX10_takes : ByteArray := prog_12_method_16_code
def yX10_takes : MethodName := ⟨RX10, "takes", "(I)Z"⟩
abbrev cX10_isRestData : ByteArray := prog_12_method_17_code
def yX10_isRestData : MethodName := ⟨RX10, "isRestData", "(II)Z"⟩
abbrev cX10_isRelay : ByteArray := prog_12_method_18_code
def yX10_isRelay : MethodName := ⟨RX10, "isRelay", "(III)Z"⟩
abbrev cX10_isModeToDo : ByteArray := prog_12_method_19_code
def yX10_isModeToDo : MethodName := ⟨RX10, "isModeToDo", "(II)Z"⟩
abbrev cX10_answer : ByteArray := prog_12_method_20_code
def yX10_answer : MethodName := ⟨RX10, "answer", "(IIZ)V"⟩
abbrev cX10_replyWith : ByteArray := prog_12_method_21_code
def yX10_replyWith : MethodName := ⟨RX10, "replyWith", "(I)V"⟩
abbrev cX10_may : ByteArray := prog_12_method_22_code
def yX10_may : MethodName := ⟨RX10, "may", "(III)Z"⟩
abbrev cX10_hear : ByteArray := prog_12_method_23_code
def yX10_hear : MethodName := ⟨RX10, "hear", "(II)V"⟩
abbrev cX10_mode : ByteArray := prog_12_method_24_code
def yX10_mode : MethodName := ⟨RX10, "mode", "(IIIIZ)V"⟩
abbrev cX10_change : ByteArray := prog_12_method_25_code
def yX10_change : MethodName := ⟨RX10, "change", "(IIII)V"⟩
abbrev cX10_getAnswer : ByteArray := prog_12_method_26_code
def yX10_getAnswer : MethodName := ⟨RX10, "getAnswer", "(II)V"⟩
abbrev cX10_send : ByteArray := prog_12_method_27_code
def yX10_send : MethodName := ⟨RX10, "send", "(IZI)V"⟩
abbrev cX10_command : ByteArray := prog_12_method_28_code
def yX10_command : MethodName := ⟨RX10, "command", "(IIII)I"⟩
abbrev cX10_hasWord : ByteArray := prog_12_method_29_code
def yX10_hasWord : MethodName := ⟨RX10, "hasWord", "(I)Z"⟩
abbrev cX10_tell : ByteArray := prog_12_method_30_code
def yX10_tell : MethodName := ⟨RX10, "tell", "(II)V"⟩
abbrev cX10_why : ByteArray := prog_12_method_31_code
def yX10_why : MethodName := ⟨RX10, "why", "(III)I"⟩
abbrev cX10_awaited : ByteArray := prog_12_method_32_code
def yX10_awaited : MethodName := ⟨RX10, "awaited", "(I)I"⟩
abbrev cX10_wordsOf : ByteArray := prog_12_method_33_code
def yX10_wordsOf : MethodName := ⟨RX10, "wordsOf", "(I)I"⟩
abbrev cX10_attempt : ByteArray := prog_12_method_34_code
def yX10_attempt : MethodName := ⟨RX10, "attempt", "(II)I"⟩
abbrev cX10_isDone : ByteArray := prog_12_method_35_code
def yX10_isDone : MethodName := ⟨RX10, "isDone", "(I)Z"⟩
abbrev cX10_run : ByteArray := prog_12_method_36_code
def yX10_run : MethodName := ⟨RX10, "run", "(I)I"⟩
abbrev cX10_terminal : ByteArray := prog_12_method_37_code
def yX10_terminal : MethodName := ⟨RX10, "terminal", "(II)I"⟩
abbrev cX10_listens : ByteArray := prog_12_method_38_code
def yX10_listens : MethodName := ⟨RX10, "listens", "(IIZ)I"⟩
abbrev cX10_isWordPlace : ByteArray := prog_12_method_39_code
def yX10_isWordPlace : MethodName := ⟨RX10, "isWordPlace", "(III)Z"⟩
abbrev cX10_hold : ByteArray := prog_12_method_40_code
def yX10_hold : MethodName := ⟨RX10, "hold", "(IIII)I"⟩
abbrev cX10_got : ByteArray := prog_12_method_41_code
def yX10_got : MethodName := ⟨RX10, "got", "(III)I"⟩
abbrev cX10_note : ByteArray := prog_12_method_42_code
def yX10_note : MethodName := ⟨RX10, "note", "(IIZ)I"⟩
abbrev cX10_vector : ByteArray := prog_12_method_43_code
def yX10_vector : MethodName := ⟨RX10, "vector", "(II)I"⟩
abbrev cX10_bar : ByteArray := prog_12_method_44_code
def yX10_bar : MethodName := ⟨RX10, "bar", "(IZIZ)I"⟩
abbrev cX10_block : ByteArray := prog_12_method_45_code
def yX10_block : MethodName := ⟨RX10, "block", "(III)I"⟩
abbrev cX10_isTold : ByteArray := prog_12_method_46_code
def yX10_isTold : MethodName := ⟨RX10, "isTold", "(IIIIIII)Z"⟩
abbrev cX10_transfer : ByteArray := prog_12_method_47_code
def yX10_transfer : MethodName := ⟨RX10, "transfer", "(IIIIIIII)I"⟩
abbrev cX10_close : ByteArray := prog_12_method_48_code
def yX10_close : MethodName := ⟨RX10, "close", "()I"⟩
abbrev cX10_retries : ByteArray := prog_12_method_49_code
def yX10_retries : MethodName := ⟨RX10, "retries", "(I)Z"⟩
abbrev cX10_period : ByteArray := prog_12_method_50_code
def yX10_period : MethodName := ⟨RX10, "period", "(I)Z"⟩
abbrev cX10_alter : ByteArray := prog_12_method_51_code
def yX10_alter : MethodName := ⟨RX10, "alter", "(IJ)Z"⟩
abbrev cX10_mute : ByteArray := prog_12_method_52_code
def yX10_mute : MethodName := ⟨RX10, "mute", "(II)Z"⟩
abbrev cX10_result : ByteArray := prog_12_method_53_code
def yX10_result : MethodName := ⟨RX10, "result", "(II)I"⟩
abbrev cX10_told : ByteArray := prog_12_method_54_code
def yX10_told : MethodName := ⟨RX10, "told", "(II)I"⟩
abbrev cX10_heard : ByteArray := prog_12_method_55_code
def yX10_heard : MethodName := ⟨RX10, "heard", "(II)I"⟩
abbrev cX10_count : ByteArray := prog_12_method_56_code
def yX10_count : MethodName := ⟨RX10, "count", "(I)I"⟩
def RJ6 : String := "java/lang/Integer"
def TJ6 : u_T := fun k => match k with
  | _ => ("", "", "", false)
def tyJ6 : Nat → FieldType := fun k => match k with
  | _ => .int
theorem nmJ6 : ∀ a, a < 0 → ∀ b, b < 0 → a ≠ b → (TJ6 a).2.1 ≠ (TJ6 b).2.1 := by decide +kernel
theorem tyJ6_ok : ∀ k, k < 0 → parseFieldDescriptor (TJ6 k).2.2.1 = some (tyJ6 k) := by decide +kernel
abbrev cJ6_bitCount_0f7a4 : ByteArray := prog_13_method_49_code
def yJ6_bitCount_0f7a4 : MethodName := ⟨RJ6, "bitCount", "(I)I"⟩
def RL : String := "TwinLinesLaw"
abbrev cL_law : ByteArray := code
def yL_law : MethodName := ⟨RL, "law", "([I)Z"⟩
abbrev vwCl : List vw_C := [(RX2, TX2, 10), (RX3, TX3, 7), (RX4, TX4, 4), (RX5, TX5, 17), (RX6, TX6, 3), (RX7, TX7, 13), (RX8, TX8, 5), (RX9, TX9, 12), (RX10, TX10, 57)]
