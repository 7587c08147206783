section
-- ===== PART A: goes FIRST, ahead of the names: the tables' words, and 'selects' of the private methods out of them =====
/-- a private method of a class that the tables say can be made, by its rows of tables_1 -/
def lw_okq (q : MethodName × Nat) : Prop := (q.1.cls ≠ "java/lang/invoke/MethodHandle" ∧ q.1.cls ≠ "java/lang/invoke/VarHandle") ∧ Cond.instantiable q.1.cls q.2 ∈ tables_1 ∧ Cond.privateMethod q.1 ∈ tables_1 ∧ Cond.instanceMethod q.1 ∈ tables_1
theorem lw_p0 : lw_okq (⟨"TwinLines", "frameEnd", "(I)I"⟩, 12) := ⟨⟨by decide +kernel, by decide +kernel⟩, List.mem_of_getElem? (i := 16) (by decide +kernel), List.mem_of_getElem? (i := 449) (by decide +kernel), List.mem_of_getElem? (i := 450) (by decide +kernel)⟩
theorem lw_p1 : lw_okq (⟨"TwinLines", "beginFrame", "()V"⟩, 12) := ⟨⟨by decide +kernel, by decide +kernel⟩, List.mem_of_getElem? (i := 16) (by decide +kernel), List.mem_of_getElem? (i := 466) (by decide +kernel), List.mem_of_getElem? (i := 467) (by decide +kernel)⟩
theorem lw_p2 : lw_okq (⟨"TwinLines", "transferAt", "(I)LTwinLines$Transfer;"⟩, 12) := ⟨⟨by decide +kernel, by decide +kernel⟩, List.mem_of_getElem? (i := 16) (by decide +kernel), List.mem_of_getElem? (i := 470) (by decide +kernel), List.mem_of_getElem? (i := 471) (by decide +kernel)⟩
theorem lw_p3 : lw_okq (⟨"TwinLines", "perform", "(LTwinLines$Transfer;)Z"⟩, 12) := ⟨⟨by decide +kernel, by decide +kernel⟩, List.mem_of_getElem? (i := 16) (by decide +kernel), List.mem_of_getElem? (i := 474) (by decide +kernel), List.mem_of_getElem? (i := 475) (by decide +kernel)⟩
theorem lw_p4 : lw_okq (⟨"TwinLines", "attempt", "(LTwinLines$Transfer;I)V"⟩, 12) := ⟨⟨by decide +kernel, by decide +kernel⟩, List.mem_of_getElem? (i := 16) (by decide +kernel), List.mem_of_getElem? (i := 478) (by decide +kernel), List.mem_of_getElem? (i := 479) (by decide +kernel)⟩
theorem lw_p5 : lw_okq (⟨"TwinLines$Terminal", "asksForStatus", "(I)Z"⟩, 17) := ⟨⟨by decide +kernel, by decide +kernel⟩, List.mem_of_getElem? (i := 197) (by decide +kernel), List.mem_of_getElem? (i := 561) (by decide +kernel), List.mem_of_getElem? (i := 562) (by decide +kernel)⟩
theorem lw_p6 : lw_okq (⟨"TwinLines$Terminal", "tellStatus", "(ILTwinLines$Words;)I"⟩, 17) := ⟨⟨by decide +kernel, by decide +kernel⟩, List.mem_of_getElem? (i := 197) (by decide +kernel), List.mem_of_getElem? (i := 573) (by decide +kernel), List.mem_of_getElem? (i := 574) (by decide +kernel)⟩
theorem lw_p7 : lw_okq (⟨"TwinLines$Terminal", "takeMode", "(LTwinLines$Words;IILTwinLines$Words;)I"⟩, 17) := ⟨⟨by decide +kernel, by decide +kernel⟩, List.mem_of_getElem? (i := 197) (by decide +kernel), List.mem_of_getElem? (i := 586) (by decide +kernel), List.mem_of_getElem? (i := 587) (by decide +kernel)⟩
theorem lw_p8 : lw_okq (⟨"TwinLines$Terminal", "refuse", "()I"⟩, 17) := ⟨⟨by decide +kernel, by decide +kernel⟩, List.mem_of_getElem? (i := 197) (by decide +kernel), List.mem_of_getElem? (i := 598) (by decide +kernel), List.mem_of_getElem? (i := 599) (by decide +kernel)⟩
theorem lw_p9 : lw_okq (⟨"TwinLines$Terminal", "act", "(III)V"⟩, 17) := ⟨⟨by decide +kernel, by decide +kernel⟩, List.mem_of_getElem? (i := 197) (by decide +kernel), List.mem_of_getElem? (i := 602) (by decide +kernel), List.mem_of_getElem? (i := 603) (by decide +kernel)⟩
theorem lw_p10 : lw_okq (⟨"TwinLines$Terminal", "checkItself", "()V"⟩, 17) := ⟨⟨by decide +kernel, by decide +kernel⟩, List.mem_of_getElem? (i := 197) (by decide +kernel), List.mem_of_getElem? (i := 606) (by decide +kernel), List.mem_of_getElem? (i := 607) (by decide +kernel)⟩
theorem lw_p11 : lw_okq (⟨"TwinLines$Terminal", "reset", "()V"⟩, 17) := ⟨⟨by decide +kernel, by decide +kernel⟩, List.mem_of_getElem? (i := 197) (by decide +kernel), List.mem_of_getElem? (i := 612) (by decide +kernel), List.mem_of_getElem? (i := 613) (by decide +kernel)⟩
theorem lw_p12 : lw_okq (⟨"TwinLines$Terminal", "answerStatus", "(LTwinLines$Words;)I"⟩, 17) := ⟨⟨by decide +kernel, by decide +kernel⟩, List.mem_of_getElem? (i := 197) (by decide +kernel), List.mem_of_getElem? (i := 616) (by decide +kernel), List.mem_of_getElem? (i := 617) (by decide +kernel)⟩
theorem lw_p13 : lw_okq (⟨"TwinLines$Terminal", "takeSend", "(LTwinLines$Words;ILTwinLines$Words;)I"⟩, 17) := ⟨⟨by decide +kernel, by decide +kernel⟩, List.mem_of_getElem? (i := 197) (by decide +kernel), List.mem_of_getElem? (i := 620) (by decide +kernel), List.mem_of_getElem? (i := 621) (by decide +kernel)⟩
theorem lw_p14 : lw_okq (⟨"TwinLines$Terminal", "isFree", "(Z)Z"⟩, 17) := ⟨⟨by decide +kernel, by decide +kernel⟩, List.mem_of_getElem? (i := 197) (by decide +kernel), List.mem_of_getElem? (i := 624) (by decide +kernel), List.mem_of_getElem? (i := 625) (by decide +kernel)⟩
theorem lw_p15 : lw_okq (⟨"TwinLines$Terminal", "receive", "(LTwinLines$Words;ILTwinLines$Words;)I"⟩, 17) := ⟨⟨by decide +kernel, by decide +kernel⟩, List.mem_of_getElem? (i := 197) (by decide +kernel), List.mem_of_getElem? (i := 640) (by decide +kernel), List.mem_of_getElem? (i := 641) (by decide +kernel)⟩
def lw_privs_1 : List (MethodName × Nat) := [(⟨"TwinLines", "frameEnd", "(I)I"⟩, 12), (⟨"TwinLines", "beginFrame", "()V"⟩, 12), (⟨"TwinLines", "transferAt", "(I)LTwinLines$Transfer;"⟩, 12), (⟨"TwinLines", "perform", "(LTwinLines$Transfer;)Z"⟩, 12), (⟨"TwinLines", "attempt", "(LTwinLines$Transfer;I)V"⟩, 12), (⟨"TwinLines$Terminal", "asksForStatus", "(I)Z"⟩, 17), (⟨"TwinLines$Terminal", "tellStatus", "(ILTwinLines$Words;)I"⟩, 17), (⟨"TwinLines$Terminal", "takeMode", "(LTwinLines$Words;IILTwinLines$Words;)I"⟩, 17), (⟨"TwinLines$Terminal", "refuse", "()I"⟩, 17), (⟨"TwinLines$Terminal", "act", "(III)V"⟩, 17), (⟨"TwinLines$Terminal", "checkItself", "()V"⟩, 17), (⟨"TwinLines$Terminal", "reset", "()V"⟩, 17), (⟨"TwinLines$Terminal", "answerStatus", "(LTwinLines$Words;)I"⟩, 17), (⟨"TwinLines$Terminal", "takeSend", "(LTwinLines$Words;ILTwinLines$Words;)I"⟩, 17), (⟨"TwinLines$Terminal", "isFree", "(Z)Z"⟩, 17), (⟨"TwinLines$Terminal", "receive", "(LTwinLines$Words;ILTwinLines$Words;)I"⟩, 17)]
theorem lw_r1 : ∀ q ∈ lw_privs_1, lw_okq q := List.forall_mem_cons.mpr ⟨lw_p0, List.forall_mem_cons.mpr ⟨lw_p1, List.forall_mem_cons.mpr ⟨lw_p2, List.forall_mem_cons.mpr ⟨lw_p3, List.forall_mem_cons.mpr ⟨lw_p4, List.forall_mem_cons.mpr ⟨lw_p5, List.forall_mem_cons.mpr ⟨lw_p6, List.forall_mem_cons.mpr ⟨lw_p7, List.forall_mem_cons.mpr ⟨lw_p8, List.forall_mem_cons.mpr ⟨lw_p9, List.forall_mem_cons.mpr ⟨lw_p10, List.forall_mem_cons.mpr ⟨lw_p11, List.forall_mem_cons.mpr ⟨lw_p12, List.forall_mem_cons.mpr ⟨lw_p13, List.forall_mem_cons.mpr ⟨lw_p14, List.forall_mem_cons.mpr ⟨lw_p15, fun _ h => absurd h List.not_mem_nil⟩⟩⟩⟩⟩⟩⟩⟩⟩⟩⟩⟩⟩⟩⟩⟩
theorem lw_p16 : lw_okq (⟨"TwinLines$Terminal", "waitForPartner", "(LTwinLines$Words;I)I"⟩, 17) := ⟨⟨by decide +kernel, by decide +kernel⟩, List.mem_of_getElem? (i := 197) (by decide +kernel), List.mem_of_getElem? (i := 650) (by decide +kernel), List.mem_of_getElem? (i := 651) (by decide +kernel)⟩
theorem lw_p17 : lw_okq (⟨"TwinLines$Exchange", "sayReply", "(LTwinLines$Terminal;I)V"⟩, 10) := ⟨⟨by decide +kernel, by decide +kernel⟩, List.mem_of_getElem? (i := 78) (by decide +kernel), List.mem_of_getElem? (i := 659) (by decide +kernel), List.mem_of_getElem? (i := 660) (by decide +kernel)⟩
theorem lw_p18 : lw_okq (⟨"TwinLines$Transfer", "awaitsTo", "()Z"⟩, 13) := ⟨⟨by decide +kernel, by decide +kernel⟩, List.mem_of_getElem? (i := 389) (by decide +kernel), List.mem_of_getElem? (i := 684) (by decide +kernel), List.mem_of_getElem? (i := 685) (by decide +kernel)⟩
theorem lw_p19 : lw_okq (⟨"TwinLines$ToCome", "placeFor", "(I)I"⟩, 3) := ⟨⟨by decide +kernel, by decide +kernel⟩, List.mem_of_getElem? (i := 30) (by decide +kernel), List.mem_of_getElem? (i := 711) (by decide +kernel), List.mem_of_getElem? (i := 712) (by decide +kernel)⟩
theorem lw_p20 : lw_okq (⟨"TwinLinesModel", "isDone", "(I)Z"⟩, 57) := ⟨⟨by decide +kernel, by decide +kernel⟩, List.mem_of_getElem? (i := 757) (by decide +kernel), List.mem_of_getElem? (i := 958) (by decide +kernel), List.mem_of_getElem? (i := 959) (by decide +kernel)⟩
theorem lw_p21 : lw_okq (⟨"TwinLinesModel", "attempt", "(II)I"⟩, 57) := ⟨⟨by decide +kernel, by decide +kernel⟩, List.mem_of_getElem? (i := 757) (by decide +kernel), List.mem_of_getElem? (i := 962) (by decide +kernel), List.mem_of_getElem? (i := 963) (by decide +kernel)⟩
theorem lw_p22 : lw_okq (⟨"TwinLinesModel", "tell", "(II)V"⟩, 57) := ⟨⟨by decide +kernel, by decide +kernel⟩, List.mem_of_getElem? (i := 757) (by decide +kernel), List.mem_of_getElem? (i := 966) (by decide +kernel), List.mem_of_getElem? (i := 967) (by decide +kernel)⟩
theorem lw_p23 : lw_okq (⟨"TwinLinesModel", "send", "(IZI)V"⟩, 57) := ⟨⟨by decide +kernel, by decide +kernel⟩, List.mem_of_getElem? (i := 757) (by decide +kernel), List.mem_of_getElem? (i := 973) (by decide +kernel), List.mem_of_getElem? (i := 974) (by decide +kernel)⟩
theorem lw_p24 : lw_okq (⟨"TwinLinesModel", "say", "(IIZI)I"⟩, 57) := ⟨⟨by decide +kernel, by decide +kernel⟩, List.mem_of_getElem? (i := 757) (by decide +kernel), List.mem_of_getElem? (i := 977) (by decide +kernel), List.mem_of_getElem? (i := 978) (by decide +kernel)⟩
theorem lw_p25 : lw_okq (⟨"TwinLinesModel", "hear", "(II)V"⟩, 57) := ⟨⟨by decide +kernel, by decide +kernel⟩, List.mem_of_getElem? (i := 757) (by decide +kernel), List.mem_of_getElem? (i := 985) (by decide +kernel), List.mem_of_getElem? (i := 986) (by decide +kernel)⟩
theorem lw_p26 : lw_okq (⟨"TwinLinesModel", "commandFor", "(I)I"⟩, 57) := ⟨⟨by decide +kernel, by decide +kernel⟩, List.mem_of_getElem? (i := 757) (by decide +kernel), List.mem_of_getElem? (i := 989) (by decide +kernel), List.mem_of_getElem? (i := 990) (by decide +kernel)⟩
theorem lw_p27 : lw_okq (⟨"TwinLinesModel", "takes", "(I)Z"⟩, 57) := ⟨⟨by decide +kernel, by decide +kernel⟩, List.mem_of_getElem? (i := 757) (by decide +kernel), List.mem_of_getElem? (i := 999) (by decide +kernel), List.mem_of_getElem? (i := 1000) (by decide +kernel)⟩
theorem lw_p28 : lw_okq (⟨"TwinLinesModel", "statusOf", "(I)I"⟩, 57) := ⟨⟨by decide +kernel, by decide +kernel⟩, List.mem_of_getElem? (i := 757) (by decide +kernel), List.mem_of_getElem? (i := 1012) (by decide +kernel), List.mem_of_getElem? (i := 1013) (by decide +kernel)⟩
theorem lw_p29 : lw_okq (⟨"TwinLinesModel", "replyWith", "(I)V"⟩, 57) := ⟨⟨by decide +kernel, by decide +kernel⟩, List.mem_of_getElem? (i := 757) (by decide +kernel), List.mem_of_getElem? (i := 1016) (by decide +kernel), List.mem_of_getElem? (i := 1017) (by decide +kernel)⟩
theorem lw_p30 : lw_okq (⟨"TwinLinesModel", "answer", "(IIZ)V"⟩, 57) := ⟨⟨by decide +kernel, by decide +kernel⟩, List.mem_of_getElem? (i := 757) (by decide +kernel), List.mem_of_getElem? (i := 1020) (by decide +kernel), List.mem_of_getElem? (i := 1021) (by decide +kernel)⟩
theorem lw_p31 : lw_okq (⟨"TwinLinesModel", "isRestData", "(II)Z"⟩, 57) := ⟨⟨by decide +kernel, by decide +kernel⟩, List.mem_of_getElem? (i := 757) (by decide +kernel), List.mem_of_getElem? (i := 1027) (by decide +kernel), List.mem_of_getElem? (i := 1028) (by decide +kernel)⟩
def lw_privs_2 : List (MethodName × Nat) := [(⟨"TwinLines$Terminal", "waitForPartner", "(LTwinLines$Words;I)I"⟩, 17), (⟨"TwinLines$Exchange", "sayReply", "(LTwinLines$Terminal;I)V"⟩, 10), (⟨"TwinLines$Transfer", "awaitsTo", "()Z"⟩, 13), (⟨"TwinLines$ToCome", "placeFor", "(I)I"⟩, 3), (⟨"TwinLinesModel", "isDone", "(I)Z"⟩, 57), (⟨"TwinLinesModel", "attempt", "(II)I"⟩, 57), (⟨"TwinLinesModel", "tell", "(II)V"⟩, 57), (⟨"TwinLinesModel", "send", "(IZI)V"⟩, 57), (⟨"TwinLinesModel", "say", "(IIZI)I"⟩, 57), (⟨"TwinLinesModel", "hear", "(II)V"⟩, 57), (⟨"TwinLinesModel", "commandFor", "(I)I"⟩, 57), (⟨"TwinLinesModel", "takes", "(I)Z"⟩, 57), (⟨"TwinLinesModel", "statusOf", "(I)I"⟩, 57), (⟨"TwinLinesModel", "replyWith", "(I)V"⟩, 57), (⟨"TwinLinesModel", "answer", "(IIZ)V"⟩, 57), (⟨"TwinLinesModel", "isRestData", "(II)Z"⟩, 57)]
theorem lw_r2 : ∀ q ∈ lw_privs_2, lw_okq q := List.forall_mem_cons.mpr ⟨lw_p16, List.forall_mem_cons.mpr ⟨lw_p17, List.forall_mem_cons.mpr ⟨lw_p18, List.forall_mem_cons.mpr ⟨lw_p19, List.forall_mem_cons.mpr ⟨lw_p20, List.forall_mem_cons.mpr ⟨lw_p21, List.forall_mem_cons.mpr ⟨lw_p22, List.forall_mem_cons.mpr ⟨lw_p23, List.forall_mem_cons.mpr ⟨lw_p24, List.forall_mem_cons.mpr ⟨lw_p25, List.forall_mem_cons.mpr ⟨lw_p26, List.forall_mem_cons.mpr ⟨lw_p27, List.forall_mem_cons.mpr ⟨lw_p28, List.forall_mem_cons.mpr ⟨lw_p29, List.forall_mem_cons.mpr ⟨lw_p30, List.forall_mem_cons.mpr ⟨lw_p31, fun _ h => absurd h List.not_mem_nil⟩⟩⟩⟩⟩⟩⟩⟩⟩⟩⟩⟩⟩⟩⟩⟩
theorem lw_p32 : lw_okq (⟨"TwinLinesModel", "may", "(III)Z"⟩, 57) := ⟨⟨by decide +kernel, by decide +kernel⟩, List.mem_of_getElem? (i := 757) (by decide +kernel), List.mem_of_getElem? (i := 1034) (by decide +kernel), List.mem_of_getElem? (i := 1035) (by decide +kernel)⟩
theorem lw_p33 : lw_okq (⟨"TwinLinesModel", "isRelay", "(III)Z"⟩, 57) := ⟨⟨by decide +kernel, by decide +kernel⟩, List.mem_of_getElem? (i := 757) (by decide +kernel), List.mem_of_getElem? (i := 1038) (by decide +kernel), List.mem_of_getElem? (i := 1039) (by decide +kernel)⟩
theorem lw_p34 : lw_okq (⟨"TwinLinesModel", "isModeToDo", "(II)Z"⟩, 57) := ⟨⟨by decide +kernel, by decide +kernel⟩, List.mem_of_getElem? (i := 757) (by decide +kernel), List.mem_of_getElem? (i := 1042) (by decide +kernel), List.mem_of_getElem? (i := 1043) (by decide +kernel)⟩
theorem lw_p35 : lw_okq (⟨"TwinLinesModel", "mode", "(IIIIZ)V"⟩, 57) := ⟨⟨by decide +kernel, by decide +kernel⟩, List.mem_of_getElem? (i := 757) (by decide +kernel), List.mem_of_getElem? (i := 1046) (by decide +kernel), List.mem_of_getElem? (i := 1047) (by decide +kernel)⟩
theorem lw_p36 : lw_okq (⟨"TwinLinesModel", "change", "(IIII)V"⟩, 57) := ⟨⟨by decide +kernel, by decide +kernel⟩, List.mem_of_getElem? (i := 757) (by decide +kernel), List.mem_of_getElem? (i := 1050) (by decide +kernel), List.mem_of_getElem? (i := 1051) (by decide +kernel)⟩
theorem lw_p37 : lw_okq (⟨"TwinLinesModel", "getAnswer", "(II)V"⟩, 57) := ⟨⟨by decide +kernel, by decide +kernel⟩, List.mem_of_getElem? (i := 757) (by decide +kernel), List.mem_of_getElem? (i := 1054) (by decide +kernel), List.mem_of_getElem? (i := 1055) (by decide +kernel)⟩
theorem lw_p38 : lw_okq (⟨"TwinLinesModel", "awaited", "(I)I"⟩, 57) := ⟨⟨by decide +kernel, by decide +kernel⟩, List.mem_of_getElem? (i := 757) (by decide +kernel), List.mem_of_getElem? (i := 1058) (by decide +kernel), List.mem_of_getElem? (i := 1059) (by decide +kernel)⟩
theorem lw_p39 : lw_okq (⟨"TwinLinesModel", "wordsOf", "(I)I"⟩, 57) := ⟨⟨by decide +kernel, by decide +kernel⟩, List.mem_of_getElem? (i := 757) (by decide +kernel), List.mem_of_getElem? (i := 1062) (by decide +kernel), List.mem_of_getElem? (i := 1063) (by decide +kernel)⟩
theorem lw_p40 : lw_okq (⟨"TwinLinesModel", "why", "(III)I"⟩, 57) := ⟨⟨by decide +kernel, by decide +kernel⟩, List.mem_of_getElem? (i := 757) (by decide +kernel), List.mem_of_getElem? (i := 1066) (by decide +kernel), List.mem_of_getElem? (i := 1067) (by decide +kernel)⟩
theorem lw_p41 : lw_okq (⟨"TwinLinesModel", "isTerminal", "(I)Z"⟩, 57) := ⟨⟨by decide +kernel, by decide +kernel⟩, List.mem_of_getElem? (i := 757) (by decide +kernel), List.mem_of_getElem? (i := 1078) (by decide +kernel), List.mem_of_getElem? (i := 1079) (by decide +kernel)⟩
theorem lw_p42 : lw_okq (⟨"TwinLinesModel", "isWordPlace", "(III)Z"⟩, 57) := ⟨⟨by decide +kernel, by decide +kernel⟩, List.mem_of_getElem? (i := 757) (by decide +kernel), List.mem_of_getElem? (i := 1086) (by decide +kernel), List.mem_of_getElem? (i := 1087) (by decide +kernel)⟩
def lw_privs_3 : List (MethodName × Nat) := [(⟨"TwinLinesModel", "may", "(III)Z"⟩, 57), (⟨"TwinLinesModel", "isRelay", "(III)Z"⟩, 57), (⟨"TwinLinesModel", "isModeToDo", "(II)Z"⟩, 57), (⟨"TwinLinesModel", "mode", "(IIIIZ)V"⟩, 57), (⟨"TwinLinesModel", "change", "(IIII)V"⟩, 57), (⟨"TwinLinesModel", "getAnswer", "(II)V"⟩, 57), (⟨"TwinLinesModel", "awaited", "(I)I"⟩, 57), (⟨"TwinLinesModel", "wordsOf", "(I)I"⟩, 57), (⟨"TwinLinesModel", "why", "(III)I"⟩, 57), (⟨"TwinLinesModel", "isTerminal", "(I)Z"⟩, 57), (⟨"TwinLinesModel", "isWordPlace", "(III)Z"⟩, 57)]
theorem lw_r3 : ∀ q ∈ lw_privs_3, lw_okq q := List.forall_mem_cons.mpr ⟨lw_p32, List.forall_mem_cons.mpr ⟨lw_p33, List.forall_mem_cons.mpr ⟨lw_p34, List.forall_mem_cons.mpr ⟨lw_p35, List.forall_mem_cons.mpr ⟨lw_p36, List.forall_mem_cons.mpr ⟨lw_p37, List.forall_mem_cons.mpr ⟨lw_p38, List.forall_mem_cons.mpr ⟨lw_p39, List.forall_mem_cons.mpr ⟨lw_p40, List.forall_mem_cons.mpr ⟨lw_p41, List.forall_mem_cons.mpr ⟨lw_p42, fun _ h => absurd h List.not_mem_nil⟩⟩⟩⟩⟩⟩⟩⟩⟩⟩⟩
def lw_privs : List (MethodName × Nat) := lw_privs_1 ++ (lw_privs_2 ++ (lw_privs_3))
def lw_tbl : List Cond := k2_sels lw_privs ++ tables_1
theorem lw_privs_ok : ∀ q ∈ lw_privs, lw_okq q := by
  show ∀ q ∈ lw_privs_1 ++ (lw_privs_2 ++ (lw_privs_3)), lw_okq q
  exact List.forall_mem_append.mpr ⟨lw_r1, List.forall_mem_append.mpr ⟨lw_r2, lw_r3⟩⟩
def RX0 : String := "TwinLines$Coding"
def TX0 : u_T := fun k => match k with
  | _ => ("", "", "", false)
def tyX0 : Nat → FieldType := fun k => match k with
  | _ => .int
theorem nmX0 : ∀ a, a < 0 → ∀ b, b < 0 → a ≠ b → (TX0 a).2.1 ≠ (TX0 b).2.1 := by decide +kernel
theorem tyX0_ok : ∀ k, k < 0 → parseFieldDescriptor (TX0 k).2.2.1 = some (tyX0 k) := by decide +kernel
abbrev cX0_spell : ByteArray := prog_2_method_2_code
def yX0_spell : MethodName := ⟨RX0, "spell", "(I)J"⟩
abbrev cX0_read : ByteArray := prog_2_method_3_code
def yX0_read : MethodName := ⟨RX0, "read", "(J)I"⟩
def RX1 : String := "TwinLines$Command"
def TX1 : u_T := fun k => match k with
  | _ => ("", "", "", false)
def tyX1 : Nat → FieldType := fun k => match k with
  | _ => .int
theorem nmX1 : ∀ a, a < 0 → ∀ b, b < 0 → a ≠ b → (TX1 a).2.1 ≠ (TX1 b).2.1 := by decide +kernel
theorem tyX1_ok : ∀ k, k < 0 → parseFieldDescriptor (TX1 k).2.2.1 = some (tyX1 k) := by decide +kernel
abbrev cX1_of : ByteArray := prog_3_method_2_code
def yX1_of : MethodName := ⟨RX1, "of", "(IZII)I"⟩
abbrev cX1_addressOf : ByteArray := prog_3_method_3_code
def yX1_addressOf : MethodName := ⟨RX1, "addressOf", "(I)I"⟩
abbrev cX1_sends : ByteArray := prog_3_method_4_code
def yX1_sends : MethodName := ⟨RX1, "sends", "(I)Z"⟩
abbrev cX1_placeOf : ByteArray := prog_3_method_5_code
def yX1_placeOf : MethodName := ⟨RX1, "placeOf", "(I)I"⟩
abbrev cX1_isMode : ByteArray := prog_3_method_6_code
def yX1_isMode : MethodName := ⟨RX1, "isMode", "(I)Z"⟩
abbrev cX1_codeOf : ByteArray := prog_3_method_7_code
def yX1_codeOf : MethodName := ⟨RX1, "codeOf", "(I)I"⟩
abbrev cX1_countOf : ByteArray := prog_3_method_8_code
def yX1_countOf : MethodName := ⟨RX1, "countOf", "(I)I"⟩
def RX2 : String := "TwinLines$Exchange"
def TX2 : u_T := fun k => match k with
  | 0 => ("TwinLines$Exchange", "lines", "LTwinLines$Lines;", true)
  | 1 => ("TwinLines$Exchange", "terminals", "[LTwinLines$Terminal;", true)
  | 2 => ("TwinLines$Exchange", "toSay", "LTwinLines$Words;", true)
  | 3 => ("TwinLines$Exchange", "message", "LTwinLines$Words;", true)
  | 4 => ("TwinLines$Exchange", "reply", "LTwinLines$Words;", true)
  | 5 => ("TwinLines$Exchange", "firstAnswer", "LTwinLines$Words;", true)
  | 6 => ("TwinLines$Exchange", "secondAnswer", "LTwinLines$Words;", true)
  | 7 => ("TwinLines$Exchange", "terminalCount", "I", false)
  | 8 => ("TwinLines$Exchange", "answered", "I", false)
  | _ => ("TwinLines$Exchange", "waiting", "I", false)
def tyX2 : Nat → FieldType := fun k => match k with
  | 0 => .object "TwinLines$Lines"
  | 1 => .array (.object "TwinLines$Terminal")
  | 2 => .object "TwinLines$Words"
  | 3 => .object "TwinLines$Words"
  | 4 => .object "TwinLines$Words"
  | 5 => .object "TwinLines$Words"
  | 6 => .object "TwinLines$Words"
  | 7 => .int
  | 8 => .int
  | _ => .int
theorem nmX2 : ∀ a, a < 10 → ∀ b, b < 10 → a ≠ b → (TX2 a).2.1 ≠ (TX2 b).2.1 := by decide +kernel
theorem tyX2_ok : ∀ k, k < 10 → parseFieldDescriptor (TX2 k).2.2.1 = some (tyX2 k) := by decide +kernel
abbrev cX2_init : ByteArray := prog_4_method_1_code
def yX2_init : MethodName := ⟨RX2, "<init>", "(LTwinLines$Lines;)V"⟩
abbrev cX2_terminalAt : ByteArray := prog_4_method_2_code
def yX2_terminalAt : MethodName := ⟨RX2, "terminalAt", "(I)LTwinLines$Terminal;"⟩
abbrev cX2_addTerminal : ByteArray := prog_4_method_3_code
def yX2_addTerminal : MethodName := ⟨RX2, "addTerminal", "(II)Z"⟩
abbrev cX2_sayMessage : ByteArray := prog_4_method_4_code
def yX2_sayMessage : MethodName := ⟨RX2, "sayMessage", "(I)V"⟩
abbrev cX2_hearAnswers : ByteArray := prog_4_method_5_code
def yX2_hearAnswers : MethodName := ⟨RX2, "hearAnswers", "(I)V"⟩
abbrev cX2_hearRelayed : ByteArray := prog_4_method_6_code
def yX2_hearRelayed : MethodName := ⟨RX2, "hearRelayed", "(I)V"⟩
abbrev cX2_sayReply : ByteArray := prog_4_method_7_code
def yX2_sayReply : MethodName := ⟨RX2, "sayReply", "(LTwinLines$Terminal;I)V"⟩
def RX3 : String := "TwinLines$Lines"
def TX3 : u_T := fun k => match k with
  | 0 => ("TwinLines$Lines", "words", "[I", true)
  | 1 => ("TwinLines$Lines", "lineOf", "[I", true)
  | 2 => ("TwinLines$Lines", "sayerOf", "[I", true)
  | 3 => ("TwinLines$Lines", "beginOf", "[I", true)
  | 4 => ("TwinLines$Lines", "altered", "LTwinLines$ToCome;", true)
  | 5 => ("TwinLines$Lines", "said", "I", false)
  | _ => ("TwinLines$Lines", "time", "I", false)
def tyX3 : Nat → FieldType := fun k => match k with
  | 0 => .array .int
  | 1 => .array .int
  | 2 => .array .int
  | 3 => .array .int
  | 4 => .object "TwinLines$ToCome"
  | 5 => .int
  | _ => .int
theorem nmX3 : ∀ a, a < 7 → ∀ b, b < 7 → a ≠ b → (TX3 a).2.1 ≠ (TX3 b).2.1 := by decide +kernel
theorem tyX3_ok : ∀ k, k < 7 → parseFieldDescriptor (TX3 k).2.2.1 = some (tyX3 k) := by decide +kernel
abbrev cX3_init : ByteArray := prog_5_method_1_code
def yX3_init : MethodName := ⟨RX3, "<init>", "()V"⟩
abbrev cX3_speak : ByteArray := prog_5_method_2_code
def yX3_speak : MethodName := ⟨RX3, "speak", "(III)I"⟩
abbrev cX3_remembered : ByteArray := prog_5_method_3_code
def yX3_remembered : MethodName := ⟨RX3, "remembered", "(II)I"⟩
def RX4 : String := "TwinLines$Places"
def TX4 : u_T := fun k => match k with
  | 0 => ("TwinLines$Places", "held", "[I", true)
  | 1 => ("TwinLines$Places", "received", "[I", true)
  | 2 => ("TwinLines$Places", "barredToGet", "I", false)
  | _ => ("TwinLines$Places", "barredToSend", "I", false)
def tyX4 : Nat → FieldType := fun k => match k with
  | 0 => .array .int
  | 1 => .array .int
  | 2 => .int
  | _ => .int
theorem nmX4 : ∀ a, a < 4 → ∀ b, b < 4 → a ≠ b → (TX4 a).2.1 ≠ (TX4 b).2.1 := by decide +kernel
theorem tyX4_ok : ∀ k, k < 4 → parseFieldDescriptor (TX4 k).2.2.1 = some (tyX4 k) := by decide +kernel
abbrev cX4_init : ByteArray := prog_6_method_1_code
def yX4_init : MethodName := ⟨RX4, "<init>", "()V"⟩
abbrev cX4_exchangeHeld : ByteArray := prog_6_method_2_code
def yX4_exchangeHeld : MethodName := ⟨RX4, "exchangeHeld", "(III)I"⟩
abbrev cX4_receivedAt : ByteArray := prog_6_method_3_code
def yX4_receivedAt : MethodName := ⟨RX4, "receivedAt", "(II)I"⟩
abbrev cX4_isBarred : ByteArray := prog_6_method_4_code
def yX4_isBarred : MethodName := ⟨RX4, "isBarred", "(ZI)Z"⟩
abbrev cX4_setBarred : ByteArray := prog_6_method_5_code
def yX4_setBarred : MethodName := ⟨RX4, "setBarred", "(ZIZ)V"⟩
abbrev cX4_send : ByteArray := prog_6_method_6_code
def yX4_send : MethodName := ⟨RX4, "send", "(IILTwinLines$Words;)V"⟩
abbrev cX4_indexOf : ByteArray := prog_6_method_7_code
def yX4_indexOf : MethodName := ⟨RX4, "indexOf", "(II)I"⟩
def RX5 : String := "TwinLines$Terminal"
def TX5 : u_T := fun k => match k with
  | 0 => ("TwinLines$Terminal", "address", "I", true)
  | 1 => ("TwinLines$Terminal", "gap", "I", true)
  | 2 => ("TwinLines$Terminal", "places", "LTwinLines$Places;", true)
  | 3 => ("TwinLines$Terminal", "mutes", "LTwinLines$ToCome;", true)
  | 4 => ("TwinLines$Terminal", "listening", "I", false)
  | 5 => ("TwinLines$Terminal", "shut", "I", false)
  | 6 => ("TwinLines$Terminal", "flags", "I", false)
  | 7 => ("TwinLines$Terminal", "hidden", "Z", false)
  | 8 => ("TwinLines$Terminal", "vectorWord", "I", false)
  | 9 => ("TwinLines$Terminal", "check", "I", false)
  | 10 => ("TwinLines$Terminal", "checksDone", "I", false)
  | 11 => ("TwinLines$Terminal", "clock", "I", false)
  | 12 => ("TwinLines$Terminal", "last", "I", false)
  | 13 => ("TwinLines$Terminal", "taken", "I", false)
  | 14 => ("TwinLines$Terminal", "answersSaid", "I", false)
  | 15 => ("TwinLines$Terminal", "mutedNow", "Z", false)
  | _ => ("TwinLines$Terminal", "partner", "I", false)
def tyX5 : Nat → FieldType := fun k => match k with
  | 0 => .int
  | 1 => .int
  | 2 => .object "TwinLines$Places"
  | 3 => .object "TwinLines$ToCome"
  | 4 => .int
  | 5 => .int
  | 6 => .int
  | 7 => .boolean
  | 8 => .int
  | 9 => .int
  | 10 => .int
  | 11 => .int
  | 12 => .int
  | 13 => .int
  | 14 => .int
  | 15 => .boolean
  | _ => .int
theorem nmX5 : ∀ a, a < 17 → ∀ b, b < 17 → a ≠ b → (TX5 a).2.1 ≠ (TX5 b).2.1 := by decide +kernel
theorem tyX5_ok : ∀ k, k < 17 → parseFieldDescriptor (TX5 k).2.2.1 = some (tyX5 k) := by decide +kernel
abbrev cX5_init : ByteArray := prog_7_method_1_code
def yX5_init : MethodName := ⟨RX5, "<init>", "(II)V"⟩
abbrev cX5_status : ByteArray := prog_7_method_2_code
def yX5_status : MethodName := ⟨RX5, "status", "()I"⟩
abbrev cX5_hasFlag : ByteArray := prog_7_method_3_code
def yX5_hasFlag : MethodName := ⟨RX5, "hasFlag", "(I)Z"⟩
abbrev cX5_setFlag : ByteArray := prog_7_method_4_code
def yX5_setFlag : MethodName := ⟨RX5, "setFlag", "(IZ)V"⟩
abbrev cX5_maySpeak : ByteArray := prog_7_method_5_code
def yX5_maySpeak : MethodName := ⟨RX5, "maySpeak", "(I)Z"⟩
abbrev cX5_take : ByteArray := prog_7_method_6_code
def yX5_take : MethodName := ⟨RX5, "take", "(LTwinLines$Words;ILTwinLines$Words;)I"⟩
abbrev cX5_hearPartner : ByteArray := prog_7_method_7_code
def yX5_hearPartner : MethodName := ⟨RX5, "hearPartner", "(LTwinLines$Words;LTwinLines$Words;)I"⟩
abbrev cX5_asksForStatus : ByteArray := prog_7_method_8_code
def yX5_asksForStatus : MethodName := ⟨RX5, "asksForStatus", "(I)Z"⟩
abbrev cX5_tellStatus : ByteArray := prog_7_method_9_code
def yX5_tellStatus : MethodName := ⟨RX5, "tellStatus", "(ILTwinLines$Words;)I"⟩
abbrev cX5_takeMode : ByteArray := prog_7_method_10_code
def yX5_takeMode : MethodName := ⟨RX5, "takeMode", "(LTwinLines$Words;IILTwinLines$Words;)I"⟩
abbrev cX5_act : ByteArray := prog_7_method_11_code
def yX5_act : MethodName := ⟨RX5, "act", "(III)V"⟩
abbrev cX5_checkItself : ByteArray := prog_7_method_12_code
def yX5_checkItself : MethodName := ⟨RX5, "checkItself", "()V"⟩
abbrev cX5_reset : ByteArray := prog_7_method_13_code
def yX5_reset : MethodName := ⟨RX5, "reset", "()V"⟩
abbrev cX5_takeSend : ByteArray := prog_7_method_14_code
def yX5_takeSend : MethodName := ⟨RX5, "takeSend", "(LTwinLines$Words;ILTwinLines$Words;)I"⟩
abbrev cX5_receive : ByteArray := prog_7_method_15_code
def yX5_receive : MethodName := ⟨RX5, "receive", "(LTwinLines$Words;ILTwinLines$Words;)I"⟩
abbrev cX5_waitForPartner : ByteArray := prog_7_method_16_code
def yX5_waitForPartner : MethodName := ⟨RX5, "waitForPartner", "(LTwinLines$Words;I)I"⟩
abbrev cX5_isFree : ByteArray := prog_7_method_17_code
def yX5_isFree : MethodName := ⟨RX5, "isFree", "(Z)Z"⟩
abbrev cX5_refuse : ByteArray := prog_7_method_18_code
def yX5_refuse : MethodName := ⟨RX5, "refuse", "()I"⟩
abbrev cX5_answerStatus : ByteArray := prog_7_method_19_code
def yX5_answerStatus : MethodName := ⟨RX5, "answerStatus", "(LTwinLines$Words;)I"⟩
def RX6 : String := "TwinLines$ToCome"
def TX6 : u_T := fun k => match k with
  | 0 => ("TwinLines$ToCome", "numbers", "[I", true)
  | 1 => ("TwinLines$ToCome", "halvesOf", "[J", true)
  | _ => ("TwinLines$ToCome", "many", "I", false)
def tyX6 : Nat → FieldType := fun k => match k with
  | 0 => .array .int
  | 1 => .array .long
  | _ => .int
theorem nmX6 : ∀ a, a < 3 → ∀ b, b < 3 → a ≠ b → (TX6 a).2.1 ≠ (TX6 b).2.1 := by decide +kernel
theorem tyX6_ok : ∀ k, k < 3 → parseFieldDescriptor (TX6 k).2.2.1 = some (tyX6 k) := by decide +kernel
abbrev cX6_init : ByteArray := prog_8_method_1_code
def yX6_init : MethodName := ⟨RX6, "<init>", "(I)V"⟩
abbrev cX6_has : ByteArray := prog_8_method_2_code
def yX6_has : MethodName := ⟨RX6, "has", "(I)Z"⟩
abbrev cX6_put : ByteArray := prog_8_method_3_code
def yX6_put : MethodName := ⟨RX6, "put", "(IJ)Z"⟩
abbrev cX6_takeOut : ByteArray := prog_8_method_4_code
def yX6_takeOut : MethodName := ⟨RX6, "takeOut", "(I)J"⟩
abbrev cX6_placeFor : ByteArray := prog_8_method_5_code
def yX6_placeFor : MethodName := ⟨RX6, "placeFor", "(I)I"⟩
def RX7 : String := "TwinLines$Transfer"
def TX7 : u_T := fun k => match k with
  | 0 => ("TwinLines$Transfer", "toCommand", "I", true)
  | 1 => ("TwinLines$Transfer", "fromCommand", "I", true)
  | 2 => ("TwinLines$Transfer", "wordsSaid", "I", true)
  | 3 => ("TwinLines$Transfer", "wordsAwaited", "I", true)
  | 4 => ("TwinLines$Transfer", "keeps", "Z", true)
  | 5 => ("TwinLines$Transfer", "block", "I", true)
  | 6 => ("TwinLines$Transfer", "line", "I", true)
  | 7 => ("TwinLines$Transfer", "state", "I", false)
  | 8 => ("TwinLines$Transfer", "attempts", "I", false)
  | 9 => ("TwinLines$Transfer", "lastLine", "I", false)
  | 10 => ("TwinLines$Transfer", "why", "I", false)
  | 11 => ("TwinLines$Transfer", "lastStatus", "I", false)
  | _ => ("TwinLines$Transfer", "endTime", "I", false)
def tyX7 : Nat → FieldType := fun k => match k with
  | 0 => .int
  | 1 => .int
  | 2 => .int
  | 3 => .int
  | 4 => .boolean
  | 5 => .int
  | 6 => .int
  | 7 => .int
  | 8 => .int
  | 9 => .int
  | 10 => .int
  | 11 => .int
  | _ => .int
theorem nmX7 : ∀ a, a < 13 → ∀ b, b < 13 → a ≠ b → (TX7 a).2.1 ≠ (TX7 b).2.1 := by decide +kernel
theorem tyX7_ok : ∀ k, k < 13 → parseFieldDescriptor (TX7 k).2.2.1 = some (tyX7 k) := by decide +kernel
abbrev cX7_init : ByteArray := prog_9_method_1_code
def yX7_init : MethodName := ⟨RX7, "<init>", "(IIIIII)V"⟩
abbrev cX7_compose : ByteArray := prog_9_method_2_code
def yX7_compose : MethodName := ⟨RX7, "compose", "(LTwinLines$Words;[I)V"⟩
abbrev cX7_awaited : ByteArray := prog_9_method_3_code
def yX7_awaited : MethodName := ⟨RX7, "awaited", "()I"⟩
abbrev cX7_judge : ByteArray := prog_9_method_4_code
def yX7_judge : MethodName := ⟨RX7, "judge", "(LTwinLines$Exchange;)V"⟩
abbrev cX7_keepWords : ByteArray := prog_9_method_5_code
def yX7_keepWords : MethodName := ⟨RX7, "keepWords", "(LTwinLines$Words;[I)V"⟩
abbrev cX7_awaitsTo : ByteArray := prog_9_method_6_code
def yX7_awaitsTo : MethodName := ⟨RX7, "awaitsTo", "()Z"⟩
abbrev cX7_flawOf : ByteArray := prog_9_method_7_code
def yX7_flawOf : MethodName := ⟨RX7, "flawOf", "(LTwinLines$Words;II)I"⟩
def RX8 : String := "TwinLines$Words"
def TX8 : u_T := fun k => match k with
  | 0 => ("TwinLines$Words", "words", "[I", true)
  | 1 => ("TwinLines$Words", "commandAt", "[I", true)
  | 2 => ("TwinLines$Words", "many", "I", false)
  | 3 => ("TwinLines$Words", "commands", "I", false)
  | _ => ("TwinLines$Words", "dataAtEnd", "I", false)
def tyX8 : Nat → FieldType := fun k => match k with
  | 0 => .array .int
  | 1 => .array .int
  | 2 => .int
  | 3 => .int
  | _ => .int
theorem nmX8 : ∀ a, a < 5 → ∀ b, b < 5 → a ≠ b → (TX8 a).2.1 ≠ (TX8 b).2.1 := by decide +kernel
theorem tyX8_ok : ∀ k, k < 5 → parseFieldDescriptor (TX8 k).2.2.1 = some (tyX8 k) := by decide +kernel
abbrev cX8_init : ByteArray := prog_10_method_1_code
def yX8_init : MethodName := ⟨RX8, "<init>", "()V"⟩
abbrev cX8_clear : ByteArray := prog_10_method_2_code
def yX8_clear : MethodName := ⟨RX8, "clear", "()V"⟩
abbrev cX8_add : ByteArray := prog_10_method_3_code
def yX8_add : MethodName := ⟨RX8, "add", "(I)V"⟩
abbrev cX8_at : ByteArray := prog_10_method_4_code
def yX8_at : MethodName := ⟨RX8, "at", "(I)I"⟩
abbrev cX8_isCommand : ByteArray := prog_10_method_5_code
def yX8_isCommand : MethodName := ⟨RX8, "isCommand", "(I)Z"⟩
abbrev cX8_bitsAt : ByteArray := prog_10_method_6_code
def yX8_bitsAt : MethodName := ⟨RX8, "bitsAt", "(I)I"⟩
abbrev cX8_lastCommandTo : ByteArray := prog_10_method_7_code
def yX8_lastCommandTo : MethodName := ⟨RX8, "lastCommandTo", "(I)I"⟩
abbrev cX8_isJustData : ByteArray := prog_10_method_8_code
def yX8_isJustData : MethodName := ⟨RX8, "isJustData", "(II)Z"⟩
abbrev cX8_copyTo : ByteArray := prog_10_method_9_code
def yX8_copyTo : MethodName := ⟨RX8, "copyTo", "(I[III)V"⟩
def RX9 : String := "TwinLines"
def TX9 : u_T := fun k => match k with
  | 0 => ("TwinLines", "lines", "LTwinLines$Lines;", true)
  | 1 => ("TwinLines", "exchange", "LTwinLines$Exchange;", true)
  | 2 => ("TwinLines", "blocks", "[I", true)
  | 3 => ("TwinLines", "transfers", "[LTwinLines$Transfer;", true)
  | 4 => ("TwinLines", "frameEnds", "[I", true)
  | 5 => ("TwinLines", "transferCount", "I", false)
  | 6 => ("TwinLines", "frameCount", "I", false)
  | 7 => ("TwinLines", "nextFrame", "I", false)
  | 8 => ("TwinLines", "framesRun", "I", false)
  | 9 => ("TwinLines", "framesLate", "I", false)
  | 10 => ("TwinLines", "retryCount", "I", false)
  | _ => ("TwinLines", "periodTime", "I", false)
def tyX9 : Nat → FieldType := fun k => match k with
  | 0 => .object "TwinLines$Lines"
  | 1 => .object "TwinLines$Exchange"
  | 2 => .array .int
  | 3 => .array (.object "TwinLines$Transfer")
  | 4 => .array .int
  | 5 => .int
  | 6 => .int
  | 7 => .int
  | 8 => .int
  | 9 => .int
  | 10 => .int
  | _ => .int
theorem nmX9 : ∀ a, a < 12 → ∀ b, b < 12 → a ≠ b → (TX9 a).2.1 ≠ (TX9 b).2.1 := by decide +kernel
theorem tyX9_ok : ∀ k, k < 12 → parseFieldDescriptor (TX9 k).2.2.1 = some (tyX9 k) := by decide +kernel
abbrev cX9_init : ByteArray := prog_1_method_1_code
def yX9_init : MethodName := ⟨RX9, "<init>", "()V"⟩
abbrev cX9_terminal : ByteArray := prog_1_method_2_code
def yX9_terminal : MethodName := ⟨RX9, "terminal", "(II)I"⟩
abbrev cX9_listens : ByteArray := prog_1_method_3_code
def yX9_listens : MethodName := ⟨RX9, "listens", "(IIZ)I"⟩
abbrev cX9_hold : ByteArray := prog_1_method_4_code
def yX9_hold : MethodName := ⟨RX9, "hold", "(IIII)I"⟩
abbrev cX9_got : ByteArray := prog_1_method_5_code
def yX9_got : MethodName := ⟨RX9, "got", "(III)I"⟩
abbrev cX9_note : ByteArray := prog_1_method_6_code
def yX9_note : MethodName := ⟨RX9, "note", "(IIZ)I"⟩
abbrev cX9_vector : ByteArray := prog_1_method_7_code
def yX9_vector : MethodName := ⟨RX9, "vector", "(II)I"⟩
abbrev cX9_bar : ByteArray := prog_1_method_8_code
def yX9_bar : MethodName := ⟨RX9, "bar", "(IZIZ)I"⟩
abbrev cX9_block : ByteArray := prog_1_method_9_code
def yX9_block : MethodName := ⟨RX9, "block", "(III)I"⟩
abbrev cX9_transfer : ByteArray := prog_1_method_10_code
def yX9_transfer : MethodName := ⟨RX9, "transfer", "(IIIIIIII)I"⟩
abbrev cX9_close : ByteArray := prog_1_method_11_code
def yX9_close : MethodName := ⟨RX9, "close", "()I"⟩
abbrev cX9_retries : ByteArray := prog_1_method_12_code
def yX9_retries : MethodName := ⟨RX9, "retries", "(I)Z"⟩
abbrev cX9_period : ByteArray := prog_1_method_13_code
def yX9_period : MethodName := ⟨RX9, "period", "(I)Z"⟩
abbrev cX9_run : ByteArray := prog_1_method_14_code
def yX9_run : MethodName := ⟨RX9, "run", "(I)I"⟩
abbrev cX9_alter : ByteArray := prog_1_method_15_code
def yX9_alter : MethodName := ⟨RX9, "alter", "(IJ)Z"⟩
abbrev cX9_mute : ByteArray := prog_1_method_16_code
def yX9_mute : MethodName := ⟨RX9, "mute", "(II)Z"⟩
abbrev cX9_result : ByteArray := prog_1_method_17_code
def yX9_result : MethodName := ⟨RX9, "result", "(II)I"⟩
abbrev cX9_told : ByteArray := prog_1_method_18_code
def yX9_told : MethodName := ⟨RX9, "told", "(II)I"⟩
abbrev cX9_heard : ByteArray := prog_1_method_19_code
def yX9_heard : MethodName := ⟨RX9, "heard", "(II)I"⟩
abbrev cX9_halves : ByteArray := prog_1_method_20_code
def yX9_halves : MethodName := ⟨RX9, "halves", "(ZI)J"⟩
abbrev cX9_word : ByteArray := prog_1_method_21_code
def yX9_word : MethodName := ⟨RX9, "word", "(J)I"⟩
abbrev cX9_count : ByteArray := prog_1_method_22_code
def yX9_count : MethodName := ⟨RX9, "count", "(I)I"⟩
abbrev cX9_beginFrame : ByteArray := prog_1_method_23_code
def yX9_beginFrame : MethodName := ⟨RX9, "beginFrame", "()V"⟩
abbrev cX9_perform : ByteArray := prog_1_method_24_code
def yX9_perform : MethodName := ⟨RX9, "perform", "(LTwinLines$Transfer;)Z"⟩
abbrev cX9_attempt : ByteArray := prog_1_method_25_code
def yX9_attempt : MethodName := ⟨RX9, "attempt", "(LTwinLines$Transfer;I)V"⟩
abbrev cX9_transferAt : ByteArray := prog_1_method_26_code
def yX9_transferAt : MethodName := ⟨RX9, "transferAt", "(I)LTwinLines$Transfer;"⟩
abbrev cX9_frameEnd : ByteArray := prog_1_method_27_code
def yX9_frameEnd : MethodName := ⟨RX9, "frameEnd", "(I)I"⟩
abbrev cX9_within : ByteArray := prog_1_method_28_code
def yX9_within : MethodName := ⟨RX9, "within", "(III)Z"⟩
abbrev cX9_isLine : ByteArray := prog_1_method_29_code
def yX9_isLine : MethodName := ⟨RX9, "isLine", "(I)Z"⟩
abbrev cX9_isPlace : ByteArray := prog_1_method_30_code
def yX9_isPlace : MethodName := ⟨RX9, "isPlace", "(I)Z"⟩
abbrev cX9_isRowIndex : ByteArray := prog_1_method_31_code
def yX9_isRowIndex : MethodName := ⟨RX9, "isRowIndex", "(I)Z"⟩
abbrev cX9_isBits : ByteArray := prog_1_method_32_code
def yX9_isBits : MethodName := ⟨RX9, "isBits", "(I)Z"⟩
abbrev cX9_isBlock : ByteArray := prog_1_method_33_code
def yX9_isBlock : MethodName := ⟨RX9, "isBlock", "(I)Z"⟩
abbrev cX9_isNote : ByteArray := prog_1_method_34_code
def yX9_isNote : MethodName := ⟨RX9, "isNote", "(I)Z"⟩
abbrev cX9_isModeTo : ByteArray := prog_1_method_35_code
def yX9_isModeTo : MethodName := ⟨RX9, "isModeTo", "(II)Z"⟩
abbrev cX9_inSet : ByteArray := prog_1_method_36_code
def yX9_inSet : MethodName := ⟨RX9, "inSet", "(II)Z"⟩
abbrev cX9_bitAt : ByteArray := prog_1_method_37_code
def yX9_bitAt : MethodName := ⟨RX9, "bitAt", "(II)I"⟩
abbrev cX9_withBit : ByteArray := prog_1_method_38_code
def yX9_withBit : MethodName := ⟨RX9, "withBit", "(IIZ)I"⟩
def RX10 : String := "TwinLinesModel"
def TX10 : u_T := fun k => match k with
  | 0 => ("TwinLinesModel", "there", "[Z", true)
  | 1 => ("TwinLinesModel", "gaps", "[I", true)
  | 2 => ("TwinLinesModel", "deaf", "[Z", true)
  | 3 => ("TwinLinesModel", "shut", "[Z", true)
  | 4 => ("TwinLinesModel", "holds", "[I", true)
  | 5 => ("TwinLinesModel", "gots", "[I", true)
  | 6 => ("TwinLinesModel", "barred", "[Z", true)
  | 7 => ("TwinLinesModel", "vectors", "[I", true)
  | 8 => ("TwinLinesModel", "checks", "[I", true)
  | 9 => ("TwinLinesModel", "clocks", "[I", true)
  | 10 => ("TwinLinesModel", "lasts", "[I", true)
  | 11 => ("TwinLinesModel", "notes", "[I", true)
  | 12 => ("TwinLinesModel", "errors", "[Z", true)
  | 13 => ("TwinLinesModel", "forAll", "[Z", true)
  | 14 => ("TwinLinesModel", "hidden", "[Z", true)
  | 15 => ("TwinLinesModel", "thirds", "[I", true)
  | 16 => ("TwinLinesModel", "taken", "[I", true)
  | 17 => ("TwinLinesModel", "said", "[I", true)
  | 18 => ("TwinLinesModel", "mutes", "[I", true)
  | 19 => ("TwinLinesModel", "muteCounts", "[I", true)
  | 20 => ("TwinLinesModel", "terminals", "I", false)
  | 21 => ("TwinLinesModel", "words", "I", false)
  | 22 => ("TwinLinesModel", "time", "I", false)
  | 23 => ("TwinLinesModel", "keptWords", "[I", true)
  | 24 => ("TwinLinesModel", "keptLines", "[I", true)
  | 25 => ("TwinLinesModel", "keptWho", "[I", true)
  | 26 => ("TwinLinesModel", "keptTimes", "[I", true)
  | 27 => ("TwinLinesModel", "alteredWords", "[I", true)
  | 28 => ("TwinLinesModel", "alteredHalves", "[J", true)
  | 29 => ("TwinLinesModel", "altered", "I", false)
  | 30 => ("TwinLinesModel", "blocks", "[I", true)
  | 31 => ("TwinLinesModel", "kinds", "[I", true)
  | 32 => ("TwinLinesModel", "froms", "[I", true)
  | 33 => ("TwinLinesModel", "fromPlaces", "[I", true)
  | 34 => ("TwinLinesModel", "tos", "[I", true)
  | 35 => ("TwinLinesModel", "toPlaces", "[I", true)
  | 36 => ("TwinLinesModel", "counts", "[I", true)
  | 37 => ("TwinLinesModel", "blockOf", "[I", true)
  | 38 => ("TwinLinesModel", "lineOf", "[I", true)
  | 39 => ("TwinLinesModel", "results", "[I", true)
  | 40 => ("TwinLinesModel", "transfers", "I", false)
  | 41 => ("TwinLinesModel", "frameEnds", "[I", true)
  | 42 => ("TwinLinesModel", "frames", "I", false)
  | 43 => ("TwinLinesModel", "nextFrame", "I", false)
  | 44 => ("TwinLinesModel", "framesRun", "I", false)
  | 45 => ("TwinLinesModel", "late", "I", false)
  | 46 => ("TwinLinesModel", "retries", "I", false)
  | 47 => ("TwinLinesModel", "period", "I", false)
  | 48 => ("TwinLinesModel", "message", "[I", true)
  | 49 => ("TwinLinesModel", "size", "I", false)
  | 50 => ("TwinLinesModel", "answers", "[I", true)
  | 51 => ("TwinLinesModel", "answerSizes", "[I", true)
  | 52 => ("TwinLinesModel", "answerCount", "I", false)
  | 53 => ("TwinLinesModel", "relayed", "[Z", true)
  | 54 => ("TwinLinesModel", "isMute", "[Z", true)
  | 55 => ("TwinLinesModel", "reply", "[I", true)
  | _ => ("TwinLinesModel", "replySize", "I", false)
def tyX10 : Nat → FieldType := fun k => match k with
  | 0 => .array .boolean
  | 1 => .array .int
  | 2 => .array .boolean
  | 3 => .array .boolean
  | 4 => .array .int
  | 5 => .array .int
  | 6 => .array .boolean
  | 7 => .array .int
  | 8 => .array .int
  | 9 => .array .int
  | 10 => .array .int
  | 11 => .array .int
  | 12 => .array .boolean
  | 13 => .array .boolean
  | 14 => .array .boolean
  | 15 => .array .int
  | 16 => .array .int
  | 17 => .array .int
  | 18 => .array .int
  | 19 => .array .int
  | 20 => .int
  | 21 => .int
  | 22 => .int
  | 23 => .array .int
  | 24 => .array .int
  | 25 => .array .int
  | 26 => .array .int
  | 27 => .array .int
  | 28 => .array .long
  | 29 => .int
  | 30 => .array .int
  | 31 => .array .int
  | 32 => .array .int
  | 33 => .array .int
  | 34 => .array .int
  | 35 => .array .int
  | 36 => .array .int
  | 37 => .array .int
  | 38 => .array .int
  | 39 => .array .int
  | 40 => .int
  | 41 => .array .int
  | 42 => .int
  | 43 => .int
  | 44 => .int
  | 45 => .int
  | 46 => .int
  | 47 => .int
  | 48 => .array .int
  | 49 => .int
  | 50 => .array .int
  | 51 => .array .int
  | 52 => .int
  | 53 => .array .boolean
  | 54 => .array .boolean
  | 55 => .array .int
  | _ => .int
theorem nmX10 : ∀ a, a < 57 → ∀ b, b < 57 → a ≠ b → (TX10 a).2.1 ≠ (TX10 b).2.1 := by decide +kernel
theorem tyX10_ok : ∀ k, k < 57 → parseFieldDescriptor (TX10 k).2.2.1 = some (tyX10 k) := by decide +kernel
abbrev cX10_init : ByteArray := prog_12_method_1_code
def yX10_init : MethodName := ⟨RX10, "<init>", "()V"⟩
abbrev cX10_isIn : ByteArray := prog_12_method_2_code
def yX10_isIn : MethodName := ⟨RX10, "isIn", "(III)Z"⟩
abbrev cX10_isTerminal : ByteArray := prog_12_method_3_code
def yX10_isTerminal : MethodName := ⟨RX10, "isTerminal", "(I)Z"⟩
abbrev cX10_halves : ByteArray := prog_12_method_4_code
def yX10_halves : MethodName := ⟨RX10, "halves", "(ZI)J"⟩
abbrev cX10_word : ByteArray := prog_12_method_5_code
def yX10_word : MethodName := ⟨RX10, "word", "(J)I"⟩
abbrev cX10_isCommand : ByteArray := prog_12_method_6_code
def yX10_isCommand : MethodName := ⟨RX10, "isCommand", "(I)Z"⟩
abbrev cX10_isData : ByteArray := prog_12_method_7_code
def yX10_isData : MethodName := ⟨RX10, "isData", "(I)Z"⟩
abbrev cX10_say : ByteArray := prog_12_method_8_code
def yX10_say : MethodName := ⟨RX10, "say", "(IIZI)I"⟩
abbrev cX10_statusOf : ByteArray := prog_12_method_9_code
def yX10_statusOf : MethodName := ⟨RX10, "statusOf", "(I)I"⟩
abbrev cX10_addressOf : ByteArray := prog_12_method_10_code
def yX10_addressOf : MethodName := ⟨RX10, "addressOf", "(I)I"⟩
abbrev cX10_isToSend : ByteArray := prog_12_method_11_code
def yX10_isToSend : MethodName := ⟨RX10, "isToSend", "(I)Z"⟩
abbrev cX10_placeOf : ByteArray := prog_12_method_12_code
def yX10_placeOf : MethodName := ⟨RX10, "placeOf", "(I)I"⟩
abbrev cX10_isMode : ByteArray := prog_12_method_13_code
def yX10_isMode : MethodName := ⟨RX10, "isMode", "(I)Z"⟩
abbrev cX10_countOf : ByteArray := prog_12_method_14_code
def yX10_countOf : MethodName := ⟨RX10, "countOf", "(I)I"⟩
abbrev cX10_commandFor : ByteArray := prog_12_method_15_code
def yX10_commandFor : MethodName := ⟨RX10, "commandFor", "(I)I"⟩
abbrev cX10_takes : ByteArray := prog_12_method_16_code
def yX10_takes : MethodName := ⟨RX10, "takes", "(I)Z"⟩
abbrev cX10_isRestData : ByteArray := prog_12_method_17_code
def yX10_isRestData : MethodName := ⟨RX10, "isRestData", "(II)Z"⟩
abbrev cX10_isRelay : ByteArray := prog_12_method_18_code
def yX10_isRelay : MethodName := ⟨RX10, "isRelay", "(III)Z"⟩
abbrev cX10_isModeToDo : ByteArray := prog_12_method_19_code
def yX10_isModeToDo : MethodName := ⟨RX10, "isModeToDo", "(II)Z"⟩
abbrev cX10_answer : ByteArray := prog_12_method_20_code
def yX10_answer : MethodName := ⟨RX10, "answer", "(IIZ)V"⟩
abbrev cX10_replyWith : ByteArray := prog_12_method_21_code
def yX10_replyWith : MethodName := ⟨RX10, "replyWith", "(I)V"⟩
abbrev cX10_may : ByteArray := prog_12_method_22_code
def yX10_may : MethodName := ⟨RX10, "may", "(III)Z"⟩
abbrev cX10_hear : ByteArray := prog_12_method_23_code
def yX10_hear : MethodName := ⟨RX10, "hear", "(II)V"⟩
abbrev cX10_mode : ByteArray := prog_12_method_24_code
def yX10_mode : MethodName := ⟨RX10, "mode", "(IIIIZ)V"⟩
abbrev cX10_change : ByteArray := prog_12_method_25_code
def yX10_change : MethodName := ⟨RX10, "change", "(IIII)V"⟩
abbrev cX10_getAnswer : ByteArray := prog_12_method_26_code
def yX10_getAnswer : MethodName := ⟨RX10, "getAnswer", "(II)V"⟩
abbrev cX10_send : ByteArray := prog_12_method_27_code
def yX10_send : MethodName := ⟨RX10, "send", "(IZI)V"⟩
abbrev cX10_command : ByteArray := prog_12_method_28_code
def yX10_command : MethodName := ⟨RX10, "command", "(IIII)I"⟩
abbrev cX10_hasWord : ByteArray := prog_12_method_29_code
def yX10_hasWord : MethodName := ⟨RX10, "hasWord", "(I)Z"⟩
abbrev cX10_tell : ByteArray := prog_12_method_30_code
def yX10_tell : MethodName := ⟨RX10, "tell", "(II)V"⟩
abbrev cX10_why : ByteArray := prog_12_method_31_code
def yX10_why : MethodName := ⟨RX10, "why", "(III)I"⟩
abbrev cX10_awaited : ByteArray := prog_12_method_32_code
def yX10_awaited : MethodName := ⟨RX10, "awaited", "(I)I"⟩
abbrev cX10_wordsOf : ByteArray := prog_12_method_33_code
def yX10_wordsOf : MethodName := ⟨RX10, "wordsOf", "(I)I"⟩
abbrev cX10_attempt : ByteArray := prog_12_method_34_code
def yX10_attempt : MethodName := ⟨RX10, "attempt", "(II)I"⟩
abbrev cX10_isDone : ByteArray := prog_12_method_35_code
def yX10_isDone : MethodName := ⟨RX10, "isDone", "(I)Z"⟩
abbrev cX10_run : ByteArray := prog_12_method_36_code
def yX10_run : MethodName := ⟨RX10, "run", "(I)I"⟩
abbrev cX10_terminal : ByteArray := prog_12_method_37_code
def yX10_terminal : MethodName := ⟨RX10, "terminal", "(II)I"⟩
abbrev cX10_listens : ByteArray := prog_12_method_38_code
def yX10_listens : MethodName := ⟨RX10, "listens", "(IIZ)I"⟩
abbrev cX10_isWordPlace : ByteArray := prog_12_method_39_code
def yX10_isWordPlace : MethodName := ⟨RX10, "isWordPlace", "(III)Z"⟩
abbrev cX10_hold : ByteArray := prog_12_method_40_code
def yX10_hold : MethodName := ⟨RX10, "hold", "(IIII)I"⟩
abbrev cX10_got : ByteArray := prog_12_method_41_code
def yX10_got : MethodName := ⟨RX10, "got", "(III)I"⟩
abbrev cX10_note : ByteArray := prog_12_method_42_code
def yX10_note : MethodName := ⟨RX10, "note", "(IIZ)I"⟩
abbrev cX10_vector : ByteArray := prog_12_method_43_code
def yX10_vector : MethodName := ⟨RX10, "vector", "(II)I"⟩
abbrev cX10_bar : ByteArray := prog_12_method_44_code
def yX10_bar : MethodName := ⟨RX10, "bar", "(IZIZ)I"⟩
abbrev cX10_block : ByteArray := prog_12_method_45_code
def yX10_block : MethodName := ⟨RX10, "block", "(III)I"⟩
abbrev cX10_isTold : ByteArray := prog_12_method_46_code
def yX10_isTold : MethodName := ⟨RX10, "isTold", "(IIIIIII)Z"⟩
abbrev cX10_transfer : ByteArray := prog_12_method_47_code
def yX10_transfer : MethodName := ⟨RX10, "transfer", "(IIIIIIII)I"⟩
abbrev cX10_close : ByteArray := prog_12_method_48_code
def yX10_close : MethodName := ⟨RX10, "close", "()I"⟩
abbrev cX10_retries : ByteArray := prog_12_method_49_code
def yX10_retries : MethodName := ⟨RX10, "retries", "(I)Z"⟩
abbrev cX10_period : ByteArray := prog_12_method_50_code
def yX10_period : MethodName := ⟨RX10, "period", "(I)Z"⟩
abbrev cX10_alter : ByteArray := prog_12_method_51_code
def yX10_alter : MethodName := ⟨RX10, "alter", "(IJ)Z"⟩
abbrev cX10_mute : ByteArray := prog_12_method_52_code
def yX10_mute : MethodName := ⟨RX10, "mute", "(II)Z"⟩
abbrev cX10_result : ByteArray := prog_12_method_53_code
def yX10_result : MethodName := ⟨RX10, "result", "(II)I"⟩
abbrev cX10_told : ByteArray := prog_12_method_54_code
def yX10_told : MethodName := ⟨RX10, "told", "(II)I"⟩
abbrev cX10_heard : ByteArray := prog_12_method_55_code
def yX10_heard : MethodName := ⟨RX10, "heard", "(II)I"⟩
abbrev cX10_count : ByteArray := prog_12_method_56_code
def yX10_count : MethodName := ⟨RX10, "count", "(I)I"⟩
def RJ6 : String := "java/lang/Integer"
def TJ6 : u_T := fun k => match k with
  | _ => ("", "", "", false)
def tyJ6 : Nat → FieldType := fun k => match k with
  | _ => .int
theorem nmJ6 : ∀ a, a < 0 → ∀ b, b < 0 → a ≠ b → (TJ6 a).2.1 ≠ (TJ6 b).2.1 := by decide +kernel
theorem tyJ6_ok : ∀ k, k < 0 → parseFieldDescriptor (TJ6 k).2.2.1 = some (tyJ6 k) := by decide +kernel
abbrev cJ6_bitCount_0f7a4 : ByteArray := prog_13_method_49_code
def yJ6_bitCount_0f7a4 : MethodName := ⟨RJ6, "bitCount", "(I)I"⟩
def RL : String := "TwinLinesLaw"
abbrev cL_law : ByteArray := code
def yL_law : MethodName := ⟨RL, "law", "([I)Z"⟩
abbrev vwCl : List vw_C := [(RX2, TX2, 10), (RX3, TX3, 7), (RX4, TX4, 4), (RX5, TX5, 17), (RX6, TX6, 3), (RX7, TX7, 13), (RX8, TX8, 5), (RX9, TX9, 12), (RX10, TX10, 57)]
end
section
/-! my tables: methods, links, constants; each entry with the place of its words in lw_tbl -/
def jcn : Nat → String := fun c => match c with
  | 0 => RX0
  | 1 => RX1
  | 2 => RX2
  | 3 => RX3
  | 4 => RX4
  | 5 => RX5
  | 6 => RX6
  | 7 => RX7
  | 8 => RX8
  | 9 => RX9
  | 10 => RX10
  | 11 => RJ6
  | _ => RL
abbrev jmT : Type := MethodName × ByteArray × Nat × Option FieldType × Nat × Nat × Nat
def jmL_0 : List jmT := [(yX0_spell, cX0_spell, 6, (some .long), 0, 1, 1),
  (yX0_read, cX0_read, 7, (some .int), 0, 1, 1),
  (yX1_of, cX1_of, 4, (some .int), 1, 0, 4),
  (yX1_addressOf, cX1_addressOf, 1, (some .int), 1, 0, 1),
  (yX1_sends, cX1_sends, 1, (some .boolean), 1, 0, 1),
  (yX1_placeOf, cX1_placeOf, 1, (some .int), 1, 0, 1),
  (yX1_isMode, cX1_isMode, 2, (some .boolean), 1, 0, 1),
  (yX1_codeOf, cX1_codeOf, 1, (some .int), 1, 0, 1),
  (yX1_countOf, cX1_countOf, 2, (some .int), 1, 0, 1),
  (yX2_init, cX2_init, 2, none, 2, 2, 1),
  (yX2_terminalAt, cX2_terminalAt, 2, (some (.object "TwinLines$Terminal")), 2, 0, 1),
  (yX2_addTerminal, cX2_addTerminal, 3, (some .boolean), 2, 3, 2),
  (yX2_sayMessage, cX2_sayMessage, 3, none, 2, 3, 1),
  (yX2_hearAnswers, cX2_hearAnswers, 5, none, 2, 4, 1),
  (yX2_hearRelayed, cX2_hearRelayed, 4, none, 2, 4, 1),
  (yX2_sayReply, cX2_sayReply, 5, none, 2, 3, 2),
  (yX3_init, cX3_init, 1, none, 3, 2, 0),
  (yX3_speak, cX3_speak, 8, (some .int), 3, 2, 3),
  (yX3_remembered, cX3_remembered, 5, (some .int), 3, 0, 2),
  (yX4_init, cX4_init, 1, none, 4, 1, 0),
  (yX4_exchangeHeld, cX4_exchangeHeld, 6, (some .int), 4, 1, 3),
  (yX4_receivedAt, cX4_receivedAt, 4, (some .int), 4, 1, 2),
  (yX4_isBarred, cX4_isBarred, 3, (some .boolean), 4, 0, 2),
  (yX4_setBarred, cX4_setBarred, 4, none, 4, 1, 3),
  (yX4_send, cX4_send, 7, none, 4, 1, 3),
  (yX4_indexOf, cX4_indexOf, 2, (some .int), 4, 0, 2),
  (yX5_init, cX5_init, 3, none, 5, 2, 2),
  (yX5_status, cX5_status, 1, (some .int), 5, 0, 0),
  (yX5_hasFlag, cX5_hasFlag, 2, (some .boolean), 5, 0, 1),
  (yX5_setFlag, cX5_setFlag, 3, none, 5, 0, 2),
  (yX5_maySpeak, cX5_maySpeak, 2, (some .boolean), 5, 1, 1),
  (yX5_take, cX5_take, 7, (some .int), 5, 3, 3),
  (yX5_hearPartner, cX5_hearPartner, 4, (some .int), 5, 3, 2),
  (yX5_asksForStatus, cX5_asksForStatus, 3, (some .boolean), 5, 1, 1),
  (yX5_tellStatus, cX5_tellStatus, 3, (some .int), 5, 1, 2),
  (yX5_takeMode, cX5_takeMode, 9, (some .int), 5, 2, 4),
  (yX5_act, cX5_act, 5, none, 5, 1, 3),
  (yX5_checkItself, cX5_checkItself, 1, none, 5, 0, 0),
  (yX5_reset, cX5_reset, 1, none, 5, 0, 0),
  (yX5_takeSend, cX5_takeSend, 6, (some .int), 5, 2, 3)]
def jmL_1 : List jmT := [(yX5_receive, cX5_receive, 5, (some .int), 5, 2, 3),
  (yX5_waitForPartner, cX5_waitForPartner, 5, (some .int), 5, 2, 2),
  (yX5_isFree, cX5_isFree, 2, (some .boolean), 5, 1, 1),
  (yX5_refuse, cX5_refuse, 1, (some .int), 5, 1, 0),
  (yX5_answerStatus, cX5_answerStatus, 2, (some .int), 5, 1, 1),
  (yX6_init, cX6_init, 2, none, 6, 1, 1),
  (yX6_has, cX6_has, 3, (some .boolean), 6, 1, 1),
  (yX6_put, cX6_put, 5, (some .boolean), 6, 1, 2),
  (yX6_takeOut, cX6_takeOut, 4, (some .long), 6, 1, 1),
  (yX6_placeFor, cX6_placeFor, 3, (some .int), 6, 0, 1),
  (yX7_init, cX7_init, 10, none, 7, 1, 6),
  (yX7_compose, cX7_compose, 5, none, 7, 1, 2),
  (yX7_awaited, cX7_awaited, 1, (some .int), 7, 2, 0),
  (yX7_judge, cX7_judge, 6, none, 7, 3, 1),
  (yX7_keepWords, cX7_keepWords, 3, none, 7, 2, 2),
  (yX7_awaitsTo, cX7_awaitsTo, 1, (some .boolean), 7, 1, 0),
  (yX7_flawOf, cX7_flawOf, 4, (some .int), 7, 2, 3),
  (yX8_init, cX8_init, 1, none, 8, 1, 0),
  (yX8_clear, cX8_clear, 1, none, 8, 0, 0),
  (yX8_add, cX8_add, 2, none, 8, 0, 1),
  (yX8_at, cX8_at, 2, (some .int), 8, 0, 1),
  (yX8_isCommand, cX8_isCommand, 2, (some .boolean), 8, 1, 1),
  (yX8_bitsAt, cX8_bitsAt, 2, (some .int), 8, 1, 1),
  (yX8_lastCommandTo, cX8_lastCommandTo, 4, (some .int), 8, 2, 1),
  (yX8_isJustData, cX8_isJustData, 3, (some .boolean), 8, 0, 2),
  (yX8_copyTo, cX8_copyTo, 5, none, 8, 1, 4),
  (yX9_init, cX9_init, 1, none, 9, 3, 0),
  (yX9_terminal, cX9_terminal, 3, (some .int), 9, 4, 2),
  (yX9_listens, cX9_listens, 6, (some .int), 9, 1, 3),
  (yX9_hold, cX9_hold, 6, (some .int), 9, 2, 4),
  (yX9_got, cX9_got, 5, (some .int), 9, 2, 3),
  (yX9_note, cX9_note, 6, (some .int), 9, 1, 3),
  (yX9_vector, cX9_vector, 5, (some .int), 9, 1, 2),
  (yX9_bar, cX9_bar, 7, (some .int), 9, 2, 4),
  (yX9_block, cX9_block, 6, (some .int), 9, 1, 3),
  (yX9_transfer, cX9_transfer, 13, (some .int), 9, 2, 8),
  (yX9_close, cX9_close, 2, (some .int), 9, 2, 0),
  (yX9_retries, cX9_retries, 2, (some .boolean), 9, 1, 1),
  (yX9_period, cX9_period, 2, (some .boolean), 9, 1, 1),
  (yX9_run, cX9_run, 7, (some .int), 9, 7, 1)]
def jmL_2 : List jmT := [(yX9_alter, cX9_alter, 4, (some .boolean), 9, 2, 2),
  (yX9_mute, cX9_mute, 4, (some .boolean), 9, 2, 2),
  (yX9_result, cX9_result, 4, (some .int), 9, 2, 2),
  (yX9_told, cX9_told, 4, (some .int), 9, 1, 2),
  (yX9_heard, cX9_heard, 3, (some .int), 9, 1, 2),
  (yX9_halves, cX9_halves, 3, (some .long), 9, 2, 2),
  (yX9_word, cX9_word, 3, (some .int), 9, 2, 1),
  (yX9_count, cX9_count, 2, (some .int), 9, 0, 1),
  (yX9_beginFrame, cX9_beginFrame, 2, none, 9, 0, 0),
  (yX9_perform, cX9_perform, 4, (some .boolean), 9, 6, 1),
  (yX9_attempt, cX9_attempt, 3, none, 9, 5, 2),
  (yX9_transferAt, cX9_transferAt, 2, (some (.object "TwinLines$Transfer")), 9, 1, 1),
  (yX9_frameEnd, cX9_frameEnd, 2, (some .int), 9, 1, 1),
  (yX9_within, cX9_within, 3, (some .boolean), 9, 0, 3),
  (yX9_isLine, cX9_isLine, 1, (some .boolean), 9, 0, 1),
  (yX9_isPlace, cX9_isPlace, 1, (some .boolean), 9, 0, 1),
  (yX9_isRowIndex, cX9_isRowIndex, 1, (some .boolean), 9, 0, 1),
  (yX9_isBits, cX9_isBits, 1, (some .boolean), 9, 0, 1),
  (yX9_isBlock, cX9_isBlock, 1, (some .boolean), 9, 0, 1),
  (yX9_isNote, cX9_isNote, 1, (some .boolean), 9, 0, 1),
  (yX9_isModeTo, cX9_isModeTo, 2, (some .boolean), 9, 1, 2),
  (yX9_inSet, cX9_inSet, 2, (some .boolean), 9, 0, 2),
  (yX9_bitAt, cX9_bitAt, 2, (some .int), 9, 0, 2),
  (yX9_withBit, cX9_withBit, 3, (some .int), 9, 0, 3),
  (yX10_init, cX10_init, 2, none, 10, 1, 0),
  (yX10_isIn, cX10_isIn, 3, (some .boolean), 10, 0, 3),
  (yX10_isTerminal, cX10_isTerminal, 2, (some .boolean), 10, 1, 1),
  (yX10_halves, cX10_halves, 8, (some .long), 10, 1, 2),
  (yX10_word, cX10_word, 5, (some .int), 10, 2, 1),
  (yX10_isCommand, cX10_isCommand, 1, (some .boolean), 10, 0, 1),
  (yX10_isData, cX10_isData, 1, (some .boolean), 10, 1, 1),
  (yX10_say, cX10_say, 8, (some .int), 10, 3, 4),
  (yX10_statusOf, cX10_statusOf, 3, (some .int), 10, 0, 1),
  (yX10_addressOf, cX10_addressOf, 1, (some .int), 10, 0, 1),
  (yX10_isToSend, cX10_isToSend, 1, (some .boolean), 10, 0, 1),
  (yX10_placeOf, cX10_placeOf, 1, (some .int), 10, 0, 1),
  (yX10_isMode, cX10_isMode, 1, (some .boolean), 10, 1, 1),
  (yX10_countOf, cX10_countOf, 1, (some .int), 10, 0, 1),
  (yX10_commandFor, cX10_commandFor, 5, (some .int), 10, 1, 1),
  (yX10_takes, cX10_takes, 4, (some .boolean), 10, 0, 1)]
def jmL_3 : List jmT := [(yX10_isRestData, cX10_isRestData, 5, (some .boolean), 10, 2, 2),
  (yX10_isRelay, cX10_isRelay, 5, (some .boolean), 10, 2, 3),
  (yX10_isModeToDo, cX10_isModeToDo, 6, (some .boolean), 10, 3, 2),
  (yX10_answer, cX10_answer, 6, none, 10, 4, 3),
  (yX10_replyWith, cX10_replyWith, 2, none, 10, 0, 1),
  (yX10_may, cX10_may, 5, (some .boolean), 10, 0, 3),
  (yX10_hear, cX10_hear, 9, none, 10, 6, 2),
  (yX10_mode, cX10_mode, 8, none, 10, 5, 5),
  (yX10_change, cX10_change, 6, none, 10, 0, 4),
  (yX10_getAnswer, cX10_getAnswer, 8, none, 10, 5, 2),
  (yX10_send, cX10_send, 4, none, 10, 4, 3),
  (yX10_command, cX10_command, 4, (some .int), 10, 0, 4),
  (yX10_hasWord, cX10_hasWord, 1, (some .boolean), 10, 0, 1),
  (yX10_tell, cX10_tell, 4, none, 10, 5, 2),
  (yX10_why, cX10_why, 7, (some .int), 10, 2, 3),
  (yX10_awaited, cX10_awaited, 2, (some .int), 10, 0, 1),
  (yX10_wordsOf, cX10_wordsOf, 3, (some .int), 10, 0, 1),
  (yX10_attempt, cX10_attempt, 7, (some .int), 10, 7, 2),
  (yX10_isDone, cX10_isDone, 6, (some .boolean), 10, 8, 1),
  (yX10_run, cX10_run, 7, (some .int), 10, 9, 1),
  (yX10_terminal, cX10_terminal, 3, (some .int), 10, 1, 2),
  (yX10_listens, cX10_listens, 5, (some .int), 10, 2, 3),
  (yX10_isWordPlace, cX10_isWordPlace, 4, (some .boolean), 10, 2, 3),
  (yX10_hold, cX10_hold, 7, (some .int), 10, 3, 4),
  (yX10_got, cX10_got, 4, (some .int), 10, 3, 3),
  (yX10_note, cX10_note, 6, (some .int), 10, 2, 3),
  (yX10_vector, cX10_vector, 4, (some .int), 10, 2, 2),
  (yX10_bar, cX10_bar, 7, (some .int), 10, 2, 4),
  (yX10_block, cX10_block, 5, (some .int), 10, 1, 3),
  (yX10_isTold, cX10_isTold, 9, (some .boolean), 10, 1, 7),
  (yX10_transfer, cX10_transfer, 9, (some .int), 10, 2, 8),
  (yX10_close, cX10_close, 2, (some .int), 10, 0, 0),
  (yX10_retries, cX10_retries, 2, (some .boolean), 10, 1, 1),
  (yX10_period, cX10_period, 2, (some .boolean), 10, 1, 1),
  (yX10_alter, cX10_alter, 5, (some .boolean), 10, 1, 2),
  (yX10_mute, cX10_mute, 4, (some .boolean), 10, 2, 2),
  (yX10_result, cX10_result, 3, (some .int), 10, 1, 2),
  (yX10_told, cX10_told, 3, (some .int), 10, 2, 2),
  (yX10_heard, cX10_heard, 5, (some .int), 10, 1, 2),
  (yX10_count, cX10_count, 2, (some .int), 10, 0, 1)]
def jmL_4 : List jmT := [(yJ6_bitCount_0f7a4, cJ6_bitCount_0f7a4, 1, (some .int), 11, 0, 1),
  (yL_law, cL_law, 4, (some .boolean), 12, 10, 1)]
def jmL : List jmT := jmL_0 ++ (jmL_1 ++ (jmL_2 ++ (jmL_3 ++ (jmL_4))))
def jm (y : Nat) : jmT := jmL.getD y (yL_law, cL_law, 0, none, 0, 0, 0)
def jm_name (y : Nat) : MethodName := (jm y).1
def jm_code (y : Nat) : ByteArray := (jm y).2.1
def jm_max (y : Nat) : Nat := (jm y).2.2.1
def jm_ret (y : Nat) : Option FieldType := (jm y).2.2.2.1
def jm_cn (y : Nat) : Nat := (jm y).2.2.2.2.1
def jm_fr (y : Nat) : Nat := (jm y).2.2.2.2.2.1
def jm_na (y : Nat) : Nat := (jm y).2.2.2.2.2.2
def jm_inits : List Nat := [9, 16, 19, 26, 45, 50, 57, 66, 104]
def jmC : List Nat := [560, 573, 431, 599, 613, 672, 610, 439, 676, 124, 338, 239, 541, 579, 712, 704, 70, 550, 781, 249, 365, 376, 403, 407, 680, 368, 243, 624, 387, 391, 708, 583, 717, 606, 618, 631, 647, 651, 657, 665, 685, 695, 669, 643, 661, 76, 764, 752, 554, 756, 435, 527, 725, 721, 742, 729, 736, 132, 531, 536, 546, 699, 594, 587, 638, 690, 62, 232, 334, 351, 372, 380, 395, 399, 412, 419, 490, 498, 502, 507, 747, 760, 768, 772, 777, 787, 793, 798, 511, 519, 523, 515, 494, 235, 341, 354, 357, 360, 415, 383, 422, 427, 344, 347, 803, 985, 1123, 981, 993, 1037, 1075, 1022, 1057, 1040, 1053, 1050, 1047, 1068, 1034, 1044, 1072, 1083, 1087, 1065, 1061, 1079, 1030, 1091, 1095, 1099, 1018, 1014, 1026, 1011, 1111, 1103, 1107, 1007, 1003, 999, 1115, 1119, 1131, 1127, 1135, 1139, 1143, 1147, 1151, 1158, 1155, 1162, 1166, 1170, 1175, 1180, 1184, 1188, 1192, 1196, 564]
def jmP : List (Nat × Nat × Nat × Bool) := [(559, 0, 56, true), (572, 0, 56, true), (430, 0, 53, true), (598, 0, 53, true), (612, 0, 53, true), (671, 0, 53, true), (609, 0, 53, true), (438, 0, 53, true), (675, 0, 53, true), (123, 0, 48, false), (336, 337, 48, false), (237, 238, 48, false), (539, 540, 48, false), (577, 578, 48, false), (710, 711, 48, false), (703, 17, 48, false), (69, 0, 45, false), (548, 549, 45, false), (779, 780, 45, false), (248, 0, 52, false), (363, 364, 52, false), (374, 375, 52, false), (401, 402, 52, false), (405, 406, 52, false), (678, 679, 52, false), (367, 0, 52, true), (242, 0, 51, false), (622, 623, 51, false), (385, 386, 51, false), (389, 390, 51, false), (706, 707, 51, false), (581, 582, 51, false), (715, 716, 51, false), (605, 5, 51, false), (617, 6, 51, false), (630, 7, 51, false), (646, 9, 51, false), (650, 10, 51, false), (656, 11, 51, false), (664, 13, 51, false), (684, 15, 51, false), (694, 16, 51, false), (668, 14, 51, false), (642, 8, 51, false), (660, 12, 51, false), (75, 0, 46, false), (762, 763, 46, false), (750, 751, 46, false), (552, 553, 46, false), (755, 19, 46, false), (434, 0, 54, false), (525, 526, 54, false), (723, 724, 54, false), (719, 720, 54, false), (740, 741, 54, false), (728, 18, 54, false), (735, 0, 54, true), (131, 0, 49, false), (529, 530, 49, false), (534, 535, 49, false), (544, 545, 49, false), (697, 698, 49, false), (592, 593, 49, false), (585, 586, 49, false), (636, 637, 49, false), (688, 689, 49, false), (61, 0, 44, false), (230, 231, 44, false), (332, 333, 44, false), (349, 350, 44, false), (370, 371, 44, false), (378, 379, 44, false), (393, 394, 44, false), (397, 398, 44, false), (410, 411, 44, false), (417, 418, 44, false), (488, 489, 44, false), (496, 497, 44, false), (500, 501, 44, false), (505, 506, 44, false), (745, 746, 44, false), (758, 759, 44, false), (766, 767, 44, false), (770, 771, 44, false), (775, 776, 44, false), (785, 786, 44, false), (791, 792, 44, false), (796, 797, 44, false), (510, 1, 44, false), (518, 3, 44, false), (522, 4, 44, false), (514, 2, 44, false), (493, 0, 44, false), (234, 0, 44, true), (340, 0, 44, true), (353, 0, 44, true), (356, 0, 44, true), (359, 0, 44, true), (414, 0, 44, true), (382, 0, 44, true), (421, 0, 44, true), (426, 0, 44, true), (343, 0, 44, true), (346, 0, 44, true), (802, 0, 50, false), (984, 0, 50, true), (1122, 41, 50, false), (979, 980, 50, false), (991, 992, 50, false), (1036, 0, 50, true), (1074, 0, 50, true), (1021, 24, 50, false), (1056, 28, 50, false), (1039, 0, 50, true), (1052, 0, 50, true), (1049, 0, 50, true), (1046, 0, 50, true), (1067, 0, 50, true), (1033, 26, 50, false), (1043, 27, 50, false), (1071, 31, 50, false), (1082, 33, 50, false), (1086, 34, 50, false), (1064, 30, 50, false), (1060, 29, 50, false), (1078, 32, 50, false), (1029, 25, 50, false), (1090, 35, 50, false), (1094, 36, 50, false), (1098, 37, 50, false), (1017, 23, 50, false), (1013, 0, 50, true), (1025, 0, 50, true), (1010, 22, 50, false), (1110, 40, 50, false), (1102, 38, 50, false), (1106, 39, 50, false), (1006, 21, 50, false), (1002, 20, 50, false), (997, 998, 50, false), (1113, 1114, 50, false), (1117, 1118, 50, false), (1130, 42, 50, false), (1125, 1126, 50, false), (1133, 1134, 50, false), (1137, 1138, 50, false), (1141, 1142, 50, false), (1145, 1146, 50, false), (1149, 1150, 50, false), (1157, 0, 50, true), (1153, 1154, 50, false), (1160, 1161, 50, false), (1164, 1165, 50, false), (1168, 1169, 50, false), (1173, 1174, 50, false), (1178, 1179, 50, false), (1182, 1183, 50, false), (1186, 1187, 50, false), (1190, 1191, 50, false), (1194, 1195, 50, false), (563, 0, 57, true)]
def jmNL : Nat := 161
/-- places: code of max, min, Object.<init>; static max, min; instance Object.<init>; initialized Math -/
def jmX : List Nat := [80, 590, 65, 79, 589, 64, 47]
def jt_fL : List ((Nat × Nat) × Nat × Nat × Bool × Nat) := [((2, 11), 0, 1, false, 153), ((2, 20), 0, 2, false, 154), ((2, 24), 0, 3, false, 156), ((2, 27), 0, 4, false, 157), ((2, 30), 0, 5, false, 158), ((2, 33), 0, 6, false, 161), ((2, 36), 0, 0, false, 152), ((2, 43), 0, 7, false, 164), ((2, 50), 0, 8, false, 166), ((2, 53), 0, 9, false, 168), ((2, 56), 6, 2, true, 137), ((2, 97), 3, 14, true, 292), ((2, 100), 1, 6, true, 103), ((2, 103), 3, 1, true, 270), ((2, 106), 3, 0, true, 268), ((3, 9), 1, 0, false, 94), ((3, 15), 1, 1, false, 95), ((3, 18), 1, 2, false, 96), ((3, 21), 1, 3, false, 97), ((3, 29), 1, 4, false, 98), ((3, 33), 1, 5, false, 100), ((3, 50), 1, 6, false, 102), ((4, 9), 2, 0, false, 251), ((4, 15), 2, 1, false, 252), ((4, 22), 2, 3, false, 255), ((4, 26), 2, 2, false, 254), ((5, 12), 3, 2, false, 271), ((5, 23), 3, 3, false, 273), ((5, 27), 3, 4, false, 275), ((5, 31), 3, 12, false, 288), ((5, 34), 3, 0, false, 267), ((5, 37), 3, 1, false, 269), ((5, 40), 3, 7, false, 280), ((5, 44), 3, 6, false, 279), ((5, 47), 3, 15, false, 294), ((5, 50), 3, 5, false, 277), ((5, 63), 3, 13, false, 290), ((5, 73), 6, 2, true, 138), ((5, 124), 3, 16, false, 295), ((5, 165), 3, 8, false, 282), ((5, 168), 3, 9, false, 283), ((5, 171), 3, 11, false, 286), ((5, 184), 3, 10, false, 285), ((5, 202), 2, 1, true, 253), ((6, 13), 4, 0, false, 81), ((6, 19), 4, 1, false, 82), ((6, 27), 4, 2, false, 83), ((7, 9), 5, 7, false, 451), ((7, 15), 5, 11, false, 457), ((7, 30), 5, 0, false, 443), ((7, 33), 5, 1, false, 444), ((7, 36), 5, 2, false, 445), ((7, 39), 5, 3, false, 446), ((7, 42), 5, 4, false, 447), ((7, 46), 5, 5, false, 448), ((7, 49), 5, 6, false, 449), ((7, 66), 0, 8, true, 165), ((7, 81), 0, 6, true, 162), ((7, 85), 0, 5, true, 159), ((7, 95), 5, 10, false, 455), ((8, 9), 6, 0, false, 134), ((8, 15), 6, 1, false, 135), ((8, 18), 6, 2, false, 136), ((8, 22), 6, 3, false, 139), ((8, 25), 6, 4, false, 140), ((9, 10), 7, 0, false, 192), ((9, 21), 7, 1, false, 193), ((9, 25), 7, 2, false, 194), ((9, 31), 7, 3, false, 195), ((9, 35), 7, 4, false, 196), ((9, 38), 7, 10, false, 202), ((9, 42), 7, 11, false, 203), ((9, 53), 0, 7, true, 163), ((9, 64), 3, 4, true, 276), ((9, 86), 3, 2, true, 272), ((9, 109), 3, 8, true, 281), ((9, 123), 7, 5, false, 197), ((9, 142), 7, 6, false, 198), ((9, 153), 7, 7, false, 199), ((9, 164), 7, 8, false, 200), ((9, 169), 1, 4, true, 99), ((9, 173), 1, 5, true, 101), ((9, 182), 3, 3, true, 274), ((9, 185), 3, 13, true, 291), ((9, 191), 5, 7, true, 452), ((9, 194), 5, 8, true, 453), ((9, 197), 5, 9, true, 454), ((9, 200), 5, 10, true, 456), ((9, 203), 5, 11, true, 458), ((9, 206), 5, 12, true, 459), ((9, 213), 3, 12, true, 289), ((9, 216), 3, 11, true, 287), ((9, 219), 3, 9, true, 284), ((9, 222), 3, 5, true, 278), ((9, 225), 3, 14, true, 293), ((9, 244), 1, 6, true, 104), ((9, 247), 7, 9, false, 201), ((9, 250), 4, 2, true, 84), ((9, 253), 5, 6, true, 450), ((9, 260), 0, 2, true, 155), ((9, 282), 0, 8, true, 167), ((9, 288), 0, 5, true, 160), ((10, 7), 8, 0, false, 805), ((10, 13), 8, 1, false, 806), ((10, 17), 8, 2, false, 807), ((10, 20), 8, 3, false, 808), ((10, 23), 8, 4, false, 809), ((10, 26), 8, 5, false, 810), ((10, 29), 8, 6, false, 811), ((10, 32), 8, 7, false, 812), ((10, 35), 8, 8, false, 813), ((10, 38), 8, 9, false, 814), ((10, 41), 8, 10, false, 815), ((10, 44), 8, 11, false, 816), ((10, 47), 8, 12, false, 817), ((10, 50), 8, 13, false, 818), ((10, 53), 8, 14, false, 819), ((10, 56), 8, 15, false, 820), ((10, 59), 8, 16, false, 821), ((10, 62), 8, 17, false, 822), ((10, 65), 8, 18, false, 823), ((10, 68), 8, 19, false, 824), ((10, 71), 8, 23, false, 828), ((10, 74), 8, 24, false, 829), ((10, 77), 8, 25, false, 830), ((10, 80), 8, 26, false, 831), ((10, 83), 8, 27, false, 832), ((10, 86), 8, 28, false, 833), ((10, 90), 8, 30, false, 835), ((10, 93), 8, 31, false, 836), ((10, 96), 8, 32, false, 837), ((10, 99), 8, 33, false, 838), ((10, 102), 8, 34, false, 839), ((10, 105), 8, 35, false, 840), ((10, 108), 8, 36, false, 841), ((10, 111), 8, 37, false, 842), ((10, 114), 8, 38, false, 843), ((10, 117), 8, 39, false, 844), ((10, 120), 8, 41, false, 846), ((10, 123), 8, 46, false, 851), ((10, 127), 8, 47, false, 852), ((10, 130), 8, 48, false, 853), ((10, 133), 8, 50, false, 855), ((10, 136), 8, 51, false, 856), ((10, 139), 8, 53, false, 858), ((10, 142), 8, 54, false, 859), ((10, 145), 8, 55, false, 860), ((10, 166), 8, 29, false, 834), ((10, 169), 8, 21, false, 826), ((10, 176), 8, 22, false, 827), ((10, 183), 8, 49, false, 854), ((10, 209), 8, 52, false, 857), ((10, 212), 8, 56, false, 861), ((10, 288), 8, 42, false, 847), ((10, 291), 8, 44, false, 849), ((10, 294), 8, 45, false, 850), ((10, 297), 8, 43, false, 848), ((10, 303), 8, 20, false, 825), ((10, 312), 8, 40, false, 845)]
def jt_mL : List ((Nat × Nat) × Nat × Nat × Nat) := [((0, 10), 0, 160, 562), ((2, 3), 6, 0, 125), ((2, 19), 5, 57, 130), ((2, 40), 4, 26, 241), ((2, 47), 2, 58, 542), ((2, 59), 2, 60, 543), ((2, 63), 2, 17, 547), ((2, 69), 2, 59, 575), ((2, 73), 2, 31, 580), ((2, 77), 1, 103, 700), ((2, 81), 2, 15, 701), ((2, 85), 1, 102, 713), ((2, 89), 2, 32, 714), ((2, 93), 2, 30, 705), ((3, 3), 6, 0, 71), ((3, 26), 4, 45, 74), ((3, 37), 2, 48, 551), ((3, 41), 0, 0, 558), ((3, 46), 0, 1, 571), ((4, 3), 6, 0, 250), ((4, 18), 0, 25, 366), ((4, 29), 1, 103, 408), ((4, 33), 2, 59, 681), ((5, 3), 6, 0, 244), ((5, 11), 5, 19, 247), ((5, 20), 4, 45, 266), ((5, 53), 1, 102, 600), ((5, 57), 2, 63, 584), ((5, 66), 2, 48, 601), ((5, 70), 2, 62, 602), ((5, 76), 2, 33, 603), ((5, 80), 2, 34, 615), ((5, 84), 0, 3, 614), ((5, 89), 2, 29, 627), ((5, 93), 0, 6, 608), ((5, 96), 2, 35, 628), ((5, 100), 0, 4, 611), ((5, 103), 2, 39, 662), ((5, 107), 0, 8, 674), ((5, 110), 2, 64, 635), ((5, 114), 2, 40, 682), ((5, 117), 2, 41, 692), ((5, 121), 2, 61, 696), ((5, 127), 2, 43, 640), ((5, 131), 0, 7, 607), ((5, 134), 2, 58, 619), ((5, 138), 2, 27, 621), ((5, 141), 2, 59, 625), ((5, 144), 7, 0, 626), ((5, 149), 2, 28, 632), ((5, 153), 1, 101, 634), ((5, 157), 2, 36, 644), ((5, 161), 2, 44, 658), ((5, 174), 2, 37, 648), ((5, 177), 1, 103, 653), ((5, 181), 2, 38, 654), ((5, 188), 2, 42, 666), ((5, 192), 0, 5, 670), ((5, 195), 2, 24, 677), ((5, 199), 0, 25, 686), ((5, 206), 2, 65, 687), ((5, 210), 2, 22, 673), ((6, 1), 6, 0, 77), ((6, 7), 7, 0, 78), ((6, 23), 2, 49, 753), ((6, 31), 9, 0, 555), ((7, 3), 6, 0, 436), ((7, 18), 0, 7, 437), ((7, 25), 1, 101, 441), ((7, 52), 2, 58, 528), ((7, 58), 2, 59, 533), ((7, 62), 2, 55, 726), ((7, 71), 2, 52, 722), ((7, 75), 8, 0, 731), ((7, 88), 2, 61, 732), ((7, 92), 2, 62, 733), ((7, 98), 0, 56, 734), ((7, 102), 2, 65, 743), ((7, 106), 0, 3, 730), ((7, 109), 2, 64, 737), ((8, 3), 6, 0, 133), ((8, 29), 2, 60, 595), ((8, 34), 8, 0, 588), ((8, 40), 2, 62, 591), ((8, 43), 0, 3, 597), ((8, 48), 9, 0, 691), ((9, 1), 6, 0, 63), ((9, 9), 5, 16, 68), ((9, 18), 4, 9, 122), ((9, 45), 0, 93, 233), ((9, 49), 2, 11, 236), ((9, 56), 2, 10, 335), ((9, 60), 0, 94, 339), ((9, 69), 0, 102, 342), ((9, 73), 0, 103, 345), ((9, 77), 0, 95, 352), ((9, 80), 0, 96, 355), ((9, 83), 0, 97, 358), ((9, 90), 2, 20, 362), ((9, 96), 2, 21, 373), ((9, 99), 0, 99, 381), ((9, 102), 2, 28, 384), ((9, 105), 2, 29, 388), ((9, 112), 2, 22, 400), ((9, 116), 2, 23, 404), ((9, 120), 0, 98, 413), ((9, 126), 0, 100, 420), ((9, 130), 0, 101, 425), ((9, 133), 0, 2, 429), ((9, 139), 4, 50, 433), ((9, 145), 2, 92, 491), ((9, 150), 2, 88, 508), ((9, 156), 2, 91, 512), ((9, 160), 2, 89, 516), ((9, 176), 2, 47, 749), ((9, 188), 2, 46, 761), ((9, 209), 2, 27, 773), ((9, 228), 2, 18, 778), ((9, 234), 0, 0, 789), ((9, 240), 0, 1, 794), ((9, 256), 2, 90, 520), ((9, 264), 2, 51, 524), ((9, 268), 2, 12, 538), ((9, 272), 2, 13, 576), ((9, 275), 2, 14, 709), ((9, 278), 2, 53, 718), ((9, 285), 2, 52, 738), ((9, 291), 2, 54, 739), ((10, 1), 6, 0, 804), ((10, 148), 0, 105, 983), ((10, 161), 2, 107, 994), ((10, 172), 2, 108, 1023), ((10, 179), 0, 115, 1048), ((10, 186), 0, 109, 1035), ((10, 190), 0, 113, 1038), ((10, 193), 0, 110, 1073), ((10, 196), 0, 114, 1051), ((10, 199), 0, 116, 1045), ((10, 202), 0, 117, 1066), ((10, 205), 2, 120, 1069), ((10, 215), 2, 111, 1019), ((10, 219), 2, 118, 1031), ((10, 222), 2, 119, 1041), ((10, 225), 2, 112, 1054), ((10, 228), 2, 124, 1058), ((10, 232), 2, 123, 1062), ((10, 236), 2, 125, 1076), ((10, 239), 2, 121, 1080), ((10, 242), 2, 122, 1084), ((10, 245), 2, 127, 1088), ((10, 249), 2, 128, 1092), ((10, 253), 0, 131, 1012), ((10, 257), 2, 130, 1015), ((10, 261), 0, 132, 1024), ((10, 264), 2, 133, 1008), ((10, 268), 2, 126, 1027), ((10, 271), 2, 129, 1096), ((10, 274), 2, 135, 1100), ((10, 277), 2, 136, 1104), ((10, 280), 2, 134, 1108), ((10, 284), 2, 137, 1004), ((10, 300), 2, 138, 1000), ((10, 306), 2, 106, 1120), ((10, 309), 2, 142, 1128), ((10, 315), 0, 149, 1156), ((12, 9), 4, 66, 60), ((12, 12), 4, 104, 801), ((12, 13), 2, 67, 229), ((12, 17), 2, 140, 1112), ((12, 18), 2, 68, 331), ((12, 22), 2, 141, 1116), ((12, 23), 2, 69, 348), ((12, 27), 2, 143, 1124), ((12, 28), 2, 70, 369), ((12, 32), 2, 144, 1132), ((12, 33), 2, 71, 377), ((12, 36), 2, 145, 1136), ((12, 37), 2, 72, 392), ((12, 40), 2, 146, 1140), ((12, 41), 2, 73, 396), ((12, 45), 2, 147, 1144), ((12, 46), 2, 74, 409), ((12, 49), 2, 148, 1148), ((12, 50), 2, 75, 416), ((12, 54), 2, 150, 1152), ((12, 55), 2, 76, 487), ((12, 59), 2, 151, 1159), ((12, 60), 2, 77, 495), ((12, 64), 2, 152, 1163), ((12, 65), 2, 78, 499), ((12, 68), 2, 153, 1167), ((12, 69), 2, 79, 504), ((12, 73), 2, 139, 996), ((12, 76), 2, 80, 744), ((12, 80), 2, 154, 1172), ((12, 81), 2, 81, 757), ((12, 85), 2, 155, 1177), ((12, 86), 2, 82, 765), ((12, 89), 2, 156, 1181), ((12, 90), 2, 83, 769), ((12, 93), 2, 157, 1185), ((12, 94), 2, 84, 774), ((12, 97), 2, 158, 1189), ((12, 98), 2, 85, 784), ((12, 102), 2, 107, 978), ((12, 103), 2, 86, 790), ((12, 107), 2, 108, 990), ((12, 108), 2, 87, 795), ((12, 111), 2, 159, 1193)]
def jt_nL : List ((Nat × Nat) × Nat × Nat × Nat × Nat) := [((2, 17), 6, 128, 129, 49), ((2, 9), 3, 126, 240, 51), ((3, 24), 4, 72, 73, 46), ((5, 9), 2, 245, 246, 52), ((5, 18), 4, 265, 73, 46), ((9, 7), 1, 66, 67, 45), ((9, 16), 0, 120, 121, 48), ((9, 29), 5, 190, 432, 54), ((12, 7), 7, 58, 59, 44), ((12, 10), 8, 799, 800, 50)]
def jt_aL : List ((Nat × Nat) × Nat × Nat) := [((2, 9), 3, 126), ((9, 29), 4, 190)]
def jt_kL : List ((Nat × Nat) × Int32 × Nat) := [((0, 9), 65535, 561), ((0, 16), 65536, 568), ((3, 53), 65535, 782), ((3, 54), 65536, 783), ((5, 137), 65536, 620), ((5, 152), 590331, 633), ((5, 156), 3276800, 639), ((5, 187), 65535, 652), ((7, 24), 3276800, 440), ((7, 29), 851968, 442), ((7, 57), 65536, 532), ((8, 28), 65536, 537), ((8, 33), 65535, 596), ((9, 129), 3276800, 428), ((9, 149), 100000, 503), ((9, 233), 65536, 361), ((9, 294), 3277306, 423), ((9, 295), 4129279, 424), ((10, 152), 65535, 982), ((10, 165), 65536, 995), ((10, 319), 100000, 1171), ((11, 265), 1431655765, 565), ((11, 266), 858993459, 566), ((11, 267), 252645135, 567)]
def jt_lL : List ((Nat × Nat) × Int64 × Nat) := [((0, 17), 56, 569), ((0, 19), 7, 570), ((0, 21), 3, 574), ((9, 167), 1099511627775, 748), ((9, 231), -1, 788), ((10, 153), -1, 986), ((10, 155), 56, 987), ((10, 157), 7, 988), ((10, 159), 2, 989), ((10, 320), 1099511627776, 1176), ((12, 74), 4294967295, 1197)]
end
section
/-! MY MACHINE: a store of cells by sequential labels, one step (jN), runs with fuel (jE), the value of a run (jV) -/
/-- a cell: its kind and length; ints; longs; references -/
abbrev jC : Type := (Nat × Nat) × (Nat → Int32) × (Nat → Int64) × (Nat → Option Nat)
/-- the cells; the next label; how many slots were made -/
abbrev jH : Type := (Nat → jC) × Nat × Nat
abbrev jL : Type := List (Option Value)
def jk (h : jH) (a : Nat) : Nat × Nat := (h.1 a).1
def ji (h : jH) (a k : Nat) : Int32 := (h.1 a).2.1 k
def jj (h : jH) (a k : Nat) : Int64 := (h.1 a).2.2.1 k
def jp (h : jH) (a k : Nat) : Option Nat := (h.1 a).2.2.2 k
def jset (h : jH) (a : Nat) (c : jC) : jH := (fun b => if b = a then c else h.1 b, h.2)
def jci (h : jH) (a : Nat) (f : Nat → Int32) : jH := jset h a ((h.1 a).1, f, (h.1 a).2.2)
def jcj (h : jH) (a : Nat) (f : Nat → Int64) : jH := jset h a ((h.1 a).1, (h.1 a).2.1, f, (h.1 a).2.2.2)
def jcp (h : jH) (a : Nat) (f : Nat → Option Nat) : jH := jset h a ((h.1 a).1, (h.1 a).2.1, (h.1 a).2.2.1, f)
def jsi (h : jH) (a k : Nat) (v : Int32) : jH := jci h a (upd (ji h a) k v)
def jsj (h : jH) (a k : Nat) (v : Int64) : jH := jcj h a (vp_updL (jj h a) k v)
def jsp (h : jH) (a k : Nat) (v : Option Nat) : jH := jcp h a (va_up (jp h a) k v)
def jnew (h : jH) (k n z : Nat) : jH := (fun b => if b = h.2.1 then ((k, n), fun _ => 0, fun _ => 0, fun _ => none) else h.1 b, h.2.1 + 1, h.2.2 + z)
/-- the fields of a made class: declarer, name, descriptor, final; types; how many -/
def jtT : Nat → u_T := fun c => match c with
  | 0 => TX2 | 1 => TX3 | 2 => TX4 | 3 => TX5 | 4 => TX6 | 5 => TX7 | 6 => TX8 | 7 => TX9 | _ => TX10
def jty : Nat → Nat → FieldType := fun c => match c with
  | 0 => tyX2 | 1 => tyX3 | 2 => tyX4 | 3 => tyX5 | 4 => tyX6 | 5 => tyX7 | 6 => tyX8 | 7 => tyX9 | _ => tyX10
def jcR : Nat → String := fun c => match c with
  | 0 => RX2 | 1 => RX3 | 2 => RX4 | 3 => RX5 | 4 => RX6 | 5 => RX7 | 6 => RX8 | 7 => RX9 | _ => RX10
def jcN : Nat → Nat := fun c => match c with
  | 0 => 10 | 1 => 7 | 2 => 4 | 3 => 17 | 4 => 3 | 5 => 13 | 6 => 5 | 7 => 12 | _ => 57
def jfv (ty : FieldType) (c : jC) (k : Nat) : Value := match ty with
  | .long => .long (c.2.2.1 k)
  | .object _ => va_rf (c.2.2.2 k)
  | .array _ => va_rf (c.2.2.2 k)
  | _ => .int (c.2.1 k)
def jput (ty : FieldType) (h : jH) (a k : Nat) (v : Value) : Option jH := match ty with
  | .long => match v with
    | .long x => some (jsj h a k x)
    | _ => none
  | .object _ => match v with
    | .ref r => some (jsp h a k (some r))
    | .null => some (jsp h a k none)
    | _ => none
  | .array _ => match v with
    | .ref r => some (jsp h a k (some r))
    | .null => some (jsp h a k none)
    | _ => none
  | .boolean => match v with
    | .int x => if x = 0 ∨ x = 1 then some (jsi h a k x) else none
    | _ => none
  | .int => match v with
    | .int x => some (jsi h a k x)
    | _ => none
  | _ => none
/-- the arrays: their element types, by kind minus 20 -/
def jet : Nat → FieldType := fun t => match t with
  | 0 => .int | 1 => .long | 2 => .boolean | 3 => .object RX5 | _ => .object RX7
abbrev jR : Type := (Nat × jL × List Value × jH) ⊕ (Option Value × jH) ⊕ (Nat × jL × List Value)
abbrev jgo (pc : Nat) (ls : jL) (st : List Value) (h : jH) : Option jR := some (.inl (pc, ls, st, h))
def jlv (vs : List Value) (n : Nat) : jL :=
  (vs.flatMap fun v => if v.category = 2 then [some v, none] else [some v]) ++ List.replicate (n - (vs.flatMap fun v => if v.category = 2 then [some v, none] else [some v]).length) none
def jcl (y cal k : Nat) (st : List Value) : Option jR :=
  bif Nat.ble k st.length && (Nat.blt (jm_fr cal) (jm_fr y) && (Nat.ble ((st.take k).map fun v => v.category).sum (jm_max cal) && Nat.ble ((st.drop k).map fun v => v.category).sum 8)) then some (.inr (.inr (cal, jlv (st.take k).reverse (jm_max cal), st.drop k))) else none
/-- the class number of the receiver of an instance method -/
def jm_ci (y : Nat) : Nat := match jm_cn y with
  | 2 => 0 | 3 => 1 | 4 => 2 | 5 => 3 | 6 => 4 | 7 => 5 | 8 => 6 | 9 => 7 | 10 => 8 | _ => 99
def jlng : Option (Option Value) → Bool := fun o => match o with
  | some (some v) => v.category == 2
  | _ => false
/-- a store to a local: not over the second half of a long -/
def jst1 (ls : jL) (i : Nat) (v : Value) : Option jL := match i with
  | 0 => bif Nat.blt 0 ls.length then some (ls.set 0 (some v)) else none
  | j + 1 => bif Nat.blt (j + 1) ls.length && !jlng ls[j]? then some (ls.set (j + 1) (some v)) else none
def jst2 (ls : jL) (i : Nat) (v : Value) : Option jL := match i with
  | 0 => bif Nat.blt 1 ls.length then some ((ls.set 0 (some v)).set 1 none) else none
  | j + 1 => bif Nat.blt (j + 2) ls.length && !jlng ls[j]? then some ((ls.set (j + 1) (some v)).set (j + 2) none) else none
def jin (i : Int32) (n : Nat) : Bool := !(decide (i < 0) || decide (n ≤ i.toNatClampNeg))
/-- where a comparison goes -/
def jbr (c : ClassFile.Cond) (x y : Int32) (t f : Nat) : Nat := match c with
  | .eq => if x = y then t else f
  | .ne => if x = y then f else t
  | .lt => if x < y then t else f
  | .ge => if x < y then f else t
  | .gt => if y < x then t else f
  | .le => if y < x then f else t
def jtgt (pc : Nat) (off : Int) : Nat := ((pc : Int) + off).toNat
def jokt (pc : Nat) (off : Int) : Bool := decide (0 ≤ (pc : Int) + off)
def jld (ls : jL) (i : Nat) : Option Value := match ls[i]? with
  | some o => o
  | none => none
def jN_load (n : Nat) (ls : jL) (i pc : Nat) (st : List Value) (h : jH) (want : Value → Bool) : Option jR := match jld ls i with
  | some v => bif want v then jgo (pc + n) ls (v :: st) h else none
  | none => none
def j_isI : Value → Bool := fun v => match v with | .int _ => true | _ => false
def j_isJ : Value → Bool := fun v => match v with | .long _ => true | _ => false
def j_isA : Value → Bool := fun v => match v with | .ref _ => true | .null => true | _ => false
def jN_st1 (n : Nat) (ls : jL) (i pc : Nat) (st : List Value) (h : jH) (want : Value → Bool) : Option jR := match st with
  | v :: st => bif want v then match jst1 ls i v with
    | some ls' => jgo (pc + n) ls' st h
    | none => none else none
  | _ => none
def jN_st2 (n : Nat) (ls : jL) (i pc : Nat) (st : List Value) (h : jH) : Option jR := match st with
  | .long x :: st => match jst2 ls i (.long x) with
    | some ls' => jgo (pc + n) ls' st h
    | none => none
  | _ => none
def jN_i2 (f : Int32 → Int32 → Int32) (pc : Nat) (ls : jL) (st : List Value) (h : jH) : Option jR := match st with
  | .int b :: .int a :: st => jgo (pc + 1) ls (.int (f a b) :: st) h
  | _ => none
def jN_l2 (f : Int64 → Int64 → Int64) (pc : Nat) (ls : jL) (st : List Value) (h : jH) : Option jR := match st with
  | .long b :: .long a :: st => jgo (pc + 1) ls (.long (f a b) :: st) h
  | _ => none
def jN_li (f : Int64 → Int32 → Int64) (pc : Nat) (ls : jL) (st : List Value) (h : jH) : Option jR := match st with
  | .int b :: .long a :: st => jgo (pc + 1) ls (.long (f a b) :: st) h
  | _ => none
/-- an element of an array: the kinds that an instruction takes -/
def jN_ald (k : Nat) (pc : Nat) (ls : jL) (st : List Value) (h : jH) (val : jC → Nat → Value) : Option jR := match st with
  | .int i :: .ref a :: st => if (jk h a).1 = k ∧ jin i (jk h a).2 = true then jgo (pc + 1) ls (val (h.1 a) i.toNatClampNeg :: st) h else none
  | _ => none
def jN_ast (k : Nat) (pc : Nat) (ls : jL) (st : List Value) (h : jH) (put : Nat → Nat → Value → Option jH) : Option jR := match st with
  | v :: .int i :: .ref a :: st => if (jk h a).1 = k ∧ jin i (jk h a).2 = true then match put a i.toNatClampNeg v with
    | some h' => jgo (pc + 1) ls st h'
    | none => none else none
  | _ => none
def j_aval (c : jC) (j : Nat) : Value := va_rf (c.2.2.2 j)
def j_ival (c : jC) (j : Nat) : Value := .int (c.2.1 j)
def j_jval (c : jC) (j : Nat) : Value := .long (c.2.2.1 j)
/-- a reference into an array: null, or an object of the array's class -/
def jN_aast (pc : Nat) (ls : jL) (st : List Value) (h : jH) : Option jR := match st with
  | .ref r :: .int i :: .ref a :: st => if (jin i (jk h a).2 = true) ∧ ((jk h a).1 = 23 ∧ (jk h r).1 = 4 ∨ (jk h a).1 = 24 ∧ (jk h r).1 = 6) then jgo (pc + 1) ls st (jsp h a i.toNatClampNeg (some r)) else none
  | _ => none
def jN_copy (pc : Nat) (ls : jL) (st : List Value) (h : jH) : Option jR := match st with
  | .int n :: .int dp :: .ref b :: .int sp :: .ref a :: st =>
    bif Nat.ble (st.map fun v => v.category).sum 8 then (if ¬ sp < 0 ∧ ¬ dp < 0 ∧ ¬ n < 0 ∧ sp.toNatClampNeg + n.toNatClampNeg ≤ (jk h a).2 ∧ dp.toNatClampNeg + n.toNatClampNeg ≤ (jk h b).2 then
      if (jk h a).1 = 20 ∧ (jk h b).1 = 20 then jgo (pc + 3) ls st (jci h b (va_cpy (ji h a) (ji h b) sp.toNatClampNeg dp.toNatClampNeg n.toNatClampNeg))
      else if (jk h a).1 = 21 ∧ (jk h b).1 = 21 then jgo (pc + 3) ls st (jcj h b (va_cpy (jj h a) (jj h b) sp.toNatClampNeg dp.toNatClampNeg n.toNatClampNeg))
      else none
    else none) else none
  | _ => none
def jm_ini (y : Nat) : Bool := jm_inits.elem y
def jt_f (c i : Nat) : Option (Nat × Nat × Bool × Nat) := jt_fL.lookup (c, i)
def jt_m (c i : Nat) : Option (Nat × Nat × Nat) := jt_mL.lookup (c, i)
def jt_n (c i : Nat) : Option (Nat × Nat × Nat × Nat) := jt_nL.lookup (c, i)
def jt_a (c i : Nat) : Option (Nat × Nat) := jt_aL.lookup (c, i)
def jt_k (c i : Nat) : Option (Int32 × Nat) := jt_kL.lookup (c, i)
def jt_l (c i : Nat) : Option (Int64 × Nat) := jt_lL.lookup (c, i)
def jN_get (y i pc : Nat) (ls : jL) (st : List Value) (h : jH) : Option jR := match jt_f (jm_cn y) i with
  | some (c, k, _, _) => match st with
    | .ref a :: st => if (jk h a).1 = 1 + c then jgo (pc + 3) ls (jfv (jty c k) (h.1 a) k :: st) h else none
    | _ => none
  | none => none
def jN_put (y i pc : Nat) (ls : jL) (st : List Value) (h : jH) : Option jR := match jt_f (jm_cn y) i with
  | some (c, k, nest, _) => match st with
    | v :: .ref a :: st => bif !(jtT c k).2.2.2 || (jm_ini y && (jm_ci y == c && !nest)) then (if (jk h a).1 = 1 + c then match jput (jty c k) h a k v with
      | some h' => jgo (pc + 3) ls st h'
      | none => none else none) else none
    | _ => none
  | none => none
def jN_call (y i pc : Nat) (ls : jL) (st : List Value) (h : jH) (op : Nat) : Option jR := match jt_m (jm_cn y) i with
  | some (kind, cal, _) => match op, kind with
    | 0, 0 => jcl y cal (jm_na cal) st
    | 0, 1 => jcl y cal (jm_na cal) st
    | 0, 7 => match st with
      | .int b :: .int a :: st => bif Nat.ble 1 (jm_fr y) && Nat.ble (st.map fun v => v.category).sum 8 then jgo (pc + 3) ls (.int (if a < b then b else a) :: st) h else none
      | _ => none
    | 0, 8 => match st with
      | .int b :: .int a :: st => bif Nat.ble 1 (jm_fr y) && Nat.ble (st.map fun v => v.category).sum 8 then jgo (pc + 3) ls (.int (if b < a then b else a) :: st) h else none
      | _ => none
    | 0, 9 => bif Nat.ble 1 (jm_fr y) then jN_copy pc ls st h else none
    | 1, 2 => match st[jm_na cal]? with
      | some (.ref a) => if (jk h a).1 = 1 + jm_ci cal then jcl y cal (jm_na cal + 1) st else none
      | _ => none
    | 1, 3 => match st[jm_na cal]? with
      | some (.ref a) => if (jk h a).1 = 1 + jm_ci cal then jcl y cal (jm_na cal + 1) st else none
      | _ => none
    | 2, 4 => match st[jm_na cal]? with
      | some (.ref _) => jcl y cal (jm_na cal + 1) st
      | _ => none
    | 2, 5 => match st[jm_na cal]? with
      | some (.ref _) => jcl y cal (jm_na cal + 1) st
      | _ => none
    | 2, 6 => match st with
      | .ref _ :: st => bif Nat.ble 1 (jm_fr y) && Nat.ble (st.map fun v => v.category).sum 8 then jgo (pc + 3) ls st h else none
      | _ => none
    | _, _ => none
  | none => none
/-- one step -/
def jN (i : Instr) (y pc : Nat) (ls : jL) (st : List Value) (h : jH) : Option jR := match i with
  | .iconst n => jgo (pc + 1) ls (.int (Int32.ofInt n) :: st) h
  | .bipush n => jgo (pc + 2) ls (.int (Int8.ofInt n).toInt32 :: st) h
  | .sipush n => jgo (pc + 3) ls (.int (Int16.ofInt n).toInt32 :: st) h
  | .lconst n => jgo (pc + 1) ls (.long (Int64.ofNat (n : Nat)) :: st) h
  | .aconst_null => jgo (pc + 1) ls (.null :: st) h
  | .ldc k => match jt_k (jm_cn y) k with
    | some (v, _) => jgo (pc + 2) ls (.int v :: st) h
    | none => none
  | .ldc_w k => match jt_k (jm_cn y) k with
    | some (v, _) => jgo (pc + 3) ls (.int v :: st) h
    | none => none
  | .ldc2_w k => match jt_l (jm_cn y) k with
    | some (v, _) => jgo (pc + 3) ls (.long v :: st) h
    | none => none
  | .iload_n k => jN_load 1 ls k.val pc st h j_isI
  | .iload k => jN_load 2 ls k pc st h j_isI
  | .lload_n k => jN_load 1 ls k.val pc st h j_isJ
  | .lload k => jN_load 2 ls k pc st h j_isJ
  | .aload_n k => jN_load 1 ls k.val pc st h j_isA
  | .aload k => jN_load 2 ls k pc st h j_isA
  | .istore_n k => jN_st1 1 ls k.val pc st h j_isI
  | .istore k => jN_st1 2 ls k pc st h j_isI
  | .astore_n k => jN_st1 1 ls k.val pc st h j_isA
  | .astore k => jN_st1 2 ls k pc st h j_isA
  | .lstore_n k => jN_st2 1 ls k.val pc st h
  | .lstore k => jN_st2 2 ls k pc st h
  | .iinc k n => match jld ls k with
    | some (.int x) => match jst1 ls k (.int (x + Int32.ofInt n)) with
      | some ls' => jgo (pc + 3) ls' st h
      | none => none
    | _ => none
  | .iadd => jN_i2 (fun a b => a + b) pc ls st h
  | .isub => jN_i2 (fun a b => a - b) pc ls st h
  | .imul => jN_i2 (fun a b => a * b) pc ls st h
  | .iand => jN_i2 (fun a b => a &&& b) pc ls st h
  | .ior => jN_i2 (fun a b => a ||| b) pc ls st h
  | .ixor => jN_i2 (fun a b => a ^^^ b) pc ls st h
  | .ishl => jN_i2 (fun a b => a <<< (b &&& 31)) pc ls st h
  | .ishr => jN_i2 (fun a b => a >>> (b &&& 31)) pc ls st h
  | .iushr => jN_i2 (fun a b => (a.toUInt32 >>> (b.toUInt32 &&& Int32.toUInt32 31)).toInt32) pc ls st h
  | .idiv => match st with
    | .int b :: .int a :: st => if b = 0 then none else jgo (pc + 1) ls (.int (a / b) :: st) h
    | _ => none
  | .irem => match st with
    | .int b :: .int a :: st => if b = 0 then none else jgo (pc + 1) ls (.int (a - a / b * b) :: st) h
    | _ => none
  | .land => jN_l2 (fun a b => a &&& b) pc ls st h
  | .lor => jN_l2 (fun a b => a ||| b) pc ls st h
  | .lxor => jN_l2 (fun a b => a ^^^ b) pc ls st h
  | .lshl => jN_li (fun a b => a <<< (b.toInt64 &&& 63)) pc ls st h
  | .lshr => jN_li (fun a b => a >>> (b.toInt64 &&& 63)) pc ls st h
  | .lcmp => match st with
    | .long b :: .long a :: st => jgo (pc + 1) ls (.int (lg_cmp a b) :: st) h
    | _ => none
  | .i2l => match st with
    | .int a :: st => jgo (pc + 1) ls (.long a.toInt64 :: st) h
    | _ => none
  | .l2i => match st with
    | .long a :: st => jgo (pc + 1) ls (.int a.toInt32 :: st) h
    | _ => none
  | .dup => match st with
    | v :: st => bif v.category == 1 then jgo (pc + 1) ls (v :: v :: st) h else none
    | _ => none
  | .dup2 => match st with
    | v :: w :: st => bif v.category == 1 && w.category == 1 then jgo (pc + 1) ls (v :: w :: v :: w :: st) h else none
    | _ => none
  | .ifCond c off => match st with
    | .int x :: st => bif jokt pc off then jgo (jbr c x 0 (jtgt pc off) (pc + 3)) ls st h else none
    | _ => none
  | .if_icmp c off => match st with
    | .int b :: .int a :: st => bif jokt pc off then jgo (jbr c a b (jtgt pc off) (pc + 3)) ls st h else none
    | _ => none
  | .ifnull off => match st with
    | .null :: st => bif jokt pc off then jgo (jtgt pc off) ls st h else none
    | .ref _ :: st => jgo (pc + 3) ls st h
    | _ => none
  | .ifnonnull off => match st with
    | .ref _ :: st => bif jokt pc off then jgo (jtgt pc off) ls st h else none
    | .null :: st => jgo (pc + 3) ls st h
    | _ => none
  | .goto off => bif jokt pc off then jgo (jtgt pc off) ls st h else none
  | .tableswitch d lo hi offs => match st with
    | .int x :: st => if x.toInt < lo ∨ hi < x.toInt then (bif jokt pc d then jgo (jtgt pc d) ls st h else none) else match offs[(x.toInt - lo).toNat]? with
      | some off => bif jokt pc off then jgo (jtgt pc off) ls st h else none
      | none => none
    | _ => none
  | .getfield i => jN_get y i pc ls st h
  | .putfield i => jN_put y i pc ls st h
  | .iaload => jN_ald (bif jm_cn y == 12 then 30 else 20) pc ls st h j_ival
  | .laload => jN_ald 21 pc ls st h j_jval
  | .baload => jN_ald 22 pc ls st h j_ival
  | .aaload => jN_ald (bif jm_cn y == 2 then 23 else 24) pc ls st h j_aval
  | .iastore => jN_ast 20 pc ls st h (fun a j v => jput .int h a j v)
  | .lastore => jN_ast 21 pc ls st h (fun a j v => jput .long h a j v)
  | .bastore => jN_ast 22 pc ls st h (fun a j v => jput .boolean h a j v)
  | .aastore => jN_aast pc ls st h
  | .arraylength => match st with
    | .ref a :: st => if 20 ≤ (jk h a).1 ∧ (jk h a).1 ≤ 24 ∨ (jk h a).1 = 30 then jgo (pc + 1) ls (.int (nI (jk h a).2) :: st) h else none
    | _ => none
  | .newarray t => match st with
    | .int n :: st => if n < 0 ∨ 1000000 < n then none else match t with
      | .int => jgo (pc + 2) ls (.ref h.2.1 :: st) (jnew h 20 n.toNatClampNeg n.toNatClampNeg)
      | .long => jgo (pc + 2) ls (.ref h.2.1 :: st) (jnew h 21 n.toNatClampNeg n.toNatClampNeg)
      | .boolean => jgo (pc + 2) ls (.ref h.2.1 :: st) (jnew h 22 n.toNatClampNeg n.toNatClampNeg)
      | _ => none
    | _ => none
  | .anewarray i => match jt_a (jm_cn y) i with
    | some (t, _) => match st with
      | .int n :: st => if n < 0 ∨ 1000000 < n then none else jgo (pc + 3) ls (.ref h.2.1 :: st) (jnew h (20 + t) n.toNatClampNeg n.toNatClampNeg)
      | _ => none
    | none => none
  | .new i => match jt_n (jm_cn y) i with
    | some (c, _, _, _) => jgo (pc + 3) ls (.ref h.2.1 :: st) (jnew h (1 + c) 0 (jcN c))
    | none => none
  | .invokestatic i => jN_call y i pc ls st h 0
  | .invokevirtual i => jN_call y i pc ls st h 1
  | .invokespecial i => jN_call y i pc ls st h 2
  | .ireturn => match st with
    | .int x :: [] => match jm_ret y with
      | some .int => some (.inr (.inl (some (.int x), h)))
      | some .boolean => if x = 0 ∨ x = 1 then some (.inr (.inl (some (.int x), h))) else none
      | _ => none
    | _ => none
  | .lreturn => match st with
    | .long x :: [] => match jm_ret y with
      | some .long => some (.inr (.inl (some (.long x), h)))
      | _ => none
    | _ => none
  | .areturn => match st with
    | .ref a :: [] => match jm_ret y with
      | some (.object _) => some (.inr (.inl (some (.ref a), h)))
      | _ => none
    | .null :: [] => match jm_ret y with
      | some (.object _) => some (.inr (.inl (some .null, h)))
      | _ => none
    | _ => none
  | .return_ => match st with
    | [] => match jm_ret y with
      | none => some (.inr (.inl (none, h)))
      | _ => none
    | _ => none
  | _ => none
/-- an instruction has the length that it has -/
def jlk (i : Instr) (n : Nat) : Bool := match i with
  | .bipush _ => n == 2
  | .ldc _ => n == 2
  | .iload _ => n == 2
  | .lload _ => n == 2
  | .aload _ => n == 2
  | .istore _ => n == 2
  | .lstore _ => n == 2
  | .astore _ => n == 2
  | .newarray _ => n == 2
  | .sipush _ => n == 3
  | .ldc_w _ => n == 3
  | .ldc2_w _ => n == 3
  | .iinc _ _ => n == 3
  | .ifCond _ _ => n == 3
  | .if_icmp _ _ => n == 3
  | .ifnull _ => n == 3
  | .ifnonnull _ => n == 3
  | .goto _ => n == 3
  | .getfield _ => n == 3
  | .putfield _ => n == 3
  | .anewarray _ => n == 3
  | .new _ => n == 3
  | .invokestatic _ => n == 3
  | .invokevirtual _ => n == 3
  | .invokespecial _ => n == 3
  | .tableswitch _ _ _ _ => true
  | _ => n == 1
def jD (y pc : Nat) : Option Instr := match decode (jm_code y) pc with
  | .ok (i, n) => bif jlk i n then some i else none
  | _ => none
/-- runs -/
def jE : Nat → Nat → Nat → jL → List Value → jH → Option (Option Value × jH)
  | 0, _, _, _, _, _ => none
  | n + 1, y, pc, ls, st, h => match jD y pc with
    | some i => match jN i y pc ls st h with
      | some (.inl (pc', ls', st', h')) => jE n y pc' ls' st' h'
      | some (.inr (.inl x)) => some x
      | some (.inr (.inr (cal, lc, rest))) => (jE n cal 0 lc [] h).bind fun x => jE n y (pc + 3) ls (x.1.toList ++ rest) x.2
      | none => none
    | _ => none
theorem jE_mono1 : ∀ (n y pc : Nat) (ls : jL) (st : List Value) (h : jH) (x : Option Value × jH), jE n y pc ls st h = some x → jE (n + 1) y pc ls st h = some x
  | 0, y, pc, ls, st, h, x, e => by simp [jE] at e
  | n + 1, y, pc, ls, st, h, x, e => by
    rw [jE] at e ⊢
    split at e
    · next i hd =>
      split at e
      · exact jE_mono1 n _ _ _ _ _ _ e
      · exact e
      · next cal lc rest hN =>
        cases h1 : jE n cal 0 lc [] h with
        | none => rw [h1] at e; simp at e
        | some z =>
          rw [h1] at e
          rw [jE_mono1 n _ _ _ _ _ _ h1]
          simp only [Option.bind_some] at e ⊢
          exact jE_mono1 n _ _ _ _ _ _ e
      · simp at e
    · simp at e
theorem jE_mono {n m y pc : Nat} {ls : jL} {st : List Value} {h : jH} {x : Option Value × jH} (hn : n ≤ m) (e : jE n y pc ls st h = some x) : jE m y pc ls st h = some x := by
  induction hn with
  | refl => exact e
  | step _ ih => exact jE_mono1 _ _ _ _ _ _ _ ih
theorem jE_same {n m y pc : Nat} {ls : jL} {st : List Value} {h : jH} {x z : Option Value × jH} (e : jE n y pc ls st h = some x) (e2 : jE m y pc ls st h = some z) : x = z := by
  have h1 := jE_mono (Nat.le_max_left n m) e
  have h2 := jE_mono (Nat.le_max_right n m) e2
  exact Option.some.inj (h1.symm.trans h2)
/-- the value of a run, whatever the fuel -/
noncomputable def jV (y pc : Nat) (ls : jL) (st : List Value) (h : jH) : Option (Option Value × jH) :=
  @dite _ (∃ n x, jE n y pc ls st h = some x) (Classical.propDecidable _) (fun e => some (Classical.choose (Classical.choose_spec e))) (fun _ => none)
theorem jV_of {n y pc : Nat} {ls : jL} {st : List Value} {h : jH} {x : Option Value × jH} (e : jE n y pc ls st h = some x) : jV y pc ls st h = some x := by
  have hx : ∃ n x, jE n y pc ls st h = some x := ⟨n, x, e⟩
  unfold jV
  rw [dif_pos hx]
  exact congrArg some (jE_same (Classical.choose_spec (Classical.choose_spec hx)) e)
theorem jV_to {y pc : Nat} {ls : jL} {st : List Value} {h : jH} {x : Option Value × jH} (e : jV y pc ls st h = some x) : ∃ n, jE n y pc ls st h = some x := by
  unfold jV at e
  split at e
  · next hx =>
    have h1 := Classical.choose_spec (Classical.choose_spec hx)
    have h2 := Option.some.inj e
    exact ⟨_, by rw [← h2]; exact h1⟩
  · cases e
theorem jV_eq_of {y pc y' pc' : Nat} {ls ls' : jL} {st st' : List Value} {h h' : jH} (e : ∀ n, jE (n + 1) y pc ls st h = jE n y' pc' ls' st' h') : jV y pc ls st h = jV y' pc' ls' st' h' := by
  cases hv : jV y' pc' ls' st' h' with
  | some x =>
    obtain ⟨n, hn⟩ := jV_to hv
    exact jV_of (n := n + 1) ((e n).trans hn)
  | none =>
    cases hu : jV y pc ls st h with
    | none => rfl
    | some x =>
      obtain ⟨n, hn⟩ := jV_to hu
      have := jV_of ((e n).symm.trans (jE_mono1 _ _ _ _ _ _ _ hn))
      rw [hv] at this
      exact this.symm
theorem jV_go {y pc : Nat} {i : Instr} {ls : jL} {st : List Value} {h : jH} {pc' : Nat} {ls' : jL} {st' : List Value} {h' : jH} (d : jD y pc = some i) (e : jN i y pc ls st h = some (.inl (pc', ls', st', h'))) : jV y pc ls st h = jV y pc' ls' st' h' :=
  jV_eq_of fun n => by rw [jE, d]; simp only [e]
theorem jV_ret {y pc : Nat} {i : Instr} {ls : jL} {st : List Value} {h : jH} {x : Option Value × jH} (d : jD y pc = some i) (e : jN i y pc ls st h = some (.inr (.inl x))) : jV y pc ls st h = some x :=
  jV_of (n := 1) (by rw [jE, d]; simp only [e])
theorem jV_stuck {y pc : Nat} {i : Instr} {ls : jL} {st : List Value} {h : jH} (d : jD y pc = some i) (e : jN i y pc ls st h = none) : jV y pc ls st h = none := by
  cases hu : jV y pc ls st h with
  | none => rfl
  | some x =>
    obtain ⟨n, hn⟩ := jV_to hu
    have h1 := jE_mono1 _ _ _ _ _ _ _ hn
    rw [jE, d] at h1
    simp only [e] at h1
    cases h1
theorem jV_call {y pc : Nat} {i : Instr} {ls : jL} {st : List Value} {h : jH} {cal : Nat} {lc : jL} {rest : List Value} (d : jD y pc = some i) (e : jN i y pc ls st h = some (.inr (.inr (cal, lc, rest)))) :
    jV y pc ls st h = (jV cal 0 lc [] h).bind fun x => jV y (pc + 3) ls (x.1.toList ++ rest) x.2 := by
  have he : ∀ n, jE (n + 1) y pc ls st h = (jE n cal 0 lc [] h).bind fun x => jE n y (pc + 3) ls (x.1.toList ++ rest) x.2 := fun n => by rw [jE, d]; simp only [e]
  cases h1 : jV cal 0 lc [] h with
  | none =>
    show jV y pc ls st h = none
    cases hu : jV y pc ls st h with
    | none => rfl
    | some x =>
      obtain ⟨n, hn⟩ := jV_to hu
      have h2 := (he n).symm.trans (jE_mono1 _ _ _ _ _ _ _ hn)
      cases h3 : jE n cal 0 lc [] h with
      | none => rw [h3] at h2; cases h2
      | some z => rw [jV_of h3] at h1; cases h1
  | some z =>
    show jV y pc ls st h = jV y (pc + 3) ls (z.1.toList ++ rest) z.2
    obtain ⟨k, hk⟩ := jV_to h1
    cases hv : jV y (pc + 3) ls (z.1.toList ++ rest) z.2 with
    | some x =>
      obtain ⟨n, hn⟩ := jV_to hv
      refine jV_of (n := max k n + 1) ((he _).trans ?_)
      rw [jE_mono (Nat.le_max_left k n) hk]
      exact jE_mono (Nat.le_max_right k n) hn
    | none =>
      cases hu : jV y pc ls st h with
      | none => rfl
      | some x =>
        obtain ⟨n, hn⟩ := jV_to hu
        have h2 := (he n).symm.trans (jE_mono1 _ _ _ _ _ _ _ hn)
        cases h3 : jE n cal 0 lc [] h with
        | none => rw [h3] at h2; cases h2
        | some w =>
          have hw := jE_same h3 hk
          subst hw
          rw [h3] at h2
          have h4 := jV_of (show jE n y (pc + 3) ls (w.1.toList ++ rest) w.2 = some x from h2)
          rw [hv] at h4
          cases h4
end
section
/-! RULES: what the value of a run is at an instruction -/
section
variable {y pc : Nat} {ls : jL} {st : List Value} {h : jH}
theorem jV_ite {P : Prop} {D : Decidable P} {a b : Nat} : jV y (@ite _ P D a b) ls st h = @ite _ P D (jV y a ls st h) (jV y b ls st h) := by
  by_cases hp : P
  · rw [if_pos hp, if_pos hp]
  · rw [if_neg hp, if_neg hp]
theorem jV_if {P : Prop} {D : Decidable P} {i : Instr} {pc' : Nat} {ls' : jL} {st' : List Value} {h' : jH} (d : jD y pc = some i) (e : jN i y pc ls st h = @ite _ P D (jgo pc' ls' st' h') none) : jV y pc ls st h = @ite _ P D (jV y pc' ls' st' h') none := by
  by_cases hp : P
  · rw [if_pos hp] at e ⊢
    exact jV_go d e
  · rw [if_neg hp] at e ⊢
    exact jV_stuck d e
theorem jV_retif {P : Prop} {D : Decidable P} {i : Instr} {x : Option Value × jH} (d : jD y pc = some i) (e : jN i y pc ls st h = @ite _ P D (some (.inr (.inl x))) none) : jV y pc ls st h = @ite _ P D (some x) none := by
  by_cases hp : P
  · rw [if_pos hp] at e ⊢
    exact jV_ret d e
  · rw [if_neg hp] at e ⊢
    exact jV_stuck d e
theorem jV_callif {P : Prop} {D : Decidable P} {i : Instr} {cal : Nat} {lc : jL} {rest : List Value} (d : jD y pc = some i) (e : jN i y pc ls st h = @ite _ P D (some (.inr (.inr (cal, lc, rest)))) none) :
    jV y pc ls st h = @ite _ P D ((jV cal 0 lc [] h).bind fun x => jV y (pc + 3) ls (x.1.toList ++ rest) x.2) none := by
  by_cases hp : P
  · rw [if_pos hp] at e ⊢
    exact jV_call d e
  · rw [if_neg hp] at e ⊢
    exact jV_stuck d e
theorem jV_br {i : Instr} {t f : Nat} {c : ClassFile.Cond} {x z : Int32} {st' : List Value} (d : jD y pc = some i) (e : jN i y pc ls st h = jgo (jbr c x z t f) ls st' h) : jV y pc ls st h = jV y (jbr c x z t f) ls st' h := jV_go d e
variable {i c k q w cal kind : Nat} {b : Bool} {a : Nat}
theorem jV_get (d : jD y pc = some (.getfield i)) (hc : jm_cn y = w) (hf : jt_f w i = some (c, k, b, q)) : jV y pc ls (.ref a :: st) h = if (jk h a).1 = 1 + c then jV y (pc + 3) ls (jfv (jty c k) (h.1 a) k :: st) h else none :=
  jV_if d (by subst hc; show jN_get y i pc ls (.ref a :: st) h = _; unfold jN_get; rw [hf])
theorem jV_put {v : Value} {h' : jH} (d : jD y pc = some (.putfield i)) (hc : jm_cn y = w) (hf : jt_f w i = some (c, k, b, q)) (hi : (!(jtT c k).2.2.2 || (jm_ini y && (jm_ci y == c && !b))) = true) (hp : jput (jty c k) h a k v = some h') : jV y pc ls (v :: .ref a :: st) h = if (jk h a).1 = 1 + c then jV y (pc + 3) ls st h' else none :=
  jV_if d (by subst hc; show jN_put y i pc ls (v :: .ref a :: st) h = _; unfold jN_put; rw [hf]; simp only [hi, hp]; rfl)
theorem jV_putz {x : Int32} (d : jD y pc = some (.putfield i)) (hc : jm_cn y = w) (hf : jt_f w i = some (c, k, b, q)) (hi : (!(jtT c k).2.2.2 || (jm_ini y && (jm_ci y == c && !b))) = true) (hz : jty c k = .boolean) : jV y pc ls (.int x :: .ref a :: st) h = if (jk h a).1 = 1 + c ∧ (x = 0 ∨ x = 1) then jV y (pc + 3) ls st (jsi h a k x) else none :=
  jV_if d (by
    subst hc; show jN_put y i pc ls (.int x :: .ref a :: st) h = _; unfold jN_put; rw [hf]; simp only [hi, hz, jput, cond_true]
    by_cases h1 : (jk h a).1 = 1 + c
    · by_cases h2 : x = 0 ∨ x = 1
      · simp only [h1, h2, if_true, and_self]
      · simp only [h1, h2, if_true, if_false, and_false]
    · simp only [h1, if_false, false_and])
theorem jV_stat {lc : jL} {rest : List Value} (d : jD y pc = some (.invokestatic i)) (hc : jm_cn y = w) (hf : jt_m w i = some (kind, cal, q)) (hk : kind = 0 ∨ kind = 1) (e : jcl y cal (jm_na cal) st = some (.inr (.inr (cal, lc, rest)))) :
    jV y pc ls st h = (jV cal 0 lc [] h).bind fun x => jV y (pc + 3) ls (x.1.toList ++ rest) x.2 :=
  jV_call d (by subst hc; show jN_call y i pc ls st h 0 = _; unfold jN_call; rw [hf]; rcases hk with rfl | rfl <;> exact e)
theorem jV_virt {lc : jL} {rest : List Value} (d : jD y pc = some (.invokevirtual i)) (hc : jm_cn y = w) (hf : jt_m w i = some (kind, cal, q)) (hk : kind = 2 ∨ kind = 3) (ha : st[jm_na cal]? = some (.ref a)) (e : jcl y cal (jm_na cal + 1) st = some (.inr (.inr (cal, lc, rest)))) :
    jV y pc ls st h = if (jk h a).1 = 1 + jm_ci cal then ((jV cal 0 lc [] h).bind fun x => jV y (pc + 3) ls (x.1.toList ++ rest) x.2) else none :=
  jV_callif d (by subst hc; show jN_call y i pc ls st h 1 = _; unfold jN_call; rw [hf]; rcases hk with rfl | rfl <;> simp only [ha, e])
theorem jV_spec {lc : jL} {rest : List Value} (d : jD y pc = some (.invokespecial i)) (hc : jm_cn y = w) (hf : jt_m w i = some (kind, cal, q)) (hk : kind = 4 ∨ kind = 5) (ha : st[jm_na cal]? = some (.ref a)) (e : jcl y cal (jm_na cal + 1) st = some (.inr (.inr (cal, lc, rest)))) :
    jV y pc ls st h = (jV cal 0 lc [] h).bind fun x => jV y (pc + 3) ls (x.1.toList ++ rest) x.2 :=
  jV_call d (by subst hc; show jN_call y i pc ls st h 2 = _; unfold jN_call; rw [hf]; rcases hk with rfl | rfl <;> simp only [ha, e])
theorem jV_obj (d : jD y pc = some (.invokespecial i)) (hc : jm_cn y = w) (hf : jt_m w i = some (6, cal, q)) (hk : (Nat.ble 1 (jm_fr y) && Nat.ble (st.map fun v => v.category).sum 8) = true) : jV y pc ls (.ref a :: st) h = jV y (pc + 3) ls st h :=
  jV_go d (by subst hc; show jN_call y i pc ls (.ref a :: st) h 2 = _; unfold jN_call; rw [hf]; simp only [hk, cond_true])
theorem jV_max {x z : Int32} (d : jD y pc = some (.invokestatic i)) (hc : jm_cn y = w) (hf : jt_m w i = some (7, cal, q)) (hk : (Nat.ble 1 (jm_fr y) && Nat.ble (st.map fun v => v.category).sum 8) = true) : jV y pc ls (.int z :: .int x :: st) h = jV y (pc + 3) ls (.int (if x < z then z else x) :: st) h :=
  jV_go d (by subst hc; show jN_call y i pc ls (.int z :: .int x :: st) h 0 = _; unfold jN_call; rw [hf]; simp only [hk, cond_true])
theorem jV_min {x z : Int32} (d : jD y pc = some (.invokestatic i)) (hc : jm_cn y = w) (hf : jt_m w i = some (8, cal, q)) (hk : (Nat.ble 1 (jm_fr y) && Nat.ble (st.map fun v => v.category).sum 8) = true) : jV y pc ls (.int z :: .int x :: st) h = jV y (pc + 3) ls (.int (if z < x then z else x) :: st) h :=
  jV_go d (by subst hc; show jN_call y i pc ls (.int z :: .int x :: st) h 0 = _; unfold jN_call; rw [hf]; simp only [hk, cond_true])
theorem jV_copyi {m dp sp : Int32} {a2 : Nat} (d : jD y pc = some (.invokestatic i)) (hc : jm_cn y = w) (hf : jt_m w i = some (9, cal, q)) (hk : (Nat.ble 1 (jm_fr y) && Nat.ble (st.map fun v => v.category).sum 8) = true) (k1 : (jk h a).1 = 20) (k2 : (jk h a2).1 = 20) :
    jV y pc ls (.int m :: .int dp :: .ref a2 :: .int sp :: .ref a :: st) h = if ¬ sp < 0 ∧ ¬ dp < 0 ∧ ¬ m < 0 ∧ sp.toNatClampNeg + m.toNatClampNeg ≤ (jk h a).2 ∧ dp.toNatClampNeg + m.toNatClampNeg ≤ (jk h a2).2 then jV y (pc + 3) ls st (jci h a2 (va_cpy (ji h a) (ji h a2) sp.toNatClampNeg dp.toNatClampNeg m.toNatClampNeg)) else none :=
  jV_if d (by subst hc; simp only [Bool.and_eq_true] at hk; show jN_call y i pc ls (.int m :: .int dp :: .ref a2 :: .int sp :: .ref a :: st) h 0 = _; unfold jN_call; rw [hf]; simp only [hk, cond_true, jN_copy, k1, k2, and_self, if_true])
theorem jV_copyj {m dp sp : Int32} {a2 : Nat} (d : jD y pc = some (.invokestatic i)) (hc : jm_cn y = w) (hf : jt_m w i = some (9, cal, q)) (hk : (Nat.ble 1 (jm_fr y) && Nat.ble (st.map fun v => v.category).sum 8) = true) (k1 : (jk h a).1 = 21) (k2 : (jk h a2).1 = 21) :
    jV y pc ls (.int m :: .int dp :: .ref a2 :: .int sp :: .ref a :: st) h = if ¬ sp < 0 ∧ ¬ dp < 0 ∧ ¬ m < 0 ∧ sp.toNatClampNeg + m.toNatClampNeg ≤ (jk h a).2 ∧ dp.toNatClampNeg + m.toNatClampNeg ≤ (jk h a2).2 then jV y (pc + 3) ls st (jcj h a2 (va_cpy (jj h a) (jj h a2) sp.toNatClampNeg dp.toNatClampNeg m.toNatClampNeg)) else none :=
  jV_if d (by subst hc; simp only [Bool.and_eq_true] at hk; show jN_call y i pc ls (.int m :: .int dp :: .ref a2 :: .int sp :: .ref a :: st) h 0 = _; unfold jN_call; rw [hf]; simp only [hk, cond_true, jN_copy, k1, k2, and_self, if_true]; simp)
theorem jV_ldc {v : Int32} (d : jD y pc = some (.ldc i)) (hc : jm_cn y = w) (hf : jt_k w i = some (v, q)) : jV y pc ls st h = jV y (pc + 2) ls (.int v :: st) h :=
  jV_go d (by subst hc; simp only [jN, hf])
theorem jV_ldcw {v : Int32} (d : jD y pc = some (.ldc_w i)) (hc : jm_cn y = w) (hf : jt_k w i = some (v, q)) : jV y pc ls st h = jV y (pc + 3) ls (.int v :: st) h :=
  jV_go d (by subst hc; simp only [jN, hf])
theorem jV_ldc2 {v : Int64} (d : jD y pc = some (.ldc2_w i)) (hc : jm_cn y = w) (hf : jt_l w i = some (v, q)) : jV y pc ls st h = jV y (pc + 3) ls (.long v :: st) h :=
  jV_go d (by subst hc; simp only [jN, hf])
theorem jV_new {q1 q2 : Nat} (d : jD y pc = some (.new i)) (hc : jm_cn y = w) (hf : jt_n w i = some (c, q, q1, q2)) : jV y pc ls st h = jV y (pc + 3) ls (.ref h.2.1 :: st) (jnew h (1 + c) 0 (jcN c)) :=
  jV_go d (by subst hc; simp only [jN, hf])
theorem jV_anew {x : Int32} (d : jD y pc = some (.anewarray i)) (hc : jm_cn y = w) (hf : jt_a w i = some (c, q)) (hx : ¬ (x < 0 ∨ 1000000 < x)) : jV y pc ls (.int x :: st) h = jV y (pc + 3) ls (.ref h.2.1 :: st) (jnew h (20 + c) x.toNatClampNeg x.toNatClampNeg) :=
  jV_go d (by subst hc; simp only [jN, hf, hx, if_false])
theorem jV_newi {x : Int32} (d : jD y pc = some (.newarray .int)) (hx : ¬ (x < 0 ∨ 1000000 < x)) : jV y pc ls (.int x :: st) h = jV y (pc + 2) ls (.ref h.2.1 :: st) (jnew h 20 x.toNatClampNeg x.toNatClampNeg) :=
  jV_go d (by simp only [jN, hx, if_false])
theorem jV_newj {x : Int32} (d : jD y pc = some (.newarray .long)) (hx : ¬ (x < 0 ∨ 1000000 < x)) : jV y pc ls (.int x :: st) h = jV y (pc + 2) ls (.ref h.2.1 :: st) (jnew h 21 x.toNatClampNeg x.toNatClampNeg) :=
  jV_go d (by simp only [jN, hx, if_false])
theorem jV_newz {x : Int32} (d : jD y pc = some (.newarray .boolean)) (hx : ¬ (x < 0 ∨ 1000000 < x)) : jV y pc ls (.int x :: st) h = jV y (pc + 2) ls (.ref h.2.1 :: st) (jnew h 22 x.toNatClampNeg x.toNatClampNeg) :=
  jV_go d (by simp only [jN, hx, if_false])
theorem jV_bast {x j : Int32} (d : jD y pc = some .bastore) : jV y pc ls (.int x :: .int j :: .ref a :: st) h = if ((jk h a).1 = 22 ∧ jin j (jk h a).2 = true) ∧ (x = 0 ∨ x = 1) then jV y (pc + 1) ls st (jsi h a j.toNatClampNeg x) else none :=
  jV_if d (by
    show jN_ast 22 pc ls (.int x :: .int j :: .ref a :: st) h _ = _
    unfold jN_ast
    by_cases h1 : (jk h a).1 = 22 ∧ jin j (jk h a).2 = true
    · by_cases h2 : x = 0 ∨ x = 1
      · simp only [h1, h2, jput, if_true, and_self]
      · simp only [h1, h2, jput, if_true, if_false, and_self, and_false]
    · simp only [h1, if_false, false_and])
/-- a table switch -/
theorem jV_swd {x : Int32} {dd lo hi : Int} {offs : Array Int} (d : jD y pc = some (.tableswitch dd lo hi offs)) (hx : x.toInt < lo ∨ hi < x.toInt) (hj : jokt pc dd = true) : jV y pc ls (.int x :: st) h = jV y (jtgt pc dd) ls st h :=
  jV_go d (by simp only [jN, hx, if_true, hj, cond_true])
theorem jV_swi {x : Int32} {dd lo hi : Int} {offs : Array Int} {off : Int} (d : jD y pc = some (.tableswitch dd lo hi offs)) (hx : ¬ (x.toInt < lo ∨ hi < x.toInt)) (ho : offs[(x.toInt - lo).toNat]? = some off) (hj : jokt pc off = true) : jV y pc ls (.int x :: st) h = jV y (jtgt pc off) ls st h :=
  jV_go d (by simp only [jN, hx, if_false, ho, hj, cond_true])
end
/-! reading a changed store -/
theorem ji_ci (h : jH) (a : Nat) (f : Nat → Int32) (b k : Nat) : ji (jci h a f) b k = if b = a then f k else ji h b k := by
  unfold ji jci jset; by_cases e : b = a <;> simp [e]
theorem jj_ci (h : jH) (a : Nat) (f : Nat → Int32) (b k : Nat) : jj (jci h a f) b k = jj h b k := by
  unfold jj jci jset; by_cases e : b = a <;> simp [e]
theorem jp_ci (h : jH) (a : Nat) (f : Nat → Int32) (b k : Nat) : jp (jci h a f) b k = jp h b k := by
  unfold jp jci jset; by_cases e : b = a <;> simp [e]
theorem jk_ci (h : jH) (a : Nat) (f : Nat → Int32) (b : Nat) : jk (jci h a f) b = jk h b := by
  unfold jk jci jset; by_cases e : b = a <;> simp [e]
theorem ji_cj (h : jH) (a : Nat) (f : Nat → Int64) (b k : Nat) : ji (jcj h a f) b k = ji h b k := by
  unfold ji jcj jset; by_cases e : b = a <;> simp [e]
theorem jj_cj (h : jH) (a : Nat) (f : Nat → Int64) (b k : Nat) : jj (jcj h a f) b k = if b = a then f k else jj h b k := by
  unfold jj jcj jset; by_cases e : b = a <;> simp [e]
theorem jp_cj (h : jH) (a : Nat) (f : Nat → Int64) (b k : Nat) : jp (jcj h a f) b k = jp h b k := by
  unfold jp jcj jset; by_cases e : b = a <;> simp [e]
theorem jk_cj (h : jH) (a : Nat) (f : Nat → Int64) (b : Nat) : jk (jcj h a f) b = jk h b := by
  unfold jk jcj jset; by_cases e : b = a <;> simp [e]
theorem ji_cp (h : jH) (a : Nat) (f : Nat → Option Nat) (b k : Nat) : ji (jcp h a f) b k = ji h b k := by
  unfold ji jcp jset; by_cases e : b = a <;> simp [e]
theorem jj_cp (h : jH) (a : Nat) (f : Nat → Option Nat) (b k : Nat) : jj (jcp h a f) b k = jj h b k := by
  unfold jj jcp jset; by_cases e : b = a <;> simp [e]
theorem jp_cp (h : jH) (a : Nat) (f : Nat → Option Nat) (b k : Nat) : jp (jcp h a f) b k = if b = a then f k else jp h b k := by
  unfold jp jcp jset; by_cases e : b = a <;> simp [e]
theorem jk_cp (h : jH) (a : Nat) (f : Nat → Option Nat) (b : Nat) : jk (jcp h a f) b = jk h b := by
  unfold jk jcp jset; by_cases e : b = a <;> simp [e]
theorem ji_si (h : jH) (a k : Nat) (v : Int32) (b j : Nat) : ji (jsi h a k v) b j = if b = a ∧ j = k then v else ji h b j := by
  unfold jsi; rw [ji_ci]; unfold upd
  by_cases e : b = a
  · subst e; by_cases e2 : j = k <;> simp [e2]
  · simp [e]
theorem jj_si (h : jH) (a k : Nat) (v : Int32) (b j : Nat) : jj (jsi h a k v) b j = jj h b j := jj_ci ..
theorem jp_si (h : jH) (a k : Nat) (v : Int32) (b j : Nat) : jp (jsi h a k v) b j = jp h b j := jp_ci ..
theorem jk_si (h : jH) (a k : Nat) (v : Int32) (b : Nat) : jk (jsi h a k v) b = jk h b := jk_ci ..
theorem ji_sj (h : jH) (a k : Nat) (v : Int64) (b j : Nat) : ji (jsj h a k v) b j = ji h b j := ji_cj ..
theorem jj_sj (h : jH) (a k : Nat) (v : Int64) (b j : Nat) : jj (jsj h a k v) b j = if b = a ∧ j = k then v else jj h b j := by
  unfold jsj; rw [jj_cj]; unfold vp_updL
  by_cases e : b = a
  · subst e; by_cases e2 : j = k <;> simp [e2]
  · simp [e]
theorem jp_sj (h : jH) (a k : Nat) (v : Int64) (b j : Nat) : jp (jsj h a k v) b j = jp h b j := jp_cj ..
theorem jk_sj (h : jH) (a k : Nat) (v : Int64) (b : Nat) : jk (jsj h a k v) b = jk h b := jk_cj ..
theorem ji_sp (h : jH) (a k : Nat) (v : Option Nat) (b j : Nat) : ji (jsp h a k v) b j = ji h b j := ji_cp ..
theorem jj_sp (h : jH) (a k : Nat) (v : Option Nat) (b j : Nat) : jj (jsp h a k v) b j = jj h b j := jj_cp ..
theorem jp_sp (h : jH) (a k : Nat) (v : Option Nat) (b j : Nat) : jp (jsp h a k v) b j = if b = a ∧ j = k then v else jp h b j := by
  unfold jsp; rw [jp_cp]; unfold va_up
  by_cases e : b = a
  · subst e; by_cases e2 : j = k <;> simp [e2]
  · simp [e]
theorem jk_sp (h : jH) (a k : Nat) (v : Option Nat) (b : Nat) : jk (jsp h a k v) b = jk h b := jk_cp ..
theorem ji_new (h : jH) (k n z b j : Nat) : ji (jnew h k n z) b j = if b = h.2.1 then 0 else ji h b j := by
  unfold ji jnew; by_cases e : b = h.2.1 <;> simp [e]
theorem jj_new (h : jH) (k n z b j : Nat) : jj (jnew h k n z) b j = if b = h.2.1 then 0 else jj h b j := by
  unfold jj jnew; by_cases e : b = h.2.1 <;> simp [e]
theorem jp_new (h : jH) (k n z b j : Nat) : jp (jnew h k n z) b j = if b = h.2.1 then none else jp h b j := by
  unfold jp jnew; by_cases e : b = h.2.1 <;> simp [e]
theorem jk_new (h : jH) (k n z b : Nat) : jk (jnew h k n z) b = if b = h.2.1 then (k, n) else jk h b := by
  unfold jk jnew; by_cases e : b = h.2.1 <;> simp [e]
theorem jx_ci (h : jH) (a : Nat) (f : Nat → Int32) : (jci h a f).2 = h.2 := rfl
theorem jx_cj (h : jH) (a : Nat) (f : Nat → Int64) : (jcj h a f).2 = h.2 := rfl
theorem jx_cp (h : jH) (a : Nat) (f : Nat → Option Nat) : (jcp h a f).2 = h.2 := rfl
theorem jx_si (h : jH) (a k : Nat) (v : Int32) : (jsi h a k v).2 = h.2 := rfl
theorem jx_sj (h : jH) (a k : Nat) (v : Int64) : (jsj h a k v).2 = h.2 := rfl
theorem jx_sp (h : jH) (a k : Nat) (v : Option Nat) : (jsp h a k v).2 = h.2 := rfl
theorem jx_new (h : jH) (k n z : Nat) : (jnew h k n z).2 = (h.2.1 + 1, h.2.2 + z) := rfl
/-- two stores are one if they read alike -/
theorem jH_ext {g h : jH} (hk : ∀ a, jk g a = jk h a) (hi : ∀ a k, ji g a k = ji h a k) (hj : ∀ a k, jj g a k = jj h a k) (hp : ∀ a k, jp g a k = jp h a k) (hx : g.2 = h.2) : g = h := by
  obtain ⟨g1, g2⟩ := g
  obtain ⟨h1, h2⟩ := h
  simp only at hx
  subst hx
  refine Prod.ext (funext fun a => ?_) rfl
  exact Prod.ext (hk a) (Prod.ext (funext (hi a)) (Prod.ext (funext (hj a)) (funext (hp a))))
theorem jV_div {y pc : Nat} {ls : jL} {st : List Value} {h : jH} {i : Instr} {pc' : Nat} {ls' : jL} {st' : List Value} {h' : jH} {z : Int32} (d : jD y pc = some i) (e : jN i y pc ls st h = if z = 0 then none else jgo pc' ls' st' h') : jV y pc ls st h = if z = 0 then none else jV y pc' ls' st' h' := by
  by_cases hp : z = 0
  · rw [if_pos hp] at e ⊢
    exact jV_stuck d e
  · rw [if_neg hp] at e ⊢
    exact jV_go d e
theorem jlng_n : jlng (some none) = false := rfl
theorem jlng_i (x : Int32) : jlng (some (some (.int x))) = false := rfl
theorem jlng_r (x : Nat) : jlng (some (some (.ref x))) = false := rfl
theorem jlng_0 : jlng (some (some .null)) = false := rfl
theorem va_rf_s (a : Nat) : va_rf (some a) = .ref a := rfl
theorem va_rf_n : va_rf none = .null := rfl
end
section
/-! SIMULATION 1: labels and addresses; what a heap is to a store -/
def ja (ad : Nat → Nat) (v : Value) : Value := match v with
  | .ref a => .ref (ad a)
  | v => v
theorem ja_cat (ad : Nat → Nat) (v : Value) : (ja ad v).category = v.category := by cases v <;> rfl
theorem ja_rf (ad : Nat → Nat) (r : Option Nat) : ja ad (va_rf r) = va_rf (r.map ad) := by cases r <;> rfl
theorem ja_sum (ad : Nat → Nat) (st : List Value) : ((st.map (ja ad)).map fun v => v.category).sum = (st.map fun v => v.category).sum := by
  rw [List.map_map]
  congr 1
  exact List.map_congr_left fun v _ => ja_cat ad v
def jok (n : Nat) (v : Value) : Prop := match v with
  | .ref a => a < n
  | _ => True
theorem jok_rf {n : Nat} {r : Option Nat} (h : ∀ a, r = some a → a < n) : jok n (va_rf r) := by
  cases r with
  | none => trivial
  | some a => exact h a rfl
theorem jok_le {n m : Nat} (hn : n ≤ m) {v : Value} (h : jok n v) : jok m v := by
  cases v <;> first | trivial | exact Nat.lt_of_lt_of_le h hn
theorem ja_eq {n : Nat} {ad ad' : Nat → Nat} (h : ∀ a, a < n → ad' a = ad a) {v : Value} (hv : jok n v) : ja ad' v = ja ad v := by
  cases v <;> first | rfl | exact congrArg Value.ref (h _ hv)
theorem ja_eqs {n : Nat} {ad ad' : Nat → Nat} (h : ∀ a, a < n → ad' a = ad a) {st : List Value} (hv : ∀ v ∈ st, jok n v) : st.map (ja ad') = st.map (ja ad) :=
  List.map_congr_left fun v hm => ja_eq h (hv v hm)
/-- the locals, by their places -/
def jal (ad : Nat → Nat) (ls : jL) : List (Nat × Value) := ls.zipIdx.filterMap fun q => q.1.map fun v => (q.2, ja ad v)
theorem mem_jal {ad : Nat → Nat} {ls : jL} {i : Nat} {w : Value} : (i, w) ∈ jal ad ls ↔ ∃ v, ls[i]? = some (some v) ∧ w = ja ad v := by
  unfold jal
  constructor
  · intro h
    obtain ⟨⟨o, j⟩, h1, h2⟩ := List.mem_filterMap.mp h
    have h3 := List.mem_zipIdx_iff_getElem?.mp h1
    cases o with
    | none => simp at h2
    | some v =>
      simp only [Option.map_some, Option.some.injEq, Prod.mk.injEq] at h2
      obtain ⟨rfl, rfl⟩ := h2
      exact ⟨v, h3, rfl⟩
  · rintro ⟨v, h1, rfl⟩
    exact List.mem_filterMap.mpr ⟨(some v, i), List.mem_zipIdx_iff_getElem?.mpr h1, rfl⟩
theorem lv_sup {lr : Array Slot} {n : Nat} {l l' : List (Nat × Value)} (h : lv_has lr n l) (hs : ∀ q ∈ l', q ∈ l) : lv_has lr n l' := ⟨h.1, h.2.1, fun q hq => h.2.2 q (hs q hq)⟩
theorem jal_at {ad : Nat → Nat} {ls : jL} {lr : Array Slot} {n i : Nat} {v : Value} (h : lv_has lr n (jal ad ls)) (hv : jld ls i = some v) : lr[i]? = some (.val (ja ad v)) := by
  refine h.2.2 (i, ja ad v) (mem_jal.mpr ⟨v, ?_, rfl⟩)
  unfold jld at hv
  cases hi : ls[i]? with
  | none => rw [hi] at hv; cases hv
  | some o => rw [hi] at hv; exact congrArg some hv
theorem jld_mem {ls : jL} {i : Nat} {v : Value} (hv : jld ls i = some v) : some v ∈ ls := by
  unfold jld at hv
  cases hi : ls[i]? with
  | none => rw [hi] at hv; cases hv
  | some o => rw [hi] at hv; rw [← hv]; exact List.mem_of_getElem? hi
theorem jst1_spec {ls ls' : jL} {i : Nat} {v : Value} (h : jst1 ls i v = some ls') : i < ls.length ∧ ls' = ls.set i (some v) ∧ ∀ j w, j + 1 = i → ls[j]? = some (some w) → w.category ≠ 2 := by
  cases i with
  | zero =>
    replace h : (bif Nat.blt 0 ls.length then some (ls.set 0 (some v)) else none) = some ls' := h
    cases hb : Nat.blt 0 ls.length with
    | false => rw [hb] at h; cases h
    | true =>
      rw [hb] at h
      exact ⟨by have := Nat.le_of_ble_eq_true hb; omega, (Option.some.inj h).symm, fun j w e => absurd e (by omega)⟩
  | succ i =>
    replace h : (bif Nat.blt (i + 1) ls.length && !jlng ls[i]? then some (ls.set (i + 1) (some v)) else none) = some ls' := h
    cases hb : Nat.blt (i + 1) ls.length && !jlng ls[i]? with
    | false => rw [hb] at h; cases h
    | true =>
      rw [hb] at h
      rw [Bool.and_eq_true] at hb
      refine ⟨by have := Nat.le_of_ble_eq_true hb.1; omega, (Option.some.inj h).symm, fun j w e hw => ?_⟩
      have : j = i := by omega
      subst this
      rw [hw] at hb
      intro hc
      simp [jlng, hc] at hb
theorem jst2_spec {ls ls' : jL} {i : Nat} {v : Value} (h : jst2 ls i v = some ls') : i + 1 < ls.length ∧ ls' = (ls.set i (some v)).set (i + 1) none ∧ ∀ j w, j + 1 = i → ls[j]? = some (some w) → w.category ≠ 2 := by
  cases i with
  | zero =>
    replace h : (bif Nat.blt 1 ls.length then some ((ls.set 0 (some v)).set 1 none) else none) = some ls' := h
    cases hb : Nat.blt 1 ls.length with
    | false => rw [hb] at h; cases h
    | true =>
      rw [hb] at h
      exact ⟨by have := Nat.le_of_ble_eq_true hb; omega, (Option.some.inj h).symm, fun j w e => absurd e (by omega)⟩
  | succ i =>
    replace h : (bif Nat.blt (i + 2) ls.length && !jlng ls[i]? then some ((ls.set (i + 1) (some v)).set (i + 2) none) else none) = some ls' := h
    cases hb : Nat.blt (i + 2) ls.length && !jlng ls[i]? with
    | false => rw [hb] at h; cases h
    | true =>
      rw [hb] at h
      rw [Bool.and_eq_true] at hb
      refine ⟨by have := Nat.le_of_ble_eq_true hb.1; omega, (Option.some.inj h).symm, fun j w e hw => ?_⟩
      have : j = i := by omega
      subst this
      rw [hw] at hb
      intro hc
      simp [jlng, hc] at hb
theorem jal_st1 {ad : Nat → Nat} {ls ls' : jL} {i : Nat} {v : Value} (h : jst1 ls i v = some ls') : ∀ q ∈ jal ad ls', q ∈ (i, ja ad v) :: (jal ad ls).filter (fun q => !(q.1 == i) && !(q.1 + 1 == i && q.2.category == 2)) := by
  obtain ⟨hi, rfl, hc⟩ := jst1_spec h
  rintro ⟨j, w⟩ hq
  obtain ⟨u, hu, rfl⟩ := mem_jal.mp hq
  by_cases e : j = i
  · subst e
    rw [List.getElem?_set_self hi] at hu
    cases hu
    exact List.mem_cons_self
  · rw [List.getElem?_set_ne (fun q => e q.symm)] at hu
    refine List.mem_cons_of_mem _ (List.mem_filter.mpr ⟨mem_jal.mpr ⟨u, hu, rfl⟩, ?_⟩)
    have h2 : ¬ (j + 1 = i ∧ u.category = 2) := fun ⟨q1, q2⟩ => hc j u q1 hu q2
    simp only [ja_cat]
    by_cases e1 : j + 1 = i
    · have : ¬ u.category = 2 := fun q => h2 ⟨e1, q⟩
      simp [e, this]
    · simp [e, e1]
theorem jal_st2 {ad : Nat → Nat} {ls ls' : jL} {i : Nat} {v : Value} (h : jst2 ls i v = some ls') : ∀ q ∈ jal ad ls', q ∈ (i, ja ad v) :: (jal ad ls).filter (fun q => !(q.1 == i) && (!(q.1 == i + 1) && !(q.1 + 1 == i && q.2.category == 2))) := by
  obtain ⟨hi, rfl, hc⟩ := jst2_spec h
  rintro ⟨j, w⟩ hq
  obtain ⟨u, hu, rfl⟩ := mem_jal.mp hq
  by_cases e3 : j = i + 1
  · subst e3
    rw [List.getElem?_set_self (by simpa using hi)] at hu
    cases hu
  rw [List.getElem?_set_ne (fun q => e3 q.symm)] at hu
  by_cases e : j = i
  · subst e
    rw [List.getElem?_set_self (by omega)] at hu
    cases hu
    exact List.mem_cons_self
  · rw [List.getElem?_set_ne (fun q => e q.symm)] at hu
    refine List.mem_cons_of_mem _ (List.mem_filter.mpr ⟨mem_jal.mpr ⟨u, hu, rfl⟩, ?_⟩)
    have h2 : ¬ (j + 1 = i ∧ u.category = 2) := fun ⟨q1, q2⟩ => hc j u q1 hu q2
    simp only [ja_cat]
    by_cases e1 : j + 1 = i
    · have : ¬ u.category = 2 := fun q => h2 ⟨e1, q⟩
      simp [e, e3, this]
    · simp [e, e1, e3]
theorem jal_len1 {ls ls' : jL} {i : Nat} {v : Value} (h : jst1 ls i v = some ls') : ls'.length = ls.length := by
  obtain ⟨-, rfl, -⟩ := jst1_spec h
  simp
theorem jal_len2 {ls ls' : jL} {i : Nat} {v : Value} (h : jst2 ls i v = some ls') : ls'.length = ls.length := by
  obtain ⟨-, rfl, -⟩ := jst2_spec h
  simp
theorem jal_eq {n : Nat} {ad ad' : Nat → Nat} (h : ∀ a, a < n → ad' a = ad a) {ls : jL} (hv : ∀ v, some v ∈ ls → jok n v) : ∀ q ∈ jal ad' ls, q ∈ jal ad ls := by
  rintro ⟨j, w⟩ hq
  obtain ⟨u, hu, rfl⟩ := mem_jal.mp hq
  exact mem_jal.mpr ⟨u, hu, ja_eq h (hv u (List.mem_of_getElem? hu))⟩
theorem jwf_st1 {n : Nat} {ls ls' : jL} {i : Nat} {v : Value} (h : jst1 ls i v = some ls') (hv : jok n v) (hl : ∀ u, some u ∈ ls → jok n u) : ∀ u, some u ∈ ls' → jok n u := by
  obtain ⟨-, rfl, -⟩ := jst1_spec h
  intro u hu
  rcases List.mem_or_eq_of_mem_set hu with h1 | h1
  · exact hl u h1
  · rw [Option.some.inj h1]; exact hv
theorem jwf_st2 {n : Nat} {ls ls' : jL} {i : Nat} {v : Value} (h : jst2 ls i v = some ls') (hv : jok n v) (hl : ∀ u, some u ∈ ls → jok n u) : ∀ u, some u ∈ ls' → jok n u := by
  obtain ⟨-, rfl, -⟩ := jst2_spec h
  intro u hu
  rcases List.mem_or_eq_of_mem_set hu with h1 | h1
  · rcases List.mem_or_eq_of_mem_set h1 with h2 | h2
    · exact hl u h2
    · rw [Option.some.inj h2]; exact hv
  · cases h1
/-- what a heap is to a cell -/
def jcell (D : va_G) (cA : Nat → ClassId) (s : State) (A : Nat → Prop) (ad : Nat → Nat) (q : Nat) (c : jC) (H : Heap) : Prop :=
  (∀ k, k < 9 → c.1.1 = 1 + k → A q ∧ t_OB q (D.1 k) (jcN k) (D.2 k) H (fun j => ja ad (jfv (jty k j) c j))) ∧
  (∀ t, t < 5 → c.1.1 = 20 + t → A q ∧ H[q]? = some (arrV (cA t) c.1.2 (fun j => ja ad (jfv (jet t) c j)))) ∧
  (c.1.1 = 30 → ¬ A q ∧ q < s.heap.size ∧ va_X q c.1.2 c.2.1 s s.heap)
def jvk (k : Nat) : Prop := k ≤ 9 ∨ (20 ≤ k ∧ k ≤ 24) ∨ k = 30
def jRel (D : va_G) (cA : Nat → ClassId) (s : State) (A : Nat → Prop) (ad : Nat → Nat) (h : jH) (H : Heap) : Prop :=
  (∀ a, jcell D cA s A ad (ad a) (h.1 a) H) ∧ (∀ a b, (jk h a).1 ≠ 0 → (jk h b).1 ≠ 0 → ad a = ad b → a = b) ∧ (∀ a, h.2.1 ≤ a → (jk h a).1 = 0) ∧ (∀ a k r, jp h a k = some r → r < h.2.1) ∧ ∀ a, jvk (jk h a).1
def jtys (cA : Nat → ClassId) : List (ClassId × FieldType) := [(cA 0, jet 0), (cA 1, jet 1), (cA 2, jet 2), (cA 3, jet 3), (cA 4, jet 4)]
def jKn (D : va_G) (cA : Nat → ClassId) (s : State) : Prop := va_K D vwCl (jtys cA) s ∧ va_AO RX5 s ∧ va_AO RX7 s
theorem jKn.moved {D : va_G} {cA : Nat → ClassId} {u U : State} (hvm : u.vm.Alike U.vm) (h : jKn D cA u) : jKn D cA U := ⟨h.1.moved hvm, h.2.1.moved hvm, h.2.2.moved hvm⟩
theorem jKn.arr {D : va_G} {cA : Nat → ClassId} {s : State} (h : jKn D cA s) {t : Nat} (ht : t < 5) : ArrOfT s (cA t) (jet t) ∧ va_RA s (cA t) (jet t) := by
  refine h.1.2 t (cA t, jet t) ?_
  rcases t with _ | _ | _ | _ | _ | t <;> first | rfl | omega
theorem jKn.obj {D : va_G} {cA : Nat → ClassId} {s : State} (h : jKn D cA s) {k : Nat} (hk : k < 9) : u_Kn s (jcR k) (jtT k) (jcN k) (D.1 k) (D.2 k) := by
  refine h.1.1 k (jcR k, jtT k, jcN k) ?_
  rcases k with _ | _ | _ | _ | _ | _ | _ | _ | _ | k <;> first | rfl | omega
/-- the words that hold everywhere -/
def jw : List Cond := lw_tbl.filter goodWord
def jnest : Cond → Bool := fun w => match w with
  | .fieldLinkNest .. => true
  | .methodLinkNest .. => true
  | _ => false
def jwn : List Cond := lw_tbl.filter jnest
/-- where a method stands -/
def jX (p : Program) (R : Room) (s : State) (m : MethodId) (args : Array Value) (meth : Method) (c : Code) (y : Nat) : Prop :=
  p.tables.exec = Jvm.exec ∧ c.code = jm_code y ∧ meth.sig.returnType = jm_ret y ∧ c.maxLocals = jm_max y ∧ s.vm.findClass (jcn (jm_cn y)) = some m.cls ∧ (∀ w ∈ jw, w.before args s = true) ∧ (∀ w ∈ jwn, va_Nw w s) ∧ meth.locks = false ∧ (jm_ini y = true → meth.name = "<init>") ∧ jm_fr y ≤ R.frames ∧ 50 * jm_fr y ≤ R.locals
/-- what holds at each step of it -/
def jI (D : va_G) (cA : Nat → ClassId) (s : State) (A : Nat → Prop) (ad0 : Nat → Nat) (n0 s0 y : Nat) (ad : Nat → Nat) (h : jH) (ls : jL) (st : List Value) (H : Heap) (locs : List Loc) (lr : Array Slot) (cells slots : Nat) : Prop :=
  jRel D cA s A ad h H ∧ va_S A s.heap H locs ∧ lv_has lr (jm_max y) (jal ad ls) ∧ ls.length = jm_max y ∧ (∀ v ∈ st, jok h.2.1 v) ∧ (∀ v, some v ∈ ls → jok h.2.1 v) ∧ (∀ a, a < n0 → ad a = ad0 a) ∧ cells + n0 = h.2.1 ∧ slots + s0 = h.2.2
/-! the tables, checked -/
theorem jw_mem {i : Nat} {w : Cond} (h : lw_tbl[i]? = some w) (hg : goodWord w = true) : w ∈ jw := List.mem_filter.mpr ⟨List.mem_of_getElem? h, hg⟩
theorem jwn_mem {i : Nat} {w : Cond} (h : lw_tbl[i]? = some w) (hg : jnest w = true) : w ∈ jwn := List.mem_filter.mpr ⟨List.mem_of_getElem? h, hg⟩
theorem j_lookup {α : Type} {l : List ((Nat × Nat) × α)} {c i : Nat} {x : α} (h : l.lookup (c, i) = some x) : ((c, i), x) ∈ l := by
  induction l with
  | nil => cases h
  | cons a l ih =>
    obtain ⟨k, b⟩ := a
    rw [List.lookup_cons] at h
    by_cases e : (c, i) = k
    · subst e
      simp at h
      subst h
      exact List.mem_cons_self
    · have : ((c, i) == k) = false := by simpa using e
      rw [this] at h
      exact List.mem_cons_of_mem _ (ih h)
def jfw (e : (Nat × Nat) × Nat × Nat × Bool × Nat) : Cond := match e with
  | ((w, i), c, k, b, _) => bif b then .fieldLinkNest (jcn w) i (jcR c) (jtT c k).2.1 (jtT c k).2.2.1 RX9 else .fieldLink (jcn w) i (jcR c) (jtT c k).2.1 (jtT c k).2.2.1
theorem jt_f_ok0 : (jt_fL.all fun e => decide (lw_tbl[e.2.2.2.2]? = some (jfw e)) && (decide (e.2.1 < 9) && (decide (e.2.2.1 < jcN e.2.1) && (decide ((jtT e.2.1 e.2.2.1).1 = jcR e.2.1) && (bif e.2.2.2.1 then jnest (jfw e) else goodWord (jfw e)))))) = true := by decide +kernel
theorem jt_k_ok0 : (jt_kL.all fun e => decide (lw_tbl[e.2.2]? = some (.constant (jcn e.1.1) e.1.2 e.2.1)) && goodWord (.constant (jcn e.1.1) e.1.2 e.2.1)) = true := by decide +kernel
theorem jt_l_ok0 : (jt_lL.all fun e => decide (lw_tbl[e.2.2]? = some (.constantLong (jcn e.1.1) e.1.2 e.2.1)) && goodWord (.constantLong (jcn e.1.1) e.1.2 e.2.1)) = true := by decide +kernel
theorem jt_n_ok0 : (jt_nL.all fun e => (decide (lw_tbl[e.2.2.1]? = some (.classLink (jcn e.1.1) e.1.2 (jcR e.2.1))) && goodWord (.classLink (jcn e.1.1) e.1.2 (jcR e.2.1))) && ((decide (lw_tbl[e.2.2.2.1]? = some (.instantiable (jcR e.2.1) (jcN e.2.1))) && goodWord (.instantiable (jcR e.2.1) (jcN e.2.1))) && ((decide (lw_tbl[e.2.2.2.2]? = some (.initialized (jcR e.2.1))) && goodWord (.initialized (jcR e.2.1))) && decide (e.2.1 < 9)))) = true := by decide +kernel
def jaR : Nat → String := fun t => match t with | 3 => RX5 | _ => RX7
theorem jt_a_ok0 : (jt_aL.all fun e => (decide (lw_tbl[e.2.2]? = some (.classLink (jcn e.1.1) e.1.2 (jaR e.2.1))) && goodWord (.classLink (jcn e.1.1) e.1.2 (jaR e.2.1))) && (decide (e.2.1 = 3) || decide (e.2.1 = 4))) = true := by decide +kernel

theorem jt_f_ok {w i c k q : Nat} {b : Bool} (h : jt_f w i = some (c, k, b, q)) : (bif b then jfw ((w, i), c, k, b, q) ∈ jwn else jfw ((w, i), c, k, b, q) ∈ jw) ∧ c < 9 ∧ k < jcN c ∧ (jtT c k).1 = jcR c := by
  have h1 := List.all_eq_true.mp jt_f_ok0 _ (j_lookup h)
  simp only [Bool.and_eq_true, decide_eq_true_eq] at h1
  obtain ⟨h1, h2, h3, h4, h5⟩ := h1
  refine ⟨?_, h2, h3, h4⟩
  cases b with
  | true => exact jwn_mem h1 h5
  | false => exact jw_mem h1 h5
theorem jt_k_ok {w i q : Nat} {v : Int32} (h : jt_k w i = some (v, q)) : Cond.constant (jcn w) i v ∈ jw := by
  have h1 := List.all_eq_true.mp jt_k_ok0 _ (j_lookup h)
  simp only [Bool.and_eq_true, decide_eq_true_eq] at h1
  exact jw_mem h1.1 h1.2
theorem jt_l_ok {w i q : Nat} {v : Int64} (h : jt_l w i = some (v, q)) : Cond.constantLong (jcn w) i v ∈ jw := by
  have h1 := List.all_eq_true.mp jt_l_ok0 _ (j_lookup h)
  simp only [Bool.and_eq_true, decide_eq_true_eq] at h1
  exact jw_mem h1.1 h1.2
theorem jt_n_ok {w i c q1 q2 q3 : Nat} (h : jt_n w i = some (c, q1, q2, q3)) : Cond.classLink (jcn w) i (jcR c) ∈ jw ∧ Cond.instantiable (jcR c) (jcN c) ∈ jw ∧ Cond.initialized (jcR c) ∈ jw ∧ c < 9 := by
  have h1 := List.all_eq_true.mp jt_n_ok0 _ (j_lookup h)
  simp only [Bool.and_eq_true, decide_eq_true_eq] at h1
  exact ⟨jw_mem h1.1.1 h1.1.2, jw_mem h1.2.1.1 h1.2.1.2, jw_mem h1.2.2.1.1 h1.2.2.1.2, h1.2.2.2⟩
theorem jt_a_ok {w i t q : Nat} (h : jt_a w i = some (t, q)) : Cond.classLink (jcn w) i (jaR t) ∈ jw ∧ (t = 3 ∨ t = 4) := by
  have h1 := List.all_eq_true.mp jt_a_ok0 _ (j_lookup h)
  simp only [Bool.and_eq_true, Bool.or_eq_true, decide_eq_true_eq] at h1
  exact ⟨jw_mem h1.1.1 h1.1.2, h1.2⟩
theorem j_arrI : Cond.arrayClass .int ∈ jw := List.mem_filter.mpr ⟨by decide +kernel, rfl⟩
theorem j_arrJ : Cond.arrayClass .long ∈ jw := List.mem_filter.mpr ⟨by decide +kernel, rfl⟩
theorem j_arrZ : Cond.arrayClass .boolean ∈ jw := List.mem_filter.mpr ⟨by decide +kernel, rfl⟩
theorem j_lays0 : ((List.range 9).all fun c => (u_ws (jcR c) (jtT c) (jcN c)).all fun w => decide (w ∈ lw_tbl) && goodWord w) = true := by decide +kernel
theorem j_lays {k : Nat} (hk : k < 9) : ∀ w ∈ u_ws (jcR k) (jtT k) (jcN k), w ∈ jw := by
  intro w hw
  have h1 := List.all_eq_true.mp (List.all_eq_true.mp j_lays0 k (List.mem_range.mpr hk)) w hw
  simp only [Bool.and_eq_true, decide_eq_true_eq] at h1
  exact List.mem_filter.mpr h1
theorem j_tyok {c : Nat} (hc : c < 9) : ∀ k, k < jcN c → parseFieldDescriptor (jtT c k).2.2.1 = some (jty c k) := by
  rcases c with _ | _ | _ | _ | _ | _ | _ | _ | _ | c
  · exact tyX2_ok
  · exact tyX3_ok
  · exact tyX4_ok
  · exact tyX5_ok
  · exact tyX6_ok
  · exact tyX7_ok
  · exact tyX8_ok
  · exact tyX9_ok
  · exact tyX10_ok
  · omega
theorem j_nm {c : Nat} (hc : c < 9) : ∀ a, a < jcN c → ∀ b, b < jcN c → a ≠ b → (jtT c a).2.1 ≠ (jtT c b).2.1 := by
  rcases c with _ | _ | _ | _ | _ | _ | _ | _ | _ | c
  · exact nmX2
  · exact nmX3
  · exact nmX4
  · exact nmX5
  · exact nmX6
  · exact nmX7
  · exact nmX8
  · exact nmX9
  · exact nmX10
  · omega
theorem j_vw {c : Nat} (hc : c < 9) : vwCl[c]? = some (jcR c, jtT c, jcN c) := by
  rcases c with _ | _ | _ | _ | _ | _ | _ | _ | _ | c <;> first | rfl | omega
theorem j_d {y pc : Nat} {i : Instr} (d : jD y pc = some i) : ∃ n, decode (jm_code y) pc = .ok (i, n) ∧ jlk i n = true := by
  unfold jD at d
  split at d
  · next j n hd =>
    cases hb : jlk j n with
    | false => rw [hb] at d; cases d
    | true =>
      rw [hb] at d
      cases d
      exact ⟨n, hd, hb⟩
  · cases d
theorem j_tg {pc : Nat} {off : Int} (h : jokt pc off = true) : (pc : Int) + off = ((jtgt pc off : Nat) : Int) := by
  have h1 : 0 ≤ (pc : Int) + off := by simpa [jokt] using h
  unfold jtgt
  omega
theorem jin_vp {i : Int32} {n : Nat} (h : jin i n = true) : vp_in i n := by
  unfold jin at h
  unfold vp_in
  simpa using h
theorem jcell.kept {D : va_G} {cA : Nat → ClassId} {s : State} {A : Nat → Prop} {ad : Nat → Nat} {q : Nat} {c : jC} {H H1 : Heap} (h : jcell D cA s A ad q c H) (hq : H1[q]? = H[q]?) : jcell D cA s A ad q c H1 :=
  ⟨fun k hk e => ⟨(h.1 k hk e).1, (h.1 k hk e).2.kept hq⟩, fun t ht e => ⟨(h.2.1 t ht e).1, by rw [hq]; exact (h.2.1 t ht e).2⟩, h.2.2⟩
theorem jcell.zero {D : va_G} {cA : Nat → ClassId} {s : State} {A : Nat → Prop} {ad : Nat → Nat} {q : Nat} {c : jC} {H : Heap} (h : c.1.1 = 0) : jcell D cA s A ad q c H :=
  ⟨fun k _ e => by omega, fun t _ e => by omega, fun e => by omega⟩
theorem jcell.lt {D : va_G} {cA : Nat → ClassId} {s : State} {A : Nat → Prop} {ad : Nat → Nat} {q : Nat} {c : jC} {H : Heap} (h : jcell D cA s A ad q c H) (hs : s.heap.size ≤ H.size) (h0 : c.1.1 ≠ 0) (hv : jvk c.1.1) : q < H.size := by
  rcases hv with hv | hv | hv
  · obtain ⟨-, cell, hc, -⟩ := h.1 (c.1.1 - 1) (by omega) (by omega)
    exact (Array.getElem?_eq_some_iff.mp hc).1
  · have hc := (h.2.1 (c.1.1 - 20) (by omega) (by omega)).2
    exact (Array.getElem?_eq_some_iff.mp hc).1
  · exact Nat.lt_of_lt_of_le (h.2.2 hv).2.1 hs
theorem jcell.eq {D : va_G} {cA : Nat → ClassId} {s : State} {A : Nat → Prop} {ad ad' : Nat → Nat} {q n : Nat} {c : jC} {H : Heap} (h : jcell D cA s A ad q c H) (ha : ∀ a, a < n → ad' a = ad a) (hp : ∀ k r, c.2.2.2 k = some r → r < n) : jcell D cA s A ad' q c H := by
  have hv : ∀ (ty : FieldType) (j : Nat), ja ad' (jfv ty c j) = ja ad (jfv ty c j) := by
    intro ty j
    refine ja_eq ha ?_
    cases ty <;> first | trivial | exact jok_rf (fun a e => hp j a e)
  refine ⟨fun k hk e => ?_, fun t ht e => ?_, h.2.2⟩
  · obtain ⟨h1, h2⟩ := h.1 k hk e
    exact ⟨h1, h2.to fun j _ => (hv _ j).symm⟩
  · obtain ⟨h1, h2⟩ := h.2.1 t ht e
    refine ⟨h1, ?_⟩
    rw [h2]
    congr 2
    funext j
    exact (hv _ j).symm
/-- a cell is changed -/
theorem jRel.put {D : va_G} {cA : Nat → ClassId} {s : State} {A : Nat → Prop} {ad : Nat → Nat} {h : jH} {H H1 : Heap} (hR : jRel D cA s A ad h H) {a : Nat} {c' : jC} (hk : c'.1 = jk h a) (h0 : (jk h a).1 ≠ 0) (hc : jcell D cA s A ad (ad a) c' H1) (hq : ∀ q, q ≠ ad a → H1[q]? = H[q]?) (hp : ∀ k r, c'.2.2.2 k = some r → r < h.2.1) : jRel D cA s A ad (jset h a c') H1 := by
  obtain ⟨r1, r2, r3, r4, r5⟩ := hR
  have hkk : ∀ b, jk (jset h a c') b = jk h b := by
    intro b
    unfold jk jset
    by_cases e : b = a
    · subst e; simp only [if_true]; exact hk
    · simp only [e, if_false]
  refine ⟨fun b => ?_, fun b d hb hd e => r2 b d (by rw [← hkk]; exact hb) (by rw [← hkk]; exact hd) e, fun b hb => by rw [hkk]; exact r3 b hb, fun b k r hr => ?_, fun b => by rw [hkk]; exact r5 b⟩
  · by_cases e : b = a
    · subst e
      show jcell D cA s A ad (ad b) (if b = b then c' else h.1 b) H1
      rw [if_pos rfl]
      exact hc
    · show jcell D cA s A ad (ad b) (if b = a then c' else h.1 b) H1
      rw [if_neg e]
      by_cases z : (jk h b).1 = 0
      · exact jcell.zero z
      · exact (r1 b).kept (hq _ fun q => e (r2 b a z h0 q))
  · unfold jp jset at hr
    by_cases e : b = a
    · simp only [e, if_true] at hr; exact hp k r hr
    · simp only [e, if_false] at hr; exact r4 b k r hr
/-- a cell is made -/
theorem jRel.new {D : va_G} {cA : Nat → ClassId} {s : State} {A : Nat → Prop} {ad : Nat → Nat} {h : jH} {H H1 : Heap} (hR : jRel D cA s A ad h H) (hs : s.heap.size ≤ H.size) {k n z : Nat} (hv : jvk k) (hq : ∀ q, q < H.size → H1[q]? = H[q]?)
    (hc : ∀ ad' : Nat → Nat, jcell D cA s A ad' H.size ((k, n), fun _ => 0, fun _ => 0, fun _ => none) H1) :
    jRel D cA s A (fun b => if b = h.2.1 then H.size else ad b) (jnew h k n z) H1 := by
  obtain ⟨r1, r2, r3, r4, r5⟩ := hR
  have had : ∀ a, a < h.2.1 → (fun b => if b = h.2.1 then H.size else ad b) a = ad a := fun a ha => if_neg (Nat.ne_of_lt ha)
  have hlt : ∀ b, (jk h b).1 ≠ 0 → ad b < H.size := fun b hb => (r1 b).lt hs hb (r5 b)
  have hold : ∀ b, b ≠ h.2.1 → jk (jnew h k n z) b = jk h b := fun b hb => by rw [jk_new, if_neg hb]
  refine ⟨fun b => ?_, fun b d hb hd e => ?_, fun b hb => ?_, fun b j r hr => ?_, fun b => ?_⟩
  · by_cases e : b = h.2.1
    · subst e
      show jcell D cA s A _ (if h.2.1 = h.2.1 then H.size else ad h.2.1) (if h.2.1 = h.2.1 then _ else h.1 h.2.1) H1
      rw [if_pos rfl, if_pos rfl]
      exact hc _
    · show jcell D cA s A _ (if b = h.2.1 then H.size else ad b) (if b = h.2.1 then _ else h.1 b) H1
      rw [if_neg e, if_neg e]
      by_cases zz : (jk h b).1 = 0
      · exact jcell.zero zz
      · exact ((r1 b).eq had (fun j r hr => r4 b j r hr)).kept (hq _ (hlt b zz))
  · by_cases e1 : b = h.2.1
    · by_cases e2 : d = h.2.1
      · rw [e1, e2]
      · rw [hold d e2] at hd
        have h1 := hlt d hd
        simp only [e1, e2, if_true, if_false] at e
        omega
    · rw [hold b e1] at hb
      have h1 := hlt b hb
      by_cases e2 : d = h.2.1
      · simp only [e1, e2, if_true, if_false] at e
        omega
      · rw [hold d e2] at hd
        simp only [e1, e2, if_false] at e
        exact r2 b d hb hd e
  · have hb' : h.2.1 + 1 ≤ b := hb
    rw [hold b (by omega)]
    exact r3 b (by omega)
  · rw [jp_new] at hr
    show r < h.2.1 + 1
    by_cases e : b = h.2.1
    · rw [if_pos e] at hr; cases hr
    · rw [if_neg e] at hr
      have := r4 b j r hr
      omega
  · by_cases e : b = h.2.1
    · rw [jk_new, if_pos e]; exact hv
    · rw [hold b e]; exact r5 b
end
section
/-! SIMULATION 2: a step of my machine is a step of the machine -/
def jKK (p : Program) (l : Launch) (e : Env) (R : Room) (s : State) (m : MethodId) (args : Array Value) (below : List Frame) (meth : Method) (c : Code) (Q : State → Prop) (D : va_G) (cA : Nat → ClassId) (A : Nat → Prop) (ad0 : Nat → Nat) (n0 s0 y pc : Nat) (ls : jL) (st : List Value) (h : jH) : Prop :=
  ∀ (ad : Nat → Nat) (H : Heap) (locs : List Loc) (lr : Array Slot) (cells slots : Nat), jI D cA s A ad0 n0 s0 y ad h ls st H locs lr cells slots → W p l e R s m args below meth c H locs cells slots Q (F0 m pc lr (st.map (ja ad)))
section
variable {p : Program} {l : Launch} {e : Env} {R : Room} {s : State} {m : MethodId} {args : Array Value} {below : List Frame} {meth : Method} {c : Code} {Q : State → Prop} {D : va_G} {cA : Nat → ClassId} {A : Nat → Prop} {ad0 : Nat → Nat} {n0 s0 y : Nat}
variable {pc : Nat} {ls : jL} {st : List Value} {h : jH} {pc' : Nat} {ls' : jL} {st' : List Value} {h' : jH}
theorem jI.stk {ad : Nat → Nat} {H : Heap} {locs : List Loc} {lr : Array Slot} {cells slots : Nat} (I : jI D cA s A ad0 n0 s0 y ad h ls st H locs lr cells slots) (hs : ∀ v ∈ st', jok h.2.1 v) : jI D cA s A ad0 n0 s0 y ad h ls st' H locs lr cells slots :=
  ⟨I.1, I.2.1, I.2.2.1, I.2.2.2.1, hs, I.2.2.2.2.2⟩
theorem jI.okc {ad : Nat → Nat} {H : Heap} {locs : List Loc} {lr : Array Slot} {cells slots : Nat} {v : Value} (I : jI D cA s A ad0 n0 s0 y ad h ls (v :: st) H locs lr cells slots) : jok h.2.1 v ∧ ∀ u ∈ st, jok h.2.1 u :=
  ⟨I.2.2.2.2.1 v List.mem_cons_self, fun u hu => I.2.2.2.2.1 u (List.mem_cons_of_mem _ hu)⟩
theorem j_ok1 {n : Nat} {v : Value} {st : List Value} (hv : jok n v) (h : ∀ u ∈ st, jok n u) : ∀ u ∈ v :: st, jok n u := List.forall_mem_cons.mpr ⟨hv, h⟩
/-- something pushed -/
theorem jp_push {v : Value} {k : Nat} (hv : ∀ ad : Nat → Nat, ja ad v = v) (hj : ∀ n, jok n v)
    (row : ∀ (H : Heap) (locs : List Loc) (lr : Array Slot) (cells slots : Nat) (rest : List Value), W p l e R s m args below meth c H locs cells slots Q (F0 m (pc + k) lr (v :: rest)) → W p l e R s m args below meth c H locs cells slots Q (F0 m pc lr rest))
    (kk : jKK p l e R s m args below meth c Q D cA A ad0 n0 s0 y (pc + k) ls (v :: st) h) : jKK p l e R s m args below meth c Q D cA A ad0 n0 s0 y pc ls st h := by
  intro ad H locs lr cells slots I
  refine row _ _ _ _ _ _ ?_
  have h1 := kk ad H locs lr cells slots (I.stk (j_ok1 (hj _) I.2.2.2.2.1))
  rwa [List.map_cons, hv] at h1
theorem jp_i2 {f : Int32 → Int32 → Int32}
    (row : ∀ (H : Heap) (locs : List Loc) (lr : Array Slot) (cells slots : Nat) (rest : List Value) (x z : Int32), W p l e R s m args below meth c H locs cells slots Q (F0 m (pc + 1) lr (.int (f x z) :: rest)) → W p l e R s m args below meth c H locs cells slots Q (F0 m pc lr (.int z :: .int x :: rest)))
    (eN : jN_i2 f pc ls st h = some (.inl (pc', ls', st', h'))) (kk : jKK p l e R s m args below meth c Q D cA A ad0 n0 s0 y pc' ls' st' h') : jKK p l e R s m args below meth c Q D cA A ad0 n0 s0 y pc ls st h := by
  unfold jN_i2 at eN
  split at eN
  · cases eN
    intro ad H locs lr cells slots I
    exact row _ _ _ _ _ _ _ _ (kk ad H locs lr cells slots (I.stk (j_ok1 trivial (fun u hu => I.okc.2 u (List.mem_cons_of_mem _ hu)))))
  · cases eN
theorem jp_l2 {f : Int64 → Int64 → Int64}
    (row : ∀ (H : Heap) (locs : List Loc) (lr : Array Slot) (cells slots : Nat) (rest : List Value) (x z : Int64), W p l e R s m args below meth c H locs cells slots Q (F0 m (pc + 1) lr (.long (f x z) :: rest)) → W p l e R s m args below meth c H locs cells slots Q (F0 m pc lr (.long z :: .long x :: rest)))
    (eN : jN_l2 f pc ls st h = some (.inl (pc', ls', st', h'))) (kk : jKK p l e R s m args below meth c Q D cA A ad0 n0 s0 y pc' ls' st' h') : jKK p l e R s m args below meth c Q D cA A ad0 n0 s0 y pc ls st h := by
  unfold jN_l2 at eN
  split at eN
  · cases eN
    intro ad H locs lr cells slots I
    exact row _ _ _ _ _ _ _ _ (kk ad H locs lr cells slots (I.stk (j_ok1 trivial (fun u hu => I.okc.2 u (List.mem_cons_of_mem _ hu)))))
  · cases eN
theorem jp_li {f : Int64 → Int32 → Int64}
    (row : ∀ (H : Heap) (locs : List Loc) (lr : Array Slot) (cells slots : Nat) (rest : List Value) (x : Int64) (z : Int32), W p l e R s m args below meth c H locs cells slots Q (F0 m (pc + 1) lr (.long (f x z) :: rest)) → W p l e R s m args below meth c H locs cells slots Q (F0 m pc lr (.int z :: .long x :: rest)))
    (eN : jN_li f pc ls st h = some (.inl (pc', ls', st', h'))) (kk : jKK p l e R s m args below meth c Q D cA A ad0 n0 s0 y pc' ls' st' h') : jKK p l e R s m args below meth c Q D cA A ad0 n0 s0 y pc ls st h := by
  unfold jN_li at eN
  split at eN
  · cases eN
    intro ad H locs lr cells slots I
    exact row _ _ _ _ _ _ _ _ (kk ad H locs lr cells slots (I.stk (j_ok1 trivial (fun u hu => I.okc.2 u (List.mem_cons_of_mem _ hu)))))
  · cases eN

theorem jp_load {k i : Nat} {want : Value → Bool}
    (row : ∀ (H : Heap) (locs : List Loc) (lr : Array Slot) (cells slots : Nat) (rest : List Value) (ad : Nat → Nat) (v : Value), want v = true → lr[i]? = some (.val (ja ad v)) → W p l e R s m args below meth c H locs cells slots Q (F0 m (pc + k) lr (ja ad v :: rest)) → W p l e R s m args below meth c H locs cells slots Q (F0 m pc lr rest))
    (eN : jN_load k ls i pc st h want = some (.inl (pc', ls', st', h'))) (kk : jKK p l e R s m args below meth c Q D cA A ad0 n0 s0 y pc' ls' st' h') : jKK p l e R s m args below meth c Q D cA A ad0 n0 s0 y pc ls st h := by
  unfold jN_load at eN
  split at eN
  · next v hv =>
    cases hw : want v with
    | false => rw [hw] at eN; cases eN
    | true =>
      rw [hw] at eN
      cases eN
      intro ad H locs lr cells slots I
      exact row _ _ _ _ _ _ ad v hw (jal_at I.2.2.1 hv) (kk ad H locs lr cells slots (I.stk (j_ok1 (I.2.2.2.2.2.1 v (jld_mem hv)) I.2.2.2.2.1)))
  · cases eN
theorem jp_st1 {k i : Nat} {want : Value → Bool} (hw1 : ∀ v, want v = true → v.category = 1)
    (row : ∀ (H : Heap) (locs : List Loc) (lr : Array Slot) (cells slots : Nat) (rest : List Value) (ad : Nat → Nat) (v : Value) (lv lv' : List (Nat × Value)), want v = true → lv_has lr (jm_max y) lv → i < jm_max y → (i, ja ad v) :: lv.filter (fun q => !(q.1 == i) && !(q.1 + 1 == i && q.2.category == 2)) = lv' → (∀ lr' : Array Slot, lv_has lr' (jm_max y) lv' → W p l e R s m args below meth c H locs cells slots Q (F0 m (pc + k) lr' rest)) → W p l e R s m args below meth c H locs cells slots Q (F0 m pc lr (ja ad v :: rest)))
    (eN : jN_st1 k ls i pc st h want = some (.inl (pc', ls', st', h'))) (kk : jKK p l e R s m args below meth c Q D cA A ad0 n0 s0 y pc' ls' st' h') : jKK p l e R s m args below meth c Q D cA A ad0 n0 s0 y pc ls st h := by
  unfold jN_st1 at eN
  split at eN
  · next v st0 =>
    cases hw : want v with
    | false => rw [hw] at eN; cases eN
    | true =>
      rw [hw] at eN
      simp only [cond_true] at eN
      split at eN
      · next ls1 hl1 =>
        cases eN
        intro ad H locs lr cells slots I
        have hi := (jst1_spec hl1).1
        refine row _ _ _ _ _ _ ad v _ _ hw I.2.2.1 (by rw [← I.2.2.2.1]; exact hi) rfl fun lr' hlr => ?_
        exact kk ad H locs lr' cells slots ⟨I.1, I.2.1, lv_sup hlr (jal_st1 hl1), by rw [jal_len1 hl1]; exact I.2.2.2.1, I.okc.2, jwf_st1 hl1 I.okc.1 I.2.2.2.2.2.1, I.2.2.2.2.2.2⟩
      · cases eN
  · cases eN
theorem jp_st2 {k i : Nat}
    (row : ∀ (H : Heap) (locs : List Loc) (lr : Array Slot) (cells slots : Nat) (rest : List Value) (x : Int64) (lv lv' : List (Nat × Value)), lv_has lr (jm_max y) lv → i + 1 < jm_max y → (i, Value.long x) :: lv.filter (fun q => !(q.1 == i) && (!(q.1 == i + 1) && !(q.1 + 1 == i && q.2.category == 2))) = lv' → (∀ lr' : Array Slot, lv_has lr' (jm_max y) lv' → W p l e R s m args below meth c H locs cells slots Q (F0 m (pc + k) lr' rest)) → W p l e R s m args below meth c H locs cells slots Q (F0 m pc lr (.long x :: rest)))
    (eN : jN_st2 k ls i pc st h = some (.inl (pc', ls', st', h'))) (kk : jKK p l e R s m args below meth c Q D cA A ad0 n0 s0 y pc' ls' st' h') : jKK p l e R s m args below meth c Q D cA A ad0 n0 s0 y pc ls st h := by
  unfold jN_st2 at eN
  split at eN
  · next x st0 =>
    split at eN
    · next ls1 hl1 =>
      cases eN
      intro ad H locs lr cells slots I
      have hi := (jst2_spec hl1).1
      refine row _ _ _ _ _ _ x _ _ I.2.2.1 (by rw [← I.2.2.2.1]; exact hi) rfl fun lr' hlr => ?_
      exact kk ad H locs lr' cells slots ⟨I.1, I.2.1, lv_sup hlr (jal_st2 hl1), by rw [jal_len2 hl1]; exact I.2.2.2.1, I.okc.2, jwf_st2 hl1 I.okc.1 I.2.2.2.2.2.1, I.2.2.2.2.2.2⟩
    · cases eN
  · cases eN
theorem jal_idx {ad : Nat → Nat} {v : Value} {i : Nat} (hv : jld ls i = some v) : ∃ k : Nat, (jal ad ls)[k]? = some (i, ja ad v) := by
  have h1 : (i, ja ad v) ∈ jal ad ls := by
    refine mem_jal.mpr ⟨v, ?_, rfl⟩
    unfold jld at hv
    cases hi : ls[i]? with
    | none => rw [hi] at hv; cases hv
    | some o => rw [hi] at hv; exact congrArg some hv
  exact List.getElem?_of_mem h1
theorem jp_inc {i : Nat} {n : Int} {x : Int32} (hx : p.tables.exec = Jvm.exec) (hb : c.code = jm_code y) (dd : decode (jm_code y) pc = .ok (.iinc i n, 3)) (hv : jld ls i = some (.int x)) (hl1 : jst1 ls i (.int (x + Int32.ofInt n)) = some ls') (kk : jKK p l e R s m args below meth c Q D cA A ad0 n0 s0 y (pc + 3) ls' st h) : jKK p l e R s m args below meth c Q D cA A ad0 n0 s0 y pc ls st h := by
  intro ad H locs lr cells slots I
  obtain ⟨k, hk⟩ := jal_idx (ad := ad) hv
  have hi := (jst1_spec hl1).1
  refine lv_iinc hx hb dd I.2.2.1 hk rfl (by rw [← I.2.2.2.1]; exact hi) rfl fun lr' hlr => ?_
  exact kk ad H locs lr' cells slots ⟨I.1, I.2.1, lv_sup hlr (jal_st1 (v := .int (x + Int32.ofInt n)) hl1), by rw [jal_len1 hl1]; exact I.2.2.2.1, I.2.2.2.2.1, jwf_st1 hl1 trivial I.2.2.2.2.2.1, I.2.2.2.2.2.2⟩
/-- a comparison of two ints -/
theorem jp_icmp {cd : ClassFile.Cond} {off : Int} {x z : Int32} (hx : p.tables.exec = Jvm.exec) (hb : c.code = jm_code y) (dd : decode (jm_code y) pc = .ok (.if_icmp cd off, 3)) (hj : jokt pc off = true) (kk : jKK p l e R s m args below meth c Q D cA A ad0 n0 s0 y (jbr cd x z (jtgt pc off) (pc + 3)) ls st h) : jKK p l e R s m args below meth c Q D cA A ad0 n0 s0 y pc ls (.int z :: .int x :: st) h := by
  intro ad H locs lr cells slots I
  have k1 := kk ad H locs lr cells slots (I.stk (fun u hu => I.okc.2 u (List.mem_cons_of_mem _ hu)))
  have ht := j_tg hj
  cases cd
  · exact lv_icmp_eq hx hb dd ht (fun q => by rwa [show jbr .eq x z (jtgt pc off) (pc + 3) = jtgt pc off from if_pos q] at k1) (fun q => by rwa [show jbr .eq x z (jtgt pc off) (pc + 3) = pc + 3 from if_neg q] at k1)
  · exact lv_icmp_ne hx hb dd ht (fun q => by rwa [show jbr .ne x z (jtgt pc off) (pc + 3) = jtgt pc off from if_neg q] at k1) (fun q => by rwa [show jbr .ne x z (jtgt pc off) (pc + 3) = pc + 3 from if_pos q] at k1)
  · exact lv_icmp_lt hx hb dd ht (fun q => by rwa [show jbr .lt x z (jtgt pc off) (pc + 3) = jtgt pc off from if_pos q] at k1) (fun q => by rwa [show jbr .lt x z (jtgt pc off) (pc + 3) = pc + 3 from if_neg q] at k1)
  · exact lv_icmp_ge hx hb dd ht (fun q => by rwa [show jbr .ge x z (jtgt pc off) (pc + 3) = jtgt pc off from if_neg (Int32.not_lt.mpr q)] at k1) (fun q => by rwa [show jbr .ge x z (jtgt pc off) (pc + 3) = pc + 3 from if_pos (Int32.not_le.mp q)] at k1)
  · exact lv_icmp_gt hx hb dd ht (fun q => by rwa [show jbr .gt x z (jtgt pc off) (pc + 3) = jtgt pc off from if_pos q] at k1) (fun q => by rwa [show jbr .gt x z (jtgt pc off) (pc + 3) = pc + 3 from if_neg q] at k1)
  · exact lv_icmp_le hx hb dd ht (fun q => by rwa [show jbr .le x z (jtgt pc off) (pc + 3) = jtgt pc off from if_neg (Int32.not_lt.mpr q)] at k1) (fun q => by rwa [show jbr .le x z (jtgt pc off) (pc + 3) = pc + 3 from if_pos (Int32.not_le.mp q)] at k1)
theorem jp_ifc {cd : ClassFile.Cond} {off : Int} {x : Int32} (hx : p.tables.exec = Jvm.exec) (hb : c.code = jm_code y) (dd : decode (jm_code y) pc = .ok (.ifCond cd off, 3)) (hj : jokt pc off = true) (kk : jKK p l e R s m args below meth c Q D cA A ad0 n0 s0 y (jbr cd x 0 (jtgt pc off) (pc + 3)) ls st h) : jKK p l e R s m args below meth c Q D cA A ad0 n0 s0 y pc ls (.int x :: st) h := by
  intro ad H locs lr cells slots I
  have k1 := kk ad H locs lr cells slots (I.stk I.okc.2)
  have ht := j_tg hj
  cases cd
  · exact lv_if_eq hx hb dd ht (fun q => by rwa [show jbr .eq x 0 (jtgt pc off) (pc + 3) = jtgt pc off from if_pos q] at k1) (fun q => by rwa [show jbr .eq x 0 (jtgt pc off) (pc + 3) = pc + 3 from if_neg q] at k1)
  · exact lv_if_ne hx hb dd ht (fun q => by rwa [show jbr .ne x 0 (jtgt pc off) (pc + 3) = jtgt pc off from if_neg q] at k1) (fun q => by rwa [show jbr .ne x 0 (jtgt pc off) (pc + 3) = pc + 3 from if_pos q] at k1)
  · exact lv_if_lt hx hb dd ht (fun q => by rwa [show jbr .lt x 0 (jtgt pc off) (pc + 3) = jtgt pc off from if_pos q] at k1) (fun q => by rwa [show jbr .lt x 0 (jtgt pc off) (pc + 3) = pc + 3 from if_neg q] at k1)
  · exact lv_if_ge hx hb dd ht (fun q => by rwa [show jbr .ge x 0 (jtgt pc off) (pc + 3) = jtgt pc off from if_neg (Int32.not_lt.mpr q)] at k1) (fun q => by rwa [show jbr .ge x 0 (jtgt pc off) (pc + 3) = pc + 3 from if_pos (Int32.not_le.mp q)] at k1)
  · exact lv_if_gt hx hb dd ht (fun q => by rwa [show jbr .gt x 0 (jtgt pc off) (pc + 3) = jtgt pc off from if_pos q] at k1) (fun q => by rwa [show jbr .gt x 0 (jtgt pc off) (pc + 3) = pc + 3 from if_neg q] at k1)
  · exact lv_if_le hx hb dd ht (fun q => by rwa [show jbr .le x 0 (jtgt pc off) (pc + 3) = jtgt pc off from if_neg (Int32.not_lt.mpr q)] at k1) (fun q => by rwa [show jbr .le x 0 (jtgt pc off) (pc + 3) = pc + 3 from if_pos (Int32.not_le.mp q)] at k1)
/-- fields -/
theorem jp_get {i : Nat} (C : jX p R s m args meth c y) (hK : jKn D cA s) (dd : decode (jm_code y) pc = .ok (.getfield i, 3)) (eN : jN_get y i pc ls st h = some (.inl (pc', ls', st', h'))) (kk : jKK p l e R s m args below meth c Q D cA A ad0 n0 s0 y pc' ls' st' h') : jKK p l e R s m args below meth c Q D cA A ad0 n0 s0 y pc ls st h := by
  obtain ⟨hx, hb, hr, hml, hown, hts, hnw, -⟩ := C
  unfold jN_get at eN
  split at eN
  · next k0 k b q hf =>
    split at eN
    · next a st0 =>
      split at eN
      · next hkind =>
        cases eN
        obtain ⟨hlink, hc, hk, hdecl⟩ := jt_f_ok hf
        intro ad H locs lr cells slots I
        obtain ⟨hR, hS, -⟩ := id I
        obtain ⟨cell, q1, q2, q3, q4⟩ := ((hR.1 a).1 k0 hc hkind).2
        obtain ⟨hSl, hfc, kC, hkC, hkk⟩ := hK.obj hc
        obtain ⟨cf, kf, fi, f, hi, hsl⟩ := hSl k hk
        have hst := (u_facts hfc hkC (u_lays hts (j_lays hc) hk) hi).1
        have hv : jok h.2.1 (jfv (jty k0 k) (h.1 a) k) := by
          cases jty k0 k <;> first | trivial | exact jok_rf (fun r hr => hR.2.2.2.1 a k r hr)
        have k1 := kk ad H locs lr cells slots (I.stk (j_ok1 hv I.okc.2))
        rw [hdecl] at hi
        cases b with
        | false => exact W.getf hx hb hown (hts _ hlink) hi hst q1 (by rw [q3]; exact fun h => by cases h) (by rw [hsl, q4 k hk]) rfl rfl dd k1
        | true => exact va_Wgetf hx hb hown (va_Nw.use rfl (hnw _ hlink)) hi hst q1 (by rw [q3]; exact fun h => by cases h) (by rw [hsl, q4 k hk]) rfl rfl dd k1
      · cases eN
    · cases eN
  · cases eN
theorem j_fits {ty : FieldType} {a k : Nat} {v : Value} (ad : Nat → Nat) (hp : jput ty h a k v = some h') : narrow ty (ja ad v) = ja ad v ∧ fits ty (ja ad v) = true := by
  unfold jput at hp
  split at hp
  · split at hp
    · exact ⟨rfl, rfl⟩
    · cases hp
  · split at hp
    · exact ⟨rfl, rfl⟩
    · exact ⟨rfl, rfl⟩
    · cases hp
  · split at hp
    · exact ⟨rfl, rfl⟩
    · exact ⟨rfl, rfl⟩
    · cases hp
  · split at hp
    · next x =>
      split at hp
      · next hz =>
        rcases hz with rfl | rfl
        · exact ⟨(by decide : narrow .boolean (.int 0) = .int 0), (by decide : fits .boolean (.int 0) = true)⟩
        · exact ⟨(by decide : narrow .boolean (.int 1) = .int 1), (by decide : fits .boolean (.int 1) = true)⟩
      · cases hp
    · cases hp
  · split at hp
    · exact ⟨rfl, rfl⟩
    · cases hp
  · cases hp
/-- what a put changes -/
theorem jput_spec {ty : FieldType} {a k : Nat} {v : Value} (hp : jput ty h a k v = some h') : ∃ c' : jC, h' = jset h a c' ∧ c'.1 = jk h a ∧ (∀ j, jfv ty c' j = if j = k then v else jfv ty (h.1 a) j) ∧ (∀ (t2 : FieldType) (j : Nat), j ≠ k → jfv t2 c' j = jfv t2 (h.1 a) j) ∧ ∀ j r, c'.2.2.2 j = some r → (v = .ref r ∨ jp h a j = some r) := by
  unfold jput at hp
  have one : ∀ x : Int32, jsi h a k x = jset h a ((h.1 a).1, upd (ji h a) k x, (h.1 a).2.2) := fun _ => rfl
  split at hp
  · split at hp
    · next x =>
      cases hp
      refine ⟨_, rfl, rfl, fun j => ?_, fun t2 j hj => ?_, fun j r hr => Or.inr hr⟩
      · by_cases e : j = k
        · subst e; simp [jfv, vp_updL]
        · simp [jfv, vp_updL, e, jj]
      · cases t2 <;> simp [jfv, vp_updL, hj, jj]
    · cases hp
  · split at hp
    · next x =>
      cases hp
      refine ⟨_, rfl, rfl, fun j => ?_, fun t2 j hj => ?_, fun j r hr => ?_⟩
      · by_cases e : j = k
        · subst e; simp [jfv, va_up, va_rf]
        · simp [jfv, va_up, e, jp]
      · cases t2 <;> simp [jfv, va_up, hj, jp]
      · by_cases e : j = k
        · subst e; simp [va_up] at hr; exact Or.inl (by rw [hr])
        · simp [va_up, e] at hr; exact Or.inr hr
    · cases hp
      refine ⟨_, rfl, rfl, fun j => ?_, fun t2 j hj => ?_, fun j r hr => ?_⟩
      · by_cases e : j = k
        · subst e; simp [jfv, va_up, va_rf]
        · simp [jfv, va_up, e, jp]
      · cases t2 <;> simp [jfv, va_up, hj, jp]
      · by_cases e : j = k
        · subst e; simp [va_up] at hr
        · simp [va_up, e] at hr; exact Or.inr hr
    · cases hp
  · split at hp
    · next x =>
      cases hp
      refine ⟨_, rfl, rfl, fun j => ?_, fun t2 j hj => ?_, fun j r hr => ?_⟩
      · by_cases e : j = k
        · subst e; simp [jfv, va_up, va_rf]
        · simp [jfv, va_up, e, jp]
      · cases t2 <;> simp [jfv, va_up, hj, jp]
      · by_cases e : j = k
        · subst e; simp [va_up] at hr; exact Or.inl (by rw [hr])
        · simp [va_up, e] at hr; exact Or.inr hr
    · cases hp
      refine ⟨_, rfl, rfl, fun j => ?_, fun t2 j hj => ?_, fun j r hr => ?_⟩
      · by_cases e : j = k
        · subst e; simp [jfv, va_up, va_rf]
        · simp [jfv, va_up, e, jp]
      · cases t2 <;> simp [jfv, va_up, hj, jp]
      · by_cases e : j = k
        · subst e; simp [va_up] at hr
        · simp [va_up, e] at hr; exact Or.inr hr
    · cases hp
  · split at hp
    · next x =>
      split at hp
      · cases hp
        refine ⟨_, rfl, rfl, fun j => ?_, fun t2 j hj => ?_, fun j r hr => Or.inr hr⟩
        · by_cases e : j = k
          · subst e; simp [jfv, upd]
          · simp [jfv, upd, e, ji]
        · cases t2 <;> simp [jfv, upd, hj, ji]
      · cases hp
    · cases hp
  · split at hp
    · next x =>
      cases hp
      refine ⟨_, rfl, rfl, fun j => ?_, fun t2 j hj => ?_, fun j r hr => Or.inr hr⟩
      · by_cases e : j = k
        · subst e; simp [jfv, upd]
        · simp [jfv, upd, e, ji]
      · cases t2 <;> simp [jfv, upd, hj, ji]
    · cases hp
  · cases hp


/-- the store's cell at a label is changed, and the heap's cell at its address -/
theorem jI.put {ad : Nat → Nat} {H H1 : Heap} {locs : List Loc} {lr : Array Slot} {cells slots a j : Nat} {c' : jC} {st0 : List Value} (I : jI D cA s A ad0 n0 s0 y ad h ls st H locs lr cells slots) (hst : ∀ v ∈ st0, jok h.2.1 v) (hk : c'.1 = jk h a) (h0 : (jk h a).1 ≠ 0) (hc : jcell D cA s A ad (ad a) c' H1) (hz : H1.size = H.size) (hq : ∀ q, q ≠ ad a → H1[q]? = H[q]?) (hp : ∀ k r, c'.2.2.2 k = some r → r < h.2.1) (hA : A (ad a)) : jI D cA s A ad0 n0 s0 y ad (jset h a c') ls st0 H1 (locs ++ [⟨ad a, j⟩]) lr cells slots :=
  ⟨I.1.put hk h0 hc hq hp, I.2.1.put hz hq hA, I.2.2.1, I.2.2.2.1, hst, I.2.2.2.2.2⟩
theorem jp_put {i : Nat} (C : jX p R s m args meth c y) (hK : jKn D cA s) (hci : jm_ini y = true → jcn (jm_cn y) = jcR (jm_ci y)) (dd : decode (jm_code y) pc = .ok (.putfield i, 3)) (eN : jN_put y i pc ls st h = some (.inl (pc', ls', st', h'))) (kk : jKK p l e R s m args below meth c Q D cA A ad0 n0 s0 y pc' ls' st' h') : jKK p l e R s m args below meth c Q D cA A ad0 n0 s0 y pc ls st h := by
  obtain ⟨hx, hb, hr, hml, hown, hts, hnw, -, hini, -⟩ := C
  unfold jN_put at eN
  split at eN
  · next k0 k b q hf =>
    split at eN
    · next v a st0 =>
      cases hfin : (!(jtT k0 k).2.2.2 || (jm_ini y && (jm_ci y == k0 && !b))) with
      | false => rw [hfin] at eN; cases eN
      | true =>
        rw [hfin] at eN
        simp only [cond_true] at eN
        split at eN
        · next hkind =>
          split at eN
          · next h1 hput =>
            cases eN
            obtain ⟨hlink, hc, hk, hdecl⟩ := jt_f_ok hf
            intro ad H locs lr cells slots I
            obtain ⟨hR, hS, -⟩ := id I
            obtain ⟨hAa, cell, q1, q2, q3, q4⟩ := (hR.1 a).1 k0 hc hkind
            obtain ⟨hSl, hfc, kC, hkC, hkk⟩ := hK.obj hc
            obtain ⟨cf, kf, fi, f, hi, hsl⟩ := hSl k hk
            have hap := va_apart (own := jcR k0) hts (j_lays hc) (jty k0) (j_tyok hc) (j_nm hc) hK.1 (j_vw hc)
            have hst := (u_facts hfc hkC (u_lays hts (j_lays hc) hk) hi).1
            obtain ⟨hn, hfit⟩ := j_fits ad hput
            obtain ⟨c', rfl, hck, hcv, hco, hcr⟩ := jput_spec hput
            have hok := I.okc
            have hst0 : ∀ u ∈ st', jok h.2.1 u := fun u hu => hok.2 u (List.mem_cons_of_mem _ hu)
            have fin : ∀ H1 : Heap, H1[ad a]? = some (cell.setSlot f.slot (ja ad v)) → H1.size = H.size → (∀ q, q ≠ ad a → H1[q]? = H[q]?) → W p l e R s m args below meth c H1 (locs ++ [⟨ad a, f.slot⟩]) cells slots Q (F0 m (pc + 3) lr (st'.map (ja ad))) := by
              intro H1 e1 e2 e3
              refine kk ad H1 _ lr cells slots (I.put hst0 hck (by omega) ?_ e2 e3 (fun j r hr => ?_) hAa)
              · refine ⟨fun k2 hk2 e => ?_, fun t ht e => ?_, fun e => ?_⟩
                · have : k2 = k0 := by rw [hck] at e; omega
                  subst this
                  refine ⟨hAa, t_OB.to (V := updV (fun j => ja ad (jfv (jty k2 j) (h.1 a) j)) k (ja ad v)) ⟨_, e1, q2, q3, ?_⟩ (fun j hj => ?_)⟩
                  · rw [hsl]
                    exact t_set q4 hap hk (ja ad v)
                  · unfold updV
                    by_cases ej : j = k
                    · subst ej
                      have := hcv j
                      rw [if_pos rfl] at this
                      rw [if_pos rfl, this]
                    · rw [if_neg ej, hco _ j ej]
                · rw [hck] at e; omega
                · rw [hck] at e; omega
              · rcases hcr j r hr with e | e
                · have := hok.1
                  rw [e] at this
                  exact this
                · exact hR.2.2.2.1 a j r e
            have hlt : f.slot < cell.slots.size := by rw [hsl]; exact k2_hasslot (q4 k hk)
            have hd := j_tyok hc k hk
            have hlay := hts _ (j_lays hc _ (u_in_lay hk))
            cases hfl : (jtT k0 k).2.2.2 with
            | false =>
              unfold u_lay at hlay
              rw [if_neg (by rw [hfl]; decide)] at hlay
              have h6 := u_store hfc hkC hkk hlay hi hd hn hfit
              rw [hdecl] at hi
              cases b with
              | false => exact W.putK hx hb (f := f) ⟨hown, hts _ hlink, ⟨_, _, _, hi⟩, hst⟩ (by rw [q2]; exact h6) q1 q3 hlt rfl rfl dd fin
              | true => exact va_WputK hx hb (f := f) hown (va_Nw.use rfl (hnw _ hlink)) hi hst (by rw [q2]; exact h6) q1 q3 hlt rfl rfl dd fin
            | true =>
              rw [hfl] at hfin
              simp only [Bool.not_true, Bool.false_or, Bool.and_eq_true, beq_iff_eq, Bool.not_eq_true'] at hfin
              obtain ⟨f1, f2, f3⟩ := hfin
              subst f3
              unfold u_lay at hlay
              rw [if_pos hfl] at hlay
              have hcf : m.cls = cf := by
                obtain ⟨_, _, c'', _, _, _, -, -, hf', -, -, -, hown2, -⟩ := Cond.laysFinal_spec hlay
                have e1 : c'' = cf := by have := hi.symm.trans hf'; simp at this; exact this.1.symm
                rw [hdecl, ← f2, ← hci f1] at hown2
                rw [← e1]; exact Option.some.inj (hown.symm.trans hown2)
              have h6 := u_fits hfc hkC hkk (Or.inr hlay) hi hd hn hfit
              rw [hdecl] at hi
              exact W.putFinK hx hb hown (hts _ hlink) hi hst hcf (hini f1) (by rw [q2]; exact h6) q1 q3 hlt rfl rfl dd fin
          · cases eN
        · cases eN
    · cases eN
  · cases eN
theorem j_arrc {ad : Nat → Nat} {H : Heap} {t a : Nat} (hR : jRel D cA s A ad h H) (ht : t < 5) (hk : (jk h a).1 = 20 + t) : A (ad a) ∧ H[ad a]? = some (arrV (cA t) (jk h a).2 (fun j => ja ad (jfv (jet t) (h.1 a) j))) := (hR.1 a).2.1 t ht hk
theorem j_in {i : Int32} {n : Nat} (hi : jin i n = true) (cI : ClassId) (f : Nat → Value) : ¬ (i < 0 ∨ (arrV cI n f).slots.size ≤ i.toNatClampNeg) := by
  rw [arrV_size]; exact jin_vp hi
theorem j_lt {i : Int32} {n : Nat} (hi : jin i n = true) : i.toNatClampNeg < n := Nat.not_le.mp fun q => jin_vp hi (Or.inr q)
theorem jp_ald {t : Nat} (ht : t < 5) {val : jC → Nat → Value} (hval : ∀ c j, val c j = jfv (jet t) c j)
    (row : ∀ (H : Heap) (locs : List Loc) (lr : Array Slot) (cells slots : Nat) (rest : List Value) (a : Nat) (i : Int32) (n : Nat) (f : Nat → Value), H[a]? = some (arrV (cA t) n f) → jin i n = true → W p l e R s m args below meth c H locs cells slots Q (F0 m (pc + 1) lr (f i.toNatClampNeg :: rest)) → W p l e R s m args below meth c H locs cells slots Q (F0 m pc lr (.int i :: .ref a :: rest)))
    (eN : jN_ald (20 + t) pc ls st h val = some (.inl (pc', ls', st', h'))) (kk : jKK p l e R s m args below meth c Q D cA A ad0 n0 s0 y pc' ls' st' h') : jKK p l e R s m args below meth c Q D cA A ad0 n0 s0 y pc ls st h := by
  unfold jN_ald at eN
  split at eN
  · next i a st0 =>
    split at eN
    · next hc =>
      cases eN
      intro ad H locs lr cells slots I
      refine row _ _ _ _ _ _ _ _ _ _ (j_arrc I.1 ht hc.1).2 hc.2 ?_
      have hv : jok h.2.1 (val (h.1 a) i.toNatClampNeg) := by
        rw [hval]
        cases jet t <;> first | trivial | exact jok_rf (fun r hr => I.1.2.2.2.1 a _ r hr)
      have k1 := kk ad H locs lr cells slots (I.stk (j_ok1 hv (fun u hu => I.okc.2 u (List.mem_cons_of_mem _ hu))))
      rw [List.map_cons, hval] at k1
      exact k1
    · cases eN
  · cases eN
theorem jp_ast {t : Nat} (ht : t < 5)
    (row : ∀ (H : Heap) (locs : List Loc) (lr : Array Slot) (cells slots : Nat) (rest : List Value) (a : Nat) (i : Int32) (v : Value) (n : Nat) (f : Nat → Value) (h2 : jH) (b k : Nat) (ad : Nat → Nat), jput (jet t) h b k v = some h2 → H[a]? = some (arrV (cA t) n f) → jin i n = true → (∀ H1 : Heap, H1[a]? = some ((arrV (cA t) n f).setSlot i.toNatClampNeg (ja ad v)) → H1.size = H.size → (∀ q, q ≠ a → H1[q]? = H[q]?) → W p l e R s m args below meth c H1 (locs ++ [⟨a, i.toNatClampNeg⟩]) cells slots Q (F0 m (pc + 1) lr rest)) → W p l e R s m args below meth c H locs cells slots Q (F0 m pc lr (ja ad v :: .int i :: .ref a :: rest)))
    (eN : jN_ast (20 + t) pc ls st h (fun a j v => jput (jet t) h a j v) = some (.inl (pc', ls', st', h'))) (kk : jKK p l e R s m args below meth c Q D cA A ad0 n0 s0 y pc' ls' st' h') : jKK p l e R s m args below meth c Q D cA A ad0 n0 s0 y pc ls st h := by
  unfold jN_ast at eN
  split at eN
  · next v i a st0 =>
    split at eN
    · next hc =>
      split at eN
      · next h1 hput =>
        cases eN
        intro ad H locs lr cells slots I
        obtain ⟨hAa, hcell⟩ := j_arrc I.1 ht hc.1
        have hok := I.okc
        refine row _ _ _ _ _ _ _ _ v _ _ _ _ _ ad hput hcell hc.2 fun H1 e1 e2 e3 => ?_
        obtain ⟨c', rfl, hck, hcv, hco, hcr⟩ := jput_spec hput
        refine kk ad H1 _ lr cells slots (I.put (fun u hu => hok.2 u (List.mem_cons_of_mem _ (List.mem_cons_of_mem _ hu))) hck (by omega) ?_ e2 e3 (fun j r hr => ?_) hAa)
        · refine ⟨fun k2 hk2 e => ?_, fun t2 ht2 e => ?_, fun e => ?_⟩
          · rw [hck] at e; omega
          · have : t2 = t := by rw [hck] at e; omega
            subst this
            refine ⟨hAa, ?_⟩
            rw [e1, arrV_store, hck]
            congr 2
            funext j
            rw [hcv j]
            unfold updV
            by_cases ej : j = i.toNatClampNeg
            · rw [if_pos ej, if_pos ej]
            · rw [if_neg ej, if_neg ej]
          · rw [hck] at e; omega
        · rcases hcr j r hr with e | e
          · have := hok.1
            rw [e] at this
            exact this
          · exact I.1.2.2.2.1 a j r e
      · cases eN
    · cases eN
  · cases eN

theorem j_nof0 : ((List.range 9).all fun c => (List.range (jcN c)).all fun k => match jty c k with
  | .float => false
  | .double => false
  | _ => true) = true := by decide +kernel
theorem j_nof {k0 j : Nat} (hk : k0 < 9) (hj : j < jcN k0) : (match jty k0 j with
  | .float => false
  | .double => false
  | _ => true) = true := List.all_eq_true.mp (List.all_eq_true.mp j_nof0 k0 (List.mem_range.mpr hk)) j (List.mem_range.mpr hj)
theorem j_objc {ad : Nat → Nat} {H : Heap} {k a : Nat} (hR : jRel D cA s A ad h H) (hk : k < 9) (hc : (jk h a).1 = 1 + k) : A (ad a) ∧ t_OB (ad a) (D.1 k) (jcN k) (D.2 k) H (fun j => ja ad (jfv (jty k j) (h.1 a) j)) := (hR.1 a).1 k hk hc
/-- an object into an array of its class -/
theorem jp_aast (C : jX p R s m args meth c y) (hK : jKn D cA s) (dd : decode (jm_code y) pc = .ok (.aastore, 1)) (eN : jN_aast pc ls st h = some (.inl (pc', ls', st', h'))) (kk : jKK p l e R s m args below meth c Q D cA A ad0 n0 s0 y pc' ls' st' h') : jKK p l e R s m args below meth c Q D cA A ad0 n0 s0 y pc ls st h := by
  obtain ⟨hx, hb, -⟩ := C
  have key : ∀ (r a t k0 : Nat) (i : Int32) (st0 : List Value), t < 5 → k0 < 9 → (jk h a).1 = 20 + t → (jk h r).1 = 1 + k0 → jet t = .object (jcR k0) → jin i (jk h a).2 = true → jKK p l e R s m args below meth c Q D cA A ad0 n0 s0 y (pc + 1) ls st0 (jsp h a i.toNatClampNeg (some r)) → jKK p l e R s m args below meth c Q D cA A ad0 n0 s0 y pc ls (.ref r :: .int i :: .ref a :: st0) h := by
    intro r a t k0 i st0 ht hk0 ha hr hty hi kk ad H locs lr cells slots I
    obtain ⟨hAa, hcell⟩ := j_arrc I.1 ht ha
    obtain ⟨-, cellV, g1, g2, g3, -⟩ := j_objc I.1 hk0 hr
    have hcls := (hK.obj hk0).2
    have hRA := (hK.arr ht).2
    rw [hty] at hRA
    obtain ⟨kA, comp, k1, k2, k3, -⟩ := hRA
    have hcomp : comp = D.1 k0 := Option.some.inj (k3.symm.trans hcls.1)
    subst hcomp
    obtain ⟨kC, hkC, -⟩ := hcls.2
    have hok := I.okc
    refine W.aast hx hb hcell (fun q h => by cases h) (fun h => by cases h) k1 k2 rfl hkC ⟨fun q => jin_vp hi (Or.inl q), by rw [arrV_size]; exact j_lt hi⟩ g1 (fun q h => by rw [g3] at h; cases h) (by rw [g2]; exact hkC) (by rw [g2]; exact va_assign hcls) rfl rfl dd fun H1 e1 e2 e3 => ?_
    have hput : jput (jet t) h a i.toNatClampNeg (.ref r) = some (jsp h a i.toNatClampNeg (some r)) := by rw [hty]; rfl
    obtain ⟨c', hce, hck, hcv, hco, hcr⟩ := jput_spec hput
    rw [hce] at kk
    refine kk ad H1 _ lr cells slots (I.put (fun u hu => hok.2 u (List.mem_cons_of_mem _ (List.mem_cons_of_mem _ hu))) hck (by omega) ?_ e2 e3 (fun j r2 hr2 => ?_) hAa)
    · refine ⟨fun k2 hk2 e => ?_, fun t2 ht2 e => ?_, fun e => ?_⟩
      · rw [hck] at e; omega
      · have : t2 = t := by rw [hck] at e; omega
        subst this
        refine ⟨hAa, ?_⟩
        rw [e1, arrV_store, hck]
        congr 2
        funext j
        rw [hcv j]
        unfold updV
        by_cases ej : j = i.toNatClampNeg
        · rw [if_pos ej, if_pos ej]; rfl
        · rw [if_neg ej, if_neg ej]
      · rw [hck] at e; omega
    · rcases hcr j r2 hr2 with e | e
      · have h1 := hok.1
        rw [e] at h1
        exact h1
      · exact I.1.2.2.2.1 a j r2 e
  unfold jN_aast at eN
  split at eN
  · next r i a st0 =>
    split at eN
    · next hc =>
      cases eN
      rcases hc.2 with h1 | h1
      · exact key r a 3 3 i _ (by omega) (by omega) h1.1 h1.2 rfl hc.1 kk
      · exact key r a 4 5 i _ (by omega) (by omega) h1.1 h1.2 rfl hc.1 kk
    · cases eN
  · cases eN
theorem jp_alen (C : jX p R s m args meth c y) (hK : jKn D cA s) (dd : decode (jm_code y) pc = .ok (.arraylength, 1)) {a : Nat} (hc : 20 ≤ (jk h a).1 ∧ (jk h a).1 ≤ 24 ∨ (jk h a).1 = 30) (kk : jKK p l e R s m args below meth c Q D cA A ad0 n0 s0 y (pc + 1) ls (.int (nI (jk h a).2) :: st) h) : jKK p l e R s m args below meth c Q D cA A ad0 n0 s0 y pc ls (.ref a :: st) h := by
  obtain ⟨hx, hb, -⟩ := C
  intro ad H locs lr cells slots I
  have k1 := kk ad H locs lr cells slots (I.stk (j_ok1 trivial I.okc.2))
  rcases hc with hc | hc
  · obtain ⟨t, ht, hk⟩ : ∃ t, t < 5 ∧ (jk h a).1 = 20 + t := ⟨(jk h a).1 - 20, by omega, by omega⟩
    obtain ⟨-, hcell⟩ := j_arrc I.1 ht hk
    exact W.alen (n := nI (jk h a).2) hx hb hcell ((hK.arr ht).1 _ _) (by rw [arrV_size]; rfl) rfl rfl dd k1
  · obtain ⟨g1, g2, g3⟩ := (I.1.1 a).2.2 hc
    exact va_slen hx hb g3 g2 g1 I.2.1 dd k1
/-- the script is read -/
theorem jp_sld (C : jX p R s m args meth c y) (dd : decode (jm_code y) pc = .ok (.iaload, 1)) (eN : jN_ald 30 pc ls st h j_ival = some (.inl (pc', ls', st', h'))) (kk : jKK p l e R s m args below meth c Q D cA A ad0 n0 s0 y pc' ls' st' h') : jKK p l e R s m args below meth c Q D cA A ad0 n0 s0 y pc ls st h := by
  obtain ⟨hx, hb, -⟩ := C
  unfold jN_ald at eN
  split at eN
  · next i a st0 =>
    split at eN
    · next hc =>
      cases eN
      intro ad H locs lr cells slots I
      obtain ⟨g1, g2, g3⟩ := (I.1.1 a).2.2 hc.1
      exact va_sld hx hb g3 g2 g1 I.2.1 (jin_vp hc.2) dd (kk ad H locs lr cells slots (I.stk (j_ok1 trivial (fun u hu => I.okc.2 u (List.mem_cons_of_mem _ hu)))))
    · cases eN
  · cases eN
/-- something made -/
theorem jI.new {ad : Nat → Nat} {H H1 : Heap} {locs : List Loc} {lr : Array Slot} {cells slots k n z : Nat} {st0 : List Value} (I : jI D cA s A ad0 n0 s0 y ad h ls st H locs lr cells slots) (hA : ∀ q, s.heap.size ≤ q → A q) (hst : ∀ v ∈ st0, jok h.2.1 v) (hv : jvk k) (hz : H1.size = H.size + 1) (hq : ∀ q, q < H.size → H1[q]? = H[q]?)
    (hc : ∀ ad' : Nat → Nat, jcell D cA s A ad' H.size ((k, n), fun _ => 0, fun _ => 0, fun _ => none) H1) :
    jI D cA s A ad0 n0 s0 y (fun b => if b = h.2.1 then H.size else ad b) (jnew h k n z) ls (.ref h.2.1 :: st0) H1 locs lr (cells + 1) (slots + z) ∧ (Value.ref h.2.1 :: st0).map (ja (fun b => if b = h.2.1 then H.size else ad b)) = .ref H.size :: st0.map (ja ad) := by
  have had : ∀ a, a < h.2.1 → (fun b => if b = h.2.1 then H.size else ad b) a = ad a := fun a ha => if_neg (Nat.ne_of_lt ha)
  obtain ⟨hR, hS, hl, hlen, -, hw, h0, hn, hs⟩ := I
  refine ⟨⟨hR.new hS.1 hv hq hc, ⟨by rw [hz]; have := hS.1; omega, fun q h1 h2 => (hq q (Nat.lt_of_lt_of_le h1 hS.1)).trans (hS.2.1 q h1 h2), hS.2.2⟩, lv_sup hl (jal_eq had hw), hlen, ?_, fun v hv => jok_le (Nat.le_succ _) (hw v hv), fun a ha => ?_, ?_, ?_⟩, ?_⟩
  · refine j_ok1 (show h.2.1 < h.2.1 + 1 by omega) (fun v hv => jok_le (Nat.le_succ _) (hst v hv))
  · rw [had a (by omega)]; exact h0 a ha
  · show cells + 1 + n0 = h.2.1 + 1; omega
  · show slots + z + s0 = h.2.2 + z; omega
  · rw [List.map_cons, ja_eqs had hst]
    show Value.ref (if h.2.1 = h.2.1 then H.size else ad h.2.1) :: _ = _
    rw [if_pos rfl]
theorem jq_new {i k0 q1 q2 q3 : Nat} (C : jX p R s m args meth c y) (hK : jKn D cA s) (hA : ∀ q, s.heap.size ≤ q → A q) (dd : decode (jm_code y) pc = .ok (.new i, 3)) (hf : jt_n (jm_cn y) i = some (k0, q1, q2, q3)) (hb1 : h.2.1 + 1 ≤ n0 + R.cells) (hb2 : h.2.2 + jcN k0 ≤ s0 + R.slots) (kk : jKK p l e R s m args below meth c Q D cA A ad0 n0 s0 y (pc + 3) ls (.ref h.2.1 :: st) (jnew h (1 + k0) 0 (jcN k0))) : jKK p l e R s m args below meth c Q D cA A ad0 n0 s0 y pc ls st h := by
  obtain ⟨hx, hb, hr, hml, hown, hts, hnw, -⟩ := C
  obtain ⟨w1, w2, w3, hk0⟩ := jt_n_ok hf
  intro ad H locs lr cells slots I
  obtain ⟨-, -, -, -, hst, -, -, hn, hs⟩ := id I
  have hKn := hK.obj hk0
  refine W.newcK hx hb hown (hts _ w1) (hts _ w2) (hts _ w3) rfl dd (by omega) (by omega) hKn.2.1 rfl fun H1 kC hkC e1 z1 o1 => ?_
  obtain ⟨I2, hm⟩ := I.new (k := 1 + k0) (n := 0) (z := jcN k0) hA hst (Or.inl (by omega)) z1 o1 (fun ad' => by
    refine ⟨fun k2 hk2 e => ?_, fun t ht e => ?_, fun e => ?_⟩
    · have e' : 1 + k0 = 1 + k2 := e
      have : k2 = k0 := by omega
      subst this
      refine ⟨hA _ I.2.1.1, (u_born (jty k2) hts (j_lays hk0) hKn hkC e1 (j_tyok hk0)).to (fun j hj => ?_)⟩
      have hnf := j_nof hk0 hj
      cases hjt : jty k2 j <;> first | rfl | (rw [hjt] at hnf; cases hnf)
    · have e' : 1 + k0 = 20 + t := e
      omega
    · have e' : 1 + k0 = 30 := e
      omega)
  have k1 := kk _ H1 locs lr _ _ I2
  rw [hm] at k1
  exact k1
theorem jp_newa {t : Nat} {at0 : ArrayType} {n : Int32} (C : jX p R s m args meth c y) (hK : jKn D cA s) (hA : ∀ q, s.heap.size ≤ q → A q) (dd : decode (jm_code y) pc = .ok (.newarray at0, 2)) (ht : t < 3) (hty : newarray.typeOf at0 = jet t) (hw : Cond.arrayClass (newarray.typeOf at0) ∈ jw) (hn : ¬ (n < 0 ∨ 1000000 < n)) (hb1 : h.2.1 + 1 ≤ n0 + R.cells) (hb2 : h.2.2 + n.toNatClampNeg ≤ s0 + R.slots) (kk : jKK p l e R s m args below meth c Q D cA A ad0 n0 s0 y (pc + 2) ls (.ref h.2.1 :: st) (jnew h (20 + t) n.toNatClampNeg n.toNatClampNeg)) : jKK p l e R s m args below meth c Q D cA A ad0 n0 s0 y pc ls (.int n :: st) h := by
  obtain ⟨hx, hb, hr, hml, hown, hts, hnw, -⟩ := C
  intro ad H locs lr cells slots I
  obtain ⟨-, -, -, -, hst, -, -, hn0, hs0⟩ := id I
  have hsz : n.toNatClampNeg ≤ 1000000 := by
    have h1 : ¬ 1000000 < n := fun q => hn (Or.inr q)
    have h2 := Int32.not_lt.mp h1
    have h3 := Int32.le_iff_toInt_le.mp h2
    have h4 : (1000000 : Int32).toInt = 1000000 := by decide
    show n.toInt.toNat ≤ 1000000
    omega
  have hby : n.toNatClampNeg * componentBytes (newarray.typeOf at0) ≤ 536870912 := by
    have : componentBytes (newarray.typeOf at0) ≤ 8 := by cases at0 <;> decide
    have := Nat.mul_le_mul hsz this
    omega
  refine va_newaK hx hb (hts _ hw) rfl dd rfl (fun q => hn (Or.inl q)) rfl hby (by omega) (by omega) rfl fun H1 cA1 e1 z1 o1 hAr hNm => ?_
  have hcA : cA1 = cA t := by
    have h1 := (hK.arr (t := t) (by omega)).2
    rw [← hty] at h1
    have h2 : s.vm.findClass ("[" ++ (newarray.typeOf at0).toString) = some (cA t) := by
      cases at0 <;> exact h1
    exact Option.some.inj (hNm.symm.trans h2)
  subst hcA
  obtain ⟨I2, hm⟩ := I.new (k := 20 + t) (n := n.toNatClampNeg) (z := n.toNatClampNeg) (st0 := st) hA I.okc.2 (Or.inr (Or.inl (by omega))) z1 o1 (fun ad' => by
    refine ⟨fun k2 hk2 e => ?_, fun t2 ht2 e => ?_, fun e => ?_⟩
    · have e' : 20 + t = 1 + k2 := e
      omega
    · have e' : 20 + t = 20 + t2 := e
      have : t2 = t := by omega
      subst this
      refine ⟨hA _ I.2.1.1, ?_⟩
      rw [e1, hty]
      congr 2
      funext j
      rcases t2 with _ | _ | _ | t2 <;> first | rfl | omega
    · have e' : 20 + t = 30 := e
      omega)
  have k1 := kk _ H1 locs lr _ _ I2
  rw [hm] at k1
  exact k1
theorem jp_anew {t i q : Nat} {n : Int32} (C : jX p R s m args meth c y) (hK : jKn D cA s) (hA : ∀ q, s.heap.size ≤ q → A q) (dd : decode (jm_code y) pc = .ok (.anewarray i, 3)) (hf : jt_a (jm_cn y) i = some (t, q)) (hn : ¬ (n < 0 ∨ 1000000 < n)) (hb1 : h.2.1 + 1 ≤ n0 + R.cells) (hb2 : h.2.2 + n.toNatClampNeg ≤ s0 + R.slots) (kk : jKK p l e R s m args below meth c Q D cA A ad0 n0 s0 y (pc + 3) ls (.ref h.2.1 :: st) (jnew h (20 + t) n.toNatClampNeg n.toNatClampNeg)) : jKK p l e R s m args below meth c Q D cA A ad0 n0 s0 y pc ls (.int n :: st) h := by
  obtain ⟨hx, hb, hr, hml, hown, hts, hnw, -⟩ := C
  obtain ⟨w1, ht⟩ := jt_a_ok hf
  intro ad H locs lr cells slots I
  obtain ⟨-, -, -, -, hst, -, -, hn0, hs0⟩ := id I
  have hsz : n.toNatClampNeg ≤ 1000000 := by
    have h1 : ¬ 1000000 < n := fun q => hn (Or.inr q)
    have h2 := Int32.not_lt.mp h1
    have h3 := Int32.le_iff_toInt_le.mp h2
    have h4 : (1000000 : Int32).toInt = 1000000 := by decide
    show n.toInt.toNat ≤ 1000000
    omega
  have hAO : va_AO (jaR t) s := by rcases ht with rfl | rfl; exact hK.2.1; exact hK.2.2
  have hjt : jet t = .object (jaR t) := by rcases ht with rfl | rfl <;> rfl
  have ht5 : t < 5 := by omega
  refine W.anew hx hb hown (hts _ w1) (va_AO.use hAO) rfl dd rfl (fun q => hn (Or.inl q)) (by omega) (by omega) (by omega) fun cA1 kA comp f1 f2 f3 f4 => ?_
  have hcA : cA1 = cA t := by
    have h1 := (hK.arr ht5).2
    rw [hjt] at h1
    obtain ⟨_, _, -, -, -, h2⟩ := h1
    exact Option.some.inj (f1.symm.trans h2)
  subst hcA
  generalize hH1 : H.push ({ cls := cA t, slots := Array.replicate n.toNatClampNeg .null, vm := .none } : Cell) = H1
  have z1 : H1.size = H.size + 1 := by rw [← hH1, Array.size_push]
  have e1 : H1[H.size]? = some (arrV (cA t) n.toNatClampNeg (fun _ => .null)) := by rw [← hH1, Array.getElem?_push_size, ← arrV_new]
  have o1 : ∀ q : Nat, q < H.size → H1[q]? = H[q]? := fun q hq => by rw [← hH1, Array.getElem?_push, if_neg (Nat.ne_of_lt hq)]
  obtain ⟨I2, hm⟩ := I.new (k := 20 + t) (n := n.toNatClampNeg) (z := n.toNatClampNeg) (st0 := st) hA I.okc.2 (Or.inr (Or.inl (by omega))) z1 o1 (fun ad' => by
    refine ⟨fun k2 hk2 e => ?_, fun t2 ht2 e => ?_, fun e => ?_⟩
    · have e' : 20 + t = 1 + k2 := e
      omega
    · have e' : 20 + t = 20 + t2 := e
      have : t2 = t := by omega
      subst this
      refine ⟨hA _ I.2.1.1, ?_⟩
      rw [e1, hjt]
      rfl
    · have e' : 20 + t = 30 := e
      omega)
  have k1 := kk _ H1 locs lr _ _ I2
  rw [hm] at k1
  exact k1

/-- the copying of a stretch of one array into another -/
theorem jI.cpy {ad : Nat → Nat} {H H1 : Heap} {locs : List Loc} {lr : Array Slot} {cells slots b : Nat} {c' : jC} {st0 : List Value} {L : List Loc} (I : jI D cA s A ad0 n0 s0 y ad h ls st H locs lr cells slots) (hst : ∀ v ∈ st0, jok h.2.1 v) (hk : c'.1 = jk h b) (h0 : (jk h b).1 ≠ 0) (hc : jcell D cA s A ad (ad b) c' H1) (hq : ∀ q, q ≠ ad b → H1[q]? = H[q]?) (hS : va_S A s.heap H1 L) (hp : ∀ k r, c'.2.2.2 k = some r → r < h.2.1) : jI D cA s A ad0 n0 s0 y ad (jset h b c') ls st0 H1 L lr cells slots :=
  ⟨I.1.put hk h0 hc hq hp, hS, I.2.2.1, I.2.2.2.1, hst, I.2.2.2.2.2⟩
theorem j_cat8 {st : List Value} (hs : Nat.ble (st.map fun v => v.category).sum 8 = true) : (st.map fun v => v.category).sum ≤ 8 := Nat.le_of_ble_eq_true hs
theorem j_natw : Cond.native arraycopyName ∈ jw ∧ Cond.static arraycopyName ∈ jw ∧ Cond.initialized "java/lang/System" ∈ jw := ⟨List.mem_filter.mpr ⟨by decide +kernel, rfl⟩, List.mem_filter.mpr ⟨by decide +kernel, rfl⟩, List.mem_filter.mpr ⟨by decide +kernel, rfl⟩⟩
theorem jW_copy {α : Type} (mk : α → Value) {H : Heap} {locs : List Loc} {lr : Array Slot} {cells slots : Nat} {cc : ByteArray} {rest : List Value} (hexec : p.tables.exec = Jvm.exec) (hb : c.code = cc) (hml : c.maxLocals = lr.size) {own : String} {index : Nat} (hown : s.vm.findClass own = some m.cls) (hlink : (Cond.methodLink own index arraycopyName).before args s = true) (hnat : (Cond.native arraycopyName).before args s = true) (hstat : (Cond.static arraycopyName).before args s = true) (hini : (Cond.initialized "java/lang/System").before args s = true)
    {a0 a : Nat} {c0 : ClassId} {n0 n1 : Nat} {f g : Nat → α} {ty : FieldType} (hc0 : H[a0]? = some (arrV c0 n0 (fun j => mk (f j)))) (hc1 : H[a]? = some (arrV c0 n1 (fun j => mk (g j)))) (hA0 : ArrOfT s c0 ty) (hprim : refKind ty = false) (hmk : ∀ x, mk x ≠ .null ∧ ∀ r, mk x ≠ .ref r)
    {sp dp n : Int32} (h1 : ¬ sp < 0) (h2 : ¬ dp < 0) (h3 : ¬ n < 0) (h4 : sp.toNatClampNeg + n.toNatClampNeg ≤ n0) (h5 : dp.toNatClampNeg + n.toNatClampNeg ≤ n1) (hfit : ∀ x, fits ty (mk x) = true)
    (hframes : 1 ≤ R.frames) (hlocals : (rest.map fun v => v.category).sum + (nativeFrameWords "java/lang/System" "arraycopy" 5 + 11) ≤ R.locals) (hdg : decode cc pc = .ok (.invokestatic index, 3))
    (kk : ∀ (H1 : Heap) (L : List Loc), H1[a]? = some (arrV c0 n1 (fun j => mk (va_cpy f g sp.toNatClampNeg dp.toNatClampNeg n.toNatClampNeg j))) → H1.size = H.size → (∀ q, q ≠ a → H1[q]? = H[q]?) → (∀ q ∈ L, q.base = a) → W p l e R s m args below meth c H1 (locs ++ L) cells slots Q (F0 m (pc + 3) lr rest)) : W p l e R s m args below meth c H locs cells slots Q (F0 m pc lr (.int n :: .int dp :: .ref a :: .int sp :: .ref a0 :: rest)) := by
  have nn : ∀ z : Int32, ¬ z < 0 → z.toInt = (z.toNatClampNeg : Int) := by
    intro z hz
    have hz0 : (0 : Int) ≤ z.toInt := by
      have := Int32.not_lt.mp hz
      simpa using Int32.le_iff_toInt_le.mp this
    show z.toInt = ((z.toInt.toNat : Nat) : Int)
    omega
  intro T hT X
  obtain ⟨-, k0, hk0, cm0, hkk0⟩ := hA0 n0 (fun j => mk (f j))
  obtain ⟨-, k1, hk1, cm1, hkk1⟩ := hA0 n1 (fun j => mk (g j))
  obtain ⟨vm', X', step⟩ := X.arraycopy hexec hown hlink hnat hstat hini (src := a0) (dst := a) (cs := arrV c0 n0 (fun j => mk (f j))) (cd := arrV c0 n1 (fun j => mk (g j))) (srcPos := sp) (destPos := dp) (n := n) (by rw [hT]; exact hc0) (by rw [hT]; exact hc1)
    (fun _ h => by cases h) (fun _ h => by cases h) (fun h => by cases h) (fun h => by cases h) hk0 hk1 hkk0 hkk1 (by simp [hprim]) h1 h2 h3
    (by rw [nn sp h1, nn n h3, arrV_size]; omega)
    (by rw [nn dp h2, nn n h3, arrV_size]; omega)
    (fun vm₁ _ i hi => by
      have e : (arrV c0 n0 (fun j => mk (f j))).slots.getD (sp.toNatClampNeg + i) .null = mk (f (sp.toNatClampNeg + i)) := by
        rw [Array.getD_eq_getD_getElem?, arrV_read _ _ (by omega)]
        rfl
      refine ⟨?_, ?_⟩
      · rw [e]
        exact hfit _
      · rw [e]
        have := hmk (f (sp.toNatClampNeg + i))
        cases hm : mk (f (sp.toNatClampNeg + i)) <;> first | exact trivial | exact absurd hm (this.2 _) | exact absurd hm this.1)
    (g := F0 m pc lr (.int n :: .int dp :: .ref a :: .int sp :: .ref a0 :: rest)) rfl (by rw [hml]) (rest := rest) rfl (by rw [hb]; exact hdg) hframes (by show 2 * 0 + _ + _ ≤ _; omega)
  have e1 : copied (arrV c0 n0 (fun j => mk (f j))) (arrV c0 n1 (fun j => mk (g j))) sp dp n = arrV c0 n1 (fun j => mk (va_cpy f g sp.toNatClampNeg dp.toNatClampNeg n.toNatClampNeg j)) := va_copied mk c0 c0 f g h4
  rw [e1] at X' step
  have hl : a < H.size := (Array.getElem?_eq_some_iff.mp hc1).1
  have hheap : ∀ cell : Cell, ((T.setVm vm').setCell a cell).heap = H.setIfInBounds a cell := fun _ => by rw [← hT]; rfl
  obtain ⟨t, a1, b1⟩ := kk _ _ (by simp [Array.getElem?_setIfInBounds, hl]) (by simp) (fun q hq => by simp [Array.getElem?_setIfInBounds, Ne.symm hq]) (fun q hq => by
      obtain ⟨z, -, hz⟩ := List.mem_map.mp hq
      rw [← hz]) _ (hheap _) X'
  exact ⟨t, step t a1, b1⟩
theorem jp_copy {i : Nat} (C : jX p R s m args meth c y) (hK : jKn D cA s) (hlink : Cond.methodLink (jcn (jm_cn y)) i arraycopyName ∈ jw) (hfr : 1 ≤ jm_fr y) (dd : decode (jm_code y) pc = .ok (.invokestatic i, 3)) (eN : jN_copy pc ls st h = some (.inl (pc', ls', st', h'))) (kk : jKK p l e R s m args below meth c Q D cA A ad0 n0 s0 y pc' ls' st' h') : jKK p l e R s m args below meth c Q D cA A ad0 n0 s0 y pc ls st h := by
  obtain ⟨hx, hb, hr, hml, hown, hts, hnw, -, -, hf1, hf2⟩ := C
  have hnative : nativeFrameWords "java/lang/System" "arraycopy" 5 = 7 := by decide
  unfold jN_copy at eN
  split at eN
  · next n dp b sp a st0 =>
    cases hcat : Nat.ble (st0.map fun v => v.category).sum 8 with
    | false => rw [hcat] at eN; cases eN
    | true =>
      rw [hcat] at eN
      simp only [cond_true] at eN
      have hcat8 := j_cat8 hcat
      split at eN
      · next hg =>
        obtain ⟨g1, g2, g3, g4, g5⟩ := hg
        split at eN
        · next hkk =>
          cases eN
          intro ad H locs lr cells slots I
          obtain ⟨hAa, ha⟩ := j_arrc (t := 0) I.1 (by omega) hkk.1
          obtain ⟨hAb, hbb⟩ := j_arrc (t := 0) I.1 (by omega) hkk.2
          have hok := I.okc
          have hst : ∀ u ∈ st', jok h.2.1 u := fun u hu => hok.2 u (List.mem_cons_of_mem _ (List.mem_cons_of_mem _ (List.mem_cons_of_mem _ (List.mem_cons_of_mem _ hu))))
          refine jW_copy (fun x : Int32 => Value.int x) (f := ji h a) (g := ji h b) (ty := .int) hx hb (by rw [hml]; exact I.2.2.1.1.symm) hown (hts _ hlink) (hts _ j_natw.1) (hts _ j_natw.2.1) (hts _ j_natw.2.2) ha hbb (hK.arr (t := 0) (by omega)).1 rfl (fun x => ⟨fun q => (by cases q), fun r q => (by cases q)⟩) g1 g2 g3 g4 g5 (fun _ => rfl) (by omega) (by rw [ja_sum, hnative]; omega) dd fun H1 L e1 e2 e3 e4 => ?_
          refine kk ad H1 _ lr cells slots (I.cpy hst rfl (by omega) ?_ e3 ⟨by rw [e2]; exact I.2.1.1, fun q z1 z2 => ?_, fun q hq => ?_⟩ (fun k r hr => I.1.2.2.2.1 b k r hr))
          · refine ⟨fun k2 hk2 e => ?_, fun t2 ht2 e => ?_, fun e => ?_⟩
            · have e' : (jk h b).1 = 1 + k2 := e
              omega
            · have e' : (jk h b).1 = 20 + t2 := e
              have : t2 = 0 := by omega
              subst this
              exact ⟨hAb, e1⟩
            · have e' : (jk h b).1 = 30 := e
              omega
          · rw [e3 q (fun e => z2 (by rw [e]; exact hAb))]
            exact I.2.1.2.1 q z1 z2
          · rcases List.mem_append.mp hq with hq | hq
            · exact I.2.1.2.2 q hq
            · rw [e4 q hq]; exact hAb
        · split at eN
          · next hkk =>
            cases eN
            intro ad H locs lr cells slots I
            obtain ⟨hAa, ha⟩ := j_arrc (t := 1) I.1 (by omega) hkk.1
            obtain ⟨hAb, hbb⟩ := j_arrc (t := 1) I.1 (by omega) hkk.2
            have hok := I.okc
            have hst : ∀ u ∈ st', jok h.2.1 u := fun u hu => hok.2 u (List.mem_cons_of_mem _ (List.mem_cons_of_mem _ (List.mem_cons_of_mem _ (List.mem_cons_of_mem _ hu))))
            refine jW_copy (fun x : Int64 => Value.long x) (f := jj h a) (g := jj h b) (ty := .long) hx hb (by rw [hml]; exact I.2.2.1.1.symm) hown (hts _ hlink) (hts _ j_natw.1) (hts _ j_natw.2.1) (hts _ j_natw.2.2) ha hbb (hK.arr (t := 1) (by omega)).1 rfl (fun x => ⟨fun q => (by cases q), fun r q => (by cases q)⟩) g1 g2 g3 g4 g5 (fun _ => rfl) (by omega) (by rw [ja_sum, hnative]; omega) dd fun H1 L e1 e2 e3 e4 => ?_
            refine kk ad H1 _ lr cells slots (I.cpy hst rfl (by omega) ?_ e3 ⟨by rw [e2]; exact I.2.1.1, fun q z1 z2 => ?_, fun q hq => ?_⟩ (fun k r hr => I.1.2.2.2.1 b k r hr))
            · refine ⟨fun k2 hk2 e => ?_, fun t2 ht2 e => ?_, fun e => ?_⟩
              · have e' : (jk h b).1 = 1 + k2 := e
                omega
              · have e' : (jk h b).1 = 20 + t2 := e
                have : t2 = 1 := by omega
                subst this
                exact ⟨hAb, e1⟩
              · have e' : (jk h b).1 = 30 := e
                omega
            · rw [e3 q (fun e => z2 (by rw [e]; exact hAb))]
              exact I.2.1.2.1 q z1 z2
            · rcases List.mem_append.mp hq with hq | hq
              · exact I.2.1.2.2 q hq
              · rw [e4 q hq]; exact hAb
          · cases eN
      · cases eN
  · cases eN
end
end
section
/-! SIMULATION 3: the methods' words; the step; calls; the run -/
def jws (y : Nat) : List Cond := .code (jm_name y) (jm_code y) (jm_max y) (jm_ret y) :: jw
set_option maxRecDepth 100000 in
theorem jm_codes : (jmL.take jmNL).map (fun e => Cond.code e.1 e.2.1 e.2.2.1 e.2.2.2.1) = jmC.filterMap (fun i => lw_tbl[i]?) := rfl
theorem jm_len : jmL.length = jmNL + 1 := by decide +kernel
theorem jm_in {y : Nat} (hy : y < jmNL) : jm y ∈ jmL.take jmNL := by
  have h1 : y < jmL.length := by rw [jm_len]; omega
  unfold jm
  rw [List.getD_eq_getElem?_getD, List.getElem?_eq_getElem h1, Option.getD_some]
  exact List.mem_take_iff_getElem.mpr ⟨y, by omega, rfl⟩
theorem jm_code_in {y : Nat} (hy : y < jmNL) : Cond.code (jm_name y) (jm_code y) (jm_max y) (jm_ret y) ∈ jw := by
  have h1 : Cond.code (jm_name y) (jm_code y) (jm_max y) (jm_ret y) ∈ (jmL.take jmNL).map (fun e => Cond.code e.1 e.2.1 e.2.2.1 e.2.2.2.1) := List.mem_map.mpr ⟨jm y, jm_in hy, rfl⟩
  rw [jm_codes] at h1
  obtain ⟨i, -, hi⟩ := List.mem_filterMap.mp h1
  exact jw_mem hi rfl
theorem j_good {y : Nat} (hy : y < jmNL) : GoodIn jw (jws y) := by
  intro w hw
  rcases List.mem_cons.mp hw with rfl | hw
  · exact ⟨jm_code_in hy, Or.inl rfl⟩
  · exact ⟨hw, good_of_word (List.mem_filter.mp hw).2⟩
/-- each method's words -/
theorem jm_ok0 : ((List.range jmNL).all fun y => match jmP[y]? with
  | some (a, b, c, true) => (decide (lw_tbl[a]? = some (.static (jm_name y))) && goodWord (.static (jm_name y))) && (decide (lw_tbl[c]? = some (.initialized (jm_name y).cls)) && goodWord (.initialized (jm_name y).cls)) && decide (b = 0)
  | some (a, b, c, false) => (decide (lw_tbl[a]? = some (.instanceMethod (jm_name y))) && goodWord (.instanceMethod (jm_name y))) && (decide (lw_tbl[c]? = some (.initialized (jm_name y).cls)) && goodWord (.initialized (jm_name y).cls)) && (jm_ini y || (decide (lw_tbl[b]? = some (.selects (jm_name y).cls (jm_name y) (jm_name y))) && goodWord (.selects (jm_name y).cls (jm_name y) (jm_name y))))
  | none => false) = true := by decide +kernel
theorem jm_ok1 : ((List.range jmNL).all fun y => plainName (jm_name y).cls && (decide ((jm_name y).cls ≠ "java/lang/invoke/MethodHandle") && (decide ((jm_name y).cls ≠ "java/lang/invoke/VarHandle") && (decide ((parseMethodDescriptor (jm_name y).desc).map (fun d => d.parameters.length) = some (jm_na y)) && (decide (jcn (jm_cn y) = (jm_name y).cls) && (decide (jm_max y ≤ 31) && ((!jm_ini y || (decide ((jm_name y).name = "<init>") && (decide (jcn (jm_cn y) = jcR (jm_ci y)) && decide (jm_ret y = none)))) && decide (jm_fr y ≤ 12)))))))) = true := by decide +kernel
theorem jm_ok {y : Nat} (hy : y < jmNL) : plainName (jm_name y).cls = true ∧ ((jm_name y).cls ≠ "java/lang/invoke/MethodHandle" ∧ (jm_name y).cls ≠ "java/lang/invoke/VarHandle" ∧ (parseMethodDescriptor (jm_name y).desc).map (fun d => d.parameters.length) = some (jm_na y)) ∧ jcn (jm_cn y) = (jm_name y).cls ∧ jm_max y ≤ 31 ∧ (jm_ini y = true → (jm_name y).name = "<init>" ∧ jcn (jm_cn y) = jcR (jm_ci y) ∧ jm_ret y = none) := by
  have h1 := List.all_eq_true.mp jm_ok1 y (List.mem_range.mpr hy)
  simp only [Bool.and_eq_true, Bool.or_eq_true, decide_eq_true_eq, Bool.not_eq_true'] at h1
  obtain ⟨h1, h2, h3, h4, h5, h6, h7, h8⟩ := h1
  refine ⟨h1, ⟨h2, h3, h4⟩, h5, h6, fun hi => ?_⟩
  rcases h7 with h7 | h7
  · rw [hi] at h7; cases h7
  · exact h7
theorem jm_stat {y : Nat} (hy : y < jmNL) (hs : (jmP.getD y (0, 0, 0, false)).2.2.2 = true) : Cond.static (jm_name y) ∈ jw ∧ Cond.initialized (jm_name y).cls ∈ jw := by
  have h1 := List.all_eq_true.mp jm_ok0 y (List.mem_range.mpr hy)
  rw [List.getD_eq_getElem?_getD] at hs
  cases hp : jmP[y]? with
  | none => rw [hp] at h1; cases h1
  | some q =>
    obtain ⟨a, b, c, t⟩ := q
    rw [hp] at h1 hs
    cases t with
    | false => cases hs
    | true =>
      simp only [Bool.and_eq_true, decide_eq_true_eq] at h1
      exact ⟨jw_mem h1.1.1.1 h1.1.1.2, jw_mem h1.1.2.1 h1.1.2.2⟩
theorem jm_inst {y : Nat} (hy : y < jmNL) (hs : (jmP.getD y (0, 0, 0, true)).2.2.2 = false) : Cond.instanceMethod (jm_name y) ∈ jw ∧ Cond.initialized (jm_name y).cls ∈ jw ∧ (jm_ini y = false → Cond.selects (jm_name y).cls (jm_name y) (jm_name y) ∈ jw) := by
  have h1 := List.all_eq_true.mp jm_ok0 y (List.mem_range.mpr hy)
  rw [List.getD_eq_getElem?_getD] at hs
  cases hp : jmP[y]? with
  | none => rw [hp] at h1; cases h1
  | some q =>
    obtain ⟨a, b, c, t⟩ := q
    rw [hp] at h1 hs
    cases t with
    | true => cases hs
    | false =>
      simp only [Bool.and_eq_true, Bool.or_eq_true, decide_eq_true_eq] at h1
      refine ⟨jw_mem h1.1.1.1 h1.1.1.2, jw_mem h1.1.2.1 h1.1.2.2, fun hi => ?_⟩
      rcases h1.2 with h2 | h2
      · rw [hi] at h2; cases h2
      · exact jw_mem h2.1 h2.2
def jmw (w i kind cal : Nat) : Cond := match kind with
  | 0 => .methodLink (jcn w) i (jm_name cal)
  | 2 => .methodLink (jcn w) i (jm_name cal)
  | 4 => .methodLink (jcn w) i (jm_name cal)
  | 6 => .methodLink (jcn w) i objectInit
  | 7 => .methodLink (jcn w) i Lib.Math.max.name
  | 8 => .methodLink (jcn w) i Lib.Math.min.name
  | 9 => .methodLink (jcn w) i arraycopyName
  | _ => .methodLinkNest (jcn w) i (jm_name cal) RX9
theorem jt_m_ok0 : (jt_mL.all fun e => decide (lw_tbl[e.2.2.2]? = some (jmw e.1.1 e.1.2 e.2.1 e.2.2.1)) && ((bif jnest (jmw e.1.1 e.1.2 e.2.1 e.2.2.1) then (decide (e.2.1 = 1) || (decide (e.2.1 = 3) || decide (e.2.1 = 5))) else goodWord (jmw e.1.1 e.1.2 e.2.1 e.2.2.1) && !(decide (e.2.1 = 1) || (decide (e.2.1 = 3) || decide (e.2.1 = 5)))) && (decide (6 ≤ e.2.1) || (decide (e.2.2.1 < jmNL) && (bif decide (e.2.1 ≤ 1) then (jmP.getD e.2.2.1 (0, 0, 0, false)).2.2.2 else !(jmP.getD e.2.2.1 (0, 0, 0, true)).2.2.2 && (bif decide (e.2.1 ≤ 3) then !jm_ini e.2.2.1 && decide (jcR (jm_ci e.2.2.1) = (jm_name e.2.2.1).cls ∧ jm_ci e.2.2.1 < 9) else jm_ini e.2.2.1)))))) = true := by decide +kernel
end
section
/-! SIMULATION 4: one step, of any kind -/
theorem jt_m_ok {w i kind cal q : Nat} (h : jt_m w i = some (kind, cal, q)) : (bif jnest (jmw w i kind cal) then jmw w i kind cal ∈ jwn ∧ (kind = 1 ∨ kind = 3 ∨ kind = 5) else jmw w i kind cal ∈ jw ∧ ¬ (kind = 1 ∨ kind = 3 ∨ kind = 5)) ∧ (kind < 6 → cal < jmNL ∧ (kind ≤ 1 → (jmP.getD cal (0, 0, 0, false)).2.2.2 = true) ∧ (2 ≤ kind → (jmP.getD cal (0, 0, 0, true)).2.2.2 = false) ∧ (2 ≤ kind → kind ≤ 3 → jm_ini cal = false ∧ jcR (jm_ci cal) = (jm_name cal).cls ∧ jm_ci cal < 9) ∧ (4 ≤ kind → jm_ini cal = true)) := by
  have h1 := List.all_eq_true.mp jt_m_ok0 _ (j_lookup h)
  simp only [Bool.and_eq_true, Bool.or_eq_true, decide_eq_true_eq] at h1
  obtain ⟨h1, h2, h3⟩ := h1
  refine ⟨?_, fun hk => ?_⟩
  · cases hn : jnest (jmw w i kind cal) with
    | true =>
      rw [hn] at h2
      simp only [cond_true, Bool.or_eq_true, decide_eq_true_eq] at h2
      exact ⟨jwn_mem h1 hn, h2⟩
    | false =>
      rw [hn] at h2
      simp only [cond_false, Bool.and_eq_true, Bool.not_eq_true', Bool.or_eq_false_iff, decide_eq_false_iff_not] at h2
      exact ⟨jw_mem h1 h2.1, fun q => by rcases q with q | q | q; exact h2.2.1 q; exact h2.2.2.1 q; exact h2.2.2.2 q⟩
  · rcases h3 with h3 | h3
    · omega
    · obtain ⟨h3, h4⟩ := h3
      refine ⟨h3, fun q => ?_, fun q => ?_, fun q q2 => ?_, fun q => ?_⟩
      · rw [decide_eq_true q] at h4
        exact h4
      · rw [decide_eq_false (by omega)] at h4
        simp only [cond_false, Bool.and_eq_true, Bool.not_eq_true'] at h4
        exact h4.1
      · rw [decide_eq_false (by omega)] at h4
        simp only [cond_false, Bool.and_eq_true] at h4
        rw [decide_eq_true q2] at h4
        simp only [cond_true, Bool.and_eq_true, Bool.not_eq_true', decide_eq_true_eq] at h4
        exact h4.2
      · rw [decide_eq_false (by omega)] at h4
        simp only [cond_false, Bool.and_eq_true] at h4
        rw [decide_eq_false (by omega)] at h4
        exact h4.2
set_option maxRecDepth 100000 in
theorem j_codeM : Cond.code Lib.Math.max.name Lib.Math.max.code 2 (some .int) ∈ jw ∧ Cond.code Lib.Math.min.name Lib.Math.min.code 2 (some .int) ∈ jw ∧ Cond.code objectInit ⟨#[0xb1]⟩ 1 none ∈ jw :=
  ⟨jw_mem (i := jmX.getD 0 0) rfl rfl, jw_mem (i := jmX.getD 1 0) rfl rfl, jw_mem (i := jmX.getD 2 0) rfl rfl⟩
theorem j_wordM : Cond.static Lib.Math.max.name ∈ jw ∧ Cond.static Lib.Math.min.name ∈ jw ∧ Cond.instanceMethod objectInit ∈ jw ∧ Cond.initialized "java/lang/Math" ∈ jw :=
  ⟨jw_mem (i := jmX.getD 3 0) (by decide +kernel) rfl, jw_mem (i := jmX.getD 4 0) (by decide +kernel) rfl, jw_mem (i := jmX.getD 5 0) (by decide +kernel) rfl, jw_mem (i := jmX.getD 6 0) (by decide +kernel) rfl⟩
section
variable {p : Program} {l : Launch} {e : Env} {R : Room} {s : State} {m : MethodId} {args : Array Value} {below : List Frame} {meth : Method} {c : Code} {Q : State → Prop} {D : va_G} {cA : Nat → ClassId} {A : Nat → Prop} {ad0 : Nat → Nat} {n0 s0 y : Nat}
variable {pc : Nat} {ls : jL} {st : List Value} {h : jH} {pc' : Nat} {ls' : jL} {st' : List Value} {h' : jH}
theorem jp_calls {i op : Nat} {ins : Instr} (C : jX p R s m args meth c y) (hK : jKn D cA s) (hb1 : h'.2.1 ≤ n0 + R.cells) (hb2 : h'.2.2 ≤ s0 + R.slots) (hop : (op = 0 ∧ ins = .invokestatic i) ∨ (op = 1 ∧ ins = .invokevirtual i) ∨ (op = 2 ∧ ins = .invokespecial i)) (dd : decode (jm_code y) pc = .ok (ins, 3)) (eN : jN_call y i pc ls st h op = some (.inl (pc', ls', st', h'))) (kk : jKK p l e R s m args below meth c Q D cA A ad0 n0 s0 y pc' ls' st' h') : jKK p l e R s m args below meth c Q D cA A ad0 n0 s0 y pc ls st h := by
  have ncl : ∀ (cal k : Nat) (z : Nat × jL × List Value × jH), jcl y cal k st ≠ some (.inl z) := by
    intro cal k z hz
    unfold jcl at hz
    cases hq : (Nat.ble k st.length && (Nat.blt (jm_fr cal) (jm_fr y) && (Nat.ble ((st.take k).map fun v => v.category).sum (jm_max cal) && Nat.ble ((st.drop k).map fun v => v.category).sum 8))) <;> rw [hq] at hz <;> cases hz
  obtain ⟨hx, hb, hr, hml, hown, hts, hnw, -, -, hf1, hf2⟩ := id C
  unfold jN_call at eN
  split at eN
  · next kind cal q hf =>
    obtain ⟨hw, -⟩ := jt_m_ok hf
    split at eN
    · exact absurd eN (ncl _ _ _)
    · exact absurd eN (ncl _ _ _)
    · split at eN
      · next b a st0 =>
        cases hcat : (Nat.ble 1 (jm_fr y) && Nat.ble (st0.map fun v => v.category).sum 8) with
        | false => rw [hcat] at eN; cases eN
        | true =>
          rw [hcat] at eN
          rw [Bool.and_eq_true] at hcat
          have h1 := Nat.le_of_ble_eq_true hcat.1
          have h2 := j_cat8 hcat.2
          cases eN
          rcases hop with ⟨-, rfl⟩ | ⟨q0, -⟩ | ⟨q0, -⟩
          · intro ad H locs lr cells slots I
            obtain ⟨-, -, -, -, hst, -, -, hn, hs⟩ := id I
            exact va_mmax hx hb (by rw [hml]; exact I.2.2.1.1.symm) hown (hts _ hw.1) (hts _ j_wordM.1) (hts _ j_wordM.2.2.2) (hts _ j_codeM.1) (by omega) (by rw [ja_sum]; omega) (by omega) (by omega) dd (kk ad H locs lr cells slots (I.stk (j_ok1 trivial (fun u hu => I.okc.2 u (List.mem_cons_of_mem _ hu)))))
          · cases q0
          · cases q0
      · cases eN
    · split at eN
      · next b a st0 =>
        cases hcat : (Nat.ble 1 (jm_fr y) && Nat.ble (st0.map fun v => v.category).sum 8) with
        | false => rw [hcat] at eN; cases eN
        | true =>
          rw [hcat] at eN
          rw [Bool.and_eq_true] at hcat
          have h1 := Nat.le_of_ble_eq_true hcat.1
          have h2 := j_cat8 hcat.2
          cases eN
          rcases hop with ⟨-, rfl⟩ | ⟨q0, -⟩ | ⟨q0, -⟩
          · intro ad H locs lr cells slots I
            obtain ⟨-, -, -, -, hst, -, -, hn, hs⟩ := id I
            exact va_mmin hx hb (by rw [hml]; exact I.2.2.1.1.symm) hown (hts _ hw.1) (hts _ j_wordM.2.1) (hts _ j_wordM.2.2.2) (hts _ j_codeM.2.1) (by omega) (by rw [ja_sum]; omega) (by omega) (by omega) dd (kk ad H locs lr cells slots (I.stk (j_ok1 trivial (fun u hu => I.okc.2 u (List.mem_cons_of_mem _ hu)))))
          · cases q0
          · cases q0
      · cases eN
    · cases hcat : Nat.ble 1 (jm_fr y) with
      | false => rw [hcat] at eN; cases eN
      | true =>
        rw [hcat] at eN
        rcases hop with ⟨-, rfl⟩ | ⟨q0, -⟩ | ⟨q0, -⟩
        · exact jp_copy C hK hw.1 (Nat.le_of_ble_eq_true hcat) dd eN kk
        · cases q0
        · cases q0
    · split at eN
      · split at eN
        · exact absurd eN (ncl _ _ _)
        · cases eN
      · cases eN
    · split at eN
      · split at eN
        · exact absurd eN (ncl _ _ _)
        · cases eN
      · cases eN
    · split at eN
      · exact absurd eN (ncl _ _ _)
      · cases eN
    · split at eN
      · exact absurd eN (ncl _ _ _)
      · cases eN
    · split at eN
      · next a st0 =>
        cases hcat : (Nat.ble 1 (jm_fr y) && Nat.ble (st0.map fun v => v.category).sum 8) with
        | false => rw [hcat] at eN; cases eN
        | true =>
          rw [hcat] at eN
          rw [Bool.and_eq_true] at hcat
          have h1 := Nat.le_of_ble_eq_true hcat.1
          have h2 := j_cat8 hcat.2
          cases eN
          rcases hop with ⟨q0, -⟩ | ⟨q0, -⟩ | ⟨-, rfl⟩
          · cases q0
          · cases q0
          · intro ad H locs lr cells slots I
            exact W.objInit hx hb hown (hts _ hw.1) (hts _ j_wordM.2.2.1) (hts _ j_codeM.2.2) rfl (by rw [hml]; exact I.2.2.1.1) rfl dd (by omega) (by show 2 * 0 + _ + 12 ≤ _; rw [ja_sum]; omega) (kk ad H locs lr cells slots (I.stk I.okc.2))
      · cases eN
    · cases eN
  · cases eN
set_option maxHeartbeats 2000000 in
theorem j_step {i : Instr} (C : jX p R s m args meth c y) (hK : jKn D cA s) (hA : ∀ q, s.heap.size ≤ q → A q) (hci : jm_ini y = true → jcn (jm_cn y) = jcR (jm_ci y)) (hb1 : h'.2.1 ≤ n0 + R.cells) (hb2 : h'.2.2 ≤ s0 + R.slots) (d : jD y pc = some i) (eN : jN i y pc ls st h = some (.inl (pc', ls', st', h'))) (kk : jKK p l e R s m args below meth c Q D cA A ad0 n0 s0 y pc' ls' st' h') : jKK p l e R s m args below meth c Q D cA A ad0 n0 s0 y pc ls st h := by
  obtain ⟨n, dd, hl⟩ := j_d d
  obtain ⟨hx, hb, hr, hml, hown, hts, hnw, -⟩ := id C
  cases i
  case iconst k =>
    obtain rfl : n = 1 := eq_of_beq hl
    cases eN
    exact jp_push (fun _ => by rfl) (fun _ => by trivial) (fun _ _ _ _ _ _ w => lv_iconst hx hb dd rfl w) kk
  case bipush k =>
    obtain rfl : n = 2 := eq_of_beq hl
    cases eN
    exact jp_push (fun _ => by rfl) (fun _ => by trivial) (fun _ _ _ _ _ _ w => lv_bipush hx hb dd rfl w) kk
  case sipush k =>
    obtain rfl : n = 3 := eq_of_beq hl
    cases eN
    exact jp_push (fun _ => by rfl) (fun _ => by trivial) (fun _ _ _ _ _ _ w => lv_sipush hx hb dd rfl w) kk
  case lconst k =>
    obtain rfl : n = 1 := eq_of_beq hl
    cases eN
    exact jp_push (fun _ => by rfl) (fun _ => by trivial) (fun _ _ _ _ _ _ w => lv_lconst hx hb dd rfl w) kk
  case aconst_null =>
    obtain rfl : n = 1 := eq_of_beq hl
    cases eN
    exact jp_push (fun _ => by rfl) (fun _ => by trivial) (fun _ _ _ _ _ _ w => lv_null hx hb dd w) kk
  case ldc k =>
    obtain rfl : n = 2 := eq_of_beq hl
    replace eN : (match jt_k (jm_cn y) k with
      | some (v, _) => jgo (pc + 2) ls (.int v :: st) h
      | none => none) = some (.inl (pc', ls', st', h')) := eN
    split at eN
    · next hf =>
      cases eN
      exact jp_push (fun _ => by rfl) (fun _ => by trivial) (fun _ _ _ _ _ _ w => lv_ldc hx hb hown (hts _ (jt_k_ok hf)) dd w) kk
    · cases eN
  case ldc_w k =>
    obtain rfl : n = 3 := eq_of_beq hl
    replace eN : (match jt_k (jm_cn y) k with
      | some (v, _) => jgo (pc + 3) ls (.int v :: st) h
      | none => none) = some (.inl (pc', ls', st', h')) := eN
    split at eN
    · next hf =>
      cases eN
      exact jp_push (fun _ => by rfl) (fun _ => by trivial) (fun _ _ _ _ _ _ w => lv_ldcw hx hb hown (hts _ (jt_k_ok hf)) dd w) kk
    · cases eN
  case ldc2_w k =>
    obtain rfl : n = 3 := eq_of_beq hl
    replace eN : (match jt_l (jm_cn y) k with
      | some (v, _) => jgo (pc + 3) ls (.long v :: st) h
      | none => none) = some (.inl (pc', ls', st', h')) := eN
    split at eN
    · next hf =>
      cases eN
      exact jp_push (fun _ => by rfl) (fun _ => by trivial) (fun _ _ _ _ _ _ w => lv_ldc2 hx hb hown (hts _ (jt_l_ok hf)) dd w) kk
    · cases eN
  case iload_n k =>
    obtain rfl : n = 1 := eq_of_beq hl
    exact jp_load (fun _ _ _ _ _ _ ad v hv hl w => by cases v <;> first | exact lv_iload_n hx hb dd rfl hl w | cases hv) eN kk
  case iload k =>
    obtain rfl : n = 2 := eq_of_beq hl
    exact jp_load (fun _ _ _ _ _ _ ad v hv hl w => by cases v <;> first | exact lv_iload hx hb dd hl w | cases hv) eN kk
  case lload_n k =>
    obtain rfl : n = 1 := eq_of_beq hl
    exact jp_load (fun _ _ _ _ _ _ ad v hv hl w => by cases v <;> first | exact lv_lload_n hx hb dd rfl hl w | cases hv) eN kk
  case lload k =>
    obtain rfl : n = 2 := eq_of_beq hl
    exact jp_load (fun _ _ _ _ _ _ ad v hv hl w => by cases v <;> first | exact lv_lload hx hb dd hl w | cases hv) eN kk
  case aload_n k =>
    obtain rfl : n = 1 := eq_of_beq hl
    exact jp_load (fun _ _ _ _ _ _ ad v hv hl w => by cases v <;> first | exact lv_aload_n hx hb dd rfl hl w | exact lv_aload_nN hx hb dd rfl hl w | cases hv) eN kk
  case aload k =>
    obtain rfl : n = 2 := eq_of_beq hl
    exact jp_load (fun _ _ _ _ _ _ ad v hv hl w => by cases v <;> first | exact lv_aload hx hb dd hl w | exact lv_aloadN hx hb dd hl w | cases hv) eN kk
  case istore_n k =>
    obtain rfl : n = 1 := eq_of_beq hl
    exact jp_st1 (fun v hv => by cases v <;> first | rfl | cases hv) (fun _ _ _ _ _ _ ad v _ _ hv h0 hn hl w => by cases v <;> first | exact lv_istore_n hx hb dd rfl h0 hn hl w | cases hv) eN kk
  case istore k =>
    obtain rfl : n = 2 := eq_of_beq hl
    exact jp_st1 (fun v hv => by cases v <;> first | rfl | cases hv) (fun _ _ _ _ _ _ ad v _ _ hv h0 hn hl w => by cases v <;> first | exact lv_istore hx hb dd h0 hn hl w | cases hv) eN kk
  case astore_n k =>
    obtain rfl : n = 1 := eq_of_beq hl
    exact jp_st1 (fun v hv => by cases v <;> first | rfl | cases hv) (fun _ _ _ _ _ _ ad v _ _ hv h0 hn hl w => by cases v <;> first | exact lv_astore_n hx hb dd rfl h0 hn hl w | exact lv_astore_nN hx hb dd rfl h0 hn hl w | cases hv) eN kk
  case astore k =>
    obtain rfl : n = 2 := eq_of_beq hl
    exact jp_st1 (fun v hv => by cases v <;> first | rfl | cases hv) (fun _ _ _ _ _ _ ad v _ _ hv h0 hn hl w => by cases v <;> first | exact lv_astore hx hb dd h0 hn hl w | exact lv_astoreN hx hb dd h0 hn hl w | cases hv) eN kk
  case lstore_n k =>
    obtain rfl : n = 1 := eq_of_beq hl
    exact jp_st2 (fun _ _ _ _ _ _ x _ _ h0 hn hl w => lv_lstore_n hx hb dd rfl h0 hn hl w) eN kk
  case lstore k =>
    obtain rfl : n = 2 := eq_of_beq hl
    exact jp_st2 (fun _ _ _ _ _ _ x _ _ h0 hn hl w => lv_lstore hx hb dd h0 hn hl w) eN kk
  case iinc k q =>
    obtain rfl : n = 3 := eq_of_beq hl
    replace eN : (match jld ls k with
      | some (.int x) => match jst1 ls k (.int (x + Int32.ofInt q)) with
        | some ls' => jgo (pc + 3) ls' st h
        | none => none
      | _ => none) = some (.inl (pc', ls', st', h')) := eN
    split at eN
    · next x hv =>
      split at eN
      · next ls1 hl1 =>
        cases eN
        exact jp_inc hx hb dd hv hl1 kk
      · cases eN
    · cases eN
  case iadd =>
    obtain rfl : n = 1 := eq_of_beq hl
    exact jp_i2 (fun _ _ _ _ _ _ _ _ w => lv_iadd hx hb dd w) eN kk
  case isub =>
    obtain rfl : n = 1 := eq_of_beq hl
    exact jp_i2 (fun _ _ _ _ _ _ _ _ w => lv_isub hx hb dd w) eN kk
  case imul =>
    obtain rfl : n = 1 := eq_of_beq hl
    exact jp_i2 (fun _ _ _ _ _ _ _ _ w => lv_imul hx hb dd w) eN kk
  case iand =>
    obtain rfl : n = 1 := eq_of_beq hl
    exact jp_i2 (fun _ _ _ _ _ _ _ _ w => lv_iand hx hb dd w) eN kk
  case ior =>
    obtain rfl : n = 1 := eq_of_beq hl
    exact jp_i2 (fun _ _ _ _ _ _ _ _ w => lv_ior hx hb dd w) eN kk
  case ixor =>
    obtain rfl : n = 1 := eq_of_beq hl
    exact jp_i2 (fun _ _ _ _ _ _ _ _ w => lv_ixor hx hb dd w) eN kk
  case ishl =>
    obtain rfl : n = 1 := eq_of_beq hl
    exact jp_i2 (fun _ _ _ _ _ _ _ _ w => lv_ishl hx hb dd w) eN kk
  case ishr =>
    obtain rfl : n = 1 := eq_of_beq hl
    exact jp_i2 (fun _ _ _ _ _ _ _ _ w => lv_ishr hx hb dd w) eN kk
  case iushr =>
    obtain rfl : n = 1 := eq_of_beq hl
    exact jp_i2 (fun _ _ _ _ _ _ _ _ w => lv_iushr hx hb dd rfl w) eN kk
  case idiv =>
    obtain rfl : n = 1 := eq_of_beq hl
    replace eN : (match st with
      | .int b :: .int a :: st => if b = 0 then none else jgo (pc + 1) ls (.int (a / b) :: st) h
      | _ => none) = some (.inl (pc', ls', st', h')) := eN
    split at eN
    · split at eN
      · cases eN
      · next hz =>
        cases eN
        intro ad H locs lr cells slots I
        exact lv_idiv hx hb dd hz (kk ad H locs lr cells slots (I.stk (j_ok1 trivial (fun u hu => I.okc.2 u (List.mem_cons_of_mem _ hu)))))
    · cases eN
  case irem =>
    obtain rfl : n = 1 := eq_of_beq hl
    replace eN : (match st with
      | .int b :: .int a :: st => if b = 0 then none else jgo (pc + 1) ls (.int (a - a / b * b) :: st) h
      | _ => none) = some (.inl (pc', ls', st', h')) := eN
    split at eN
    · split at eN
      · cases eN
      · next hz =>
        cases eN
        intro ad H locs lr cells slots I
        exact lv_irem hx hb dd hz (kk ad H locs lr cells slots (I.stk (j_ok1 trivial (fun u hu => I.okc.2 u (List.mem_cons_of_mem _ hu)))))
    · cases eN
  case land =>
    obtain rfl : n = 1 := eq_of_beq hl
    exact jp_l2 (fun _ _ _ _ _ _ _ _ w => lv_land hx hb dd w) eN kk
  case lor =>
    obtain rfl : n = 1 := eq_of_beq hl
    exact jp_l2 (fun _ _ _ _ _ _ _ _ w => lv_lor hx hb dd w) eN kk
  case lxor =>
    obtain rfl : n = 1 := eq_of_beq hl
    exact jp_l2 (fun _ _ _ _ _ _ _ _ w => lv_lxor hx hb dd w) eN kk
  case lshl =>
    obtain rfl : n = 1 := eq_of_beq hl
    exact jp_li (fun _ _ _ _ _ _ _ _ w => lv_lshl hx hb dd rfl w) eN kk
  case lshr =>
    obtain rfl : n = 1 := eq_of_beq hl
    exact jp_li (fun _ _ _ _ _ _ _ _ w => lv_lshr hx hb dd rfl w) eN kk
  case lcmp =>
    obtain rfl : n = 1 := eq_of_beq hl
    replace eN : (match st with
      | .long b :: .long a :: st => jgo (pc + 1) ls (.int (lg_cmp a b) :: st) h
      | _ => none) = some (.inl (pc', ls', st', h')) := eN
    split at eN
    · cases eN
      intro ad H locs lr cells slots I
      exact W.lcmp hx hb dd (kk ad H locs lr cells slots (I.stk (j_ok1 trivial (fun u hu => I.okc.2 u (List.mem_cons_of_mem _ hu)))))
    · cases eN
  case i2l =>
    obtain rfl : n = 1 := eq_of_beq hl
    replace eN : (match st with
      | .int a :: st => jgo (pc + 1) ls (.long a.toInt64 :: st) h
      | _ => none) = some (.inl (pc', ls', st', h')) := eN
    split at eN
    · cases eN
      intro ad H locs lr cells slots I
      exact lv_i2l hx hb dd rfl (kk ad H locs lr cells slots (I.stk (j_ok1 trivial I.okc.2)))
    · cases eN
  case l2i =>
    obtain rfl : n = 1 := eq_of_beq hl
    replace eN : (match st with
      | .long a :: st => jgo (pc + 1) ls (.int a.toInt32 :: st) h
      | _ => none) = some (.inl (pc', ls', st', h')) := eN
    split at eN
    · cases eN
      intro ad H locs lr cells slots I
      exact lv_l2i hx hb dd rfl (kk ad H locs lr cells slots (I.stk (j_ok1 trivial I.okc.2)))
    · cases eN
  case dup =>
    obtain rfl : n = 1 := eq_of_beq hl
    replace eN : (match st with
      | v :: st => bif v.category == 1 then jgo (pc + 1) ls (v :: v :: st) h else none
      | _ => none) = some (.inl (pc', ls', st', h')) := eN
    split at eN
    · next v st0 =>
      cases hc : (v.category == 1) with
      | false => rw [hc] at eN; cases eN
      | true =>
        rw [hc] at eN
        cases eN
        intro ad H locs lr cells slots I
        exact lv_dup hx hb dd (by rw [ja_cat]; exact eq_of_beq hc) (kk ad H locs lr cells slots (I.stk (j_ok1 I.okc.1 (j_ok1 I.okc.1 I.okc.2))))
    · cases eN
  case dup2 =>
    obtain rfl : n = 1 := eq_of_beq hl
    replace eN : (match st with
      | v :: w :: st => bif v.category == 1 && w.category == 1 then jgo (pc + 1) ls (v :: w :: v :: w :: st) h else none
      | _ => none) = some (.inl (pc', ls', st', h')) := eN
    split at eN
    · next v w st0 =>
      cases hc : (v.category == 1 && w.category == 1) with
      | false => rw [hc] at eN; cases eN
      | true =>
        rw [hc] at eN
        rw [Bool.and_eq_true] at hc
        cases eN
        intro ad H locs lr cells slots I
        have o1 := I.okc
        exact lv_dup2_11 hx hb dd (by rw [ja_cat]; exact eq_of_beq hc.1) (by rw [ja_cat]; exact eq_of_beq hc.2) (kk ad H locs lr cells slots (I.stk (j_ok1 o1.1 (j_ok1 (o1.2 _ List.mem_cons_self) (j_ok1 o1.1 o1.2)))))
    · cases eN
  case ifCond cd off =>
    obtain rfl : n = 3 := eq_of_beq hl
    replace eN : (match st with
      | .int x :: st => bif jokt pc off then jgo (jbr cd x 0 (jtgt pc off) (pc + 3)) ls st h else none
      | _ => none) = some (.inl (pc', ls', st', h')) := eN
    split at eN
    · cases hj : jokt pc off with
      | false => rw [hj] at eN; cases eN
      | true =>
        rw [hj] at eN
        cases eN
        exact jp_ifc hx hb dd hj kk
    · cases eN
  case if_icmp cd off =>
    obtain rfl : n = 3 := eq_of_beq hl
    replace eN : (match st with
      | .int b :: .int a :: st => bif jokt pc off then jgo (jbr cd a b (jtgt pc off) (pc + 3)) ls st h else none
      | _ => none) = some (.inl (pc', ls', st', h')) := eN
    split at eN
    · cases hj : jokt pc off with
      | false => rw [hj] at eN; cases eN
      | true =>
        rw [hj] at eN
        cases eN
        exact jp_icmp hx hb dd hj kk
    · cases eN
  case ifnull off =>
    obtain rfl : n = 3 := eq_of_beq hl
    replace eN : (match st with
      | .null :: st => bif jokt pc off then jgo (jtgt pc off) ls st h else none
      | .ref _ :: st => jgo (pc + 3) ls st h
      | _ => none) = some (.inl (pc', ls', st', h')) := eN
    split at eN
    · cases hj : jokt pc off with
      | false => rw [hj] at eN; cases eN
      | true =>
        rw [hj] at eN
        cases eN
        intro ad H locs lr cells slots I
        exact lv_ifnullN hx hb dd (j_tg hj) (kk ad H locs lr cells slots (I.stk I.okc.2))
    · cases eN
      intro ad H locs lr cells slots I
      exact lv_ifnull hx hb dd (kk ad H locs lr cells slots (I.stk I.okc.2))
    · cases eN
  case ifnonnull off =>
    obtain rfl : n = 3 := eq_of_beq hl
    replace eN : (match st with
      | .ref _ :: st => bif jokt pc off then jgo (jtgt pc off) ls st h else none
      | .null :: st => jgo (pc + 3) ls st h
      | _ => none) = some (.inl (pc', ls', st', h')) := eN
    split at eN
    · cases hj : jokt pc off with
      | false => rw [hj] at eN; cases eN
      | true =>
        rw [hj] at eN
        cases eN
        intro ad H locs lr cells slots I
        exact lv_ifnonnull hx hb dd (j_tg hj) (kk ad H locs lr cells slots (I.stk I.okc.2))
    · cases eN
      intro ad H locs lr cells slots I
      exact lv_ifnonnullN hx hb dd (kk ad H locs lr cells slots (I.stk I.okc.2))
    · cases eN
  case goto off =>
    obtain rfl : n = 3 := eq_of_beq hl
    replace eN : (bif jokt pc off then jgo (jtgt pc off) ls st h else none) = some (.inl (pc', ls', st', h')) := eN
    cases hj : jokt pc off with
    | false => rw [hj] at eN; cases eN
    | true =>
      rw [hj] at eN
      cases eN
      intro ad H locs lr cells slots I
      exact lv_goto hx hb dd (j_tg hj) (kk ad H locs lr cells slots I)
  case tableswitch dflt lo hi offs =>
    replace eN : (match st with
      | .int x :: st => if x.toInt < lo ∨ hi < x.toInt then (bif jokt pc dflt then jgo (jtgt pc dflt) ls st h else none) else match offs[(x.toInt - lo).toNat]? with
        | some off => bif jokt pc off then jgo (jtgt pc off) ls st h else none
        | none => none
      | _ => none) = some (.inl (pc', ls', st', h')) := eN
    split at eN
    · next x st0 =>
      split at eN
      · next hout =>
        cases hj : jokt pc dflt with
        | false => rw [hj] at eN; cases eN
        | true =>
          rw [hj] at eN
          cases eN
          intro ad H locs lr cells slots I
          exact lv_tableOut hx hb dd hout (j_tg hj) (kk ad H locs lr cells slots (I.stk I.okc.2))
      · next hin =>
        split at eN
        · next off ho =>
          cases hj : jokt pc off with
          | false => rw [hj] at eN; cases eN
          | true =>
            rw [hj] at eN
            cases eN
            intro ad H locs lr cells slots I
            exact lv_tableIn hx hb dd (fun q => hin (Or.inl q)) (fun q => hin (Or.inr q)) ho (j_tg hj) (kk ad H locs lr cells slots (I.stk I.okc.2))
        · cases eN
    · cases eN
  case getfield k =>
    obtain rfl : n = 3 := eq_of_beq hl
    exact jp_get C hK dd eN kk
  case putfield k =>
    obtain rfl : n = 3 := eq_of_beq hl
    exact jp_put C hK hci dd eN kk
  case iaload =>
    obtain rfl : n = 1 := eq_of_beq hl
    replace eN : jN_ald (bif jm_cn y == 12 then 30 else 20) pc ls st h j_ival = some (.inl (pc', ls', st', h')) := eN
    cases hcn : (jm_cn y == 12) with
    | true =>
      rw [hcn] at eN
      exact jp_sld C dd eN kk
    | false =>
      rw [hcn] at eN
      exact jp_ald (t := 0) (by omega) (fun _ _ => rfl) (fun _ _ _ _ _ _ _ _ _ f hc hi w => W.iald hx hb hc ((hK.arr (t := 0) (by omega)).1 _ _) (fun q => by cases q) (j_in hi _ _) (by rw [arrV_read _ _ (j_lt hi)]) rfl rfl dd w) eN kk
  case laload =>
    obtain rfl : n = 1 := eq_of_beq hl
    exact jp_ald (t := 1) (by omega) (fun _ _ => rfl) (fun _ _ _ _ _ _ _ _ _ f hc hi w => W.lald hx hb hc ((hK.arr (t := 1) (by omega)).1 _ _) (fun q => by cases q) (j_in hi _ _) (by rw [arrV_read _ _ (j_lt hi)]) rfl rfl dd w) eN kk
  case baload =>
    obtain rfl : n = 1 := eq_of_beq hl
    exact jp_ald (t := 2) (by omega) (fun _ _ => rfl) (fun _ _ _ _ _ _ _ _ _ f hc hi w => W.zald hx hb hc ((hK.arr (t := 2) (by omega)).1 _ _) (fun q => by cases q) (j_in hi _ _) (by rw [arrV_read _ _ (j_lt hi)]) rfl rfl dd w) eN kk
  case aaload =>
    obtain rfl : n = 1 := eq_of_beq hl
    replace eN : jN_ald (bif jm_cn y == 2 then 23 else 24) pc ls st h j_aval = some (.inl (pc', ls', st', h')) := eN
    cases hcn : (jm_cn y == 2) with
    | true =>
      rw [hcn] at eN
      exact jp_ald (t := 3) (by omega) (fun _ _ => rfl) (fun _ _ _ _ _ _ _ _ _ f hc hi w => W.aald (ty := .object RX5) hx hb hc ((hK.arr (t := 3) (by omega)).1 _ _) rfl (fun q => by cases q) (j_in hi _ _) (by rw [arrV_read _ _ (j_lt hi)]) rfl rfl dd w) eN kk
    | false =>
      rw [hcn] at eN
      exact jp_ald (t := 4) (by omega) (fun _ _ => rfl) (fun _ _ _ _ _ _ _ _ _ f hc hi w => W.aald (ty := .object RX7) hx hb hc ((hK.arr (t := 4) (by omega)).1 _ _) rfl (fun q => by cases q) (j_in hi _ _) (by rw [arrV_read _ _ (j_lt hi)]) rfl rfl dd w) eN kk
  case iastore =>
    obtain rfl : n = 1 := eq_of_beq hl
    refine jp_ast (t := 0) (by omega) (fun _ _ _ _ _ _ _ _ v _ f _ _ _ ad hput hc hi w => ?_) eN kk
    cases v <;> first | exact W.iast hx hb hc ((hK.arr (t := 0) (by omega)).1 _ _) (fun q => by cases q) (j_in hi _ _) rfl rfl dd w | cases hput
  case lastore =>
    obtain rfl : n = 1 := eq_of_beq hl
    refine jp_ast (t := 1) (by omega) (fun _ _ _ _ _ _ _ _ v _ f _ _ _ ad hput hc hi w => ?_) eN kk
    cases v <;> first | exact W.last hx hb hc ((hK.arr (t := 1) (by omega)).1 _ _) (fun q => by cases q) (j_in hi _ _) rfl rfl dd w | cases hput
  case bastore =>
    obtain rfl : n = 1 := eq_of_beq hl
    refine jp_ast (t := 2) (by omega) (fun _ _ _ _ _ _ _ _ v _ f _ _ _ ad hput hc hi w => ?_) eN kk
    have hn := (j_fits ad hput).1
    cases v <;> first | cases hput | skip
    next x =>
      have hn2 : narrow .boolean (.int x) = .int x := hn
      refine W.zast hx hb hc ((hK.arr (t := 2) (by omega)).1 _ _) (fun q => by cases q) (j_in hi _ _) rfl rfl dd fun H1 e1 e2 e3 => w H1 ?_ e2 e3
      rw [hn2] at e1
      exact e1
  case aastore =>
    obtain rfl : n = 1 := eq_of_beq hl
    exact jp_aast C hK dd eN kk
  case arraylength =>
    obtain rfl : n = 1 := eq_of_beq hl
    replace eN : (match st with
      | .ref a :: st => if 20 ≤ (jk h a).1 ∧ (jk h a).1 ≤ 24 ∨ (jk h a).1 = 30 then jgo (pc + 1) ls (.int (nI (jk h a).2) :: st) h else none
      | _ => none) = some (.inl (pc', ls', st', h')) := eN
    split at eN
    · split at eN
      · next hc =>
        cases eN
        exact jp_alen C hK dd hc kk
      · cases eN
    · cases eN
  case newarray t0 =>
    obtain rfl : n = 2 := eq_of_beq hl
    replace eN : (match st with
      | .int n :: st => if n < 0 ∨ 1000000 < n then none else match t0 with
        | .int => jgo (pc + 2) ls (.ref h.2.1 :: st) (jnew h 20 n.toNatClampNeg n.toNatClampNeg)
        | .long => jgo (pc + 2) ls (.ref h.2.1 :: st) (jnew h 21 n.toNatClampNeg n.toNatClampNeg)
        | .boolean => jgo (pc + 2) ls (.ref h.2.1 :: st) (jnew h 22 n.toNatClampNeg n.toNatClampNeg)
        | _ => none
      | _ => none) = some (.inl (pc', ls', st', h')) := eN
    split at eN
    · split at eN
      · cases eN
      · next hn =>
        split at eN
        · cases eN; exact jp_newa (t := 0) C hK hA dd (by omega) rfl j_arrI hn hb1 hb2 kk
        · cases eN; exact jp_newa (t := 1) C hK hA dd (by omega) rfl j_arrJ hn hb1 hb2 kk
        · cases eN; exact jp_newa (t := 2) C hK hA dd (by omega) rfl j_arrZ hn hb1 hb2 kk
        · cases eN
    · cases eN
  case anewarray k =>
    obtain rfl : n = 3 := eq_of_beq hl
    replace eN : (match jt_a (jm_cn y) k with
      | some (t, _) => match st with
        | .int n :: st => if n < 0 ∨ 1000000 < n then none else jgo (pc + 3) ls (.ref h.2.1 :: st) (jnew h (20 + t) n.toNatClampNeg n.toNatClampNeg)
        | _ => none
      | none => none) = some (.inl (pc', ls', st', h')) := eN
    split at eN
    · next hf =>
      split at eN
      · split at eN
        · cases eN
        · next hn =>
          cases eN
          exact jp_anew C hK hA dd hf hn hb1 hb2 kk
      · cases eN
    · cases eN
  case new k =>
    obtain rfl : n = 3 := eq_of_beq hl
    replace eN : (match jt_n (jm_cn y) k with
      | some (c, _, _, _) => jgo (pc + 3) ls (.ref h.2.1 :: st) (jnew h (1 + c) 0 (jcN c))
      | none => none) = some (.inl (pc', ls', st', h')) := eN
    split at eN
    · next hf =>
      cases eN
      exact jq_new C hK hA dd hf hb1 hb2 kk
    · cases eN
  case invokestatic k =>
    obtain rfl : n = 3 := eq_of_beq hl
    exact jp_calls C hK hb1 hb2 (Or.inl ⟨rfl, rfl⟩) dd eN kk
  case invokevirtual k =>
    obtain rfl : n = 3 := eq_of_beq hl
    exact jp_calls C hK hb1 hb2 (Or.inr (Or.inl ⟨rfl, rfl⟩)) dd eN kk
  case invokespecial k =>
    obtain rfl : n = 3 := eq_of_beq hl
    exact jp_calls C hK hb1 hb2 (Or.inr (Or.inr ⟨rfl, rfl⟩)) dd eN kk
  all_goals first
    | (cases eN; done)
    | (exfalso
       clear d dd hl
       simp only [jN] at eN
       revert eN
       repeat' split
       all_goals (intro q; cases q))
end
end
section
/-! SIMULATION 5: what a run keeps; returns and calls -/
/-- labels and slots grow; the script stays -/
def jMo (h h' : jH) : Prop := h.2.1 ≤ h'.2.1 ∧ h.2.2 ≤ h'.2.2 ∧ ∀ a, (jk h' a).1 = 30 → h'.1 a = h.1 a
theorem jMo.refl (h : jH) : jMo h h := ⟨Nat.le_refl _, Nat.le_refl _, fun _ _ => rfl⟩
theorem jMo.trans {h h' h'' : jH} (a : jMo h h') (b : jMo h' h'') : jMo h h'' := ⟨Nat.le_trans a.1 b.1, Nat.le_trans a.2.1 b.2.1, fun x e => by
  have h1 := b.2.2 x e
  have h2 : (jk h' x).1 = 30 := by unfold jk at e ⊢; rw [← h1]; exact e
  rw [h1, a.2.2 x h2]⟩
theorem jMo.set {h : jH} {a : Nat} {c' : jC} (hk : c'.1 = jk h a) (h0 : (jk h a).1 ≠ 30) : jMo h (jset h a c') := ⟨Nat.le_refl _, Nat.le_refl _, fun x e => by
  show (if x = a then c' else h.1 x) = h.1 x
  by_cases q : x = a
  · subst q
    have e' : ((if x = x then c' else h.1 x).1).1 = 30 := e
    rw [if_pos rfl, hk] at e'
    exact absurd e' h0
  · rw [if_neg q]⟩
theorem jMo.put {ty : FieldType} {h h' : jH} {a k : Nat} {v : Value} (hp : jput ty h a k v = some h') (h0 : (jk h a).1 ≠ 30) : jMo h h' := by
  obtain ⟨c', rfl, hk, -⟩ := jput_spec hp
  exact jMo.set hk h0
theorem jMo.new {h : jH} {k n z : Nat} (hk : k ≠ 30) : jMo h (jnew h k n z) := ⟨Nat.le_succ _, Nat.le_add_right _ _, fun x e => by
  rw [jk_new] at e
  by_cases q : x = h.2.1
  · rw [if_pos q] at e; exact absurd e hk
  · show (if x = h.2.1 then _ else h.1 x) = h.1 x
    rw [if_neg q]⟩
/-- instructions that go on, with nothing returned or called -/
def jgoer : Instr → Bool := fun i => match i with
  | .ireturn => false | .lreturn => false | .areturn => false | .return_ => false
  | .invokestatic _ => false | .invokevirtual _ => false | .invokespecial _ => false
  | _ => true
set_option maxHeartbeats 2000000 in
theorem jN_goer {i : Instr} {y pc : Nat} {ls : jL} {st : List Value} {h : jH} {r : jR} (hg : jgoer i = true) (e : jN i y pc ls st h = some r) : ∃ z, r = .inl z := by
  revert e
  cases i <;> first
    | (cases hg; done)
    | (simp only [jN, jN_load, jN_st1, jN_st2, jN_i2, jN_l2, jN_li, jN_ald, jN_ast, jN_aast, jN_get, jN_put, Bool.cond_eq_ite]
       repeat' split
       all_goals (intro q; cases q; try exact ⟨_, rfl⟩))
set_option maxHeartbeats 4000000 in
theorem jN_mo {i : Instr} {y pc : Nat} {ls : jL} {st : List Value} {h : jH} {pc' : Nat} {ls' : jL} {st' : List Value} {h' : jH} (e : jN i y pc ls st h = some (.inl (pc', ls', st', h'))) : jMo h h' := by
  revert e
  cases i
  case putfield k =>
    show jN_put y k pc ls st h = _ → _
    simp only [jN_put, Bool.cond_eq_ite]
    split
    · next c0 k0 b q hf =>
      have hc := (jt_f_ok hf).2.1
      split
      · split
        · split
          · next hk =>
            split
            · next hp =>
              intro q; cases q
              exact jMo.put hp (by omega)
            · intro q; cases q
          · intro q; cases q
        · intro q; cases q
      · intro q; cases q
    · intro q; cases q
  case iastore =>
    show jN_ast 20 pc ls st h _ = _ → _
    simp only [jN_ast]
    split
    · split
      · next hk =>
        split
        · next hp => intro q; cases q; exact jMo.put hp (by omega)
        · intro q; cases q
      · intro q; cases q
    · intro q; cases q
  case lastore =>
    show jN_ast 21 pc ls st h _ = _ → _
    simp only [jN_ast]
    split
    · split
      · next hk =>
        split
        · next hp => intro q; cases q; exact jMo.put hp (by omega)
        · intro q; cases q
      · intro q; cases q
    · intro q; cases q
  case bastore =>
    show jN_ast 22 pc ls st h _ = _ → _
    simp only [jN_ast]
    split
    · split
      · next hk =>
        split
        · next hp => intro q; cases q; exact jMo.put hp (by omega)
        · intro q; cases q
      · intro q; cases q
    · intro q; cases q
  case aastore =>
    show jN_aast pc ls st h = _ → _
    simp only [jN_aast]
    split
    · split
      · next hk => intro q; cases q; exact jMo.set rfl (by omega)
      · intro q; cases q
    · intro q; cases q
  case newarray t =>
    simp only [jN]
    split
    · split
      · intro q; cases q
      · split <;> (intro q; cases q; try exact jMo.new (by omega))
    · intro q; cases q
  case anewarray k =>
    simp only [jN]
    split
    · next hf =>
      have ht := (jt_a_ok hf).2
      split
      · split
        · intro q; cases q
        · intro q; cases q; exact jMo.new (by omega)
      · intro q; cases q
    · intro q; cases q
  case new k =>
    simp only [jN]
    split
    · next hf =>
      have ht := (jt_n_ok hf).2.2.2
      intro q; cases q; exact jMo.new (by omega)
    · intro q; cases q
  case invokestatic k =>
    show jN_call y k pc ls st h 0 = _ → _
    simp only [jN_call, jcl, jN_copy, Bool.cond_eq_ite]
    repeat' split
    all_goals first | (exfalso; omega) | (intro q; cases q <;> first | exact jMo.refl _ | exact jMo.set rfl (by omega))
  case invokevirtual k =>
    show jN_call y k pc ls st h 1 = _ → _
    simp only [jN_call, jcl, jN_copy, Bool.cond_eq_ite]
    repeat' split
    all_goals first | (exfalso; omega) | (intro q; cases q <;> exact jMo.refl _)
  case invokespecial k =>
    show jN_call y k pc ls st h 2 = _ → _
    simp only [jN_call, jcl, jN_copy, Bool.cond_eq_ite]
    repeat' split
    all_goals first | (exfalso; omega) | (intro q; cases q <;> exact jMo.refl _)
  all_goals
    (simp only [jN, jN_load, jN_st1, jN_st2, jN_i2, jN_l2, jN_li, jN_ald, jN_get, Bool.cond_eq_ite]
     repeat' split
     all_goals (intro q; cases q; try exact jMo.refl _))
/-- what is returned -/
def jRet (y : Nat) (i : Instr) (st : List Value) (h : jH) (x : Option Value × jH) : Prop :=
  (∃ v, i = .ireturn ∧ st = [.int v] ∧ x = (some (.int v), h) ∧ (jm_ret y = some .int ∨ (jm_ret y = some .boolean ∧ (v = 0 ∨ v = 1)))) ∨
  (∃ v, i = .lreturn ∧ st = [.long v] ∧ x = (some (.long v), h) ∧ jm_ret y = some .long) ∨
  (∃ v nm, i = .areturn ∧ st = [v] ∧ x = (some v, h) ∧ jm_ret y = some (.object nm) ∧ (v = .null ∨ ∃ a, v = .ref a)) ∨
  (i = .return_ ∧ st = [] ∧ x = (none, h) ∧ jm_ret y = none)
theorem jN_ret {i : Instr} {y pc : Nat} {ls : jL} {st : List Value} {h : jH} {x : Option Value × jH} (e : jN i y pc ls st h = some (.inr (.inl x))) : jRet y i st h x := by
  cases hg : jgoer i with
  | true =>
    obtain ⟨z, hz⟩ := jN_goer hg e
    cases hz
  | false =>
    revert e
    cases i <;> first | (cases hg; done) | skip
    case ireturn =>
      simp only [jN]
      split
      · split
        · next hr => intro q; cases q; exact Or.inl ⟨_, rfl, rfl, rfl, Or.inl hr⟩
        · next hr =>
          split
          · next hv => intro q; cases q; exact Or.inl ⟨_, rfl, rfl, rfl, Or.inr ⟨hr, hv⟩⟩
          · intro q; cases q
        · intro q; cases q
      · intro q; cases q
    case lreturn =>
      simp only [jN]
      split
      · split
        · next hr => intro q; cases q; exact Or.inr (Or.inl ⟨_, rfl, rfl, rfl, hr⟩)
        · intro q; cases q
      · intro q; cases q
    case areturn =>
      simp only [jN]
      split
      · split
        · next hr => intro q; cases q; exact Or.inr (Or.inr (Or.inl ⟨_, _, rfl, rfl, rfl, hr, Or.inr ⟨_, rfl⟩⟩))
        · intro q; cases q
      · split
        · next hr => intro q; cases q; exact Or.inr (Or.inr (Or.inl ⟨_, _, rfl, rfl, rfl, hr, Or.inl rfl⟩))
        · intro q; cases q
      · intro q; cases q
    case return_ =>
      simp only [jN]
      split
      · split
        · next hr => intro q; cases q; exact Or.inr (Or.inr (Or.inr ⟨rfl, rfl, rfl, hr⟩))
        · intro q; cases q
      · intro q; cases q
    case invokestatic k =>
      show jN_call y k pc ls st h 0 = _ → _
      simp only [jN_call, jcl, jN_copy, Bool.cond_eq_ite]
      repeat' split
      all_goals (intro q; cases q)
    case invokevirtual k =>
      show jN_call y k pc ls st h 1 = _ → _
      simp only [jN_call, jcl, jN_copy, Bool.cond_eq_ite]
      repeat' split
      all_goals first | (exfalso; omega) | (intro q; cases q)
    case invokespecial k =>
      show jN_call y k pc ls st h 2 = _ → _
      simp only [jN_call, jcl, jN_copy, Bool.cond_eq_ite]
      repeat' split
      all_goals first | (exfalso; omega) | (intro q; cases q)
/-- what is called: kind 0, 1 static; 2, 3 virtual; 4, 5 a constructor -/
def jCal (y : Nat) (i : Instr) (st : List Value) (h : jH) (cal : Nat) (lc : jL) (rest : List Value) : Prop :=
  ∃ (idx kind q k : Nat), jt_m (jm_cn y) idx = some (kind, cal, q) ∧ kind < 6 ∧ k ≤ st.length ∧ jm_fr cal < jm_fr y ∧ ((st.take k).map fun v => v.category).sum ≤ jm_max cal ∧ (rest.map fun v => v.category).sum ≤ 8 ∧ lc = jlv (st.take k).reverse (jm_max cal) ∧ rest = st.drop k ∧
    ((i = .invokestatic idx ∧ kind ≤ 1 ∧ k = jm_na cal) ∨ (i = .invokevirtual idx ∧ 2 ≤ kind ∧ kind ≤ 3 ∧ k = jm_na cal + 1 ∧ ∃ a, st[jm_na cal]? = some (.ref a) ∧ (jk h a).1 = 1 + jm_ci cal) ∨ (i = .invokespecial idx ∧ 4 ≤ kind ∧ k = jm_na cal + 1 ∧ ∃ a, st[jm_na cal]? = some (.ref a)))
theorem jcl_spec {y cal0 k cal : Nat} {st : List Value} {lc : jL} {rest : List Value} (e : jcl y cal0 k st = some (.inr (.inr (cal, lc, rest)))) : cal = cal0 ∧ k ≤ st.length ∧ jm_fr cal < jm_fr y ∧ ((st.take k).map fun v => v.category).sum ≤ jm_max cal ∧ (rest.map fun v => v.category).sum ≤ 8 ∧ lc = jlv (st.take k).reverse (jm_max cal) ∧ rest = st.drop k := by
  unfold jcl at e
  cases hq : (Nat.ble k st.length && (Nat.blt (jm_fr cal0) (jm_fr y) && (Nat.ble ((st.take k).map fun v => v.category).sum (jm_max cal0) && Nat.ble ((st.drop k).map fun v => v.category).sum 8))) with
  | false => rw [hq] at e; cases e
  | true =>
    rw [hq] at e
    simp only [Bool.and_eq_true] at hq
    cases e
    exact ⟨rfl, Nat.le_of_ble_eq_true hq.1, Nat.le_of_ble_eq_true hq.2.1, Nat.le_of_ble_eq_true hq.2.2.1, Nat.le_of_ble_eq_true hq.2.2.2, rfl, rfl⟩
theorem jN_cal {i : Instr} {y pc : Nat} {ls : jL} {st : List Value} {h : jH} {cal : Nat} {lc : jL} {rest : List Value} (e : jN i y pc ls st h = some (.inr (.inr (cal, lc, rest)))) : jCal y i st h cal lc rest := by
  cases hg : jgoer i with
  | true =>
    obtain ⟨z, hz⟩ := jN_goer hg e
    cases hz
  | false =>
    cases i <;> first | (cases hg; done) | skip
    case ireturn => exfalso; revert e; simp only [jN]; repeat' split
                    all_goals (intro q; cases q)
    case lreturn => exfalso; revert e; simp only [jN]; repeat' split
                    all_goals (intro q; cases q)
    case areturn => exfalso; revert e; simp only [jN]; repeat' split
                    all_goals (intro q; cases q)
    case return_ => exfalso; revert e; simp only [jN]; repeat' split
                    all_goals (intro q; cases q)
    case invokestatic k =>
      replace e : jN_call y k pc ls st h 0 = some (.inr (.inr (cal, lc, rest))) := e
      unfold jN_call at e
      split at e
      · next kind cal0 q hf =>
        split at e
        all_goals first
          | (exfalso; omega)
          | (obtain ⟨rfl, h2, h3, h4, h5, h6, h7⟩ := jcl_spec e
             exact ⟨k, _, q, _, hf, by omega, h2, h3, h4, h5, h6, h7, Or.inl ⟨rfl, by omega, rfl⟩⟩)
          | (exfalso; revert e; simp only [jN_copy, Bool.cond_eq_ite]; repeat' split
             all_goals (intro q; cases q))
          | (cases e; done)
      · cases e
    case invokevirtual k =>
      replace e : jN_call y k pc ls st h 1 = some (.inr (.inr (cal, lc, rest))) := e
      unfold jN_call at e
      split at e
      · next kind cal0 q hf =>
        split at e
        all_goals first
          | (exfalso; omega)
          | (split at e
             · next a ha =>
               split at e
               · next hk =>
                 obtain ⟨rfl, h2, h3, h4, h5, h6, h7⟩ := jcl_spec e
                 exact ⟨k, _, q, _, hf, by omega, h2, h3, h4, h5, h6, h7, Or.inr (Or.inl ⟨rfl, by omega, by omega, rfl, a, ha, hk⟩)⟩
               · cases e
             · cases e)
          | (exfalso; revert e; simp only [jN_copy, Bool.cond_eq_ite]; repeat' split
             all_goals (intro q; cases q))
          | (cases e; done)
      · cases e
    case invokespecial k =>
      replace e : jN_call y k pc ls st h 2 = some (.inr (.inr (cal, lc, rest))) := e
      unfold jN_call at e
      split at e
      · next kind cal0 q hf =>
        split at e
        all_goals first
          | (exfalso; omega)
          | (split at e
             · next a ha =>
               obtain ⟨rfl, h2, h3, h4, h5, h6, h7⟩ := jcl_spec e
               exact ⟨k, _, q, _, hf, by omega, h2, h3, h4, h5, h6, h7, Or.inr (Or.inr ⟨rfl, by omega, rfl, a, ha⟩)⟩
             · cases e)
          | (exfalso; revert e; simp only [jN_copy, Bool.cond_eq_ite]; repeat' split
             all_goals (intro q; cases q))
          | (cases e; done)
      · cases e
theorem jE_mo : ∀ (n : Nat) {y pc : Nat} {ls : jL} {st : List Value} {h : jH} {x : Option Value × jH}, jE n y pc ls st h = some x → jMo h x.2
  | 0, _, _, _, _, _, _, e => by cases e
  | n + 1, y, pc, ls, st, h, x, e => by
    rw [jE] at e
    split at e
    · split at e
      · next hN => exact (jN_mo hN).trans (jE_mo n e)
      · next hN =>
        cases e
        rcases jN_ret hN with ⟨v, -, -, rfl, -⟩ | ⟨v, -, -, rfl, -⟩ | ⟨v, nm, -, -, rfl, -⟩ | ⟨-, -, rfl, -⟩ <;> exact jMo.refl _
      · next cal lc rest hN =>
        cases h1 : jE n cal 0 lc [] h with
        | none => rw [h1] at e; cases e
        | some z =>
          rw [h1] at e
          exact (jE_mo n h1).trans (jE_mo n e)
      · cases e
    · cases e
end
section
/-! SIMULATION 6: calls, and runs of any length -/
/-- the cells that a call may change -/
def jAc (ad : Nat → Nat) (h : jH) (sz : Nat) : Nat → Prop := fun q => (∃ a, (jk h a).1 ≠ 0 ∧ (jk h a).1 ≠ 30 ∧ ad a = q) ∨ sz ≤ q
theorem jRel.enter {D : va_G} {cA : Nat → ClassId} {s U : State} {A : Nat → Prop} {ad : Nat → Nat} {h : jH} {H : Heap} {locs : List Loc} (hR : jRel D cA s A ad h H) (hS : va_S A s.heap H locs) (hU : U.heap = H) (hvm : s.vm.Alike U.vm) : jRel D cA U (jAc ad h H.size) ad h H := by
  obtain ⟨r1, r2, r3, r4, r5⟩ := hR
  refine ⟨fun a => ?_, r2, r3, r4, r5⟩
  obtain ⟨c1, c2, c3⟩ := r1 a
  refine ⟨fun k hk e => ⟨Or.inl ⟨a, ?_, ?_, rfl⟩, (c1 k hk e).2⟩, fun t ht e => ⟨Or.inl ⟨a, ?_, ?_, rfl⟩, (c2 t ht e).2⟩, fun e => ?_⟩
  · show (h.1 a).1.1 ≠ 0; omega
  · show (h.1 a).1.1 ≠ 30; omega
  · show (h.1 a).1.1 ≠ 0; omega
  · show (h.1 a).1.1 ≠ 30; omega
  · obtain ⟨g1, g2, g3⟩ := c3 e
    have hlt : ad a < H.size := Nat.lt_of_lt_of_le g2 hS.1
    refine ⟨fun q => ?_, by rw [hU]; exact hlt, ?_⟩
    · rcases q with ⟨b, b0, b1, b2⟩ | q
      · have := r2 b a b0 (by show (h.1 a).1.1 ≠ 0; omega) b2
        subst this
        exact b1 e
      · omega
    · have h1 := (g3.kept (hS.2.1 _ g2 g1)).moved hvm
      rw [hU]
      exact h1
theorem jAc.sub {D : va_G} {cA : Nat → ClassId} {s : State} {A : Nat → Prop} {ad : Nat → Nat} {h : jH} {H : Heap} {locs : List Loc} (hR : jRel D cA s A ad h H) (hS : va_S A s.heap H locs) (hA : ∀ q, s.heap.size ≤ q → A q) : ∀ q, jAc ad h H.size q → A q := by
  intro q hq
  rcases hq with ⟨a, a0, a1, rfl⟩ | hq
  · rcases hR.2.2.2.2 a with hv | hv | hv
    · exact ((hR.1 a).1 ((jk h a).1 - 1) (by omega) (by show (jk h a).1 = _; omega)).1
    · exact ((hR.1 a).2.1 ((jk h a).1 - 20) (by omega) (by show (jk h a).1 = _; omega)).1
    · exact absurd hv a1
  · exact hA q (Nat.le_trans hS.1 hq)
theorem jRel.leave {D : va_G} {cA : Nat → ClassId} {s U : State} {A : Nat → Prop} {ad ad' : Nat → Nat} {h h' : jH} {H H1 : Heap} {locs : List Loc} (hR : jRel D cA s A ad h H) (hS : va_S A s.heap H locs) (hA : ∀ q, s.heap.size ≤ q → A q) (hR1 : jRel D cA U (jAc ad h H.size) ad' h' H1) (had : ∀ a, a < h.2.1 → ad' a = ad a) (hmo : jMo h h') : jRel D cA s A ad' h' H1 := by
  obtain ⟨r1, r2, r3, r4, r5⟩ := hR1
  have hsub := jAc.sub hR hS hA
  refine ⟨fun a => ?_, r2, r3, r4, r5⟩
  obtain ⟨c1, c2, c3⟩ := r1 a
  refine ⟨fun k hk e => ⟨hsub _ (c1 k hk e).1, (c1 k hk e).2⟩, fun t ht e => ⟨hsub _ (c2 t ht e).1, (c2 t ht e).2⟩, fun e => ?_⟩
  have e1 := hmo.2.2 a e
  have e2 : (jk h a).1 = 30 := by unfold jk; rw [← e1]; exact e
  have hlt : a < h.2.1 := by
    rcases Nat.lt_or_ge a h.2.1 with q | q
    · exact q
    · have := hR.2.2.1 a q; omega
  have g := (hR.1 a).2.2 e2
  rw [had a hlt, e1]
  exact g
/-- the locals with which a method begins -/
theorem jlv_jal (ad : Nat → Nat) : ∀ (vs : List Value) (n i : Nat), ∀ (j : Nat) (v : Value), ((vs.flatMap fun v => if v.category = 2 then [some v, none] else [some v]) ++ List.replicate n (none : Option Value))[j]? = some (some v) → (i + j, ja ad v) ∈ lv_args i (vs.map (ja ad))
  | [], n, i, j, v, e => by
    rw [List.flatMap_nil, List.nil_append] at e
    rw [List.getElem?_replicate] at e
    split at e
    · cases e
    · cases e
  | u :: vs, n, i, j, v, e => by
    rw [List.flatMap_cons] at e
    rw [List.map_cons, lv_args, ja_cat]
    by_cases hc : u.category = 2
    · simp only [hc, if_true] at e ⊢
      rcases j with _ | _ | j
      · simp at e
        subst e
        exact List.mem_cons_self
      · simp at e
      · refine List.mem_cons_of_mem _ ?_
        have h1 := jlv_jal ad vs n (i + 2) j v (by simpa using e)
        rwa [show i + 2 + j = i + (j + 1 + 1) by omega] at h1
    · simp only [hc, if_false] at e ⊢
      rcases j with _ | j
      · simp at e
        subst e
        exact List.mem_cons_self
      · refine List.mem_cons_of_mem _ ?_
        have h1 := jlv_jal ad vs n (i + 1) j v (by simpa using e)
        rwa [show i + 1 + j = i + (j + 1) by omega] at h1
theorem jlv_len (vs : List Value) {n : Nat} (h : (lg_sl vs).length ≤ n) : (jlv vs n).length = n := by
  have e : (vs.flatMap fun v => if v.category = 2 then [some v, none] else [some v]).length = (lg_sl vs).length := by
    unfold lg_sl
    induction vs with
    | nil => rfl
    | cons u vs ih =>
      have h' : (lg_sl vs).length ≤ n := by
        unfold lg_sl at h ⊢
        rw [List.flatMap_cons, List.length_append] at h
        omega
      rw [List.flatMap_cons, List.flatMap_cons, List.length_append, List.length_append, ih h']
      congr 1
      split <;> rfl
  unfold jlv
  rw [List.length_append, List.length_replicate, e]
  omega
theorem lg_ja (ad : Nat → Nat) (vs : List Value) : (lg_sl (vs.map (ja ad))).length = (lg_sl vs).length := by
  unfold lg_sl
  induction vs with
  | nil => rfl
  | cons u vs ih =>
    rw [List.map_cons, List.flatMap_cons, List.flatMap_cons, List.length_append, List.length_append, ih, ja_cat]
    congr 1
    split <;> rfl
theorem jlv_mem {vs : List Value} {n : Nat} {v : Value} (h : some v ∈ jlv vs n) : v ∈ vs := by
  unfold jlv at h
  rcases List.mem_append.mp h with h | h
  · obtain ⟨u, hu, hv⟩ := List.mem_flatMap.mp h
    by_cases hc : u.category = 2
    · rw [if_pos hc] at hv
      rcases List.mem_cons.mp hv with e | hv
      · cases e; exact hu
      · rcases List.mem_cons.mp hv with e | hv
        · cases e
        · cases hv
    · rw [if_neg hc] at hv
      rcases List.mem_cons.mp hv with e | hv
      · cases e; exact hu
      · cases hv
  · have := (List.mem_replicate.mp h).2
    cases this
theorem lg_slots (vs : List Value) : (lg_sl vs).length = (vs.map fun v => v.category).sum := by
  unfold lg_sl
  induction vs with
  | nil => rfl
  | cons u vs ih =>
    rw [List.flatMap_cons, List.length_append, ih, List.map_cons, List.sum_cons]
    congr 1
    rcases lv_cat u with hc | hc <;> simp [hc]
/-- runs of n steps are runs of the machine -/
def jSim (l : Launch) (D : va_G) (cA : Nat → ClassId) (n : Nat) : Prop :=
  ∀ (p : Program) (e : Env) (R : Room) (s : State) (m : MethodId) (args : Array Value) (below : List Frame) (meth : Method) (c : Code) (Q : State → Prop) (A : Nat → Prop) (ad0 : Nat → Nat) (n0 s0 y : Nat),
    jX p R s m args meth c y → y ≤ jmNL → jKn D cA s → (∀ q, s.heap.size ≤ q → A q) → ∀ x : Option Value × jH, x.2.2.1 ≤ n0 + R.cells → x.2.2.2 ≤ s0 + R.slots →
    (∀ (pc : Nat) (i : Instr) (ls : jL) (st : List Value) (h : jH), jD y pc = some i → jRet y i st h x → jKK p l e R s m args below meth c Q D cA A ad0 n0 s0 y pc ls st h) →
    ∀ (pc : Nat) (ls : jL) (st : List Value) (h : jH), jE n y pc ls st h = some x → jKK p l e R s m args below meth c Q D cA A ad0 n0 s0 y pc ls st h
/-- a method's contract, out of its run -/
theorem jMet {l : Launch} {D : va_G} {cA : Nat → ClassId} {n : Nat} (ih : jSim l D cA n) {cal : Nat} (hcal : cal < jmNL) {vs : List Value} {h : jH} {z : Option Value × jH} (e1 : jE n cal 0 (jlv vs (jm_max cal)) [] h = some z) (hlen : (lg_sl vs).length ≤ jm_max cal) (hok : ∀ v ∈ vs, jok h.2.1 v) (ad : Nat → Nat) (H : Heap) :
    Met l (jm_name cal) (jws cal) { frames := jm_fr cal, cells := z.2.2.1 - h.2.1, slots := z.2.2.2 - h.2.2, locals := 50 * jm_fr cal } (fun v U => v = (vs.map (ja ad)).toArray ∧ U.heap = H ∧ jKn D cA U ∧ (∀ w ∈ jwn, va_Nw w U) ∧ jRel D cA U (jAc ad h H.size) ad h H)
      (fun _ U o t => ∃ ad' : Nat → Nat, o = .returned (z.1.map (ja ad')) ∧ jRel D cA U (jAc ad h H.size) ad' z.2 t.heap ∧ (∀ a, a < h.2.1 → ad' a = ad a) ∧ va_F (jAc ad h H.size) U t ∧ ∀ v, z.1 = some v → jok z.2.2.1 v) (z.2.2.1 - h.2.1) (z.2.2.2 - h.2.2) (jAc ad h H.size) := by
  obtain ⟨hpl, hnm, hcn, hmx, hin⟩ := jm_ok hcal
  have hmo := jE_mo n e1
  refine Met.ofW (cc := jm_code cal) (maxL := jm_max cal) (ret := jm_ret cal) hpl rfl ?_
  intro p e s m args below meth c s₁ B hml hv
  obtain ⟨rfl, rfl, hK, hnw, hR⟩ := hv
  have hts := atoms_spec (ws := jws cal) B.pre
  have hlocks := B.notSynchronized
  have C : jX p (headSpec (jws cal) { frames := jm_fr cal, cells := z.2.2.1 - h.2.1, slots := z.2.2.2 - h.2.2, locals := 50 * jm_fr cal }).room s m (vs.map (ja ad)).toArray meth c cal :=
    ⟨B.exec, B.bytes, B.returns, hml, by rw [hcn]; exact findClass_of_methodNamed B.named, fun w hw => hts w (List.mem_cons_of_mem _ hw), hnw, hlocks, fun hi => (name_of_methodNamed B.named B.method).1.trans (hin hi).1, Nat.le_refl _, Nat.le_refl _⟩
  have hl := lv_entry (vs.map (ja ad)) (n := jm_max cal) (by rw [lg_ja]; exact hlen)
  rw [lg_entry_eq]
  generalize (lg_sl (vs.map (ja ad)) ++ List.replicate (jm_max cal - (lg_sl (vs.map (ja ad))).length) Slot.unset).toArray = lr at hl ⊢
  refine ih p e _ s m _ below meth c _ (jAc ad h s.heap.size) ad h.2.1 h.2.2 cal C (Nat.le_of_lt hcal) hK (fun q hq => Or.inr hq) z ?_ ?_ ?_ 0 _ [] h e1 ad s.heap [] lr 0 0 ?_
  · show z.2.2.1 ≤ h.2.1 + (z.2.2.1 - h.2.1)
    have := hmo.1
    omega
  · show z.2.2.2 ≤ h.2.2 + (z.2.2.2 - h.2.2)
    have := hmo.2.1
    omega
  · intro pc i ls st h2 hd hret ad' H' locs lr' cells slots I
    obtain ⟨nn, dd, hlk⟩ := j_d hd
    obtain ⟨I1, I2, -, -, I5, -, I7, I8, I9⟩ := I
    rcases hret with ⟨v, rfl, rfl, rfl, hr⟩ | ⟨v, rfl, rfl, rfl, hr⟩ | ⟨v, nm, rfl, rfl, rfl, hr, hv⟩ | ⟨rfl, rfl, rfl, hr⟩
    · obtain rfl : nn = 1 := eq_of_beq hlk
      have hc : cells = h2.2.1 - h.2.1 := by omega
      have hs : slots = h2.2.2 - h.2.2 := by omega
      subst hc hs
      rcases hr with hr | ⟨hr, hv⟩
      · exact W.iret B.exec B.bytes (B.returns.trans hr) (fun t ht hW => ⟨ad', rfl, by rw [ht]; exact I1, I7, I2.F ht, fun u hu => by cases hu; trivial⟩) I2.2.2 dd
      · exact W.zret B.exec B.bytes (B.returns.trans hr) (by rcases hv with rfl | rfl <;> decide) (fun t ht hW => ⟨ad', rfl, by rw [ht]; exact I1, I7, I2.F ht, fun u hu => by cases hu; trivial⟩) I2.2.2 dd
    · obtain rfl : nn = 1 := eq_of_beq hlk
      have hc : cells = h2.2.1 - h.2.1 := by omega
      have hs : slots = h2.2.2 - h.2.2 := by omega
      subst hc hs
      exact W.lret B.exec B.bytes (B.returns.trans hr) (fun t ht hW => ⟨ad', rfl, by rw [ht]; exact I1, I7, I2.F ht, fun u hu => by cases hu; trivial⟩) I2.2.2 dd
    · obtain rfl : nn = 1 := eq_of_beq hlk
      have hc : cells = h2.2.1 - h.2.1 := by omega
      have hs : slots = h2.2.2 - h.2.2 := by omega
      subst hc hs
      exact W.aret B.exec B.bytes (B.returns.trans hr) (Or.inl ⟨nm, rfl⟩) (by rcases hv with rfl | ⟨a, rfl⟩; exact Or.inl rfl; exact Or.inr ⟨_, rfl⟩) (fun t ht hW => ⟨ad', rfl, by rw [ht]; exact I1, I7, I2.F ht, fun u hu => by cases hu; exact I5 v List.mem_cons_self⟩) I2.2.2 dd
    · obtain rfl : nn = 1 := eq_of_beq hlk
      have hc : cells = h2.2.1 - h.2.1 := by omega
      have hs : slots = h2.2.2 - h.2.2 := by omega
      subst hc hs
      exact W.vret B.exec B.bytes (B.returns.trans hr) (fun t ht hW => ⟨ad', rfl, by rw [ht]; exact I1, I7, I2.F ht, fun u hu => by cases hu⟩) I2.2.2 dd
  · refine ⟨hR, va_S.rf, lv_sup hl ?_, jlv_len vs hlen, fun v hv => (by cases hv), fun v hv => hok v (jlv_mem hv), fun _ _ => rfl, by omega, by omega⟩
    rintro ⟨j, w⟩ hq
    obtain ⟨u, hu, rfl⟩ := mem_jal.mp hq
    have h1 := jlv_jal ad vs _ 0 j u hu
    rwa [Nat.zero_add] at h1
end
section
/-! SIMULATION 7: a call; runs of any length; the claim out of the law's run -/
theorem j_goodl {ws : List Cond} (h : ∀ w ∈ ws, w ∈ jw) : GoodIn jw ws := fun w hw => ⟨h w hw, good_of_word (List.mem_filter.mp (h w hw)).2⟩
theorem j_jws {y : Nat} (hy : y < jmNL) : ∀ w ∈ jws y, w ∈ jw := fun w hw => by
  rcases List.mem_cons.mp hw with rfl | hw
  · exact jm_code_in hy
  · exact hw
section
variable {p : Program} {l : Launch} {e : Env} {R : Room} {s : State} {m : MethodId} {args : Array Value} {below : List Frame} {meth : Method} {c : Code} {Q : State → Prop} {D : va_G} {cA : Nat → ClassId} {A : Nat → Prop} {ad0 : Nat → Nat} {n0 s0 y : Nat}
variable {pc : Nat} {ls : jL} {st : List Value} {h : jH}
set_option maxHeartbeats 2000000 in
theorem j_call {n : Nat} {i : Instr} {cal : Nat} {lc : jL} {rest : List Value} {z : Option Value × jH} (ih : jSim l D cA n) (C : jX p R s m args meth c y) (hK : jKn D cA s) (hA : ∀ q, s.heap.size ≤ q → A q) (d : jD y pc = some i) (hN : jCal y i st h cal lc rest) (e1 : jE n cal 0 lc [] h = some z) (hb1 : z.2.2.1 ≤ n0 + R.cells) (hb2 : z.2.2.2 ≤ s0 + R.slots)
    (kk : jKK p l e R s m args below meth c Q D cA A ad0 n0 s0 y (pc + 3) ls (z.1.toList ++ rest) z.2) : jKK p l e R s m args below meth c Q D cA A ad0 n0 s0 y pc ls st h := by
  obtain ⟨nn, dd, hlk⟩ := j_d d
  obtain ⟨hx, hb, hr, hml, hown, hts, hnw, hlocks, -, hf1, hf2⟩ := id C
  obtain ⟨idx, kind, q, k, hf, hk6, hkl, hfr, hsl, hrs, rfl, rfl, hi⟩ := hN
  obtain ⟨hw, hcs⟩ := jt_m_ok hf
  obtain ⟨hcal, hst1, hin1, hvir, hini⟩ := hcs hk6
  obtain ⟨hpl, hnm, hcn, hmx, hinn⟩ := jm_ok hcal
  intro ad H locs lr cells slots I
  obtain ⟨hR, hS, hlv, hlen, hso, hlo, hag, hn, hs⟩ := id I
  have hmo := jE_mo n e1
  have hvs : ∀ v ∈ (st.take k).reverse, jok h.2.1 v := fun v hv => hso v (List.mem_of_mem_take (List.mem_reverse.mp hv))
  have hsl2 : (lg_sl (st.take k).reverse).length ≤ jm_max cal := by
    rw [lg_slots, List.map_reverse, List.sum_reverse]
    exact hsl
  have M := jMet ih hcal e1 hsl2 hvs ad H
  have hstk : st.map (ja ad) = ((st.take k).reverse.map (ja ad)).reverse ++ (st.drop k).map (ja ad) := by
    rw [List.map_reverse, List.reverse_reverse, ← List.map_append, List.take_append_drop]
  have hblind : FrameBlind (fun (v : Array Value) (U : State) => v = ((st.take k).reverse.map (ja ad)).toArray ∧ U.heap = H ∧ jKn D cA U ∧ (∀ w ∈ jwn, va_Nw w U) ∧ jRel D cA U (jAc ad h H.size) ad h H) := by
    intro a U g mk ⟨g1, g2, g3, g4, g5⟩
    refine ⟨g1, g2, g3.moved (Vm.Alike.refl U.vm), fun w hw => ?_, g5.1, g5.2⟩
    exact va_Nw.same (u := U) (U := U.calling g mk a) (by have := (List.mem_filter.mp hw).2; cases w <;> first | rfl | cases this) rfl (g4 w hw)
  have hpre : ∀ U : State, U.heap = H → s.WarmedH U.vm → ((st.take k).reverse.map (ja ad)).toArray = ((st.take k).reverse.map (ja ad)).toArray ∧ U.heap = H ∧ jKn D cA U ∧ (∀ w ∈ jwn, va_Nw w U) ∧ jRel D cA U (jAc ad h H.size) ad h H := by
    intro U hU hW
    refine ⟨rfl, hU, hK.moved hW.alike, fun w hw => ?_, hR.enter hS hU hW.alike⟩
    have hwn := hnw w hw
    have hj := (List.mem_filter.mp hw).2
    cases w <;> first | (cases hj; done) | exact va_Nw.warmF hW hwn | exact va_Nw.warmM hW hwn
  have hfit : cells + (z.2.2.1 - h.2.1) ≤ R.cells ∧ slots + (z.2.2.2 - h.2.2) ≤ R.slots := by
    have := hmo.1
    have := hmo.2.1
    omega
  have hroom : jm_fr cal + 1 ≤ R.frames ∧ 8 + (jm_max cal + 11) + 50 * jm_fr cal ≤ R.locals := by omega
  have hcat : 2 * (F0 m pc lr (st.map (ja ad))).monitorRoom + (((st.drop k).map (ja ad)).map fun v => v.category).sum ≤ 8 := by
    rw [ja_sum]
    show 2 * 0 + _ ≤ 8
    omega
  have hsz : (F0 m pc lr (st.map (ja ad))).locals.size = jm_max y := hlv.1
  have hfin : va_Run p l e R s m args below meth c H locs cells slots (z.2.2.1 - h.2.1) (z.2.2.2 - h.2.2) (F0 m pc lr (st.map (ja ad))) ((st.drop k).map (ja ad)) ((fun _ U o t => ∃ ad' : Nat → Nat, o = .returned (z.1.map (ja ad')) ∧ jRel D cA U (jAc ad h H.size) ad' z.2 t.heap ∧ (∀ a, a < h.2.1 → ad' a = ad a) ∧ va_F (jAc ad h H.size) U t ∧ ∀ v, z.1 = some v → jok z.2.2.1 v) ((st.take k).reverse.map (ja ad)).toArray) (jAc ad h H.size) := by
    rcases hi with ⟨rfl, hk1, rfl⟩ | ⟨rfl, hk2, hk3, rfl, a, ha, hka⟩ | ⟨rfl, hk4, rfl, a, ha⟩
    · obtain rfl : nn = 3 := eq_of_beq hlk
      obtain ⟨w1, w2⟩ := jm_stat hcal (hst1 hk1)
      have hla : ((st.take (jm_na cal)).reverse.map (ja ad)).length = jm_na cal := by
        rw [List.length_map, List.length_reverse, List.length_take]; omega
      rcases (show kind = 0 ∨ kind = 1 by omega) with rfl | rfl
      · have hw0 : Cond.methodLink (jcn (jm_cn y)) idx (jm_name cal) ∈ jw := hw.1
        exact va_runS ⟨hx, hb, hml, hown, hts⟩ M (va_cwS (jm_na cal) hts (j_goodl (fun w hw => by
          rcases List.mem_append.mp hw with h1 | h1
          · rcases List.mem_cons.mp h1 with rfl | h1
            · exact hw0
            · rcases List.mem_cons.mp h1 with rfl | h1
              · exact w1
              · rw [List.mem_singleton.mp h1]; exact w2
          · exact j_jws hcal w h1)) rfl rfl rfl hnm hroom) ⟨hblind, hpre⟩ rfl hla hsz hstk hcat dd hfit
      · have hw0 : Cond.methodLinkNest (jcn (jm_cn y)) idx (jm_name cal) RX9 ∈ jwn := hw.1
        exact va_runSN ⟨hx, hb, hml, hown, hts⟩ M ⟨va_cnB (jm_na cal) hts (j_goodl (j_jws hcal)) rfl rfl rfl (hnw _ hw0) (hts _ w2) hnm hroom, hts _ w1, trivial⟩ ⟨hblind, hpre⟩ rfl hla hsz hstk hcat dd hfit
    · obtain rfl : nn = 3 := eq_of_beq hlk
      obtain ⟨w1, w2, w3⟩ := jm_inst hcal (hin1 hk2)
      obtain ⟨v1, v2, v3⟩ := hvir hk2 hk3
      have w3 := w3 v1
      have htk : st.take (jm_na cal + 1) = st.take (jm_na cal) ++ [.ref a] := by
        rw [List.take_succ, ha]; rfl
      have hAs : (st.take (jm_na cal + 1)).reverse.map (ja ad) = .ref (ad a) :: (st.take (jm_na cal)).reverse.map (ja ad) := by
        rw [htk, List.reverse_append]; rfl
      have hla : ((st.take (jm_na cal)).reverse.map (ja ad)).length = jm_na cal := by
        rw [List.length_map, List.length_reverse, List.length_take]; omega
      have hstk2 : st.map (ja ad) = ((st.take (jm_na cal)).reverse.map (ja ad)).reverse ++ .ref (ad a) :: (st.drop (jm_na cal + 1)).map (ja ad) := by
        rw [hstk, hAs, List.reverse_cons, List.append_assoc]; rfl
      obtain ⟨-, cellB, g1, g2, g3, -⟩ := j_objc hR v3 hka
      have hrecv : ∃ cellB : Cell, H[ad a]? = some cellB ∧ cellB.vm.isStatics = false ∧ s.vm.findClass (jm_name cal).cls = some cellB.cls := ⟨cellB, g1, by rw [g3]; rfl, by rw [g2, ← v2]; exact (hK.obj v3).2.1⟩
      rw [hAs] at M hblind hpre ⊢
      rcases (show kind = 2 ∨ kind = 3 by omega) with rfl | rfl
      · have hw0 : Cond.methodLink (jcn (jm_cn y)) idx (jm_name cal) ∈ jw := hw.1
        exact va_runV ⟨hx, hb, hml, hown, hts⟩ M (cwV (jm_na cal) hts (j_goodl (fun w hw => by
          rcases List.mem_append.mp hw with h1 | h1
          · rcases List.mem_cons.mp h1 with rfl | h1
            · exact hw0
            · rcases List.mem_cons.mp h1 with rfl | h1
              · exact w1
              · rcases List.mem_cons.mp h1 with rfl | h1
                · exact w3
                · rw [List.mem_singleton.mp h1]; exact w2
          · exact j_jws hcal w h1)) rfl rfl rfl ⟨rfl, hnm⟩ hroom) ⟨hblind, hrecv, hpre⟩ rfl hla hsz hstk2 hcat dd hfit
      · have hw0 : Cond.methodLinkNest (jcn (jm_cn y)) idx (jm_name cal) RX9 ∈ jwn := hw.1
        exact va_runVN ⟨hx, hb, hml, hown, hts⟩ M ⟨va_cnB (jm_na cal) hts (j_goodl (j_jws hcal)) rfl rfl rfl (hnw _ hw0) (hts _ w2) hnm hroom, hts _ w1, hts _ w3⟩ ⟨hblind, hrecv, hpre⟩ rfl hla hsz hstk2 hcat dd hfit
    · obtain rfl : nn = 3 := eq_of_beq hlk
      obtain ⟨w1, w2, -⟩ := jm_inst hcal (hin1 (by omega))
      obtain ⟨i1, i2, i3⟩ := hinn (hini hk4)
      have htk : st.take (jm_na cal + 1) = st.take (jm_na cal) ++ [.ref a] := by
        rw [List.take_succ, ha]; rfl
      have hAs : (st.take (jm_na cal + 1)).reverse.map (ja ad) = .ref (ad a) :: (st.take (jm_na cal)).reverse.map (ja ad) := by
        rw [htk, List.reverse_append]; rfl
      have hla : ((st.take (jm_na cal)).reverse.map (ja ad)).length = jm_na cal := by
        rw [List.length_map, List.length_reverse, List.length_take]; omega
      have hstk2 : st.map (ja ad) = ((st.take (jm_na cal)).reverse.map (ja ad)).reverse ++ .ref (ad a) :: (st.drop (jm_na cal + 1)).map (ja ad) := by
        rw [hstk, hAs, List.reverse_cons, List.append_assoc]; rfl
      have hjw : jws cal = Cond.code (jm_name cal) (jm_code cal) (jm_max cal) none :: jw := by unfold jws; rw [i3]
      rw [hAs] at M hblind hpre ⊢
      rcases (show kind = 4 ∨ kind = 5 by omega) with rfl | rfl
      · have hw0 : Cond.methodLink (jcn (jm_cn y)) idx (jm_name cal) ∈ jw := hw.1
        exact va_runI ⟨hx, hb, hml, hown, hts⟩ M (cwI (jm_na cal) hts (j_goodl (j_jws hcal)) hjw rfl rfl (hts _ w2) (hts _ hw0) (hts _ w1) i1 hnm hroom) ⟨hblind, hpre⟩ rfl hla hsz hstk2 hcat dd hfit
      · have hw0 : Cond.methodLinkNest (jcn (jm_cn y)) idx (jm_name cal) RX9 ∈ jwn := hw.1
        exact va_runIN ⟨hx, hb, hml, hown, hts⟩ M ⟨va_cnB (jm_na cal) hts (j_goodl (j_jws hcal)) hjw rfl rfl (hnw _ hw0) (hts _ w2) hnm hroom, i1, hts _ w1⟩ ⟨hblind, hpre⟩ rfl hla hsz hstk2 hcat dd hfit
  intro T hT X
  obtain ⟨v, st₀, t, T', L, h0, X', hL, t1, t2, ⟨ad', hv, hrel, hag2, hF, hvok⟩, stp⟩ := hfin T hT X
  cases hv
  have hsub := jAc.sub hR hS hA
  have I' : jI D cA s A ad0 n0 s0 y ad' z.2 ls (z.1.toList ++ st.drop k) T'.heap (locs ++ L) lr (cells + (z.2.2.1 - h.2.1)) (slots + (z.2.2.2 - h.2.2)) := by
    refine ⟨by rw [t1]; exact hR.leave hS hA hrel hag2 hmo, ?_, lv_sup hlv (jal_eq hag2 hlo), hlen, fun u hu => ?_, fun u hu => jok_le hmo.1 (hlo u hu), fun a ha => ?_, ?_, ?_⟩
    · obtain ⟨f1, f2⟩ := hF
      rw [h0] at f1 f2
      refine ⟨Nat.le_trans hS.1 (by rw [t1]; exact f1), fun q q1 q2 => ?_, fun q hq => ?_⟩
      · rw [t1, f2 q (Nat.lt_of_lt_of_le q1 hS.1) (fun zz => q2 (hsub q zz))]
        exact hS.2.1 q q1 q2
      · rcases List.mem_append.mp hq with hq | hq
        · exact hS.2.2 q hq
        · exact hsub _ (hL q hq)
    · rcases List.mem_append.mp hu with hu | hu
      · cases hz : z.1 with
        | none => rw [hz] at hu; cases hu
        | some w =>
          rw [hz] at hu
          have : u = w := by simpa using hu
          rw [this]
          exact hvok w hz
      · exact jok_le hmo.1 (hso u (List.mem_of_mem_drop hu))
    · have hlt : n0 ≤ h.2.1 := by omega
      rw [hag2 a (by omega)]
      exact hag a ha
    · have := hmo.1; omega
    · have := hmo.2.1; omega
  have k1 := kk ad' T'.heap _ lr _ _ I'
  have hmp : (z.1.toList ++ st.drop k).map (ja ad') = (z.1.map (ja ad')).toList ++ (st.drop k).map (ja ad) := by
    rw [List.map_append, ja_eqs hag2 (fun u hu => hso u (List.mem_of_mem_drop hu))]
    congr 1
    cases z.1 <;> rfl
  rw [hmp] at k1
  obtain ⟨t3, a1, b1⟩ := k1 T' rfl X'
  exact ⟨t3, stp t3 a1, b1⟩
end
theorem j_ciok {y : Nat} (hy : y ≤ jmNL) : jm_ini y = true → jcn (jm_cn y) = jcR (jm_ci y) := by
  intro hi
  rcases Nat.lt_or_ge y jmNL with h | h
  · exact ((jm_ok h).2.2.2.2 hi).2.1
  · have : y = jmNL := by omega
    subst this
    exact absurd hi (by decide +kernel)
theorem j_sim (l : Launch) (D : va_G) (cA : Nat → ClassId) : ∀ n, jSim l D cA n
  | 0 => by
    intro p e R s m args below meth c Q A ad0 n0 s0 y C hy hK hA x hb1 hb2 fin pc ls st h ee
    cases ee
  | n + 1 => by
    intro p e R s m args below meth c Q A ad0 n0 s0 y C hy hK hA x hb1 hb2 fin pc ls st h ee
    have ih := j_sim l D cA n
    rw [jE] at ee
    split at ee
    · next i hd =>
      split at ee
      · next pc' ls' st' h' hN =>
        have hmo := jE_mo n ee
        exact j_step C hK hA (j_ciok hy) (Nat.le_trans hmo.1 hb1) (Nat.le_trans hmo.2.1 hb2) hd hN (ih p e R s m args below meth c Q A ad0 n0 s0 y C hy hK hA x hb1 hb2 fin pc' ls' st' h' ee)
      · next hN =>
        cases ee
        exact fin pc i ls st h hd (jN_ret hN)
      · next cal lc rest hN =>
        cases h1 : jE n cal 0 lc [] h with
        | none => rw [h1] at ee; cases ee
        | some z =>
          rw [h1] at ee
          have hmo := jE_mo n ee
          exact j_call ih C hK hA hd (jN_cal hN) h1 (Nat.le_trans hmo.1 hb1) (Nat.le_trans hmo.2.1 hb2) (ih p e R s m args below meth c Q A ad0 n0 s0 y C hy hK hA x hb1 hb2 fin _ ls _ _ ee)
      · cases ee
    · cases ee
end
section
/-! THE START: the law's run in my machine gives the claim's walk -/
def R_law : String := "TwinLinesLaw"
def lw_P (b : Addr) (xs : List Int32) (args : Array Value) (s : State) : Prop := args = #[.ref b] ∧ s.IntsAt b xs ∧ xs.length ≤ 4608 ∧ (Jvm.Cond.and given_1 narrow_1).before args s = true
def lw_Q (_ : Array Value) (s : State) (o : Outcome) (t : State) : Prop := o = .returned (some (.int 1)) ∧ Framed s o t [] 600000 7302250
def lw_Z (below : List Frame) (a : Array Value) (s : State) : State → Prop := fun t => ∃ o, t.status = .running ∧ Ended t below o ∧ lw_Q a s o t
/-- the law's own end, with 1 on the stack, nothing written that was there before, its room as the claim has it -/
theorem lw_ret {p : Program} {l : Launch} {e : Env} {s : State} {m : MethodId} {below : List Frame} {meth : Method} {c : Code} {b : Nat} (hx : p.tables.exec = Jvm.exec) (hb : c.code = code) (hr : meth.sig.returnType = ret) (hlocks : meth.locks = false) {pc : Nat} {H : Heap} {ls : Array Slot} (hdg : decode code pc = .ok (.ireturn, 1)) : W p l e room_1 s m #[Value.ref b] below meth c H [] 600000 7302250 (lw_Z below #[Value.ref b] s) (F0 m pc ls [.int 1]) := by
  intro T hT X
  obtain ⟨fs, hret, hrun, hended, hW, hframe⟩ := X.leave (v := some (.int 1)) (hlocks := hlocks) (fun h => by rw [hr] at h; cases h)
  have hmeth' : T.vm.method? m = some meth := X.method'
  refine ⟨T.setFrames fs, ?_, .returned (some (.int 1)), hrun, hended, rfl, ⟨_, rfl⟩, hW, hframe⟩
  jvm_step X.here [X.here.top, hx, hb, hdg, hmeth', hr, ret, narrow_b1]
  (try refine ⟨rfl, ?_⟩); (try refine ⟨rfl, ?_⟩)
  first | (intro acts; rw [hret _ acts rfl rfl rfl]) | rw [hret _ _ rfl rfl rfl]
  exact Steps.refl _
/-- what holds at the law's entry: the machine, the code, the tables' words (any of lw_tbl by 'hts w (by decide +kernel)'), the script of L ints xs at the cell b, what the Statement gives of the start (any of its parts by flat_of_before) -/
def lw_At (p : Program) (s : State) (m : MethodId) (meth : Method) (c : Code) (b L : Nat) (xs : Nat → Int32) : Prop :=
  p.tables.exec = Jvm.exec ∧ c.code = code ∧ meth.sig.returnType = ret ∧ c.maxLocals = 4 ∧ s.vm.findClass R_law = some m.cls ∧ (∀ w ∈ lw_tbl, w.before #[Value.ref b] s = true) ∧ va_X b L xs s s.heap ∧ b < s.heap.size ∧ meth.locks = false ∧ (Jvm.Cond.and given_1 narrow_1).before #[Value.ref b] s = true

/-- the store at the law's entry: the script, of L ints xs, at label 0 -/
def jh0 (L : Nat) (xs : Nat → Int32) : jH := (fun a => if a = 0 then ((30, L), xs, fun _ => 0, fun _ => none) else ((0, 0), fun _ => 0, fun _ => 0, fun _ => none), 1, 0)
theorem j_inst0 : ((List.range 9).all fun c => decide (Cond.instantiable (jcR c) (jcN c) ∈ lw_tbl) && goodWord (.instantiable (jcR c) (jcN c))) = true := by decide +kernel
theorem j_inst9 {k : Nat} (hk : k < 9) : Cond.instantiable (jcR k) (jcN k) ∈ jw := by
  have h1 := List.all_eq_true.mp j_inst0 k (List.mem_range.mpr hk)
  simp only [Bool.and_eq_true, decide_eq_true_eq] at h1
  exact List.mem_filter.mpr h1
theorem j_over5 : Cond.arrayOver (.object RX5) ∈ lw_tbl := by decide +kernel
theorem j_over7 : Cond.arrayOver (.object RX7) ∈ lw_tbl := by decide +kernel
theorem j_arr1 {s : State} {args : Array Value} {ty : FieldType} (hn : ∀ C, ty ≠ .object C) (h : (Cond.arrayClass ty).before args s = true) : ∃ cA : ClassId, ArrOfT s cA ty ∧ va_RA s cA ty := by
  obtain ⟨cA, kA, comp, h1, h2, h3⟩ := Cond.arrayClass_spec h
  refine ⟨cA, fun n z => ⟨fun k h => (by cases h), kA, h2, comp, h3⟩, ?_⟩
  cases ty <;> first | exact h1 | exact absurd rfl (hn _)
theorem j_arr2 {s : State} {C : String} (h : va_AO C s) : ∃ cA : ClassId, ArrOfT s cA (.object C) ∧ va_RA s cA (.object C) := by
  obtain ⟨comp, c, k, h1, h2, h3, h4, h5⟩ := Cond.arrayOver_spec h
  exact ⟨c, fun n z => ⟨fun k h => (by cases h), k, h3, comp, h4⟩, k, comp, h3, h4, h1, h5⟩
theorem j_nestT {w : Cond} (h : jnest w = true) : w.onTables = true := by cases w <;> first | rfl | cases h
theorem whole_of {p : Program} {e : Env} {s : State} {m : MethodId} {below : List Frame} {meth : Method} {c : Code} (l : Launch) {b L : Nat} {xs : Nat → Int32} (C0 : lw_At p s m meth c b L xs) (hrun : ∃ h' : jH, jV jmNL 0 [some (.ref 0), none, none, none] [] (jh0 L xs) = some (some (.int 1), h') ∧ h'.2.1 ≤ 600001 ∧ h'.2.2 ≤ 7302250) : W p l e room_1 s m #[Value.ref b] below meth c s.heap [] 0 0 (lw_Z below #[Value.ref b] s) (entryFrame m ([Value.ref b] : List Value).toArray 4) := by
  obtain ⟨hx, hb, hr, hml, hown, hts, hX, hbl, hlocks, hgv⟩ := C0
  obtain ⟨h', hV, hc1, hc2⟩ := hrun
  obtain ⟨n, hE⟩ := jV_to hV
  have htsw : ∀ w ∈ jw, w.before #[Value.ref b] s = true := fun w hw => hts w (List.mem_filter.mp hw).1
  have hnw : ∀ w ∈ jwn, va_Nw w s := fun w hw => va_Nw.of (j_nestT (List.mem_filter.mp hw).2) (hts w (List.mem_filter.mp hw).1)
  have hcls : ∀ k, ∃ (cC : ClassId) (iS : Nat → Nat), k < 9 → u_Kn s (jcR k) (jtT k) (jcN k) cC iS := by
    intro k
    by_cases hk : k < 9
    · obtain ⟨c0, i0, h0⟩ := u_known htsw (j_lays hk) (htsw _ (j_inst9 hk))
      exact ⟨c0, i0, fun _ => h0⟩
    · exact ⟨0, fun _ => 0, fun q => absurd q hk⟩
  have hO5 : va_AO RX5 s := va_AO.of (hts _ j_over5)
  have hO7 : va_AO RX7 s := va_AO.of (hts _ j_over7)
  obtain ⟨a0, A0⟩ := j_arr1 (ty := .int) (fun C q => by cases q) (htsw _ j_arrI)
  obtain ⟨a1, A1⟩ := j_arr1 (ty := .long) (fun C q => by cases q) (htsw _ j_arrJ)
  obtain ⟨a2, A2⟩ := j_arr1 (ty := .boolean) (fun C q => by cases q) (htsw _ j_arrZ)
  obtain ⟨a3, A3⟩ := j_arr2 hO5
  obtain ⟨a4, A4⟩ := j_arr2 hO7
  have hK : jKn (fun k => Classical.choose (hcls k), fun k => Classical.choose (Classical.choose_spec (hcls k))) (fun t => match t with | 0 => a0 | 1 => a1 | 2 => a2 | 3 => a3 | _ => a4) s := by
    refine ⟨⟨fun k q hq => ?_, fun k q hq => ?_⟩, hO5, hO7⟩
    · have hk : k < 9 := (List.getElem?_eq_some_iff.mp hq).1
      rw [j_vw hk] at hq
      cases hq
      exact Classical.choose_spec (Classical.choose_spec (hcls k)) hk
    · rcases k with _ | _ | _ | _ | _ | k
      · cases hq; exact A0
      · cases hq; exact A1
      · cases hq; exact A2
      · cases hq; exact A3
      · cases hq; exact A4
      · cases hq
  have C : jX p room_1 s m #[Value.ref b] meth c jmNL := ⟨hx, hb, hr, hml, hown, htsw, hnw, hlocks, fun hi => absurd hi (by decide +kernel), by decide +kernel, by decide +kernel⟩
  have hl := lv_entry ([.ref b]) (n := 4) (Nat.le_of_ble_eq_true rfl)
  rw [lg_entry_eq]
  generalize (lg_sl ([.ref b]) ++ List.replicate (4 - (lg_sl ([.ref b])).length) Slot.unset).toArray = lr at hl ⊢
  refine j_sim l _ _ n p e room_1 s m _ below meth c _ (fun q => s.heap.size ≤ q) (fun _ => b) 1 0 jmNL C (Nat.le_refl _) hK (fun _ h => h) (some (.int 1), h') (by show h'.2.1 ≤ 1 + 600000; omega) (by show h'.2.2 ≤ 0 + 7302250; omega) ?_ 0 _ [] (jh0 L xs) hE (fun _ => b) s.heap [] lr 0 0 ?_
  · intro pc i ls st h2 hd hret ad' H' locs lr' cells slots I
    obtain ⟨nn, dd, hlk⟩ := j_d hd
    obtain ⟨I1, I2, -, -, I5, -, I7, I8, I9⟩ := I
    rcases hret with ⟨v, rfl, rfl, hz, -⟩ | ⟨v, -, -, hz, -⟩ | ⟨v, nm, -, -, hz, h3, -⟩ | ⟨-, -, hz, -⟩
    · obtain rfl : nn = 1 := eq_of_beq hlk
      cases hz
      refine va_forget (fun q hq => I2.2.2 q hq) ?_
      refine W.widen (k := 600000) (n := 7302250) (by omega) (by omega) ?_
      exact lw_ret hx hb hr hlocks dd
    · cases hz
    · exact absurd h3 (by have : jm_ret jmNL = some .boolean := by decide +kernel
                          rw [this]; intro q; cases q)
    · cases hz
  · have hkd : ∀ a, (jk (jh0 L xs) a).1 = if a = 0 then 30 else 0 := by
      intro a
      unfold jk jh0
      by_cases q : a = 0 <;> simp [q]
    refine ⟨⟨fun a => ?_, fun a d ha hd _ => ?_, fun a ha => ?_, fun a k r hr => ?_, fun a => ?_⟩, va_S.rf, lv_sup hl ?_, rfl, fun v hv => (by cases hv), fun v hv => ?_, fun _ _ => rfl, rfl, rfl⟩
    · by_cases q : a = 0
      · subst q
        refine ⟨fun k hk e => ?_, fun t ht e => ?_, fun e => ⟨Nat.not_le.mpr hbl, hbl, hX⟩⟩
        · have e' : 30 = 1 + k := e
          omega
        · have e' : 30 = 20 + t := e
          omega
      · refine jcell.zero ?_
        have := hkd a
        rw [if_neg q] at this
        exact this
    · rw [hkd] at ha hd
      by_cases q : a = 0
      · by_cases q2 : d = 0
        · omega
        · rw [if_neg q2] at hd; exact absurd rfl hd
      · rw [if_neg q] at ha; exact absurd rfl ha
    · have ha' : 1 ≤ a := ha
      rw [hkd, if_neg (by omega)]
    · unfold jp jh0 at hr
      by_cases q : a = 0 <;> simp [q] at hr
    · rw [hkd]
      by_cases q : a = 0
      · rw [if_pos q]; exact Or.inr (Or.inr rfl)
      · rw [if_neg q]; exact Or.inl (by omega)
    · intro q hq
      obtain ⟨j, w⟩ := q
      obtain ⟨u, hu, rfl⟩ := mem_jal.mp hq
      rcases j with _ | _ | _ | _ | j
      · cases hu; exact List.mem_cons_self
      · cases hu
      · cases hu
      · cases hu
      · cases hu
    · have h1 : v = .ref 0 := by simpa using hv
      rw [h1]
      exact Nat.zero_lt_one
end
