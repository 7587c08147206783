/-! my tables: methods, links, constants; each entry with the place of its words in lw_tbl -/
def jcn : Nat → String := fun c => match c with
  | 0 => RX0
  | 1 => RX1
  | 2 => RX2
  | 3 => RX3
  | 4 => RX4
  | 5 => RX5
  | 6 => RX6
  | 7 => RX7
  | 8 => RX8
  | 9 => RX9
  | 10 => RX10
  | 11 => RJ6
  | _ => RL
abbrev jmT : Type := MethodName × ByteArray × Nat × Option FieldType × Nat × Nat × Nat
def jmL_0 : List jmT := [(yX0_spell, cX0_spell, 6, (some .long), 0, 1, 1),
  (yX0_read, cX0_read, 7, (some .int), 0, 1, 1),
  (yX1_of, cX1_of, 4, (some .int), 1, 0, 4),
  (yX1_addressOf, cX1_addressOf, 1, (some .int), 1, 0, 1),
  (yX1_sends, cX1_sends, 1, (some .boolean), 1, 0, 1),
  (yX1_placeOf, cX1_placeOf, 1, (some .int), 1, 0, 1),
  (yX1_isMode, cX1_isMode, 2, (some .boolean), 1, 0, 1),
  (yX1_codeOf, cX1_codeOf, 1, (some .int), 1, 0, 1),
  (yX1_countOf, cX1_countOf, 2, (some .int), 1, 0, 1),
  (yX2_init, cX2_init, 2, none, 2, 2, 1),
  (yX2_terminalAt, cX2_terminalAt, 2, (some (.object "TwinLines$Terminal")), 2, 0, 1),
  (yX2_addTerminal, cX2_addTerminal, 3, (some .boolean), 2, 3, 2),
  (yX2_sayMessage, cX2_sayMessage, 3, none, 2, 3, 1),
  (yX2_hearAnswers, cX2_hearAnswers, 5, none, 2, 4, 1),
  (yX2_hearRelayed, cX2_hearRelayed, 4, none, 2, 4, 1),
  (yX2_sayReply, cX2_sayReply, 5, none, 2, 3, 2),
  (yX3_init, cX3_init, 1, none, 3, 2, 0),
  (yX3_speak, cX3_speak, 8, (some .int), 3, 2, 3),
  (yX3_remembered, cX3_remembered, 5, (some .int), 3, 0, 2),
  (yX4_init, cX4_init, 1, none, 4, 1, 0),
  (yX4_exchangeHeld, cX4_exchangeHeld, 6, (some .int), 4, 1, 3),
  (yX4_receivedAt, cX4_receivedAt, 4, (some .int), 4, 1, 2),
  (yX4_isBarred, cX4_isBarred, 3, (some .boolean), 4, 0, 2),
  (yX4_setBarred, cX4_setBarred, 4, none, 4, 1, 3),
  (yX4_send, cX4_send, 7, none, 4, 1, 3),
  (yX4_indexOf, cX4_indexOf, 2, (some .int), 4, 0, 2),
  (yX5_init, cX5_init, 3, none, 5, 2, 2),
  (yX5_status, cX5_status, 1, (some .int), 5, 0, 0),
  (yX5_hasFlag, cX5_hasFlag, 2, (some .boolean), 5, 0, 1),
  (yX5_setFlag, cX5_setFlag, 3, none, 5, 0, 2),
  (yX5_maySpeak, cX5_maySpeak, 2, (some .boolean), 5, 1, 1),
  (yX5_take, cX5_take, 7, (some .int), 5, 3, 3),
  (yX5_hearPartner, cX5_hearPartner, 4, (some .int), 5, 3, 2),
  (yX5_asksForStatus, cX5_asksForStatus, 3, (some .boolean), 5, 1, 1),
  (yX5_tellStatus, cX5_tellStatus, 3, (some .int), 5, 1, 2),
  (yX5_takeMode, cX5_takeMode, 9, (some .int), 5, 2, 4),
  (yX5_act, cX5_act, 5, none, 5, 1, 3),
  (yX5_checkItself, cX5_checkItself, 1, none, 5, 0, 0),
  (yX5_reset, cX5_reset, 1, none, 5, 0, 0),
  (yX5_takeSend, cX5_takeSend, 6, (some .int), 5, 2, 3)]
def jmL_1 : List jmT := [(yX5_receive, cX5_receive, 5, (some .int), 5, 2, 3),
  (yX5_waitForPartner, cX5_waitForPartner, 5, (some .int), 5, 2, 2),
  (yX5_isFree, cX5_isFree, 2, (some .boolean), 5, 1, 1),
  (yX5_refuse, cX5_refuse, 1, (some .int), 5, 1, 0),
  (yX5_answerStatus, cX5_answerStatus, 2, (some .int), 5, 1, 1),
  (yX6_init, cX6_init, 2, none, 6, 1, 1),
  (yX6_has, cX6_has, 3, (some .boolean), 6, 1, 1),
  (yX6_put, cX6_put, 5, (some .boolean), 6, 1, 2),
  (yX6_takeOut, cX6_takeOut, 4, (some .long), 6, 1, 1),
  (yX6_placeFor, cX6_placeFor, 3, (some .int), 6, 0, 1),
  (yX7_init, cX7_init, 10, none, 7, 1, 6),
  (yX7_compose, cX7_compose, 5, none, 7, 1, 2),
  (yX7_awaited, cX7_awaited, 1, (some .int), 7, 2, 0),
  (yX7_judge, cX7_judge, 6, none, 7, 3, 1),
  (yX7_keepWords, cX7_keepWords, 3, none, 7, 2, 2),
  (yX7_awaitsTo, cX7_awaitsTo, 1, (some .boolean), 7, 1, 0),
  (yX7_flawOf, cX7_flawOf, 4, (some .int), 7, 2, 3),
  (yX8_init, cX8_init, 1, none, 8, 1, 0),
  (yX8_clear, cX8_clear, 1, none, 8, 0, 0),
  (yX8_add, cX8_add, 2, none, 8, 0, 1),
  (yX8_at, cX8_at, 2, (some .int), 8, 0, 1),
  (yX8_isCommand, cX8_isCommand, 2, (some .boolean), 8, 1, 1),
  (yX8_bitsAt, cX8_bitsAt, 2, (some .int), 8, 1, 1),
  (yX8_lastCommandTo, cX8_lastCommandTo, 4, (some .int), 8, 2, 1),
  (yX8_isJustData, cX8_isJustData, 3, (some .boolean), 8, 0, 2),
  (yX8_copyTo, cX8_copyTo, 5, none, 8, 1, 4),
  (yX9_init, cX9_init, 1, none, 9, 3, 0),
  (yX9_terminal, cX9_terminal, 3, (some .int), 9, 4, 2),
  (yX9_listens, cX9_listens, 6, (some .int), 9, 1, 3),
  (yX9_hold, cX9_hold, 6, (some .int), 9, 2, 4),
  (yX9_got, cX9_got, 5, (some .int), 9, 2, 3),
  (yX9_note, cX9_note, 6, (some .int), 9, 1, 3),
  (yX9_vector, cX9_vector, 5, (some .int), 9, 1, 2),
  (yX9_bar, cX9_bar, 7, (some .int), 9, 2, 4),
  (yX9_block, cX9_block, 6, (some .int), 9, 1, 3),
  (yX9_transfer, cX9_transfer, 13, (some .int), 9, 2, 8),
  (yX9_close, cX9_close, 2, (some .int), 9, 2, 0),
  (yX9_retries, cX9_retries, 2, (some .boolean), 9, 1, 1),
  (yX9_period, cX9_period, 2, (some .boolean), 9, 1, 1),
  (yX9_run, cX9_run, 7, (some .int), 9, 7, 1)]
def jmL_2 : List jmT := [(yX9_alter, cX9_alter, 4, (some .boolean), 9, 2, 2),
  (yX9_mute, cX9_mute, 4, (some .boolean), 9, 2, 2),
  (yX9_result, cX9_result, 4, (some .int), 9, 2, 2),
  (yX9_told, cX9_told, 4, (some .int), 9, 1, 2),
  (yX9_heard, cX9_heard, 3, (some .int), 9, 1, 2),
  (yX9_halves, cX9_halves, 3, (some .long), 9, 2, 2),
  (yX9_word, cX9_word, 3, (some .int), 9, 2, 1),
  (yX9_count, cX9_count, 2, (some .int), 9, 0, 1),
  (yX9_beginFrame, cX9_beginFrame, 2, none, 9, 0, 0),
  (yX9_perform, cX9_perform, 4, (some .boolean), 9, 6, 1),
  (yX9_attempt, cX9_attempt, 3, none, 9, 5, 2),
  (yX9_transferAt, cX9_transferAt, 2, (some (.object "TwinLines$Transfer")), 9, 1, 1),
  (yX9_frameEnd, cX9_frameEnd, 2, (some .int), 9, 1, 1),
  (yX9_within, cX9_within, 3, (some .boolean), 9, 0, 3),
  (yX9_isLine, cX9_isLine, 1, (some .boolean), 9, 0, 1),
  (yX9_isPlace, cX9_isPlace, 1, (some .boolean), 9, 0, 1),
  (yX9_isRowIndex, cX9_isRowIndex, 1, (some .boolean), 9, 0, 1),
  (yX9_isBits, cX9_isBits, 1, (some .boolean), 9, 0, 1),
  (yX9_isBlock, cX9_isBlock, 1, (some .boolean), 9, 0, 1),
  (yX9_isNote, cX9_isNote, 1, (some .boolean), 9, 0, 1),
  (yX9_isModeTo, cX9_isModeTo, 2, (some .boolean), 9, 1, 2),
  (yX9_inSet, cX9_inSet, 2, (some .boolean), 9, 0, 2),
  (yX9_bitAt, cX9_bitAt, 2, (some .int), 9, 0, 2),
  (yX9_withBit, cX9_withBit, 3, (some .int), 9, 0, 3),
  (yX10_init, cX10_init, 2, none, 10, 1, 0),
  (yX10_isIn, cX10_isIn, 3, (some .boolean), 10, 0, 3),
  (yX10_isTerminal, cX10_isTerminal, 2, (some .boolean), 10, 1, 1),
  (yX10_halves, cX10_halves, 8, (some .long), 10, 1, 2),
  (yX10_word, cX10_word, 5, (some .int), 10, 2, 1),
  (yX10_isCommand, cX10_isCommand, 1, (some .boolean), 10, 0, 1),
  (yX10_isData, cX10_isData, 1, (some .boolean), 10, 1, 1),
  (yX10_say, cX10_say, 8, (some .int), 10, 3, 4),
  (yX10_statusOf, cX10_statusOf, 3, (some .int), 10, 0, 1),
  (yX10_addressOf, cX10_addressOf, 1, (some .int), 10, 0, 1),
  (yX10_isToSend, cX10_isToSend, 1, (some .boolean), 10, 0, 1),
  (yX10_placeOf, cX10_placeOf, 1, (some .int), 10, 0, 1),
  (yX10_isMode, cX10_isMode, 1, (some .boolean), 10, 1, 1),
  (yX10_countOf, cX10_countOf, 1, (some .int), 10, 0, 1),
  (yX10_commandFor, cX10_commandFor, 5, (some .int), 10, 1, 1),
  (yX10_takes, cX10_takes, 4, (some .boolean), 10, 0, 1)]
def jmL_3 : List jmT := [(yX10_isRestData, cX10_isRestData, 5, (some .boolean), 10, 2, 2),
  (yX10_isRelay, cX10_isRelay, 5, (some .boolean), 10, 2, 3),
  (yX10_isModeToDo, cX10_isModeToDo, 6, (some .boolean), 10, 3, 2),
  (yX10_answer, cX10_answer, 6, none, 10, 4, 3),
  (yX10_replyWith, cX10_replyWith, 2, none, 10, 0, 1),
  (yX10_may, cX10_may, 5, (some .boolean), 10, 0, 3),
  (yX10_hear, cX10_hear, 9, none, 10, 6, 2),
  (yX10_mode, cX10_mode, 8, none, 10, 5, 5),
  (yX10_change, cX10_change, 6, none, 10, 0, 4),
  (yX10_getAnswer, cX10_getAnswer, 8, none, 10, 5, 2),
  (yX10_send, cX10_send, 4, none, 10, 4, 3),
  (yX10_command, cX10_command, 4, (some .int), 10, 0, 4),
  (yX10_hasWord, cX10_hasWord, 1, (some .boolean), 10, 0, 1),
  (yX10_tell, cX10_tell, 4, none, 10, 5, 2),
  (yX10_why, cX10_why, 7, (some .int), 10, 2, 3),
  (yX10_awaited, cX10_awaited, 2, (some .int), 10, 0, 1),
  (yX10_wordsOf, cX10_wordsOf, 3, (some .int), 10, 0, 1),
  (yX10_attempt, cX10_attempt, 7, (some .int), 10, 7, 2),
  (yX10_isDone, cX10_isDone, 6, (some .boolean), 10, 8, 1),
  (yX10_run, cX10_run, 7, (some .int), 10, 9, 1),
  (yX10_terminal, cX10_terminal, 3, (some .int), 10, 1, 2),
  (yX10_listens, cX10_listens, 5, (some .int), 10, 2, 3),
  (yX10_isWordPlace, cX10_isWordPlace, 4, (some .boolean), 10, 2, 3),
  (yX10_hold, cX10_hold, 7, (some .int), 10, 3, 4),
  (yX10_got, cX10_got, 4, (some .int), 10, 3, 3),
  (yX10_note, cX10_note, 6, (some .int), 10, 2, 3),
  (yX10_vector, cX10_vector, 4, (some .int), 10, 2, 2),
  (yX10_bar, cX10_bar, 7, (some .int), 10, 2, 4),
  (yX10_block, cX10_block, 5, (some .int), 10, 1, 3),
  (yX10_isTold, cX10_isTold, 9, (some .boolean), 10, 1, 7),
  (yX10_transfer, cX10_transfer, 9, (some .int), 10, 2, 8),
  (yX10_close, cX10_close, 2, (some .int), 10, 0, 0),
  (yX10_retries, cX10_retries, 2, (some .boolean), 10, 1, 1),
  (yX10_period, cX10_period, 2, (some .boolean), 10, 1, 1),
  (yX10_alter, cX10_alter, 5, (some .boolean), 10, 1, 2),
  (yX10_mute, cX10_mute, 4, (some .boolean), 10, 2, 2),
  (yX10_result, cX10_result, 3, (some .int), 10, 1, 2),
  (yX10_told, cX10_told, 3, (some .int), 10, 2, 2),
  (yX10_heard, cX10_heard, 5, (some .int), 10, 1, 2),
  (yX10_count, cX10_count, 2, (some .int), 10, 0, 1)]
def jmL_4 : List jmT := [(yJ6_bitCount_0f7a4, cJ6_bitCount_0f7a4, 1, (some .int), 11, 0, 1),
  (yL_law, cL_law, 4, (some .boolean), 12, 10, 1)]
def jmL : List jmT := jmL_0 ++ (jmL_1 ++ (jmL_2 ++ (jmL_3 ++ (jmL_4))))
def jm (y : Nat) : jmT := jmL.getD y (yL_law, cL_law, 0, none, 0, 0, 0)
def jm_name (y : Nat) : MethodName := (jm y).1
def jm_code (y : Nat) : ByteArray := (jm y).2.1
def jm_max (y : Nat) : Nat := (jm y).2.2.1
def jm_ret (y : Nat) : Option FieldType := (jm y).2.2.2.1
def jm_cn (y : Nat) : Nat := (jm y).2.2.2.2.1
def jm_fr (y : Nat) : Nat := (jm y).2.2.2.2.2.1
def jm_na (y : Nat) : Nat := (jm y).2.2.2.2.2.2
def jm_inits : List Nat := [9, 16, 19, 26, 45, 50, 57, 66, 104]
def jmC : List Nat := [560, 573, 431, 599, 613, 672, 610, 439, 676, 124, 338, 239, 541, 579, 712, 704, 70, 550, 781, 249, 365, 376, 403, 407, 680, 368, 243, 624, 387, 391, 708, 583, 717, 606, 618, 631, 647, 651, 657, 665, 685, 695, 669, 643, 661, 76, 764, 752, 554, 756, 435, 527, 725, 721, 742, 729, 736, 132, 531, 536, 546, 699, 594, 587, 638, 690, 62, 232, 334, 351, 372, 380, 395, 399, 412, 419, 490, 498, 502, 507, 747, 760, 768, 772, 777, 787, 793, 798, 511, 519, 523, 515, 494, 235, 341, 354, 357, 360, 415, 383, 422, 427, 344, 347, 803, 985, 1123, 981, 993, 1037, 1075, 1022, 1057, 1040, 1053, 1050, 1047, 1068, 1034, 1044, 1072, 1083, 1087, 1065, 1061, 1079, 1030, 1091, 1095, 1099, 1018, 1014, 1026, 1011, 1111, 1103, 1107, 1007, 1003, 999, 1115, 1119, 1131, 1127, 1135, 1139, 1143, 1147, 1151, 1158, 1155, 1162, 1166, 1170, 1175, 1180, 1184, 1188, 1192, 1196, 564]
def jmP : List (Nat × Nat × Nat × Bool) := [(559, 0, 56, true), (572, 0, 56, true), (430, 0, 53, true), (598, 0, 53, true), (612, 0, 53, true), (671, 0, 53, true), (609, 0, 53, true), (438, 0, 53, true), (675, 0, 53, true), (123, 0, 48, false), (336, 337, 48, false), (237, 238, 48, false), (539, 540, 48, false), (577, 578, 48, false), (710, 711, 48, false), (703, 17, 48, false), (69, 0, 45, false), (548, 549, 45, false), (779, 780, 45, false), (248, 0, 52, false), (363, 364, 52, false), (374, 375, 52, false), (401, 402, 52, false), (405, 406, 52, false), (678, 679, 52, false), (367, 0, 52, true), (242, 0, 51, false), (622, 623, 51, false), (385, 386, 51, false), (389, 390, 51, false), (706, 707, 51, false), (581, 582, 51, false), (715, 716, 51, false), (605, 5, 51, false), (617, 6, 51, false), (630, 7, 51, false), (646, 9, 51, false), (650, 10, 51, false), (656, 11, 51, false), (664, 13, 51, false), (684, 15, 51, false), (694, 16, 51, false), (668, 14, 51, false), (642, 8, 51, false), (660, 12, 51, false), (75, 0, 46, false), (762, 763, 46, false), (750, 751, 46, false), (552, 553, 46, false), (755, 19, 46, false), (434, 0, 54, false), (525, 526, 54, false), (723, 724, 54, false), (719, 720, 54, false), (740, 741, 54, false), (728, 18, 54, false), (735, 0, 54, true), (131, 0, 49, false), (529, 530, 49, false), (534, 535, 49, false), (544, 545, 49, false), (697, 698, 49, false), (592, 593, 49, false), (585, 586, 49, false), (636, 637, 49, false), (688, 689, 49, false), (61, 0, 44, false), (230, 231, 44, false), (332, 333, 44, false), (349, 350, 44, false), (370, 371, 44, false), (378, 379, 44, false), (393, 394, 44, false), (397, 398, 44, false), (410, 411, 44, false), (417, 418, 44, false), (488, 489, 44, false), (496, 497, 44, false), (500, 501, 44, false), (505, 506, 44, false), (745, 746, 44, false), (758, 759, 44, false), (766, 767, 44, false), (770, 771, 44, false), (775, 776, 44, false), (785, 786, 44, false), (791, 792, 44, false), (796, 797, 44, false), (510, 1, 44, false), (518, 3, 44, false), (522, 4, 44, false), (514, 2, 44, false), (493, 0, 44, false), (234, 0, 44, true), (340, 0, 44, true), (353, 0, 44, true), (356, 0, 44, true), (359, 0, 44, true), (414, 0, 44, true), (382, 0, 44, true), (421, 0, 44, true), (426, 0, 44, true), (343, 0, 44, true), (346, 0, 44, true), (802, 0, 50, false), (984, 0, 50, true), (1122, 41, 50, false), (979, 980, 50, false), (991, 992, 50, false), (1036, 0, 50, true), (1074, 0, 50, true), (1021, 24, 50, false), (1056, 28, 50, false), (1039, 0, 50, true), (1052, 0, 50, true), (1049, 0, 50, true), (1046, 0, 50, true), (1067, 0, 50, true), (1033, 26, 50, false), (1043, 27, 50, false), (1071, 31, 50, false), (1082, 33, 50, false), (1086, 34, 50, false), (1064, 30, 50, false), (1060, 29, 50, false), (1078, 32, 50, false), (1029, 25, 50, false), (1090, 35, 50, false), (1094, 36, 50, false), (1098, 37, 50, false), (1017, 23, 50, false), (1013, 0, 50, true), (1025, 0, 50, true), (1010, 22, 50, false), (1110, 40, 50, false), (1102, 38, 50, false), (1106, 39, 50, false), (1006, 21, 50, false), (1002, 20, 50, false), (997, 998, 50, false), (1113, 1114, 50, false), (1117, 1118, 50, false), (1130, 42, 50, false), (1125, 1126, 50, false), (1133, 1134, 50, false), (1137, 1138, 50, false), (1141, 1142, 50, false), (1145, 1146, 50, false), (1149, 1150, 50, false), (1157, 0, 50, true), (1153, 1154, 50, false), (1160, 1161, 50, false), (1164, 1165, 50, false), (1168, 1169, 50, false), (1173, 1174, 50, false), (1178, 1179, 50, false), (1182, 1183, 50, false), (1186, 1187, 50, false), (1190, 1191, 50, false), (1194, 1195, 50, false), (563, 0, 57, true)]
def jmNL : Nat := 161
/-- places: code of max, min, Object.<init>; static max, min; instance Object.<init>; initialized Math -/
def jmX : List Nat := [80, 590, 65, 79, 589, 64, 47]
def jt_fL : List ((Nat × Nat) × Nat × Nat × Bool × Nat) := [((2, 11), 0, 1, false, 153), ((2, 20), 0, 2, false, 154), ((2, 24), 0, 3, false, 156), ((2, 27), 0, 4, false, 157), ((2, 30), 0, 5, false, 158), ((2, 33), 0, 6, false, 161), ((2, 36), 0, 0, false, 152), ((2, 43), 0, 7, false, 164), ((2, 50), 0, 8, false, 166), ((2, 53), 0, 9, false, 168), ((2, 56), 6, 2, true, 137), ((2, 97), 3, 14, true, 292), ((2, 100), 1, 6, true, 103), ((2, 103), 3, 1, true, 270), ((2, 106), 3, 0, true, 268), ((3, 9), 1, 0, false, 94), ((3, 15), 1, 1, false, 95), ((3, 18), 1, 2, false, 96), ((3, 21), 1, 3, false, 97), ((3, 29), 1, 4, false, 98), ((3, 33), 1, 5, false, 100), ((3, 50), 1, 6, false, 102), ((4, 9), 2, 0, false, 251), ((4, 15), 2, 1, false, 252), ((4, 22), 2, 3, false, 255), ((4, 26), 2, 2, false, 254), ((5, 12), 3, 2, false, 271), ((5, 23), 3, 3, false, 273), ((5, 27), 3, 4, false, 275), ((5, 31), 3, 12, false, 288), ((5, 34), 3, 0, false, 267), ((5, 37), 3, 1, false, 269), ((5, 40), 3, 7, false, 280), ((5, 44), 3, 6, false, 279), ((5, 47), 3, 15, false, 294), ((5, 50), 3, 5, false, 277), ((5, 63), 3, 13, false, 290), ((5, 73), 6, 2, true, 138), ((5, 124), 3, 16, false, 295), ((5, 165), 3, 8, false, 282), ((5, 168), 3, 9, false, 283), ((5, 171), 3, 11, false, 286), ((5, 184), 3, 10, false, 285), ((5, 202), 2, 1, true, 253), ((6, 13), 4, 0, false, 81), ((6, 19), 4, 1, false, 82), ((6, 27), 4, 2, false, 83), ((7, 9), 5, 7, false, 451), ((7, 15), 5, 11, false, 457), ((7, 30), 5, 0, false, 443), ((7, 33), 5, 1, false, 444), ((7, 36), 5, 2, false, 445), ((7, 39), 5, 3, false, 446), ((7, 42), 5, 4, false, 447), ((7, 46), 5, 5, false, 448), ((7, 49), 5, 6, false, 449), ((7, 66), 0, 8, true, 165), ((7, 81), 0, 6, true, 162), ((7, 85), 0, 5, true, 159), ((7, 95), 5, 10, false, 455), ((8, 9), 6, 0, false, 134), ((8, 15), 6, 1, false, 135), ((8, 18), 6, 2, false, 136), ((8, 22), 6, 3, false, 139), ((8, 25), 6, 4, false, 140), ((9, 10), 7, 0, false, 192), ((9, 21), 7, 1, false, 193), ((9, 25), 7, 2, false, 194), ((9, 31), 7, 3, false, 195), ((9, 35), 7, 4, false, 196), ((9, 38), 7, 10, false, 202), ((9, 42), 7, 11, false, 203), ((9, 53), 0, 7, true, 163), ((9, 64), 3, 4, true, 276), ((9, 86), 3, 2, true, 272), ((9, 109), 3, 8, true, 281), ((9, 123), 7, 5, false, 197), ((9, 142), 7, 6, false, 198), ((9, 153), 7, 7, false, 199), ((9, 164), 7, 8, false, 200), ((9, 169), 1, 4, true, 99), ((9, 173), 1, 5, true, 101), ((9, 182), 3, 3, true, 274), ((9, 185), 3, 13, true, 291), ((9, 191), 5, 7, true, 452), ((9, 194), 5, 8, true, 453), ((9, 197), 5, 9, true, 454), ((9, 200), 5, 10, true, 456), ((9, 203), 5, 11, true, 458), ((9, 206), 5, 12, true, 459), ((9, 213), 3, 12, true, 289), ((9, 216), 3, 11, true, 287), ((9, 219), 3, 9, true, 284), ((9, 222), 3, 5, true, 278), ((9, 225), 3, 14, true, 293), ((9, 244), 1, 6, true, 104), ((9, 247), 7, 9, false, 201), ((9, 250), 4, 2, true, 84), ((9, 253), 5, 6, true, 450), ((9, 260), 0, 2, true, 155), ((9, 282), 0, 8, true, 167), ((9, 288), 0, 5, true, 160), ((10, 7), 8, 0, false, 805), ((10, 13), 8, 1, false, 806), ((10, 17), 8, 2, false, 807), ((10, 20), 8, 3, false, 808), ((10, 23), 8, 4, false, 809), ((10, 26), 8, 5, false, 810), ((10, 29), 8, 6, false, 811), ((10, 32), 8, 7, false, 812), ((10, 35), 8, 8, false, 813), ((10, 38), 8, 9, false, 814), ((10, 41), 8, 10, false, 815), ((10, 44), 8, 11, false, 816), ((10, 47), 8, 12, false, 817), ((10, 50), 8, 13, false, 818), ((10, 53), 8, 14, false, 819), ((10, 56), 8, 15, false, 820), ((10, 59), 8, 16, false, 821), ((10, 62), 8, 17, false, 822), ((10, 65), 8, 18, false, 823), ((10, 68), 8, 19, false, 824), ((10, 71), 8, 23, false, 828), ((10, 74), 8, 24, false, 829), ((10, 77), 8, 25, false, 830), ((10, 80), 8, 26, false, 831), ((10, 83), 8, 27, false, 832), ((10, 86), 8, 28, false, 833), ((10, 90), 8, 30, false, 835), ((10, 93), 8, 31, false, 836), ((10, 96), 8, 32, false, 837), ((10, 99), 8, 33, false, 838), ((10, 102), 8, 34, false, 839), ((10, 105), 8, 35, false, 840), ((10, 108), 8, 36, false, 841), ((10, 111), 8, 37, false, 842), ((10, 114), 8, 38, false, 843), ((10, 117), 8, 39, false, 844), ((10, 120), 8, 41, false, 846), ((10, 123), 8, 46, false, 851), ((10, 127), 8, 47, false, 852), ((10, 130), 8, 48, false, 853), ((10, 133), 8, 50, false, 855), ((10, 136), 8, 51, false, 856), ((10, 139), 8, 53, false, 858), ((10, 142), 8, 54, false, 859), ((10, 145), 8, 55, false, 860), ((10, 166), 8, 29, false, 834), ((10, 169), 8, 21, false, 826), ((10, 176), 8, 22, false, 827), ((10, 183), 8, 49, false, 854), ((10, 209), 8, 52, false, 857), ((10, 212), 8, 56, false, 861), ((10, 288), 8, 42, false, 847), ((10, 291), 8, 44, false, 849), ((10, 294), 8, 45, false, 850), ((10, 297), 8, 43, false, 848), ((10, 303), 8, 20, false, 825), ((10, 312), 8, 40, false, 845)]
def jt_mL : List ((Nat × Nat) × Nat × Nat × Nat) := [((0, 10), 0, 160, 562), ((2, 3), 6, 0, 125), ((2, 19), 5, 57, 130), ((2, 40), 4, 26, 241), ((2, 47), 2, 58, 542), ((2, 59), 2, 60, 543), ((2, 63), 2, 17, 547), ((2, 69), 2, 59, 575), ((2, 73), 2, 31, 580), ((2, 77), 1, 103, 700), ((2, 81), 2, 15, 701), ((2, 85), 1, 102, 713), ((2, 89), 2, 32, 714), ((2, 93), 2, 30, 705), ((3, 3), 6, 0, 71), ((3, 26), 4, 45, 74), ((3, 37), 2, 48, 551), ((3, 41), 0, 0, 558), ((3, 46), 0, 1, 571), ((4, 3), 6, 0, 250), ((4, 18), 0, 25, 366), ((4, 29), 1, 103, 408), ((4, 33), 2, 59, 681), ((5, 3), 6, 0, 244), ((5, 11), 5, 19, 247), ((5, 20), 4, 45, 266), ((5, 53), 1, 102, 600), ((5, 57), 2, 63, 584), ((5, 66), 2, 48, 601), ((5, 70), 2, 62, 602), ((5, 76), 2, 33, 603), ((5, 80), 2, 34, 615), ((5, 84), 0, 3, 614), ((5, 89), 2, 29, 627), ((5, 93), 0, 6, 608), ((5, 96), 2, 35, 628), ((5, 100), 0, 4, 611), ((5, 103), 2, 39, 662), ((5, 107), 0, 8, 674), ((5, 110), 2, 64, 635), ((5, 114), 2, 40, 682), ((5, 117), 2, 41, 692), ((5, 121), 2, 61, 696), ((5, 127), 2, 43, 640), ((5, 131), 0, 7, 607), ((5, 134), 2, 58, 619), ((5, 138), 2, 27, 621), ((5, 141), 2, 59, 625), ((5, 144), 7, 0, 626), ((5, 149), 2, 28, 632), ((5, 153), 1, 101, 634), ((5, 157), 2, 36, 644), ((5, 161), 2, 44, 658), ((5, 174), 2, 37, 648), ((5, 177), 1, 103, 653), ((5, 181), 2, 38, 654), ((5, 188), 2, 42, 666), ((5, 192), 0, 5, 670), ((5, 195), 2, 24, 677), ((5, 199), 0, 25, 686), ((5, 206), 2, 65, 687), ((5, 210), 2, 22, 673), ((6, 1), 6, 0, 77), ((6, 7), 7, 0, 78), ((6, 23), 2, 49, 753), ((6, 31), 9, 0, 555), ((7, 3), 6, 0, 436), ((7, 18), 0, 7, 437), ((7, 25), 1, 101, 441), ((7, 52), 2, 58, 528), ((7, 58), 2, 59, 533), ((7, 62), 2, 55, 726), ((7, 71), 2, 52, 722), ((7, 75), 8, 0, 731), ((7, 88), 2, 61, 732), ((7, 92), 2, 62, 733), ((7, 98), 0, 56, 734), ((7, 102), 2, 65, 743), ((7, 106), 0, 3, 730), ((7, 109), 2, 64, 737), ((8, 3), 6, 0, 133), ((8, 29), 2, 60, 595), ((8, 34), 8, 0, 588), ((8, 40), 2, 62, 591), ((8, 43), 0, 3, 597), ((8, 48), 9, 0, 691), ((9, 1), 6, 0, 63), ((9, 9), 5, 16, 68), ((9, 18), 4, 9, 122), ((9, 45), 0, 93, 233), ((9, 49), 2, 11, 236), ((9, 56), 2, 10, 335), ((9, 60), 0, 94, 339), ((9, 69), 0, 102, 342), ((9, 73), 0, 103, 345), ((9, 77), 0, 95, 352), ((9, 80), 0, 96, 355), ((9, 83), 0, 97, 358), ((9, 90), 2, 20, 362), ((9, 96), 2, 21, 373), ((9, 99), 0, 99, 381), ((9, 102), 2, 28, 384), ((9, 105), 2, 29, 388), ((9, 112), 2, 22, 400), ((9, 116), 2, 23, 404), ((9, 120), 0, 98, 413), ((9, 126), 0, 100, 420), ((9, 130), 0, 101, 425), ((9, 133), 0, 2, 429), ((9, 139), 4, 50, 433), ((9, 145), 2, 92, 491), ((9, 150), 2, 88, 508), ((9, 156), 2, 91, 512), ((9, 160), 2, 89, 516), ((9, 176), 2, 47, 749), ((9, 188), 2, 46, 761), ((9, 209), 2, 27, 773), ((9, 228), 2, 18, 778), ((9, 234), 0, 0, 789), ((9, 240), 0, 1, 794), ((9, 256), 2, 90, 520), ((9, 264), 2, 51, 524), ((9, 268), 2, 12, 538), ((9, 272), 2, 13, 576), ((9, 275), 2, 14, 709), ((9, 278), 2, 53, 718), ((9, 285), 2, 52, 738), ((9, 291), 2, 54, 739), ((10, 1), 6, 0, 804), ((10, 148), 0, 105, 983), ((10, 161), 2, 107, 994), ((10, 172), 2, 108, 1023), ((10, 179), 0, 115, 1048), ((10, 186), 0, 109, 1035), ((10, 190), 0, 113, 1038), ((10, 193), 0, 110, 1073), ((10, 196), 0, 114, 1051), ((10, 199), 0, 116, 1045), ((10, 202), 0, 117, 1066), ((10, 205), 2, 120, 1069), ((10, 215), 2, 111, 1019), ((10, 219), 2, 118, 1031), ((10, 222), 2, 119, 1041), ((10, 225), 2, 112, 1054), ((10, 228), 2, 124, 1058), ((10, 232), 2, 123, 1062), ((10, 236), 2, 125, 1076), ((10, 239), 2, 121, 1080), ((10, 242), 2, 122, 1084), ((10, 245), 2, 127, 1088), ((10, 249), 2, 128, 1092), ((10, 253), 0, 131, 1012), ((10, 257), 2, 130, 1015), ((10, 261), 0, 132, 1024), ((10, 264), 2, 133, 1008), ((10, 268), 2, 126, 1027), ((10, 271), 2, 129, 1096), ((10, 274), 2, 135, 1100), ((10, 277), 2, 136, 1104), ((10, 280), 2, 134, 1108), ((10, 284), 2, 137, 1004), ((10, 300), 2, 138, 1000), ((10, 306), 2, 106, 1120), ((10, 309), 2, 142, 1128), ((10, 315), 0, 149, 1156), ((12, 9), 4, 66, 60), ((12, 12), 4, 104, 801), ((12, 13), 2, 67, 229), ((12, 17), 2, 140, 1112), ((12, 18), 2, 68, 331), ((12, 22), 2, 141, 1116), ((12, 23), 2, 69, 348), ((12, 27), 2, 143, 1124), ((12, 28), 2, 70, 369), ((12, 32), 2, 144, 1132), ((12, 33), 2, 71, 377), ((12, 36), 2, 145, 1136), ((12, 37), 2, 72, 392), ((12, 40), 2, 146, 1140), ((12, 41), 2, 73, 396), ((12, 45), 2, 147, 1144), ((12, 46), 2, 74, 409), ((12, 49), 2, 148, 1148), ((12, 50), 2, 75, 416), ((12, 54), 2, 150, 1152), ((12, 55), 2, 76, 487), ((12, 59), 2, 151, 1159), ((12, 60), 2, 77, 495), ((12, 64), 2, 152, 1163), ((12, 65), 2, 78, 499), ((12, 68), 2, 153, 1167), ((12, 69), 2, 79, 504), ((12, 73), 2, 139, 996), ((12, 76), 2, 80, 744), ((12, 80), 2, 154, 1172), ((12, 81), 2, 81, 757), ((12, 85), 2, 155, 1177), ((12, 86), 2, 82, 765), ((12, 89), 2, 156, 1181), ((12, 90), 2, 83, 769), ((12, 93), 2, 157, 1185), ((12, 94), 2, 84, 774), ((12, 97), 2, 158, 1189), ((12, 98), 2, 85, 784), ((12, 102), 2, 107, 978), ((12, 103), 2, 86, 790), ((12, 107), 2, 108, 990), ((12, 108), 2, 87, 795), ((12, 111), 2, 159, 1193)]
def jt_nL : List ((Nat × Nat) × Nat × Nat × Nat × Nat) := [((2, 17), 6, 128, 129, 49), ((2, 9), 3, 126, 240, 51), ((3, 24), 4, 72, 73, 46), ((5, 9), 2, 245, 246, 52), ((5, 18), 4, 265, 73, 46), ((9, 7), 1, 66, 67, 45), ((9, 16), 0, 120, 121, 48), ((9, 29), 5, 190, 432, 54), ((12, 7), 7, 58, 59, 44), ((12, 10), 8, 799, 800, 50)]
def jt_aL : List ((Nat × Nat) × Nat × Nat) := [((2, 9), 3, 126), ((9, 29), 4, 190)]
def jt_kL : List ((Nat × Nat) × Int32 × Nat) := [((0, 9), 65535, 561), ((0, 16), 65536, 568), ((3, 53), 65535, 782), ((3, 54), 65536, 783), ((5, 137), 65536, 620), ((5, 152), 590331, 633), ((5, 156), 3276800, 639), ((5, 187), 65535, 652), ((7, 24), 3276800, 440), ((7, 29), 851968, 442), ((7, 57), 65536, 532), ((8, 28), 65536, 537), ((8, 33), 65535, 596), ((9, 129), 3276800, 428), ((9, 149), 100000, 503), ((9, 233), 65536, 361), ((9, 294), 3277306, 423), ((9, 295), 4129279, 424), ((10, 152), 65535, 982), ((10, 165), 65536, 995), ((10, 319), 100000, 1171), ((11, 265), 1431655765, 565), ((11, 266), 858993459, 566), ((11, 267), 252645135, 567)]
def jt_lL : List ((Nat × Nat) × Int64 × Nat) := [((0, 17), 56, 569), ((0, 19), 7, 570), ((0, 21), 3, 574), ((9, 167), 1099511627775, 748), ((9, 231), -1, 788), ((10, 153), -1, 986), ((10, 155), 56, 987), ((10, 157), 7, 988), ((10, 159), 2, 989), ((10, 320), 1099511627776, 1176), ((12, 74), 4294967295, 1197)]
