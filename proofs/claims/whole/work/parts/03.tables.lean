/-! THE TABLES: methods, links, shapes (laid by wip/whole/gen.py) -/
def mj_tbl : List Cond := lw_tbl.filter goodWord
def mj_inT (p : Nat) (w : Cond) : Bool := decide (lw_tbl[p]? = some w) && goodWord w
theorem mj_inT_mem {p : Nat} {w : Cond} (h : mj_inT p w = true) : w ∈ mj_tbl := by
  simp only [mj_inT, Bool.and_eq_true, decide_eq_true_eq] at h
  exact List.mem_filter.mpr ⟨List.mem_of_getElem? h.1, h.2⟩
theorem mj_tbl_good : ∀ w ∈ mj_tbl, (w.onTables && w.keeps) = true ∨ ∃ ty, w = .arrayClass ty := fun w h => good_of_word (List.mem_filter.mp h).2
theorem mj_tbl_lw : ∀ w ∈ mj_tbl, w ∈ lw_tbl := fun w h => (List.mem_filter.mp h).1
def mj_ownL : List String := [RX0, RX1, RX2, RX3, RX4, RX5, RX6, RX7, RX8, RJ6, RL, RJ0, RJ1, RJ3]
def mj_own (c : Nat) : String := mj_ownL.getD c ""
/-- a method: name, code, locals, answer, class, parameters, kind (0 to 7: its receiver's class; 20: a String; 30: static), height -/
abbrev mj_M : Type := MethodName × ByteArray × Nat × Option FieldType × Nat × Nat × Nat × Nat
theorem mj_inT1 {l : List Cond} (hs : ∀ w ∈ l, w ∈ tables_1) (i : Nat) {w : Cond} (h : l[i]? = some w) (g : goodWord w = true) : w ∈ mj_tbl :=
  List.mem_filter.mpr ⟨List.mem_append_right _ (hs w (List.mem_of_getElem? h)), g⟩
theorem mj_t1 : ∀ w ∈ tables_1_1, w ∈ tables_1 := fun w h => List.mem_append_left _ h
theorem mj_t2 : ∀ w ∈ tables_1_2, w ∈ tables_1 := fun w h => List.mem_append_right _ (List.mem_append_left _ h)
theorem mj_t3 : ∀ w ∈ tables_1_3, w ∈ tables_1 := fun w h => List.mem_append_right _ (List.mem_append_right _ (List.mem_append_left _ h))
theorem mj_t4 : ∀ w ∈ tables_1_4, w ∈ tables_1 := fun w h => List.mem_append_right _ (List.mem_append_right _ (List.mem_append_right _ (List.mem_append_left _ h)))
theorem mj_t5 : ∀ w ∈ tables_1_5, w ∈ tables_1 := fun w h => List.mem_append_right _ (List.mem_append_right _ (List.mem_append_right _ (List.mem_append_right _ (List.mem_append_left _ h))))
theorem mj_t6 : ∀ w ∈ tables_1_6, w ∈ tables_1 := fun w h => List.mem_append_right _ (List.mem_append_right _ (List.mem_append_right _ (List.mem_append_right _ (List.mem_append_right _ h))))
def mj_cW (e : mj_M) : Cond := .code e.1 e.2.1 e.2.2.1 e.2.2.2.1
def mj_mL_0 : List mj_M := [
  (yX0_weigh, cX0_weigh, 9, none, 0, 2, 0, 3),
  (yX0_settle, cX0_settle, 1, none, 0, 0, 0, 1),
  (yX0_whom, cX0_whom, 2, (some .int), 0, 1, 0, 1),
  (yX1_isKind, cX1_isKind, 1, (some .boolean), 1, 1, 30, 2),
  (yX1_above, cX1_above, 1, (some .int), 1, 1, 30, 3),
  (yX1_isUnder, cX1_isUnder, 4, (some .boolean), 1, 2, 30, 4),
  (yX2_copyFrom, cX2_copyFrom, 2, none, 2, 1, 1, 1),
  (yX2_hasGrown, cX2_hasGrown, 2, (some .boolean), 2, 1, 1, 1),
  (yX2_hasChild, cX2_hasChild, 2, (some .boolean), 2, 1, 1, 1),
  (yX2_hasRoomForGrown, cX2_hasRoomForGrown, 1, (some .boolean), 2, 0, 1, 1),
  (yX2_hasRoomForChild, cX2_hasRoomForChild, 1, (some .boolean), 2, 0, 1, 1),
  (yX2_addGrown, cX2_addGrown, 6, (some .int), 2, 4, 1, 1),
  (yX2_addChild, cX2_addChild, 5, (some .int), 2, 3, 1, 1),
  (yX2_isDead, cX2_isDead, 2, (some .boolean), 2, 1, 1, 1),
  (yX2_isGodparent, cX2_isGodparent, 3, (some .boolean), 2, 2, 1, 1),
  (yX2_shoesOf, cX2_shoesOf, 2, (some .int), 2, 1, 1, 1)]
def mj_mP_0 : List (List Nat) := [[653, 76, 651, 652], [659, 76, 658, 15], [663, 76, 661, 662], [394, 83, 393, 0], [401, 83, 400, 0], [398, 83, 397, 0], [507, 75, 505, 506], [379, 75, 377, 378], [448, 75, 446, 447], [420, 75, 418, 419], [432, 75, 430, 431], [424, 75, 422, 423], [436, 75, 434, 435], [456, 75, 454, 455], [412, 75, 410, 411], [480, 75, 478, 479]]
def mj_mL_1 : List mj_M := [
  (yX2_mostGiftsOf, cX2_mostGiftsOf, 2, (some .int), 2, 1, 1, 1),
  (yX2_chargeOf, cX2_chargeOf, 4, (some .int), 2, 1, 1, 2),
  (yX2_likingOf, cX2_likingOf, 3, (some .int), 2, 2, 1, 1),
  (yX2_raiseLiking, cX2_raiseLiking, 4, none, 2, 3, 1, 2),
  (yX2_give, cX2_give, 4, none, 2, 3, 1, 3),
  (yX2_pullOf, cX2_pullOf, 3, (some .int), 2, 2, 1, 2),
  (yX2_pullWith, cX2_pullWith, 5, (some .int), 2, 3, 1, 2),
  (yX2_pullAt, cX2_pullAt, 8, (some .int), 2, 3, 1, 1),
  (yX2_isAhead, cX2_isAhead, 7, (some .boolean), 2, 4, 1, 3),
  (yX2_choiceOf, cX2_choiceOf, 2, (some (.object "ChosenBackAtNine$Choice")), 2, 1, 1, 4),
  (yX2_chargeThenOf, cX2_chargeThenOf, 4, (some .int), 2, 1, 1, 5),
  (yX2_childrenBy, cX2_childrenBy, 5, (some .int), 2, 2, 1, 5),
  (yX2_mostTaken, cX2_mostTaken, 5, (some .int), 2, 0, 1, 6),
  (yX2_howManyBare, cX2_howManyBare, 3, (some .int), 2, 0, 1, 6),
  (yX2_wouldTrade, cX2_wouldTrade, 5, (some .boolean), 2, 2, 1, 5),
  (yX2_letChoose, cX2_letChoose, 2, (some .int), 2, 1, 1, 4)]
def mj_mP_1 : List (List Nat) := [[741, 75, 739, 740], [408, 75, 406, 407], [468, 75, 466, 467], [464, 75, 463, 2], [460, 75, 458, 459], [492, 75, 490, 491], [749, 75, 748, 20], [496, 75, 495, 3], [745, 75, 743, 744], [649, 75, 647, 648], [671, 75, 669, 670], [676, 75, 674, 675], [685, 75, 683, 684], [696, 75, 694, 695], [766, 75, 764, 765], [784, 75, 782, 783]]
def mj_mL_2 : List mj_M := [
  (yX2_passYear, cX2_passYear, 2, none, 2, 0, 1, 5),
  (yX2_takeYearlyGifts, cX2_takeYearlyGifts, 3, none, 2, 1, 1, 3),
  (yX2_giveByDraws, cX2_giveByDraws, 4, none, 2, 0, 1, 4),
  (yX2_draw, cX2_draw, 2, (some .int), 2, 1, 1, 1),
  (yX2_allDropped, cX2_allDropped, 3, (some .int), 2, 0, 1, 1),
  (yX2_allLiking, cX2_allLiking, 3, (some .int), 2, 0, 1, 1),
  (yX3_part, cX3_part, 5, none, 3, 1, 2, 5),
  (yX3_asks, cX3_asks, 5, (some .boolean), 3, 2, 2, 4),
  (yX3_mostPullingLeft, cX3_mostPullingLeft, 7, (some .int), 3, 2, 2, 3),
  (yX3_heldBy, cX3_heldBy, 5, (some .int), 3, 2, 2, 1),
  (yX3_leastLikedOf, cX3_leastLikedOf, 6, (some .int), 3, 3, 2, 3),
  (yX3_isLiked, cX3_isLiked, 6, (some .boolean), 3, 4, 30, 2),
  (yX4_readOnto, cX4_readOnto, 5, (some .int), 4, 2, 3, 8),
  (yX4_readItem, cX4_readItem, 6, (some .boolean), 4, 2, 3, 7),
  (yX4_failAt, cX4_failAt, 2, (some .boolean), 4, 1, 3, 1),
  (yX4_readSign, cX4_readSign, 3, (some .boolean), 4, 2, 3, 3)]
def mj_mP_2 : List (List Nat) := [[775, 75, 773, 774], [779, 75, 778, 22], [810, 75, 808, 809], [814, 75, 813, 23], [820, 75, 818, 819], [874, 75, 872, 873], [706, 77, 704, 705], [710, 77, 709, 16], [714, 77, 713, 17], [719, 77, 718, 18], [724, 77, 723, 19], [727, 77, 726, 0], [512, 78, 510, 511], [516, 78, 515, 4], [591, 78, 590, 7], [606, 78, 605, 9]]
def mj_mL_3 : List mj_M := [
  (yX4_readWord, cX4_readWord, 6, (some .int), 4, 1, 3, 6),
  (yX4_howManyAlike, cX4_howManyAlike, 4, (some .int), 4, 2, 3, 5),
  (yX4_lettersOf, cX4_lettersOf, 1, (some (.object "java/lang/String")), 4, 1, 30, 1),
  (yX4_hasRoom, cX4_hasRoom, 2, (some .boolean), 4, 2, 30, 2),
  (yX4_readNumber, cX4_readNumber, 7, (some .boolean), 4, 4, 3, 4),
  (yX4_hasDigit, cX4_hasDigit, 2, (some .boolean), 4, 1, 3, 3),
  (yX4_readDigit, cX4_readDigit, 3, (some .int), 4, 1, 3, 3),
  (yX4_mostOf, cX4_mostOf, 3, (some .int), 4, 3, 30, 2),
  (yX4_mostOfGrown, cX4_mostOfGrown, 1, (some .int), 4, 1, 30, 1),
  (yX4_isBarred, cX4_isBarred, 5, (some .boolean), 4, 4, 3, 2),
  (yX4_tell, cX4_tell, 3, none, 4, 2, 3, 4),
  (yX5_putRow, cX5_putRow, 4, none, 5, 2, 4, 1),
  (yX5_putGrown, cX5_putGrown, 2, none, 5, 1, 4, 1),
  (yX5_hasRow, cX5_hasRow, 1, (some .boolean), 5, 0, 4, 1),
  (yX5_hasGrown, cX5_hasGrown, 1, (some .boolean), 5, 0, 4, 1),
  (yX5_hasElement, cX5_hasElement, 2, (some .boolean), 5, 1, 4, 1)]
def mj_mP_3 : List (List Nat) := [[520, 78, 519, 5], [532, 78, 531, 6], [523, 78, 522, 0], [594, 78, 593, 0], [602, 78, 601, 8], [610, 78, 609, 10], [614, 78, 613, 11], [617, 78, 616, 0], [620, 78, 619, 0], [624, 78, 623, 12], [629, 78, 628, 13], [333, 80, 331, 332], [383, 80, 381, 382], [348, 80, 346, 347], [344, 80, 342, 343], [352, 80, 350, 351]]
def mj_mL_4 : List mj_M := [
  (yX5_hasSpan, cX5_hasSpan, 3, (some .boolean), 5, 2, 4, 1),
  (yX5_putElement, cX5_putElement, 4, none, 5, 2, 4, 1),
  (yX5_numberAt, cX5_numberAt, 2, (some .int), 5, 1, 4, 2),
  (yX6_clear, cX6_clear, 1, none, 6, 0, 5, 1),
  (yX6_bodyAt, cX6_bodyAt, 2, (some .int), 6, 1, 5, 1),
  (yX6_perform, cX6_perform, 5, (some .int), 6, 4, 5, 21),
  (yX6_run, cX6_run, 9, (some .int), 6, 4, 5, 20),
  (yX6_ownerOf, cX6_ownerOf, 4, (some .int), 6, 2, 30, 4),
  (yX6_begin, cX6_begin, 2, none, 6, 1, 5, 1),
  (yX7_row, cX7_row, 5, (some .int), 7, 3, 6, 2),
  (yX7_set, cX7_set, 7, (some .int), 7, 3, 6, 3),
  (yX7_copy, cX7_copy, 8, (some .int), 7, 5, 6, 2),
  (yX7_element, cX7_element, 4, (some .long), 7, 2, 6, 2),
  (yX7_show, cX7_show, 4, (some .int), 7, 2, 6, 2),
  (yX7_holds, cX7_holds, 3, (some .int), 7, 1, 6, 2),
  (yX7_says, cX7_says, 5, (some .int), 7, 2, 6, 5)]
def mj_mP_4 : List (List Nat) := [[364, 80, 362, 363], [356, 80, 354, 355], [547, 80, 545, 546], [832, 79, 830, 831], [858, 79, 856, 857], [836, 79, 834, 835], [840, 79, 839, 24], [843, 79, 842, 0], [850, 79, 849, 25], [318, 74, 316, 317], [337, 74, 335, 336], [360, 74, 358, 359], [371, 74, 369, 370], [375, 74, 373, 374], [387, 74, 385, 386], [391, 74, 389, 390]]
def mj_mL_5 : List mj_M := [
  (yX7_grown, cX7_grown, 5, (some .int), 7, 4, 6, 3),
  (yX7_child, cX7_child, 6, (some .int), 7, 5, 6, 2),
  (yX7_flood, cX7_flood, 3, (some .int), 7, 1, 6, 2),
  (yX7_age, cX7_age, 4, (some .int), 7, 2, 6, 2),
  (yX7_gift, cX7_gift, 4, (some .int), 7, 3, 6, 4),
  (yX7_grownOf, cX7_grownOf, 3, (some .int), 7, 2, 6, 3),
  (yX7_childOf, cX7_childOf, 3, (some .int), 7, 2, 6, 2),
  (yX7_pull, cX7_pull, 4, (some .int), 7, 3, 6, 3),
  (yX7_parish, cX7_parish, 5, (some .int), 7, 1, 6, 9),
  (yX7_fault, cX7_fault, 1, (some .int), 7, 0, 6, 1),
  (yX7_chooses, cX7_chooses, 3, (some .int), 7, 2, 6, 5),
  (yX7_by, cX7_by, 3, (some .int), 7, 2, 6, 6),
  (yX7_favourite, cX7_favourite, 2, (some .int), 7, 1, 6, 7),
  (yX7_picks, cX7_picks, 2, (some .int), 7, 1, 6, 6),
  (yX7_woo, cX7_woo, 8, (some .int), 7, 3, 6, 5),
  (yX7_two, cX7_two, 8, (some .int), 7, 4, 6, 5)]
def mj_mP_5 : List (List Nat) := [[416, 74, 414, 415], [428, 74, 426, 427], [440, 74, 438, 439], [444, 74, 442, 443], [452, 74, 450, 451], [476, 74, 474, 475], [484, 74, 482, 483], [488, 74, 486, 487], [503, 74, 501, 502], [637, 74, 635, 636], [641, 74, 639, 640], [667, 74, 665, 666], [681, 74, 679, 680], [702, 74, 700, 701], [732, 74, 730, 731], [737, 74, 735, 736]]
def mj_mL_6 : List mj_M := [
  (yX7_priceOf, cX7_priceOf, 6, (some .int), 7, 3, 6, 4),
  (yX7_tastes, cX7_tastes, 8, (some .int), 7, 4, 6, 5),
  (yX7_trades, cX7_trades, 6, (some .int), 7, 1, 6, 6),
  (yX7_ahead, cX7_ahead, 5, (some .int), 7, 3, 6, 6),
  (yX7_judge, cX7_judge, 7, (some .int), 7, 2, 6, 5),
  (yX7_ninth, cX7_ninth, 3, (some .int), 7, 1, 6, 3),
  (yX7_choose, cX7_choose, 3, (some .int), 7, 1, 6, 5),
  (yX7_years, cX7_years, 3, (some .int), 7, 1, 6, 6),
  (yX7_drawn, cX7_drawn, 3, (some .int), 7, 1, 6, 6),
  (yX7_seed, cX7_seed, 3, (some .int), 7, 1, 6, 1),
  (yX7_act, cX7_act, 4, (some .int), 7, 3, 6, 22),
  (yX7_trace, cX7_trace, 2, (some .int), 7, 1, 6, 2),
  (yX7_image, cX7_image, 1, (some .int), 7, 0, 6, 2),
  (yX7_restore, cX7_restore, 3, (some .int), 7, 0, 6, 2),
  (yX7_status, cX7_status, 2, (some .int), 7, 1, 6, 2),
  (yX7_refusalsOf, cX7_refusalsOf, 2, (some .int), 7, 1, 6, 1)]
def mj_mP_6 : List (List Nat) := [[754, 74, 753, 21], [758, 74, 756, 757], [762, 74, 760, 761], [771, 74, 769, 770], [788, 74, 786, 787], [793, 74, 791, 792], [797, 74, 795, 796], [802, 74, 800, 801], [806, 74, 804, 805], [824, 74, 822, 823], [828, 74, 826, 827], [854, 74, 852, 853], [862, 74, 860, 861], [866, 74, 864, 865], [870, 74, 868, 869], [878, 74, 877, 26]]
def mj_mL_7 : List mj_M := [
  (yX7_refuse, cX7_refuse, 2, (some .int), 7, 1, 6, 1),
  (yX7_refuseTelling, cX7_refuseTelling, 2, (some .int), 7, 1, 6, 2),
  (yX7_shelfAt, cX7_shelfAt, 2, (some (.object "ChosenBackAtNine$Shelf")), 7, 1, 6, 1),
  (yX7_rowRefusal, cX7_rowRefusal, 1, (some .int), 7, 1, 30, 2),
  (yX7_isWithin, cX7_isWithin, 2, (some .boolean), 7, 2, 30, 1),
  (yX8_no, cX8_no, 2, (some .int), 8, 1, 7, 1),
  (yX8_noTen, cX8_noTen, 2, (some .int), 8, 1, 7, 1),
  (yX8_isShelf, cX8_isShelf, 2, (some .boolean), 8, 1, 7, 1),
  (yX8_isGrown, cX8_isGrown, 2, (some .boolean), 8, 1, 7, 1),
  (yX8_isChild, cX8_isChild, 2, (some .boolean), 8, 1, 7, 1),
  (yX8_isFrom, cX8_isFrom, 4, (some .boolean), 8, 3, 7, 1),
  (yX8_row, cX8_row, 5, (some .int), 8, 3, 7, 2),
  (yX8_set, cX8_set, 5, (some .int), 8, 3, 7, 2),
  (yX8_copy, cX8_copy, 7, (some .int), 8, 5, 7, 2),
  (yX8_element, cX8_element, 3, (some .long), 8, 2, 7, 2),
  (yX8_show, cX8_show, 3, (some .int), 8, 2, 7, 2)]
def mj_mP_7 : List (List Nat) := [[326, 74, 325, 1], [645, 74, 644, 14], [322, 74, 321, 0], [340, 74, 339, 0], [329, 74, 328, 0], [1026, 81, 1025, 28], [1178, 81, 1177, 49], [1022, 81, 1021, 27], [1046, 81, 1045, 29], [1090, 81, 1089, 34], [1066, 81, 1065, 31], [1018, 81, 1016, 1017], [1030, 81, 1028, 1029], [1034, 81, 1032, 1033], [1038, 81, 1036, 1037], [1042, 81, 1040, 1041]]
def mj_mL_8 : List mj_M := [
  (yX8_holds, cX8_holds, 2, (some .int), 8, 1, 7, 2),
  (yX8_says, cX8_says, 6, (some .int), 8, 2, 7, 2),
  (yX8_wanted, cX8_wanted, 2, (some .int), 8, 1, 7, 2),
  (yX8_intAt, cX8_intAt, 3, (some .int), 8, 2, 7, 1),
  (yX8_addsGrown, cX8_addsGrown, 6, (some .int), 8, 4, 7, 1),
  (yX8_addsChild, cX8_addsChild, 7, (some .int), 8, 5, 7, 1),
  (yX8_grown, cX8_grown, 5, (some .int), 8, 4, 7, 2),
  (yX8_child, cX8_child, 6, (some .int), 8, 5, 7, 2),
  (yX8_flood, cX8_flood, 3, (some .int), 8, 1, 7, 2),
  (yX8_age, cX8_age, 4, (some .int), 8, 2, 7, 2),
  (yX8_more, cX8_more, 5, (some .int), 8, 3, 7, 1),
  (yX8_gives, cX8_gives, 4, (some .int), 8, 3, 7, 2),
  (yX8_gift, cX8_gift, 4, (some .int), 8, 3, 7, 3),
  (yX8_charge, cX8_charge, 4, (some .int), 8, 1, 7, 1),
  (yX8_grownOf, cX8_grownOf, 3, (some .int), 8, 2, 7, 2),
  (yX8_childOf, cX8_childOf, 3, (some .int), 8, 2, 7, 2)]
def mj_mP_8 : List (List Nat) := [[1050, 81, 1048, 1049], [1054, 81, 1052, 1053], [1118, 81, 1117, 37], [1278, 81, 1277, 65], [1070, 81, 1069, 32], [1078, 81, 1077, 33], [1062, 81, 1060, 1061], [1074, 81, 1072, 1073], [1082, 81, 1080, 1081], [1086, 81, 1084, 1085], [1102, 81, 1101, 36], [1098, 81, 1097, 35], [1094, 81, 1092, 1093], [1058, 81, 1057, 30], [1106, 81, 1104, 1105], [1110, 81, 1108, 1109]]
def mj_mL_9 : List mj_M := [
  (yX8_wrong, cX8_wrong, 2, (some .boolean), 8, 1, 7, 1),
  (yX8_stands, cX8_stands, 4, (some .boolean), 8, 1, 7, 1),
  (yX8_word, cX8_word, 6, (some .int), 8, 0, 7, 1),
  (yX8_isDigit, cX8_isDigit, 1, (some .boolean), 8, 0, 7, 1),
  (yX8_reads, cX8_reads, 2, (some .boolean), 8, 0, 7, 2),
  (yX8_isSo, cX8_isSo, 3, (some .boolean), 8, 2, 7, 1),
  (yX8_item, cX8_item, 4, (some .boolean), 8, 0, 7, 3),
  (yX8_carries, cX8_carries, 7, (some .int), 8, 5, 7, 1),
  (yX8_all, cX8_all, 4, none, 8, 2, 7, 2),
  (yX8_parish, cX8_parish, 5, (some .int), 8, 1, 7, 4),
  (yX8_fault, cX8_fault, 1, (some .int), 8, 0, 7, 1),
  (yX8_pullBy, cX8_pullBy, 8, (some .int), 8, 3, 7, 1),
  (yX8_pulls, cX8_pulls, 3, (some .int), 8, 2, 7, 2),
  (yX8_settles, cX8_settles, 7, none, 8, 1, 7, 3),
  (yX8_pull, cX8_pull, 4, (some .int), 8, 3, 7, 3),
  (yX8_chosen, cX8_chosen, 2, (some .int), 8, 1, 7, 1)]
def mj_mP_9 : List (List Nat) := [[1138, 81, 1137, 42], [1134, 81, 1133, 41], [1142, 81, 1141, 43], [1150, 81, 1149, 45], [1146, 81, 1145, 44], [1154, 81, 1153, 46], [1130, 81, 1129, 40], [1126, 81, 1125, 39], [1122, 81, 1121, 38], [1114, 81, 1112, 1113], [1158, 81, 1156, 1157], [1170, 81, 1169, 48], [1166, 81, 1165, 47], [1182, 81, 1181, 50], [1162, 81, 1160, 1161], [1186, 81, 1185, 51]]
def mj_mL_10 : List mj_M := [
  (yX8_chooses, cX8_chooses, 3, (some .int), 8, 2, 7, 4),
  (yX8_setBy, cX8_setBy, 5, (some .int), 8, 2, 7, 4),
  (yX8_many, cX8_many, 4, (some .int), 8, 1, 7, 1),
  (yX8_chargeThen, cX8_chargeThen, 2, (some .int), 8, 1, 7, 5),
  (yX8_by, cX8_by, 3, (some .int), 8, 2, 7, 6),
  (yX8_favourite, cX8_favourite, 7, (some .int), 8, 1, 7, 6),
  (yX8_asks, cX8_asks, 4, (some .int), 8, 1, 7, 3),
  (yX8_leastOf, cX8_leastOf, 4, (some .int), 8, 1, 7, 1),
  (yX8_hasMany, cX8_hasMany, 4, (some .int), 8, 1, 7, 1),
  (yX8_parts, cX8_parts, 5, none, 8, 0, 7, 4),
  (yX8_picks, cX8_picks, 2, (some .int), 8, 1, 7, 5),
  (yX8_serves, cX8_serves, 6, (some .boolean), 8, 4, 7, 4),
  (yX8_woo, cX8_woo, 5, (some .int), 8, 3, 7, 5),
  (yX8_pullWith, cX8_pullWith, 4, (some .int), 8, 3, 7, 2),
  (yX8_isAhead, cX8_isAhead, 7, (some .boolean), 8, 4, 7, 3),
  (yX8_two, cX8_two, 8, (some .int), 8, 4, 7, 4)]
def mj_mP_10 : List (List Nat) := [[1174, 81, 1172, 1173], [1198, 81, 1197, 53], [1202, 81, 1201, 54], [1194, 81, 1193, 52], [1190, 81, 1188, 1189], [1206, 81, 1204, 1205], [1218, 81, 1217, 56], [1226, 81, 1225, 58], [1222, 81, 1221, 57], [1214, 81, 1213, 55], [1210, 81, 1208, 1209], [1234, 81, 1233, 59], [1230, 81, 1228, 1229], [1246, 81, 1245, 61], [1242, 81, 1241, 60], [1238, 81, 1236, 1237]]
def mj_mL_11 : List mj_M := [
  (yX8_tastes, cX8_tastes, 8, (some .int), 8, 4, 7, 4),
  (yX8_areTraders, cX8_areTraders, 5, (some .boolean), 8, 2, 7, 4),
  (yX8_trades, cX8_trades, 6, (some .int), 8, 1, 7, 5),
  (yX8_choosesInTruth, cX8_choosesInTruth, 2, (some .int), 8, 1, 7, 4),
  (yX8_passes, cX8_passes, 3, none, 8, 0, 7, 5),
  (yX8_ahead, cX8_ahead, 5, (some .int), 8, 3, 7, 6),
  (yX8_judge, cX8_judge, 5, (some .int), 8, 2, 7, 4),
  (yX8_ninth, cX8_ninth, 2, (some .int), 8, 1, 7, 2),
  (yX8_choose, cX8_choose, 3, (some .int), 8, 1, 7, 5),
  (yX8_years, cX8_years, 3, (some .int), 8, 1, 7, 6),
  (yX8_draw, cX8_draw, 2, (some .int), 8, 1, 7, 1),
  (yX8_together, cX8_together, 5, (some .int), 8, 2, 7, 1),
  (yX8_drawn, cX8_drawn, 6, (some .int), 8, 1, 7, 6),
  (yX8_seed, cX8_seed, 3, (some .int), 8, 1, 7, 1),
  (yX8_body, cX8_body, 2, none, 8, 1, 7, 1),
  (yX8_playing, cX8_playing, 6, (some .int), 8, 2, 7, 2)]
def mj_mP_11 : List (List Nat) := [[1250, 81, 1248, 1249], [1258, 81, 1257, 62], [1254, 81, 1252, 1253], [1270, 81, 1269, 64], [1266, 81, 1265, 63], [1262, 81, 1260, 1261], [1274, 81, 1272, 1273], [1282, 81, 1280, 1281], [1286, 81, 1284, 1285], [1290, 81, 1288, 1289], [1298, 81, 1297, 66], [1303, 81, 1302, 67], [1294, 81, 1292, 1293], [1307, 81, 1305, 1306], [1319, 81, 1318, 69], [1315, 81, 1314, 68]]
def mj_mL_12 : List mj_M := [
  (yX8_giving, cX8_giving, 7, (some .int), 8, 2, 7, 3),
  (yX8_bowing, cX8_bowing, 5, (some .int), 8, 2, 7, 4),
  (yX8_act, cX8_act, 4, (some .int), 8, 3, 7, 5),
  (yX8_trace, cX8_trace, 2, (some .int), 8, 1, 7, 1),
  (yX8_image, cX8_image, 1, (some .int), 8, 0, 7, 3),
  (yX8_restore, cX8_restore, 2, (some .int), 8, 0, 7, 3),
  (yX8_allLiking, cX8_allLiking, 4, (some .int), 8, 0, 7, 1),
  (yX8_status, cX8_status, 2, (some .int), 8, 1, 7, 2),
  (yJ6_bitCount_0f7a4, cJ6_bitCount_0f7a4, 1, (some .int), 9, 1, 30, 1),
  (yJ0_length_8abf5, cJ0_length_8abf5, 1, (some .int), 11, 0, 20, 2),
  (yJ0_charAt_5068e, cJ0_charAt_5068e, 2, (some .char), 11, 1, 20, 4),
  (yJ0_coder_7d493, cJ0_coder_7d493, 1, (some .byte), 11, 0, 20, 1),
  (yJ0_isLatin1_aae02, cJ0_isLatin1_aae02, 1, (some .boolean), 11, 0, 20, 1),
  (yJ0_checkIndex_df160, cJ0_checkIndex_df160, 2, none, 11, 2, 30, 2),
  (yJ1_charAt_3b067, cJ1_charAt_3b067, 2, (some .char), 12, 2, 30, 3),
  (yJ3_checkIndex_8e157, cJ3_checkIndex_8e157, 3, (some .int), 13, 3, 30, 1)]
def mj_mP_12 : List (List Nat) := [[1323, 81, 1322, 70], [1327, 81, 1326, 71], [1311, 81, 1309, 1310], [1331, 81, 1329, 1330], [1335, 81, 1333, 1334], [1339, 81, 1337, 1338], [1347, 81, 1346, 72], [1343, 81, 1341, 1342], [689, 89, 688, 0], [536, 85, 534, 535], [552, 85, 550, 551], [540, 85, 538, 539], [556, 85, 554, 555], [562, 85, 561, 0], [559, 86, 558, 0], [567, 87, 566, 0]]
def mj_lE : mj_M := (yL_law, cL_law, 4, (some .boolean), 10, 1, 30, 23)
def mj_mA : List mj_M := mj_mL_0 ++ (mj_mL_1 ++ (mj_mL_2 ++ (mj_mL_3 ++ (mj_mL_4 ++ (mj_mL_5 ++ (mj_mL_6 ++ (mj_mL_7 ++ (mj_mL_8 ++ (mj_mL_9 ++ (mj_mL_10 ++ (mj_mL_11 ++ (mj_mL_12))))))))))))
def mj_mL : List mj_M := mj_mA ++ [mj_lE]
def mj_law : Nat := 208
def mj_RUN : Nat := 70
/-- the methods with a long among their parameters -/
def mj_lg (m : Nat) : Bool := m == 65 || m == 74 || m == 124
/-- Stage.run has a number for each level of its recursion: 70 + 1000 (d + 1) -/
def mj_base (m : Nat) : Nat := if 1000 ≤ m then mj_RUN else m
def mj_e (m : Nat) : Option mj_M := mj_mL[mj_base m]?
def mj_h (m : Nat) : Nat := if 1000 ≤ m then 1020 - m else match mj_mL[m]? with | some e => e.2.2.2.2.2.2.2 | none => 0
abbrev mj_ftR : Type := Nat × Nat × Nat × Nat
def mj_ftL : List (Nat × Nat × Nat × Nat) := [(0, 9, 0, 0), (7, 240, 0, 0), (2, 138, 0, 0), (0, 15, 0, 1), (7, 243, 0, 1), (2, 132, 0, 1), (0, 18, 0, 2), (7, 246, 0, 2), (2, 141, 0, 2), (0, 21, 0, 3), (2, 112, 0, 3), (2, 9, 1, 0), (0, 30, 1, 0), (3, 46, 1, 0), (4, 126, 1, 0), (7, 277, 1, 0), (2, 15, 1, 1), (3, 20, 1, 1), (4, 129, 1, 1), (7, 259, 1, 1), (2, 18, 1, 2), (7, 159, 1, 2), (4, 152, 1, 2), (2, 21, 1, 3), (7, 274, 1, 3), (2, 24, 1, 4), (7, 286, 1, 4), (2, 27, 1, 5), (6, 28, 1, 5), (7, 127, 1, 5), (2, 31, 1, 6), (6, 33, 1, 6), (7, 142, 1, 6), (2, 34, 1, 7), (7, 133, 1, 7), (2, 37, 1, 8), (7, 179, 1, 8), (2, 40, 1, 9), (7, 139, 1, 9), (2, 43, 1, 10), (7, 185, 1, 10), (2, 46, 1, 11), (7, 188, 1, 11), (2, 49, 1, 12), (7, 165, 1, 12), (4, 149, 1, 12), (2, 52, 1, 13), (0, 24, 1, 13), (3, 43, 1, 13), (7, 191, 1, 13), (2, 55, 1, 14), (2, 61, 1, 15), (3, 11, 2, 0), (7, 234, 2, 0), (3, 17, 2, 1), (4, 9, 3, 0), (7, 205, 3, 0), (4, 15, 3, 1), (4, 19, 3, 2), (6, 9, 5, 0), (7, 302, 5, 0), (6, 15, 5, 1), (6, 19, 5, 2), (6, 22, 5, 3), (6, 25, 5, 4), (5, 9, 4, 0), (7, 97, 4, 0), (5, 15, 4, 1), (7, 119, 4, 1), (5, 18, 4, 2), (4, 28, 4, 2), (5, 21, 4, 3), (7, 103, 4, 3), (7, 10, 6, 0), (7, 16, 6, 1), (7, 19, 6, 2), (7, 22, 6, 3), (7, 28, 6, 4), (7, 35, 6, 5), (7, 42, 6, 6), (7, 49, 6, 7), (7, 53, 6, 8), (7, 57, 6, 9), (8, 99, 7, 0), (8, 102, 7, 1), (8, 131, 7, 2), (8, 184, 7, 3), (8, 7, 7, 4), (8, 13, 7, 5), (8, 16, 7, 6), (8, 20, 7, 7), (8, 23, 7, 8), (8, 26, 7, 9), (8, 29, 7, 10), (8, 32, 7, 11), (8, 35, 7, 12), (8, 38, 7, 13), (8, 41, 7, 14), (8, 44, 7, 15), (8, 47, 7, 16), (8, 50, 7, 17), (8, 53, 7, 18), (8, 56, 7, 19), (8, 59, 7, 20), (8, 62, 7, 21), (8, 66, 7, 22), (8, 69, 7, 23), (8, 72, 7, 24), (8, 75, 7, 25), (8, 78, 7, 26), (8, 153, 7, 27), (8, 147, 7, 28), (8, 150, 7, 29), (8, 156, 7, 30), (8, 144, 7, 31), (8, 81, 7, 32), (8, 84, 7, 33), (8, 87, 7, 34), (8, 200, 7, 35), (8, 203, 7, 36), (8, 206, 7, 37), (8, 90, 7, 38), (8, 93, 7, 39), (8, 96, 7, 40), (8, 275, 7, 41), (8, 290, 7, 42)]
def mj_ftP : List Nat := [110, 111, 112, 113, 114, 115, 116, 117, 118, 119, 120, 131, 132, 133, 134, 135, 136, 137, 138, 139, 140, 141, 142, 143, 144, 145, 146, 147, 148, 149, 150, 151, 152, 153, 154, 155, 156, 157, 158, 159, 160, 161, 162, 163, 164, 165, 166, 167, 168, 169, 170, 171, 213, 214, 215, 227, 228, 229, 230, 244, 245, 246, 247, 248, 249, 266, 267, 268, 269, 270, 271, 272, 273, 284, 285, 286, 287, 288, 289, 290, 291, 292, 293, 885, 886, 887, 888, 889, 890, 891, 892, 893, 894, 895, 896, 897, 898, 899, 900, 901, 902, 903, 904, 905, 906, 907, 908, 909, 910, 911, 912, 913, 914, 915, 916, 917, 918, 919, 920, 921, 922, 923, 924, 925, 926, 927]
def mj_fsL : List (Nat × Nat × Nat) := [(11, 9, 0), (11, 15, 1)]
def mj_fsP : List Nat := [1349, 1350]
def mj_gsL : List (Nat × Nat × Nat) := [(1, 19, 90), (11, 38, 1), (11, 1053, 2), (4, 47, 92), (6, 44, 91)]
def mj_gsP : List Nat := [403, 541, 563, 597, 844]
def mj_mtL : List (Nat × Nat × Nat) := [(10, 13, 73), (7, 62, 114), (7, 66, 112), (7, 70, 116), (7, 74, 59), (10, 20, 74), (7, 78, 115), (7, 90, 62), (7, 94, 61), (7, 82, 63), (7, 86, 65), (10, 25, 75), (7, 100, 64), (10, 30, 76), (10, 35, 77), (7, 113, 7), (7, 115, 60), (10, 40, 78), (10, 45, 79), (7, 122, 3), (7, 130, 5), (1, 23, 4), (1, 15, 3), (7, 136, 17), (2, 73, 14), (10, 49, 80), (7, 145, 9), (7, 148, 11), (10, 54, 81), (7, 152, 10), (7, 155, 12), (10, 58, 82), (10, 62, 83), (7, 162, 8), (10, 66, 84), (7, 168, 13), (7, 171, 20), (2, 86, 19), (2, 77, 18), (7, 175, 18), (10, 70, 85), (7, 182, 15), (10, 74, 86), (10, 78, 87), (7, 194, 21), (2, 90, 23), (10, 82, 88), (7, 197, 6), (7, 201, 44), (4, 24, 45), (4, 35, 48), (4, 65, 50), (4, 69, 49), (4, 73, 201), (11, 335, 203), (4, 58, 63), (4, 61, 66), (5, 25, 63), (4, 85, 202), (11, 492, 204), (11, 495, 206), (12, 9, 205), (11, 1059, 207), (4, 43, 46), (4, 39, 51), (4, 99, 9), (4, 105, 10), (4, 50, 52), (4, 31, 47), (4, 108, 53), (4, 112, 54), (4, 115, 55), (4, 123, 56), (4, 119, 57), (4, 134, 13), (4, 54, 58), (4, 137, 11), (4, 141, 12), (4, 145, 20), (10, 86, 89), (10, 91, 90), (7, 206, 113), (7, 211, 25), (2, 104, 0), (0, 33, 21), (0, 37, 14), (0, 41, 1), (7, 215, 2), (10, 95, 91), (7, 218, 26), (2, 108, 25), (7, 221, 27), (2, 115, 2), (10, 99, 92), (7, 224, 28), (2, 118, 27), (2, 121, 200), (7, 228, 29), (2, 126, 26), (2, 129, 15), (10, 103, 93), (7, 231, 38), (3, 24, 39), (3, 28, 40), (3, 49, 21), (3, 32, 41), (3, 35, 15), (3, 39, 42), (3, 53, 43), (3, 57, 18), (10, 107, 94), (7, 237, 14), (10, 111, 95), (7, 249, 16), (7, 252, 24), (2, 97, 22), (2, 100, 16), (7, 256, 96), (10, 115, 97), (10, 119, 98), (7, 262, 30), (2, 135, 21), (10, 123, 99), (7, 265, 32), (2, 144, 33), (2, 151, 13), (2, 148, 31), (10, 127, 100), (7, 268, 66), (10, 131, 101), (10, 135, 102), (7, 271, 31), (10, 139, 103), (10, 143, 104), (7, 280, 34), (2, 155, 35), (2, 158, 20), (7, 283, 36), (10, 147, 105), (10, 151, 106), (7, 289, 67), (7, 292, 69), (6, 36, 70), (6, 40, 71), (6, 51, 4), (6, 47, 72), (10, 155, 107), (7, 296, 68), (10, 159, 108), (10, 163, 109), (10, 167, 110), (7, 299, 37), (7, 305, 111), (10, 17, 123), (8, 105, 119), (8, 109, 117), (10, 24, 124), (10, 29, 125), (10, 34, 126), (10, 39, 127), (8, 113, 120), (10, 44, 128), (10, 48, 129), (8, 116, 141), (10, 53, 134), (8, 119, 122), (8, 123, 132), (10, 57, 135), (8, 127, 133), (10, 61, 136), (10, 65, 137), (8, 134, 121), (10, 69, 140), (8, 141, 139), (8, 137, 138), (10, 73, 142), (10, 77, 143), (10, 85, 153), (8, 187, 130), (8, 190, 152), (8, 180, 151), (8, 194, 150), (8, 166, 145), (8, 163, 144), (8, 169, 146), (8, 173, 148), (8, 159, 147), (8, 176, 149), (10, 90, 154), (10, 81, 158), (8, 209, 156), (8, 197, 155), (10, 94, 160), (8, 213, 118), (8, 216, 157), (8, 220, 159), (10, 98, 164), (8, 229, 163), (8, 223, 161), (8, 226, 162), (10, 102, 165), (10, 106, 170), (8, 241, 169), (8, 232, 166), (8, 235, 168), (8, 238, 167), (10, 110, 172), (8, 244, 171), (10, 114, 175), (8, 251, 174), (8, 248, 173), (10, 118, 176), (10, 122, 178), (8, 255, 177), (10, 126, 181), (8, 261, 180), (8, 258, 179), (10, 130, 182), (8, 264, 131), (10, 134, 183), (10, 138, 184), (10, 142, 185), (10, 146, 188), (8, 268, 186), (8, 271, 187), (10, 150, 189), (10, 154, 194), (8, 281, 191), (8, 278, 190), (8, 284, 192), (8, 287, 193), (10, 158, 195), (10, 162, 196), (10, 166, 197), (10, 170, 199), (8, 294, 198)]
def mj_mtP : List Nat := [315, 319, 323, 327, 330, 334, 338, 341, 345, 349, 353, 357, 361, 368, 372, 376, 380, 384, 388, 392, 396, 399, 402, 405, 409, 413, 417, 421, 425, 429, 433, 437, 441, 445, 449, 453, 457, 461, 465, 472, 473, 477, 481, 485, 489, 493, 500, 504, 509, 513, 517, 521, 529, 533, 537, 543, 544, 548, 549, 553, 557, 560, 565, 588, 592, 595, 596, 599, 603, 607, 611, 615, 618, 621, 625, 626, 630, 631, 632, 634, 638, 642, 646, 650, 654, 655, 656, 660, 664, 668, 672, 673, 677, 678, 682, 686, 687, 693, 697, 698, 699, 703, 707, 711, 715, 716, 720, 721, 725, 728, 729, 733, 734, 738, 742, 746, 750, 751, 755, 759, 763, 767, 768, 772, 776, 780, 781, 785, 789, 790, 794, 798, 799, 803, 807, 811, 816, 817, 821, 825, 829, 833, 837, 841, 846, 847, 851, 855, 859, 863, 867, 871, 875, 1015, 1019, 1023, 1027, 1031, 1035, 1039, 1043, 1047, 1051, 1055, 1059, 1063, 1067, 1071, 1075, 1079, 1083, 1087, 1091, 1095, 1099, 1103, 1107, 1111, 1115, 1119, 1123, 1127, 1131, 1135, 1139, 1143, 1147, 1151, 1155, 1159, 1163, 1167, 1171, 1175, 1179, 1183, 1187, 1191, 1195, 1199, 1203, 1207, 1211, 1215, 1219, 1223, 1227, 1231, 1235, 1239, 1243, 1247, 1251, 1255, 1259, 1263, 1267, 1271, 1275, 1279, 1283, 1287, 1291, 1295, 1300, 1304, 1308, 1312, 1316, 1320, 1324, 1328, 1332, 1336, 1340, 1344]
def mj_nsL : List (Nat × Nat × Nat) := [(1, 11, 116)]
def mj_nsP : List Nat := [395]
def mj_ntL : List (Nat × Nat × Nat) := [(7, 107, 4), (2, 81, 3), (2, 94, 2), (2, 65, 4), (4, 79, 2)]
def mj_ntP : List Nat := [365, 469, 497, 508, 587]
def mj_ctL : List (Nat × Nat × Int) := [(9, 265, 1431655765), (9, 266, 858993459), (9, 267, 252645135), (2, 161, 1103515245), (8, 267, 1103515245)]
def mj_ctP : List Nat := [690, 691, 692, 815, 1299]
def mj_csL : List (Nat × Nat × Nat) := [(4, 89, 93), (4, 91, 94), (4, 93, 95), (4, 95, 96), (4, 97, 97)]
def mj_lk {α : Type} (l : List (Nat × Nat × α)) (a b : Nat) : Option α := match l with
  | [] => none
  | (x, y, v) :: r => if x == a && y == b then some v else mj_lk r a b
theorem mj_lk_mem {α : Type} {l : List (Nat × Nat × α)} {a b : Nat} {v : α} (h : mj_lk l a b = some v) : (a, b, v) ∈ l := by
  induction l with
  | nil => cases h
  | cons q r ih =>
    obtain ⟨x, y, z⟩ := q
    simp only [mj_lk] at h
    split at h
    · rename_i hc
      simp only [Bool.and_eq_true, beq_iff_eq] at hc
      obtain ⟨rfl, rfl⟩ := hc
      cases h
      exact List.mem_cons_self
    · exact List.mem_cons_of_mem _ (ih h)
/-- a checked list: every element with its place -/
theorem mj_allP {α β : Type} {l : List α} {ps : List β} {f : α → β → Bool} (hl : l.length = ps.length) (h : (l.zip ps).all (fun q => f q.1 q.2) = true) {a : α} (ha : a ∈ l) : ∃ p, f a p = true := by
  obtain ⟨i, hi, e⟩ := List.getElem_of_mem ha
  have hi2 : i < ps.length := hl ▸ hi
  refine ⟨ps[i], ?_⟩
  have := List.all_eq_true.mp h (l[i], ps[i]) (by
    apply List.mem_of_getElem? (i := i)
    simp [List.getElem?_zip_eq_some, List.getElem?_eq_getElem hi, List.getElem?_eq_getElem hi2])
  rw [e] at this
  exact this
theorem mj_allC {α β : Type} {l : List α} {ps : List β} {f : α → β → Bool} (hl : l.length = ps.length) (h : (l.zip ps).all (fun q => f q.1 q.2) = true) {a : α} (ha : a ∈ l) : ∃ p, f a p = true := mj_allP hl h ha
def mj_clT (c : Nat) : u_T := match c with
  | 0 => TX0
  | 1 => TX2
  | 2 => TX3
  | 3 => TX4
  | 4 => TX5
  | 5 => TX6
  | 6 => TX7
  | _ => TX8
def mj_clN (c : Nat) : Nat := match c with
  | 0 => 4
  | 1 => 16
  | 2 => 2
  | 3 => 3
  | 4 => 4
  | 5 => 5
  | 6 => 10
  | _ => 43
def mj_clR (c : Nat) : String := match c with
  | 0 => RX0
  | 1 => RX2
  | 2 => RX3
  | 3 => RX4
  | 4 => RX5
  | 5 => RX6
  | 6 => RX7
  | _ => RX8
def mj_clY (c : Nat) : Nat → FieldType := match c with
  | 0 => tyX0
  | 1 => tyX2
  | 2 => tyX3
  | 3 => tyX4
  | 4 => tyX5
  | 5 => tyX6
  | 6 => tyX7
  | _ => tyX8
def mj_ftW (q : Nat × Nat × Nat × Nat) : Cond := .fieldLink (mj_own q.1) q.2.1 (mj_clT q.2.2.1 q.2.2.2).1 (mj_clT q.2.2.1 q.2.2.2).2.1 (mj_clT q.2.2.1 q.2.2.2).2.2.1
set_option maxRecDepth 100000 in
theorem mj_ft_chk : (mj_ftL.zip mj_ftP).all (fun q => mj_inT q.2 (mj_ftW q.1) && decide (q.1.2.2.1 < 8) && decide (q.1.2.2.2 < mj_clN q.1.2.2.1)) = true := by decide +kernel
def mj_stN (q : Nat) : String × String × String := match q with
  | 90 => ("ChosenBackAtNine$Kinds", "ABOVE", "[I")
  | 91 => ("ChosenBackAtNine$Stage", "BODIES", "[I")
  | 92 => ("ChosenBackAtNine$Reader", "HOW_MANY_NUMBERS", "[I")
  | 1 => ("java/lang/String", "COMPACT_STRINGS", "Z")
  | _ => ("jdk/internal/util/Preconditions", "SIOOBE_FORMATTER", "Ljava/util/function/BiFunction;")
def mj_stOk (q : Nat) : Bool := q == 90 || q == 91 || q == 92 || q == 1 || q == 2
set_option maxRecDepth 100000 in
theorem mj_gs_chk : (mj_gsL.zip mj_gsP).all (fun q => mj_inT q.2 (.fieldLink (mj_own q.1.1) q.1.2.1 (mj_stN q.1.2.2).1 (mj_stN q.1.2.2).2.1 (mj_stN q.1.2.2).2.2) && mj_stOk q.1.2.2) = true := by decide +kernel
set_option maxRecDepth 100000 in
theorem mj_fs_chk : (mj_fsL.zip mj_fsP).all (fun q => mj_inT q.2 (.fieldLink (mj_own q.1.1) q.1.2.1 "java/lang/String" (if q.1.2.2 = 0 then "value" else "coder") (if q.1.2.2 = 0 then "[B" else "B")) && decide (q.1.2.2 < 2)) = true := by decide +kernel
theorem mj_ft_len : mj_ftL.length = mj_ftP.length := by decide +kernel
theorem mj_fs_len : mj_fsL.length = mj_fsP.length := by decide +kernel
theorem mj_gs_len : mj_gsL.length = mj_gsP.length := by decide +kernel
theorem mj_ct_len : mj_ctL.length = mj_ctP.length := by decide +kernel
set_option maxRecDepth 100000 in
theorem mj_mt_len : mj_mtL.length = mj_mtP.length := by decide +kernel
theorem mj_nt_len : mj_ntL.length = mj_ntP.length := by decide +kernel
def mj_eT (m : Nat) : mj_M := mj_mL.getD m (yX0_weigh, cX0_weigh, 0, none, 0, 0, 99, 0)
set_option maxRecDepth 100000 in
theorem mj_mt_chk : (mj_mtL.zip mj_mtP).all (fun q => mj_inT q.2 (.methodLink (mj_own q.1.1) q.1.2.1 (mj_eT q.1.2.2).1) && decide (q.1.2.2 < mj_law)) = true := by decide +kernel
def mj_ntY (q : Nat) : MethodName := match q with
  | 2 => Lib.Math.max.name
  | 3 => Lib.Math.min.name
  | _ => arraycopyName
set_option maxRecDepth 100000 in
theorem mj_nt_chk : (mj_ntL.zip mj_ntP).all (fun q => mj_inT q.2 (.methodLink (mj_own q.1.1) q.1.2.1 (mj_ntY q.1.2.2)) && (q.1.2.2 == 2 || q.1.2.2 == 3 || q.1.2.2 == 4)) = true := by decide +kernel
set_option maxRecDepth 100000 in
theorem mj_ct_chk : (mj_ctL.zip mj_ctP).all (fun q => mj_inT q.2 (.constant (mj_own q.1.1) q.1.2.1 (Int32.ofInt q.1.2.2))) = true := by decide +kernel
def mj_mW (e : mj_M) (ps : List Nat) : Bool := mj_inT (ps.getD 1 0) (.initialized e.1.cls) && decide (e.1.cls = mj_own e.2.2.2.2.1) && plainName e.1.cls
  && decide (e.1.cls ≠ "java/lang/invoke/MethodHandle" ∧ e.1.cls ≠ "java/lang/invoke/VarHandle") && decide (e.2.2.1 ≤ 21) && decide ((parseMethodDescriptor e.1.desc).map (fun d => d.parameters.length) = some e.2.2.2.2.2.1) && decide ((parseMethodDescriptor e.1.desc).map (fun d => d.returnType) = some e.2.2.2.1)
  && (if e.2.2.2.2.2.2.1 = 30 then mj_inT (ps.getD 2 0) (.static e.1) else mj_inT (ps.getD 2 0) (.instanceMethod e.1) && mj_inT (ps.getD 3 0) (.selects e.1.cls e.1 e.1) && (if e.2.2.2.2.2.2.1 = 20 then decide (e.1.cls = "java/lang/String") else decide (e.1.cls = mj_clR e.2.2.2.2.2.2.1) && decide (e.2.2.2.2.2.2.1 < 8)))
theorem mj_cw0 : mj_cW (yX0_weigh, cX0_weigh, 9, none, 0, 2, 0, 3) ∈ mj_tbl := mj_inT1 mj_t3 100 rfl rfl
theorem mj_cw1 : mj_cW (yX0_settle, cX0_settle, 1, none, 0, 0, 0, 1) ∈ mj_tbl := mj_inT1 mj_t3 106 rfl rfl
theorem mj_cw2 : mj_cW (yX0_whom, cX0_whom, 2, (some .int), 0, 1, 0, 1) ∈ mj_tbl := mj_inT1 mj_t3 110 rfl rfl
theorem mj_cw3 : mj_cW (yX1_isKind, cX1_isKind, 1, (some .boolean), 1, 1, 30, 2) ∈ mj_tbl := mj_inT1 mj_t2 81 rfl rfl
theorem mj_cw4 : mj_cW (yX1_above, cX1_above, 1, (some .int), 1, 1, 30, 3) ∈ mj_tbl := mj_inT1 mj_t2 88 rfl rfl
theorem mj_cw5 : mj_cW (yX1_isUnder, cX1_isUnder, 4, (some .boolean), 1, 2, 30, 4) ∈ mj_tbl := mj_inT1 mj_t2 85 rfl rfl
theorem mj_cw6 : mj_cW (yX2_copyFrom, cX2_copyFrom, 2, none, 2, 1, 1, 1) ∈ mj_tbl := mj_inT1 mj_t2 194 rfl rfl
theorem mj_cw7 : mj_cW (yX2_hasGrown, cX2_hasGrown, 2, (some .boolean), 2, 1, 1, 1) ∈ mj_tbl := mj_inT1 mj_t2 66 rfl rfl
theorem mj_cw8 : mj_cW (yX2_hasChild, cX2_hasChild, 2, (some .boolean), 2, 1, 1, 1) ∈ mj_tbl := mj_inT1 mj_t2 135 rfl rfl
theorem mj_cw9 : mj_cW (yX2_hasRoomForGrown, cX2_hasRoomForGrown, 1, (some .boolean), 2, 0, 1, 1) ∈ mj_tbl := mj_inT1 mj_t2 107 rfl rfl
theorem mj_cw10 : mj_cW (yX2_hasRoomForChild, cX2_hasRoomForChild, 1, (some .boolean), 2, 0, 1, 1) ∈ mj_tbl := mj_inT1 mj_t2 119 rfl rfl
theorem mj_cw11 : mj_cW (yX2_addGrown, cX2_addGrown, 6, (some .int), 2, 4, 1, 1) ∈ mj_tbl := mj_inT1 mj_t2 111 rfl rfl
theorem mj_cw12 : mj_cW (yX2_addChild, cX2_addChild, 5, (some .int), 2, 3, 1, 1) ∈ mj_tbl := mj_inT1 mj_t2 123 rfl rfl
theorem mj_cw13 : mj_cW (yX2_isDead, cX2_isDead, 2, (some .boolean), 2, 1, 1, 1) ∈ mj_tbl := mj_inT1 mj_t2 143 rfl rfl
theorem mj_cw14 : mj_cW (yX2_isGodparent, cX2_isGodparent, 3, (some .boolean), 2, 2, 1, 1) ∈ mj_tbl := mj_inT1 mj_t2 99 rfl rfl
theorem mj_cw15 : mj_cW (yX2_shoesOf, cX2_shoesOf, 2, (some .int), 2, 1, 1, 1) ∈ mj_tbl := mj_inT1 mj_t2 167 rfl rfl
theorem mj_cws_0 : ∀ e ∈ mj_mL_0, mj_cW e ∈ mj_tbl := List.forall_mem_cons.mpr ⟨mj_cw0, List.forall_mem_cons.mpr ⟨mj_cw1, List.forall_mem_cons.mpr ⟨mj_cw2, List.forall_mem_cons.mpr ⟨mj_cw3, List.forall_mem_cons.mpr ⟨mj_cw4, List.forall_mem_cons.mpr ⟨mj_cw5, List.forall_mem_cons.mpr ⟨mj_cw6, List.forall_mem_cons.mpr ⟨mj_cw7, List.forall_mem_cons.mpr ⟨mj_cw8, List.forall_mem_cons.mpr ⟨mj_cw9, List.forall_mem_cons.mpr ⟨mj_cw10, List.forall_mem_cons.mpr ⟨mj_cw11, List.forall_mem_cons.mpr ⟨mj_cw12, List.forall_mem_cons.mpr ⟨mj_cw13, List.forall_mem_cons.mpr ⟨mj_cw14, List.forall_mem_cons.mpr ⟨mj_cw15, fun _ h => absurd h List.not_mem_nil⟩⟩⟩⟩⟩⟩⟩⟩⟩⟩⟩⟩⟩⟩⟩⟩
theorem mj_cw16 : mj_cW (yX2_mostGiftsOf, cX2_mostGiftsOf, 2, (some .int), 2, 1, 1, 1) ∈ mj_tbl := mj_inT1 mj_t3 188 rfl rfl
theorem mj_cw17 : mj_cW (yX2_chargeOf, cX2_chargeOf, 4, (some .int), 2, 1, 1, 2) ∈ mj_tbl := mj_inT1 mj_t2 95 rfl rfl
theorem mj_cw18 : mj_cW (yX2_likingOf, cX2_likingOf, 3, (some .int), 2, 2, 1, 1) ∈ mj_tbl := mj_inT1 mj_t2 155 rfl rfl
theorem mj_cw19 : mj_cW (yX2_raiseLiking, cX2_raiseLiking, 4, none, 2, 3, 1, 2) ∈ mj_tbl := mj_inT1 mj_t2 151 rfl rfl
theorem mj_cw20 : mj_cW (yX2_give, cX2_give, 4, none, 2, 3, 1, 3) ∈ mj_tbl := mj_inT1 mj_t2 147 rfl rfl
theorem mj_cw21 : mj_cW (yX2_pullOf, cX2_pullOf, 3, (some .int), 2, 2, 1, 2) ∈ mj_tbl := mj_inT1 mj_t2 179 rfl rfl
theorem mj_cw22 : mj_cW (yX2_pullWith, cX2_pullWith, 5, (some .int), 2, 3, 1, 2) ∈ mj_tbl := mj_inT1 mj_t3 196 rfl rfl
theorem mj_cw23 : mj_cW (yX2_pullAt, cX2_pullAt, 8, (some .int), 2, 3, 1, 1) ∈ mj_tbl := mj_inT1 mj_t2 183 rfl rfl
theorem mj_cw24 : mj_cW (yX2_isAhead, cX2_isAhead, 7, (some .boolean), 2, 4, 1, 3) ∈ mj_tbl := mj_inT1 mj_t3 192 rfl rfl
theorem mj_cw25 : mj_cW (yX2_choiceOf, cX2_choiceOf, 2, (some (.object "ChosenBackAtNine$Choice")), 2, 1, 1, 4) ∈ mj_tbl := mj_inT1 mj_t3 96 rfl rfl
theorem mj_cw26 : mj_cW (yX2_chargeThenOf, cX2_chargeThenOf, 4, (some .int), 2, 1, 1, 5) ∈ mj_tbl := mj_inT1 mj_t3 118 rfl rfl
theorem mj_cw27 : mj_cW (yX2_childrenBy, cX2_childrenBy, 5, (some .int), 2, 2, 1, 5) ∈ mj_tbl := mj_inT1 mj_t3 123 rfl rfl
theorem mj_cw28 : mj_cW (yX2_mostTaken, cX2_mostTaken, 5, (some .int), 2, 0, 1, 6) ∈ mj_tbl := mj_inT1 mj_t3 132 rfl rfl
theorem mj_cw29 : mj_cW (yX2_howManyBare, cX2_howManyBare, 3, (some .int), 2, 0, 1, 6) ∈ mj_tbl := mj_inT1 mj_t3 143 rfl rfl
theorem mj_cw30 : mj_cW (yX2_wouldTrade, cX2_wouldTrade, 5, (some .boolean), 2, 2, 1, 5) ∈ mj_tbl := mj_inT1 mj_t3 213 rfl rfl
theorem mj_cw31 : mj_cW (yX2_letChoose, cX2_letChoose, 2, (some .int), 2, 1, 1, 4) ∈ mj_tbl := mj_inT1 mj_t3 231 rfl rfl
theorem mj_cws_1 : ∀ e ∈ mj_mL_1, mj_cW e ∈ mj_tbl := List.forall_mem_cons.mpr ⟨mj_cw16, List.forall_mem_cons.mpr ⟨mj_cw17, List.forall_mem_cons.mpr ⟨mj_cw18, List.forall_mem_cons.mpr ⟨mj_cw19, List.forall_mem_cons.mpr ⟨mj_cw20, List.forall_mem_cons.mpr ⟨mj_cw21, List.forall_mem_cons.mpr ⟨mj_cw22, List.forall_mem_cons.mpr ⟨mj_cw23, List.forall_mem_cons.mpr ⟨mj_cw24, List.forall_mem_cons.mpr ⟨mj_cw25, List.forall_mem_cons.mpr ⟨mj_cw26, List.forall_mem_cons.mpr ⟨mj_cw27, List.forall_mem_cons.mpr ⟨mj_cw28, List.forall_mem_cons.mpr ⟨mj_cw29, List.forall_mem_cons.mpr ⟨mj_cw30, List.forall_mem_cons.mpr ⟨mj_cw31, fun _ h => absurd h List.not_mem_nil⟩⟩⟩⟩⟩⟩⟩⟩⟩⟩⟩⟩⟩⟩⟩⟩
theorem mj_cw32 : mj_cW (yX2_passYear, cX2_passYear, 2, none, 2, 0, 1, 5) ∈ mj_tbl := mj_inT1 mj_t3 222 rfl rfl
theorem mj_cw33 : mj_cW (yX2_takeYearlyGifts, cX2_takeYearlyGifts, 3, none, 2, 1, 1, 3) ∈ mj_tbl := mj_inT1 mj_t3 226 rfl rfl
theorem mj_cw34 : mj_cW (yX2_giveByDraws, cX2_giveByDraws, 4, none, 2, 0, 1, 4) ∈ mj_tbl := mj_inT1 mj_t4 17 rfl rfl
theorem mj_cw35 : mj_cW (yX2_draw, cX2_draw, 2, (some .int), 2, 1, 1, 1) ∈ mj_tbl := mj_inT1 mj_t4 21 rfl rfl
theorem mj_cw36 : mj_cW (yX2_allDropped, cX2_allDropped, 3, (some .int), 2, 0, 1, 1) ∈ mj_tbl := mj_inT1 mj_t4 27 rfl rfl
theorem mj_cw37 : mj_cW (yX2_allLiking, cX2_allLiking, 3, (some .int), 2, 0, 1, 1) ∈ mj_tbl := mj_inT1 mj_t4 81 rfl rfl
theorem mj_cw38 : mj_cW (yX3_part, cX3_part, 5, none, 3, 1, 2, 5) ∈ mj_tbl := mj_inT1 mj_t3 153 rfl rfl
theorem mj_cw39 : mj_cW (yX3_asks, cX3_asks, 5, (some .boolean), 3, 2, 2, 4) ∈ mj_tbl := mj_inT1 mj_t3 157 rfl rfl
theorem mj_cw40 : mj_cW (yX3_mostPullingLeft, cX3_mostPullingLeft, 7, (some .int), 3, 2, 2, 3) ∈ mj_tbl := mj_inT1 mj_t3 161 rfl rfl
theorem mj_cw41 : mj_cW (yX3_heldBy, cX3_heldBy, 5, (some .int), 3, 2, 2, 1) ∈ mj_tbl := mj_inT1 mj_t3 166 rfl rfl
theorem mj_cw42 : mj_cW (yX3_leastLikedOf, cX3_leastLikedOf, 6, (some .int), 3, 3, 2, 3) ∈ mj_tbl := mj_inT1 mj_t3 171 rfl rfl
theorem mj_cw43 : mj_cW (yX3_isLiked, cX3_isLiked, 6, (some .boolean), 3, 4, 30, 2) ∈ mj_tbl := mj_inT1 mj_t3 174 rfl rfl
theorem mj_cw44 : mj_cW (yX4_readOnto, cX4_readOnto, 5, (some .int), 4, 2, 3, 8) ∈ mj_tbl := mj_inT1 mj_t2 199 rfl rfl
theorem mj_cw45 : mj_cW (yX4_readItem, cX4_readItem, 6, (some .boolean), 4, 2, 3, 7) ∈ mj_tbl := mj_inT1 mj_t2 203 rfl rfl
theorem mj_cw46 : mj_cW (yX4_failAt, cX4_failAt, 2, (some .boolean), 4, 1, 3, 1) ∈ mj_tbl := mj_inT1 mj_t3 38 rfl rfl
theorem mj_cw47 : mj_cW (yX4_readSign, cX4_readSign, 3, (some .boolean), 4, 2, 3, 3) ∈ mj_tbl := mj_inT1 mj_t3 53 rfl rfl
theorem mj_cws_2 : ∀ e ∈ mj_mL_2, mj_cW e ∈ mj_tbl := List.forall_mem_cons.mpr ⟨mj_cw32, List.forall_mem_cons.mpr ⟨mj_cw33, List.forall_mem_cons.mpr ⟨mj_cw34, List.forall_mem_cons.mpr ⟨mj_cw35, List.forall_mem_cons.mpr ⟨mj_cw36, List.forall_mem_cons.mpr ⟨mj_cw37, List.forall_mem_cons.mpr ⟨mj_cw38, List.forall_mem_cons.mpr ⟨mj_cw39, List.forall_mem_cons.mpr ⟨mj_cw40, List.forall_mem_cons.mpr ⟨mj_cw41, List.forall_mem_cons.mpr ⟨mj_cw42, List.forall_mem_cons.mpr ⟨mj_cw43, List.forall_mem_cons.mpr ⟨mj_cw44, List.forall_mem_cons.mpr ⟨mj_cw45, List.forall_mem_cons.mpr ⟨mj_cw46, List.forall_mem_cons.mpr ⟨mj_cw47, fun _ h => absurd h List.not_mem_nil⟩⟩⟩⟩⟩⟩⟩⟩⟩⟩⟩⟩⟩⟩⟩⟩
theorem mj_cw48 : mj_cW (yX4_readWord, cX4_readWord, 6, (some .int), 4, 1, 3, 6) ∈ mj_tbl := mj_inT1 mj_t2 207 rfl rfl
theorem mj_cw49 : mj_cW (yX4_howManyAlike, cX4_howManyAlike, 4, (some .int), 4, 2, 3, 5) ∈ mj_tbl := mj_inT1 mj_t2 219 rfl rfl
theorem mj_cw50 : mj_cW (yX4_lettersOf, cX4_lettersOf, 1, (some (.object "java/lang/String")), 4, 1, 30, 1) ∈ mj_tbl := mj_inT1 mj_t2 210 rfl rfl
theorem mj_cw51 : mj_cW (yX4_hasRoom, cX4_hasRoom, 2, (some .boolean), 4, 2, 30, 2) ∈ mj_tbl := mj_inT1 mj_t3 41 rfl rfl
theorem mj_cw52 : mj_cW (yX4_readNumber, cX4_readNumber, 7, (some .boolean), 4, 4, 3, 4) ∈ mj_tbl := mj_inT1 mj_t3 49 rfl rfl
theorem mj_cw53 : mj_cW (yX4_hasDigit, cX4_hasDigit, 2, (some .boolean), 4, 1, 3, 3) ∈ mj_tbl := mj_inT1 mj_t3 57 rfl rfl
theorem mj_cw54 : mj_cW (yX4_readDigit, cX4_readDigit, 3, (some .int), 4, 1, 3, 3) ∈ mj_tbl := mj_inT1 mj_t3 61 rfl rfl
theorem mj_cw55 : mj_cW (yX4_mostOf, cX4_mostOf, 3, (some .int), 4, 3, 30, 2) ∈ mj_tbl := mj_inT1 mj_t3 64 rfl rfl
theorem mj_cw56 : mj_cW (yX4_mostOfGrown, cX4_mostOfGrown, 1, (some .int), 4, 1, 30, 1) ∈ mj_tbl := mj_inT1 mj_t3 67 rfl rfl
theorem mj_cw57 : mj_cW (yX4_isBarred, cX4_isBarred, 5, (some .boolean), 4, 4, 3, 2) ∈ mj_tbl := mj_inT1 mj_t3 71 rfl rfl
theorem mj_cw58 : mj_cW (yX4_tell, cX4_tell, 3, none, 4, 2, 3, 4) ∈ mj_tbl := mj_inT1 mj_t3 76 rfl rfl
theorem mj_cw59 : mj_cW (yX5_putRow, cX5_putRow, 4, none, 5, 2, 4, 1) ∈ mj_tbl := mj_inT1 mj_t2 20 rfl rfl
theorem mj_cw60 : mj_cW (yX5_putGrown, cX5_putGrown, 2, none, 5, 1, 4, 1) ∈ mj_tbl := mj_inT1 mj_t2 70 rfl rfl
theorem mj_cw61 : mj_cW (yX5_hasRow, cX5_hasRow, 1, (some .boolean), 5, 0, 4, 1) ∈ mj_tbl := mj_inT1 mj_t2 35 rfl rfl
theorem mj_cw62 : mj_cW (yX5_hasGrown, cX5_hasGrown, 1, (some .boolean), 5, 0, 4, 1) ∈ mj_tbl := mj_inT1 mj_t2 31 rfl rfl
theorem mj_cw63 : mj_cW (yX5_hasElement, cX5_hasElement, 2, (some .boolean), 5, 1, 4, 1) ∈ mj_tbl := mj_inT1 mj_t2 39 rfl rfl
theorem mj_cws_3 : ∀ e ∈ mj_mL_3, mj_cW e ∈ mj_tbl := List.forall_mem_cons.mpr ⟨mj_cw48, List.forall_mem_cons.mpr ⟨mj_cw49, List.forall_mem_cons.mpr ⟨mj_cw50, List.forall_mem_cons.mpr ⟨mj_cw51, List.forall_mem_cons.mpr ⟨mj_cw52, List.forall_mem_cons.mpr ⟨mj_cw53, List.forall_mem_cons.mpr ⟨mj_cw54, List.forall_mem_cons.mpr ⟨mj_cw55, List.forall_mem_cons.mpr ⟨mj_cw56, List.forall_mem_cons.mpr ⟨mj_cw57, List.forall_mem_cons.mpr ⟨mj_cw58, List.forall_mem_cons.mpr ⟨mj_cw59, List.forall_mem_cons.mpr ⟨mj_cw60, List.forall_mem_cons.mpr ⟨mj_cw61, List.forall_mem_cons.mpr ⟨mj_cw62, List.forall_mem_cons.mpr ⟨mj_cw63, fun _ h => absurd h List.not_mem_nil⟩⟩⟩⟩⟩⟩⟩⟩⟩⟩⟩⟩⟩⟩⟩⟩
theorem mj_cw64 : mj_cW (yX5_hasSpan, cX5_hasSpan, 3, (some .boolean), 5, 2, 4, 1) ∈ mj_tbl := mj_inT1 mj_t2 51 rfl rfl
theorem mj_cw65 : mj_cW (yX5_putElement, cX5_putElement, 4, none, 5, 2, 4, 1) ∈ mj_tbl := mj_inT1 mj_t2 43 rfl rfl
theorem mj_cw66 : mj_cW (yX5_numberAt, cX5_numberAt, 2, (some .int), 5, 1, 4, 2) ∈ mj_tbl := mj_inT1 mj_t2 234 rfl rfl
theorem mj_cw67 : mj_cW (yX6_clear, cX6_clear, 1, none, 6, 0, 5, 1) ∈ mj_tbl := mj_inT1 mj_t4 39 rfl rfl
theorem mj_cw68 : mj_cW (yX6_bodyAt, cX6_bodyAt, 2, (some .int), 6, 1, 5, 1) ∈ mj_tbl := mj_inT1 mj_t4 65 rfl rfl
theorem mj_cw69 : mj_cW (yX6_perform, cX6_perform, 5, (some .int), 6, 4, 5, 21) ∈ mj_tbl := mj_inT1 mj_t4 43 rfl rfl
theorem mj_cw70 : mj_cW (yX6_run, cX6_run, 9, (some .int), 6, 4, 5, 20) ∈ mj_tbl := mj_inT1 mj_t4 47 rfl rfl
theorem mj_cw71 : mj_cW (yX6_ownerOf, cX6_ownerOf, 4, (some .int), 6, 2, 30, 4) ∈ mj_tbl := mj_inT1 mj_t4 50 rfl rfl
theorem mj_cw72 : mj_cW (yX6_begin, cX6_begin, 2, none, 6, 1, 5, 1) ∈ mj_tbl := mj_inT1 mj_t4 57 rfl rfl
theorem mj_cw73 : mj_cW (yX7_row, cX7_row, 5, (some .int), 7, 3, 6, 2) ∈ mj_tbl := mj_inT1 mj_t2 5 rfl rfl
theorem mj_cw74 : mj_cW (yX7_set, cX7_set, 7, (some .int), 7, 3, 6, 3) ∈ mj_tbl := mj_inT1 mj_t2 24 rfl rfl
theorem mj_cw75 : mj_cW (yX7_copy, cX7_copy, 8, (some .int), 7, 5, 6, 2) ∈ mj_tbl := mj_inT1 mj_t2 47 rfl rfl
theorem mj_cw76 : mj_cW (yX7_element, cX7_element, 4, (some .long), 7, 2, 6, 2) ∈ mj_tbl := mj_inT1 mj_t2 58 rfl rfl
theorem mj_cw77 : mj_cW (yX7_show, cX7_show, 4, (some .int), 7, 2, 6, 2) ∈ mj_tbl := mj_inT1 mj_t2 62 rfl rfl
theorem mj_cw78 : mj_cW (yX7_holds, cX7_holds, 3, (some .int), 7, 1, 6, 2) ∈ mj_tbl := mj_inT1 mj_t2 74 rfl rfl
theorem mj_cw79 : mj_cW (yX7_says, cX7_says, 5, (some .int), 7, 2, 6, 5) ∈ mj_tbl := mj_inT1 mj_t2 78 rfl rfl
theorem mj_cws_4 : ∀ e ∈ mj_mL_4, mj_cW e ∈ mj_tbl := List.forall_mem_cons.mpr ⟨mj_cw64, List.forall_mem_cons.mpr ⟨mj_cw65, List.forall_mem_cons.mpr ⟨mj_cw66, List.forall_mem_cons.mpr ⟨mj_cw67, List.forall_mem_cons.mpr ⟨mj_cw68, List.forall_mem_cons.mpr ⟨mj_cw69, List.forall_mem_cons.mpr ⟨mj_cw70, List.forall_mem_cons.mpr ⟨mj_cw71, List.forall_mem_cons.mpr ⟨mj_cw72, List.forall_mem_cons.mpr ⟨mj_cw73, List.forall_mem_cons.mpr ⟨mj_cw74, List.forall_mem_cons.mpr ⟨mj_cw75, List.forall_mem_cons.mpr ⟨mj_cw76, List.forall_mem_cons.mpr ⟨mj_cw77, List.forall_mem_cons.mpr ⟨mj_cw78, List.forall_mem_cons.mpr ⟨mj_cw79, fun _ h => absurd h List.not_mem_nil⟩⟩⟩⟩⟩⟩⟩⟩⟩⟩⟩⟩⟩⟩⟩⟩
theorem mj_cw80 : mj_cW (yX7_grown, cX7_grown, 5, (some .int), 7, 4, 6, 3) ∈ mj_tbl := mj_inT1 mj_t2 103 rfl rfl
theorem mj_cw81 : mj_cW (yX7_child, cX7_child, 6, (some .int), 7, 5, 6, 2) ∈ mj_tbl := mj_inT1 mj_t2 115 rfl rfl
theorem mj_cw82 : mj_cW (yX7_flood, cX7_flood, 3, (some .int), 7, 1, 6, 2) ∈ mj_tbl := mj_inT1 mj_t2 127 rfl rfl
theorem mj_cw83 : mj_cW (yX7_age, cX7_age, 4, (some .int), 7, 2, 6, 2) ∈ mj_tbl := mj_inT1 mj_t2 131 rfl rfl
theorem mj_cw84 : mj_cW (yX7_gift, cX7_gift, 4, (some .int), 7, 3, 6, 4) ∈ mj_tbl := mj_inT1 mj_t2 139 rfl rfl
theorem mj_cw85 : mj_cW (yX7_grownOf, cX7_grownOf, 3, (some .int), 7, 2, 6, 3) ∈ mj_tbl := mj_inT1 mj_t2 163 rfl rfl
theorem mj_cw86 : mj_cW (yX7_childOf, cX7_childOf, 3, (some .int), 7, 2, 6, 2) ∈ mj_tbl := mj_inT1 mj_t2 171 rfl rfl
theorem mj_cw87 : mj_cW (yX7_pull, cX7_pull, 4, (some .int), 7, 3, 6, 3) ∈ mj_tbl := mj_inT1 mj_t2 175 rfl rfl
theorem mj_cw88 : mj_cW (yX7_parish, cX7_parish, 5, (some .int), 7, 1, 6, 9) ∈ mj_tbl := mj_inT1 mj_t2 190 rfl rfl
theorem mj_cw89 : mj_cW (yX7_fault, cX7_fault, 1, (some .int), 7, 0, 6, 1) ∈ mj_tbl := mj_inT1 mj_t3 84 rfl rfl
theorem mj_cw90 : mj_cW (yX7_chooses, cX7_chooses, 3, (some .int), 7, 2, 6, 5) ∈ mj_tbl := mj_inT1 mj_t3 88 rfl rfl
theorem mj_cw91 : mj_cW (yX7_by, cX7_by, 3, (some .int), 7, 2, 6, 6) ∈ mj_tbl := mj_inT1 mj_t3 114 rfl rfl
theorem mj_cw92 : mj_cW (yX7_favourite, cX7_favourite, 2, (some .int), 7, 1, 6, 7) ∈ mj_tbl := mj_inT1 mj_t3 128 rfl rfl
theorem mj_cw93 : mj_cW (yX7_picks, cX7_picks, 2, (some .int), 7, 1, 6, 6) ∈ mj_tbl := mj_inT1 mj_t3 149 rfl rfl
theorem mj_cw94 : mj_cW (yX7_woo, cX7_woo, 8, (some .int), 7, 3, 6, 5) ∈ mj_tbl := mj_inT1 mj_t3 179 rfl rfl
theorem mj_cw95 : mj_cW (yX7_two, cX7_two, 8, (some .int), 7, 4, 6, 5) ∈ mj_tbl := mj_inT1 mj_t3 184 rfl rfl
theorem mj_cws_5 : ∀ e ∈ mj_mL_5, mj_cW e ∈ mj_tbl := List.forall_mem_cons.mpr ⟨mj_cw80, List.forall_mem_cons.mpr ⟨mj_cw81, List.forall_mem_cons.mpr ⟨mj_cw82, List.forall_mem_cons.mpr ⟨mj_cw83, List.forall_mem_cons.mpr ⟨mj_cw84, List.forall_mem_cons.mpr ⟨mj_cw85, List.forall_mem_cons.mpr ⟨mj_cw86, List.forall_mem_cons.mpr ⟨mj_cw87, List.forall_mem_cons.mpr ⟨mj_cw88, List.forall_mem_cons.mpr ⟨mj_cw89, List.forall_mem_cons.mpr ⟨mj_cw90, List.forall_mem_cons.mpr ⟨mj_cw91, List.forall_mem_cons.mpr ⟨mj_cw92, List.forall_mem_cons.mpr ⟨mj_cw93, List.forall_mem_cons.mpr ⟨mj_cw94, List.forall_mem_cons.mpr ⟨mj_cw95, fun _ h => absurd h List.not_mem_nil⟩⟩⟩⟩⟩⟩⟩⟩⟩⟩⟩⟩⟩⟩⟩⟩
theorem mj_cw96 : mj_cW (yX7_priceOf, cX7_priceOf, 6, (some .int), 7, 3, 6, 4) ∈ mj_tbl := mj_inT1 mj_t3 201 rfl rfl
theorem mj_cw97 : mj_cW (yX7_tastes, cX7_tastes, 8, (some .int), 7, 4, 6, 5) ∈ mj_tbl := mj_inT1 mj_t3 205 rfl rfl
theorem mj_cw98 : mj_cW (yX7_trades, cX7_trades, 6, (some .int), 7, 1, 6, 6) ∈ mj_tbl := mj_inT1 mj_t3 209 rfl rfl
theorem mj_cw99 : mj_cW (yX7_ahead, cX7_ahead, 5, (some .int), 7, 3, 6, 6) ∈ mj_tbl := mj_inT1 mj_t3 218 rfl rfl
theorem mj_cw100 : mj_cW (yX7_judge, cX7_judge, 7, (some .int), 7, 2, 6, 5) ∈ mj_tbl := mj_inT1 mj_t3 235 rfl rfl
theorem mj_cw101 : mj_cW (yX7_ninth, cX7_ninth, 3, (some .int), 7, 1, 6, 3) ∈ mj_tbl := mj_inT1 mj_t4 0 rfl rfl
theorem mj_cw102 : mj_cW (yX7_choose, cX7_choose, 3, (some .int), 7, 1, 6, 5) ∈ mj_tbl := mj_inT1 mj_t4 4 rfl rfl
theorem mj_cw103 : mj_cW (yX7_years, cX7_years, 3, (some .int), 7, 1, 6, 6) ∈ mj_tbl := mj_inT1 mj_t4 9 rfl rfl
theorem mj_cw104 : mj_cW (yX7_drawn, cX7_drawn, 3, (some .int), 7, 1, 6, 6) ∈ mj_tbl := mj_inT1 mj_t4 13 rfl rfl
theorem mj_cw105 : mj_cW (yX7_seed, cX7_seed, 3, (some .int), 7, 1, 6, 1) ∈ mj_tbl := mj_inT1 mj_t4 31 rfl rfl
theorem mj_cw106 : mj_cW (yX7_act, cX7_act, 4, (some .int), 7, 3, 6, 22) ∈ mj_tbl := mj_inT1 mj_t4 35 rfl rfl
theorem mj_cw107 : mj_cW (yX7_trace, cX7_trace, 2, (some .int), 7, 1, 6, 2) ∈ mj_tbl := mj_inT1 mj_t4 61 rfl rfl
theorem mj_cw108 : mj_cW (yX7_image, cX7_image, 1, (some .int), 7, 0, 6, 2) ∈ mj_tbl := mj_inT1 mj_t4 69 rfl rfl
theorem mj_cw109 : mj_cW (yX7_restore, cX7_restore, 3, (some .int), 7, 0, 6, 2) ∈ mj_tbl := mj_inT1 mj_t4 73 rfl rfl
theorem mj_cw110 : mj_cW (yX7_status, cX7_status, 2, (some .int), 7, 1, 6, 2) ∈ mj_tbl := mj_inT1 mj_t4 77 rfl rfl
theorem mj_cw111 : mj_cW (yX7_refusalsOf, cX7_refusalsOf, 2, (some .int), 7, 1, 6, 1) ∈ mj_tbl := mj_inT1 mj_t4 85 rfl rfl
theorem mj_cws_6 : ∀ e ∈ mj_mL_6, mj_cW e ∈ mj_tbl := List.forall_mem_cons.mpr ⟨mj_cw96, List.forall_mem_cons.mpr ⟨mj_cw97, List.forall_mem_cons.mpr ⟨mj_cw98, List.forall_mem_cons.mpr ⟨mj_cw99, List.forall_mem_cons.mpr ⟨mj_cw100, List.forall_mem_cons.mpr ⟨mj_cw101, List.forall_mem_cons.mpr ⟨mj_cw102, List.forall_mem_cons.mpr ⟨mj_cw103, List.forall_mem_cons.mpr ⟨mj_cw104, List.forall_mem_cons.mpr ⟨mj_cw105, List.forall_mem_cons.mpr ⟨mj_cw106, List.forall_mem_cons.mpr ⟨mj_cw107, List.forall_mem_cons.mpr ⟨mj_cw108, List.forall_mem_cons.mpr ⟨mj_cw109, List.forall_mem_cons.mpr ⟨mj_cw110, List.forall_mem_cons.mpr ⟨mj_cw111, fun _ h => absurd h List.not_mem_nil⟩⟩⟩⟩⟩⟩⟩⟩⟩⟩⟩⟩⟩⟩⟩⟩
theorem mj_cw112 : mj_cW (yX7_refuse, cX7_refuse, 2, (some .int), 7, 1, 6, 1) ∈ mj_tbl := mj_inT1 mj_t2 13 rfl rfl
theorem mj_cw113 : mj_cW (yX7_refuseTelling, cX7_refuseTelling, 2, (some .int), 7, 1, 6, 2) ∈ mj_tbl := mj_inT1 mj_t3 92 rfl rfl
theorem mj_cw114 : mj_cW (yX7_shelfAt, cX7_shelfAt, 2, (some (.object "ChosenBackAtNine$Shelf")), 7, 1, 6, 1) ∈ mj_tbl := mj_inT1 mj_t2 9 rfl rfl
theorem mj_cw115 : mj_cW (yX7_rowRefusal, cX7_rowRefusal, 1, (some .int), 7, 1, 30, 2) ∈ mj_tbl := mj_inT1 mj_t2 27 rfl rfl
theorem mj_cw116 : mj_cW (yX7_isWithin, cX7_isWithin, 2, (some .boolean), 7, 2, 30, 1) ∈ mj_tbl := mj_inT1 mj_t2 16 rfl rfl
theorem mj_cw117 : mj_cW (yX8_no, cX8_no, 2, (some .int), 8, 1, 7, 1) ∈ mj_tbl := mj_inT1 mj_t4 233 rfl rfl
theorem mj_cw118 : mj_cW (yX8_noTen, cX8_noTen, 2, (some .int), 8, 1, 7, 1) ∈ mj_tbl := mj_inT1 mj_t5 145 rfl rfl
theorem mj_cw119 : mj_cW (yX8_isShelf, cX8_isShelf, 2, (some .boolean), 8, 1, 7, 1) ∈ mj_tbl := mj_inT1 mj_t4 229 rfl rfl
theorem mj_cw120 : mj_cW (yX8_isGrown, cX8_isGrown, 2, (some .boolean), 8, 1, 7, 1) ∈ mj_tbl := mj_inT1 mj_t5 13 rfl rfl
theorem mj_cw121 : mj_cW (yX8_isChild, cX8_isChild, 2, (some .boolean), 8, 1, 7, 1) ∈ mj_tbl := mj_inT1 mj_t5 57 rfl rfl
theorem mj_cw122 : mj_cW (yX8_isFrom, cX8_isFrom, 4, (some .boolean), 8, 3, 7, 1) ∈ mj_tbl := mj_inT1 mj_t5 33 rfl rfl
theorem mj_cw123 : mj_cW (yX8_row, cX8_row, 5, (some .int), 8, 3, 7, 2) ∈ mj_tbl := mj_inT1 mj_t4 225 rfl rfl
theorem mj_cw124 : mj_cW (yX8_set, cX8_set, 5, (some .int), 8, 3, 7, 2) ∈ mj_tbl := mj_inT1 mj_t4 237 rfl rfl
theorem mj_cw125 : mj_cW (yX8_copy, cX8_copy, 7, (some .int), 8, 5, 7, 2) ∈ mj_tbl := mj_inT1 mj_t5 1 rfl rfl
theorem mj_cw126 : mj_cW (yX8_element, cX8_element, 3, (some .long), 8, 2, 7, 2) ∈ mj_tbl := mj_inT1 mj_t5 5 rfl rfl
theorem mj_cw127 : mj_cW (yX8_show, cX8_show, 3, (some .int), 8, 2, 7, 2) ∈ mj_tbl := mj_inT1 mj_t5 9 rfl rfl
theorem mj_cws_7 : ∀ e ∈ mj_mL_7, mj_cW e ∈ mj_tbl := List.forall_mem_cons.mpr ⟨mj_cw112, List.forall_mem_cons.mpr ⟨mj_cw113, List.forall_mem_cons.mpr ⟨mj_cw114, List.forall_mem_cons.mpr ⟨mj_cw115, List.forall_mem_cons.mpr ⟨mj_cw116, List.forall_mem_cons.mpr ⟨mj_cw117, List.forall_mem_cons.mpr ⟨mj_cw118, List.forall_mem_cons.mpr ⟨mj_cw119, List.forall_mem_cons.mpr ⟨mj_cw120, List.forall_mem_cons.mpr ⟨mj_cw121, List.forall_mem_cons.mpr ⟨mj_cw122, List.forall_mem_cons.mpr ⟨mj_cw123, List.forall_mem_cons.mpr ⟨mj_cw124, List.forall_mem_cons.mpr ⟨mj_cw125, List.forall_mem_cons.mpr ⟨mj_cw126, List.forall_mem_cons.mpr ⟨mj_cw127, fun _ h => absurd h List.not_mem_nil⟩⟩⟩⟩⟩⟩⟩⟩⟩⟩⟩⟩⟩⟩⟩⟩
theorem mj_cw128 : mj_cW (yX8_holds, cX8_holds, 2, (some .int), 8, 1, 7, 2) ∈ mj_tbl := mj_inT1 mj_t5 17 rfl rfl
theorem mj_cw129 : mj_cW (yX8_says, cX8_says, 6, (some .int), 8, 2, 7, 2) ∈ mj_tbl := mj_inT1 mj_t5 21 rfl rfl
theorem mj_cw130 : mj_cW (yX8_wanted, cX8_wanted, 2, (some .int), 8, 1, 7, 2) ∈ mj_tbl := mj_inT1 mj_t5 85 rfl rfl
theorem mj_cw131 : mj_cW (yX8_intAt, cX8_intAt, 3, (some .int), 8, 2, 7, 1) ∈ mj_tbl := mj_inT1 mj_t6 5 rfl rfl
theorem mj_cw132 : mj_cW (yX8_addsGrown, cX8_addsGrown, 6, (some .int), 8, 4, 7, 1) ∈ mj_tbl := mj_inT1 mj_t5 37 rfl rfl
theorem mj_cw133 : mj_cW (yX8_addsChild, cX8_addsChild, 7, (some .int), 8, 5, 7, 1) ∈ mj_tbl := mj_inT1 mj_t5 45 rfl rfl
theorem mj_cw134 : mj_cW (yX8_grown, cX8_grown, 5, (some .int), 8, 4, 7, 2) ∈ mj_tbl := mj_inT1 mj_t5 29 rfl rfl
theorem mj_cw135 : mj_cW (yX8_child, cX8_child, 6, (some .int), 8, 5, 7, 2) ∈ mj_tbl := mj_inT1 mj_t5 41 rfl rfl
theorem mj_cw136 : mj_cW (yX8_flood, cX8_flood, 3, (some .int), 8, 1, 7, 2) ∈ mj_tbl := mj_inT1 mj_t5 49 rfl rfl
theorem mj_cw137 : mj_cW (yX8_age, cX8_age, 4, (some .int), 8, 2, 7, 2) ∈ mj_tbl := mj_inT1 mj_t5 53 rfl rfl
theorem mj_cw138 : mj_cW (yX8_more, cX8_more, 5, (some .int), 8, 3, 7, 1) ∈ mj_tbl := mj_inT1 mj_t5 69 rfl rfl
theorem mj_cw139 : mj_cW (yX8_gives, cX8_gives, 4, (some .int), 8, 3, 7, 2) ∈ mj_tbl := mj_inT1 mj_t5 65 rfl rfl
theorem mj_cw140 : mj_cW (yX8_gift, cX8_gift, 4, (some .int), 8, 3, 7, 3) ∈ mj_tbl := mj_inT1 mj_t5 61 rfl rfl
theorem mj_cw141 : mj_cW (yX8_charge, cX8_charge, 4, (some .int), 8, 1, 7, 1) ∈ mj_tbl := mj_inT1 mj_t5 25 rfl rfl
theorem mj_cw142 : mj_cW (yX8_grownOf, cX8_grownOf, 3, (some .int), 8, 2, 7, 2) ∈ mj_tbl := mj_inT1 mj_t5 73 rfl rfl
theorem mj_cw143 : mj_cW (yX8_childOf, cX8_childOf, 3, (some .int), 8, 2, 7, 2) ∈ mj_tbl := mj_inT1 mj_t5 77 rfl rfl
theorem mj_cws_8 : ∀ e ∈ mj_mL_8, mj_cW e ∈ mj_tbl := List.forall_mem_cons.mpr ⟨mj_cw128, List.forall_mem_cons.mpr ⟨mj_cw129, List.forall_mem_cons.mpr ⟨mj_cw130, List.forall_mem_cons.mpr ⟨mj_cw131, List.forall_mem_cons.mpr ⟨mj_cw132, List.forall_mem_cons.mpr ⟨mj_cw133, List.forall_mem_cons.mpr ⟨mj_cw134, List.forall_mem_cons.mpr ⟨mj_cw135, List.forall_mem_cons.mpr ⟨mj_cw136, List.forall_mem_cons.mpr ⟨mj_cw137, List.forall_mem_cons.mpr ⟨mj_cw138, List.forall_mem_cons.mpr ⟨mj_cw139, List.forall_mem_cons.mpr ⟨mj_cw140, List.forall_mem_cons.mpr ⟨mj_cw141, List.forall_mem_cons.mpr ⟨mj_cw142, List.forall_mem_cons.mpr ⟨mj_cw143, fun _ h => absurd h List.not_mem_nil⟩⟩⟩⟩⟩⟩⟩⟩⟩⟩⟩⟩⟩⟩⟩⟩
theorem mj_cw144 : mj_cW (yX8_wrong, cX8_wrong, 2, (some .boolean), 8, 1, 7, 1) ∈ mj_tbl := mj_inT1 mj_t5 105 rfl rfl
theorem mj_cw145 : mj_cW (yX8_stands, cX8_stands, 4, (some .boolean), 8, 1, 7, 1) ∈ mj_tbl := mj_inT1 mj_t5 101 rfl rfl
theorem mj_cw146 : mj_cW (yX8_word, cX8_word, 6, (some .int), 8, 0, 7, 1) ∈ mj_tbl := mj_inT1 mj_t5 109 rfl rfl
theorem mj_cw147 : mj_cW (yX8_isDigit, cX8_isDigit, 1, (some .boolean), 8, 0, 7, 1) ∈ mj_tbl := mj_inT1 mj_t5 117 rfl rfl
theorem mj_cw148 : mj_cW (yX8_reads, cX8_reads, 2, (some .boolean), 8, 0, 7, 2) ∈ mj_tbl := mj_inT1 mj_t5 113 rfl rfl
theorem mj_cw149 : mj_cW (yX8_isSo, cX8_isSo, 3, (some .boolean), 8, 2, 7, 1) ∈ mj_tbl := mj_inT1 mj_t5 121 rfl rfl
theorem mj_cw150 : mj_cW (yX8_item, cX8_item, 4, (some .boolean), 8, 0, 7, 3) ∈ mj_tbl := mj_inT1 mj_t5 97 rfl rfl
theorem mj_cw151 : mj_cW (yX8_carries, cX8_carries, 7, (some .int), 8, 5, 7, 1) ∈ mj_tbl := mj_inT1 mj_t5 93 rfl rfl
theorem mj_cw152 : mj_cW (yX8_all, cX8_all, 4, none, 8, 2, 7, 2) ∈ mj_tbl := mj_inT1 mj_t5 89 rfl rfl
theorem mj_cw153 : mj_cW (yX8_parish, cX8_parish, 5, (some .int), 8, 1, 7, 4) ∈ mj_tbl := mj_inT1 mj_t5 81 rfl rfl
theorem mj_cw154 : mj_cW (yX8_fault, cX8_fault, 1, (some .int), 8, 0, 7, 1) ∈ mj_tbl := mj_inT1 mj_t5 125 rfl rfl
theorem mj_cw155 : mj_cW (yX8_pullBy, cX8_pullBy, 8, (some .int), 8, 3, 7, 1) ∈ mj_tbl := mj_inT1 mj_t5 137 rfl rfl
theorem mj_cw156 : mj_cW (yX8_pulls, cX8_pulls, 3, (some .int), 8, 2, 7, 2) ∈ mj_tbl := mj_inT1 mj_t5 133 rfl rfl
theorem mj_cw157 : mj_cW (yX8_settles, cX8_settles, 7, none, 8, 1, 7, 3) ∈ mj_tbl := mj_inT1 mj_t5 149 rfl rfl
theorem mj_cw158 : mj_cW (yX8_pull, cX8_pull, 4, (some .int), 8, 3, 7, 3) ∈ mj_tbl := mj_inT1 mj_t5 129 rfl rfl
theorem mj_cw159 : mj_cW (yX8_chosen, cX8_chosen, 2, (some .int), 8, 1, 7, 1) ∈ mj_tbl := mj_inT1 mj_t5 153 rfl rfl
theorem mj_cws_9 : ∀ e ∈ mj_mL_9, mj_cW e ∈ mj_tbl := List.forall_mem_cons.mpr ⟨mj_cw144, List.forall_mem_cons.mpr ⟨mj_cw145, List.forall_mem_cons.mpr ⟨mj_cw146, List.forall_mem_cons.mpr ⟨mj_cw147, List.forall_mem_cons.mpr ⟨mj_cw148, List.forall_mem_cons.mpr ⟨mj_cw149, List.forall_mem_cons.mpr ⟨mj_cw150, List.forall_mem_cons.mpr ⟨mj_cw151, List.forall_mem_cons.mpr ⟨mj_cw152, List.forall_mem_cons.mpr ⟨mj_cw153, List.forall_mem_cons.mpr ⟨mj_cw154, List.forall_mem_cons.mpr ⟨mj_cw155, List.forall_mem_cons.mpr ⟨mj_cw156, List.forall_mem_cons.mpr ⟨mj_cw157, List.forall_mem_cons.mpr ⟨mj_cw158, List.forall_mem_cons.mpr ⟨mj_cw159, fun _ h => absurd h List.not_mem_nil⟩⟩⟩⟩⟩⟩⟩⟩⟩⟩⟩⟩⟩⟩⟩⟩
theorem mj_cw160 : mj_cW (yX8_chooses, cX8_chooses, 3, (some .int), 8, 2, 7, 4) ∈ mj_tbl := mj_inT1 mj_t5 141 rfl rfl
theorem mj_cw161 : mj_cW (yX8_setBy, cX8_setBy, 5, (some .int), 8, 2, 7, 4) ∈ mj_tbl := mj_inT1 mj_t5 165 rfl rfl
theorem mj_cw162 : mj_cW (yX8_many, cX8_many, 4, (some .int), 8, 1, 7, 1) ∈ mj_tbl := mj_inT1 mj_t5 169 rfl rfl
theorem mj_cw163 : mj_cW (yX8_chargeThen, cX8_chargeThen, 2, (some .int), 8, 1, 7, 5) ∈ mj_tbl := mj_inT1 mj_t5 161 rfl rfl
theorem mj_cw164 : mj_cW (yX8_by, cX8_by, 3, (some .int), 8, 2, 7, 6) ∈ mj_tbl := mj_inT1 mj_t5 157 rfl rfl
theorem mj_cw165 : mj_cW (yX8_favourite, cX8_favourite, 7, (some .int), 8, 1, 7, 6) ∈ mj_tbl := mj_inT1 mj_t5 173 rfl rfl
theorem mj_cw166 : mj_cW (yX8_asks, cX8_asks, 4, (some .int), 8, 1, 7, 3) ∈ mj_tbl := mj_inT1 mj_t5 185 rfl rfl
theorem mj_cw167 : mj_cW (yX8_leastOf, cX8_leastOf, 4, (some .int), 8, 1, 7, 1) ∈ mj_tbl := mj_inT1 mj_t5 193 rfl rfl
theorem mj_cw168 : mj_cW (yX8_hasMany, cX8_hasMany, 4, (some .int), 8, 1, 7, 1) ∈ mj_tbl := mj_inT1 mj_t5 189 rfl rfl
theorem mj_cw169 : mj_cW (yX8_parts, cX8_parts, 5, none, 8, 0, 7, 4) ∈ mj_tbl := mj_inT1 mj_t5 181 rfl rfl
theorem mj_cw170 : mj_cW (yX8_picks, cX8_picks, 2, (some .int), 8, 1, 7, 5) ∈ mj_tbl := mj_inT1 mj_t5 177 rfl rfl
theorem mj_cw171 : mj_cW (yX8_serves, cX8_serves, 6, (some .boolean), 8, 4, 7, 4) ∈ mj_tbl := mj_inT1 mj_t5 201 rfl rfl
theorem mj_cw172 : mj_cW (yX8_woo, cX8_woo, 5, (some .int), 8, 3, 7, 5) ∈ mj_tbl := mj_inT1 mj_t5 197 rfl rfl
theorem mj_cw173 : mj_cW (yX8_pullWith, cX8_pullWith, 4, (some .int), 8, 3, 7, 2) ∈ mj_tbl := mj_inT1 mj_t5 213 rfl rfl
theorem mj_cw174 : mj_cW (yX8_isAhead, cX8_isAhead, 7, (some .boolean), 8, 4, 7, 3) ∈ mj_tbl := mj_inT1 mj_t5 209 rfl rfl
theorem mj_cw175 : mj_cW (yX8_two, cX8_two, 8, (some .int), 8, 4, 7, 4) ∈ mj_tbl := mj_inT1 mj_t5 205 rfl rfl
theorem mj_cws_10 : ∀ e ∈ mj_mL_10, mj_cW e ∈ mj_tbl := List.forall_mem_cons.mpr ⟨mj_cw160, List.forall_mem_cons.mpr ⟨mj_cw161, List.forall_mem_cons.mpr ⟨mj_cw162, List.forall_mem_cons.mpr ⟨mj_cw163, List.forall_mem_cons.mpr ⟨mj_cw164, List.forall_mem_cons.mpr ⟨mj_cw165, List.forall_mem_cons.mpr ⟨mj_cw166, List.forall_mem_cons.mpr ⟨mj_cw167, List.forall_mem_cons.mpr ⟨mj_cw168, List.forall_mem_cons.mpr ⟨mj_cw169, List.forall_mem_cons.mpr ⟨mj_cw170, List.forall_mem_cons.mpr ⟨mj_cw171, List.forall_mem_cons.mpr ⟨mj_cw172, List.forall_mem_cons.mpr ⟨mj_cw173, List.forall_mem_cons.mpr ⟨mj_cw174, List.forall_mem_cons.mpr ⟨mj_cw175, fun _ h => absurd h List.not_mem_nil⟩⟩⟩⟩⟩⟩⟩⟩⟩⟩⟩⟩⟩⟩⟩⟩
theorem mj_cw176 : mj_cW (yX8_tastes, cX8_tastes, 8, (some .int), 8, 4, 7, 4) ∈ mj_tbl := mj_inT1 mj_t5 217 rfl rfl
theorem mj_cw177 : mj_cW (yX8_areTraders, cX8_areTraders, 5, (some .boolean), 8, 2, 7, 4) ∈ mj_tbl := mj_inT1 mj_t5 225 rfl rfl
theorem mj_cw178 : mj_cW (yX8_trades, cX8_trades, 6, (some .int), 8, 1, 7, 5) ∈ mj_tbl := mj_inT1 mj_t5 221 rfl rfl
theorem mj_cw179 : mj_cW (yX8_choosesInTruth, cX8_choosesInTruth, 2, (some .int), 8, 1, 7, 4) ∈ mj_tbl := mj_inT1 mj_t5 237 rfl rfl
theorem mj_cw180 : mj_cW (yX8_passes, cX8_passes, 3, none, 8, 0, 7, 5) ∈ mj_tbl := mj_inT1 mj_t5 233 rfl rfl
theorem mj_cw181 : mj_cW (yX8_ahead, cX8_ahead, 5, (some .int), 8, 3, 7, 6) ∈ mj_tbl := mj_inT1 mj_t5 229 rfl rfl
theorem mj_cw182 : mj_cW (yX8_judge, cX8_judge, 5, (some .int), 8, 2, 7, 4) ∈ mj_tbl := mj_inT1 mj_t6 1 rfl rfl
theorem mj_cw183 : mj_cW (yX8_ninth, cX8_ninth, 2, (some .int), 8, 1, 7, 2) ∈ mj_tbl := mj_inT1 mj_t6 9 rfl rfl
theorem mj_cw184 : mj_cW (yX8_choose, cX8_choose, 3, (some .int), 8, 1, 7, 5) ∈ mj_tbl := mj_inT1 mj_t6 13 rfl rfl
theorem mj_cw185 : mj_cW (yX8_years, cX8_years, 3, (some .int), 8, 1, 7, 6) ∈ mj_tbl := mj_inT1 mj_t6 17 rfl rfl
theorem mj_cw186 : mj_cW (yX8_draw, cX8_draw, 2, (some .int), 8, 1, 7, 1) ∈ mj_tbl := mj_inT1 mj_t6 25 rfl rfl
theorem mj_cw187 : mj_cW (yX8_together, cX8_together, 5, (some .int), 8, 2, 7, 1) ∈ mj_tbl := mj_inT1 mj_t6 30 rfl rfl
theorem mj_cw188 : mj_cW (yX8_drawn, cX8_drawn, 6, (some .int), 8, 1, 7, 6) ∈ mj_tbl := mj_inT1 mj_t6 21 rfl rfl
theorem mj_cw189 : mj_cW (yX8_seed, cX8_seed, 3, (some .int), 8, 1, 7, 1) ∈ mj_tbl := mj_inT1 mj_t6 34 rfl rfl
theorem mj_cw190 : mj_cW (yX8_body, cX8_body, 2, none, 8, 1, 7, 1) ∈ mj_tbl := mj_inT1 mj_t6 46 rfl rfl
theorem mj_cw191 : mj_cW (yX8_playing, cX8_playing, 6, (some .int), 8, 2, 7, 2) ∈ mj_tbl := mj_inT1 mj_t6 42 rfl rfl
theorem mj_cws_11 : ∀ e ∈ mj_mL_11, mj_cW e ∈ mj_tbl := List.forall_mem_cons.mpr ⟨mj_cw176, List.forall_mem_cons.mpr ⟨mj_cw177, List.forall_mem_cons.mpr ⟨mj_cw178, List.forall_mem_cons.mpr ⟨mj_cw179, List.forall_mem_cons.mpr ⟨mj_cw180, List.forall_mem_cons.mpr ⟨mj_cw181, List.forall_mem_cons.mpr ⟨mj_cw182, List.forall_mem_cons.mpr ⟨mj_cw183, List.forall_mem_cons.mpr ⟨mj_cw184, List.forall_mem_cons.mpr ⟨mj_cw185, List.forall_mem_cons.mpr ⟨mj_cw186, List.forall_mem_cons.mpr ⟨mj_cw187, List.forall_mem_cons.mpr ⟨mj_cw188, List.forall_mem_cons.mpr ⟨mj_cw189, List.forall_mem_cons.mpr ⟨mj_cw190, List.forall_mem_cons.mpr ⟨mj_cw191, fun _ h => absurd h List.not_mem_nil⟩⟩⟩⟩⟩⟩⟩⟩⟩⟩⟩⟩⟩⟩⟩⟩
theorem mj_cw192 : mj_cW (yX8_giving, cX8_giving, 7, (some .int), 8, 2, 7, 3) ∈ mj_tbl := mj_inT1 mj_t6 50 rfl rfl
theorem mj_cw193 : mj_cW (yX8_bowing, cX8_bowing, 5, (some .int), 8, 2, 7, 4) ∈ mj_tbl := mj_inT1 mj_t6 54 rfl rfl
theorem mj_cw194 : mj_cW (yX8_act, cX8_act, 4, (some .int), 8, 3, 7, 5) ∈ mj_tbl := mj_inT1 mj_t6 38 rfl rfl
theorem mj_cw195 : mj_cW (yX8_trace, cX8_trace, 2, (some .int), 8, 1, 7, 1) ∈ mj_tbl := mj_inT1 mj_t6 58 rfl rfl
theorem mj_cw196 : mj_cW (yX8_image, cX8_image, 1, (some .int), 8, 0, 7, 3) ∈ mj_tbl := mj_inT1 mj_t6 62 rfl rfl
theorem mj_cw197 : mj_cW (yX8_restore, cX8_restore, 2, (some .int), 8, 0, 7, 3) ∈ mj_tbl := mj_inT1 mj_t6 66 rfl rfl
theorem mj_cw198 : mj_cW (yX8_allLiking, cX8_allLiking, 4, (some .int), 8, 0, 7, 1) ∈ mj_tbl := mj_inT1 mj_t6 74 rfl rfl
theorem mj_cw199 : mj_cW (yX8_status, cX8_status, 2, (some .int), 8, 1, 7, 2) ∈ mj_tbl := mj_inT1 mj_t6 70 rfl rfl
theorem mj_cw200 : mj_cW (yJ6_bitCount_0f7a4, cJ6_bitCount_0f7a4, 1, (some .int), 9, 1, 30, 1) ∈ mj_tbl := mj_inT1 mj_t3 136 rfl rfl
theorem mj_cw201 : mj_cW (yJ0_length_8abf5, cJ0_length_8abf5, 1, (some .int), 11, 0, 20, 2) ∈ mj_tbl := mj_inT1 mj_t2 223 rfl rfl
theorem mj_cw202 : mj_cW (yJ0_charAt_5068e, cJ0_charAt_5068e, 2, (some .char), 11, 1, 20, 4) ∈ mj_tbl := mj_inT1 mj_t2 239 rfl rfl
theorem mj_cw203 : mj_cW (yJ0_coder_7d493, cJ0_coder_7d493, 1, (some .byte), 11, 0, 20, 1) ∈ mj_tbl := mj_inT1 mj_t2 227 rfl rfl
theorem mj_cw204 : mj_cW (yJ0_isLatin1_aae02, cJ0_isLatin1_aae02, 1, (some .boolean), 11, 0, 20, 1) ∈ mj_tbl := mj_inT1 mj_t3 3 rfl rfl
theorem mj_cw205 : mj_cW (yJ0_checkIndex_df160, cJ0_checkIndex_df160, 2, none, 11, 2, 30, 2) ∈ mj_tbl := mj_inT1 mj_t3 9 rfl rfl
theorem mj_cw206 : mj_cW (yJ1_charAt_3b067, cJ1_charAt_3b067, 2, (some .char), 12, 2, 30, 3) ∈ mj_tbl := mj_inT1 mj_t3 6 rfl rfl
theorem mj_cw207 : mj_cW (yJ3_checkIndex_8e157, cJ3_checkIndex_8e157, 3, (some .int), 13, 3, 30, 1) ∈ mj_tbl := mj_inT1 mj_t3 14 rfl rfl
theorem mj_cws_12 : ∀ e ∈ mj_mL_12, mj_cW e ∈ mj_tbl := List.forall_mem_cons.mpr ⟨mj_cw192, List.forall_mem_cons.mpr ⟨mj_cw193, List.forall_mem_cons.mpr ⟨mj_cw194, List.forall_mem_cons.mpr ⟨mj_cw195, List.forall_mem_cons.mpr ⟨mj_cw196, List.forall_mem_cons.mpr ⟨mj_cw197, List.forall_mem_cons.mpr ⟨mj_cw198, List.forall_mem_cons.mpr ⟨mj_cw199, List.forall_mem_cons.mpr ⟨mj_cw200, List.forall_mem_cons.mpr ⟨mj_cw201, List.forall_mem_cons.mpr ⟨mj_cw202, List.forall_mem_cons.mpr ⟨mj_cw203, List.forall_mem_cons.mpr ⟨mj_cw204, List.forall_mem_cons.mpr ⟨mj_cw205, List.forall_mem_cons.mpr ⟨mj_cw206, List.forall_mem_cons.mpr ⟨mj_cw207, fun _ h => absurd h List.not_mem_nil⟩⟩⟩⟩⟩⟩⟩⟩⟩⟩⟩⟩⟩⟩⟩⟩
set_option maxRecDepth 100000 in
theorem mj_mc_0 : (mj_mL_0.zip mj_mP_0).all (fun q => mj_mW q.1 q.2) = true := by decide +kernel
set_option maxRecDepth 100000 in
theorem mj_mc_1 : (mj_mL_1.zip mj_mP_1).all (fun q => mj_mW q.1 q.2) = true := by decide +kernel
set_option maxRecDepth 100000 in
theorem mj_mc_2 : (mj_mL_2.zip mj_mP_2).all (fun q => mj_mW q.1 q.2) = true := by decide +kernel
set_option maxRecDepth 100000 in
theorem mj_mc_3 : (mj_mL_3.zip mj_mP_3).all (fun q => mj_mW q.1 q.2) = true := by decide +kernel
set_option maxRecDepth 100000 in
theorem mj_mc_4 : (mj_mL_4.zip mj_mP_4).all (fun q => mj_mW q.1 q.2) = true := by decide +kernel
set_option maxRecDepth 100000 in
theorem mj_mc_5 : (mj_mL_5.zip mj_mP_5).all (fun q => mj_mW q.1 q.2) = true := by decide +kernel
set_option maxRecDepth 100000 in
theorem mj_mc_6 : (mj_mL_6.zip mj_mP_6).all (fun q => mj_mW q.1 q.2) = true := by decide +kernel
set_option maxRecDepth 100000 in
theorem mj_mc_7 : (mj_mL_7.zip mj_mP_7).all (fun q => mj_mW q.1 q.2) = true := by decide +kernel
set_option maxRecDepth 100000 in
theorem mj_mc_8 : (mj_mL_8.zip mj_mP_8).all (fun q => mj_mW q.1 q.2) = true := by decide +kernel
set_option maxRecDepth 100000 in
theorem mj_mc_9 : (mj_mL_9.zip mj_mP_9).all (fun q => mj_mW q.1 q.2) = true := by decide +kernel
set_option maxRecDepth 100000 in
theorem mj_mc_10 : (mj_mL_10.zip mj_mP_10).all (fun q => mj_mW q.1 q.2) = true := by decide +kernel
set_option maxRecDepth 100000 in
theorem mj_mc_11 : (mj_mL_11.zip mj_mP_11).all (fun q => mj_mW q.1 q.2) = true := by decide +kernel
set_option maxRecDepth 100000 in
theorem mj_mc_12 : (mj_mL_12.zip mj_mP_12).all (fun q => mj_mW q.1 q.2) = true := by decide +kernel
theorem mj_lawE : mj_mL[mj_law]? = some mj_lE := rfl
set_option maxRecDepth 100000 in
theorem mj_mAlen : mj_mA.length = mj_law := by decide +kernel
def mj_gE (e : mj_M) : Prop := mj_cW e ∈ mj_tbl ∧ ∃ ps, mj_mW e ps = true
theorem mj_g_0 : ∀ e ∈ mj_mL_0, mj_gE e := fun e h => ⟨mj_cws_0 e h, mj_allP (f := mj_mW) rfl mj_mc_0 h⟩
theorem mj_g_1 : ∀ e ∈ mj_mL_1, mj_gE e := fun e h => ⟨mj_cws_1 e h, mj_allP (f := mj_mW) rfl mj_mc_1 h⟩
theorem mj_g_2 : ∀ e ∈ mj_mL_2, mj_gE e := fun e h => ⟨mj_cws_2 e h, mj_allP (f := mj_mW) rfl mj_mc_2 h⟩
theorem mj_g_3 : ∀ e ∈ mj_mL_3, mj_gE e := fun e h => ⟨mj_cws_3 e h, mj_allP (f := mj_mW) rfl mj_mc_3 h⟩
theorem mj_g_4 : ∀ e ∈ mj_mL_4, mj_gE e := fun e h => ⟨mj_cws_4 e h, mj_allP (f := mj_mW) rfl mj_mc_4 h⟩
theorem mj_g_5 : ∀ e ∈ mj_mL_5, mj_gE e := fun e h => ⟨mj_cws_5 e h, mj_allP (f := mj_mW) rfl mj_mc_5 h⟩
theorem mj_g_6 : ∀ e ∈ mj_mL_6, mj_gE e := fun e h => ⟨mj_cws_6 e h, mj_allP (f := mj_mW) rfl mj_mc_6 h⟩
theorem mj_g_7 : ∀ e ∈ mj_mL_7, mj_gE e := fun e h => ⟨mj_cws_7 e h, mj_allP (f := mj_mW) rfl mj_mc_7 h⟩
theorem mj_g_8 : ∀ e ∈ mj_mL_8, mj_gE e := fun e h => ⟨mj_cws_8 e h, mj_allP (f := mj_mW) rfl mj_mc_8 h⟩
theorem mj_g_9 : ∀ e ∈ mj_mL_9, mj_gE e := fun e h => ⟨mj_cws_9 e h, mj_allP (f := mj_mW) rfl mj_mc_9 h⟩
theorem mj_g_10 : ∀ e ∈ mj_mL_10, mj_gE e := fun e h => ⟨mj_cws_10 e h, mj_allP (f := mj_mW) rfl mj_mc_10 h⟩
theorem mj_g_11 : ∀ e ∈ mj_mL_11, mj_gE e := fun e h => ⟨mj_cws_11 e h, mj_allP (f := mj_mW) rfl mj_mc_11 h⟩
theorem mj_g_12 : ∀ e ∈ mj_mL_12, mj_gE e := fun e h => ⟨mj_cws_12 e h, mj_allP (f := mj_mW) rfl mj_mc_12 h⟩
theorem mj_gA : ∀ e ∈ mj_mA, mj_gE e := List.forall_mem_append.mpr ⟨mj_g_0, List.forall_mem_append.mpr ⟨mj_g_1, List.forall_mem_append.mpr ⟨mj_g_2, List.forall_mem_append.mpr ⟨mj_g_3, List.forall_mem_append.mpr ⟨mj_g_4, List.forall_mem_append.mpr ⟨mj_g_5, List.forall_mem_append.mpr ⟨mj_g_6, List.forall_mem_append.mpr ⟨mj_g_7, List.forall_mem_append.mpr ⟨mj_g_8, List.forall_mem_append.mpr ⟨mj_g_9, List.forall_mem_append.mpr ⟨mj_g_10, List.forall_mem_append.mpr ⟨mj_g_11, mj_g_12⟩⟩⟩⟩⟩⟩⟩⟩⟩⟩⟩⟩
theorem mj_gM {m : Nat} {e : mj_M} (h : mj_e m = some e) (hl : mj_base m ≠ mj_law) : mj_gE e := by
  unfold mj_e mj_mL at h
  have hlt := (List.getElem?_eq_some_iff.mp h).1
  rw [List.length_append, mj_mAlen] at hlt
  have h1 : mj_base m < mj_mA.length := by rw [mj_mAlen]; simp only [List.length_cons, List.length_nil] at hlt; omega
  rw [List.getElem?_append_left h1] at h
  exact mj_gA e (List.mem_of_getElem? h)
set_option maxRecDepth 100000 in
theorem mj_uw_0 : ((u_ws RX0 TX0 4).zip [121, 123, 125, 127]).all (fun q => mj_inT q.2 q.1) = true := by decide +kernel
theorem mj_uv_0 : ∀ w ∈ u_ws RX0 TX0 4, w ∈ mj_tbl := fun w h => (mj_allC (f := fun a b => mj_inT b a) rfl mj_uw_0 h).elim fun _ h => mj_inT_mem h
set_option maxRecDepth 100000 in
theorem mj_uw_1 : ((u_ws RX2 TX2 16).zip [172, 174, 176, 178, 180, 182, 184, 186, 188, 190, 192, 194, 196, 198, 200, 202]).all (fun q => mj_inT q.2 q.1) = true := by decide +kernel
theorem mj_uv_1 : ∀ w ∈ u_ws RX2 TX2 16, w ∈ mj_tbl := fun w h => (mj_allC (f := fun a b => mj_inT b a) rfl mj_uw_1 h).elim fun _ h => mj_inT_mem h
set_option maxRecDepth 100000 in
theorem mj_uw_2 : ((u_ws RX3 TX3 2).zip [216, 218]).all (fun q => mj_inT q.2 q.1) = true := by decide +kernel
theorem mj_uv_2 : ∀ w ∈ u_ws RX3 TX3 2, w ∈ mj_tbl := fun w h => (mj_allC (f := fun a b => mj_inT b a) rfl mj_uw_2 h).elim fun _ h => mj_inT_mem h
set_option maxRecDepth 100000 in
theorem mj_uw_3 : ((u_ws RX4 TX4 3).zip [231, 233, 235]).all (fun q => mj_inT q.2 q.1) = true := by decide +kernel
theorem mj_uv_3 : ∀ w ∈ u_ws RX4 TX4 3, w ∈ mj_tbl := fun w h => (mj_allC (f := fun a b => mj_inT b a) rfl mj_uw_3 h).elim fun _ h => mj_inT_mem h
set_option maxRecDepth 100000 in
theorem mj_uw_4 : ((u_ws RX5 TX5 4).zip [274, 276, 278, 280]).all (fun q => mj_inT q.2 q.1) = true := by decide +kernel
theorem mj_uv_4 : ∀ w ∈ u_ws RX5 TX5 4, w ∈ mj_tbl := fun w h => (mj_allC (f := fun a b => mj_inT b a) rfl mj_uw_4 h).elim fun _ h => mj_inT_mem h
set_option maxRecDepth 100000 in
theorem mj_uw_5 : ((u_ws RX6 TX6 5).zip [250, 252, 254, 256, 258]).all (fun q => mj_inT q.2 q.1) = true := by decide +kernel
theorem mj_uv_5 : ∀ w ∈ u_ws RX6 TX6 5, w ∈ mj_tbl := fun w h => (mj_allC (f := fun a b => mj_inT b a) rfl mj_uw_5 h).elim fun _ h => mj_inT_mem h
set_option maxRecDepth 100000 in
theorem mj_uw_6 : ((u_ws RX7 TX7 10).zip [294, 296, 298, 300, 302, 304, 306, 308, 310, 312]).all (fun q => mj_inT q.2 q.1) = true := by decide +kernel
theorem mj_uv_6 : ∀ w ∈ u_ws RX7 TX7 10, w ∈ mj_tbl := fun w h => (mj_allC (f := fun a b => mj_inT b a) rfl mj_uw_6 h).elim fun _ h => mj_inT_mem h
set_option maxRecDepth 100000 in
theorem mj_uw_7 : ((u_ws RX8 TX8 43).zip [928, 930, 932, 934, 936, 938, 940, 942, 944, 946, 948, 950, 952, 954, 956, 958, 960, 962, 964, 966, 968, 970, 972, 974, 976, 978, 980, 982, 984, 986, 988, 990, 992, 994, 996, 998, 1000, 1002, 1004, 1006, 1008, 1010, 1012]).all (fun q => mj_inT q.2 q.1) = true := by decide +kernel
theorem mj_uv_7 : ∀ w ∈ u_ws RX8 TX8 43, w ∈ mj_tbl := fun w h => (mj_allC (f := fun a b => mj_inT b a) rfl mj_uw_7 h).elim fun _ h => mj_inT_mem h
theorem mj_cl_in {c : Nat} (h : c < 8) : ∀ w ∈ u_ws (mj_clR c) (mj_clT c) (mj_clN c), w ∈ mj_tbl := by
  match c, h with
  | 0, _ => exact mj_uv_0
  | 1, _ => exact mj_uv_1
  | 2, _ => exact mj_uv_2
  | 3, _ => exact mj_uv_3
  | 4, _ => exact mj_uv_4
  | 5, _ => exact mj_uv_5
  | 6, _ => exact mj_uv_6
  | 7, _ => exact mj_uv_7
theorem mj_cl_at {c : Nat} (h : c < 8) : vwCl[c]? = some (mj_clR c, mj_clT c, mj_clN c) := by
  match c, h with
  | 0, _ => rfl
  | 1, _ => rfl
  | 2, _ => rfl
  | 3, _ => rfl
  | 4, _ => rfl
  | 5, _ => rfl
  | 6, _ => rfl
  | 7, _ => rfl
theorem mj_cl_ty {c : Nat} (h : c < 8) : ∀ k, k < mj_clN c → parseFieldDescriptor (mj_clT c k).2.2.1 = some (mj_clY c k) := by
  match c, h with
  | 0, _ => exact tyX0_ok
  | 1, _ => exact tyX2_ok
  | 2, _ => exact tyX3_ok
  | 3, _ => exact tyX4_ok
  | 4, _ => exact tyX5_ok
  | 5, _ => exact tyX6_ok
  | 6, _ => exact tyX7_ok
  | 7, _ => exact tyX8_ok
theorem mj_cl_nm {c : Nat} (h : c < 8) : ∀ a, a < mj_clN c → ∀ b, b < mj_clN c → a ≠ b → (mj_clT c a).2.1 ≠ (mj_clT c b).2.1 := by
  match c, h with
  | 0, _ => exact nmX0
  | 1, _ => exact nmX2
  | 2, _ => exact nmX3
  | 3, _ => exact nmX4
  | 4, _ => exact nmX5
  | 5, _ => exact nmX6
  | 6, _ => exact nmX7
  | 7, _ => exact nmX8
theorem mj_cl_N {c : Nat} (h : c < 8) : mj_clN c < 100 := by
  match c, h with
  | 0, _ => decide
  | 1, _ => decide
  | 2, _ => decide
  | 3, _ => decide
  | 4, _ => decide
  | 5, _ => decide
  | 6, _ => decide
  | 7, _ => decide
/-- the shapes of the cells: an object (its class in vwCl; a field: none a number, some k the cell k); an array (0 ints, 1 longs, 2 the shelves) -/
def mj_shL : List ((Nat × List (Option Nat)) ⊕ (Nat × Nat)) := [
  .inl (6, [some 1, some 2, some 3, none, some 7, some 8, some 9, some 59, some 61, none]),
  .inl (1, [none, none, none, none, none, some 10, some 11, some 12, some 13, some 14, some 15, some 16, some 17, some 18, some 19, some 4]),
  .inl (1, [none, none, none, none, none, some 20, some 21, some 22, some 23, some 24, some 25, some 26, some 27, some 28, some 29, some 5]),
  .inl (1, [none, none, none, none, none, some 30, some 31, some 32, some 33, some 34, some 35, some 36, some 37, some 38, some 39, some 6]),
  .inl (0, [none, none, none, none]),
  .inl (0, [none, none, none, none]),
  .inl (0, [none, none, none, none]),
  .inr (2, 8),
  .inl (2, [some 56, some 57]),
  .inl (3, [none, some 58, none]),
  .inr (0, 8),
  .inr (0, 8),
  .inr (0, 8),
  .inr (0, 8),
  .inr (0, 8),
  .inr (0, 6),
  .inr (0, 6),
  .inr (0, 6),
  .inr (0, 6),
  .inr (0, 48),
  .inr (0, 8),
  .inr (0, 8),
  .inr (0, 8),
  .inr (0, 8),
  .inr (0, 8),
  .inr (0, 6),
  .inr (0, 6),
  .inr (0, 6),
  .inr (0, 6),
  .inr (0, 48),
  .inr (0, 8),
  .inr (0, 8),
  .inr (0, 8),
  .inr (0, 8),
  .inr (0, 8),
  .inr (0, 6),
  .inr (0, 6),
  .inr (0, 6),
  .inr (0, 6),
  .inr (0, 48),
  .inl (4, [none, none, none, some 48]),
  .inl (4, [none, none, none, some 49]),
  .inl (4, [none, none, none, some 50]),
  .inl (4, [none, none, none, some 51]),
  .inl (4, [none, none, none, some 52]),
  .inl (4, [none, none, none, some 53]),
  .inl (4, [none, none, none, some 54]),
  .inl (4, [none, none, none, some 55]),
  .inr (1, 160),
  .inr (1, 160),
  .inr (1, 160),
  .inr (1, 160),
  .inr (1, 160),
  .inr (1, 160),
  .inr (1, 160),
  .inr (1, 160),
  .inr (0, 6),
  .inr (0, 6),
  .inr (0, 5),
  .inl (5, [none, some 60, none, none, none]),
  .inr (0, 20),
  .inr (0, 8),
  .inl (7, [none, none, none, none, none, none, some 63, some 64, some 65, some 66, some 67, some 68, some 69, some 70, some 71, some 72, some 73, some 74, some 75, some 76, some 77, some 78, some 79, some 80, some 81, some 82, some 83, none, none, none, none, none, some 84, some 85, some 86, none, none, none, some 87, some 88, some 89, none, none]),
  .inr (0, 8),
  .inr (0, 8),
  .inr (0, 8),
  .inr (0, 8),
  .inr (0, 8),
  .inr (0, 8),
  .inr (0, 6),
  .inr (0, 6),
  .inr (0, 6),
  .inr (0, 6),
  .inr (0, 48),
  .inr (0, 8),
  .inr (0, 8),
  .inr (0, 8),
  .inr (0, 8),
  .inr (1, 1280),
  .inr (1, 160),
  .inr (0, 32),
  .inr (0, 5),
  .inr (0, 4),
  .inr (0, 5),
  .inr (0, 130),
  .inr (0, 130),
  .inr (0, 130),
  .inr (0, 6),
  .inr (0, 6),
  .inr (0, 20)]
def mj_sh (k : Nat) : Option ((Nat × List (Option Nat)) ⊕ (Nat × Nat)) := mj_shL[k]?
def mj_tx : List (List Int32) := [[103, 114, 111, 119, 110], [99, 104, 105, 108, 100], [103, 105, 102, 116], [97, 103, 101], [102, 108, 111, 111, 100]]
def mj_txs : List String := ["grown", "child", "gift", "age", "flood"]
def mj_sc : List (List Int32) := [[-1, 0, 0, 1, 0, 2, 3], [10, 11, 12, 20, 0, 0, 0, 30, 0, 0, 40, 0, 51, 0, 50, 0, 0, 60, 70, 71, 0], [4, 5, 3, 2, 1]]
set_option maxRecDepth 100000 in
theorem mj_clong : Cond.constantLong (mj_own 10) 18 4294967295 ∈ mj_tbl := mj_inT_mem (p := 1348) (by decide +kernel)
set_option maxRecDepth 100000 in
theorem mj_max_st : Cond.static Lib.Math.max.name ∈ mj_tbl := mj_inT_mem (p := 498) (by decide +kernel)
set_option maxRecDepth 100000 in
theorem mj_max_co : Cond.code Lib.Math.max.name Lib.Math.max.code 2 (some .int) ∈ mj_tbl := mj_inT_mem (p := 499) (by decide +kernel)
set_option maxRecDepth 100000 in
theorem mj_min_st : Cond.static Lib.Math.min.name ∈ mj_tbl := mj_inT_mem (p := 470) (by decide +kernel)
set_option maxRecDepth 100000 in
theorem mj_min_co : Cond.code Lib.Math.min.name Lib.Math.min.code 2 (some .int) ∈ mj_tbl := mj_inT_mem (p := 471) (by decide +kernel)
set_option maxRecDepth 100000 in
theorem mj_math_in : Cond.initialized "java/lang/Math" ∈ mj_tbl := mj_inT_mem (p := 84) (by decide +kernel)
set_option maxRecDepth 100000 in
theorem mj_ac_na : Cond.native arraycopyName ∈ mj_tbl := mj_inT_mem (p := 367) (by decide +kernel)
set_option maxRecDepth 100000 in
theorem mj_ac_st : Cond.static arraycopyName ∈ mj_tbl := mj_inT_mem (p := 366) (by decide +kernel)
set_option maxRecDepth 100000 in
theorem mj_ac_in : Cond.initialized "java/lang/System" ∈ mj_tbl := mj_inT_mem (p := 82) (by decide +kernel)
def mj_fb (ci j : Nat) : Bool := (ci == 6 && j == 3) || (ci == 7 && j == 42)
def mj_fok (ci j : Nat) : Bool := (mj_clT ci j).2.2.2 == false && (if mj_fb ci j then mj_clY ci j == .boolean else mj_clY ci j == .int)
set_option maxRecDepth 100000 in
theorem mj_sh_chk : mj_shL.all (fun x => match x with | .inl (c, fs) => decide (c < 8) && (fs.length == mj_clN c) && (List.range fs.length).all (fun j => fs[j]? != some none || mj_fok c j) && fs.all (fun f => match f with | some q => decide (q < 90) | none => true) | .inr _ => true) = true := by decide +kernel
set_option maxRecDepth 100000 in
theorem mj_shLlen : mj_shL.length = 90 := by decide +kernel
theorem mj_sh_lt {k : Nat} {x} (h : mj_sh k = some x) : k < 90 := by
  have := (List.getElem?_eq_some_iff.mp h).1
  rwa [mj_shLlen] at this
