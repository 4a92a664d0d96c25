/-! THE TABLES: methods, links, shapes (laid by wip/whole/gen.py) -/
def mj_tbl : List Cond := lw_tbl.filter goodWord
def mj_inT (p : Nat) (w : Cond) : Bool := decide (lw_tbl[p]? = some w) && goodWord w
theorem mj_inT_mem {p : Nat} {w : Cond} (h : mj_inT p w = true) : w ∈ mj_tbl := by
  simp only [mj_inT, Bool.and_eq_true, decide_eq_true_eq] at h
  exact List.mem_filter.mpr ⟨List.mem_of_getElem? h.1, h.2⟩
theorem mj_tbl_good : ∀ w ∈ mj_tbl, (w.onTables && w.keeps) = true ∨ ∃ ty, w = .arrayClass ty := fun w h => good_of_word (List.mem_filter.mp h).2
theorem mj_tbl_lw : ∀ w ∈ mj_tbl, w ∈ lw_tbl := fun w h => (List.mem_filter.mp h).1
def mj_ownL : List String := [RX0, RX1, RX2, RX3, RX4, RX5, RX6, RX7, RX8, RJ6, RL, RJ0, RJ1, RJ3]
def mj_own (c : Nat) : String := mj_ownL.getD c ""
/-- a method: name, code, locals, answer, class, parameters, kind (0 to 7: its receiver's class; 20: a String; 30: static), height -/
abbrev mj_M : Type := MethodName × ByteArray × Nat × Option FieldType × Nat × Nat × Nat × Nat
theorem mj_inT1 {l : List Cond} (hs : ∀ w ∈ l, w ∈ tables_1) (i : Nat) {w : Cond} (h : l[i]? = some w) (g : goodWord w = true) : w ∈ mj_tbl :=
  List.mem_filter.mpr ⟨List.mem_append_right _ (hs w (List.mem_of_getElem? h)), g⟩
theorem mj_t1 : ∀ w ∈ tables_1_1, w ∈ tables_1 := fun w h => List.mem_append_left _ h
theorem mj_t2 : ∀ w ∈ tables_1_2, w ∈ tables_1 := fun w h => List.mem_append_right _ (List.mem_append_left _ h)
theorem mj_t3 : ∀ w ∈ tables_1_3, w ∈ tables_1 := fun w h => List.mem_append_right _ (List.mem_append_right _ (List.mem_append_left _ h))
theorem mj_t4 : ∀ w ∈ tables_1_4, w ∈ tables_1 := fun w h => List.mem_append_right _ (List.mem_append_right _ (List.mem_append_right _ (List.mem_append_left _ h)))
theorem mj_t5 : ∀ w ∈ tables_1_5, w ∈ tables_1 := fun w h => List.mem_append_right _ (List.mem_append_right _ (List.mem_append_right _ (List.mem_append_right _ (List.mem_append_left _ h))))
theorem mj_t6 : ∀ w ∈ tables_1_6, w ∈ tables_1 := fun w h => List.mem_append_right _ (List.mem_append_right _ (List.mem_append_right _ (List.mem_append_right _ (List.mem_append_right _ h))))
def mj_cW (e : mj_M) : Cond := .code e.1 e.2.1 e.2.2.1 e.2.2.2.1
def mj_mL_0 : List mj_M := [
  (yX0_weigh, cX0_weigh, 9, none, 0, 2, 0, 3),
  (yX0_settle, cX0_settle, 1, none, 0, 0, 0, 1),
  (yX0_whom, cX0_whom, 2, (some .int), 0, 1, 0, 1),
  (yX1_isKind, cX1_isKind, 1, (some .boolean), 1, 1, 30, 2),
  (yX1_above, cX1_above, 1, (some .int), 1, 1, 30, 3),
  (yX1_isUnder, cX1_isUnder, 4, (some .boolean), 1, 2, 30, 4),
  (yX2_copyFrom, cX2_copyFrom, 2, none, 2, 1, 1, 1),
  (yX2_hasGrown, cX2_hasGrown, 2, (some .boolean), 2, 1, 1, 1),
  (yX2_hasChild, cX2_hasChild, 2, (some .boolean), 2, 1, 1, 1),
  (yX2_hasRoomForGrown, cX2_hasRoomForGrown, 1, (some .boolean), 2, 0, 1, 1),
  (yX2_hasRoomForChild, cX2_hasRoomForChild, 1, (some .boolean), 2, 0, 1, 1),
  (yX2_addGrown, cX2_addGrown, 6, (some .int), 2, 4, 1, 1),
  (yX2_addChild, cX2_addChild, 5, (some .int), 2, 3, 1, 1),
  (yX2_isDead, cX2_isDead, 2, (some .boolean), 2, 1, 1, 1),
  (yX2_isGodparent, cX2_isGodparent, 3, (some .boolean), 2, 2, 1, 1),
  (yX2_shoesOf, cX2_shoesOf, 2, (some .int), 2, 1, 1, 1)]
def mj_mP_0 : List (List Nat) := [[652, 75, 650, 651], [658, 75, 657, 15], [662, 75, 660, 661], [393, 82, 392, 0], [400, 82, 399, 0], [397, 82, 396, 0], [506, 74, 504, 505], [378, 74, 376, 377], [447, 74, 445, 446], [419, 74, 417, 418], [431, 74, 429, 430], [423, 74, 421, 422], [435, 74, 433, 434], [455, 74, 453, 454], [411, 74, 409, 410], [479, 74, 477, 478]]
def mj_mL_1 : List mj_M := [
  (yX2_mostGiftsOf, cX2_mostGiftsOf, 2, (some .int), 2, 1, 1, 1),
  (yX2_chargeOf, cX2_chargeOf, 4, (some .int), 2, 1, 1, 2),
  (yX2_likingOf, cX2_likingOf, 3, (some .int), 2, 2, 1, 1),
  (yX2_raiseLiking, cX2_raiseLiking, 4, none, 2, 3, 1, 2),
  (yX2_give, cX2_give, 4, none, 2, 3, 1, 3),
  (yX2_pullOf, cX2_pullOf, 3, (some .int), 2, 2, 1, 2),
  (yX2_pullWith, cX2_pullWith, 5, (some .int), 2, 3, 1, 2),
  (yX2_pullAt, cX2_pullAt, 8, (some .int), 2, 3, 1, 1),
  (yX2_isAhead, cX2_isAhead, 7, (some .boolean), 2, 4, 1, 3),
  (yX2_choiceOf, cX2_choiceOf, 2, (some (.object "ChosenBackAtNine$Choice")), 2, 1, 1, 4),
  (yX2_chargeThenOf, cX2_chargeThenOf, 4, (some .int), 2, 1, 1, 5),
  (yX2_childrenBy, cX2_childrenBy, 5, (some .int), 2, 2, 1, 5),
  (yX2_mostTaken, cX2_mostTaken, 5, (some .int), 2, 0, 1, 6),
  (yX2_howManyBare, cX2_howManyBare, 3, (some .int), 2, 0, 1, 6),
  (yX2_wouldTrade, cX2_wouldTrade, 5, (some .boolean), 2, 2, 1, 5),
  (yX2_letChoose, cX2_letChoose, 2, (some .int), 2, 1, 1, 4)]
def mj_mP_1 : List (List Nat) := [[740, 74, 738, 739], [407, 74, 405, 406], [467, 74, 465, 466], [463, 74, 462, 2], [459, 74, 457, 458], [491, 74, 489, 490], [748, 74, 747, 20], [495, 74, 494, 3], [744, 74, 742, 743], [648, 74, 646, 647], [670, 74, 668, 669], [675, 74, 673, 674], [684, 74, 682, 683], [695, 74, 693, 694], [765, 74, 763, 764], [783, 74, 781, 782]]
def mj_mL_2 : List mj_M := [
  (yX2_passYear, cX2_passYear, 2, none, 2, 0, 1, 5),
  (yX2_takeYearlyGifts, cX2_takeYearlyGifts, 3, none, 2, 1, 1, 3),
  (yX2_giveByDraws, cX2_giveByDraws, 4, none, 2, 0, 1, 4),
  (yX2_draw, cX2_draw, 2, (some .int), 2, 1, 1, 1),
  (yX2_allDropped, cX2_allDropped, 3, (some .int), 2, 0, 1, 1),
  (yX2_allLiking, cX2_allLiking, 3, (some .int), 2, 0, 1, 1),
  (yX3_part, cX3_part, 5, none, 3, 1, 2, 5),
  (yX3_asks, cX3_asks, 5, (some .boolean), 3, 2, 2, 4),
  (yX3_mostPullingLeft, cX3_mostPullingLeft, 7, (some .int), 3, 2, 2, 3),
  (yX3_heldBy, cX3_heldBy, 5, (some .int), 3, 2, 2, 1),
  (yX3_leastLikedOf, cX3_leastLikedOf, 6, (some .int), 3, 3, 2, 3),
  (yX3_isLiked, cX3_isLiked, 6, (some .boolean), 3, 4, 30, 2),
  (yX4_readOnto, cX4_readOnto, 5, (some .int), 4, 2, 3, 8),
  (yX4_readItem, cX4_readItem, 6, (some .boolean), 4, 2, 3, 7),
  (yX4_failAt, cX4_failAt, 2, (some .boolean), 4, 1, 3, 1),
  (yX4_readSign, cX4_readSign, 3, (some .boolean), 4, 2, 3, 3)]
def mj_mP_2 : List (List Nat) := [[774, 74, 772, 773], [778, 74, 777, 22], [809, 74, 807, 808], [813, 74, 812, 23], [819, 74, 817, 818], [872, 74, 870, 871], [705, 76, 703, 704], [709, 76, 708, 16], [713, 76, 712, 17], [718, 76, 717, 18], [723, 76, 722, 19], [726, 76, 725, 0], [511, 77, 509, 510], [515, 77, 514, 4], [590, 77, 589, 7], [605, 77, 604, 9]]
def mj_mL_3 : List mj_M := [
  (yX4_readWord, cX4_readWord, 6, (some .int), 4, 1, 3, 6),
  (yX4_howManyAlike, cX4_howManyAlike, 4, (some .int), 4, 2, 3, 5),
  (yX4_lettersOf, cX4_lettersOf, 1, (some (.object "java/lang/String")), 4, 1, 30, 1),
  (yX4_hasRoom, cX4_hasRoom, 2, (some .boolean), 4, 2, 30, 2),
  (yX4_readNumber, cX4_readNumber, 7, (some .boolean), 4, 4, 3, 4),
  (yX4_hasDigit, cX4_hasDigit, 2, (some .boolean), 4, 1, 3, 3),
  (yX4_readDigit, cX4_readDigit, 3, (some .int), 4, 1, 3, 3),
  (yX4_mostOf, cX4_mostOf, 3, (some .int), 4, 3, 30, 2),
  (yX4_mostOfGrown, cX4_mostOfGrown, 1, (some .int), 4, 1, 30, 1),
  (yX4_isBarred, cX4_isBarred, 5, (some .boolean), 4, 4, 3, 2),
  (yX4_tell, cX4_tell, 3, none, 4, 2, 3, 4),
  (yX5_putRow, cX5_putRow, 4, none, 5, 2, 4, 1),
  (yX5_putGrown, cX5_putGrown, 2, none, 5, 1, 4, 1),
  (yX5_hasRow, cX5_hasRow, 1, (some .boolean), 5, 0, 4, 1),
  (yX5_hasGrown, cX5_hasGrown, 1, (some .boolean), 5, 0, 4, 1),
  (yX5_hasElement, cX5_hasElement, 2, (some .boolean), 5, 1, 4, 1)]
def mj_mP_3 : List (List Nat) := [[519, 77, 518, 5], [531, 77, 530, 6], [522, 77, 521, 0], [593, 77, 592, 0], [601, 77, 600, 8], [609, 77, 608, 10], [613, 77, 612, 11], [616, 77, 615, 0], [619, 77, 618, 0], [623, 77, 622, 12], [628, 77, 627, 13], [332, 79, 330, 331], [382, 79, 380, 381], [347, 79, 345, 346], [343, 79, 341, 342], [351, 79, 349, 350]]
def mj_mL_4 : List mj_M := [
  (yX5_hasSpan, cX5_hasSpan, 3, (some .boolean), 5, 2, 4, 1),
  (yX5_putElement, cX5_putElement, 4, none, 5, 2, 4, 1),
  (yX5_numberAt, cX5_numberAt, 2, (some .int), 5, 1, 4, 2),
  (yX6_clear, cX6_clear, 1, none, 6, 0, 5, 1),
  (yX6_bodyAt, cX6_bodyAt, 2, (some .int), 6, 1, 5, 1),
  (yX6_perform, cX6_perform, 5, (some .int), 6, 4, 5, 21),
  (yX6_run, cX6_run, 9, (some .int), 6, 5, 30, 20),
  (yX6_ownerOf, cX6_ownerOf, 4, (some .int), 6, 2, 30, 4),
  (yX6_begin, cX6_begin, 2, none, 6, 1, 5, 1),
  (yX7_row, cX7_row, 5, (some .int), 7, 3, 6, 2),
  (yX7_set, cX7_set, 7, (some .int), 7, 3, 6, 3),
  (yX7_copy, cX7_copy, 8, (some .int), 7, 5, 6, 2),
  (yX7_element, cX7_element, 4, (some .long), 7, 2, 6, 2),
  (yX7_show, cX7_show, 4, (some .int), 7, 2, 6, 2),
  (yX7_holds, cX7_holds, 3, (some .int), 7, 1, 6, 2),
  (yX7_says, cX7_says, 5, (some .int), 7, 2, 6, 5)]
def mj_mP_4 : List (List Nat) := [[363, 79, 361, 362], [355, 79, 353, 354], [546, 79, 544, 545], [831, 78, 829, 830], [856, 78, 854, 855], [835, 78, 833, 834], [838, 78, 837, 0], [841, 78, 840, 0], [848, 78, 847, 24], [317, 73, 315, 316], [336, 73, 334, 335], [359, 73, 357, 358], [370, 73, 368, 369], [374, 73, 372, 373], [386, 73, 384, 385], [390, 73, 388, 389]]
def mj_mL_5 : List mj_M := [
  (yX7_grown, cX7_grown, 5, (some .int), 7, 4, 6, 3),
  (yX7_child, cX7_child, 6, (some .int), 7, 5, 6, 2),
  (yX7_flood, cX7_flood, 3, (some .int), 7, 1, 6, 2),
  (yX7_age, cX7_age, 4, (some .int), 7, 2, 6, 2),
  (yX7_gift, cX7_gift, 4, (some .int), 7, 3, 6, 4),
  (yX7_grownOf, cX7_grownOf, 3, (some .int), 7, 2, 6, 3),
  (yX7_childOf, cX7_childOf, 3, (some .int), 7, 2, 6, 2),
  (yX7_pull, cX7_pull, 4, (some .int), 7, 3, 6, 3),
  (yX7_parish, cX7_parish, 5, (some .int), 7, 1, 6, 9),
  (yX7_fault, cX7_fault, 1, (some .int), 7, 0, 6, 1),
  (yX7_chooses, cX7_chooses, 3, (some .int), 7, 2, 6, 5),
  (yX7_by, cX7_by, 3, (some .int), 7, 2, 6, 6),
  (yX7_favourite, cX7_favourite, 2, (some .int), 7, 1, 6, 7),
  (yX7_picks, cX7_picks, 2, (some .int), 7, 1, 6, 6),
  (yX7_woo, cX7_woo, 8, (some .int), 7, 3, 6, 5),
  (yX7_two, cX7_two, 8, (some .int), 7, 4, 6, 5)]
def mj_mP_5 : List (List Nat) := [[415, 73, 413, 414], [427, 73, 425, 426], [439, 73, 437, 438], [443, 73, 441, 442], [451, 73, 449, 450], [475, 73, 473, 474], [483, 73, 481, 482], [487, 73, 485, 486], [502, 73, 500, 501], [636, 73, 634, 635], [640, 73, 638, 639], [666, 73, 664, 665], [680, 73, 678, 679], [701, 73, 699, 700], [731, 73, 729, 730], [736, 73, 734, 735]]
def mj_mL_6 : List mj_M := [
  (yX7_priceOf, cX7_priceOf, 6, (some .int), 7, 3, 6, 4),
  (yX7_tastes, cX7_tastes, 8, (some .int), 7, 4, 6, 5),
  (yX7_trades, cX7_trades, 6, (some .int), 7, 1, 6, 6),
  (yX7_ahead, cX7_ahead, 5, (some .int), 7, 3, 6, 6),
  (yX7_judge, cX7_judge, 7, (some .int), 7, 2, 6, 5),
  (yX7_ninth, cX7_ninth, 3, (some .int), 7, 1, 6, 3),
  (yX7_choose, cX7_choose, 3, (some .int), 7, 1, 6, 5),
  (yX7_years, cX7_years, 3, (some .int), 7, 1, 6, 6),
  (yX7_drawn, cX7_drawn, 3, (some .int), 7, 1, 6, 6),
  (yX7_seed, cX7_seed, 3, (some .int), 7, 1, 6, 1),
  (yX7_act, cX7_act, 4, (some .int), 7, 3, 6, 22),
  (yX7_trace, cX7_trace, 2, (some .int), 7, 1, 6, 2),
  (yX7_image, cX7_image, 1, (some .int), 7, 0, 6, 2),
  (yX7_restore, cX7_restore, 3, (some .int), 7, 0, 6, 2),
  (yX7_status, cX7_status, 2, (some .int), 7, 1, 6, 2),
  (yX7_refusalsOf, cX7_refusalsOf, 2, (some .int), 7, 1, 6, 1)]
def mj_mP_6 : List (List Nat) := [[753, 73, 752, 21], [757, 73, 755, 756], [761, 73, 759, 760], [770, 73, 768, 769], [787, 73, 785, 786], [792, 73, 790, 791], [796, 73, 794, 795], [801, 73, 799, 800], [805, 73, 803, 804], [823, 73, 821, 822], [827, 73, 825, 826], [852, 73, 850, 851], [860, 73, 858, 859], [864, 73, 862, 863], [868, 73, 866, 867], [876, 73, 875, 25]]
def mj_mL_7 : List mj_M := [
  (yX7_refuse, cX7_refuse, 2, (some .int), 7, 1, 6, 1),
  (yX7_refuseTelling, cX7_refuseTelling, 2, (some .int), 7, 1, 6, 2),
  (yX7_shelfAt, cX7_shelfAt, 2, (some (.object "ChosenBackAtNine$Shelf")), 7, 1, 6, 1),
  (yX7_rowRefusal, cX7_rowRefusal, 1, (some .int), 7, 1, 30, 2),
  (yX7_isWithin, cX7_isWithin, 2, (some .boolean), 7, 2, 30, 1),
  (yX8_no, cX8_no, 2, (some .int), 8, 1, 7, 1),
  (yX8_noTen, cX8_noTen, 2, (some .int), 8, 1, 7, 1),
  (yX8_isShelf, cX8_isShelf, 2, (some .boolean), 8, 1, 7, 1),
  (yX8_isGrown, cX8_isGrown, 2, (some .boolean), 8, 1, 7, 1),
  (yX8_isChild, cX8_isChild, 2, (some .boolean), 8, 1, 7, 1),
  (yX8_isFrom, cX8_isFrom, 4, (some .boolean), 8, 3, 7, 1),
  (yX8_row, cX8_row, 5, (some .int), 8, 3, 7, 2),
  (yX8_set, cX8_set, 5, (some .int), 8, 3, 7, 2),
  (yX8_copy, cX8_copy, 7, (some .int), 8, 5, 7, 2),
  (yX8_element, cX8_element, 3, (some .long), 8, 2, 7, 2),
  (yX8_show, cX8_show, 3, (some .int), 8, 2, 7, 2)]
def mj_mP_7 : List (List Nat) := [[325, 73, 324, 1], [644, 73, 643, 14], [321, 73, 320, 0], [339, 73, 338, 0], [328, 73, 327, 0], [1024, 80, 1023, 27], [1176, 80, 1175, 48], [1020, 80, 1019, 26], [1044, 80, 1043, 28], [1088, 80, 1087, 33], [1064, 80, 1063, 30], [1016, 80, 1014, 1015], [1028, 80, 1026, 1027], [1032, 80, 1030, 1031], [1036, 80, 1034, 1035], [1040, 80, 1038, 1039]]
def mj_mL_8 : List mj_M := [
  (yX8_holds, cX8_holds, 2, (some .int), 8, 1, 7, 2),
  (yX8_says, cX8_says, 6, (some .int), 8, 2, 7, 2),
  (yX8_wanted, cX8_wanted, 2, (some .int), 8, 1, 7, 2),
  (yX8_intAt, cX8_intAt, 3, (some .int), 8, 2, 7, 1),
  (yX8_addsGrown, cX8_addsGrown, 6, (some .int), 8, 4, 7, 1),
  (yX8_addsChild, cX8_addsChild, 7, (some .int), 8, 5, 7, 1),
  (yX8_grown, cX8_grown, 5, (some .int), 8, 4, 7, 2),
  (yX8_child, cX8_child, 6, (some .int), 8, 5, 7, 2),
  (yX8_flood, cX8_flood, 3, (some .int), 8, 1, 7, 2),
  (yX8_age, cX8_age, 4, (some .int), 8, 2, 7, 2),
  (yX8_more, cX8_more, 5, (some .int), 8, 3, 7, 1),
  (yX8_gives, cX8_gives, 4, (some .int), 8, 3, 7, 2),
  (yX8_gift, cX8_gift, 4, (some .int), 8, 3, 7, 3),
  (yX8_charge, cX8_charge, 4, (some .int), 8, 1, 7, 1),
  (yX8_grownOf, cX8_grownOf, 3, (some .int), 8, 2, 7, 2),
  (yX8_childOf, cX8_childOf, 3, (some .int), 8, 2, 7, 2)]
def mj_mP_8 : List (List Nat) := [[1048, 80, 1046, 1047], [1052, 80, 1050, 1051], [1116, 80, 1115, 36], [1276, 80, 1275, 64], [1068, 80, 1067, 31], [1076, 80, 1075, 32], [1060, 80, 1058, 1059], [1072, 80, 1070, 1071], [1080, 80, 1078, 1079], [1084, 80, 1082, 1083], [1100, 80, 1099, 35], [1096, 80, 1095, 34], [1092, 80, 1090, 1091], [1056, 80, 1055, 29], [1104, 80, 1102, 1103], [1108, 80, 1106, 1107]]
def mj_mL_9 : List mj_M := [
  (yX8_wrong, cX8_wrong, 2, (some .boolean), 8, 1, 7, 1),
  (yX8_stands, cX8_stands, 4, (some .boolean), 8, 1, 7, 1),
  (yX8_word, cX8_word, 6, (some .int), 8, 0, 7, 1),
  (yX8_isDigit, cX8_isDigit, 1, (some .boolean), 8, 0, 7, 1),
  (yX8_reads, cX8_reads, 2, (some .boolean), 8, 0, 7, 2),
  (yX8_isSo, cX8_isSo, 3, (some .boolean), 8, 2, 7, 1),
  (yX8_item, cX8_item, 4, (some .boolean), 8, 0, 7, 3),
  (yX8_carries, cX8_carries, 7, (some .int), 8, 5, 7, 1),
  (yX8_all, cX8_all, 4, none, 8, 2, 7, 2),
  (yX8_parish, cX8_parish, 5, (some .int), 8, 1, 7, 4),
  (yX8_fault, cX8_fault, 1, (some .int), 8, 0, 7, 1),
  (yX8_pullBy, cX8_pullBy, 8, (some .int), 8, 3, 7, 1),
  (yX8_pulls, cX8_pulls, 3, (some .int), 8, 2, 7, 2),
  (yX8_settles, cX8_settles, 7, none, 8, 1, 7, 3),
  (yX8_pull, cX8_pull, 4, (some .int), 8, 3, 7, 3),
  (yX8_chosen, cX8_chosen, 2, (some .int), 8, 1, 7, 1)]
def mj_mP_9 : List (List Nat) := [[1136, 80, 1135, 41], [1132, 80, 1131, 40], [1140, 80, 1139, 42], [1148, 80, 1147, 44], [1144, 80, 1143, 43], [1152, 80, 1151, 45], [1128, 80, 1127, 39], [1124, 80, 1123, 38], [1120, 80, 1119, 37], [1112, 80, 1110, 1111], [1156, 80, 1154, 1155], [1168, 80, 1167, 47], [1164, 80, 1163, 46], [1180, 80, 1179, 49], [1160, 80, 1158, 1159], [1184, 80, 1183, 50]]
def mj_mL_10 : List mj_M := [
  (yX8_chooses, cX8_chooses, 3, (some .int), 8, 2, 7, 4),
  (yX8_setBy, cX8_setBy, 5, (some .int), 8, 2, 7, 4),
  (yX8_many, cX8_many, 4, (some .int), 8, 1, 7, 1),
  (yX8_chargeThen, cX8_chargeThen, 2, (some .int), 8, 1, 7, 5),
  (yX8_by, cX8_by, 3, (some .int), 8, 2, 7, 6),
  (yX8_favourite, cX8_favourite, 7, (some .int), 8, 1, 7, 6),
  (yX8_asks, cX8_asks, 4, (some .int), 8, 1, 7, 3),
  (yX8_leastOf, cX8_leastOf, 4, (some .int), 8, 1, 7, 1),
  (yX8_hasMany, cX8_hasMany, 4, (some .int), 8, 1, 7, 1),
  (yX8_parts, cX8_parts, 5, none, 8, 0, 7, 4),
  (yX8_picks, cX8_picks, 2, (some .int), 8, 1, 7, 5),
  (yX8_serves, cX8_serves, 6, (some .boolean), 8, 4, 7, 4),
  (yX8_woo, cX8_woo, 5, (some .int), 8, 3, 7, 5),
  (yX8_pullWith, cX8_pullWith, 4, (some .int), 8, 3, 7, 2),
  (yX8_isAhead, cX8_isAhead, 7, (some .boolean), 8, 4, 7, 3),
  (yX8_two, cX8_two, 8, (some .int), 8, 4, 7, 4)]
def mj_mP_10 : List (List Nat) := [[1172, 80, 1170, 1171], [1196, 80, 1195, 52], [1200, 80, 1199, 53], [1192, 80, 1191, 51], [1188, 80, 1186, 1187], [1204, 80, 1202, 1203], [1216, 80, 1215, 55], [1224, 80, 1223, 57], [1220, 80, 1219, 56], [1212, 80, 1211, 54], [1208, 80, 1206, 1207], [1232, 80, 1231, 58], [1228, 80, 1226, 1227], [1244, 80, 1243, 60], [1240, 80, 1239, 59], [1236, 80, 1234, 1235]]
def mj_mL_11 : List mj_M := [
  (yX8_tastes, cX8_tastes, 8, (some .int), 8, 4, 7, 4),
  (yX8_areTraders, cX8_areTraders, 5, (some .boolean), 8, 2, 7, 4),
  (yX8_trades, cX8_trades, 6, (some .int), 8, 1, 7, 5),
  (yX8_choosesInTruth, cX8_choosesInTruth, 2, (some .int), 8, 1, 7, 4),
  (yX8_passes, cX8_passes, 3, none, 8, 0, 7, 5),
  (yX8_ahead, cX8_ahead, 5, (some .int), 8, 3, 7, 6),
  (yX8_judge, cX8_judge, 5, (some .int), 8, 2, 7, 4),
  (yX8_ninth, cX8_ninth, 2, (some .int), 8, 1, 7, 2),
  (yX8_choose, cX8_choose, 3, (some .int), 8, 1, 7, 5),
  (yX8_years, cX8_years, 3, (some .int), 8, 1, 7, 6),
  (yX8_draw, cX8_draw, 2, (some .int), 8, 1, 7, 1),
  (yX8_together, cX8_together, 5, (some .int), 8, 2, 7, 1),
  (yX8_drawn, cX8_drawn, 6, (some .int), 8, 1, 7, 6),
  (yX8_seed, cX8_seed, 3, (some .int), 8, 1, 7, 1),
  (yX8_body, cX8_body, 2, none, 8, 1, 7, 1),
  (yX8_playing, cX8_playing, 6, (some .int), 8, 2, 7, 2)]
def mj_mP_11 : List (List Nat) := [[1248, 80, 1246, 1247], [1256, 80, 1255, 61], [1252, 80, 1250, 1251], [1268, 80, 1267, 63], [1264, 80, 1263, 62], [1260, 80, 1258, 1259], [1272, 80, 1270, 1271], [1280, 80, 1278, 1279], [1284, 80, 1282, 1283], [1288, 80, 1286, 1287], [1296, 80, 1295, 65], [1301, 80, 1300, 66], [1292, 80, 1290, 1291], [1305, 80, 1303, 1304], [1317, 80, 1316, 68], [1313, 80, 1312, 67]]
def mj_mL_12 : List mj_M := [
  (yX8_giving, cX8_giving, 7, (some .int), 8, 2, 7, 3),
  (yX8_bowing, cX8_bowing, 5, (some .int), 8, 2, 7, 4),
  (yX8_act, cX8_act, 4, (some .int), 8, 3, 7, 5),
  (yX8_trace, cX8_trace, 2, (some .int), 8, 1, 7, 1),
  (yX8_image, cX8_image, 1, (some .int), 8, 0, 7, 3),
  (yX8_restore, cX8_restore, 2, (some .int), 8, 0, 7, 3),
  (yX8_allLiking, cX8_allLiking, 4, (some .int), 8, 0, 7, 1),
  (yX8_status, cX8_status, 2, (some .int), 8, 1, 7, 2),
  (yJ6_bitCount_0f7a4, cJ6_bitCount_0f7a4, 1, (some .int), 9, 1, 30, 1),
  (yJ0_length_8abf5, cJ0_length_8abf5, 1, (some .int), 11, 0, 20, 2),
  (yJ0_charAt_5068e, cJ0_charAt_5068e, 2, (some .char), 11, 1, 20, 4),
  (yJ0_coder_7d493, cJ0_coder_7d493, 1, (some .byte), 11, 0, 20, 1),
  (yJ0_isLatin1_aae02, cJ0_isLatin1_aae02, 1, (some .boolean), 11, 0, 20, 1),
  (yJ0_checkIndex_df160, cJ0_checkIndex_df160, 2, none, 11, 2, 30, 2),
  (yJ1_charAt_3b067, cJ1_charAt_3b067, 2, (some .char), 12, 2, 30, 3),
  (yJ3_checkIndex_8e157, cJ3_checkIndex_8e157, 3, (some .int), 13, 3, 30, 1)]
def mj_mP_12 : List (List Nat) := [[1321, 80, 1320, 69], [1325, 80, 1324, 70], [1309, 80, 1307, 1308], [1329, 80, 1327, 1328], [1333, 80, 1331, 1332], [1337, 80, 1335, 1336], [1345, 80, 1344, 71], [1341, 80, 1339, 1340], [688, 88, 687, 0], [535, 84, 533, 534], [551, 84, 549, 550], [539, 84, 537, 538], [555, 84, 553, 554], [561, 84, 560, 0], [558, 85, 557, 0], [566, 86, 565, 0]]
def mj_lE : mj_M := (yL_law, cL_law, 4, (some .boolean), 10, 1, 30, 23)
def mj_mA : List mj_M := mj_mL_0 ++ (mj_mL_1 ++ (mj_mL_2 ++ (mj_mL_3 ++ (mj_mL_4 ++ (mj_mL_5 ++ (mj_mL_6 ++ (mj_mL_7 ++ (mj_mL_8 ++ (mj_mL_9 ++ (mj_mL_10 ++ (mj_mL_11 ++ (mj_mL_12))))))))))))
def mj_mL : List mj_M := mj_mA ++ [mj_lE]
def mj_law : Nat := 208
def mj_RUN : Nat := 70
/-- the methods with a long among their parameters -/
def mj_lg (m : Nat) : Bool := m == 65 || m == 74 || m == 124
/-- Stage.run has a number for each level of its recursion: 70 + 1000 (d + 1) -/
def mj_base (m : Nat) : Nat := if 1000 ≤ m then mj_RUN else m
def mj_e (m : Nat) : Option mj_M := mj_mL[mj_base m]?
def mj_h (m : Nat) : Nat := if 1000 ≤ m then 1020 - m else match mj_mL[m]? with | some e => e.2.2.2.2.2.2.2 | none => 0
abbrev mj_ftR : Type := Nat × Nat × Nat × Nat
def mj_ftL : List (Nat × Nat × Nat × Nat) := [(0, 9, 0, 0), (7, 240, 0, 0), (2, 138, 0, 0), (0, 15, 0, 1), (7, 243, 0, 1), (2, 132, 0, 1), (0, 18, 0, 2), (7, 246, 0, 2), (2, 141, 0, 2), (0, 21, 0, 3), (2, 112, 0, 3), (2, 9, 1, 0), (0, 30, 1, 0), (3, 46, 1, 0), (4, 126, 1, 0), (7, 277, 1, 0), (2, 15, 1, 1), (3, 20, 1, 1), (4, 129, 1, 1), (7, 259, 1, 1), (2, 18, 1, 2), (7, 159, 1, 2), (4, 152, 1, 2), (2, 21, 1, 3), (7, 274, 1, 3), (2, 24, 1, 4), (7, 286, 1, 4), (2, 27, 1, 5), (6, 28, 1, 5), (7, 127, 1, 5), (2, 31, 1, 6), (6, 33, 1, 6), (7, 142, 1, 6), (2, 34, 1, 7), (7, 133, 1, 7), (2, 37, 1, 8), (7, 179, 1, 8), (2, 40, 1, 9), (7, 139, 1, 9), (2, 43, 1, 10), (7, 185, 1, 10), (2, 46, 1, 11), (7, 188, 1, 11), (2, 49, 1, 12), (7, 165, 1, 12), (4, 149, 1, 12), (2, 52, 1, 13), (0, 24, 1, 13), (3, 43, 1, 13), (7, 191, 1, 13), (2, 55, 1, 14), (2, 61, 1, 15), (3, 11, 2, 0), (7, 234, 2, 0), (3, 17, 2, 1), (4, 9, 3, 0), (7, 205, 3, 0), (4, 15, 3, 1), (4, 19, 3, 2), (6, 9, 5, 0), (7, 302, 5, 0), (6, 15, 5, 1), (6, 19, 5, 2), (6, 22, 5, 3), (6, 25, 5, 4), (5, 9, 4, 0), (7, 97, 4, 0), (5, 15, 4, 1), (7, 119, 4, 1), (5, 18, 4, 2), (4, 28, 4, 2), (5, 21, 4, 3), (7, 103, 4, 3), (7, 10, 6, 0), (7, 16, 6, 1), (7, 19, 6, 2), (7, 22, 6, 3), (7, 28, 6, 4), (7, 35, 6, 5), (7, 42, 6, 6), (7, 49, 6, 7), (7, 53, 6, 8), (7, 57, 6, 9), (8, 99, 7, 0), (8, 102, 7, 1), (8, 131, 7, 2), (8, 184, 7, 3), (8, 7, 7, 4), (8, 13, 7, 5), (8, 16, 7, 6), (8, 20, 7, 7), (8, 23, 7, 8), (8, 26, 7, 9), (8, 29, 7, 10), (8, 32, 7, 11), (8, 35, 7, 12), (8, 38, 7, 13), (8, 41, 7, 14), (8, 44, 7, 15), (8, 47, 7, 16), (8, 50, 7, 17), (8, 53, 7, 18), (8, 56, 7, 19), (8, 59, 7, 20), (8, 62, 7, 21), (8, 66, 7, 22), (8, 69, 7, 23), (8, 72, 7, 24), (8, 75, 7, 25), (8, 78, 7, 26), (8, 153, 7, 27), (8, 147, 7, 28), (8, 150, 7, 29), (8, 156, 7, 30), (8, 144, 7, 31), (8, 81, 7, 32), (8, 84, 7, 33), (8, 87, 7, 34), (8, 200, 7, 35), (8, 203, 7, 36), (8, 206, 7, 37), (8, 90, 7, 38), (8, 93, 7, 39), (8, 96, 7, 40), (8, 275, 7, 41), (8, 290, 7, 42)]
def mj_ftP : List Nat := [109, 110, 111, 112, 113, 114, 115, 116, 117, 118, 119, 130, 131, 132, 133, 134, 135, 136, 137, 138, 139, 140, 141, 142, 143, 144, 145, 146, 147, 148, 149, 150, 151, 152, 153, 154, 155, 156, 157, 158, 159, 160, 161, 162, 163, 164, 165, 166, 167, 168, 169, 170, 212, 213, 214, 226, 227, 228, 229, 243, 244, 245, 246, 247, 248, 265, 266, 267, 268, 269, 270, 271, 272, 283, 284, 285, 286, 287, 288, 289, 290, 291, 292, 883, 884, 885, 886, 887, 888, 889, 890, 891, 892, 893, 894, 895, 896, 897, 898, 899, 900, 901, 902, 903, 904, 905, 906, 907, 908, 909, 910, 911, 912, 913, 914, 915, 916, 917, 918, 919, 920, 921, 922, 923, 924, 925]
def mj_fsL : List (Nat × Nat × Nat) := [(11, 9, 0), (11, 15, 1)]
def mj_fsP : List Nat := [1347, 1348]
def mj_gsL : List (Nat × Nat × Nat) := [(1, 19, 90), (11, 38, 1), (11, 1053, 2), (4, 47, 92), (6, 44, 91)]
def mj_gsP : List Nat := [402, 540, 562, 596, 842]
def mj_mtL : List (Nat × Nat × Nat) := [(10, 13, 73), (7, 62, 114), (7, 66, 112), (7, 70, 116), (7, 74, 59), (10, 20, 74), (7, 78, 115), (7, 90, 62), (7, 94, 61), (7, 82, 63), (7, 86, 65), (10, 25, 75), (7, 100, 64), (10, 30, 76), (10, 35, 77), (7, 113, 7), (7, 115, 60), (10, 40, 78), (10, 45, 79), (7, 122, 3), (7, 130, 5), (1, 23, 4), (1, 15, 3), (7, 136, 17), (2, 73, 14), (10, 49, 80), (7, 145, 9), (7, 148, 11), (10, 54, 81), (7, 152, 10), (7, 155, 12), (10, 58, 82), (10, 62, 83), (7, 162, 8), (10, 66, 84), (7, 168, 13), (7, 171, 20), (2, 86, 19), (2, 77, 18), (7, 175, 18), (10, 70, 85), (7, 182, 15), (10, 74, 86), (10, 78, 87), (7, 194, 21), (2, 90, 23), (10, 82, 88), (7, 197, 6), (7, 201, 44), (4, 24, 45), (4, 35, 48), (4, 65, 50), (4, 69, 49), (4, 73, 201), (11, 335, 203), (4, 58, 63), (4, 61, 66), (5, 25, 63), (4, 85, 202), (11, 492, 204), (11, 495, 206), (12, 9, 205), (11, 1059, 207), (4, 43, 46), (4, 39, 51), (4, 99, 9), (4, 105, 10), (4, 50, 52), (4, 31, 47), (4, 108, 53), (4, 112, 54), (4, 115, 55), (4, 123, 56), (4, 119, 57), (4, 134, 13), (4, 54, 58), (4, 137, 11), (4, 141, 12), (4, 145, 20), (10, 86, 89), (10, 91, 90), (7, 206, 113), (7, 211, 25), (2, 104, 0), (0, 33, 21), (0, 37, 14), (0, 41, 1), (7, 215, 2), (10, 95, 91), (7, 218, 26), (2, 108, 25), (7, 221, 27), (2, 115, 2), (10, 99, 92), (7, 224, 28), (2, 118, 27), (2, 121, 200), (7, 228, 29), (2, 126, 26), (2, 129, 15), (10, 103, 93), (7, 231, 38), (3, 24, 39), (3, 28, 40), (3, 49, 21), (3, 32, 41), (3, 35, 15), (3, 39, 42), (3, 53, 43), (3, 57, 18), (10, 107, 94), (7, 237, 14), (10, 111, 95), (7, 249, 16), (7, 252, 24), (2, 97, 22), (2, 100, 16), (7, 256, 96), (10, 115, 97), (10, 119, 98), (7, 262, 30), (2, 135, 21), (10, 123, 99), (7, 265, 32), (2, 144, 33), (2, 151, 13), (2, 148, 31), (10, 127, 100), (7, 268, 66), (10, 131, 101), (10, 135, 102), (7, 271, 31), (10, 139, 103), (10, 143, 104), (7, 280, 34), (2, 155, 35), (2, 158, 20), (7, 283, 36), (10, 147, 105), (10, 151, 106), (7, 289, 67), (7, 292, 69), (6, 36, 70), (6, 40, 71), (6, 51, 4), (6, 47, 72), (10, 155, 107), (7, 296, 68), (10, 159, 108), (10, 163, 109), (10, 167, 110), (7, 299, 37), (7, 305, 111), (10, 17, 123), (8, 105, 119), (8, 109, 117), (10, 24, 124), (10, 29, 125), (10, 34, 126), (10, 39, 127), (8, 113, 120), (10, 44, 128), (10, 48, 129), (8, 116, 141), (10, 53, 134), (8, 119, 122), (8, 123, 132), (10, 57, 135), (8, 127, 133), (10, 61, 136), (10, 65, 137), (8, 134, 121), (10, 69, 140), (8, 141, 139), (8, 137, 138), (10, 73, 142), (10, 77, 143), (10, 85, 153), (8, 187, 130), (8, 190, 152), (8, 180, 151), (8, 194, 150), (8, 166, 145), (8, 163, 144), (8, 169, 146), (8, 173, 148), (8, 159, 147), (8, 176, 149), (10, 90, 154), (10, 81, 158), (8, 209, 156), (8, 197, 155), (10, 94, 160), (8, 213, 118), (8, 216, 157), (8, 220, 159), (10, 98, 164), (8, 229, 163), (8, 223, 161), (8, 226, 162), (10, 102, 165), (10, 106, 170), (8, 241, 169), (8, 232, 166), (8, 235, 168), (8, 238, 167), (10, 110, 172), (8, 244, 171), (10, 114, 175), (8, 251, 174), (8, 248, 173), (10, 118, 176), (10, 122, 178), (8, 255, 177), (10, 126, 181), (8, 261, 180), (8, 258, 179), (10, 130, 182), (8, 264, 131), (10, 134, 183), (10, 138, 184), (10, 142, 185), (10, 146, 188), (8, 268, 186), (8, 271, 187), (10, 150, 189), (10, 154, 194), (8, 281, 191), (8, 278, 190), (8, 284, 192), (8, 287, 193), (10, 158, 195), (10, 162, 196), (10, 166, 197), (10, 170, 199), (8, 294, 198)]
def mj_mtP : List Nat := [314, 318, 322, 326, 329, 333, 337, 340, 344, 348, 352, 356, 360, 367, 371, 375, 379, 383, 387, 391, 395, 398, 401, 404, 408, 412, 416, 420, 424, 428, 432, 436, 440, 444, 448, 452, 456, 460, 464, 471, 472, 476, 480, 484, 488, 492, 499, 503, 508, 512, 516, 520, 528, 532, 536, 542, 543, 547, 548, 552, 556, 559, 564, 587, 591, 594, 595, 598, 602, 606, 610, 614, 617, 620, 624, 625, 629, 630, 631, 633, 637, 641, 645, 649, 653, 654, 655, 659, 663, 667, 671, 672, 676, 677, 681, 685, 686, 692, 696, 697, 698, 702, 706, 710, 714, 715, 719, 720, 724, 727, 728, 732, 733, 737, 741, 745, 749, 750, 754, 758, 762, 766, 767, 771, 775, 779, 780, 784, 788, 789, 793, 797, 798, 802, 806, 810, 815, 816, 820, 824, 828, 832, 836, 839, 844, 845, 849, 853, 857, 861, 865, 869, 873, 1013, 1017, 1021, 1025, 1029, 1033, 1037, 1041, 1045, 1049, 1053, 1057, 1061, 1065, 1069, 1073, 1077, 1081, 1085, 1089, 1093, 1097, 1101, 1105, 1109, 1113, 1117, 1121, 1125, 1129, 1133, 1137, 1141, 1145, 1149, 1153, 1157, 1161, 1165, 1169, 1173, 1177, 1181, 1185, 1189, 1193, 1197, 1201, 1205, 1209, 1213, 1217, 1221, 1225, 1229, 1233, 1237, 1241, 1245, 1249, 1253, 1257, 1261, 1265, 1269, 1273, 1277, 1281, 1285, 1289, 1293, 1298, 1302, 1306, 1310, 1314, 1318, 1322, 1326, 1330, 1334, 1338, 1342]
def mj_nsL : List (Nat × Nat × Nat) := [(1, 11, 116)]
def mj_nsP : List Nat := [394]
def mj_ntL : List (Nat × Nat × Nat) := [(7, 107, 4), (2, 81, 3), (2, 94, 2), (2, 65, 4), (4, 79, 2)]
def mj_ntP : List Nat := [364, 468, 496, 507, 586]
def mj_ctL : List (Nat × Nat × Int) := [(9, 265, 1431655765), (9, 266, 858993459), (9, 267, 252645135), (2, 161, 1103515245), (8, 267, 1103515245)]
def mj_ctP : List Nat := [689, 690, 691, 814, 1297]
def mj_csL : List (Nat × Nat × Nat) := [(4, 89, 93), (4, 91, 94), (4, 93, 95), (4, 95, 96), (4, 97, 97)]
def mj_lk {α : Type} (l : List (Nat × Nat × α)) (a b : Nat) : Option α := match l with
  | [] => none
  | (x, y, v) :: r => if x == a && y == b then some v else mj_lk r a b
theorem mj_lk_mem {α : Type} {l : List (Nat × Nat × α)} {a b : Nat} {v : α} (h : mj_lk l a b = some v) : (a, b, v) ∈ l := by
  induction l with
  | nil => cases h
  | cons q r ih =>
    obtain ⟨x, y, z⟩ := q
    simp only [mj_lk] at h
    split at h
    · rename_i hc
      simp only [Bool.and_eq_true, beq_iff_eq] at hc
      obtain ⟨rfl, rfl⟩ := hc
      cases h
      exact List.mem_cons_self
    · exact List.mem_cons_of_mem _ (ih h)
/-- a checked list: every element with its place -/
theorem mj_allP {α β : Type} {l : List α} {ps : List β} {f : α → β → Bool} (hl : l.length = ps.length) (h : (l.zip ps).all (fun q => f q.1 q.2) = true) {a : α} (ha : a ∈ l) : ∃ p, f a p = true := by
  obtain ⟨i, hi, e⟩ := List.getElem_of_mem ha
  have hi2 : i < ps.length := hl ▸ hi
  refine ⟨ps[i], ?_⟩
  have := List.all_eq_true.mp h (l[i], ps[i]) (by
    apply List.mem_of_getElem? (i := i)
    simp [List.getElem?_zip_eq_some, List.getElem?_eq_getElem hi, List.getElem?_eq_getElem hi2])
  rw [e] at this
  exact this
theorem mj_allC {α β : Type} {l : List α} {ps : List β} {f : α → β → Bool} (hl : l.length = ps.length) (h : (l.zip ps).all (fun q => f q.1 q.2) = true) {a : α} (ha : a ∈ l) : ∃ p, f a p = true := mj_allP hl h ha
def mj_clT (c : Nat) : u_T := match c with
  | 0 => TX0
  | 1 => TX2
  | 2 => TX3
  | 3 => TX4
  | 4 => TX5
  | 5 => TX6
  | 6 => TX7
  | _ => TX8
def mj_clN (c : Nat) : Nat := match c with
  | 0 => 4
  | 1 => 16
  | 2 => 2
  | 3 => 3
  | 4 => 4
  | 5 => 5
  | 6 => 10
  | _ => 43
def mj_clR (c : Nat) : String := match c with
  | 0 => RX0
  | 1 => RX2
  | 2 => RX3
  | 3 => RX4
  | 4 => RX5
  | 5 => RX6
  | 6 => RX7
  | _ => RX8
def mj_clY (c : Nat) : Nat → FieldType := match c with
  | 0 => tyX0
  | 1 => tyX2
  | 2 => tyX3
  | 3 => tyX4
  | 4 => tyX5
  | 5 => tyX6
  | 6 => tyX7
  | _ => tyX8
def mj_ftW (q : Nat × Nat × Nat × Nat) : Cond := .fieldLink (mj_own q.1) q.2.1 (mj_clT q.2.2.1 q.2.2.2).1 (mj_clT q.2.2.1 q.2.2.2).2.1 (mj_clT q.2.2.1 q.2.2.2).2.2.1
set_option maxRecDepth 100000 in
theorem mj_ft_chk : (mj_ftL.zip mj_ftP).all (fun q => mj_inT q.2 (mj_ftW q.1) && decide (q.1.2.2.1 < 8) && decide (q.1.2.2.2 < mj_clN q.1.2.2.1)) = true := by decide +kernel
def mj_stN (q : Nat) : String × String × String := match q with
  | 90 => ("ChosenBackAtNine$Kinds", "ABOVE", "[I")
  | 91 => ("ChosenBackAtNine$Stage", "BODIES", "[I")
  | 92 => ("ChosenBackAtNine$Reader", "HOW_MANY_NUMBERS", "[I")
  | 1 => ("java/lang/String", "COMPACT_STRINGS", "Z")
  | _ => ("jdk/internal/util/Preconditions", "SIOOBE_FORMATTER", "Ljava/util/function/BiFunction;")
def mj_stOk (q : Nat) : Bool := q == 90 || q == 91 || q == 92 || q == 1 || q == 2
set_option maxRecDepth 100000 in
theorem mj_gs_chk : (mj_gsL.zip mj_gsP).all (fun q => mj_inT q.2 (.fieldLink (mj_own q.1.1) q.1.2.1 (mj_stN q.1.2.2).1 (mj_stN q.1.2.2).2.1 (mj_stN q.1.2.2).2.2) && mj_stOk q.1.2.2) = true := by decide +kernel
set_option maxRecDepth 100000 in
theorem mj_fs_chk : (mj_fsL.zip mj_fsP).all (fun q => mj_inT q.2 (.fieldLink (mj_own q.1.1) q.1.2.1 "java/lang/String" (if q.1.2.2 = 0 then "value" else "coder") (if q.1.2.2 = 0 then "[B" else "B")) && decide (q.1.2.2 < 2)) = true := by decide +kernel
theorem mj_ft_len : mj_ftL.length = mj_ftP.length := by decide +kernel
theorem mj_fs_len : mj_fsL.length = mj_fsP.length := by decide +kernel
theorem mj_gs_len : mj_gsL.length = mj_gsP.length := by decide +kernel
theorem mj_ct_len : mj_ctL.length = mj_ctP.length := by decide +kernel
set_option maxRecDepth 100000 in
theorem mj_mt_len : mj_mtL.length = mj_mtP.length := by decide +kernel
theorem mj_nt_len : mj_ntL.length = mj_ntP.length := by decide +kernel
def mj_eT (m : Nat) : mj_M := mj_mL.getD m (yX0_weigh, cX0_weigh, 0, none, 0, 0, 99, 0)
set_option maxRecDepth 100000 in
theorem mj_mt_chk : (mj_mtL.zip mj_mtP).all (fun q => mj_inT q.2 (.methodLink (mj_own q.1.1) q.1.2.1 (mj_eT q.1.2.2).1) && decide (q.1.2.2 < mj_law)) = true := by decide +kernel
def mj_ntY (q : Nat) : MethodName := match q with
  | 2 => Lib.Math.max.name
  | 3 => Lib.Math.min.name
  | _ => arraycopyName
set_option maxRecDepth 100000 in
theorem mj_nt_chk : (mj_ntL.zip mj_ntP).all (fun q => mj_inT q.2 (.methodLink (mj_own q.1.1) q.1.2.1 (mj_ntY q.1.2.2)) && (q.1.2.2 == 2 || q.1.2.2 == 3 || q.1.2.2 == 4)) = true := by decide +kernel
set_option maxRecDepth 100000 in
theorem mj_ct_chk : (mj_ctL.zip mj_ctP).all (fun q => mj_inT q.2 (.constant (mj_own q.1.1) q.1.2.1 (Int32.ofInt q.1.2.2))) = true := by decide +kernel
def mj_mW (e : mj_M) (ps : List Nat) : Bool := mj_inT (ps.getD 1 0) (.initialized e.1.cls) && decide (e.1.cls = mj_own e.2.2.2.2.1) && plainName e.1.cls
  && decide (e.1.cls ≠ "java/lang/invoke/MethodHandle" ∧ e.1.cls ≠ "java/lang/invoke/VarHandle") && decide (e.2.2.1 ≤ 21) && decide ((parseMethodDescriptor e.1.desc).map (fun d => d.parameters.length) = some e.2.2.2.2.2.1) && decide ((parseMethodDescriptor e.1.desc).map (fun d => d.returnType) = some e.2.2.2.1)
  && (if e.2.2.2.2.2.2.1 = 30 then mj_inT (ps.getD 2 0) (.static e.1) else mj_inT (ps.getD 2 0) (.instanceMethod e.1) && mj_inT (ps.getD 3 0) (.selects e.1.cls e.1 e.1) && (if e.2.2.2.2.2.2.1 = 20 then decide (e.1.cls = "java/lang/String") else decide (e.1.cls = mj_clR e.2.2.2.2.2.2.1) && decide (e.2.2.2.2.2.2.1 < 8)))
theorem mj_cw0 : mj_cW (yX0_weigh, cX0_weigh, 9, none, 0, 2, 0, 3) ∈ mj_tbl := mj_inT1 mj_t3 100 rfl rfl
theorem mj_cw1 : mj_cW (yX0_settle, cX0_settle, 1, none, 0, 0, 0, 1) ∈ mj_tbl := mj_inT1 mj_t3 106 rfl rfl
theorem mj_cw2 : mj_cW (yX0_whom, cX0_whom, 2, (some .int), 0, 1, 0, 1) ∈ mj_tbl := mj_inT1 mj_t3 110 rfl rfl
theorem mj_cw3 : mj_cW (yX1_isKind, cX1_isKind, 1, (some .boolean), 1, 1, 30, 2) ∈ mj_tbl := mj_inT1 mj_t2 81 rfl rfl
theorem mj_cw4 : mj_cW (yX1_above, cX1_above, 1, (some .int), 1, 1, 30, 3) ∈ mj_tbl := mj_inT1 mj_t2 88 rfl rfl
theorem mj_cw5 : mj_cW (yX1_isUnder, cX1_isUnder, 4, (some .boolean), 1, 2, 30, 4) ∈ mj_tbl := mj_inT1 mj_t2 85 rfl rfl
theorem mj_cw6 : mj_cW (yX2_copyFrom, cX2_copyFrom, 2, none, 2, 1, 1, 1) ∈ mj_tbl := mj_inT1 mj_t2 194 rfl rfl
theorem mj_cw7 : mj_cW (yX2_hasGrown, cX2_hasGrown, 2, (some .boolean), 2, 1, 1, 1) ∈ mj_tbl := mj_inT1 mj_t2 66 rfl rfl
theorem mj_cw8 : mj_cW (yX2_hasChild, cX2_hasChild, 2, (some .boolean), 2, 1, 1, 1) ∈ mj_tbl := mj_inT1 mj_t2 135 rfl rfl
theorem mj_cw9 : mj_cW (yX2_hasRoomForGrown, cX2_hasRoomForGrown, 1, (some .boolean), 2, 0, 1, 1) ∈ mj_tbl := mj_inT1 mj_t2 107 rfl rfl
theorem mj_cw10 : mj_cW (yX2_hasRoomForChild, cX2_hasRoomForChild, 1, (some .boolean), 2, 0, 1, 1) ∈ mj_tbl := mj_inT1 mj_t2 119 rfl rfl
theorem mj_cw11 : mj_cW (yX2_addGrown, cX2_addGrown, 6, (some .int), 2, 4, 1, 1) ∈ mj_tbl := mj_inT1 mj_t2 111 rfl rfl
theorem mj_cw12 : mj_cW (yX2_addChild, cX2_addChild, 5, (some .int), 2, 3, 1, 1) ∈ mj_tbl := mj_inT1 mj_t2 123 rfl rfl
theorem mj_cw13 : mj_cW (yX2_isDead, cX2_isDead, 2, (some .boolean), 2, 1, 1, 1) ∈ mj_tbl := mj_inT1 mj_t2 143 rfl rfl
theorem mj_cw14 : mj_cW (yX2_isGodparent, cX2_isGodparent, 3, (some .boolean), 2, 2, 1, 1) ∈ mj_tbl := mj_inT1 mj_t2 99 rfl rfl
theorem mj_cw15 : mj_cW (yX2_shoesOf, cX2_shoesOf, 2, (some .int), 2, 1, 1, 1) ∈ mj_tbl := mj_inT1 mj_t2 167 rfl rfl
theorem mj_cws_0 : ∀ e ∈ mj_mL_0, mj_cW e ∈ mj_tbl := List.forall_mem_cons.mpr ⟨mj_cw0, List.forall_mem_cons.mpr ⟨mj_cw1, List.forall_mem_cons.mpr ⟨mj_cw2, List.forall_mem_cons.mpr ⟨mj_cw3, List.forall_mem_cons.mpr ⟨mj_cw4, List.forall_mem_cons.mpr ⟨mj_cw5, List.forall_mem_cons.mpr ⟨mj_cw6, List.forall_mem_cons.mpr ⟨mj_cw7, List.forall_mem_cons.mpr ⟨mj_cw8, List.forall_mem_cons.mpr ⟨mj_cw9, List.forall_mem_cons.mpr ⟨mj_cw10, List.forall_mem_cons.mpr ⟨mj_cw11, List.forall_mem_cons.mpr ⟨mj_cw12, List.forall_mem_cons.mpr ⟨mj_cw13, List.forall_mem_cons.mpr ⟨mj_cw14, List.forall_mem_cons.mpr ⟨mj_cw15, fun _ h => absurd h List.not_mem_nil⟩⟩⟩⟩⟩⟩⟩⟩⟩⟩⟩⟩⟩⟩⟩⟩
theorem mj_cw16 : mj_cW (yX2_mostGiftsOf, cX2_mostGiftsOf, 2, (some .int), 2, 1, 1, 1) ∈ mj_tbl := mj_inT1 mj_t3 188 rfl rfl
theorem mj_cw17 : mj_cW (yX2_chargeOf, cX2_chargeOf, 4, (some .int), 2, 1, 1, 2) ∈ mj_tbl := mj_inT1 mj_t2 95 rfl rfl
theorem mj_cw18 : mj_cW (yX2_likingOf, cX2_likingOf, 3, (some .int), 2, 2, 1, 1) ∈ mj_tbl := mj_inT1 mj_t2 155 rfl rfl
theorem mj_cw19 : mj_cW (yX2_raiseLiking, cX2_raiseLiking, 4, none, 2, 3, 1, 2) ∈ mj_tbl := mj_inT1 mj_t2 151 rfl rfl
theorem mj_cw20 : mj_cW (yX2_give, cX2_give, 4, none, 2, 3, 1, 3) ∈ mj_tbl := mj_inT1 mj_t2 147 rfl rfl
theorem mj_cw21 : mj_cW (yX2_pullOf, cX2_pullOf, 3, (some .int), 2, 2, 1, 2) ∈ mj_tbl := mj_inT1 mj_t2 179 rfl rfl
theorem mj_cw22 : mj_cW (yX2_pullWith, cX2_pullWith, 5, (some .int), 2, 3, 1, 2) ∈ mj_tbl := mj_inT1 mj_t3 196 rfl rfl
theorem mj_cw23 : mj_cW (yX2_pullAt, cX2_pullAt, 8, (some .int), 2, 3, 1, 1) ∈ mj_tbl := mj_inT1 mj_t2 183 rfl rfl
theorem mj_cw24 : mj_cW (yX2_isAhead, cX2_isAhead, 7, (some .boolean), 2, 4, 1, 3) ∈ mj_tbl := mj_inT1 mj_t3 192 rfl rfl
theorem mj_cw25 : mj_cW (yX2_choiceOf, cX2_choiceOf, 2, (some (.object "ChosenBackAtNine$Choice")), 2, 1, 1, 4) ∈ mj_tbl := mj_inT1 mj_t3 96 rfl rfl
theorem mj_cw26 : mj_cW (yX2_chargeThenOf, cX2_chargeThenOf, 4, (some .int), 2, 1, 1, 5) ∈ mj_tbl := mj_inT1 mj_t3 118 rfl rfl
theorem mj_cw27 : mj_cW (yX2_childrenBy, cX2_childrenBy, 5, (some .int), 2, 2, 1, 5) ∈ mj_tbl := mj_inT1 mj_t3 123 rfl rfl
theorem mj_cw28 : mj_cW (yX2_mostTaken, cX2_mostTaken, 5, (some .int), 2, 0, 1, 6) ∈ mj_tbl := mj_inT1 mj_t3 132 rfl rfl
theorem mj_cw29 : mj_cW (yX2_howManyBare, cX2_howManyBare, 3, (some .int), 2, 0, 1, 6) ∈ mj_tbl := mj_inT1 mj_t3 143 rfl rfl
theorem mj_cw30 : mj_cW (yX2_wouldTrade, cX2_wouldTrade, 5, (some .boolean), 2, 2, 1, 5) ∈ mj_tbl := mj_inT1 mj_t3 213 rfl rfl
theorem mj_cw31 : mj_cW (yX2_letChoose, cX2_letChoose, 2, (some .int), 2, 1, 1, 4) ∈ mj_tbl := mj_inT1 mj_t3 231 rfl rfl
theorem mj_cws_1 : ∀ e ∈ mj_mL_1, mj_cW e ∈ mj_tbl := List.forall_mem_cons.mpr ⟨mj_cw16, List.forall_mem_cons.mpr ⟨mj_cw17, List.forall_mem_cons.mpr ⟨mj_cw18, List.forall_mem_cons.mpr ⟨mj_cw19, List.forall_mem_cons.mpr ⟨mj_cw20, List.forall_mem_cons.mpr ⟨mj_cw21, List.forall_mem_cons.mpr ⟨mj_cw22, List.forall_mem_cons.mpr ⟨mj_cw23, List.forall_mem_cons.mpr ⟨mj_cw24, List.forall_mem_cons.mpr ⟨mj_cw25, List.forall_mem_cons.mpr ⟨mj_cw26, List.forall_mem_cons.mpr ⟨mj_cw27, List.forall_mem_cons.mpr ⟨mj_cw28, List.forall_mem_cons.mpr ⟨mj_cw29, List.forall_mem_cons.mpr ⟨mj_cw30, List.forall_mem_cons.mpr ⟨mj_cw31, fun _ h => absurd h List.not_mem_nil⟩⟩⟩⟩⟩⟩⟩⟩⟩⟩⟩⟩⟩⟩⟩⟩
theorem mj_cw32 : mj_cW (yX2_passYear, cX2_passYear, 2, none, 2, 0, 1, 5) ∈ mj_tbl := mj_inT1 mj_t3 222 rfl rfl
theorem mj_cw33 : mj_cW (yX2_takeYearlyGifts, cX2_takeYearlyGifts, 3, none, 2, 1, 1, 3) ∈ mj_tbl := mj_inT1 mj_t3 226 rfl rfl
theorem mj_cw34 : mj_cW (yX2_giveByDraws, cX2_giveByDraws, 4, none, 2, 0, 1, 4) ∈ mj_tbl := mj_inT1 mj_t4 17 rfl rfl
theorem mj_cw35 : mj_cW (yX2_draw, cX2_draw, 2, (some .int), 2, 1, 1, 1) ∈ mj_tbl := mj_inT1 mj_t4 21 rfl rfl
theorem mj_cw36 : mj_cW (yX2_allDropped, cX2_allDropped, 3, (some .int), 2, 0, 1, 1) ∈ mj_tbl := mj_inT1 mj_t4 27 rfl rfl
theorem mj_cw37 : mj_cW (yX2_allLiking, cX2_allLiking, 3, (some .int), 2, 0, 1, 1) ∈ mj_tbl := mj_inT1 mj_t4 80 rfl rfl
theorem mj_cw38 : mj_cW (yX3_part, cX3_part, 5, none, 3, 1, 2, 5) ∈ mj_tbl := mj_inT1 mj_t3 153 rfl rfl
theorem mj_cw39 : mj_cW (yX3_asks, cX3_asks, 5, (some .boolean), 3, 2, 2, 4) ∈ mj_tbl := mj_inT1 mj_t3 157 rfl rfl
theorem mj_cw40 : mj_cW (yX3_mostPullingLeft, cX3_mostPullingLeft, 7, (some .int), 3, 2, 2, 3) ∈ mj_tbl := mj_inT1 mj_t3 161 rfl rfl
theorem mj_cw41 : mj_cW (yX3_heldBy, cX3_heldBy, 5, (some .int), 3, 2, 2, 1) ∈ mj_tbl := mj_inT1 mj_t3 166 rfl rfl
theorem mj_cw42 : mj_cW (yX3_leastLikedOf, cX3_leastLikedOf, 6, (some .int), 3, 3, 2, 3) ∈ mj_tbl := mj_inT1 mj_t3 171 rfl rfl
theorem mj_cw43 : mj_cW (yX3_isLiked, cX3_isLiked, 6, (some .boolean), 3, 4, 30, 2) ∈ mj_tbl := mj_inT1 mj_t3 174 rfl rfl
theorem mj_cw44 : mj_cW (yX4_readOnto, cX4_readOnto, 5, (some .int), 4, 2, 3, 8) ∈ mj_tbl := mj_inT1 mj_t2 199 rfl rfl
theorem mj_cw45 : mj_cW (yX4_readItem, cX4_readItem, 6, (some .boolean), 4, 2, 3, 7) ∈ mj_tbl := mj_inT1 mj_t2 203 rfl rfl
theorem mj_cw46 : mj_cW (yX4_failAt, cX4_failAt, 2, (some .boolean), 4, 1, 3, 1) ∈ mj_tbl := mj_inT1 mj_t3 38 rfl rfl
theorem mj_cw47 : mj_cW (yX4_readSign, cX4_readSign, 3, (some .boolean), 4, 2, 3, 3) ∈ mj_tbl := mj_inT1 mj_t3 53 rfl rfl
theorem mj_cws_2 : ∀ e ∈ mj_mL_2, mj_cW e ∈ mj_tbl := List.forall_mem_cons.mpr ⟨mj_cw32, List.forall_mem_cons.mpr ⟨mj_cw33, List.forall_mem_cons.mpr ⟨mj_cw34, List.forall_mem_cons.mpr ⟨mj_cw35, List.forall_mem_cons.mpr ⟨mj_cw36, List.forall_mem_cons.mpr ⟨mj_cw37, List.forall_mem_cons.mpr ⟨mj_cw38, List.forall_mem_cons.mpr ⟨mj_cw39, List.forall_mem_cons.mpr ⟨mj_cw40, List.forall_mem_cons.mpr ⟨mj_cw41, List.forall_mem_cons.mpr ⟨mj_cw42, List.forall_mem_cons.mpr ⟨mj_cw43, List.forall_mem_cons.mpr ⟨mj_cw44, List.forall_mem_cons.mpr ⟨mj_cw45, List.forall_mem_cons.mpr ⟨mj_cw46, List.forall_mem_cons.mpr ⟨mj_cw47, fun _ h => absurd h List.not_mem_nil⟩⟩⟩⟩⟩⟩⟩⟩⟩⟩⟩⟩⟩⟩⟩⟩
theorem mj_cw48 : mj_cW (yX4_readWord, cX4_readWord, 6, (some .int), 4, 1, 3, 6) ∈ mj_tbl := mj_inT1 mj_t2 207 rfl rfl
theorem mj_cw49 : mj_cW (yX4_howManyAlike, cX4_howManyAlike, 4, (some .int), 4, 2, 3, 5) ∈ mj_tbl := mj_inT1 mj_t2 219 rfl rfl
theorem mj_cw50 : mj_cW (yX4_lettersOf, cX4_lettersOf, 1, (some (.object "java/lang/String")), 4, 1, 30, 1) ∈ mj_tbl := mj_inT1 mj_t2 210 rfl rfl
theorem mj_cw51 : mj_cW (yX4_hasRoom, cX4_hasRoom, 2, (some .boolean), 4, 2, 30, 2) ∈ mj_tbl := mj_inT1 mj_t3 41 rfl rfl
theorem mj_cw52 : mj_cW (yX4_readNumber, cX4_readNumber, 7, (some .boolean), 4, 4, 3, 4) ∈ mj_tbl := mj_inT1 mj_t3 49 rfl rfl
theorem mj_cw53 : mj_cW (yX4_hasDigit, cX4_hasDigit, 2, (some .boolean), 4, 1, 3, 3) ∈ mj_tbl := mj_inT1 mj_t3 57 rfl rfl
theorem mj_cw54 : mj_cW (yX4_readDigit, cX4_readDigit, 3, (some .int), 4, 1, 3, 3) ∈ mj_tbl := mj_inT1 mj_t3 61 rfl rfl
theorem mj_cw55 : mj_cW (yX4_mostOf, cX4_mostOf, 3, (some .int), 4, 3, 30, 2) ∈ mj_tbl := mj_inT1 mj_t3 64 rfl rfl
theorem mj_cw56 : mj_cW (yX4_mostOfGrown, cX4_mostOfGrown, 1, (some .int), 4, 1, 30, 1) ∈ mj_tbl := mj_inT1 mj_t3 67 rfl rfl
theorem mj_cw57 : mj_cW (yX4_isBarred, cX4_isBarred, 5, (some .boolean), 4, 4, 3, 2) ∈ mj_tbl := mj_inT1 mj_t3 71 rfl rfl
theorem mj_cw58 : mj_cW (yX4_tell, cX4_tell, 3, none, 4, 2, 3, 4) ∈ mj_tbl := mj_inT1 mj_t3 76 rfl rfl
theorem mj_cw59 : mj_cW (yX5_putRow, cX5_putRow, 4, none, 5, 2, 4, 1) ∈ mj_tbl := mj_inT1 mj_t2 20 rfl rfl
theorem mj_cw60 : mj_cW (yX5_putGrown, cX5_putGrown, 2, none, 5, 1, 4, 1) ∈ mj_tbl := mj_inT1 mj_t2 70 rfl rfl
theorem mj_cw61 : mj_cW (yX5_hasRow, cX5_hasRow, 1, (some .boolean), 5, 0, 4, 1) ∈ mj_tbl := mj_inT1 mj_t2 35 rfl rfl
theorem mj_cw62 : mj_cW (yX5_hasGrown, cX5_hasGrown, 1, (some .boolean), 5, 0, 4, 1) ∈ mj_tbl := mj_inT1 mj_t2 31 rfl rfl
theorem mj_cw63 : mj_cW (yX5_hasElement, cX5_hasElement, 2, (some .boolean), 5, 1, 4, 1) ∈ mj_tbl := mj_inT1 mj_t2 39 rfl rfl
theorem mj_cws_3 : ∀ e ∈ mj_mL_3, mj_cW e ∈ mj_tbl := List.forall_mem_cons.mpr ⟨mj_cw48, List.forall_mem_cons.mpr ⟨mj_cw49, List.forall_mem_cons.mpr ⟨mj_cw50, List.forall_mem_cons.mpr ⟨mj_cw51, List.forall_mem_cons.mpr ⟨mj_cw52, List.forall_mem_cons.mpr ⟨mj_cw53, List.forall_mem_cons.mpr ⟨mj_cw54, List.forall_mem_cons.mpr ⟨mj_cw55, List.forall_mem_cons.mpr ⟨mj_cw56, List.forall_mem_cons.mpr ⟨mj_cw57, List.forall_mem_cons.mpr ⟨mj_cw58, List.forall_mem_cons.mpr ⟨mj_cw59, List.forall_mem_cons.mpr ⟨mj_cw60, List.forall_mem_cons.mpr ⟨mj_cw61, List.forall_mem_cons.mpr ⟨mj_cw62, List.forall_mem_cons.mpr ⟨mj_cw63, fun _ h => absurd h List.not_mem_nil⟩⟩⟩⟩⟩⟩⟩⟩⟩⟩⟩⟩⟩⟩⟩⟩
theorem mj_cw64 : mj_cW (yX5_hasSpan, cX5_hasSpan, 3, (some .boolean), 5, 2, 4, 1) ∈ mj_tbl := mj_inT1 mj_t2 51 rfl rfl
theorem mj_cw65 : mj_cW (yX5_putElement, cX5_putElement, 4, none, 5, 2, 4, 1) ∈ mj_tbl := mj_inT1 mj_t2 43 rfl rfl
theorem mj_cw66 : mj_cW (yX5_numberAt, cX5_numberAt, 2, (some .int), 5, 1, 4, 2) ∈ mj_tbl := mj_inT1 mj_t2 234 rfl rfl
theorem mj_cw67 : mj_cW (yX6_clear, cX6_clear, 1, none, 6, 0, 5, 1) ∈ mj_tbl := mj_inT1 mj_t4 39 rfl rfl
theorem mj_cw68 : mj_cW (yX6_bodyAt, cX6_bodyAt, 2, (some .int), 6, 1, 5, 1) ∈ mj_tbl := mj_inT1 mj_t4 64 rfl rfl
theorem mj_cw69 : mj_cW (yX6_perform, cX6_perform, 5, (some .int), 6, 4, 5, 21) ∈ mj_tbl := mj_inT1 mj_t4 43 rfl rfl
theorem mj_cw70 : mj_cW (yX6_run, cX6_run, 9, (some .int), 6, 5, 30, 20) ∈ mj_tbl := mj_inT1 mj_t4 46 rfl rfl
theorem mj_cw71 : mj_cW (yX6_ownerOf, cX6_ownerOf, 4, (some .int), 6, 2, 30, 4) ∈ mj_tbl := mj_inT1 mj_t4 49 rfl rfl
theorem mj_cw72 : mj_cW (yX6_begin, cX6_begin, 2, none, 6, 1, 5, 1) ∈ mj_tbl := mj_inT1 mj_t4 56 rfl rfl
theorem mj_cw73 : mj_cW (yX7_row, cX7_row, 5, (some .int), 7, 3, 6, 2) ∈ mj_tbl := mj_inT1 mj_t2 5 rfl rfl
theorem mj_cw74 : mj_cW (yX7_set, cX7_set, 7, (some .int), 7, 3, 6, 3) ∈ mj_tbl := mj_inT1 mj_t2 24 rfl rfl
theorem mj_cw75 : mj_cW (yX7_copy, cX7_copy, 8, (some .int), 7, 5, 6, 2) ∈ mj_tbl := mj_inT1 mj_t2 47 rfl rfl
theorem mj_cw76 : mj_cW (yX7_element, cX7_element, 4, (some .long), 7, 2, 6, 2) ∈ mj_tbl := mj_inT1 mj_t2 58 rfl rfl
theorem mj_cw77 : mj_cW (yX7_show, cX7_show, 4, (some .int), 7, 2, 6, 2) ∈ mj_tbl := mj_inT1 mj_t2 62 rfl rfl
theorem mj_cw78 : mj_cW (yX7_holds, cX7_holds, 3, (some .int), 7, 1, 6, 2) ∈ mj_tbl := mj_inT1 mj_t2 74 rfl rfl
theorem mj_cw79 : mj_cW (yX7_says, cX7_says, 5, (some .int), 7, 2, 6, 5) ∈ mj_tbl := mj_inT1 mj_t2 78 rfl rfl
theorem mj_cws_4 : ∀ e ∈ mj_mL_4, mj_cW e ∈ mj_tbl := List.forall_mem_cons.mpr ⟨mj_cw64, List.forall_mem_cons.mpr ⟨mj_cw65, List.forall_mem_cons.mpr ⟨mj_cw66, List.forall_mem_cons.mpr ⟨mj_cw67, List.forall_mem_cons.mpr ⟨mj_cw68, List.forall_mem_cons.mpr ⟨mj_cw69, List.forall_mem_cons.mpr ⟨mj_cw70, List.forall_mem_cons.mpr ⟨mj_cw71, List.forall_mem_cons.mpr ⟨mj_cw72, List.forall_mem_cons.mpr ⟨mj_cw73, List.forall_mem_cons.mpr ⟨mj_cw74, List.forall_mem_cons.mpr ⟨mj_cw75, List.forall_mem_cons.mpr ⟨mj_cw76, List.forall_mem_cons.mpr ⟨mj_cw77, List.forall_mem_cons.mpr ⟨mj_cw78, List.forall_mem_cons.mpr ⟨mj_cw79, fun _ h => absurd h List.not_mem_nil⟩⟩⟩⟩⟩⟩⟩⟩⟩⟩⟩⟩⟩⟩⟩⟩
theorem mj_cw80 : mj_cW (yX7_grown, cX7_grown, 5, (some .int), 7, 4, 6, 3) ∈ mj_tbl := mj_inT1 mj_t2 103 rfl rfl
theorem mj_cw81 : mj_cW (yX7_child, cX7_child, 6, (some .int), 7, 5, 6, 2) ∈ mj_tbl := mj_inT1 mj_t2 115 rfl rfl
theorem mj_cw82 : mj_cW (yX7_flood, cX7_flood, 3, (some .int), 7, 1, 6, 2) ∈ mj_tbl := mj_inT1 mj_t2 127 rfl rfl
theorem mj_cw83 : mj_cW (yX7_age, cX7_age, 4, (some .int), 7, 2, 6, 2) ∈ mj_tbl := mj_inT1 mj_t2 131 rfl rfl
theorem mj_cw84 : mj_cW (yX7_gift, cX7_gift, 4, (some .int), 7, 3, 6, 4) ∈ mj_tbl := mj_inT1 mj_t2 139 rfl rfl
theorem mj_cw85 : mj_cW (yX7_grownOf, cX7_grownOf, 3, (some .int), 7, 2, 6, 3) ∈ mj_tbl := mj_inT1 mj_t2 163 rfl rfl
theorem mj_cw86 : mj_cW (yX7_childOf, cX7_childOf, 3, (some .int), 7, 2, 6, 2) ∈ mj_tbl := mj_inT1 mj_t2 171 rfl rfl
theorem mj_cw87 : mj_cW (yX7_pull, cX7_pull, 4, (some .int), 7, 3, 6, 3) ∈ mj_tbl := mj_inT1 mj_t2 175 rfl rfl
theorem mj_cw88 : mj_cW (yX7_parish, cX7_parish, 5, (some .int), 7, 1, 6, 9) ∈ mj_tbl := mj_inT1 mj_t2 190 rfl rfl
theorem mj_cw89 : mj_cW (yX7_fault, cX7_fault, 1, (some .int), 7, 0, 6, 1) ∈ mj_tbl := mj_inT1 mj_t3 84 rfl rfl
theorem mj_cw90 : mj_cW (yX7_chooses, cX7_chooses, 3, (some .int), 7, 2, 6, 5) ∈ mj_tbl := mj_inT1 mj_t3 88 rfl rfl
theorem mj_cw91 : mj_cW (yX7_by, cX7_by, 3, (some .int), 7, 2, 6, 6) ∈ mj_tbl := mj_inT1 mj_t3 114 rfl rfl
theorem mj_cw92 : mj_cW (yX7_favourite, cX7_favourite, 2, (some .int), 7, 1, 6, 7) ∈ mj_tbl := mj_inT1 mj_t3 128 rfl rfl
theorem mj_cw93 : mj_cW (yX7_picks, cX7_picks, 2, (some .int), 7, 1, 6, 6) ∈ mj_tbl := mj_inT1 mj_t3 149 rfl rfl
theorem mj_cw94 : mj_cW (yX7_woo, cX7_woo, 8, (some .int), 7, 3, 6, 5) ∈ mj_tbl := mj_inT1 mj_t3 179 rfl rfl
theorem mj_cw95 : mj_cW (yX7_two, cX7_two, 8, (some .int), 7, 4, 6, 5) ∈ mj_tbl := mj_inT1 mj_t3 184 rfl rfl
theorem mj_cws_5 : ∀ e ∈ mj_mL_5, mj_cW e ∈ mj_tbl := List.forall_mem_cons.mpr ⟨mj_cw80, List.forall_mem_cons.mpr ⟨mj_cw81, List.forall_mem_cons.mpr ⟨mj_cw82, List.forall_mem_cons.mpr ⟨mj_cw83, List.forall_mem_cons.mpr ⟨mj_cw84, List.forall_mem_cons.mpr ⟨mj_cw85, List.forall_mem_cons.mpr ⟨mj_cw86, List.forall_mem_cons.mpr ⟨mj_cw87, List.forall_mem_cons.mpr ⟨mj_cw88, List.forall_mem_cons.mpr ⟨mj_cw89, List.forall_mem_cons.mpr ⟨mj_cw90, List.forall_mem_cons.mpr ⟨mj_cw91, List.forall_mem_cons.mpr ⟨mj_cw92, List.forall_mem_cons.mpr ⟨mj_cw93, List.forall_mem_cons.mpr ⟨mj_cw94, List.forall_mem_cons.mpr ⟨mj_cw95, fun _ h => absurd h List.not_mem_nil⟩⟩⟩⟩⟩⟩⟩⟩⟩⟩⟩⟩⟩⟩⟩⟩
theorem mj_cw96 : mj_cW (yX7_priceOf, cX7_priceOf, 6, (some .int), 7, 3, 6, 4) ∈ mj_tbl := mj_inT1 mj_t3 201 rfl rfl
theorem mj_cw97 : mj_cW (yX7_tastes, cX7_tastes, 8, (some .int), 7, 4, 6, 5) ∈ mj_tbl := mj_inT1 mj_t3 205 rfl rfl
theorem mj_cw98 : mj_cW (yX7_trades, cX7_trades, 6, (some .int), 7, 1, 6, 6) ∈ mj_tbl := mj_inT1 mj_t3 209 rfl rfl
theorem mj_cw99 : mj_cW (yX7_ahead, cX7_ahead, 5, (some .int), 7, 3, 6, 6) ∈ mj_tbl := mj_inT1 mj_t3 218 rfl rfl
theorem mj_cw100 : mj_cW (yX7_judge, cX7_judge, 7, (some .int), 7, 2, 6, 5) ∈ mj_tbl := mj_inT1 mj_t3 235 rfl rfl
theorem mj_cw101 : mj_cW (yX7_ninth, cX7_ninth, 3, (some .int), 7, 1, 6, 3) ∈ mj_tbl := mj_inT1 mj_t4 0 rfl rfl
theorem mj_cw102 : mj_cW (yX7_choose, cX7_choose, 3, (some .int), 7, 1, 6, 5) ∈ mj_tbl := mj_inT1 mj_t4 4 rfl rfl
theorem mj_cw103 : mj_cW (yX7_years, cX7_years, 3, (some .int), 7, 1, 6, 6) ∈ mj_tbl := mj_inT1 mj_t4 9 rfl rfl
theorem mj_cw104 : mj_cW (yX7_drawn, cX7_drawn, 3, (some .int), 7, 1, 6, 6) ∈ mj_tbl := mj_inT1 mj_t4 13 rfl rfl
theorem mj_cw105 : mj_cW (yX7_seed, cX7_seed, 3, (some .int), 7, 1, 6, 1) ∈ mj_tbl := mj_inT1 mj_t4 31 rfl rfl
theorem mj_cw106 : mj_cW (yX7_act, cX7_act, 4, (some .int), 7, 3, 6, 22) ∈ mj_tbl := mj_inT1 mj_t4 35 rfl rfl
theorem mj_cw107 : mj_cW (yX7_trace, cX7_trace, 2, (some .int), 7, 1, 6, 2) ∈ mj_tbl := mj_inT1 mj_t4 60 rfl rfl
theorem mj_cw108 : mj_cW (yX7_image, cX7_image, 1, (some .int), 7, 0, 6, 2) ∈ mj_tbl := mj_inT1 mj_t4 68 rfl rfl
theorem mj_cw109 : mj_cW (yX7_restore, cX7_restore, 3, (some .int), 7, 0, 6, 2) ∈ mj_tbl := mj_inT1 mj_t4 72 rfl rfl
theorem mj_cw110 : mj_cW (yX7_status, cX7_status, 2, (some .int), 7, 1, 6, 2) ∈ mj_tbl := mj_inT1 mj_t4 76 rfl rfl
theorem mj_cw111 : mj_cW (yX7_refusalsOf, cX7_refusalsOf, 2, (some .int), 7, 1, 6, 1) ∈ mj_tbl := mj_inT1 mj_t4 84 rfl rfl
theorem mj_cws_6 : ∀ e ∈ mj_mL_6, mj_cW e ∈ mj_tbl := List.forall_mem_cons.mpr ⟨mj_cw96, List.forall_mem_cons.mpr ⟨mj_cw97, List.forall_mem_cons.mpr ⟨mj_cw98, List.forall_mem_cons.mpr ⟨mj_cw99, List.forall_mem_cons.mpr ⟨mj_cw100, List.forall_mem_cons.mpr ⟨mj_cw101, List.forall_mem_cons.mpr ⟨mj_cw102, List.forall_mem_cons.mpr ⟨mj_cw103, List.forall_mem_cons.mpr ⟨mj_cw104, List.forall_mem_cons.mpr ⟨mj_cw105, List.forall_mem_cons.mpr ⟨mj_cw106, List.forall_mem_cons.mpr ⟨mj_cw107, List.forall_mem_cons.mpr ⟨mj_cw108, List.forall_mem_cons.mpr ⟨mj_cw109, List.forall_mem_cons.mpr ⟨mj_cw110, List.forall_mem_cons.mpr ⟨mj_cw111, fun _ h => absurd h List.not_mem_nil⟩⟩⟩⟩⟩⟩⟩⟩⟩⟩⟩⟩⟩⟩⟩⟩
theorem mj_cw112 : mj_cW (yX7_refuse, cX7_refuse, 2, (some .int), 7, 1, 6, 1) ∈ mj_tbl := mj_inT1 mj_t2 13 rfl rfl
theorem mj_cw113 : mj_cW (yX7_refuseTelling, cX7_refuseTelling, 2, (some .int), 7, 1, 6, 2) ∈ mj_tbl := mj_inT1 mj_t3 92 rfl rfl
theorem mj_cw114 : mj_cW (yX7_shelfAt, cX7_shelfAt, 2, (some (.object "ChosenBackAtNine$Shelf")), 7, 1, 6, 1) ∈ mj_tbl := mj_inT1 mj_t2 9 rfl rfl
theorem mj_cw115 : mj_cW (yX7_rowRefusal, cX7_rowRefusal, 1, (some .int), 7, 1, 30, 2) ∈ mj_tbl := mj_inT1 mj_t2 27 rfl rfl
theorem mj_cw116 : mj_cW (yX7_isWithin, cX7_isWithin, 2, (some .boolean), 7, 2, 30, 1) ∈ mj_tbl := mj_inT1 mj_t2 16 rfl rfl
theorem mj_cw117 : mj_cW (yX8_no, cX8_no, 2, (some .int), 8, 1, 7, 1) ∈ mj_tbl := mj_inT1 mj_t4 232 rfl rfl
theorem mj_cw118 : mj_cW (yX8_noTen, cX8_noTen, 2, (some .int), 8, 1, 7, 1) ∈ mj_tbl := mj_inT1 mj_t5 144 rfl rfl
theorem mj_cw119 : mj_cW (yX8_isShelf, cX8_isShelf, 2, (some .boolean), 8, 1, 7, 1) ∈ mj_tbl := mj_inT1 mj_t4 228 rfl rfl
theorem mj_cw120 : mj_cW (yX8_isGrown, cX8_isGrown, 2, (some .boolean), 8, 1, 7, 1) ∈ mj_tbl := mj_inT1 mj_t5 12 rfl rfl
theorem mj_cw121 : mj_cW (yX8_isChild, cX8_isChild, 2, (some .boolean), 8, 1, 7, 1) ∈ mj_tbl := mj_inT1 mj_t5 56 rfl rfl
theorem mj_cw122 : mj_cW (yX8_isFrom, cX8_isFrom, 4, (some .boolean), 8, 3, 7, 1) ∈ mj_tbl := mj_inT1 mj_t5 32 rfl rfl
theorem mj_cw123 : mj_cW (yX8_row, cX8_row, 5, (some .int), 8, 3, 7, 2) ∈ mj_tbl := mj_inT1 mj_t4 224 rfl rfl
theorem mj_cw124 : mj_cW (yX8_set, cX8_set, 5, (some .int), 8, 3, 7, 2) ∈ mj_tbl := mj_inT1 mj_t4 236 rfl rfl
theorem mj_cw125 : mj_cW (yX8_copy, cX8_copy, 7, (some .int), 8, 5, 7, 2) ∈ mj_tbl := mj_inT1 mj_t5 0 rfl rfl
theorem mj_cw126 : mj_cW (yX8_element, cX8_element, 3, (some .long), 8, 2, 7, 2) ∈ mj_tbl := mj_inT1 mj_t5 4 rfl rfl
theorem mj_cw127 : mj_cW (yX8_show, cX8_show, 3, (some .int), 8, 2, 7, 2) ∈ mj_tbl := mj_inT1 mj_t5 8 rfl rfl
theorem mj_cws_7 : ∀ e ∈ mj_mL_7, mj_cW e ∈ mj_tbl := List.forall_mem_cons.mpr ⟨mj_cw112, List.forall_mem_cons.mpr ⟨mj_cw113, List.forall_mem_cons.mpr ⟨mj_cw114, List.forall_mem_cons.mpr ⟨mj_cw115, List.forall_mem_cons.mpr ⟨mj_cw116, List.forall_mem_cons.mpr ⟨mj_cw117, List.forall_mem_cons.mpr ⟨mj_cw118, List.forall_mem_cons.mpr ⟨mj_cw119, List.forall_mem_cons.mpr ⟨mj_cw120, List.forall_mem_cons.mpr ⟨mj_cw121, List.forall_mem_cons.mpr ⟨mj_cw122, List.forall_mem_cons.mpr ⟨mj_cw123, List.forall_mem_cons.mpr ⟨mj_cw124, List.forall_mem_cons.mpr ⟨mj_cw125, List.forall_mem_cons.mpr ⟨mj_cw126, List.forall_mem_cons.mpr ⟨mj_cw127, fun _ h => absurd h List.not_mem_nil⟩⟩⟩⟩⟩⟩⟩⟩⟩⟩⟩⟩⟩⟩⟩⟩
theorem mj_cw128 : mj_cW (yX8_holds, cX8_holds, 2, (some .int), 8, 1, 7, 2) ∈ mj_tbl := mj_inT1 mj_t5 16 rfl rfl
theorem mj_cw129 : mj_cW (yX8_says, cX8_says, 6, (some .int), 8, 2, 7, 2) ∈ mj_tbl := mj_inT1 mj_t5 20 rfl rfl
theorem mj_cw130 : mj_cW (yX8_wanted, cX8_wanted, 2, (some .int), 8, 1, 7, 2) ∈ mj_tbl := mj_inT1 mj_t5 84 rfl rfl
theorem mj_cw131 : mj_cW (yX8_intAt, cX8_intAt, 3, (some .int), 8, 2, 7, 1) ∈ mj_tbl := mj_inT1 mj_t6 4 rfl rfl
theorem mj_cw132 : mj_cW (yX8_addsGrown, cX8_addsGrown, 6, (some .int), 8, 4, 7, 1) ∈ mj_tbl := mj_inT1 mj_t5 36 rfl rfl
theorem mj_cw133 : mj_cW (yX8_addsChild, cX8_addsChild, 7, (some .int), 8, 5, 7, 1) ∈ mj_tbl := mj_inT1 mj_t5 44 rfl rfl
theorem mj_cw134 : mj_cW (yX8_grown, cX8_grown, 5, (some .int), 8, 4, 7, 2) ∈ mj_tbl := mj_inT1 mj_t5 28 rfl rfl
theorem mj_cw135 : mj_cW (yX8_child, cX8_child, 6, (some .int), 8, 5, 7, 2) ∈ mj_tbl := mj_inT1 mj_t5 40 rfl rfl
theorem mj_cw136 : mj_cW (yX8_flood, cX8_flood, 3, (some .int), 8, 1, 7, 2) ∈ mj_tbl := mj_inT1 mj_t5 48 rfl rfl
theorem mj_cw137 : mj_cW (yX8_age, cX8_age, 4, (some .int), 8, 2, 7, 2) ∈ mj_tbl := mj_inT1 mj_t5 52 rfl rfl
theorem mj_cw138 : mj_cW (yX8_more, cX8_more, 5, (some .int), 8, 3, 7, 1) ∈ mj_tbl := mj_inT1 mj_t5 68 rfl rfl
theorem mj_cw139 : mj_cW (yX8_gives, cX8_gives, 4, (some .int), 8, 3, 7, 2) ∈ mj_tbl := mj_inT1 mj_t5 64 rfl rfl
theorem mj_cw140 : mj_cW (yX8_gift, cX8_gift, 4, (some .int), 8, 3, 7, 3) ∈ mj_tbl := mj_inT1 mj_t5 60 rfl rfl
theorem mj_cw141 : mj_cW (yX8_charge, cX8_charge, 4, (some .int), 8, 1, 7, 1) ∈ mj_tbl := mj_inT1 mj_t5 24 rfl rfl
theorem mj_cw142 : mj_cW (yX8_grownOf, cX8_grownOf, 3, (some .int), 8, 2, 7, 2) ∈ mj_tbl := mj_inT1 mj_t5 72 rfl rfl
theorem mj_cw143 : mj_cW (yX8_childOf, cX8_childOf, 3, (some .int), 8, 2, 7, 2) ∈ mj_tbl := mj_inT1 mj_t5 76 rfl rfl
theorem mj_cws_8 : ∀ e ∈ mj_mL_8, mj_cW e ∈ mj_tbl := List.forall_mem_cons.mpr ⟨mj_cw128, List.forall_mem_cons.mpr ⟨mj_cw129, List.forall_mem_cons.mpr ⟨mj_cw130, List.forall_mem_cons.mpr ⟨mj_cw131, List.forall_mem_cons.mpr ⟨mj_cw132, List.forall_mem_cons.mpr ⟨mj_cw133, List.forall_mem_cons.mpr ⟨mj_cw134, List.forall_mem_cons.mpr ⟨mj_cw135, List.forall_mem_cons.mpr ⟨mj_cw136, List.forall_mem_cons.mpr ⟨mj_cw137, List.forall_mem_cons.mpr ⟨mj_cw138, List.forall_mem_cons.mpr ⟨mj_cw139, List.forall_mem_cons.mpr ⟨mj_cw140, List.forall_mem_cons.mpr ⟨mj_cw141, List.forall_mem_cons.mpr ⟨mj_cw142, List.forall_mem_cons.mpr ⟨mj_cw143, fun _ h => absurd h List.not_mem_nil⟩⟩⟩⟩⟩⟩⟩⟩⟩⟩⟩⟩⟩⟩⟩⟩
theorem mj_cw144 : mj_cW (yX8_wrong, cX8_wrong, 2, (some .boolean), 8, 1, 7, 1) ∈ mj_tbl := mj_inT1 mj_t5 104 rfl rfl
theorem mj_cw145 : mj_cW (yX8_stands, cX8_stands, 4, (some .boolean), 8, 1, 7, 1) ∈ mj_tbl := mj_inT1 mj_t5 100 rfl rfl
theorem mj_cw146 : mj_cW (yX8_word, cX8_word, 6, (some .int), 8, 0, 7, 1) ∈ mj_tbl := mj_inT1 mj_t5 108 rfl rfl
theorem mj_cw147 : mj_cW (yX8_isDigit, cX8_isDigit, 1, (some .boolean), 8, 0, 7, 1) ∈ mj_tbl := mj_inT1 mj_t5 116 rfl rfl
theorem mj_cw148 : mj_cW (yX8_reads, cX8_reads, 2, (some .boolean), 8, 0, 7, 2) ∈ mj_tbl := mj_inT1 mj_t5 112 rfl rfl
theorem mj_cw149 : mj_cW (yX8_isSo, cX8_isSo, 3, (some .boolean), 8, 2, 7, 1) ∈ mj_tbl := mj_inT1 mj_t5 120 rfl rfl
theorem mj_cw150 : mj_cW (yX8_item, cX8_item, 4, (some .boolean), 8, 0, 7, 3) ∈ mj_tbl := mj_inT1 mj_t5 96 rfl rfl
theorem mj_cw151 : mj_cW (yX8_carries, cX8_carries, 7, (some .int), 8, 5, 7, 1) ∈ mj_tbl := mj_inT1 mj_t5 92 rfl rfl
theorem mj_cw152 : mj_cW (yX8_all, cX8_all, 4, none, 8, 2, 7, 2) ∈ mj_tbl := mj_inT1 mj_t5 88 rfl rfl
theorem mj_cw153 : mj_cW (yX8_parish, cX8_parish, 5, (some .int), 8, 1, 7, 4) ∈ mj_tbl := mj_inT1 mj_t5 80 rfl rfl
theorem mj_cw154 : mj_cW (yX8_fault, cX8_fault, 1, (some .int), 8, 0, 7, 1) ∈ mj_tbl := mj_inT1 mj_t5 124 rfl rfl
theorem mj_cw155 : mj_cW (yX8_pullBy, cX8_pullBy, 8, (some .int), 8, 3, 7, 1) ∈ mj_tbl := mj_inT1 mj_t5 136 rfl rfl
theorem mj_cw156 : mj_cW (yX8_pulls, cX8_pulls, 3, (some .int), 8, 2, 7, 2) ∈ mj_tbl := mj_inT1 mj_t5 132 rfl rfl
theorem mj_cw157 : mj_cW (yX8_settles, cX8_settles, 7, none, 8, 1, 7, 3) ∈ mj_tbl := mj_inT1 mj_t5 148 rfl rfl
theorem mj_cw158 : mj_cW (yX8_pull, cX8_pull, 4, (some .int), 8, 3, 7, 3) ∈ mj_tbl := mj_inT1 mj_t5 128 rfl rfl
theorem mj_cw159 : mj_cW (yX8_chosen, cX8_chosen, 2, (some .int), 8, 1, 7, 1) ∈ mj_tbl := mj_inT1 mj_t5 152 rfl rfl
theorem mj_cws_9 : ∀ e ∈ mj_mL_9, mj_cW e ∈ mj_tbl := List.forall_mem_cons.mpr ⟨mj_cw144, List.forall_mem_cons.mpr ⟨mj_cw145, List.forall_mem_cons.mpr ⟨mj_cw146, List.forall_mem_cons.mpr ⟨mj_cw147, List.forall_mem_cons.mpr ⟨mj_cw148, List.forall_mem_cons.mpr ⟨mj_cw149, List.forall_mem_cons.mpr ⟨mj_cw150, List.forall_mem_cons.mpr ⟨mj_cw151, List.forall_mem_cons.mpr ⟨mj_cw152, List.forall_mem_cons.mpr ⟨mj_cw153, List.forall_mem_cons.mpr ⟨mj_cw154, List.forall_mem_cons.mpr ⟨mj_cw155, List.forall_mem_cons.mpr ⟨mj_cw156, List.forall_mem_cons.mpr ⟨mj_cw157, List.forall_mem_cons.mpr ⟨mj_cw158, List.forall_mem_cons.mpr ⟨mj_cw159, fun _ h => absurd h List.not_mem_nil⟩⟩⟩⟩⟩⟩⟩⟩⟩⟩⟩⟩⟩⟩⟩⟩
theorem mj_cw160 : mj_cW (yX8_chooses, cX8_chooses, 3, (some .int), 8, 2, 7, 4) ∈ mj_tbl := mj_inT1 mj_t5 140 rfl rfl
theorem mj_cw161 : mj_cW (yX8_setBy, cX8_setBy, 5, (some .int), 8, 2, 7, 4) ∈ mj_tbl := mj_inT1 mj_t5 164 rfl rfl
theorem mj_cw162 : mj_cW (yX8_many, cX8_many, 4, (some .int), 8, 1, 7, 1) ∈ mj_tbl := mj_inT1 mj_t5 168 rfl rfl
theorem mj_cw163 : mj_cW (yX8_chargeThen, cX8_chargeThen, 2, (some .int), 8, 1, 7, 5) ∈ mj_tbl := mj_inT1 mj_t5 160 rfl rfl
theorem mj_cw164 : mj_cW (yX8_by, cX8_by, 3, (some .int), 8, 2, 7, 6) ∈ mj_tbl := mj_inT1 mj_t5 156 rfl rfl
theorem mj_cw165 : mj_cW (yX8_favourite, cX8_favourite, 7, (some .int), 8, 1, 7, 6) ∈ mj_tbl := mj_inT1 mj_t5 172 rfl rfl
theorem mj_cw166 : mj_cW (yX8_asks, cX8_asks, 4, (some .int), 8, 1, 7, 3) ∈ mj_tbl := mj_inT1 mj_t5 184 rfl rfl
theorem mj_cw167 : mj_cW (yX8_leastOf, cX8_leastOf, 4, (some .int), 8, 1, 7, 1) ∈ mj_tbl := mj_inT1 mj_t5 192 rfl rfl
theorem mj_cw168 : mj_cW (yX8_hasMany, cX8_hasMany, 4, (some .int), 8, 1, 7, 1) ∈ mj_tbl := mj_inT1 mj_t5 188 rfl rfl
theorem mj_cw169 : mj_cW (yX8_parts, cX8_parts, 5, none, 8, 0, 7, 4) ∈ mj_tbl := mj_inT1 mj_t5 180 rfl rfl
theorem mj_cw170 : mj_cW (yX8_picks, cX8_picks, 2, (some .int), 8, 1, 7, 5) ∈ mj_tbl := mj_inT1 mj_t5 176 rfl rfl
theorem mj_cw171 : mj_cW (yX8_serves, cX8_serves, 6, (some .boolean), 8, 4, 7, 4) ∈ mj_tbl := mj_inT1 mj_t5 200 rfl rfl
theorem mj_cw172 : mj_cW (yX8_woo, cX8_woo, 5, (some .int), 8, 3, 7, 5) ∈ mj_tbl := mj_inT1 mj_t5 196 rfl rfl
theorem mj_cw173 : mj_cW (yX8_pullWith, cX8_pullWith, 4, (some .int), 8, 3, 7, 2) ∈ mj_tbl := mj_inT1 mj_t5 212 rfl rfl
theorem mj_cw174 : mj_cW (yX8_isAhead, cX8_isAhead, 7, (some .boolean), 8, 4, 7, 3) ∈ mj_tbl := mj_inT1 mj_t5 208 rfl rfl
theorem mj_cw175 : mj_cW (yX8_two, cX8_two, 8, (some .int), 8, 4, 7, 4) ∈ mj_tbl := mj_inT1 mj_t5 204 rfl rfl
theorem mj_cws_10 : ∀ e ∈ mj_mL_10, mj_cW e ∈ mj_tbl := List.forall_mem_cons.mpr ⟨mj_cw160, List.forall_mem_cons.mpr ⟨mj_cw161, List.forall_mem_cons.mpr ⟨mj_cw162, List.forall_mem_cons.mpr ⟨mj_cw163, List.forall_mem_cons.mpr ⟨mj_cw164, List.forall_mem_cons.mpr ⟨mj_cw165, List.forall_mem_cons.mpr ⟨mj_cw166, List.forall_mem_cons.mpr ⟨mj_cw167, List.forall_mem_cons.mpr ⟨mj_cw168, List.forall_mem_cons.mpr ⟨mj_cw169, List.forall_mem_cons.mpr ⟨mj_cw170, List.forall_mem_cons.mpr ⟨mj_cw171, List.forall_mem_cons.mpr ⟨mj_cw172, List.forall_mem_cons.mpr ⟨mj_cw173, List.forall_mem_cons.mpr ⟨mj_cw174, List.forall_mem_cons.mpr ⟨mj_cw175, fun _ h => absurd h List.not_mem_nil⟩⟩⟩⟩⟩⟩⟩⟩⟩⟩⟩⟩⟩⟩⟩⟩
theorem mj_cw176 : mj_cW (yX8_tastes, cX8_tastes, 8, (some .int), 8, 4, 7, 4) ∈ mj_tbl := mj_inT1 mj_t5 216 rfl rfl
theorem mj_cw177 : mj_cW (yX8_areTraders, cX8_areTraders, 5, (some .boolean), 8, 2, 7, 4) ∈ mj_tbl := mj_inT1 mj_t5 224 rfl rfl
theorem mj_cw178 : mj_cW (yX8_trades, cX8_trades, 6, (some .int), 8, 1, 7, 5) ∈ mj_tbl := mj_inT1 mj_t5 220 rfl rfl
theorem mj_cw179 : mj_cW (yX8_choosesInTruth, cX8_choosesInTruth, 2, (some .int), 8, 1, 7, 4) ∈ mj_tbl := mj_inT1 mj_t5 236 rfl rfl
theorem mj_cw180 : mj_cW (yX8_passes, cX8_passes, 3, none, 8, 0, 7, 5) ∈ mj_tbl := mj_inT1 mj_t5 232 rfl rfl
theorem mj_cw181 : mj_cW (yX8_ahead, cX8_ahead, 5, (some .int), 8, 3, 7, 6) ∈ mj_tbl := mj_inT1 mj_t5 228 rfl rfl
theorem mj_cw182 : mj_cW (yX8_judge, cX8_judge, 5, (some .int), 8, 2, 7, 4) ∈ mj_tbl := mj_inT1 mj_t6 0 rfl rfl
theorem mj_cw183 : mj_cW (yX8_ninth, cX8_ninth, 2, (some .int), 8, 1, 7, 2) ∈ mj_tbl := mj_inT1 mj_t6 8 rfl rfl
theorem mj_cw184 : mj_cW (yX8_choose, cX8_choose, 3, (some .int), 8, 1, 7, 5) ∈ mj_tbl := mj_inT1 mj_t6 12 rfl rfl
theorem mj_cw185 : mj_cW (yX8_years, cX8_years, 3, (some .int), 8, 1, 7, 6) ∈ mj_tbl := mj_inT1 mj_t6 16 rfl rfl
theorem mj_cw186 : mj_cW (yX8_draw, cX8_draw, 2, (some .int), 8, 1, 7, 1) ∈ mj_tbl := mj_inT1 mj_t6 24 rfl rfl
theorem mj_cw187 : mj_cW (yX8_together, cX8_together, 5, (some .int), 8, 2, 7, 1) ∈ mj_tbl := mj_inT1 mj_t6 29 rfl rfl
theorem mj_cw188 : mj_cW (yX8_drawn, cX8_drawn, 6, (some .int), 8, 1, 7, 6) ∈ mj_tbl := mj_inT1 mj_t6 20 rfl rfl
theorem mj_cw189 : mj_cW (yX8_seed, cX8_seed, 3, (some .int), 8, 1, 7, 1) ∈ mj_tbl := mj_inT1 mj_t6 33 rfl rfl
theorem mj_cw190 : mj_cW (yX8_body, cX8_body, 2, none, 8, 1, 7, 1) ∈ mj_tbl := mj_inT1 mj_t6 45 rfl rfl
theorem mj_cw191 : mj_cW (yX8_playing, cX8_playing, 6, (some .int), 8, 2, 7, 2) ∈ mj_tbl := mj_inT1 mj_t6 41 rfl rfl
theorem mj_cws_11 : ∀ e ∈ mj_mL_11, mj_cW e ∈ mj_tbl := List.forall_mem_cons.mpr ⟨mj_cw176, List.forall_mem_cons.mpr ⟨mj_cw177, List.forall_mem_cons.mpr ⟨mj_cw178, List.forall_mem_cons.mpr ⟨mj_cw179, List.forall_mem_cons.mpr ⟨mj_cw180, List.forall_mem_cons.mpr ⟨mj_cw181, List.forall_mem_cons.mpr ⟨mj_cw182, List.forall_mem_cons.mpr ⟨mj_cw183, List.forall_mem_cons.mpr ⟨mj_cw184, List.forall_mem_cons.mpr ⟨mj_cw185, List.forall_mem_cons.mpr ⟨mj_cw186, List.forall_mem_cons.mpr ⟨mj_cw187, List.forall_mem_cons.mpr ⟨mj_cw188, List.forall_mem_cons.mpr ⟨mj_cw189, List.forall_mem_cons.mpr ⟨mj_cw190, List.forall_mem_cons.mpr ⟨mj_cw191, fun _ h => absurd h List.not_mem_nil⟩⟩⟩⟩⟩⟩⟩⟩⟩⟩⟩⟩⟩⟩⟩⟩
theorem mj_cw192 : mj_cW (yX8_giving, cX8_giving, 7, (some .int), 8, 2, 7, 3) ∈ mj_tbl := mj_inT1 mj_t6 49 rfl rfl
theorem mj_cw193 : mj_cW (yX8_bowing, cX8_bowing, 5, (some .int), 8, 2, 7, 4) ∈ mj_tbl := mj_inT1 mj_t6 53 rfl rfl
theorem mj_cw194 : mj_cW (yX8_act, cX8_act, 4, (some .int), 8, 3, 7, 5) ∈ mj_tbl := mj_inT1 mj_t6 37 rfl rfl
theorem mj_cw195 : mj_cW (yX8_trace, cX8_trace, 2, (some .int), 8, 1, 7, 1) ∈ mj_tbl := mj_inT1 mj_t6 57 rfl rfl
theorem mj_cw196 : mj_cW (yX8_image, cX8_image, 1, (some .int), 8, 0, 7, 3) ∈ mj_tbl := mj_inT1 mj_t6 61 rfl rfl
theorem mj_cw197 : mj_cW (yX8_restore, cX8_restore, 2, (some .int), 8, 0, 7, 3) ∈ mj_tbl := mj_inT1 mj_t6 65 rfl rfl
theorem mj_cw198 : mj_cW (yX8_allLiking, cX8_allLiking, 4, (some .int), 8, 0, 7, 1) ∈ mj_tbl := mj_inT1 mj_t6 73 rfl rfl
theorem mj_cw199 : mj_cW (yX8_status, cX8_status, 2, (some .int), 8, 1, 7, 2) ∈ mj_tbl := mj_inT1 mj_t6 69 rfl rfl
theorem mj_cw200 : mj_cW (yJ6_bitCount_0f7a4, cJ6_bitCount_0f7a4, 1, (some .int), 9, 1, 30, 1) ∈ mj_tbl := mj_inT1 mj_t3 136 rfl rfl
theorem mj_cw201 : mj_cW (yJ0_length_8abf5, cJ0_length_8abf5, 1, (some .int), 11, 0, 20, 2) ∈ mj_tbl := mj_inT1 mj_t2 223 rfl rfl
theorem mj_cw202 : mj_cW (yJ0_charAt_5068e, cJ0_charAt_5068e, 2, (some .char), 11, 1, 20, 4) ∈ mj_tbl := mj_inT1 mj_t2 239 rfl rfl
theorem mj_cw203 : mj_cW (yJ0_coder_7d493, cJ0_coder_7d493, 1, (some .byte), 11, 0, 20, 1) ∈ mj_tbl := mj_inT1 mj_t2 227 rfl rfl
theorem mj_cw204 : mj_cW (yJ0_isLatin1_aae02, cJ0_isLatin1_aae02, 1, (some .boolean), 11, 0, 20, 1) ∈ mj_tbl := mj_inT1 mj_t3 3 rfl rfl
theorem mj_cw205 : mj_cW (yJ0_checkIndex_df160, cJ0_checkIndex_df160, 2, none, 11, 2, 30, 2) ∈ mj_tbl := mj_inT1 mj_t3 9 rfl rfl
theorem mj_cw206 : mj_cW (yJ1_charAt_3b067, cJ1_charAt_3b067, 2, (some .char), 12, 2, 30, 3) ∈ mj_tbl := mj_inT1 mj_t3 6 rfl rfl
theorem mj_cw207 : mj_cW (yJ3_checkIndex_8e157, cJ3_checkIndex_8e157, 3, (some .int), 13, 3, 30, 1) ∈ mj_tbl := mj_inT1 mj_t3 14 rfl rfl
theorem mj_cws_12 : ∀ e ∈ mj_mL_12, mj_cW e ∈ mj_tbl := List.forall_mem_cons.mpr ⟨mj_cw192, List.forall_mem_cons.mpr ⟨mj_cw193, List.forall_mem_cons.mpr ⟨mj_cw194, List.forall_mem_cons.mpr ⟨mj_cw195, List.forall_mem_cons.mpr ⟨mj_cw196, List.forall_mem_cons.mpr ⟨mj_cw197, List.forall_mem_cons.mpr ⟨mj_cw198, List.forall_mem_cons.mpr ⟨mj_cw199, List.forall_mem_cons.mpr ⟨mj_cw200, List.forall_mem_cons.mpr ⟨mj_cw201, List.forall_mem_cons.mpr ⟨mj_cw202, List.forall_mem_cons.mpr ⟨mj_cw203, List.forall_mem_cons.mpr ⟨mj_cw204, List.forall_mem_cons.mpr ⟨mj_cw205, List.forall_mem_cons.mpr ⟨mj_cw206, List.forall_mem_cons.mpr ⟨mj_cw207, fun _ h => absurd h List.not_mem_nil⟩⟩⟩⟩⟩⟩⟩⟩⟩⟩⟩⟩⟩⟩⟩⟩
set_option maxRecDepth 100000 in
theorem mj_mc_0 : (mj_mL_0.zip mj_mP_0).all (fun q => mj_mW q.1 q.2) = true := by decide +kernel
set_option maxRecDepth 100000 in
theorem mj_mc_1 : (mj_mL_1.zip mj_mP_1).all (fun q => mj_mW q.1 q.2) = true := by decide +kernel
set_option maxRecDepth 100000 in
theorem mj_mc_2 : (mj_mL_2.zip mj_mP_2).all (fun q => mj_mW q.1 q.2) = true := by decide +kernel
set_option maxRecDepth 100000 in
theorem mj_mc_3 : (mj_mL_3.zip mj_mP_3).all (fun q => mj_mW q.1 q.2) = true := by decide +kernel
set_option maxRecDepth 100000 in
theorem mj_mc_4 : (mj_mL_4.zip mj_mP_4).all (fun q => mj_mW q.1 q.2) = true := by decide +kernel
set_option maxRecDepth 100000 in
theorem mj_mc_5 : (mj_mL_5.zip mj_mP_5).all (fun q => mj_mW q.1 q.2) = true := by decide +kernel
set_option maxRecDepth 100000 in
theorem mj_mc_6 : (mj_mL_6.zip mj_mP_6).all (fun q => mj_mW q.1 q.2) = true := by decide +kernel
set_option maxRecDepth 100000 in
theorem mj_mc_7 : (mj_mL_7.zip mj_mP_7).all (fun q => mj_mW q.1 q.2) = true := by decide +kernel
set_option maxRecDepth 100000 in
theorem mj_mc_8 : (mj_mL_8.zip mj_mP_8).all (fun q => mj_mW q.1 q.2) = true := by decide +kernel
set_option maxRecDepth 100000 in
theorem mj_mc_9 : (mj_mL_9.zip mj_mP_9).all (fun q => mj_mW q.1 q.2) = true := by decide +kernel
set_option maxRecDepth 100000 in
theorem mj_mc_10 : (mj_mL_10.zip mj_mP_10).all (fun q => mj_mW q.1 q.2) = true := by decide +kernel
set_option maxRecDepth 100000 in
theorem mj_mc_11 : (mj_mL_11.zip mj_mP_11).all (fun q => mj_mW q.1 q.2) = true := by decide +kernel
set_option maxRecDepth 100000 in
theorem mj_mc_12 : (mj_mL_12.zip mj_mP_12).all (fun q => mj_mW q.1 q.2) = true := by decide +kernel
theorem mj_lawE : mj_mL[mj_law]? = some mj_lE := rfl
set_option maxRecDepth 100000 in
theorem mj_mAlen : mj_mA.length = mj_law := by decide +kernel
def mj_gE (e : mj_M) : Prop := mj_cW e ∈ mj_tbl ∧ ∃ ps, mj_mW e ps = true
theorem mj_g_0 : ∀ e ∈ mj_mL_0, mj_gE e := fun e h => ⟨mj_cws_0 e h, mj_allP (f := mj_mW) rfl mj_mc_0 h⟩
theorem mj_g_1 : ∀ e ∈ mj_mL_1, mj_gE e := fun e h => ⟨mj_cws_1 e h, mj_allP (f := mj_mW) rfl mj_mc_1 h⟩
theorem mj_g_2 : ∀ e ∈ mj_mL_2, mj_gE e := fun e h => ⟨mj_cws_2 e h, mj_allP (f := mj_mW) rfl mj_mc_2 h⟩
theorem mj_g_3 : ∀ e ∈ mj_mL_3, mj_gE e := fun e h => ⟨mj_cws_3 e h, mj_allP (f := mj_mW) rfl mj_mc_3 h⟩
theorem mj_g_4 : ∀ e ∈ mj_mL_4, mj_gE e := fun e h => ⟨mj_cws_4 e h, mj_allP (f := mj_mW) rfl mj_mc_4 h⟩
theorem mj_g_5 : ∀ e ∈ mj_mL_5, mj_gE e := fun e h => ⟨mj_cws_5 e h, mj_allP (f := mj_mW) rfl mj_mc_5 h⟩
theorem mj_g_6 : ∀ e ∈ mj_mL_6, mj_gE e := fun e h => ⟨mj_cws_6 e h, mj_allP (f := mj_mW) rfl mj_mc_6 h⟩
theorem mj_g_7 : ∀ e ∈ mj_mL_7, mj_gE e := fun e h => ⟨mj_cws_7 e h, mj_allP (f := mj_mW) rfl mj_mc_7 h⟩
theorem mj_g_8 : ∀ e ∈ mj_mL_8, mj_gE e := fun e h => ⟨mj_cws_8 e h, mj_allP (f := mj_mW) rfl mj_mc_8 h⟩
theorem mj_g_9 : ∀ e ∈ mj_mL_9, mj_gE e := fun e h => ⟨mj_cws_9 e h, mj_allP (f := mj_mW) rfl mj_mc_9 h⟩
theorem mj_g_10 : ∀ e ∈ mj_mL_10, mj_gE e := fun e h => ⟨mj_cws_10 e h, mj_allP (f := mj_mW) rfl mj_mc_10 h⟩
theorem mj_g_11 : ∀ e ∈ mj_mL_11, mj_gE e := fun e h => ⟨mj_cws_11 e h, mj_allP (f := mj_mW) rfl mj_mc_11 h⟩
theorem mj_g_12 : ∀ e ∈ mj_mL_12, mj_gE e := fun e h => ⟨mj_cws_12 e h, mj_allP (f := mj_mW) rfl mj_mc_12 h⟩
theorem mj_gA : ∀ e ∈ mj_mA, mj_gE e := List.forall_mem_append.mpr ⟨mj_g_0, List.forall_mem_append.mpr ⟨mj_g_1, List.forall_mem_append.mpr ⟨mj_g_2, List.forall_mem_append.mpr ⟨mj_g_3, List.forall_mem_append.mpr ⟨mj_g_4, List.forall_mem_append.mpr ⟨mj_g_5, List.forall_mem_append.mpr ⟨mj_g_6, List.forall_mem_append.mpr ⟨mj_g_7, List.forall_mem_append.mpr ⟨mj_g_8, List.forall_mem_append.mpr ⟨mj_g_9, List.forall_mem_append.mpr ⟨mj_g_10, List.forall_mem_append.mpr ⟨mj_g_11, mj_g_12⟩⟩⟩⟩⟩⟩⟩⟩⟩⟩⟩⟩
theorem mj_gM {m : Nat} {e : mj_M} (h : mj_e m = some e) (hl : mj_base m ≠ mj_law) : mj_gE e := by
  unfold mj_e mj_mL at h
  have hlt := (List.getElem?_eq_some_iff.mp h).1
  rw [List.length_append, mj_mAlen] at hlt
  have h1 : mj_base m < mj_mA.length := by rw [mj_mAlen]; simp only [List.length_cons, List.length_nil] at hlt; omega
  rw [List.getElem?_append_left h1] at h
  exact mj_gA e (List.mem_of_getElem? h)
set_option maxRecDepth 100000 in
theorem mj_uw_0 : ((u_ws RX0 TX0 4).zip [120, 122, 124, 126]).all (fun q => mj_inT q.2 q.1) = true := by decide +kernel
theorem mj_uv_0 : ∀ w ∈ u_ws RX0 TX0 4, w ∈ mj_tbl := fun w h => (mj_allC (f := fun a b => mj_inT b a) rfl mj_uw_0 h).elim fun _ h => mj_inT_mem h
set_option maxRecDepth 100000 in
theorem mj_uw_1 : ((u_ws RX2 TX2 16).zip [171, 173, 175, 177, 179, 181, 183, 185, 187, 189, 191, 193, 195, 197, 199, 201]).all (fun q => mj_inT q.2 q.1) = true := by decide +kernel
theorem mj_uv_1 : ∀ w ∈ u_ws RX2 TX2 16, w ∈ mj_tbl := fun w h => (mj_allC (f := fun a b => mj_inT b a) rfl mj_uw_1 h).elim fun _ h => mj_inT_mem h
set_option maxRecDepth 100000 in
theorem mj_uw_2 : ((u_ws RX3 TX3 2).zip [215, 217]).all (fun q => mj_inT q.2 q.1) = true := by decide +kernel
theorem mj_uv_2 : ∀ w ∈ u_ws RX3 TX3 2, w ∈ mj_tbl := fun w h => (mj_allC (f := fun a b => mj_inT b a) rfl mj_uw_2 h).elim fun _ h => mj_inT_mem h
set_option maxRecDepth 100000 in
theorem mj_uw_3 : ((u_ws RX4 TX4 3).zip [230, 232, 234]).all (fun q => mj_inT q.2 q.1) = true := by decide +kernel
theorem mj_uv_3 : ∀ w ∈ u_ws RX4 TX4 3, w ∈ mj_tbl := fun w h => (mj_allC (f := fun a b => mj_inT b a) rfl mj_uw_3 h).elim fun _ h => mj_inT_mem h
set_option maxRecDepth 100000 in
theorem mj_uw_4 : ((u_ws RX5 TX5 4).zip [273, 275, 277, 279]).all (fun q => mj_inT q.2 q.1) = true := by decide +kernel
theorem mj_uv_4 : ∀ w ∈ u_ws RX5 TX5 4, w ∈ mj_tbl := fun w h => (mj_allC (f := fun a b => mj_inT b a) rfl mj_uw_4 h).elim fun _ h => mj_inT_mem h
set_option maxRecDepth 100000 in
theorem mj_uw_5 : ((u_ws RX6 TX6 5).zip [249, 251, 253, 255, 257]).all (fun q => mj_inT q.2 q.1) = true := by decide +kernel
theorem mj_uv_5 : ∀ w ∈ u_ws RX6 TX6 5, w ∈ mj_tbl := fun w h => (mj_allC (f := fun a b => mj_inT b a) rfl mj_uw_5 h).elim fun _ h => mj_inT_mem h
set_option maxRecDepth 100000 in
theorem mj_uw_6 : ((u_ws RX7 TX7 10).zip [293, 295, 297, 299, 301, 303, 305, 307, 309, 311]).all (fun q => mj_inT q.2 q.1) = true := by decide +kernel
theorem mj_uv_6 : ∀ w ∈ u_ws RX7 TX7 10, w ∈ mj_tbl := fun w h => (mj_allC (f := fun a b => mj_inT b a) rfl mj_uw_6 h).elim fun _ h => mj_inT_mem h
set_option maxRecDepth 100000 in
theorem mj_uw_7 : ((u_ws RX8 TX8 43).zip [926, 928, 930, 932, 934, 936, 938, 940, 942, 944, 946, 948, 950, 952, 954, 956, 958, 960, 962, 964, 966, 968, 970, 972, 974, 976, 978, 980, 982, 984, 986, 988, 990, 992, 994, 996, 998, 1000, 1002, 1004, 1006, 1008, 1010]).all (fun q => mj_inT q.2 q.1) = true := by decide +kernel
theorem mj_uv_7 : ∀ w ∈ u_ws RX8 TX8 43, w ∈ mj_tbl := fun w h => (mj_allC (f := fun a b => mj_inT b a) rfl mj_uw_7 h).elim fun _ h => mj_inT_mem h
theorem mj_cl_in {c : Nat} (h : c < 8) : ∀ w ∈ u_ws (mj_clR c) (mj_clT c) (mj_clN c), w ∈ mj_tbl := by
  match c, h with
  | 0, _ => exact mj_uv_0
  | 1, _ => exact mj_uv_1
  | 2, _ => exact mj_uv_2
  | 3, _ => exact mj_uv_3
  | 4, _ => exact mj_uv_4
  | 5, _ => exact mj_uv_5
  | 6, _ => exact mj_uv_6
  | 7, _ => exact mj_uv_7
theorem mj_cl_at {c : Nat} (h : c < 8) : vwCl[c]? = some (mj_clR c, mj_clT c, mj_clN c) := by
  match c, h with
  | 0, _ => rfl
  | 1, _ => rfl
  | 2, _ => rfl
  | 3, _ => rfl
  | 4, _ => rfl
  | 5, _ => rfl
  | 6, _ => rfl
  | 7, _ => rfl
theorem mj_cl_ty {c : Nat} (h : c < 8) : ∀ k, k < mj_clN c → parseFieldDescriptor (mj_clT c k).2.2.1 = some (mj_clY c k) := by
  match c, h with
  | 0, _ => exact tyX0_ok
  | 1, _ => exact tyX2_ok
  | 2, _ => exact tyX3_ok
  | 3, _ => exact tyX4_ok
  | 4, _ => exact tyX5_ok
  | 5, _ => exact tyX6_ok
  | 6, _ => exact tyX7_ok
  | 7, _ => exact tyX8_ok
theorem mj_cl_nm {c : Nat} (h : c < 8) : ∀ a, a < mj_clN c → ∀ b, b < mj_clN c → a ≠ b → (mj_clT c a).2.1 ≠ (mj_clT c b).2.1 := by
  match c, h with
  | 0, _ => exact nmX0
  | 1, _ => exact nmX2
  | 2, _ => exact nmX3
  | 3, _ => exact nmX4
  | 4, _ => exact nmX5
  | 5, _ => exact nmX6
  | 6, _ => exact nmX7
  | 7, _ => exact nmX8
theorem mj_cl_N {c : Nat} (h : c < 8) : mj_clN c < 100 := by
  match c, h with
  | 0, _ => decide
  | 1, _ => decide
  | 2, _ => decide
  | 3, _ => decide
  | 4, _ => decide
  | 5, _ => decide
  | 6, _ => decide
  | 7, _ => decide
/-- the shapes of the cells: an object (its class in vwCl; a field: none a number, some k the cell k); an array (0 ints, 1 longs, 2 the shelves) -/
def mj_shL : List ((Nat × List (Option Nat)) ⊕ (Nat × Nat)) := [
  .inl (6, [some 1, some 2, some 3, none, some 7, some 8, some 9, some 59, some 61, none]),
  .inl (1, [none, none, none, none, none, some 10, some 11, some 12, some 13, some 14, some 15, some 16, some 17, some 18, some 19, some 4]),
  .inl (1, [none, none, none, none, none, some 20, some 21, some 22, some 23, some 24, some 25, some 26, some 27, some 28, some 29, some 5]),
  .inl (1, [none, none, none, none, none, some 30, some 31, some 32, some 33, some 34, some 35, some 36, some 37, some 38, some 39, some 6]),
  .inl (0, [none, none, none, none]),
  .inl (0, [none, none, none, none]),
  .inl (0, [none, none, none, none]),
  .inr (2, 8),
  .inl (2, [some 56, some 57]),
  .inl (3, [none, some 58, none]),
  .inr (0, 8),
  .inr (0, 8),
  .inr (0, 8),
  .inr (0, 8),
  .inr (0, 8),
  .inr (0, 6),
  .inr (0, 6),
  .inr (0, 6),
  .inr (0, 6),
  .inr (0, 48),
  .inr (0, 8),
  .inr (0, 8),
  .inr (0, 8),
  .inr (0, 8),
  .inr (0, 8),
  .inr (0, 6),
  .inr (0, 6),
  .inr (0, 6),
  .inr (0, 6),
  .inr (0, 48),
  .inr (0, 8),
  .inr (0, 8),
  .inr (0, 8),
  .inr (0, 8),
  .inr (0, 8),
  .inr (0, 6),
  .inr (0, 6),
  .inr (0, 6),
  .inr (0, 6),
  .inr (0, 48),
  .inl (4, [none, none, none, some 48]),
  .inl (4, [none, none, none, some 49]),
  .inl (4, [none, none, none, some 50]),
  .inl (4, [none, none, none, some 51]),
  .inl (4, [none, none, none, some 52]),
  .inl (4, [none, none, none, some 53]),
  .inl (4, [none, none, none, some 54]),
  .inl (4, [none, none, none, some 55]),
  .inr (1, 160),
  .inr (1, 160),
  .inr (1, 160),
  .inr (1, 160),
  .inr (1, 160),
  .inr (1, 160),
  .inr (1, 160),
  .inr (1, 160),
  .inr (0, 6),
  .inr (0, 6),
  .inr (0, 5),
  .inl (5, [none, some 60, none, none, none]),
  .inr (0, 20),
  .inr (0, 8),
  .inl (7, [none, none, none, none, none, none, some 63, some 64, some 65, some 66, some 67, some 68, some 69, some 70, some 71, some 72, some 73, some 74, some 75, some 76, some 77, some 78, some 79, some 80, some 81, some 82, some 83, none, none, none, none, none, some 84, some 85, some 86, none, none, none, some 87, some 88, some 89, none, none]),
  .inr (0, 8),
  .inr (0, 8),
  .inr (0, 8),
  .inr (0, 8),
  .inr (0, 8),
  .inr (0, 8),
  .inr (0, 6),
  .inr (0, 6),
  .inr (0, 6),
  .inr (0, 6),
  .inr (0, 48),
  .inr (0, 8),
  .inr (0, 8),
  .inr (0, 8),
  .inr (0, 8),
  .inr (1, 1280),
  .inr (1, 160),
  .inr (0, 32),
  .inr (0, 5),
  .inr (0, 4),
  .inr (0, 5),
  .inr (0, 130),
  .inr (0, 130),
  .inr (0, 130),
  .inr (0, 6),
  .inr (0, 6),
  .inr (0, 20)]
def mj_sh (k : Nat) : Option ((Nat × List (Option Nat)) ⊕ (Nat × Nat)) := mj_shL[k]?
def mj_tx : List (List Int32) := [[103, 114, 111, 119, 110], [99, 104, 105, 108, 100], [103, 105, 102, 116], [97, 103, 101], [102, 108, 111, 111, 100]]
def mj_txs : List String := ["grown", "child", "gift", "age", "flood"]
def mj_sc : List (List Int32) := [[-1, 0, 0, 1, 0, 2, 3], [10, 11, 12, 20, 0, 0, 0, 30, 0, 0, 40, 0, 51, 0, 50, 0, 0, 60, 70, 71, 0], [4, 5, 3, 2, 1]]
set_option maxRecDepth 100000 in
theorem mj_clong : Cond.constantLong (mj_own 10) 18 4294967295 ∈ mj_tbl := mj_inT_mem (p := 1346) (by decide +kernel)
set_option maxRecDepth 100000 in
theorem mj_max_st : Cond.static Lib.Math.max.name ∈ mj_tbl := mj_inT_mem (p := 497) (by decide +kernel)
set_option maxRecDepth 100000 in
theorem mj_max_co : Cond.code Lib.Math.max.name Lib.Math.max.code 2 (some .int) ∈ mj_tbl := mj_inT_mem (p := 498) (by decide +kernel)
set_option maxRecDepth 100000 in
theorem mj_min_st : Cond.static Lib.Math.min.name ∈ mj_tbl := mj_inT_mem (p := 469) (by decide +kernel)
set_option maxRecDepth 100000 in
theorem mj_min_co : Cond.code Lib.Math.min.name Lib.Math.min.code 2 (some .int) ∈ mj_tbl := mj_inT_mem (p := 470) (by decide +kernel)
set_option maxRecDepth 100000 in
theorem mj_math_in : Cond.initialized "java/lang/Math" ∈ mj_tbl := mj_inT_mem (p := 83) (by decide +kernel)
set_option maxRecDepth 100000 in
theorem mj_ac_na : Cond.native arraycopyName ∈ mj_tbl := mj_inT_mem (p := 366) (by decide +kernel)
set_option maxRecDepth 100000 in
theorem mj_ac_st : Cond.static arraycopyName ∈ mj_tbl := mj_inT_mem (p := 365) (by decide +kernel)
set_option maxRecDepth 100000 in
theorem mj_ac_in : Cond.initialized "java/lang/System" ∈ mj_tbl := mj_inT_mem (p := 81) (by decide +kernel)
def mj_fb (ci j : Nat) : Bool := (ci == 6 && j == 3) || (ci == 7 && j == 42)
def mj_fok (ci j : Nat) : Bool := (mj_clT ci j).2.2.2 == false && (if mj_fb ci j then mj_clY ci j == .boolean else mj_clY ci j == .int)
set_option maxRecDepth 100000 in
theorem mj_sh_chk : mj_shL.all (fun x => match x with | .inl (c, fs) => decide (c < 8) && (fs.length == mj_clN c) && (List.range fs.length).all (fun j => fs[j]? != some none || mj_fok c j) && fs.all (fun f => match f with | some q => decide (q < 90) | none => true) | .inr _ => true) = true := by decide +kernel
set_option maxRecDepth 100000 in
theorem mj_shLlen : mj_shL.length = 90 := by decide +kernel
theorem mj_sh_lt {k : Nat} {x} (h : mj_sh k = some x) : k < 90 := by
  have := (List.getElem?_eq_some_iff.mp h).1
  rwa [mj_shLlen] at this
