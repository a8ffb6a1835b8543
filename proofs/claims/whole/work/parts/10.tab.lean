def tb_cn : List String := [RX0, RX1, RX2, RX3, RX4, RX5, RX6, RX7, RX8, RX9, RX10, RX11, RL, RJ6, RJ9]
def tb_T : List (u_T × (Nat → FieldType) × Nat) := [(TX0, tyX0, 9), (TX1, tyX1, 7), (TX2, tyX2, 7), (TX3, tyX3, 8), (TX4, tyX4, 7), (TX5, tyX5, 11), (TX6, tyX6, 10), (TX7, tyX7, 6), (TX8, tyX8, 4), (TX9, tyX9, 2), (TX10, tyX10, 17), (TX11, tyX11, 52)]
def tb_m0 : List (Nat × MethodName × ByteArray × Nat × Option FieldType × Nat) := [(0, yX0_init, cX0_init, 1, none, 0),
  (0, yX0_copyFrom, cX0_copyFrom, 2, none, 1),
  (0, yX0_readText, cX0_readText, 4, none, 2),
  (0, yX0_closeBlock, cX0_closeBlock, 2, none, 1),
  (0, yX0_readStep, cX0_readStep, 6, none, 2),
  (0, yX0_isStepWord, cX0_isStepWord, 1, (some .boolean), 1),
  (0, yX0_readDeed, cX0_readDeed, 5, none, 3),
  (0, yX0_readTest, cX0_readTest, 4, none, 3),
  (1, yX1_init, cX1_init, 1, none, 0),
  (1, yX1_begin, cX1_begin, 3, none, 1),
  (1, yX1_copyFrom, cX1_copyFrom, 2, none, 1),
  (1, yX1_hasPlace, cX1_hasPlace, 2, (some .boolean), 1),
  (1, yX1_earn, cX1_earn, 2, (some .boolean), 1),
  (1, yX1_forget, cX1_forget, 4, (some .int), 1),
  (2, yX2_init, cX2_init, 1, none, 0),
  (2, yX2_give, cX2_give, 2, none, 1),
  (2, yX2_copyFrom, cX2_copyFrom, 2, none, 1),
  (3, yX3_init, cX3_init, 1, none, 0),
  (3, yX3_run, cX3_run, 3, none, 2),
  (3, yX3_walk, cX3_walk, 6, none, 4),
  (3, yX3_doStep, cX3_doStep, 8, none, 3),
  (3, yX3_holds, cX3_holds, 4, (some .boolean), 3),
  (3, yX3_compares, cX3_compares, 3, (some .boolean), 3),
  (3, yX3_tryLearn, cX3_tryLearn, 4, none, 3),
  (3, yX3_tryLose, cX3_tryLose, 3, none, 2),
  (3, yX3_meetFate, cX3_meetFate, 5, none, 2),
  (3, yX3_draw, cX3_draw, 2, (some .int), 1),
  (3, yX3_memberOf, cX3_memberOf, 4, (some .int), 2),
  (4, yX4_init, cX4_init, 1, none, 0),
  (4, yX4_hasChild, cX4_hasChild, 2, (some .boolean), 1),
  (4, yX4_make, cX4_make, 7, none, 2),
  (4, yX4_tryBegin, cX4_tryBegin, 7, (some .boolean), 4),
  (5, yX5_init, cX5_init, 6, none, 0),
  (5, yX5_takeIn, cX5_takeIn, 3, none, 1),
  (5, yX5_begin, cX5_begin, 2, none, 1),
  (5, yX5_advance, cX5_advance, 1, none, 0),
  (5, yX5_advanceWord, cX5_advanceWord, 2, none, 0),
  (5, yX5_advanceNumber, cX5_advanceNumber, 1, none, 0),
  (5, yX5_goesOn, cX5_goesOn, 1, (some .boolean), 0),
  (5, yX5_blame, cX5_blame, 2, none, 1)]
def tb_m1 : List (Nat × MethodName × ByteArray × Nat × Option FieldType × Nat) := [(5, yX5_blameMisfit, cX5_blameMisfit, 1, none, 0),
  (5, yX5_isWord, cX5_isWord, 2, (some .boolean), 1),
  (5, yX5_isSign, cX5_isSign, 2, (some .boolean), 1),
  (5, yX5_passWord, cX5_passWord, 2, none, 1),
  (5, yX5_passSign, cX5_passSign, 2, none, 1),
  (5, yX5_passNumber, cX5_passNumber, 4, (some .int), 2),
  (5, yX5_passLetter, cX5_passLetter, 2, (some .int), 0),
  (5, yX5_passCompares, cX5_passCompares, 2, (some .char), 0),
  (5, yX5_seeName, cX5_seeName, 1, (some .long), 0),
  (5, yX5_passFound, cX5_passFound, 2, (some .int), 1),
  (6, yX6_init, cX6_init, 2, none, 0),
  (6, yX6_copyFrom, cX6_copyFrom, 3, none, 1),
  (6, yX6_readText, cX6_readText, 3, none, 1),
  (6, yX6_readMaster, cX6_readMaster, 2, none, 1),
  (6, yX6_readLesson, cX6_readLesson, 3, none, 1),
  (6, yX6_readNeeds, cX6_readNeeds, 5, (some .int), 1),
  (6, yX6_readChild, cX6_readChild, 3, none, 1),
  (6, yX6_readSounds, cX6_readSounds, 2, none, 1),
  (6, yX6_readPerhaps, cX6_readPerhaps, 3, (some .int), 3),
  (6, yX6_readNewName, cX6_readNewName, 4, (some .long), 1),
  (6, yX6_findMaster, cX6_findMaster, 4, (some .int), 1),
  (6, yX6_findLesson, cX6_findLesson, 4, (some .int), 1),
  (6, yX6_findChild, cX6_findChild, 4, (some .int), 1),
  (6, yX6_hasMaster, cX6_hasMaster, 2, (some .boolean), 1),
  (6, yX6_hasLesson, cX6_hasLesson, 3, (some .boolean), 1),
  (6, yX6_hasChild, cX6_hasChild, 2, (some .boolean), 1),
  (6, yX6_hasAllLessons, cX6_hasAllLessons, 4, (some .boolean), 2),
  (6, yX6_letterAt, cX6_letterAt, 3, (some .int), 2),
  (6, yX6_lets, cX6_lets, 3, (some .boolean), 2),
  (6, yX6_canPay, cX6_canPay, 3, (some .boolean), 2),
  (6, yX6_daysFor, cX6_daysFor, 4, (some .int), 2),
  (6, yX6_readySet, cX6_readySet, 5, (some .int), 2),
  (6, yX6_teach, cX6_teach, 3, none, 2),
  (6, yX6_choose, cX6_choose, 7, (some .int), 1),
  (6, yX6_isSaid, cX6_isSaid, 3, (some .boolean), 2),
  (6, yX6_weakPlace, cX6_weakPlace, 3, (some .int), 1),
  (6, yX6_sameAtEnd, cX6_sameAtEnd, 5, (some .int), 2),
  (6, yX6_unlikePlace, cX6_unlikePlace, 5, (some .int), 2),
  (6, yX6_stopOfLife, cX6_stopOfLife, 7, (some .int), 3),
  (6, yX6_allNeeds, cX6_allNeeds, 4, (some .int), 1)]
def tb_m2 : List (Nat × MethodName × ByteArray × Nat × Option FieldType × Nat) := [(6, yX6_needing, cX6_needing, 4, (some .int), 1),
  (7, yX7_init, cX7_init, 1, none, 0),
  (7, yX7_hearTray, cX7_hearTray, 6, (some .boolean), 2),
  (7, yX7_hearName, cX7_hearName, 4, none, 2),
  (7, yX7_hearAny, cX7_hearAny, 3, none, 1),
  (7, yX7_clearSums, cX7_clearSums, 5, none, 2),
  (7, yX7_comesNext, cX7_comesNext, 5, (some .boolean), 3),
  (7, yX7_count, cX7_count, 8, (some .long), 1),
  (7, yX7_least, cX7_least, 10, (some .int), 2),
  (7, yX7_lesser, cX7_lesser, 4, (some .long), 2),
  (7, yX7_findFirst, cX7_findFirst, 5, (some .boolean), 1),
  (7, yX7_goingOn, cX7_goingOn, 4, (some .int), 2),
  (7, yX7_countSaid, cX7_countSaid, 9, (some .long), 1),
  (7, yX7_saySo, cX7_saySo, 8, none, 4),
  (8, yX8_init, cX8_init, 1, none, 0),
  (8, yX8_lay, cX8_lay, 4, none, 2),
  (8, yX8_hasRow, cX8_hasRow, 3, (some .boolean), 2),
  (8, yX8_put, cX8_put, 4, none, 2),
  (9, yX9_init, cX9_init, 1, none, 0),
  (9, yX9_spell, cX9_spell, 5, none, 3),
  (9, yX9_add, cX9_add, 2, none, 1),
  (9, yX9_stumble, cX9_stumble, 4, (some .int), 1),
  (9, yX9_tooMany, cX9_tooMany, 5, (some .int), 1),
  (10, yX10_init, cX10_init, 2, none, 0),
  (10, yX10_status, cX10_status, 1, (some .int), 0),
  (10, yX10_top, cX10_top, 1, (some .long), 0),
  (10, yX10_bottom, cX10_bottom, 1, (some .long), 0),
  (10, yX10_tray, cX10_tray, 4, (some .boolean), 3),
  (10, yX10_write, cX10_write, 6, (some .boolean), 3),
  (10, yX10_read, cX10_read, 4, (some .long), 2),
  (10, yX10_pour, cX10_pour, 8, (some .boolean), 5),
  (10, yX10_feed, cX10_feed, 6, (some .int), 5),
  (10, yX10_school, cX10_school, 3, (some .int), 1),
  (10, yX10_age, cX10_age, 3, (some .int), 1),
  (10, yX10_fault, cX10_fault, 2, (some .int), 1),
  (10, yX10_many, cX10_many, 2, (some .int), 1),
  (10, yX10_lesson, cX10_lesson, 4, (some .int), 2),
  (10, yX10_child, cX10_child, 4, (some .int), 2),
  (10, yX10_letter, cX10_letter, 5, (some .int), 3),
  (10, yX10_teaches, cX10_teaches, 4, (some .int), 1)]
def tb_m3 : List (Nat × MethodName × ByteArray × Nat × Option FieldType × Nat) := [(10, yX10_copyName, cX10_copyName, 6, (some .int), 2),
  (10, yX10_learn, cX10_learn, 4, (some .int), 2),
  (10, yX10_lose, cX10_lose, 4, (some .int), 2),
  (10, yX10_rest, cX10_rest, 4, (some .int), 2),
  (10, yX10_pay, cX10_pay, 4, (some .int), 2),
  (10, yX10_ready, cX10_ready, 3, (some .int), 2),
  (10, yX10_takes, cX10_takes, 3, (some .int), 2),
  (10, yX10_opens, cX10_opens, 7, (some .int), 2),
  (10, yX10_choice, cX10_choice, 2, (some .int), 1),
  (10, yX10_said, cX10_said, 2, (some .int), 1),
  (10, yX10_stumbles, cX10_stumbles, 2, (some .int), 1),
  (10, yX10_drop, cX10_drop, 3, (some .int), 1),
  (10, yX10_firm, cX10_firm, 3, (some .int), 1),
  (10, yX10_weak, cX10_weak, 2, (some .int), 1),
  (10, yX10_vowels, cX10_vowels, 5, (some .int), 1),
  (10, yX10_rhyme, cX10_rhyme, 4, (some .int), 2),
  (10, yX10_apart, cX10_apart, 4, (some .int), 2),
  (10, yX10_behind, cX10_behind, 7, (some .int), 2),
  (10, yX10_life, cX10_life, 5, (some .int), 2),
  (10, yX10_soonest, cX10_soonest, 4, (some .int), 2),
  (10, yX10_cheapest, cX10_cheapest, 4, (some .int), 2),
  (10, yX10_ways, cX10_ways, 4, (some .long), 2),
  (10, yX10_first, cX10_first, 4, (some .int), 2),
  (10, yX10_firstAt, cX10_firstAt, 2, (some .int), 1),
  (10, yX10_goes, cX10_goes, 4, (some .int), 2),
  (10, yX10_lives, cX10_lives, 2, (some .long), 1),
  (10, yX10_orders, cX10_orders, 2, (some .long), 1),
  (10, yX10_reach, cX10_reach, 2, (some .int), 1),
  (10, yX10_sayable, cX10_sayable, 4, (some .boolean), 1),
  (10, yX10_root, cX10_root, 5, (some .int), 0),
  (10, yX10_plans, cX10_plans, 3, (some .int), 0),
  (10, yX10_waited, cX10_waited, 2, (some .int), 1),
  (10, yX10_began, cX10_began, 3, (some .int), 2),
  (10, yX10_live, cX10_live, 2, (some .int), 1),
  (10, yX10_lived, cX10_lived, 2, (some .int), 1),
  (10, yX10_odds, cX10_odds, 6, (some .boolean), 3),
  (10, yX10_mark, cX10_mark, 1, (some .int), 0),
  (10, yX10_back, cX10_back, 1, (some .int), 0),
  (10, yX10_answer, cX10_answer, 2, (some .int), 1),
  (10, yX10_refuse, cX10_refuse, 2, (some .int), 1)]
def tb_m4 : List (Nat × MethodName × ByteArray × Nat × Option FieldType × Nat) := [(10, yX10_answerIfThere, cX10_answerIfThere, 2, (some .int), 1),
  (10, yX10_agree, cX10_agree, 1, (some .boolean), 0),
  (10, yX10_deny, cX10_deny, 2, (some .boolean), 1),
  (10, yX10_keepFault, cX10_keepFault, 1, none, 0),
  (10, yX10_tellFraction, cX10_tellFraction, 12, none, 2),
  (10, yX10_isTray, cX10_isTray, 1, (some .boolean), 1),
  (10, yX10_askPlace, cX10_askPlace, 3, (some .int), 2),
  (10, yX10_askRow, cX10_askRow, 4, (some .int), 3),
  (10, yX10_askTold, cX10_askTold, 4, (some .int), 2),
  (10, yX10_askTwo, cX10_askTwo, 3, (some .int), 2),
  (10, yX10_askPlan, cX10_askPlan, 3, (some .int), 2),
  (11, yX11_init, cX11_init, 2, none, 0),
  (11, yX11_status, cX11_status, 1, (some .int), 0),
  (11, yX11_top, cX11_top, 1, (some .long), 0),
  (11, yX11_bottom, cX11_bottom, 1, (some .long), 0),
  (11, yX11_refuse, cX11_refuse, 2, (some .int), 1),
  (11, yX11_no, cX11_no, 2, (some .boolean), 1),
  (11, yX11_isIn, cX11_isIn, 6, (some .boolean), 3),
  (11, yX11_fraction, cX11_fraction, 11, (some .boolean), 2),
  (11, yX11_cut, cX11_cut, 3, (some .long), 2),
  (11, yX11_tray, cX11_tray, 5, (some .boolean), 3),
  (11, yX11_trayed, cX11_trayed, 2, (some .int), 1),
  (11, yX11_placed, cX11_placed, 4, (some .int), 2),
  (11, yX11_write, cX11_write, 5, (some .boolean), 3),
  (11, yX11_read, cX11_read, 3, (some .long), 2),
  (11, yX11_pour, cX11_pour, 9, (some .boolean), 5),
  (11, yX11_numberOf, cX11_numberOf, 3, (some .long), 2),
  (11, yX11_isTray, cX11_isTray, 2, (some .boolean), 1),
  (11, yX11_has, cX11_has, 2, (some .boolean), 2),
  (11, yX11_look2, cX11_look2, 2, (some .int), 1),
  (11, yX11_isLetter, cX11_isLetter, 1, (some .boolean), 1),
  (11, yX11_isDigit, cX11_isDigit, 1, (some .boolean), 1),
  (11, yX11_isSignByte, cX11_isSignByte, 2, (some .boolean), 1),
  (11, yX11_next, cX11_next, 2, none, 0),
  (11, yX11_isSign, cX11_isSign, 2, (some .boolean), 1),
  (11, yX11_spelled, cX11_spelled, 8, (some .long), 6),
  (11, yX11_isWord, cX11_isWord, 3, (some .boolean), 1),
  (11, yX11_isMaster, cX11_isMaster, 1, (some .boolean), 0),
  (11, yX11_isLesson, cX11_isLesson, 1, (some .boolean), 0),
  (11, yX11_isGives, cX11_isGives, 1, (some .boolean), 0)]
def tb_m5 : List (Nat × MethodName × ByteArray × Nat × Option FieldType × Nat) := [(11, yX11_isTakes, cX11_isTakes, 1, (some .boolean), 0),
  (11, yX11_isCosts, cX11_isCosts, 1, (some .boolean), 0),
  (11, yX11_isBy, cX11_isBy, 1, (some .boolean), 0),
  (11, yX11_isNeeds, cX11_isNeeds, 1, (some .boolean), 0),
  (11, yX11_isChild, cX11_isChild, 1, (some .boolean), 0),
  (11, yX11_isGift, cX11_isGift, 1, (some .boolean), 0),
  (11, yX11_isPurse, cX11_isPurse, 1, (some .boolean), 0),
  (11, yX11_isSounds, cX11_isSounds, 1, (some .boolean), 0),
  (11, yX11_stepWord, cX11_stepWord, 1, (some .int), 0),
  (11, yX11_testWord, cX11_testWord, 1, (some .int), 0),
  (11, yX11_isEnd, cX11_isEnd, 1, (some .boolean), 0),
  (11, yX11_isKept, cX11_isKept, 1, (some .boolean), 0),
  (11, yX11_isName, cX11_isName, 1, (some .boolean), 0),
  (11, yX11_fail, cX11_fail, 3, none, 2),
  (11, yX11_wrong, cX11_wrong, 1, none, 0),
  (11, yX11_must, cX11_must, 2, none, 1),
  (11, yX11_count, cX11_count, 4, (some .int), 2),
  (11, yX11_feed, cX11_feed, 6, (some .int), 5),
  (11, yX11_lay, cX11_lay, 3, none, 1),
  (11, yX11_starts, cX11_starts, 3, (some .boolean), 2),
  (11, yX11_isWell, cX11_isWell, 1, (some .boolean), 0),
  (11, yX11_fault, cX11_fault, 2, (some .int), 1),
  (11, yX11_namedIn, cX11_namedIn, 5, (some .int), 3),
  (11, yX11_masterNamed, cX11_masterNamed, 2, (some .int), 1),
  (11, yX11_lessonNamed, cX11_lessonNamed, 2, (some .int), 1),
  (11, yX11_childNamed, cX11_childNamed, 2, (some .int), 1),
  (11, yX11_readNew, cX11_readNew, 2, none, 1),
  (11, yX11_told, cX11_told, 4, (some .int), 2),
  (11, yX11_readTold, cX11_readTold, 4, (some .int), 2),
  (11, yX11_readMaster, cX11_readMaster, 2, none, 0),
  (11, yX11_readNeeds, cX11_readNeeds, 4, none, 1),
  (11, yX11_readLesson, cX11_readLesson, 2, none, 0),
  (11, yX11_readChild, cX11_readChild, 2, none, 0),
  (11, yX11_readSounds, cX11_readSounds, 1, none, 0),
  (11, yX11_school, cX11_school, 3, (some .int), 1),
  (11, yX11_readTest, cX11_readTest, 3, none, 1),
  (11, yX11_readRest, cX11_readRest, 3, none, 1),
  (11, yX11_readStep, cX11_readStep, 5, none, 1),
  (11, yX11_age, cX11_age, 3, (some .int), 1),
  (11, yX11_isLessonAt, cX11_isLessonAt, 2, (some .boolean), 1)]
def tb_m6 : List (Nat × MethodName × ByteArray × Nat × Option FieldType × Nat) := [(11, yX11_isChildAt, cX11_isChildAt, 2, (some .boolean), 1),
  (11, yX11_lengthOf, cX11_lengthOf, 2, (some .int), 1),
  (11, yX11_lessonOf, cX11_lessonOf, 3, (some .int), 2),
  (11, yX11_letterOf, cX11_letterOf, 3, (some .int), 2),
  (11, yX11_knownOf, cX11_knownOf, 4, (some .int), 1),
  (11, yX11_many, cX11_many, 2, (some .int), 1),
  (11, yX11_lesson, cX11_lesson, 3, (some .int), 2),
  (11, yX11_child, cX11_child, 3, (some .int), 2),
  (11, yX11_letter, cX11_letter, 4, (some .int), 3),
  (11, yX11_teaches, cX11_teaches, 4, (some .int), 1),
  (11, yX11_copyName, cX11_copyName, 4, (some .int), 2),
  (11, yX11_daysOf, cX11_daysOf, 3, (some .int), 2),
  (11, yX11_isOpenTo, cX11_isOpenTo, 3, (some .boolean), 2),
  (11, yX11_whyNot, cX11_whyNot, 3, (some .int), 2),
  (11, yX11_learns, cX11_learns, 3, none, 2),
  (11, yX11_learn, cX11_learn, 4, (some .int), 2),
  (11, yX11_loses, cX11_loses, 5, (some .int), 2),
  (11, yX11_lose, cX11_lose, 3, (some .int), 2),
  (11, yX11_rest, cX11_rest, 3, (some .int), 2),
  (11, yX11_pays, cX11_pays, 3, (some .boolean), 2),
  (11, yX11_pay, cX11_pay, 3, (some .int), 2),
  (11, yX11_openSet, cX11_openSet, 4, (some .int), 1),
  (11, yX11_readyOf, cX11_readyOf, 5, (some .int), 2),
  (11, yX11_sizeOf, cX11_sizeOf, 3, (some .int), 1),
  (11, yX11_ready, cX11_ready, 3, (some .int), 2),
  (11, yX11_takes, cX11_takes, 3, (some .int), 2),
  (11, yX11_opens, cX11_opens, 4, (some .int), 2),
  (11, yX11_isVowel, cX11_isVowel, 1, (some .boolean), 1),
  (11, yX11_stumble, cX11_stumble, 3, (some .int), 0),
  (11, yX11_isSaid, cX11_isSaid, 1, (some .boolean), 0),
  (11, yX11_layName, cX11_layName, 4, none, 2),
  (11, yX11_saysName, cX11_saysName, 3, (some .boolean), 2),
  (11, yX11_saysWith, cX11_saysWith, 3, (some .boolean), 2),
  (11, yX11_choiceOf, cX11_choiceOf, 7, (some .int), 1),
  (11, yX11_choice, cX11_choice, 3, (some .int), 1),
  (11, yX11_said, cX11_said, 2, (some .int), 1),
  (11, yX11_stumbles, cX11_stumbles, 3, (some .int), 1),
  (11, yX11_drop, cX11_drop, 5, (some .int), 1),
  (11, yX11_weakOf, cX11_weakOf, 3, (some .int), 1),
  (11, yX11_firm, cX11_firm, 2, (some .int), 1)]
def tb_m7 : List (Nat × MethodName × ByteArray × Nat × Option FieldType × Nat) := [(11, yX11_weak, cX11_weak, 3, (some .int), 1),
  (11, yX11_vowels, cX11_vowels, 4, (some .int), 1),
  (11, yX11_rhyme, cX11_rhyme, 4, (some .int), 2),
  (11, yX11_apartOf, cX11_apartOf, 4, (some .int), 2),
  (11, yX11_apart, cX11_apart, 4, (some .int), 2),
  (11, yX11_behind, cX11_behind, 4, (some .int), 2),
  (11, yX11_life, cX11_life, 6, (some .int), 2),
  (11, yX11_fill, cX11_fill, 5, none, 0),
  (11, yX11_allWays, cX11_allWays, 5, (some .long), 1),
  (11, yX11_isTold, cX11_isTold, 4, (some .boolean), 2),
  (11, yX11_leastOf, cX11_leastOf, 4, (some .int), 1),
  (11, yX11_soonest, cX11_soonest, 3, (some .int), 2),
  (11, yX11_cheapest, cX11_cheapest, 3, (some .int), 2),
  (11, yX11_ways, cX11_ways, 3, (some .long), 2),
  (11, yX11_first, cX11_first, 6, (some .int), 2),
  (11, yX11_firstAt, cX11_firstAt, 2, (some .int), 1),
  (11, yX11_goes, cX11_goes, 4, (some .int), 2),
  (11, yX11_lives, cX11_lives, 2, (some .long), 1),
  (11, yX11_fillOrders, cX11_fillOrders, 4, none, 0),
  (11, yX11_orders, cX11_orders, 5, (some .long), 1),
  (11, yX11_cellOf, cX11_cellOf, 3, (some .int), 3),
  (11, yX11_says, cX11_says, 6, none, 2),
  (11, yX11_sayable, cX11_sayable, 8, (some .boolean), 1),
  (11, yX11_needsOf, cX11_needsOf, 4, (some .int), 1),
  (11, yX11_reach, cX11_reach, 2, (some .int), 1),
  (11, yX11_root, cX11_root, 6, (some .int), 0),
  (11, yX11_planLong, cX11_planLong, 2, (some .int), 1),
  (11, yX11_whyNoPlan, cX11_whyNoPlan, 5, (some .int), 1),
  (11, yX11_begins, cX11_begins, 6, (some .int), 1),
  (11, yX11_plans, cX11_plans, 4, (some .int), 0),
  (11, yX11_waited, cX11_waited, 2, (some .int), 1),
  (11, yX11_began, cX11_began, 3, (some .int), 2),
  (11, yX11_draw, cX11_draw, 2, (some .int), 1),
  (11, yX11_learnsOne, cX11_learnsOne, 3, (some .boolean), 2),
  (11, yX11_losesOne, cX11_losesOne, 3, (some .boolean), 2),
  (11, yX11_fates, cX11_fates, 6, (some .boolean), 1),
  (11, yX11_does, cX11_does, 4, (some .boolean), 1),
  (11, yX11_isSo, cX11_isSo, 5, (some .boolean), 1),
  (11, yX11_doOne, cX11_doOne, 5, none, 1),
  (11, yX11_doAll, cX11_doAll, 4, none, 2)]
def tb_m8 : List (Nat × MethodName × ByteArray × Nat × Option FieldType × Nat) := [(11, yX11_runs, cX11_runs, 2, none, 1),
  (11, yX11_live, cX11_live, 2, (some .int), 1),
  (11, yX11_lived, cX11_lived, 2, (some .int), 1),
  (11, yX11_odds, cX11_odds, 7, (some .boolean), 3),
  (11, yX11_copy, cX11_copy, 4, none, 2),
  (11, yX11_mark, cX11_mark, 1, (some .int), 0),
  (11, yX11_back, cX11_back, 1, (some .int), 0),
  (13, yJ6_bitCount_0f7a4, cJ6_bitCount_0f7a4, 1, (some .int), 1),
  (14, yJ9_abs_067f4, cJ9_abs_067f4, 2, (some .long), 1),
  (14, yJ9_max_7cf53, cJ9_max_7cf53, 2, (some .int), 2),
  (14, yJ9_min_7cf53, cJ9_min_7cf53, 2, (some .int), 2),
  (14, yJ9_min_f86c9, cJ9_min_f86c9, 4, (some .long), 2),
  (12, yL_law, cL_law, 4, (some .boolean), 1)]
def tb_m (k : Nat) : Nat × MethodName × ByteArray × Nat × Option FieldType × Nat := ([tb_m0, tb_m1, tb_m2, tb_m3, tb_m4, tb_m5, tb_m6, tb_m7, tb_m8].getD (k / 40) []).getD (k % 40) (0, yX0_init, cX0_init, 0, none, 0)
def tb_d0 : List Nat := [2, 0, 0, 0, 0, 1, 0, 0, 2, 0, 0, 0, 0, 0, 2, 0, 0, 2, 0, 0, 0, 1, 1, 0, 0, 0, 0, 1, 2, 0, 0, 0, 2, 0, 0, 0, 0, 0, 0, 0]
def tb_d1 : List Nat := [0, 0, 0, 0, 0, 0, 0, 0, 0, 0, 2, 0, 0, 0, 0, 0, 0, 0, 1, 0, 0, 0, 0, 0, 0, 0, 0, 0, 0, 0, 0, 0, 0, 0, 0, 0, 0, 0, 0, 0]
def tb_d2 : List Nat := [0, 2, 0, 0, 0, 0, 0, 0, 0, 1, 0, 0, 0, 0, 2, 0, 0, 0, 2, 0, 0, 0, 0, 2, 0, 0, 0, 0, 0, 0, 0, 0, 0, 0, 0, 0, 0, 0, 0, 0]
def tb_d3 : List Nat := [0, 0, 0, 0, 0, 0, 0, 0, 0, 0, 0, 0, 0, 0, 0, 0, 0, 0, 0, 0, 0, 0, 0, 0, 0, 0, 0, 0, 0, 0, 0, 0, 0, 0, 0, 0, 0, 0, 0, 0]
def tb_d4 : List Nat := [0, 0, 0, 0, 0, 1, 0, 0, 0, 0, 0, 2, 0, 0, 0, 0, 0, 1, 0, 1, 0, 0, 0, 0, 0, 0, 0, 0, 1, 0, 1, 1, 0, 0, 0, 1, 0, 0, 0, 0]
def tb_d5 : List Nat := [0, 0, 0, 0, 0, 0, 0, 0, 0, 0, 0, 0, 0, 0, 0, 0, 0, 0, 0, 0, 0, 0, 0, 0, 0, 0, 0, 0, 0, 0, 0, 0, 0, 0, 0, 0, 0, 0, 0, 0]
def tb_d6 : List Nat := [0, 0, 0, 0, 0, 0, 0, 0, 0, 0, 0, 0, 0, 0, 0, 0, 0, 0, 0, 0, 0, 0, 0, 1, 0, 0, 0, 1, 0, 0, 0, 0, 0, 0, 0, 0, 0, 0, 0, 0]
def tb_d7 : List Nat := [0, 0, 0, 0, 0, 0, 0, 0, 0, 0, 0, 0, 0, 0, 0, 0, 0, 0, 0, 0, 1, 0, 0, 0, 0, 0, 0, 0, 0, 0, 0, 0, 0, 0, 0, 0, 0, 0, 0, 0]
def tb_d8 : List Nat := [0, 0, 0, 0, 0, 0, 0, 1, 1, 1, 1, 1, 1]
def tb_d (k : Nat) : Nat := ([tb_d0, tb_d1, tb_d2, tb_d3, tb_d4, tb_d5, tb_d6, tb_d7, tb_d8].getD (k / 40) []).getD (k % 40) 9
def tb_f_0 : List (Nat × Nat × Nat) := [(9, 0, 0), (15, 0, 1), (18, 0, 2), (21, 0, 3), (24, 0, 4), (27, 0, 5), (36, 0, 6), (40, 0, 7), (44, 0, 8), (78, 5, 5), (75, 5, 8)]
def tb_f_1 : List (Nat × Nat × Nat) := [(9, 1, 0), (15, 1, 1), (29, 1, 2), (32, 1, 3), (19, 1, 4), (23, 1, 5), (26, 1, 6)]
def tb_f_2 : List (Nat × Nat × Nat) := [(17, 2, 0), (7, 2, 1), (13, 2, 2), (21, 2, 3), (24, 2, 4), (27, 2, 5), (30, 2, 6)]
def tb_f_3 : List (Nat × Nat × Nat) := [(70, 0, 0), (64, 0, 1), (67, 0, 2), (101, 0, 3), (56, 0, 4), (43, 0, 7), (85, 1, 4), (112, 1, 5), (98, 1, 6), (60, 6, 2), (37, 6, 4), (9, 3, 0), (15, 3, 1), (19, 3, 2), (22, 3, 3), (25, 3, 4), (28, 3, 5), (31, 3, 6), (34, 3, 7)]
def tb_f_4 : List (Nat × Nat × Nat) := [(48, 8, 0), (39, 8, 1), (45, 8, 3), (60, 2, 5), (56, 6, 1), (65, 6, 2), (33, 6, 7), (9, 4, 0), (15, 4, 1), (20, 4, 2), (36, 4, 3), (23, 4, 4), (26, 4, 5), (29, 4, 6)]
def tb_f_5 : List (Nat × Nat × Nat) := [(9, 5, 0), (15, 5, 1), (33, 5, 2), (37, 5, 3), (40, 5, 4), (62, 5, 5), (52, 5, 6), (55, 5, 7), (59, 5, 8), (43, 5, 9), (46, 5, 10)]
def tb_f_6 : List (Nat × Nat × Nat) := [(188, 8, 0), (239, 9, 1), (70, 0, 6), (114, 2, 0), (201, 2, 1), (229, 2, 2), (132, 2, 3), (139, 2, 4), (142, 2, 5), (161, 2, 6), (197, 1, 0), (187, 1, 1), (178, 1, 2), (181, 1, 3), (218, 1, 4), (204, 1, 5), (215, 1, 6), (9, 6, 0), (17, 6, 1), (23, 6, 2), (30, 6, 3), (37, 6, 4), (63, 6, 5), (47, 6, 6), (54, 6, 7), (41, 6, 8), (66, 6, 9), (164, 5, 9)]
def tb_f_7 : List (Nat × Nat × Nat) := [(22, 8, 0), (56, 2, 1), (108, 2, 2), (90, 2, 3), (87, 2, 4), (33, 1, 6), (52, 6, 1), (61, 6, 6), (103, 6, 8), (9, 7, 0), (15, 7, 1), (29, 7, 2), (100, 7, 3), (68, 7, 4), (18, 7, 5)]
def tb_f_8 : List (Nat × Nat × Nat) := [(9, 8, 0), (15, 8, 1), (19, 8, 2), (23, 8, 3)]
def tb_f_9 : List (Nat × Nat × Nat) := [(9, 9, 0), (15, 9, 1), (32, 2, 2), (28, 1, 0), (19, 1, 6), (22, 6, 1)]
def tb_f_10 : List (Nat × Nat × Nat) := [(115, 8, 0), (119, 8, 1), (123, 8, 2), (243, 8, 3), (295, 9, 0), (294, 9, 1), (391, 0, 6), (165, 0, 7), (185, 2, 1), (190, 2, 3), (193, 2, 4), (196, 2, 5), (202, 2, 6), (236, 1, 0), (212, 1, 2), (217, 1, 3), (220, 1, 4), (226, 1, 5), (223, 1, 6), (181, 6, 1), (208, 6, 2), (275, 6, 3), (162, 6, 4), (168, 6, 5), (153, 6, 6), (171, 6, 7), (174, 6, 8), (136, 5, 2), (416, 5, 9), (419, 5, 10), (397, 3, 0), (396, 3, 1), (398, 3, 2), (401, 3, 3), (403, 3, 4), (406, 3, 5), (339, 7, 1), (336, 7, 3), (342, 7, 4), (385, 4, 0), (382, 4, 1), (388, 4, 2), (378, 4, 3), (11, 10, 0), (26, 10, 1), (18, 10, 2), (30, 10, 3), (37, 10, 4), (41, 10, 5), (47, 10, 6), (54, 10, 7), (58, 10, 8), (61, 10, 9), (67, 10, 10), (82, 10, 11), (85, 10, 12), (71, 10, 13), (75, 10, 14), (79, 10, 15), (413, 10, 16)]
def tb_f_11 : List (Nat × Nat × Nat) := [(97, 11, 0), (94, 11, 1), (100, 11, 2), (7, 11, 3), (13, 11, 4), (17, 11, 5), (20, 11, 6), (24, 11, 7), (241, 11, 8), (133, 11, 9), (28, 11, 10), (32, 11, 11), (225, 11, 12), (228, 11, 13), (145, 11, 14), (139, 11, 15), (136, 11, 16), (164, 11, 17), (158, 11, 18), (151, 11, 19), (35, 11, 20), (38, 11, 21), (41, 11, 22), (524, 11, 23), (290, 11, 24), (321, 11, 25), (44, 11, 26), (384, 11, 27), (47, 11, 28), (50, 11, 29), (53, 11, 30), (56, 11, 31), (440, 11, 32), (59, 11, 33), (63, 11, 34), (67, 11, 35), (70, 11, 36), (73, 11, 37), (76, 11, 38), (79, 11, 39), (82, 11, 40), (85, 11, 41), (88, 11, 42), (91, 11, 43), (519, 11, 44), (493, 11, 45), (468, 11, 46), (490, 11, 47), (499, 11, 48), (472, 11, 49), (475, 11, 50), (496, 11, 51)]
def tb_f_12 : List (Nat × Nat × Nat) := []
def tb_f_13 : List (Nat × Nat × Nat) := []
def tb_f_14 : List (Nat × Nat × Nat) := []
def tb_f (c : Nat) : List (Nat × Nat × Nat) := [tb_f_0, tb_f_1, tb_f_2, tb_f_3, tb_f_4, tb_f_5, tb_f_6, tb_f_7, tb_f_8, tb_f_9, tb_f_10, tb_f_11, tb_f_12, tb_f_13, tb_f_14].getD c []
def tb_r_0 : List (Nat × Nat × Nat) := [(3, 1000, 0), (47, 38, 0), (53, 41, 0), (57, 3, 0), (69, 40, 0), (72, 35, 0), (61, 4, 0), (81, 5, 0), (84, 39, 0), (88, 7, 0), (99, 48, 0), (103, 62, 0), (109, 49, 0), (116, 47, 0), (95, 45, 0), (113, 61, 0), (92, 6, 0), (65, 44, 0), (30, 1001, 0)]
def tb_r_1 : List (Nat × Nat × Nat) := [(3, 1000, 0), (35, 1001, 0)]
def tb_r_2 : List (Nat × Nat × Nat) := [(1, 1000, 0)]
def tb_r_3 : List (Nat × Nat × Nat) := [(3, 1000, 0), (48, 19, 0), (52, 20, 0), (73, 23, 0), (115, 64, 0), (119, 68, 0), (123, 69, 0), (126, 72, 0), (77, 24, 0), (129, 11, 0), (132, 13, 0), (81, 25, 0), (136, 26, 0), (139, 73, 0), (143, 71, 0), (147, 327, 0), (152, 27, 0), (90, 12, 0), (94, 21, 0), (104, 22, 0), (108, 74, 0)]
def tb_r_4 : List (Nat × Nat × Nat) := [(3, 1000, 0), (52, 31, 0), (69, 70, 0), (73, 1004, 0)]
def tb_r_5 : List (Nat × Nat × Nat) := [(3, 1000, 0), (21, 1002, 0), (27, 1003, 0), (49, 35, 0), (65, 36, 0), (68, 37, 0), (81, 40, 0), (73, 39, 0), (77, 41, 0), (84, 42, 0)]
def tb_r_6 : List (Nat × Nat × Nat) := [(3, 1000, 0), (29, 98, 1), (36, 0, 1), (45, 14, 1), (46, 8, 1), (73, 38, 0), (79, 41, 0), (83, 53, 0), (103, 39, 0), (107, 35, 0), (110, 59, 0), (145, 48, 0), (149, 60, 0), (167, 61, 0), (184, 62, 0), (87, 54, 0), (118, 43, 0), (121, 46, 0), (125, 15, 0), (128, 45, 0), (135, 58, 0), (153, 49, 0), (157, 55, 0), (170, 42, 0), (90, 56, 0), (174, 9, 0), (93, 57, 0), (96, 40, 0), (99, 44, 0), (221, 70, 0), (207, 68, 0), (211, 69, 0), (225, 99, 0), (232, 100, 0), (236, 101, 0), (240, 74, 0), (243, 1005, 0), (248, 67, 0), (193, 64, 0), (251, 79, 0), (50, 16, 0), (57, 10, 0), (60, 1, 0)]
def tb_r_7 : List (Nat × Nat × Nat) := [(3, 1000, 0), (64, 85, 0), (42, 327, 0), (83, 89, 0), (93, 1006, 0), (77, 86, 0), (48, 68, 0), (71, 1004, 0), (96, 91, 0), (36, 67, 0), (106, 1005, 0), (112, 93, 0)]
def tb_r_8 : List (Nat × Nat × Nat) := [(3, 1000, 0)]
def tb_r_9 : List (Nat × Nat × Nat) := [(3, 1000, 0)]
def tb_r_10 : List (Nat × Nat × Nat) := [(1, 1000, 0), (15, 94, 1), (22, 50, 0), (25, 32, 0), (36, 17, 1), (46, 81, 1), (53, 28, 1), (66, 0, 1), (88, 165, 0), (92, 162, 0), (95, 95, 0), (99, 161, 0), (103, 166, 0), (107, 97, 0), (111, 159, 0), (126, 96, 0), (130, 1001, 0), (139, 33, 0), (143, 34, 0), (146, 52, 0), (150, 163, 0), (156, 158, 0), (159, 2, 0), (177, 64, 0), (199, 160, 0), (205, 65, 0), (229, 11, 0), (232, 67, 0), (240, 63, 0), (244, 68, 0), (247, 69, 0), (251, 72, 0), (255, 13, 0), (258, 12, 0), (261, 71, 0), (265, 70, 0), (268, 73, 0), (272, 74, 0), (279, 99, 0), (285, 101, 0), (288, 102, 0), (291, 75, 0), (299, 169, 0), (302, 76, 0), (306, 77, 0), (309, 167, 0), (313, 66, 0), (317, 78, 0), (321, 168, 0), (422, 82, 0), (324, 88, 0), (328, 87, 0), (332, 90, 0), (345, 83, 0), (349, 84, 0), (352, 79, 0), (355, 327, 0), (360, 92, 0), (363, 164, 0), (367, 80, 0), (370, 170, 0), (374, 30, 0), (381, 29, 0), (392, 18, 0), (409, 51, 0)]
def tb_r_11 : List (Nat × Nat × Nat) := [(1, 1000, 0), (109, 176, 0), (117, 182, 0), (113, 181, 0), (121, 179, 0), (244, 218, 0), (294, 219, 0), (235, 193, 0), (142, 189, 0), (148, 190, 0), (161, 191, 0), (167, 192, 0), (178, 197, 0), (170, 195, 0), (174, 196, 0), (297, 229, 0), (231, 213, 0), (274, 226, 0), (252, 212, 0), (222, 211, 0), (182, 198, 0), (185, 199, 0), (188, 200, 0), (191, 201, 0), (194, 202, 0), (197, 203, 0), (200, 204, 0), (203, 205, 0), (206, 206, 0), (209, 207, 0), (212, 208, 0), (216, 209, 0), (219, 210, 0), (238, 214, 0), (255, 223, 0), (248, 222, 0), (258, 224, 0), (261, 225, 0), (300, 231, 0), (270, 215, 0), (281, 216, 0), (129, 177, 0), (284, 228, 0), (267, 227, 0), (264, 1004, 0), (287, 230, 0), (277, 188, 0), (303, 232, 0), (306, 233, 0), (309, 194, 0), (312, 220, 0), (315, 324, 0), (327, 237, 0), (324, 236, 0), (318, 235, 0), (336, 175, 0), (339, 239, 0), (342, 240, 0), (333, 241, 0), (345, 244, 0), (330, 242, 0), (348, 243, 0), (351, 187, 0), (360, 253, 0), (354, 252, 0), (363, 254, 0), (357, 251, 0), (366, 256, 0), (371, 259, 0), (377, 262, 0), (374, 261, 0), (381, 263, 0), (402, 273, 0), (399, 272, 0), (393, 270, 0), (396, 269, 0), (390, 268, 0), (387, 267, 0), (405, 271, 0), (408, 278, 0), (411, 283, 0), (416, 186, 0), (429, 289, 0), (426, 287, 0), (421, 1005, 0), (432, 290, 0), (436, 288, 0), (443, 298, 0), (449, 301, 0), (446, 300, 0), (452, 178, 0), (103, 1007, 0), (456, 303, 0), (462, 307, 0), (459, 306, 0), (465, 308, 0), (516, 320, 0), (508, 319, 0), (511, 318, 0), (502, 316, 0), (481, 313, 0), (484, 314, 0), (487, 315, 0), (478, 312, 0), (505, 317, 0)]
def tb_r_12 : List (Nat × Nat × Nat) := [(9, 103, 0), (13, 104, 0), (18, 105, 0), (23, 106, 0), (27, 107, 0), (34, 108, 0), (39, 109, 0), (44, 110, 0), (49, 111, 0), (54, 112, 0), (59, 113, 0), (63, 114, 0), (67, 115, 0), (71, 116, 0), (76, 117, 0), (80, 118, 0), (85, 119, 0), (89, 120, 0), (93, 121, 0), (97, 122, 0), (101, 123, 0), (105, 124, 0), (109, 125, 0), (113, 126, 0), (117, 127, 0), (121, 128, 0), (125, 129, 0), (129, 130, 0), (133, 131, 0), (137, 132, 0), (141, 133, 0), (145, 134, 0), (149, 135, 0), (153, 136, 0), (157, 137, 0), (161, 138, 0), (165, 139, 0), (169, 140, 0), (173, 141, 0), (177, 142, 0), (181, 143, 0), (185, 144, 0), (189, 145, 0), (194, 146, 0), (198, 147, 0), (202, 148, 0), (207, 149, 0), (211, 150, 0), (215, 151, 0), (219, 152, 0), (223, 153, 0), (227, 154, 0), (231, 155, 0), (235, 156, 0), (239, 157, 0), (12, 171, 0), (17, 172, 0), (22, 173, 0), (26, 174, 0), (31, 180, 0), (38, 183, 0), (43, 184, 0), (48, 185, 0), (53, 217, 0), (66, 221, 0), (58, 234, 0), (62, 238, 0), (70, 245, 0), (75, 246, 0), (79, 247, 0), (84, 248, 0), (88, 249, 0), (92, 250, 0), (96, 255, 0), (100, 257, 0), (104, 258, 0), (108, 260, 0), (112, 264, 0), (116, 265, 0), (120, 266, 0), (124, 274, 0), (128, 275, 0), (132, 276, 0), (136, 277, 0), (140, 279, 0), (144, 280, 0), (148, 281, 0), (152, 282, 0), (156, 284, 0), (160, 285, 0), (164, 286, 0), (168, 291, 0), (172, 292, 0), (176, 293, 0), (180, 294, 0), (184, 295, 0), (188, 296, 0), (193, 297, 0), (197, 299, 0), (206, 302, 0), (201, 304, 0), (210, 305, 0), (214, 309, 0), (218, 310, 0), (222, 311, 0), (226, 321, 0), (230, 322, 0), (234, 323, 0), (238, 325, 0), (242, 326, 0)]
def tb_r_13 : List (Nat × Nat × Nat) := []
def tb_r_14 : List (Nat × Nat × Nat) := []
def tb_r (c : Nat) : List (Nat × Nat × Nat) := [tb_r_0, tb_r_1, tb_r_2, tb_r_3, tb_r_4, tb_r_5, tb_r_6, tb_r_7, tb_r_8, tb_r_9, tb_r_10, tb_r_11, tb_r_12, tb_r_13, tb_r_14].getD c []
def tb_c_0 : List (Nat × Int) := []
def tb_c_1 : List (Nat × Int) := []
def tb_c_2 : List (Nat × Int) := []
def tb_c_3 : List (Nat × Int) := [(156, 65536)]
def tb_c_4 : List (Nat × Int) := []
def tb_c_5 : List (Nat × Int) := []
def tb_c_6 : List (Nat × Int) := []
def tb_c_7 : List (Nat × Int) := []
def tb_c_8 : List (Nat × Int) := []
def tb_c_9 : List (Nat × Int) := []
def tb_c_10 : List (Nat × Int) := []
def tb_c_11 : List (Nat × Int) := [(66, 73728), (420, 99999), (471, 65536)]
def tb_c_12 : List (Nat × Int) := []
def tb_c_13 : List (Nat × Int) := [(265, 1431655765), (266, 858993459), (267, 252645135)]
def tb_c_14 : List (Nat × Int) := []
def tb_c (c : Nat) : List (Nat × Int) := [tb_c_0, tb_c_1, tb_c_2, tb_c_3, tb_c_4, tb_c_5, tb_c_6, tb_c_7, tb_c_8, tb_c_9, tb_c_10, tb_c_11, tb_c_12, tb_c_13, tb_c_14].getD c []
def tb_l_0 : List (Nat × Int) := []
def tb_l_1 : List (Nat × Int) := []
def tb_l_2 : List (Nat × Int) := []
def tb_l_3 : List (Nat × Int) := []
def tb_l_4 : List (Nat × Int) := []
def tb_l_5 : List (Nat × Int) := [(31, 32), (71, 10)]
def tb_l_6 : List (Nat × Int) := []
def tb_l_7 : List (Nat × Int) := [(27, 26), (81, -1)]
def tb_l_8 : List (Nat × Int) := []
def tb_l_9 : List (Nat × Int) := []
def tb_l_10 : List (Nat × Int) := []
def tb_l_11 : List (Nat × Int) := [(125, -1), (154, 32), (156, 96), (127, 3), (369, 99), (414, 12), (424, 26), (514, 9999), (522, 20)]
def tb_l_12 : List (Nat × Int) := [(32, 4294967295)]
def tb_l_13 : List (Nat × Int) := []
def tb_l_14 : List (Nat × Int) := []
def tb_l (c : Nat) : List (Nat × Int) := [tb_l_0, tb_l_1, tb_l_2, tb_l_3, tb_l_4, tb_l_5, tb_l_6, tb_l_7, tb_l_8, tb_l_9, tb_l_10, tb_l_11, tb_l_12, tb_l_13, tb_l_14].getD c []
def tb_k_0 : List (Nat × Nat) := []
def tb_k_1 : List (Nat × Nat) := []
def tb_k_2 : List (Nat × Nat) := []
def tb_k_3 : List (Nat × Nat) := []
def tb_k_4 : List (Nat × Nat) := [(18, 99)]
def tb_k_5 : List (Nat × Nat) := []
def tb_k_6 : List (Nat × Nat) := [(15, 2), (21, 1), (27, 9), (34, 0)]
def tb_k_7 : List (Nat × Nat) := []
def tb_k_8 : List (Nat × Nat) := []
def tb_k_9 : List (Nat × Nat) := []
def tb_k_10 : List (Nat × Nat) := [(9, 8), (16, 6), (23, 5), (34, 3), (44, 7), (51, 4), (64, 0)]
def tb_k_11 : List (Nat × Nat) := []
def tb_k_12 : List (Nat × Nat) := [(7, 10), (10, 11)]
def tb_k_13 : List (Nat × Nat) := []
def tb_k_14 : List (Nat × Nat) := []
def tb_k (c : Nat) : List (Nat × Nat) := [tb_k_0, tb_k_1, tb_k_2, tb_k_3, tb_k_4, tb_k_5, tb_k_6, tb_k_7, tb_k_8, tb_k_9, tb_k_10, tb_k_11, tb_k_12, tb_k_13, tb_k_14].getD c []
-- tables
def own (k : Nat) : Nat := (tb_m k).1
def mname (k : Nat) : MethodName := (tb_m k).2.1
def mcode (k : Nat) : ByteArray := (tb_m k).2.2.1
def mmaxL (k : Nat) : Nat := (tb_m k).2.2.2.1
def mret (k : Nat) : Option FieldType := (tb_m k).2.2.2.2.1
def mnp (k : Nat) : Nat := (tb_m k).2.2.2.2.2
def cname (c : Nat) : String := tb_cn.getD c ""
def cT (c : Nat) : u_T := (tb_T.getD c (TX0, tyX0, 0)).1
def cty (c : Nat) : Nat → FieldType := (tb_T.getD c (TX0, tyX0, 0)).2.1
def cNF (c : Nat) : Nat := (tb_T.getD c (TX0, tyX0, 0)).2.2
def tagOf : FieldType → Nat
  | .long => 1
  | .object _ => 2
  | .array _ => 2
  | _ => 0
def ftag (c j : Nat) : Nat := tagOf (cty c j)
def tfld (c ix : Nat) : Option (Nat × Nat) := (tb_f c).lookup ix
def tref (c ix : Nat) : Option (Nat × Nat) := (tb_r c).lookup ix
def tcst (c ix : Nat) : Option Int := (tb_c c).lookup ix
def tcsl (c ix : Nat) : Option Int := (tb_l c).lookup ix
def tcls (c ix : Nat) : Option Nat := (tb_k c).lookup ix
