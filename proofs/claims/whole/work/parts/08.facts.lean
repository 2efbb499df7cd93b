/-! what the tables say of each class, field and method that the code names -/
theorem k_inL {ws : List Cond} (is : List Nat) (h : ws = is.filterMap (fun i => tables_1[i]?)) (hg : ws.all goodWord = true) : ∀ w ∈ ws, w ∈ k_WS := by
  intro w hw
  have h1 := List.all_eq_true.mp hg w hw
  rw [h] at hw
  obtain ⟨i, -, hi⟩ := List.mem_filterMap.mp hw
  exact k_inWS i hi h1
theorem k_inPr {q : MethodName × Nat} (h : q ∈ lw_privs) (hg : goodWord (Cond.selects q.1.cls q.1 q.1) = true) : Cond.selects q.1.cls q.1 q.1 ∈ k_WS := List.mem_filter.mpr ⟨List.mem_append_left _ (List.mem_map.mpr ⟨q, h, rfl⟩), hg⟩
abbrev Mt_X6_init : k_M := (yX6_init, cX6_init, 2, none)
abbrev Mt_X6_row : k_M := (yX6_row, cX6_row, 5, (some .int))
abbrev Mt_X6_set : k_M := (yX6_set, cX6_set, 7, (some .int))
abbrev Mt_X6_copy : k_M := (yX6_copy, cX6_copy, 8, (some .int))
abbrev Mt_X6_element : k_M := (yX6_element, cX6_element, 4, (some .long))
abbrev Mt_X6_show : k_M := (yX6_show, cX6_show, 4, (some .int))
abbrev Mt_X6_holds : k_M := (yX6_holds, cX6_holds, 3, (some .int))
abbrev Mt_X6_says : k_M := (yX6_says, cX6_says, 5, (some .int))
abbrev Mt_X6_citizen : k_M := (yX6_citizen, cX6_citizen, 6, (some .int))
abbrev Mt_X6_beggar : k_M := (yX6_beggar, cX6_beggar, 4, (some .int))
abbrev Mt_X6_tell : k_M := (yX6_tell, cX6_tell, 5, (some .int))
abbrev Mt_X6_post : k_M := (yX6_post, cX6_post, 5, (some .int))
abbrev Mt_X6_citizenOf : k_M := (yX6_citizenOf, cX6_citizenOf, 4, (some .int))
abbrev Mt_X6_beggarOf : k_M := (yX6_beggarOf, cX6_beggarOf, 4, (some .int))
abbrev Mt_X6_city : k_M := (yX6_city, cX6_city, 5, (some .int))
abbrev Mt_X6_fault : k_M := (yX6_fault, cX6_fault, 1, (some .int))
abbrev Mt_X6_picks : k_M := (yX6_picks, cX6_picks, 3, (some .int))
abbrev Mt_X6_kept : k_M := (yX6_kept, cX6_kept, 1, (some .int))
abbrev Mt_X6_picked : k_M := (yX6_picked, cX6_picked, 4, (some .int))
abbrev Mt_X6_wear : k_M := (yX6_wear, cX6_wear, 4, (some .int))
abbrev Mt_X6_unkept : k_M := (yX6_unkept, cX6_unkept, 3, (some .int))
abbrev Mt_X6_parting : k_M := (yX6_parting, cX6_parting, 4, (some .int))
abbrev Mt_X6_rests : k_M := (yX6_rests, cX6_rests, 4, (some .int))
abbrev Mt_X6_shun : k_M := (yX6_shun, cX6_shun, 6, (some .int))
abbrev Mt_X6_rules : k_M := (yX6_rules, cX6_rules, 6, (some .int))
abbrev Mt_X6_hide : k_M := (yX6_hide, cX6_hide, 1, (some .int))
abbrev Mt_X6_lose : k_M := (yX6_lose, cX6_lose, 5, (some .int))
abbrev Mt_X6_best : k_M := (yX6_best, cX6_best, 8, (some .int))
abbrev Mt_X6_judge : k_M := (yX6_judge, cX6_judge, 5, (some .int))
abbrev Mt_X6_mornings : k_M := (yX6_mornings, cX6_mornings, 2, (some .int))
abbrev Mt_X6_winters : k_M := (yX6_winters, cX6_winters, 4, (some .int))
abbrev Mt_X6_seed : k_M := (yX6_seed, cX6_seed, 3, (some .int))
abbrev Mt_X6_act : k_M := (yX6_act, cX6_act, 5, (some .int))
abbrev Mt_X6_trace : k_M := (yX6_trace, cX6_trace, 2, (some .int))
abbrev Mt_X6_image : k_M := (yX6_image, cX6_image, 1, (some .int))
abbrev Mt_X6_restore : k_M := (yX6_restore, cX6_restore, 5, (some .int))
abbrev Mt_X6_status : k_M := (yX6_status, cX6_status, 2, (some .int))
abbrev Mt_X6_refuse : k_M := (yX6_refuse, cX6_refuse, 3, (some .int))
abbrev Mt_X6_shelfAt : k_M := (yX6_shelfAt, cX6_shelfAt, 2, (some (.object "BeggarsChoose$Shelf")))
abbrev Mt_X6_noRow : k_M := (yX6_noRow, cX6_noRow, 3, (some .int))
abbrev Mt_X6_isOutside : k_M := (yX6_isOutside, cX6_isOutside, 3, (some .boolean))
abbrev Mt_X6_mostToTell : k_M := (yX6_mostToTell, cX6_mostToTell, 1, (some .int))
abbrev Mt_X6_kindAbove : k_M := (yX6_kindAbove, cX6_kindAbove, 1, (some .int))
abbrev Mt_X6_isUnder : k_M := (yX6_isUnder, cX6_isUnder, 4, (some .boolean))
abbrev Mt_X7_init : k_M := (yX7_init, cX7_init, 1, none)
abbrev Mt_X7_no : k_M := (yX7_no, cX7_no, 2, (some .int))
abbrev Mt_X7_noTen : k_M := (yX7_noTen, cX7_noTen, 2, (some .int))
abbrev Mt_X7_isShelf : k_M := (yX7_isShelf, cX7_isShelf, 2, (some .boolean))
abbrev Mt_X7_isCitizen : k_M := (yX7_isCitizen, cX7_isCitizen, 2, (some .boolean))
abbrev Mt_X7_isBeggar : k_M := (yX7_isBeggar, cX7_isBeggar, 2, (some .boolean))
abbrev Mt_X7_isFrom : k_M := (yX7_isFrom, cX7_isFrom, 4, (some .boolean))
abbrev Mt_X7_row : k_M := (yX7_row, cX7_row, 5, (some .int))
abbrev Mt_X7_set : k_M := (yX7_set, cX7_set, 5, (some .int))
abbrev Mt_X7_copy : k_M := (yX7_copy, cX7_copy, 7, (some .int))
abbrev Mt_X7_element : k_M := (yX7_element, cX7_element, 3, (some .long))
abbrev Mt_X7_show : k_M := (yX7_show, cX7_show, 3, (some .int))
abbrev Mt_X7_holds : k_M := (yX7_holds, cX7_holds, 2, (some .int))
abbrev Mt_X7_says : k_M := (yX7_says, cX7_says, 6, (some .int))
abbrev Mt_X7_wanted : k_M := (yX7_wanted, cX7_wanted, 2, (some .int))
abbrev Mt_X7_intAt : k_M := (yX7_intAt, cX7_intAt, 3, (some .int))
abbrev Mt_X7_addsCitizen : k_M := (yX7_addsCitizen, cX7_addsCitizen, 5, (some .int))
abbrev Mt_X7_addsBeggar : k_M := (yX7_addsBeggar, cX7_addsBeggar, 3, (some .int))
abbrev Mt_X7_citizen : k_M := (yX7_citizen, cX7_citizen, 5, (some .int))
abbrev Mt_X7_beggar : k_M := (yX7_beggar, cX7_beggar, 3, (some .int))
abbrev Mt_X7_tell : k_M := (yX7_tell, cX7_tell, 5, (some .int))
abbrev Mt_X7_post : k_M := (yX7_post, cX7_post, 4, (some .int))
abbrev Mt_X7_citizenOf : k_M := (yX7_citizenOf, cX7_citizenOf, 3, (some .int))
abbrev Mt_X7_beggarOf : k_M := (yX7_beggarOf, cX7_beggarOf, 3, (some .int))
abbrev Mt_X7_wrong : k_M := (yX7_wrong, cX7_wrong, 2, (some .boolean))
abbrev Mt_X7_stands : k_M := (yX7_stands, cX7_stands, 4, (some .boolean))
abbrev Mt_X7_word : k_M := (yX7_word, cX7_word, 6, (some .int))
abbrev Mt_X7_isDigit : k_M := (yX7_isDigit, cX7_isDigit, 1, (some .boolean))
abbrev Mt_X7_reads : k_M := (yX7_reads, cX7_reads, 2, (some .boolean))
abbrev Mt_X7_isSo : k_M := (yX7_isSo, cX7_isSo, 3, (some .boolean))
abbrev Mt_X7_item : k_M := (yX7_item, cX7_item, 4, (some .boolean))
abbrev Mt_X7_carries : k_M := (yX7_carries, cX7_carries, 6, (some .int))
abbrev Mt_X7_all : k_M := (yX7_all, cX7_all, 4, none)
abbrev Mt_X7_city : k_M := (yX7_city, cX7_city, 5, (some .int))
abbrev Mt_X7_fault : k_M := (yX7_fault, cX7_fault, 1, (some .int))
abbrev Mt_X7_face : k_M := (yX7_face, cX7_face, 4, (some .int))
abbrev Mt_X7_bestFace : k_M := (yX7_bestFace, cX7_bestFace, 5, (some .int))
abbrev Mt_X7_blindly : k_M := (yX7_blindly, cX7_blindly, 5, (some .int))
abbrev Mt_X7_picksBy : k_M := (yX7_picksBy, cX7_picksBy, 3, (some .int))
abbrev Mt_X7_goes : k_M := (yX7_goes, cX7_goes, 4, none)
abbrev Mt_X7_passes : k_M := (yX7_passes, cX7_passes, 2, none)
abbrev Mt_X7_picks : k_M := (yX7_picks, cX7_picks, 2, (some .int))
abbrev Mt_X7_kept : k_M := (yX7_kept, cX7_kept, 1, (some .int))
abbrev Mt_X7_pickedBy : k_M := (yX7_pickedBy, cX7_pickedBy, 4, (some .int))
abbrev Mt_X7_picked : k_M := (yX7_picked, cX7_picked, 3, (some .int))
abbrev Mt_X7_wear : k_M := (yX7_wear, cX7_wear, 4, (some .int))
abbrev Mt_X7_unkept : k_M := (yX7_unkept, cX7_unkept, 6, (some .int))
abbrev Mt_X7_files : k_M := (yX7_files, cX7_files, 2, none)
abbrev Mt_X7_parts : k_M := (yX7_parts, cX7_parts, 4, none)
abbrev Mt_X7_parting : k_M := (yX7_parting, cX7_parting, 3, (some .int))
abbrev Mt_X7_shareAt : k_M := (yX7_shareAt, cX7_shareAt, 5, (some .int))
abbrev Mt_X7_doesRound : k_M := (yX7_doesRound, cX7_doesRound, 8, (some .boolean))
abbrev Mt_X7_restsAfter : k_M := (yX7_restsAfter, cX7_restsAfter, 3, (some .int))
abbrev Mt_X7_rests : k_M := (yX7_rests, cX7_rests, 4, (some .int))
abbrev Mt_X7_shun : k_M := (yX7_shun, cX7_shun, 7, (some .int))
abbrev Mt_X7_rules : k_M := (yX7_rules, cX7_rules, 6, (some .int))
abbrev Mt_X7_hide : k_M := (yX7_hide, cX7_hide, 3, (some .int))
abbrev Mt_X7_lose : k_M := (yX7_lose, cX7_lose, 3, (some .int))
abbrev Mt_X7_best : k_M := (yX7_best, cX7_best, 4, (some .int))
abbrev Mt_X7_judge : k_M := (yX7_judge, cX7_judge, 5, (some .int))
abbrev Mt_X7_mornings : k_M := (yX7_mornings, cX7_mornings, 4, (some .int))
abbrev Mt_X7_draw : k_M := (yX7_draw, cX7_draw, 2, (some .int))
abbrev Mt_X7_winters : k_M := (yX7_winters, cX7_winters, 5, (some .int))
abbrev Mt_X7_seed : k_M := (yX7_seed, cX7_seed, 3, (some .int))
abbrev Mt_X7_body : k_M := (yX7_body, cX7_body, 2, none)
abbrev Mt_X7_looking : k_M := (yX7_looking, cX7_looking, 9, (some .int))
abbrev Mt_X7_giving : k_M := (yX7_giving, cX7_giving, 5, (some .int))
abbrev Mt_X7_shutting : k_M := (yX7_shutting, cX7_shutting, 5, (some .int))
abbrev Mt_X7_act : k_M := (yX7_act, cX7_act, 4, (some .int))
abbrev Mt_X7_trace : k_M := (yX7_trace, cX7_trace, 2, (some .int))
abbrev Mt_X7_image : k_M := (yX7_image, cX7_image, 1, (some .int))
abbrev Mt_X7_restore : k_M := (yX7_restore, cX7_restore, 2, (some .int))
abbrev Mt_X7_together : k_M := (yX7_together, cX7_together, 5, (some .int))
abbrev Mt_X7_status : k_M := (yX7_status, cX7_status, 2, (some .int))
abbrev Mt_X0_init : k_M := (yX0_init, cX0_init, 2, none)
abbrev Mt_X0_become : k_M := (yX0_become, cX0_become, 2, none)
abbrev Mt_X0_arrive : k_M := (yX0_arrive, cX0_arrive, 3, none)
abbrev Mt_X0_comes : k_M := (yX0_comes, cX0_comes, 1, (some .boolean))
abbrev Mt_X0_endMorning : k_M := (yX0_endMorning, cX0_endMorning, 1, none)
abbrev Mt_X1_init : k_M := (yX1_init, cX1_init, 2, none)
abbrev Mt_X1_become : k_M := (yX1_become, cX1_become, 2, none)
abbrev Mt_X1_arrive : k_M := (yX1_arrive, cX1_arrive, 5, none)
abbrev Mt_X1_isOpen : k_M := (yX1_isOpen, cX1_isOpen, 1, (some .boolean))
abbrev Mt_X1_faceNow : k_M := (yX1_faceNow, cX1_faceNow, 1, (some .int))
abbrev Mt_X1_unboundedFace : k_M := (yX1_unboundedFace, cX1_unboundedFace, 4, (some .int))
abbrev Mt_X1_saysAs : k_M := (yX1_saysAs, cX1_saysAs, 2, (some .int))
abbrev Mt_X1_becomes : k_M := (yX1_becomes, cX1_becomes, 4, (some .int))
abbrev Mt_X1_beginMorning : k_M := (yX1_beginMorning, cX1_beginMorning, 1, none)
abbrev Mt_X1_receive : k_M := (yX1_receive, cX1_receive, 2, none)
abbrev Mt_X1_keeps : k_M := (yX1_keeps, cX1_keeps, 3, (some .boolean))
abbrev Mt_X1_endMorning : k_M := (yX1_endMorning, cX1_endMorning, 1, none)
abbrev Mt_X1_share : k_M := (yX1_share, cX1_share, 3, (some .int))
abbrev Mt_X2_init : k_M := (yX2_init, cX2_init, 2, none)
abbrev Mt_X2_become : k_M := (yX2_become, cX2_become, 3, none)
abbrev Mt_X2_citizenAt : k_M := (yX2_citizenAt, cX2_citizenAt, 2, (some (.object "BeggarsChoose$Citizen")))
abbrev Mt_X2_beggarAt : k_M := (yX2_beggarAt, cX2_beggarAt, 2, (some (.object "BeggarsChoose$Beggar")))
abbrev Mt_X2_addCitizen : k_M := (yX2_addCitizen, cX2_addCitizen, 6, (some .int))
abbrev Mt_X2_addBeggar : k_M := (yX2_addBeggar, cX2_addBeggar, 4, (some .int))
abbrev Mt_X2_countOpen : k_M := (yX2_countOpen, cX2_countOpen, 6, (some .int))
abbrev Mt_X2_countHidden : k_M := (yX2_countHidden, cX2_countHidden, 1, (some .int))
abbrev Mt_X2_countComing : k_M := (yX2_countComing, cX2_countComing, 6, (some .int))
abbrev Mt_X2_countPosts : k_M := (yX2_countPosts, cX2_countPosts, 1, (some .int))
abbrev Mt_X2_wearTogether : k_M := (yX2_wearTogether, cX2_wearTogether, 6, (some .int))
abbrev Mt_X2_hungerTogether : k_M := (yX2_hungerTogether, cX2_hungerTogether, 6, (some .int))
abbrev Mt_X2_comingAt : k_M := (yX2_comingAt, cX2_comingAt, 7, (some (.object "BeggarsChoose$Beggar")))
abbrev Mt_X2_openAt : k_M := (yX2_openAt, cX2_openAt, 7, (some (.object "BeggarsChoose$Citizen")))
abbrev Mt_X2_goBy : k_M := (yX2_goBy, cX2_goBy, 6, none)
abbrev Mt_X2_chosenBy : k_M := (yX2_chosenBy, cX2_chosenBy, 2, (some (.object "BeggarsChoose$Citizen")))
abbrev Mt_X2_greatestFace : k_M := (yX2_greatestFace, cX2_greatestFace, 6, (some (.object "BeggarsChoose$Citizen")))
abbrev Mt_X2_leastFace : k_M := (yX2_leastFace, cX2_leastFace, 6, (some (.object "BeggarsChoose$Citizen")))
abbrev Mt_X2_fewestPicked : k_M := (yX2_fewestPicked, cX2_fewestPicked, 6, (some (.object "BeggarsChoose$Citizen")))
abbrev Mt_X2_blindPlace : k_M := (yX2_blindPlace, cX2_blindPlace, 3, (some .int))
abbrev Mt_X2_canStay : k_M := (yX2_canStay, cX2_canStay, 3, (some .boolean))
abbrev Mt_X2_keptBits : k_M := (yX2_keptBits, cX2_keptBits, 6, (some .int))
abbrev Mt_X2_countUnkept : k_M := (yX2_countUnkept, cX2_countUnkept, 6, (some .int))
abbrev Mt_X2_hungryMorning : k_M := (yX2_hungryMorning, cX2_hungryMorning, 1, (some .int))
abbrev Mt_X2_passMorning : k_M := (yX2_passMorning, cX2_passMorning, 6, (some .int))
abbrev Mt_X2_passMornings : k_M := (yX2_passMornings, cX2_passMornings, 4, (some .int))
abbrev Mt_X2_firstHungryMorning : k_M := (yX2_firstHungryMorning, cX2_firstHungryMorning, 3, (some .int))
abbrev Mt_X2_draw : k_M := (yX2_draw, cX2_draw, 2, (some .int))
abbrev Mt_X2_drawWhoHides : k_M := (yX2_drawWhoHides, cX2_drawWhoHides, 5, none)
abbrev Mt_X2_isPickedWithHeart : k_M := (yX2_isPickedWithHeart, cX2_isPickedWithHeart, 4, (some .boolean))
abbrev Mt_X2_pickByRule : k_M := (yX2_pickByRule, cX2_pickByRule, 4, (some .int))
abbrev Mt_X2_mostBurdened : k_M := (yX2_mostBurdened, cX2_mostBurdened, 7, (some .int))
abbrev Mt_X2_firstWrong : k_M := (yX2_firstWrong, cX2_firstWrong, 8, (some .int))
abbrev Mt_X2_partAll : k_M := (yX2_partAll, cX2_partAll, 6, (some .int))
abbrev Mt_X2_partFrom : k_M := (yX2_partFrom, cX2_partFrom, 3, none)
abbrev Mt_X2_tryEach : k_M := (yX2_tryEach, cX2_tryEach, 8, none)
abbrev Mt_X2_notePart : k_M := (yX2_notePart, cX2_notePart, 6, none)
abbrev Mt_X2_comeToRest : k_M := (yX2_comeToRest, cX2_comeToRest, 6, (some .int))
abbrev Mt_X2_moveAll : k_M := (yX2_moveAll, cX2_moveAll, 6, (some .boolean))
abbrev Mt_X2_moveOne : k_M := (yX2_moveOne, cX2_moveOne, 10, (some .boolean))
abbrev Mt_X3_init : k_M := (yX3_init, cX3_init, 1, none)
abbrev Mt_X3_forget : k_M := (yX3_forget, cX3_forget, 1, none)
abbrev Mt_X3_bodyAt : k_M := (yX3_bodyAt, cX3_bodyAt, 2, (some .int))
abbrev Mt_X3_perform : k_M := (yX3_perform, cX3_perform, 4, (some .int))
abbrev Mt_X3_begin : k_M := (yX3_begin, cX3_begin, 2, none)
abbrev Mt_X3_run : k_M := (yX3_run, cX3_run, 7, (some .int))
abbrev Mt_X3_answer : k_M := (yX3_answer, cX3_answer, 5, (some .int))
abbrev Mt_X3_ownerOf : k_M := (yX3_ownerOf, cX3_ownerOf, 4, (some .int))
abbrev Mt_X3_bodyOf : k_M := (yX3_bodyOf, cX3_bodyOf, 3, (some .int))
abbrev Mt_X4_init : k_M := (yX4_init, cX4_init, 1, none)
abbrev Mt_X4_read : k_M := (yX4_read, cX4_read, 4, (some .int))
abbrev Mt_X4_readItem : k_M := (yX4_readItem, cX4_readItem, 4, (some .boolean))
abbrev Mt_X4_hasRoom : k_M := (yX4_hasRoom, cX4_hasRoom, 3, (some .boolean))
abbrev Mt_X4_readCitizen : k_M := (yX4_readCitizen, cX4_readCitizen, 6, (some .boolean))
abbrev Mt_X4_readBeggar : k_M := (yX4_readBeggar, cX4_readBeggar, 4, (some .boolean))
abbrev Mt_X4_readPost : k_M := (yX4_readPost, cX4_readPost, 3, (some .boolean))
abbrev Mt_X4_readOfCitizen : k_M := (yX4_readOfCitizen, cX4_readOfCitizen, 5, (some .boolean))
abbrev Mt_X4_readWord : k_M := (yX4_readWord, cX4_readWord, 5, (some .int))
abbrev Mt_X4_wordAt : k_M := (yX4_wordAt, cX4_wordAt, 1, (some (.object "java/lang/String")))
abbrev Mt_X4_countLetters : k_M := (yX4_countLetters, cX4_countLetters, 3, (some .int))
abbrev Mt_X4_readNumber : k_M := (yX4_readNumber, cX4_readNumber, 5, (some .int))
abbrev Mt_X4_readSign : k_M := (yX4_readSign, cX4_readSign, 2, (some .boolean))
abbrev Mt_X4_isDigit : k_M := (yX4_isDigit, cX4_isDigit, 2, (some .boolean))
abbrev Mt_X4_signAt : k_M := (yX4_signAt, cX4_signAt, 2, (some .int))
abbrev Mt_X4_failAt : k_M := (yX4_failAt, cX4_failAt, 2, (some .boolean))
abbrev Mt_X5_init : k_M := (yX5_init, cX5_init, 1, none)
abbrev Mt_X5_takeRow : k_M := (yX5_takeRow, cX5_takeRow, 4, none)
abbrev Mt_X5_takeCitizen : k_M := (yX5_takeCitizen, cX5_takeCitizen, 2, none)
abbrev Mt_X5_hasRow : k_M := (yX5_hasRow, cX5_hasRow, 1, (some .boolean))
abbrev Mt_X5_hasCitizen : k_M := (yX5_hasCitizen, cX5_hasCitizen, 1, (some .boolean))
abbrev Mt_X5_differsInSort : k_M := (yX5_differsInSort, cX5_differsInSort, 2, (some .boolean))
abbrev Mt_X5_hasElement : k_M := (yX5_hasElement, cX5_hasElement, 2, (some .boolean))
abbrev Mt_X5_hasStretch : k_M := (yX5_hasStretch, cX5_hasStretch, 3, (some .boolean))
abbrev Mt_X5_get : k_M := (yX5_get, cX5_get, 2, (some .long))
abbrev Mt_X5_getInt : k_M := (yX5_getInt, cX5_getInt, 2, (some .int))
abbrev Mt_X5_put : k_M := (yX5_put, cX5_put, 4, none)
abbrev Mt_X5_takeElements : k_M := (yX5_takeElements, cX5_takeElements, 5, none)
theorem cl_X0 : k_CL 0 (RX0, TX0, 12) := ⟨by decide, rfl, rfl, k_inL [150, 152, 154, 156, 158, 160, 162, 164, 166, 168, 170, 172] (by decide +kernel) (by decide +kernel), ⟨tyX0, tyX0_ok⟩, nmX0⟩
theorem cl_X1 : k_CL 1 (RX1, TX1, 15) := ⟨by decide, rfl, rfl, k_inL [77, 79, 81, 83, 85, 87, 89, 91, 93, 95, 97, 99, 101, 103, 105] (by decide +kernel) (by decide +kernel), ⟨tyX1, tyX1_ok⟩, nmX1⟩
theorem cl_X2 : k_CL 2 (RX2, TX2, 8) := ⟨by decide, rfl, rfl, k_inL [190, 192, 194, 196, 198, 200, 202, 204] (by decide +kernel) (by decide +kernel), ⟨tyX2, tyX2_ok⟩, nmX2⟩
theorem cl_X3 : k_CL 3 (RX3, TX3, 5) := ⟨by decide, rfl, rfl, k_inL [242, 244, 246, 248, 250] (by decide +kernel) (by decide +kernel), ⟨tyX3, tyX3_ok⟩, nmX3⟩
theorem cl_X4 : k_CL 4 (RX4, TX4, 4) := ⟨by decide, rfl, rfl, k_inL [220, 222, 224, 226] (by decide +kernel) (by decide +kernel), ⟨tyX4, tyX4_ok⟩, nmX4⟩
theorem cl_X5 : k_CL 5 (RX5, TX5, 4) := ⟨by decide, rfl, rfl, k_inL [266, 268, 270, 272] (by decide +kernel) (by decide +kernel), ⟨tyX5, tyX5_ok⟩, nmX5⟩
theorem cl_X6 : k_CL 6 (RX6, TX6, 8) := ⟨by decide, rfl, rfl, k_inL [284, 286, 288, 290, 292, 294, 296, 298] (by decide +kernel) (by decide +kernel), ⟨tyX6, tyX6_ok⟩, nmX6⟩
theorem cl_X7 : k_CL 7 (RX7, TX7, 53) := ⟨by decide, rfl, rfl, k_inL [974, 976, 978, 980, 982, 984, 986, 988, 990, 992, 994, 996, 998, 1000, 1002, 1004, 1006, 1008, 1010, 1012, 1014, 1016, 1018, 1020, 1022, 1024, 1026, 1028, 1030, 1032, 1034, 1036, 1038, 1040, 1042, 1044, 1046, 1048, 1050, 1052, 1054, 1056, 1058, 1060, 1062, 1064, 1066, 1068, 1070, 1072, 1074, 1076, 1078] (by decide +kernel) (by decide +kernel), ⟨tyX7, tyX7_ok⟩, nmX7⟩
theorem cb_X2_init : k_cb Mt_X2_init 0 := ⟨k_inWS 27 (by decide +kernel) (by decide), k_inWS 2 (by decide +kernel) (by decide), ⟨by decide +kernel, by decide +kernel⟩, by decide +kernel, by decide⟩
theorem ci_X2_init : Cond.instanceMethod yX2_init ∈ k_WS := k_inWS 26 (by decide +kernel) (by decide)
theorem fl_X6_10 : k_FL RX6 10 6 0 := ⟨_, cl_X6, by decide, Or.inl (k_inWS 276 (by decide +kernel) (by decide))⟩
theorem pl_X6_10 : k_PL RX6 10 6 0 (.object "BeggarsChoose$City") true := ⟨_, cl_X6, by decide, Or.inl (k_inWS 276 (by decide +kernel) (by decide)), rfl, by decide +kernel, fun _ => rfl⟩
theorem fl_X6_16 : k_FL RX6 16 6 1 := ⟨_, cl_X6, by decide, Or.inl (k_inWS 277 (by decide +kernel) (by decide))⟩
theorem pl_X6_16 : k_PL RX6 16 6 1 (.object "BeggarsChoose$City") true := ⟨_, cl_X6, by decide, Or.inl (k_inWS 277 (by decide +kernel) (by decide)), rfl, by decide +kernel, fun _ => rfl⟩
theorem fl_X6_19 : k_FL RX6 19 6 2 := ⟨_, cl_X6, by decide, Or.inl (k_inWS 278 (by decide +kernel) (by decide))⟩
theorem pl_X6_19 : k_PL RX6 19 6 2 (.object "BeggarsChoose$City") true := ⟨_, cl_X6, by decide, Or.inl (k_inWS 278 (by decide +kernel) (by decide)), rfl, by decide +kernel, fun _ => rfl⟩
theorem fl_X6_24 : k_FL RX6 24 6 4 := ⟨_, cl_X6, by decide, Or.inl (k_inWS 280 (by decide +kernel) (by decide))⟩
theorem pl_X6_24 : k_PL RX6 24 6 4 (.array (.object "BeggarsChoose$Shelf")) true := ⟨_, cl_X6, by decide, Or.inl (k_inWS 280 (by decide +kernel) (by decide)), rfl, by decide +kernel, fun _ => rfl⟩
theorem fl_X6_28 : k_FL RX6 28 6 5 := ⟨_, cl_X6, by decide, Or.inl (k_inWS 281 (by decide +kernel) (by decide))⟩
theorem pl_X6_28 : k_PL RX6 28 6 5 (.array .int) true := ⟨_, cl_X6, by decide, Or.inl (k_inWS 281 (by decide +kernel) (by decide)), rfl, by decide +kernel, fun _ => rfl⟩
theorem cb_X4_init : k_cb Mt_X4_init 0 := ⟨k_inWS 213 (by decide +kernel) (by decide), k_inWS 5 (by decide +kernel) (by decide), ⟨by decide +kernel, by decide +kernel⟩, by decide +kernel, by decide⟩
theorem ci_X4_init : Cond.instanceMethod yX4_init ∈ k_WS := k_inWS 212 (by decide +kernel) (by decide)
theorem fl_X6_35 : k_FL RX6 35 6 6 := ⟨_, cl_X6, by decide, Or.inl (k_inWS 282 (by decide +kernel) (by decide))⟩
theorem pl_X6_35 : k_PL RX6 35 6 6 (.object "BeggarsChoose$Reader") true := ⟨_, cl_X6, by decide, Or.inl (k_inWS 282 (by decide +kernel) (by decide)), rfl, by decide +kernel, fun _ => rfl⟩
theorem cb_X3_init : k_cb Mt_X3_init 0 := ⟨k_inWS 234 (by decide +kernel) (by decide), k_inWS 6 (by decide +kernel) (by decide), ⟨by decide +kernel, by decide +kernel⟩, by decide +kernel, by decide⟩
theorem ci_X3_init : Cond.instanceMethod yX3_init ∈ k_WS := k_inWS 233 (by decide +kernel) (by decide)
theorem fl_X6_42 : k_FL RX6 42 6 7 := ⟨_, cl_X6, by decide, Or.inl (k_inWS 283 (by decide +kernel) (by decide))⟩
theorem pl_X6_42 : k_PL RX6 42 6 7 (.object "BeggarsChoose$Play") true := ⟨_, cl_X6, by decide, Or.inl (k_inWS 283 (by decide +kernel) (by decide)), rfl, by decide +kernel, fun _ => rfl⟩
theorem cb_X5_init : k_cb Mt_X5_init 0 := ⟨k_inWS 256 (by decide +kernel) (by decide), k_inWS 7 (by decide +kernel) (by decide), ⟨by decide +kernel, by decide +kernel⟩, by decide +kernel, by decide⟩
theorem ci_X5_init : Cond.instanceMethod yX5_init ∈ k_WS := k_inWS 255 (by decide +kernel) (by decide)
theorem cb_X6_shelfAt : k_cb Mt_X6_shelfAt 1 := ⟨k_inWS 308 (by decide +kernel) (by decide), k_inWS 1 (by decide +kernel) (by decide), ⟨by decide +kernel, by decide +kernel⟩, by decide +kernel, by decide⟩
theorem ci_X6_shelfAt : Cond.instanceMethod yX6_shelfAt ∈ k_WS := k_inWS 307 (by decide +kernel) (by decide)
theorem ce_X6_shelfAt : Cond.selects RX6 yX6_shelfAt yX6_shelfAt ∈ k_WS := k_inPr (q := (yX6_shelfAt, 8)) (by decide +kernel) (by decide +kernel)
theorem cv_X6_47 : k_CV RX6 47 6 Mt_X6_shelfAt 1 := ⟨cb_X6_shelfAt, Or.inl (k_inWS 305 (by decide +kernel) (by decide)), ci_X6_shelfAt, ce_X6_shelfAt, _, by decide, rfl, rfl⟩
theorem cb_X6_refuse : k_cb Mt_X6_refuse 2 := ⟨k_inWS 312 (by decide +kernel) (by decide), k_inWS 1 (by decide +kernel) (by decide), ⟨by decide +kernel, by decide +kernel⟩, by decide +kernel, by decide⟩
theorem ci_X6_refuse : Cond.instanceMethod yX6_refuse ∈ k_WS := k_inWS 311 (by decide +kernel) (by decide)
theorem ce_X6_refuse : Cond.selects RX6 yX6_refuse yX6_refuse ∈ k_WS := k_inPr (q := (yX6_refuse, 8)) (by decide +kernel) (by decide +kernel)
theorem cv_X6_51 : k_CV RX6 51 6 Mt_X6_refuse 2 := ⟨cb_X6_refuse, Or.inl (k_inWS 309 (by decide +kernel) (by decide)), ci_X6_refuse, ce_X6_refuse, _, by decide, rfl, rfl⟩
theorem cb_X5_takeRow : k_cb Mt_X5_takeRow 2 := ⟨k_inWS 316 (by decide +kernel) (by decide), k_inWS 7 (by decide +kernel) (by decide), ⟨by decide +kernel, by decide +kernel⟩, by decide +kernel, by decide⟩
theorem ci_X5_takeRow : Cond.instanceMethod yX5_takeRow ∈ k_WS := k_inWS 315 (by decide +kernel) (by decide)
theorem ce_X5_takeRow : Cond.selects RX5 yX5_takeRow yX5_takeRow ∈ k_WS := k_inPr (q := (yX5_takeRow, 4)) (by decide +kernel) (by decide +kernel)
theorem cv_X6_55 : k_CV RX6 55 5 Mt_X5_takeRow 2 := ⟨cb_X5_takeRow, Or.inr ⟨"BeggarsChoose", k_inNW 313 (by decide +kernel) (by decide)⟩, ci_X5_takeRow, ce_X5_takeRow, _, by decide, rfl, rfl⟩
theorem cb_X6_noRow : k_cb Mt_X6_noRow 1 := ⟨k_inWS 330 (by decide +kernel) (by decide), k_inWS 1 (by decide +kernel) (by decide), ⟨by decide +kernel, by decide +kernel⟩, by decide +kernel, by decide⟩
theorem ci_X6_noRow : Cond.instanceMethod yX6_noRow ∈ k_WS := k_inWS 329 (by decide +kernel) (by decide)
theorem ce_X6_noRow : Cond.selects RX6 yX6_noRow yX6_noRow ∈ k_WS := k_inPr (q := (yX6_noRow, 8)) (by decide +kernel) (by decide +kernel)
theorem cv_X6_59 : k_CV RX6 59 6 Mt_X6_noRow 1 := ⟨cb_X6_noRow, Or.inl (k_inWS 327 (by decide +kernel) (by decide)), ci_X6_noRow, ce_X6_noRow, _, by decide, rfl, rfl⟩
theorem cb_X5_hasElement : k_cb Mt_X5_hasElement 1 := ⟨k_inWS 342 (by decide +kernel) (by decide), k_inWS 7 (by decide +kernel) (by decide), ⟨by decide +kernel, by decide +kernel⟩, by decide +kernel, by decide⟩
theorem ci_X5_hasElement : Cond.instanceMethod yX5_hasElement ∈ k_WS := k_inWS 341 (by decide +kernel) (by decide)
theorem ce_X5_hasElement : Cond.selects RX5 yX5_hasElement yX5_hasElement ∈ k_WS := k_inPr (q := (yX5_hasElement, 4)) (by decide +kernel) (by decide +kernel)
theorem cv_X6_63 : k_CV RX6 63 5 Mt_X5_hasElement 1 := ⟨cb_X5_hasElement, Or.inr ⟨"BeggarsChoose", k_inNW 339 (by decide +kernel) (by decide)⟩, ci_X5_hasElement, ce_X5_hasElement, _, by decide, rfl, rfl⟩
theorem cb_X5_put : k_cb Mt_X5_put 2 := ⟨k_inWS 346 (by decide +kernel) (by decide), k_inWS 7 (by decide +kernel) (by decide), ⟨by decide +kernel, by decide +kernel⟩, by decide +kernel, by decide⟩
theorem ci_X5_put : Cond.instanceMethod yX5_put ∈ k_WS := k_inWS 345 (by decide +kernel) (by decide)
theorem ce_X5_put : Cond.selects RX5 yX5_put yX5_put ∈ k_WS := k_inPr (q := (yX5_put, 4)) (by decide +kernel) (by decide +kernel)
theorem cv_X6_67 : k_CV RX6 67 5 Mt_X5_put 2 := ⟨cb_X5_put, Or.inr ⟨"BeggarsChoose", k_inNW 343 (by decide +kernel) (by decide)⟩, ci_X5_put, ce_X5_put, _, by decide, rfl, rfl⟩
theorem cb_X5_hasCitizen : k_cb Mt_X5_hasCitizen 0 := ⟨k_inWS 334 (by decide +kernel) (by decide), k_inWS 7 (by decide +kernel) (by decide), ⟨by decide +kernel, by decide +kernel⟩, by decide +kernel, by decide⟩
theorem ci_X5_hasCitizen : Cond.instanceMethod yX5_hasCitizen ∈ k_WS := k_inWS 333 (by decide +kernel) (by decide)
theorem ce_X5_hasCitizen : Cond.selects RX5 yX5_hasCitizen yX5_hasCitizen ∈ k_WS := k_inPr (q := (yX5_hasCitizen, 4)) (by decide +kernel) (by decide +kernel)
theorem cv_X6_71 : k_CV RX6 71 5 Mt_X5_hasCitizen 0 := ⟨cb_X5_hasCitizen, Or.inr ⟨"BeggarsChoose", k_inNW 331 (by decide +kernel) (by decide)⟩, ci_X5_hasCitizen, ce_X5_hasCitizen, _, by decide, rfl, rfl⟩
theorem cb_X5_differsInSort : k_cb Mt_X5_differsInSort 1 := ⟨k_inWS 355 (by decide +kernel) (by decide), k_inWS 7 (by decide +kernel) (by decide), ⟨by decide +kernel, by decide +kernel⟩, by decide +kernel, by decide⟩
theorem ci_X5_differsInSort : Cond.instanceMethod yX5_differsInSort ∈ k_WS := k_inWS 354 (by decide +kernel) (by decide)
theorem ce_X5_differsInSort : Cond.selects RX5 yX5_differsInSort yX5_differsInSort ∈ k_WS := k_inPr (q := (yX5_differsInSort, 4)) (by decide +kernel) (by decide +kernel)
theorem cv_X6_75 : k_CV RX6 75 5 Mt_X5_differsInSort 1 := ⟨cb_X5_differsInSort, Or.inr ⟨"BeggarsChoose", k_inNW 352 (by decide +kernel) (by decide)⟩, ci_X5_differsInSort, ce_X5_differsInSort, _, by decide, rfl, rfl⟩
theorem cb_X5_hasRow : k_cb Mt_X5_hasRow 0 := ⟨k_inWS 338 (by decide +kernel) (by decide), k_inWS 7 (by decide +kernel) (by decide), ⟨by decide +kernel, by decide +kernel⟩, by decide +kernel, by decide⟩
theorem ci_X5_hasRow : Cond.instanceMethod yX5_hasRow ∈ k_WS := k_inWS 337 (by decide +kernel) (by decide)
theorem ce_X5_hasRow : Cond.selects RX5 yX5_hasRow yX5_hasRow ∈ k_WS := k_inPr (q := (yX5_hasRow, 4)) (by decide +kernel) (by decide +kernel)
theorem cv_X6_79 : k_CV RX6 79 5 Mt_X5_hasRow 0 := ⟨cb_X5_hasRow, Or.inr ⟨"BeggarsChoose", k_inNW 335 (by decide +kernel) (by decide)⟩, ci_X5_hasRow, ce_X5_hasRow, _, by decide, rfl, rfl⟩
theorem cb_X5_hasStretch : k_cb Mt_X5_hasStretch 2 := ⟨k_inWS 360 (by decide +kernel) (by decide), k_inWS 7 (by decide +kernel) (by decide), ⟨by decide +kernel, by decide +kernel⟩, by decide +kernel, by decide⟩
theorem ci_X5_hasStretch : Cond.instanceMethod yX5_hasStretch ∈ k_WS := k_inWS 359 (by decide +kernel) (by decide)
theorem ce_X5_hasStretch : Cond.selects RX5 yX5_hasStretch yX5_hasStretch ∈ k_WS := k_inPr (q := (yX5_hasStretch, 4)) (by decide +kernel) (by decide +kernel)
theorem cv_X6_82 : k_CV RX6 82 5 Mt_X5_hasStretch 2 := ⟨cb_X5_hasStretch, Or.inr ⟨"BeggarsChoose", k_inNW 357 (by decide +kernel) (by decide)⟩, ci_X5_hasStretch, ce_X5_hasStretch, _, by decide, rfl, rfl⟩
theorem cb_X5_takeElements : k_cb Mt_X5_takeElements 4 := ⟨k_inWS 364 (by decide +kernel) (by decide), k_inWS 7 (by decide +kernel) (by decide), ⟨by decide +kernel, by decide +kernel⟩, by decide +kernel, by decide⟩
theorem ci_X5_takeElements : Cond.instanceMethod yX5_takeElements ∈ k_WS := k_inWS 363 (by decide +kernel) (by decide)
theorem ce_X5_takeElements : Cond.selects RX5 yX5_takeElements yX5_takeElements ∈ k_WS := k_inPr (q := (yX5_takeElements, 4)) (by decide +kernel) (by decide +kernel)
theorem cv_X6_86 : k_CV RX6 86 5 Mt_X5_takeElements 4 := ⟨cb_X5_takeElements, Or.inr ⟨"BeggarsChoose", k_inNW 361 (by decide +kernel) (by decide)⟩, ci_X5_takeElements, ce_X5_takeElements, _, by decide, rfl, rfl⟩
theorem cb_X5_get : k_cb Mt_X5_get 1 := ⟨k_inWS 376 (by decide +kernel) (by decide), k_inWS 7 (by decide +kernel) (by decide), ⟨by decide +kernel, by decide +kernel⟩, by decide +kernel, by decide⟩
theorem ci_X5_get : Cond.instanceMethod yX5_get ∈ k_WS := k_inWS 375 (by decide +kernel) (by decide)
theorem ce_X5_get : Cond.selects RX5 yX5_get yX5_get ∈ k_WS := k_inPr (q := (yX5_get, 4)) (by decide +kernel) (by decide +kernel)
theorem cv_X6_90 : k_CV RX6 90 5 Mt_X5_get 1 := ⟨cb_X5_get, Or.inr ⟨"BeggarsChoose", k_inNW 373 (by decide +kernel) (by decide)⟩, ci_X5_get, ce_X5_get, _, by decide, rfl, rfl⟩
theorem cb_X2_citizenAt : k_cb Mt_X2_citizenAt 1 := ⟨k_inWS 384 (by decide +kernel) (by decide), k_inWS 2 (by decide +kernel) (by decide), ⟨by decide +kernel, by decide +kernel⟩, by decide +kernel, by decide⟩
theorem ci_X2_citizenAt : Cond.instanceMethod yX2_citizenAt ∈ k_WS := k_inWS 383 (by decide +kernel) (by decide)
theorem ce_X2_citizenAt : Cond.selects RX2 yX2_citizenAt yX2_citizenAt ∈ k_WS := k_inPr (q := (yX2_citizenAt, 8)) (by decide +kernel) (by decide +kernel)
theorem cv_X6_94 : k_CV RX6 94 2 Mt_X2_citizenAt 1 := ⟨cb_X2_citizenAt, Or.inr ⟨"BeggarsChoose", k_inNW 381 (by decide +kernel) (by decide)⟩, ci_X2_citizenAt, ce_X2_citizenAt, _, by decide, rfl, rfl⟩
theorem cb_X5_takeCitizen : k_cb Mt_X5_takeCitizen 1 := ⟨k_inWS 388 (by decide +kernel) (by decide), k_inWS 7 (by decide +kernel) (by decide), ⟨by decide +kernel, by decide +kernel⟩, by decide +kernel, by decide⟩
theorem ci_X5_takeCitizen : Cond.instanceMethod yX5_takeCitizen ∈ k_WS := k_inWS 387 (by decide +kernel) (by decide)
theorem ce_X5_takeCitizen : Cond.selects RX5 yX5_takeCitizen yX5_takeCitizen ∈ k_WS := k_inPr (q := (yX5_takeCitizen, 4)) (by decide +kernel) (by decide +kernel)
theorem cv_X6_98 : k_CV RX6 98 5 Mt_X5_takeCitizen 1 := ⟨cb_X5_takeCitizen, Or.inr ⟨"BeggarsChoose", k_inNW 385 (by decide +kernel) (by decide)⟩, ci_X5_takeCitizen, ce_X5_takeCitizen, _, by decide, rfl, rfl⟩
theorem fl_X6_102 : k_FL RX6 102 5 1 := ⟨_, cl_X5, by decide, Or.inr ⟨"BeggarsChoose", k_inNW 260 (by decide +kernel) (by decide)⟩⟩
theorem fl_X6_106 : k_FL RX6 106 5 3 := ⟨_, cl_X5, by decide, Or.inr ⟨"BeggarsChoose", k_inNW 265 (by decide +kernel) (by decide)⟩⟩
theorem fl_X6_109 : k_FL RX6 109 1 3 := ⟨_, cl_X1, by decide, Or.inr ⟨"BeggarsChoose", k_inNW 49 (by decide +kernel) (by decide)⟩⟩
theorem cb_X6_isUnder : k_cb Mt_X6_isUnder 2 := ⟨k_inWS 399 (by decide +kernel) (by decide), k_inWS 1 (by decide +kernel) (by decide), ⟨by decide +kernel, by decide +kernel⟩, by decide +kernel, by decide⟩
theorem cs_X6_114 : k_CS RX6 114 Mt_X6_isUnder 2 := ⟨cb_X6_isUnder, Or.inl (k_inWS 397 (by decide +kernel) (by decide)), k_inWS 398 (by decide +kernel) (by decide)⟩
theorem cb_X1_saysAs : k_cb Mt_X1_saysAs 1 := ⟨k_inWS 408 (by decide +kernel) (by decide), k_inWS 3 (by decide +kernel) (by decide), ⟨by decide +kernel, by decide +kernel⟩, by decide +kernel, by decide⟩
theorem ci_X1_saysAs : Cond.instanceMethod yX1_saysAs ∈ k_WS := k_inWS 407 (by decide +kernel) (by decide)
theorem ce_X1_saysAs : Cond.selects RX1 yX1_saysAs yX1_saysAs ∈ k_WS := k_inPr (q := (yX1_saysAs, 15)) (by decide +kernel) (by decide +kernel)
theorem cv_X6_117 : k_CV RX6 117 1 Mt_X1_saysAs 1 := ⟨cb_X1_saysAs, Or.inr ⟨"BeggarsChoose", k_inNW 405 (by decide +kernel) (by decide)⟩, ci_X1_saysAs, ce_X1_saysAs, _, by decide, rfl, rfl⟩
theorem cb_X6_isOutside : k_cb Mt_X6_isOutside 3 := ⟨k_inWS 425 (by decide +kernel) (by decide), k_inWS 1 (by decide +kernel) (by decide), ⟨by decide +kernel, by decide +kernel⟩, by decide +kernel, by decide⟩
theorem cs_X6_120 : k_CS RX6 120 Mt_X6_isOutside 3 := ⟨cb_X6_isOutside, Or.inl (k_inWS 423 (by decide +kernel) (by decide)), k_inWS 424 (by decide +kernel) (by decide)⟩
theorem cb_X2_addCitizen : k_cb Mt_X2_addCitizen 4 := ⟨k_inWS 429 (by decide +kernel) (by decide), k_inWS 2 (by decide +kernel) (by decide), ⟨by decide +kernel, by decide +kernel⟩, by decide +kernel, by decide⟩
theorem ci_X2_addCitizen : Cond.instanceMethod yX2_addCitizen ∈ k_WS := k_inWS 428 (by decide +kernel) (by decide)
theorem ce_X2_addCitizen : Cond.selects RX2 yX2_addCitizen yX2_addCitizen ∈ k_WS := k_inPr (q := (yX2_addCitizen, 8)) (by decide +kernel) (by decide +kernel)
theorem cv_X6_124 : k_CV RX6 124 2 Mt_X2_addCitizen 4 := ⟨cb_X2_addCitizen, Or.inr ⟨"BeggarsChoose", k_inNW 426 (by decide +kernel) (by decide)⟩, ci_X2_addCitizen, ce_X2_addCitizen, _, by decide, rfl, rfl⟩
theorem cb_X2_addBeggar : k_cb Mt_X2_addBeggar 2 := ⟨k_inWS 441 (by decide +kernel) (by decide), k_inWS 2 (by decide +kernel) (by decide), ⟨by decide +kernel, by decide +kernel⟩, by decide +kernel, by decide⟩
theorem ci_X2_addBeggar : Cond.instanceMethod yX2_addBeggar ∈ k_WS := k_inWS 440 (by decide +kernel) (by decide)
theorem ce_X2_addBeggar : Cond.selects RX2 yX2_addBeggar yX2_addBeggar ∈ k_WS := k_inPr (q := (yX2_addBeggar, 8)) (by decide +kernel) (by decide +kernel)
theorem cv_X6_128 : k_CV RX6 128 2 Mt_X2_addBeggar 2 := ⟨cb_X2_addBeggar, Or.inr ⟨"BeggarsChoose", k_inNW 438 (by decide +kernel) (by decide)⟩, ci_X2_addBeggar, ce_X2_addBeggar, _, by decide, rfl, rfl⟩
theorem cb_X6_mostToTell : k_cb Mt_X6_mostToTell 1 := ⟨k_inWS 452 (by decide +kernel) (by decide), k_inWS 1 (by decide +kernel) (by decide), ⟨by decide +kernel, by decide +kernel⟩, by decide +kernel, by decide⟩
theorem cs_X6_131 : k_CS RX6 131 Mt_X6_mostToTell 1 := ⟨cb_X6_mostToTell, Or.inl (k_inWS 450 (by decide +kernel) (by decide)), k_inWS 451 (by decide +kernel) (by decide)⟩
theorem cb_X1_becomes : k_cb Mt_X1_becomes 2 := ⟨k_inWS 456 (by decide +kernel) (by decide), k_inWS 3 (by decide +kernel) (by decide), ⟨by decide +kernel, by decide +kernel⟩, by decide +kernel, by decide⟩
theorem ci_X1_becomes : Cond.instanceMethod yX1_becomes ∈ k_WS := k_inWS 455 (by decide +kernel) (by decide)
theorem ce_X1_becomes : Cond.selects RX1 yX1_becomes yX1_becomes ∈ k_WS := k_inPr (q := (yX1_becomes, 15)) (by decide +kernel) (by decide +kernel)
theorem cv_X6_134 : k_CV RX6 134 1 Mt_X1_becomes 2 := ⟨cb_X1_becomes, Or.inr ⟨"BeggarsChoose", k_inNW 453 (by decide +kernel) (by decide)⟩, ci_X1_becomes, ce_X1_becomes, _, by decide, rfl, rfl⟩
theorem cb_X2_beggarAt : k_cb Mt_X2_beggarAt 1 := ⟨k_inWS 464 (by decide +kernel) (by decide), k_inWS 2 (by decide +kernel) (by decide), ⟨by decide +kernel, by decide +kernel⟩, by decide +kernel, by decide⟩
theorem ci_X2_beggarAt : Cond.instanceMethod yX2_beggarAt ∈ k_WS := k_inWS 463 (by decide +kernel) (by decide)
theorem ce_X2_beggarAt : Cond.selects RX2 yX2_beggarAt yX2_beggarAt ∈ k_WS := k_inPr (q := (yX2_beggarAt, 8)) (by decide +kernel) (by decide +kernel)
theorem cv_X6_137 : k_CV RX6 137 2 Mt_X2_beggarAt 1 := ⟨cb_X2_beggarAt, Or.inr ⟨"BeggarsChoose", k_inNW 461 (by decide +kernel) (by decide)⟩, ci_X2_beggarAt, ce_X2_beggarAt, _, by decide, rfl, rfl⟩
theorem fl_X6_141 : k_FL RX6 141 0 2 := ⟨_, cl_X0, by decide, Or.inr ⟨"BeggarsChoose", k_inNW 121 (by decide +kernel) (by decide)⟩⟩
theorem pl_X6_141 : k_PL RX6 141 0 2 .boolean false := ⟨_, cl_X0, by decide, Or.inr ⟨rfl, "BeggarsChoose", k_inNW 121 (by decide +kernel) (by decide)⟩, rfl, by decide +kernel, fun _ => by contradiction⟩
theorem fl_X6_147 : k_FL RX6 147 1 4 := ⟨_, cl_X1, by decide, Or.inr ⟨"BeggarsChoose", k_inNW 52 (by decide +kernel) (by decide)⟩⟩
theorem fl_X6_150 : k_FL RX6 150 1 5 := ⟨_, cl_X1, by decide, Or.inr ⟨"BeggarsChoose", k_inNW 54 (by decide +kernel) (by decide)⟩⟩
theorem fl_X6_153 : k_FL RX6 153 1 6 := ⟨_, cl_X1, by decide, Or.inr ⟨"BeggarsChoose", k_inNW 57 (by decide +kernel) (by decide)⟩⟩
theorem fl_X6_156 : k_FL RX6 156 1 7 := ⟨_, cl_X1, by decide, Or.inr ⟨"BeggarsChoose", k_inNW 62 (by decide +kernel) (by decide)⟩⟩
theorem fl_X6_159 : k_FL RX6 159 1 8 := ⟨_, cl_X1, by decide, Or.inr ⟨"BeggarsChoose", k_inNW 64 (by decide +kernel) (by decide)⟩⟩
theorem fl_X6_162 : k_FL RX6 162 1 2 := ⟨_, cl_X1, by decide, Or.inr ⟨"BeggarsChoose", k_inNW 45 (by decide +kernel) (by decide)⟩⟩
theorem cb_X1_faceNow : k_cb Mt_X1_faceNow 0 := ⟨k_inWS 412 (by decide +kernel) (by decide), k_inWS 3 (by decide +kernel) (by decide), ⟨by decide +kernel, by decide +kernel⟩, by decide +kernel, by decide⟩
theorem ci_X1_faceNow : Cond.instanceMethod yX1_faceNow ∈ k_WS := k_inWS 411 (by decide +kernel) (by decide)
theorem ce_X1_faceNow : Cond.selects RX1 yX1_faceNow yX1_faceNow ∈ k_WS := k_inPr (q := (yX1_faceNow, 15)) (by decide +kernel) (by decide +kernel)
theorem cv_X6_165 : k_CV RX6 165 1 Mt_X1_faceNow 0 := ⟨cb_X1_faceNow, Or.inr ⟨"BeggarsChoose", k_inNW 469 (by decide +kernel) (by decide)⟩, ci_X1_faceNow, ce_X1_faceNow, _, by decide, rfl, rfl⟩
theorem fl_X6_169 : k_FL RX6 169 0 3 := ⟨_, cl_X0, by decide, Or.inr ⟨"BeggarsChoose", k_inNW 124 (by decide +kernel) (by decide)⟩⟩
theorem fl_X6_172 : k_FL RX6 172 0 4 := ⟨_, cl_X0, by decide, Or.inr ⟨"BeggarsChoose", k_inNW 127 (by decide +kernel) (by decide)⟩⟩
theorem fl_X6_175 : k_FL RX6 175 0 5 := ⟨_, cl_X0, by decide, Or.inr ⟨"BeggarsChoose", k_inNW 130 (by decide +kernel) (by decide)⟩⟩
theorem fl_X6_178 : k_FL RX6 178 0 6 := ⟨_, cl_X0, by decide, Or.inr ⟨"BeggarsChoose", k_inNW 134 (by decide +kernel) (by decide)⟩⟩
theorem cb_X2_become : k_cb Mt_X2_become 1 := ⟨k_inWS 481 (by decide +kernel) (by decide), k_inWS 2 (by decide +kernel) (by decide), ⟨by decide +kernel, by decide +kernel⟩, by decide +kernel, by decide⟩
theorem ci_X2_become : Cond.instanceMethod yX2_become ∈ k_WS := k_inWS 480 (by decide +kernel) (by decide)
theorem ce_X2_become : Cond.selects RX2 yX2_become yX2_become ∈ k_WS := k_inPr (q := (yX2_become, 8)) (by decide +kernel) (by decide +kernel)
theorem cv_X6_181 : k_CV RX6 181 2 Mt_X2_become 1 := ⟨cb_X2_become, Or.inr ⟨"BeggarsChoose", k_inNW 478 (by decide +kernel) (by decide)⟩, ci_X2_become, ce_X2_become, _, by decide, rfl, rfl⟩
theorem cb_X4_read : k_cb Mt_X4_read 2 := ⟨k_inWS 493 (by decide +kernel) (by decide), k_inWS 5 (by decide +kernel) (by decide), ⟨by decide +kernel, by decide +kernel⟩, by decide +kernel, by decide⟩
theorem ci_X4_read : Cond.instanceMethod yX4_read ∈ k_WS := k_inWS 492 (by decide +kernel) (by decide)
theorem ce_X4_read : Cond.selects RX4 yX4_read yX4_read ∈ k_WS := k_inPr (q := (yX4_read, 4)) (by decide +kernel) (by decide +kernel)
theorem cv_X6_185 : k_CV RX6 185 4 Mt_X4_read 2 := ⟨cb_X4_read, Or.inr ⟨"BeggarsChoose", k_inNW 490 (by decide +kernel) (by decide)⟩, ci_X4_read, ce_X4_read, _, by decide, rfl, rfl⟩
theorem fl_X6_189 : k_FL RX6 189 4 3 := ⟨_, cl_X4, by decide, Or.inr ⟨"BeggarsChoose", k_inNW 219 (by decide +kernel) (by decide)⟩⟩
theorem cb_X2_goBy : k_cb Mt_X2_goBy 0 := ⟨k_inWS 626 (by decide +kernel) (by decide), k_inWS 2 (by decide +kernel) (by decide), ⟨by decide +kernel, by decide +kernel⟩, by decide +kernel, by decide⟩
theorem ci_X2_goBy : Cond.instanceMethod yX2_goBy ∈ k_WS := k_inWS 625 (by decide +kernel) (by decide)
theorem ce_X2_goBy : Cond.selects RX2 yX2_goBy yX2_goBy ∈ k_WS := k_inPr (q := (yX2_goBy, 8)) (by decide +kernel) (by decide +kernel)
theorem cv_X6_192 : k_CV RX6 192 2 Mt_X2_goBy 0 := ⟨cb_X2_goBy, Or.inr ⟨"BeggarsChoose", k_inNW 623 (by decide +kernel) (by decide)⟩, ci_X2_goBy, ce_X2_goBy, _, by decide, rfl, rfl⟩
theorem fl_X6_195 : k_FL RX6 195 0 7 := ⟨_, cl_X0, by decide, Or.inr ⟨"BeggarsChoose", k_inNW 138 (by decide +kernel) (by decide)⟩⟩
theorem cb_X2_keptBits : k_cb Mt_X2_keptBits 0 := ⟨k_inWS 687 (by decide +kernel) (by decide), k_inWS 2 (by decide +kernel) (by decide), ⟨by decide +kernel, by decide +kernel⟩, by decide +kernel, by decide⟩
theorem ci_X2_keptBits : Cond.instanceMethod yX2_keptBits ∈ k_WS := k_inWS 686 (by decide +kernel) (by decide)
theorem ce_X2_keptBits : Cond.selects RX2 yX2_keptBits yX2_keptBits ∈ k_WS := k_inPr (q := (yX2_keptBits, 8)) (by decide +kernel) (by decide +kernel)
theorem cv_X6_198 : k_CV RX6 198 2 Mt_X2_keptBits 0 := ⟨cb_X2_keptBits, Or.inr ⟨"BeggarsChoose", k_inNW 684 (by decide +kernel) (by decide)⟩, ci_X2_keptBits, ce_X2_keptBits, _, by decide, rfl, rfl⟩
theorem fl_X6_201 : k_FL RX6 201 1 10 := ⟨_, cl_X1, by decide, Or.inr ⟨"BeggarsChoose", k_inNW 68 (by decide +kernel) (by decide)⟩⟩
theorem fl_X6_204 : k_FL RX6 204 1 13 := ⟨_, cl_X1, by decide, Or.inr ⟨"BeggarsChoose", k_inNW 74 (by decide +kernel) (by decide)⟩⟩
theorem cb_X2_passMornings : k_cb Mt_X2_passMornings 1 := ⟨k_inWS 699 (by decide +kernel) (by decide), k_inWS 2 (by decide +kernel) (by decide), ⟨by decide +kernel, by decide +kernel⟩, by decide +kernel, by decide⟩
theorem ci_X2_passMornings : Cond.instanceMethod yX2_passMornings ∈ k_WS := k_inWS 698 (by decide +kernel) (by decide)
theorem ce_X2_passMornings : Cond.selects RX2 yX2_passMornings yX2_passMornings ∈ k_WS := k_inPr (q := (yX2_passMornings, 8)) (by decide +kernel) (by decide +kernel)
theorem cv_X6_207 : k_CV RX6 207 2 Mt_X2_passMornings 1 := ⟨cb_X2_passMornings, Or.inr ⟨"BeggarsChoose", k_inNW 696 (by decide +kernel) (by decide)⟩, ci_X2_passMornings, ce_X2_passMornings, _, by decide, rfl, rfl⟩
theorem cb_X2_firstHungryMorning : k_cb Mt_X2_firstHungryMorning 1 := ⟨k_inWS 726 (by decide +kernel) (by decide), k_inWS 2 (by decide +kernel) (by decide), ⟨by decide +kernel, by decide +kernel⟩, by decide +kernel, by decide⟩
theorem ci_X2_firstHungryMorning : Cond.instanceMethod yX2_firstHungryMorning ∈ k_WS := k_inWS 725 (by decide +kernel) (by decide)
theorem ce_X2_firstHungryMorning : Cond.selects RX2 yX2_firstHungryMorning yX2_firstHungryMorning ∈ k_WS := k_inPr (q := (yX2_firstHungryMorning, 8)) (by decide +kernel) (by decide +kernel)
theorem cv_X6_210 : k_CV RX6 210 2 Mt_X2_firstHungryMorning 1 := ⟨cb_X2_firstHungryMorning, Or.inr ⟨"BeggarsChoose", k_inNW 723 (by decide +kernel) (by decide)⟩, ci_X2_firstHungryMorning, ce_X2_firstHungryMorning, _, by decide, rfl, rfl⟩
theorem cb_X2_countComing : k_cb Mt_X2_countComing 0 := ⟨k_inWS 734 (by decide +kernel) (by decide), k_inWS 2 (by decide +kernel) (by decide), ⟨by decide +kernel, by decide +kernel⟩, by decide +kernel, by decide⟩
theorem ci_X2_countComing : Cond.instanceMethod yX2_countComing ∈ k_WS := k_inWS 733 (by decide +kernel) (by decide)
theorem ce_X2_countComing : Cond.selects RX2 yX2_countComing yX2_countComing ∈ k_WS := k_inPr (q := (yX2_countComing, 8)) (by decide +kernel) (by decide +kernel)
theorem cv_X6_213 : k_CV RX6 213 2 Mt_X2_countComing 0 := ⟨cb_X2_countComing, Or.inr ⟨"BeggarsChoose", k_inNW 731 (by decide +kernel) (by decide)⟩, ci_X2_countComing, ce_X2_countComing, _, by decide, rfl, rfl⟩
theorem cb_X2_partAll : k_cb Mt_X2_partAll 0 := ⟨k_inWS 738 (by decide +kernel) (by decide), k_inWS 2 (by decide +kernel) (by decide), ⟨by decide +kernel, by decide +kernel⟩, by decide +kernel, by decide⟩
theorem ci_X2_partAll : Cond.instanceMethod yX2_partAll ∈ k_WS := k_inWS 737 (by decide +kernel) (by decide)
theorem ce_X2_partAll : Cond.selects RX2 yX2_partAll yX2_partAll ∈ k_WS := k_inPr (q := (yX2_partAll, 8)) (by decide +kernel) (by decide +kernel)
theorem cv_X6_216 : k_CV RX6 216 2 Mt_X2_partAll 0 := ⟨cb_X2_partAll, Or.inr ⟨"BeggarsChoose", k_inNW 735 (by decide +kernel) (by decide)⟩, ci_X2_partAll, ce_X2_partAll, _, by decide, rfl, rfl⟩
theorem cb_X2_comingAt : k_cb Mt_X2_comingAt 1 := ⟨k_inWS 755 (by decide +kernel) (by decide), k_inWS 2 (by decide +kernel) (by decide), ⟨by decide +kernel, by decide +kernel⟩, by decide +kernel, by decide⟩
theorem ci_X2_comingAt : Cond.instanceMethod yX2_comingAt ∈ k_WS := k_inWS 754 (by decide +kernel) (by decide)
theorem ce_X2_comingAt : Cond.selects RX2 yX2_comingAt yX2_comingAt ∈ k_WS := k_inPr (q := (yX2_comingAt, 8)) (by decide +kernel) (by decide +kernel)
theorem cv_X6_219 : k_CV RX6 219 2 Mt_X2_comingAt 1 := ⟨cb_X2_comingAt, Or.inr ⟨"BeggarsChoose", k_inNW 752 (by decide +kernel) (by decide)⟩, ci_X2_comingAt, ce_X2_comingAt, _, by decide, rfl, rfl⟩
theorem fl_X6_222 : k_FL RX6 222 0 10 := ⟨_, cl_X0, by decide, Or.inr ⟨"BeggarsChoose", k_inNW 145 (by decide +kernel) (by decide)⟩⟩
theorem cb_X2_comeToRest : k_cb Mt_X2_comeToRest 0 := ⟨k_inWS 763 (by decide +kernel) (by decide), k_inWS 2 (by decide +kernel) (by decide), ⟨by decide +kernel, by decide +kernel⟩, by decide +kernel, by decide⟩
theorem ci_X2_comeToRest : Cond.instanceMethod yX2_comeToRest ∈ k_WS := k_inWS 762 (by decide +kernel) (by decide)
theorem ce_X2_comeToRest : Cond.selects RX2 yX2_comeToRest yX2_comeToRest ∈ k_WS := k_inPr (q := (yX2_comeToRest, 8)) (by decide +kernel) (by decide +kernel)
theorem cv_X6_225 : k_CV RX6 225 2 Mt_X2_comeToRest 0 := ⟨cb_X2_comeToRest, Or.inr ⟨"BeggarsChoose", k_inNW 760 (by decide +kernel) (by decide)⟩, ci_X2_comeToRest, ce_X2_comeToRest, _, by decide, rfl, rfl⟩
theorem fl_X6_228 : k_FL RX6 228 0 11 := ⟨_, cl_X0, by decide, Or.inr ⟨"BeggarsChoose", k_inNW 148 (by decide +kernel) (by decide)⟩⟩
theorem cb_X2_isPickedWithHeart : k_cb Mt_X2_isPickedWithHeart 2 := ⟨k_inWS 783 (by decide +kernel) (by decide), k_inWS 2 (by decide +kernel) (by decide), ⟨by decide +kernel, by decide +kernel⟩, by decide +kernel, by decide⟩
theorem ci_X2_isPickedWithHeart : Cond.instanceMethod yX2_isPickedWithHeart ∈ k_WS := k_inWS 782 (by decide +kernel) (by decide)
theorem ce_X2_isPickedWithHeart : Cond.selects RX2 yX2_isPickedWithHeart yX2_isPickedWithHeart ∈ k_WS := k_inPr (q := (yX2_isPickedWithHeart, 8)) (by decide +kernel) (by decide +kernel)
theorem cv_X6_231 : k_CV RX6 231 2 Mt_X2_isPickedWithHeart 2 := ⟨cb_X2_isPickedWithHeart, Or.inr ⟨"BeggarsChoose", k_inNW 780 (by decide +kernel) (by decide)⟩, ci_X2_isPickedWithHeart, ce_X2_isPickedWithHeart, _, by decide, rfl, rfl⟩
theorem cb_X2_pickByRule : k_cb Mt_X2_pickByRule 2 := ⟨k_inWS 791 (by decide +kernel) (by decide), k_inWS 2 (by decide +kernel) (by decide), ⟨by decide +kernel, by decide +kernel⟩, by decide +kernel, by decide⟩
theorem ci_X2_pickByRule : Cond.instanceMethod yX2_pickByRule ∈ k_WS := k_inWS 790 (by decide +kernel) (by decide)
theorem ce_X2_pickByRule : Cond.selects RX2 yX2_pickByRule yX2_pickByRule ∈ k_WS := k_inPr (q := (yX2_pickByRule, 8)) (by decide +kernel) (by decide +kernel)
theorem cv_X6_234 : k_CV RX6 234 2 Mt_X2_pickByRule 2 := ⟨cb_X2_pickByRule, Or.inr ⟨"BeggarsChoose", k_inNW 788 (by decide +kernel) (by decide)⟩, ci_X2_pickByRule, ce_X2_pickByRule, _, by decide, rfl, rfl⟩
theorem cb_X2_mostBurdened : k_cb Mt_X2_mostBurdened 0 := ⟨k_inWS 800 (by decide +kernel) (by decide), k_inWS 2 (by decide +kernel) (by decide), ⟨by decide +kernel, by decide +kernel⟩, by decide +kernel, by decide⟩
theorem ci_X2_mostBurdened : Cond.instanceMethod yX2_mostBurdened ∈ k_WS := k_inWS 799 (by decide +kernel) (by decide)
theorem ce_X2_mostBurdened : Cond.selects RX2 yX2_mostBurdened yX2_mostBurdened ∈ k_WS := k_inPr (q := (yX2_mostBurdened, 8)) (by decide +kernel) (by decide +kernel)
theorem cv_X6_237 : k_CV RX6 237 2 Mt_X2_mostBurdened 0 := ⟨cb_X2_mostBurdened, Or.inr ⟨"BeggarsChoose", k_inNW 797 (by decide +kernel) (by decide)⟩, ci_X2_mostBurdened, ce_X2_mostBurdened, _, by decide, rfl, rfl⟩
theorem cb_X2_hungryMorning : k_cb Mt_X2_hungryMorning 0 := ⟨k_inWS 808 (by decide +kernel) (by decide), k_inWS 2 (by decide +kernel) (by decide), ⟨by decide +kernel, by decide +kernel⟩, by decide +kernel, by decide⟩
theorem ci_X2_hungryMorning : Cond.instanceMethod yX2_hungryMorning ∈ k_WS := k_inWS 807 (by decide +kernel) (by decide)
theorem ce_X2_hungryMorning : Cond.selects RX2 yX2_hungryMorning yX2_hungryMorning ∈ k_WS := k_inPr (q := (yX2_hungryMorning, 8)) (by decide +kernel) (by decide +kernel)
theorem cv_X6_240 : k_CV RX6 240 2 Mt_X2_hungryMorning 0 := ⟨cb_X2_hungryMorning, Or.inr ⟨"BeggarsChoose", k_inNW 805 (by decide +kernel) (by decide)⟩, ci_X2_hungryMorning, ce_X2_hungryMorning, _, by decide, rfl, rfl⟩
theorem pl_X6_162 : k_PL RX6 162 1 2 .boolean false := ⟨_, cl_X1, by decide, Or.inr ⟨rfl, "BeggarsChoose", k_inNW 45 (by decide +kernel) (by decide)⟩, rfl, by decide +kernel, fun _ => by contradiction⟩
theorem fl_X6_243 : k_FL RX6 243 2 1 := ⟨_, cl_X2, by decide, Or.inr ⟨"BeggarsChoose", k_inNW 177 (by decide +kernel) (by decide)⟩⟩
theorem cb_X0_comes : k_cb Mt_X0_comes 0 := ⟨k_inWS 634 (by decide +kernel) (by decide), k_inWS 4 (by decide +kernel) (by decide), ⟨by decide +kernel, by decide +kernel⟩, by decide +kernel, by decide⟩
theorem ci_X0_comes : Cond.instanceMethod yX0_comes ∈ k_WS := k_inWS 633 (by decide +kernel) (by decide)
theorem ce_X0_comes : Cond.selects RX0 yX0_comes yX0_comes ∈ k_WS := k_inPr (q := (yX0_comes, 12)) (by decide +kernel) (by decide +kernel)
theorem cv_X6_247 : k_CV RX6 247 0 Mt_X0_comes 0 := ⟨cb_X0_comes, Or.inr ⟨"BeggarsChoose", k_inNW 813 (by decide +kernel) (by decide)⟩, ci_X0_comes, ce_X0_comes, _, by decide, rfl, rfl⟩
theorem fl_X6_250 : k_FL RX6 250 0 0 := ⟨_, cl_X0, by decide, Or.inr ⟨"BeggarsChoose", k_inNW 116 (by decide +kernel) (by decide)⟩⟩
theorem fl_X6_253 : k_FL RX6 253 5 2 := ⟨_, cl_X5, by decide, Or.inr ⟨"BeggarsChoose", k_inNW 263 (by decide +kernel) (by decide)⟩⟩
theorem cb_X2_firstWrong : k_cb Mt_X2_firstWrong 2 := ⟨k_inWS 821 (by decide +kernel) (by decide), k_inWS 2 (by decide +kernel) (by decide), ⟨by decide +kernel, by decide +kernel⟩, by decide +kernel, by decide⟩
theorem ci_X2_firstWrong : Cond.instanceMethod yX2_firstWrong ∈ k_WS := k_inWS 820 (by decide +kernel) (by decide)
theorem ce_X2_firstWrong : Cond.selects RX2 yX2_firstWrong yX2_firstWrong ∈ k_WS := k_inPr (q := (yX2_firstWrong, 8)) (by decide +kernel) (by decide +kernel)
theorem cv_X6_256 : k_CV RX6 256 2 Mt_X2_firstWrong 2 := ⟨cb_X2_firstWrong, Or.inr ⟨"BeggarsChoose", k_inNW 818 (by decide +kernel) (by decide)⟩, ci_X2_firstWrong, ce_X2_firstWrong, _, by decide, rfl, rfl⟩
theorem cb_X2_drawWhoHides : k_cb Mt_X2_drawWhoHides 0 := ⟨k_inWS 834 (by decide +kernel) (by decide), k_inWS 2 (by decide +kernel) (by decide), ⟨by decide +kernel, by decide +kernel⟩, by decide +kernel, by decide⟩
theorem ci_X2_drawWhoHides : Cond.instanceMethod yX2_drawWhoHides ∈ k_WS := k_inWS 833 (by decide +kernel) (by decide)
theorem ce_X2_drawWhoHides : Cond.selects RX2 yX2_drawWhoHides yX2_drawWhoHides ∈ k_WS := k_inPr (q := (yX2_drawWhoHides, 8)) (by decide +kernel) (by decide +kernel)
theorem cv_X6_260 : k_CV RX6 260 2 Mt_X2_drawWhoHides 0 := ⟨cb_X2_drawWhoHides, Or.inr ⟨"BeggarsChoose", k_inNW 831 (by decide +kernel) (by decide)⟩, ci_X2_drawWhoHides, ce_X2_drawWhoHides, _, by decide, rfl, rfl⟩
theorem cb_X2_passMorning : k_cb Mt_X2_passMorning 0 := ⟨k_inWS 703 (by decide +kernel) (by decide), k_inWS 2 (by decide +kernel) (by decide), ⟨by decide +kernel, by decide +kernel⟩, by decide +kernel, by decide⟩
theorem ci_X2_passMorning : Cond.instanceMethod yX2_passMorning ∈ k_WS := k_inWS 702 (by decide +kernel) (by decide)
theorem ce_X2_passMorning : Cond.selects RX2 yX2_passMorning yX2_passMorning ∈ k_WS := k_inPr (q := (yX2_passMorning, 8)) (by decide +kernel) (by decide +kernel)
theorem cv_X6_263 : k_CV RX6 263 2 Mt_X2_passMorning 0 := ⟨cb_X2_passMorning, Or.inr ⟨"BeggarsChoose", k_inNW 840 (by decide +kernel) (by decide)⟩, ci_X2_passMorning, ce_X2_passMorning, _, by decide, rfl, rfl⟩
theorem fl_X6_266 : k_FL RX6 266 2 5 := ⟨_, cl_X2, by decide, Or.inr ⟨"BeggarsChoose", k_inNW 187 (by decide +kernel) (by decide)⟩⟩
theorem pl_X6_266 : k_PL RX6 266 2 5 .int false := ⟨_, cl_X2, by decide, Or.inr ⟨rfl, "BeggarsChoose", k_inNW 187 (by decide +kernel) (by decide)⟩, rfl, by decide +kernel, fun _ => by contradiction⟩
theorem cb_X3_forget : k_cb Mt_X3_forget 0 := ⟨k_inWS 852 (by decide +kernel) (by decide), k_inWS 6 (by decide +kernel) (by decide), ⟨by decide +kernel, by decide +kernel⟩, by decide +kernel, by decide⟩
theorem ci_X3_forget : Cond.instanceMethod yX3_forget ∈ k_WS := k_inWS 851 (by decide +kernel) (by decide)
theorem ce_X3_forget : Cond.selects RX3 yX3_forget yX3_forget ∈ k_WS := k_inPr (q := (yX3_forget, 5)) (by decide +kernel) (by decide +kernel)
theorem cv_X6_269 : k_CV RX6 269 3 Mt_X3_forget 0 := ⟨cb_X3_forget, Or.inr ⟨"BeggarsChoose", k_inNW 849 (by decide +kernel) (by decide)⟩, ci_X3_forget, ce_X3_forget, _, by decide, rfl, rfl⟩
theorem cb_X3_perform : k_cb Mt_X3_perform 3 := ⟨k_inWS 856 (by decide +kernel) (by decide), k_inWS 6 (by decide +kernel) (by decide), ⟨by decide +kernel, by decide +kernel⟩, by decide +kernel, by decide⟩
theorem ci_X3_perform : Cond.instanceMethod yX3_perform ∈ k_WS := k_inWS 855 (by decide +kernel) (by decide)
theorem ce_X3_perform : Cond.selects RX3 yX3_perform yX3_perform ∈ k_WS := k_inPr (q := (yX3_perform, 5)) (by decide +kernel) (by decide +kernel)
theorem cv_X6_272 : k_CV RX6 272 3 Mt_X3_perform 3 := ⟨cb_X3_perform, Or.inr ⟨"BeggarsChoose", k_inNW 853 (by decide +kernel) (by decide)⟩, ci_X3_perform, ce_X3_perform, _, by decide, rfl, rfl⟩
theorem cb_X3_bodyAt : k_cb Mt_X3_bodyAt 1 := ⟨k_inWS 885 (by decide +kernel) (by decide), k_inWS 6 (by decide +kernel) (by decide), ⟨by decide +kernel, by decide +kernel⟩, by decide +kernel, by decide⟩
theorem ci_X3_bodyAt : Cond.instanceMethod yX3_bodyAt ∈ k_WS := k_inWS 884 (by decide +kernel) (by decide)
theorem ce_X3_bodyAt : Cond.selects RX3 yX3_bodyAt yX3_bodyAt ∈ k_WS := k_inPr (q := (yX3_bodyAt, 5)) (by decide +kernel) (by decide +kernel)
theorem cv_X6_276 : k_CV RX6 276 3 Mt_X3_bodyAt 1 := ⟨cb_X3_bodyAt, Or.inr ⟨"BeggarsChoose", k_inNW 882 (by decide +kernel) (by decide)⟩, ci_X3_bodyAt, ce_X3_bodyAt, _, by decide, rfl, rfl⟩
theorem fl_X6_279 : k_FL RX6 279 6 3 := ⟨_, cl_X6, by decide, Or.inl (k_inWS 279 (by decide +kernel) (by decide))⟩
theorem pl_X6_279 : k_PL RX6 279 6 3 .boolean false := ⟨_, cl_X6, by decide, Or.inl (k_inWS 279 (by decide +kernel) (by decide)), rfl, by decide +kernel, fun _ => by contradiction⟩
theorem fl_X6_282 : k_FL RX6 282 2 2 := ⟨_, cl_X2, by decide, Or.inr ⟨"BeggarsChoose", k_inNW 180 (by decide +kernel) (by decide)⟩⟩
theorem fl_X6_285 : k_FL RX6 285 2 3 := ⟨_, cl_X2, by decide, Or.inr ⟨"BeggarsChoose", k_inNW 183 (by decide +kernel) (by decide)⟩⟩
theorem fl_X6_288 : k_FL RX6 288 2 4 := ⟨_, cl_X2, by decide, Or.inr ⟨"BeggarsChoose", k_inNW 185 (by decide +kernel) (by decide)⟩⟩
theorem cb_X2_wearTogether : k_cb Mt_X2_wearTogether 0 := ⟨k_inWS 901 (by decide +kernel) (by decide), k_inWS 2 (by decide +kernel) (by decide), ⟨by decide +kernel, by decide +kernel⟩, by decide +kernel, by decide⟩
theorem ci_X2_wearTogether : Cond.instanceMethod yX2_wearTogether ∈ k_WS := k_inWS 900 (by decide +kernel) (by decide)
theorem ce_X2_wearTogether : Cond.selects RX2 yX2_wearTogether yX2_wearTogether ∈ k_WS := k_inPr (q := (yX2_wearTogether, 8)) (by decide +kernel) (by decide +kernel)
theorem cv_X6_291 : k_CV RX6 291 2 Mt_X2_wearTogether 0 := ⟨cb_X2_wearTogether, Or.inr ⟨"BeggarsChoose", k_inNW 898 (by decide +kernel) (by decide)⟩, ci_X2_wearTogether, ce_X2_wearTogether, _, by decide, rfl, rfl⟩
theorem cb_X2_hungerTogether : k_cb Mt_X2_hungerTogether 0 := ⟨k_inWS 905 (by decide +kernel) (by decide), k_inWS 2 (by decide +kernel) (by decide), ⟨by decide +kernel, by decide +kernel⟩, by decide +kernel, by decide⟩
theorem ci_X2_hungerTogether : Cond.instanceMethod yX2_hungerTogether ∈ k_WS := k_inWS 904 (by decide +kernel) (by decide)
theorem ce_X2_hungerTogether : Cond.selects RX2 yX2_hungerTogether yX2_hungerTogether ∈ k_WS := k_inPr (q := (yX2_hungerTogether, 8)) (by decide +kernel) (by decide +kernel)
theorem cv_X6_294 : k_CV RX6 294 2 Mt_X2_hungerTogether 0 := ⟨cb_X2_hungerTogether, Or.inr ⟨"BeggarsChoose", k_inNW 902 (by decide +kernel) (by decide)⟩, ci_X2_hungerTogether, ce_X2_hungerTogether, _, by decide, rfl, rfl⟩
theorem cb_X2_countHidden : k_cb Mt_X2_countHidden 0 := ⟨k_inWS 909 (by decide +kernel) (by decide), k_inWS 2 (by decide +kernel) (by decide), ⟨by decide +kernel, by decide +kernel⟩, by decide +kernel, by decide⟩
theorem ci_X2_countHidden : Cond.instanceMethod yX2_countHidden ∈ k_WS := k_inWS 908 (by decide +kernel) (by decide)
theorem ce_X2_countHidden : Cond.selects RX2 yX2_countHidden yX2_countHidden ∈ k_WS := k_inPr (q := (yX2_countHidden, 8)) (by decide +kernel) (by decide +kernel)
theorem cv_X6_297 : k_CV RX6 297 2 Mt_X2_countHidden 0 := ⟨cb_X2_countHidden, Or.inr ⟨"BeggarsChoose", k_inNW 906 (by decide +kernel) (by decide)⟩, ci_X2_countHidden, ce_X2_countHidden, _, by decide, rfl, rfl⟩
theorem cb_X2_countPosts : k_cb Mt_X2_countPosts 0 := ⟨k_inWS 913 (by decide +kernel) (by decide), k_inWS 2 (by decide +kernel) (by decide), ⟨by decide +kernel, by decide +kernel⟩, by decide +kernel, by decide⟩
theorem ci_X2_countPosts : Cond.instanceMethod yX2_countPosts ∈ k_WS := k_inWS 912 (by decide +kernel) (by decide)
theorem ce_X2_countPosts : Cond.selects RX2 yX2_countPosts yX2_countPosts ∈ k_WS := k_inPr (q := (yX2_countPosts, 8)) (by decide +kernel) (by decide +kernel)
theorem cv_X6_300 : k_CV RX6 300 2 Mt_X2_countPosts 0 := ⟨cb_X2_countPosts, Or.inr ⟨"BeggarsChoose", k_inNW 910 (by decide +kernel) (by decide)⟩, ci_X2_countPosts, ce_X2_countPosts, _, by decide, rfl, rfl⟩
theorem fl_X6_303 : k_FL RX6 303 3 1 := ⟨_, cl_X3, by decide, Or.inr ⟨"BeggarsChoose", k_inNW 238 (by decide +kernel) (by decide)⟩⟩
theorem gs_X6_306 : Cond.fieldLink RX6 306 RX6 "KIND_ABOVE" "[I" ∈ k_WS := k_inWS 403 (by decide +kernel) (by decide)
theorem cb_X6_kindAbove : k_cb Mt_X6_kindAbove 1 := ⟨k_inWS 402 (by decide +kernel) (by decide), k_inWS 1 (by decide +kernel) (by decide), ⟨by decide +kernel, by decide +kernel⟩, by decide +kernel, by decide⟩
theorem cs_X6_309 : k_CS RX6 309 Mt_X6_kindAbove 1 := ⟨cb_X6_kindAbove, Or.inl (k_inWS 400 (by decide +kernel) (by decide)), k_inWS 401 (by decide +kernel) (by decide)⟩
theorem fl_X7_7 : k_FL RX7 7 7 3 := ⟨_, cl_X7, by decide, Or.inl (k_inWS 924 (by decide +kernel) (by decide))⟩
theorem pl_X7_7 : k_PL RX7 7 7 3 .int false := ⟨_, cl_X7, by decide, Or.inl (k_inWS 924 (by decide +kernel) (by decide)), rfl, by decide +kernel, fun _ => by contradiction⟩
theorem fl_X7_13 : k_FL RX7 13 7 4 := ⟨_, cl_X7, by decide, Or.inl (k_inWS 925 (by decide +kernel) (by decide))⟩
theorem pl_X7_13 : k_PL RX7 13 7 4 .int false := ⟨_, cl_X7, by decide, Or.inl (k_inWS 925 (by decide +kernel) (by decide)), rfl, by decide +kernel, fun _ => by contradiction⟩
theorem fl_X7_16 : k_FL RX7 16 7 5 := ⟨_, cl_X7, by decide, Or.inl (k_inWS 926 (by decide +kernel) (by decide))⟩
theorem pl_X7_16 : k_PL RX7 16 7 5 (.array .int) true := ⟨_, cl_X7, by decide, Or.inl (k_inWS 926 (by decide +kernel) (by decide)), rfl, by decide +kernel, fun _ => rfl⟩
theorem fl_X7_20 : k_FL RX7 20 7 6 := ⟨_, cl_X7, by decide, Or.inl (k_inWS 927 (by decide +kernel) (by decide))⟩
theorem pl_X7_20 : k_PL RX7 20 7 6 (.array .int) true := ⟨_, cl_X7, by decide, Or.inl (k_inWS 927 (by decide +kernel) (by decide)), rfl, by decide +kernel, fun _ => rfl⟩
theorem fl_X7_23 : k_FL RX7 23 7 7 := ⟨_, cl_X7, by decide, Or.inl (k_inWS 928 (by decide +kernel) (by decide))⟩
theorem pl_X7_23 : k_PL RX7 23 7 7 (.array .int) true := ⟨_, cl_X7, by decide, Or.inl (k_inWS 928 (by decide +kernel) (by decide)), rfl, by decide +kernel, fun _ => rfl⟩
theorem fl_X7_26 : k_FL RX7 26 7 8 := ⟨_, cl_X7, by decide, Or.inl (k_inWS 929 (by decide +kernel) (by decide))⟩
theorem pl_X7_26 : k_PL RX7 26 7 8 (.array .int) true := ⟨_, cl_X7, by decide, Or.inl (k_inWS 929 (by decide +kernel) (by decide)), rfl, by decide +kernel, fun _ => rfl⟩
theorem fl_X7_29 : k_FL RX7 29 7 9 := ⟨_, cl_X7, by decide, Or.inl (k_inWS 930 (by decide +kernel) (by decide))⟩
theorem pl_X7_29 : k_PL RX7 29 7 9 (.array .int) true := ⟨_, cl_X7, by decide, Or.inl (k_inWS 930 (by decide +kernel) (by decide)), rfl, by decide +kernel, fun _ => rfl⟩
theorem fl_X7_32 : k_FL RX7 32 7 10 := ⟨_, cl_X7, by decide, Or.inl (k_inWS 931 (by decide +kernel) (by decide))⟩
theorem pl_X7_32 : k_PL RX7 32 7 10 (.array .int) true := ⟨_, cl_X7, by decide, Or.inl (k_inWS 931 (by decide +kernel) (by decide)), rfl, by decide +kernel, fun _ => rfl⟩
theorem fl_X7_35 : k_FL RX7 35 7 11 := ⟨_, cl_X7, by decide, Or.inl (k_inWS 932 (by decide +kernel) (by decide))⟩
theorem pl_X7_35 : k_PL RX7 35 7 11 (.array .int) true := ⟨_, cl_X7, by decide, Or.inl (k_inWS 932 (by decide +kernel) (by decide)), rfl, by decide +kernel, fun _ => rfl⟩
theorem fl_X7_38 : k_FL RX7 38 7 12 := ⟨_, cl_X7, by decide, Or.inl (k_inWS 933 (by decide +kernel) (by decide))⟩
theorem pl_X7_38 : k_PL RX7 38 7 12 (.array .int) true := ⟨_, cl_X7, by decide, Or.inl (k_inWS 933 (by decide +kernel) (by decide)), rfl, by decide +kernel, fun _ => rfl⟩
theorem fl_X7_41 : k_FL RX7 41 7 13 := ⟨_, cl_X7, by decide, Or.inl (k_inWS 934 (by decide +kernel) (by decide))⟩
theorem pl_X7_41 : k_PL RX7 41 7 13 (.array .int) true := ⟨_, cl_X7, by decide, Or.inl (k_inWS 934 (by decide +kernel) (by decide)), rfl, by decide +kernel, fun _ => rfl⟩
theorem fl_X7_44 : k_FL RX7 44 7 14 := ⟨_, cl_X7, by decide, Or.inl (k_inWS 935 (by decide +kernel) (by decide))⟩
theorem pl_X7_44 : k_PL RX7 44 7 14 (.array .int) true := ⟨_, cl_X7, by decide, Or.inl (k_inWS 935 (by decide +kernel) (by decide)), rfl, by decide +kernel, fun _ => rfl⟩
theorem fl_X7_47 : k_FL RX7 47 7 15 := ⟨_, cl_X7, by decide, Or.inl (k_inWS 936 (by decide +kernel) (by decide))⟩
theorem pl_X7_47 : k_PL RX7 47 7 15 (.array .int) true := ⟨_, cl_X7, by decide, Or.inl (k_inWS 936 (by decide +kernel) (by decide)), rfl, by decide +kernel, fun _ => rfl⟩
theorem fl_X7_50 : k_FL RX7 50 7 16 := ⟨_, cl_X7, by decide, Or.inl (k_inWS 937 (by decide +kernel) (by decide))⟩
theorem pl_X7_50 : k_PL RX7 50 7 16 (.array .int) true := ⟨_, cl_X7, by decide, Or.inl (k_inWS 937 (by decide +kernel) (by decide)), rfl, by decide +kernel, fun _ => rfl⟩
theorem fl_X7_53 : k_FL RX7 53 7 17 := ⟨_, cl_X7, by decide, Or.inl (k_inWS 938 (by decide +kernel) (by decide))⟩
theorem pl_X7_53 : k_PL RX7 53 7 17 (.array .int) true := ⟨_, cl_X7, by decide, Or.inl (k_inWS 938 (by decide +kernel) (by decide)), rfl, by decide +kernel, fun _ => rfl⟩
theorem fl_X7_56 : k_FL RX7 56 7 18 := ⟨_, cl_X7, by decide, Or.inl (k_inWS 939 (by decide +kernel) (by decide))⟩
theorem pl_X7_56 : k_PL RX7 56 7 18 (.array .int) true := ⟨_, cl_X7, by decide, Or.inl (k_inWS 939 (by decide +kernel) (by decide)), rfl, by decide +kernel, fun _ => rfl⟩
theorem fl_X7_59 : k_FL RX7 59 7 19 := ⟨_, cl_X7, by decide, Or.inl (k_inWS 940 (by decide +kernel) (by decide))⟩
theorem pl_X7_59 : k_PL RX7 59 7 19 (.array .int) true := ⟨_, cl_X7, by decide, Or.inl (k_inWS 940 (by decide +kernel) (by decide)), rfl, by decide +kernel, fun _ => rfl⟩
theorem fl_X7_62 : k_FL RX7 62 7 20 := ⟨_, cl_X7, by decide, Or.inl (k_inWS 941 (by decide +kernel) (by decide))⟩
theorem pl_X7_62 : k_PL RX7 62 7 20 (.array .int) true := ⟨_, cl_X7, by decide, Or.inl (k_inWS 941 (by decide +kernel) (by decide)), rfl, by decide +kernel, fun _ => rfl⟩
theorem fl_X7_65 : k_FL RX7 65 7 21 := ⟨_, cl_X7, by decide, Or.inl (k_inWS 942 (by decide +kernel) (by decide))⟩
theorem pl_X7_65 : k_PL RX7 65 7 21 (.array .int) true := ⟨_, cl_X7, by decide, Or.inl (k_inWS 942 (by decide +kernel) (by decide)), rfl, by decide +kernel, fun _ => rfl⟩
theorem fl_X7_68 : k_FL RX7 68 7 22 := ⟨_, cl_X7, by decide, Or.inl (k_inWS 943 (by decide +kernel) (by decide))⟩
theorem pl_X7_68 : k_PL RX7 68 7 22 (.array .long) true := ⟨_, cl_X7, by decide, Or.inl (k_inWS 943 (by decide +kernel) (by decide)), rfl, by decide +kernel, fun _ => rfl⟩
theorem fl_X7_72 : k_FL RX7 72 7 23 := ⟨_, cl_X7, by decide, Or.inl (k_inWS 944 (by decide +kernel) (by decide))⟩
theorem pl_X7_72 : k_PL RX7 72 7 23 (.array .long) true := ⟨_, cl_X7, by decide, Or.inl (k_inWS 944 (by decide +kernel) (by decide)), rfl, by decide +kernel, fun _ => rfl⟩
theorem fl_X7_75 : k_FL RX7 75 7 24 := ⟨_, cl_X7, by decide, Or.inl (k_inWS 945 (by decide +kernel) (by decide))⟩
theorem pl_X7_75 : k_PL RX7 75 7 24 (.array .int) true := ⟨_, cl_X7, by decide, Or.inl (k_inWS 945 (by decide +kernel) (by decide)), rfl, by decide +kernel, fun _ => rfl⟩
theorem fl_X7_78 : k_FL RX7 78 7 25 := ⟨_, cl_X7, by decide, Or.inl (k_inWS 946 (by decide +kernel) (by decide))⟩
theorem pl_X7_78 : k_PL RX7 78 7 25 (.array .int) true := ⟨_, cl_X7, by decide, Or.inl (k_inWS 946 (by decide +kernel) (by decide)), rfl, by decide +kernel, fun _ => rfl⟩
theorem fl_X7_81 : k_FL RX7 81 7 26 := ⟨_, cl_X7, by decide, Or.inl (k_inWS 947 (by decide +kernel) (by decide))⟩
theorem pl_X7_81 : k_PL RX7 81 7 26 (.array .int) true := ⟨_, cl_X7, by decide, Or.inl (k_inWS 947 (by decide +kernel) (by decide)), rfl, by decide +kernel, fun _ => rfl⟩
theorem fl_X7_84 : k_FL RX7 84 7 27 := ⟨_, cl_X7, by decide, Or.inl (k_inWS 948 (by decide +kernel) (by decide))⟩
theorem pl_X7_84 : k_PL RX7 84 7 27 (.array .int) true := ⟨_, cl_X7, by decide, Or.inl (k_inWS 948 (by decide +kernel) (by decide)), rfl, by decide +kernel, fun _ => rfl⟩
theorem fl_X7_87 : k_FL RX7 87 7 33 := ⟨_, cl_X7, by decide, Or.inl (k_inWS 954 (by decide +kernel) (by decide))⟩
theorem pl_X7_87 : k_PL RX7 87 7 33 (.array .int) true := ⟨_, cl_X7, by decide, Or.inl (k_inWS 954 (by decide +kernel) (by decide)), rfl, by decide +kernel, fun _ => rfl⟩
theorem fl_X7_90 : k_FL RX7 90 7 34 := ⟨_, cl_X7, by decide, Or.inl (k_inWS 955 (by decide +kernel) (by decide))⟩
theorem pl_X7_90 : k_PL RX7 90 7 34 (.array .int) true := ⟨_, cl_X7, by decide, Or.inl (k_inWS 955 (by decide +kernel) (by decide)), rfl, by decide +kernel, fun _ => rfl⟩
theorem fl_X7_93 : k_FL RX7 93 7 35 := ⟨_, cl_X7, by decide, Or.inl (k_inWS 956 (by decide +kernel) (by decide))⟩
theorem pl_X7_93 : k_PL RX7 93 7 35 (.array .int) true := ⟨_, cl_X7, by decide, Or.inl (k_inWS 956 (by decide +kernel) (by decide)), rfl, by decide +kernel, fun _ => rfl⟩
theorem fl_X7_96 : k_FL RX7 96 7 36 := ⟨_, cl_X7, by decide, Or.inl (k_inWS 957 (by decide +kernel) (by decide))⟩
theorem pl_X7_96 : k_PL RX7 96 7 36 (.array .int) true := ⟨_, cl_X7, by decide, Or.inl (k_inWS 957 (by decide +kernel) (by decide)), rfl, by decide +kernel, fun _ => rfl⟩
theorem fl_X7_99 : k_FL RX7 99 7 37 := ⟨_, cl_X7, by decide, Or.inl (k_inWS 958 (by decide +kernel) (by decide))⟩
theorem pl_X7_99 : k_PL RX7 99 7 37 (.array .int) true := ⟨_, cl_X7, by decide, Or.inl (k_inWS 958 (by decide +kernel) (by decide)), rfl, by decide +kernel, fun _ => rfl⟩
theorem fl_X7_102 : k_FL RX7 102 7 38 := ⟨_, cl_X7, by decide, Or.inl (k_inWS 959 (by decide +kernel) (by decide))⟩
theorem pl_X7_102 : k_PL RX7 102 7 38 (.array .int) true := ⟨_, cl_X7, by decide, Or.inl (k_inWS 959 (by decide +kernel) (by decide)), rfl, by decide +kernel, fun _ => rfl⟩
theorem fl_X7_105 : k_FL RX7 105 7 39 := ⟨_, cl_X7, by decide, Or.inl (k_inWS 960 (by decide +kernel) (by decide))⟩
theorem pl_X7_105 : k_PL RX7 105 7 39 (.array .int) true := ⟨_, cl_X7, by decide, Or.inl (k_inWS 960 (by decide +kernel) (by decide)), rfl, by decide +kernel, fun _ => rfl⟩
theorem fl_X7_108 : k_FL RX7 108 7 40 := ⟨_, cl_X7, by decide, Or.inl (k_inWS 961 (by decide +kernel) (by decide))⟩
theorem pl_X7_108 : k_PL RX7 108 7 40 (.array .int) true := ⟨_, cl_X7, by decide, Or.inl (k_inWS 961 (by decide +kernel) (by decide)), rfl, by decide +kernel, fun _ => rfl⟩
theorem fl_X7_111 : k_FL RX7 111 7 41 := ⟨_, cl_X7, by decide, Or.inl (k_inWS 962 (by decide +kernel) (by decide))⟩
theorem pl_X7_111 : k_PL RX7 111 7 41 (.array .int) true := ⟨_, cl_X7, by decide, Or.inl (k_inWS 962 (by decide +kernel) (by decide)), rfl, by decide +kernel, fun _ => rfl⟩
theorem fl_X7_114 : k_FL RX7 114 7 44 := ⟨_, cl_X7, by decide, Or.inl (k_inWS 965 (by decide +kernel) (by decide))⟩
theorem pl_X7_114 : k_PL RX7 114 7 44 (.array .int) true := ⟨_, cl_X7, by decide, Or.inl (k_inWS 965 (by decide +kernel) (by decide)), rfl, by decide +kernel, fun _ => rfl⟩
theorem fl_X7_117 : k_FL RX7 117 7 45 := ⟨_, cl_X7, by decide, Or.inl (k_inWS 966 (by decide +kernel) (by decide))⟩
theorem pl_X7_117 : k_PL RX7 117 7 45 (.array .int) true := ⟨_, cl_X7, by decide, Or.inl (k_inWS 966 (by decide +kernel) (by decide)), rfl, by decide +kernel, fun _ => rfl⟩
theorem fl_X7_120 : k_FL RX7 120 7 46 := ⟨_, cl_X7, by decide, Or.inl (k_inWS 967 (by decide +kernel) (by decide))⟩
theorem pl_X7_120 : k_PL RX7 120 7 46 (.array .int) true := ⟨_, cl_X7, by decide, Or.inl (k_inWS 967 (by decide +kernel) (by decide)), rfl, by decide +kernel, fun _ => rfl⟩
theorem fl_X7_123 : k_FL RX7 123 7 47 := ⟨_, cl_X7, by decide, Or.inl (k_inWS 968 (by decide +kernel) (by decide))⟩
theorem pl_X7_123 : k_PL RX7 123 7 47 (.array .int) true := ⟨_, cl_X7, by decide, Or.inl (k_inWS 968 (by decide +kernel) (by decide)), rfl, by decide +kernel, fun _ => rfl⟩
theorem fl_X7_126 : k_FL RX7 126 7 50 := ⟨_, cl_X7, by decide, Or.inl (k_inWS 971 (by decide +kernel) (by decide))⟩
theorem pl_X7_126 : k_PL RX7 126 7 50 (.array .int) true := ⟨_, cl_X7, by decide, Or.inl (k_inWS 971 (by decide +kernel) (by decide)), rfl, by decide +kernel, fun _ => rfl⟩
theorem fl_X7_129 : k_FL RX7 129 7 0 := ⟨_, cl_X7, by decide, Or.inl (k_inWS 921 (by decide +kernel) (by decide))⟩
theorem fl_X7_132 : k_FL RX7 132 7 1 := ⟨_, cl_X7, by decide, Or.inl (k_inWS 922 (by decide +kernel) (by decide))⟩
theorem cb_X7_isShelf : k_cb Mt_X7_isShelf 1 := ⟨k_inWS 1088 (by decide +kernel) (by decide), k_inWS 8 (by decide +kernel) (by decide), ⟨by decide +kernel, by decide +kernel⟩, by decide +kernel, by decide⟩
theorem ci_X7_isShelf : Cond.instanceMethod yX7_isShelf ∈ k_WS := k_inWS 1087 (by decide +kernel) (by decide)
theorem ce_X7_isShelf : Cond.selects RX7 yX7_isShelf yX7_isShelf ∈ k_WS := k_inPr (q := (yX7_isShelf, 53)) (by decide +kernel) (by decide +kernel)
theorem cv_X7_135 : k_CV RX7 135 7 Mt_X7_isShelf 1 := ⟨cb_X7_isShelf, Or.inl (k_inWS 1085 (by decide +kernel) (by decide)), ci_X7_isShelf, ce_X7_isShelf, _, by decide, rfl, rfl⟩
theorem cb_X7_no : k_cb Mt_X7_no 1 := ⟨k_inWS 1092 (by decide +kernel) (by decide), k_inWS 8 (by decide +kernel) (by decide), ⟨by decide +kernel, by decide +kernel⟩, by decide +kernel, by decide⟩
theorem ci_X7_no : Cond.instanceMethod yX7_no ∈ k_WS := k_inWS 1091 (by decide +kernel) (by decide)
theorem ce_X7_no : Cond.selects RX7 yX7_no yX7_no ∈ k_WS := k_inPr (q := (yX7_no, 53)) (by decide +kernel) (by decide +kernel)
theorem cv_X7_139 : k_CV RX7 139 7 Mt_X7_no 1 := ⟨cb_X7_no, Or.inl (k_inWS 1089 (by decide +kernel) (by decide)), ci_X7_no, ce_X7_no, _, by decide, rfl, rfl⟩
theorem cb_X7_isCitizen : k_cb Mt_X7_isCitizen 1 := ⟨k_inWS 1112 (by decide +kernel) (by decide), k_inWS 8 (by decide +kernel) (by decide), ⟨by decide +kernel, by decide +kernel⟩, by decide +kernel, by decide⟩
theorem ci_X7_isCitizen : Cond.instanceMethod yX7_isCitizen ∈ k_WS := k_inWS 1111 (by decide +kernel) (by decide)
theorem ce_X7_isCitizen : Cond.selects RX7 yX7_isCitizen yX7_isCitizen ∈ k_WS := k_inPr (q := (yX7_isCitizen, 53)) (by decide +kernel) (by decide +kernel)
theorem cv_X7_143 : k_CV RX7 143 7 Mt_X7_isCitizen 1 := ⟨cb_X7_isCitizen, Or.inl (k_inWS 1109 (by decide +kernel) (by decide)), ci_X7_isCitizen, ce_X7_isCitizen, _, by decide, rfl, rfl⟩
theorem cb_X7_face : k_cb Mt_X7_face 1 := ⟨k_inWS 1124 (by decide +kernel) (by decide), k_inWS 8 (by decide +kernel) (by decide), ⟨by decide +kernel, by decide +kernel⟩, by decide +kernel, by decide⟩
theorem ci_X7_face : Cond.instanceMethod yX7_face ∈ k_WS := k_inWS 1123 (by decide +kernel) (by decide)
theorem ce_X7_face : Cond.selects RX7 yX7_face yX7_face ∈ k_WS := k_inPr (q := (yX7_face, 53)) (by decide +kernel) (by decide +kernel)
theorem cv_X7_146 : k_CV RX7 146 7 Mt_X7_face 1 := ⟨cb_X7_face, Or.inl (k_inWS 1121 (by decide +kernel) (by decide)), ci_X7_face, ce_X7_face, _, by decide, rfl, rfl⟩
theorem pl_X7_129 : k_PL RX7 129 7 0 .int false := ⟨_, cl_X7, by decide, Or.inl (k_inWS 921 (by decide +kernel) (by decide)), rfl, by decide +kernel, fun _ => by contradiction⟩
theorem pl_X7_132 : k_PL RX7 132 7 1 .int false := ⟨_, cl_X7, by decide, Or.inl (k_inWS 922 (by decide +kernel) (by decide)), rfl, by decide +kernel, fun _ => by contradiction⟩
theorem cb_X7_isFrom : k_cb Mt_X7_isFrom 3 := ⟨k_inWS 1132 (by decide +kernel) (by decide), k_inWS 8 (by decide +kernel) (by decide), ⟨by decide +kernel, by decide +kernel⟩, by decide +kernel, by decide⟩
theorem ci_X7_isFrom : Cond.instanceMethod yX7_isFrom ∈ k_WS := k_inWS 1131 (by decide +kernel) (by decide)
theorem ce_X7_isFrom : Cond.selects RX7 yX7_isFrom yX7_isFrom ∈ k_WS := k_inPr (q := (yX7_isFrom, 53)) (by decide +kernel) (by decide +kernel)
theorem cv_X7_149 : k_CV RX7 149 7 Mt_X7_isFrom 3 := ⟨cb_X7_isFrom, Or.inl (k_inWS 1129 (by decide +kernel) (by decide)), ci_X7_isFrom, ce_X7_isFrom, _, by decide, rfl, rfl⟩
theorem cb_X7_addsCitizen : k_cb Mt_X7_addsCitizen 4 := ⟨k_inWS 1136 (by decide +kernel) (by decide), k_inWS 8 (by decide +kernel) (by decide), ⟨by decide +kernel, by decide +kernel⟩, by decide +kernel, by decide⟩
theorem ci_X7_addsCitizen : Cond.instanceMethod yX7_addsCitizen ∈ k_WS := k_inWS 1135 (by decide +kernel) (by decide)
theorem ce_X7_addsCitizen : Cond.selects RX7 yX7_addsCitizen yX7_addsCitizen ∈ k_WS := k_inPr (q := (yX7_addsCitizen, 53)) (by decide +kernel) (by decide +kernel)
theorem cv_X7_153 : k_CV RX7 153 7 Mt_X7_addsCitizen 4 := ⟨cb_X7_addsCitizen, Or.inl (k_inWS 1133 (by decide +kernel) (by decide)), ci_X7_addsCitizen, ce_X7_addsCitizen, _, by decide, rfl, rfl⟩
theorem cb_X7_addsBeggar : k_cb Mt_X7_addsBeggar 2 := ⟨k_inWS 1144 (by decide +kernel) (by decide), k_inWS 8 (by decide +kernel) (by decide), ⟨by decide +kernel, by decide +kernel⟩, by decide +kernel, by decide⟩
theorem ci_X7_addsBeggar : Cond.instanceMethod yX7_addsBeggar ∈ k_WS := k_inWS 1143 (by decide +kernel) (by decide)
theorem ce_X7_addsBeggar : Cond.selects RX7 yX7_addsBeggar yX7_addsBeggar ∈ k_WS := k_inPr (q := (yX7_addsBeggar, 53)) (by decide +kernel) (by decide +kernel)
theorem cv_X7_157 : k_CV RX7 157 7 Mt_X7_addsBeggar 2 := ⟨cb_X7_addsBeggar, Or.inl (k_inWS 1141 (by decide +kernel) (by decide)), ci_X7_addsBeggar, ce_X7_addsBeggar, _, by decide, rfl, rfl⟩
theorem cb_X7_isBeggar : k_cb Mt_X7_isBeggar 1 := ⟨k_inWS 1156 (by decide +kernel) (by decide), k_inWS 8 (by decide +kernel) (by decide), ⟨by decide +kernel, by decide +kernel⟩, by decide +kernel, by decide⟩
theorem ci_X7_isBeggar : Cond.instanceMethod yX7_isBeggar ∈ k_WS := k_inWS 1155 (by decide +kernel) (by decide)
theorem ce_X7_isBeggar : Cond.selects RX7 yX7_isBeggar yX7_isBeggar ∈ k_WS := k_inPr (q := (yX7_isBeggar, 53)) (by decide +kernel) (by decide +kernel)
theorem cv_X7_161 : k_CV RX7 161 7 Mt_X7_isBeggar 1 := ⟨cb_X7_isBeggar, Or.inl (k_inWS 1153 (by decide +kernel) (by decide)), ci_X7_isBeggar, ce_X7_isBeggar, _, by decide, rfl, rfl⟩
theorem cb_X7_noTen : k_cb Mt_X7_noTen 1 := ⟨k_inWS 1168 (by decide +kernel) (by decide), k_inWS 8 (by decide +kernel) (by decide), ⟨by decide +kernel, by decide +kernel⟩, by decide +kernel, by decide⟩
theorem ci_X7_noTen : Cond.instanceMethod yX7_noTen ∈ k_WS := k_inWS 1167 (by decide +kernel) (by decide)
theorem ce_X7_noTen : Cond.selects RX7 yX7_noTen yX7_noTen ∈ k_WS := k_inPr (q := (yX7_noTen, 53)) (by decide +kernel) (by decide +kernel)
theorem cv_X7_164 : k_CV RX7 164 7 Mt_X7_noTen 1 := ⟨cb_X7_noTen, Or.inl (k_inWS 1165 (by decide +kernel) (by decide)), ci_X7_noTen, ce_X7_noTen, _, by decide, rfl, rfl⟩
theorem fl_X7_167 : k_FL RX7 167 7 32 := ⟨_, cl_X7, by decide, Or.inl (k_inWS 953 (by decide +kernel) (by decide))⟩
theorem pl_X7_167 : k_PL RX7 167 7 32 .int false := ⟨_, cl_X7, by decide, Or.inl (k_inWS 953 (by decide +kernel) (by decide)), rfl, by decide +kernel, fun _ => by contradiction⟩
theorem fl_X7_170 : k_FL RX7 170 7 29 := ⟨_, cl_X7, by decide, Or.inl (k_inWS 950 (by decide +kernel) (by decide))⟩
theorem fl_X7_173 : k_FL RX7 173 7 30 := ⟨_, cl_X7, by decide, Or.inl (k_inWS 951 (by decide +kernel) (by decide))⟩
theorem fl_X7_176 : k_FL RX7 176 7 28 := ⟨_, cl_X7, by decide, Or.inl (k_inWS 949 (by decide +kernel) (by decide))⟩
theorem pl_X7_170 : k_PL RX7 170 7 29 .int false := ⟨_, cl_X7, by decide, Or.inl (k_inWS 950 (by decide +kernel) (by decide)), rfl, by decide +kernel, fun _ => by contradiction⟩
theorem fl_X7_179 : k_FL RX7 179 7 31 := ⟨_, cl_X7, by decide, Or.inl (k_inWS 952 (by decide +kernel) (by decide))⟩
theorem pl_X7_179 : k_PL RX7 179 7 31 .int false := ⟨_, cl_X7, by decide, Or.inl (k_inWS 952 (by decide +kernel) (by decide)), rfl, by decide +kernel, fun _ => by contradiction⟩
theorem cb_X7_isDigit : k_cb Mt_X7_isDigit 0 := ⟨k_inWS 1208 (by decide +kernel) (by decide), k_inWS 8 (by decide +kernel) (by decide), ⟨by decide +kernel, by decide +kernel⟩, by decide +kernel, by decide⟩
theorem ci_X7_isDigit : Cond.instanceMethod yX7_isDigit ∈ k_WS := k_inWS 1207 (by decide +kernel) (by decide)
theorem ce_X7_isDigit : Cond.selects RX7 yX7_isDigit yX7_isDigit ∈ k_WS := k_inPr (q := (yX7_isDigit, 53)) (by decide +kernel) (by decide +kernel)
theorem cv_X7_182 : k_CV RX7 182 7 Mt_X7_isDigit 0 := ⟨cb_X7_isDigit, Or.inl (k_inWS 1205 (by decide +kernel) (by decide)), ci_X7_isDigit, ce_X7_isDigit, _, by decide, rfl, rfl⟩
theorem cb_X7_wrong : k_cb Mt_X7_wrong 1 := ⟨k_inWS 1196 (by decide +kernel) (by decide), k_inWS 8 (by decide +kernel) (by decide), ⟨by decide +kernel, by decide +kernel⟩, by decide +kernel, by decide⟩
theorem ci_X7_wrong : Cond.instanceMethod yX7_wrong ∈ k_WS := k_inWS 1195 (by decide +kernel) (by decide)
theorem ce_X7_wrong : Cond.selects RX7 yX7_wrong yX7_wrong ∈ k_WS := k_inPr (q := (yX7_wrong, 53)) (by decide +kernel) (by decide +kernel)
theorem cv_X7_186 : k_CV RX7 186 7 Mt_X7_wrong 1 := ⟨cb_X7_wrong, Or.inl (k_inWS 1193 (by decide +kernel) (by decide)), ci_X7_wrong, ce_X7_wrong, _, by decide, rfl, rfl⟩
theorem cb_X7_stands : k_cb Mt_X7_stands 1 := ⟨k_inWS 1192 (by decide +kernel) (by decide), k_inWS 8 (by decide +kernel) (by decide), ⟨by decide +kernel, by decide +kernel⟩, by decide +kernel, by decide⟩
theorem ci_X7_stands : Cond.instanceMethod yX7_stands ∈ k_WS := k_inWS 1191 (by decide +kernel) (by decide)
theorem ce_X7_stands : Cond.selects RX7 yX7_stands yX7_stands ∈ k_WS := k_inPr (q := (yX7_stands, 53)) (by decide +kernel) (by decide +kernel)
theorem cv_X7_189 : k_CV RX7 189 7 Mt_X7_stands 1 := ⟨cb_X7_stands, Or.inl (k_inWS 1189 (by decide +kernel) (by decide)), ci_X7_stands, ce_X7_stands, _, by decide, rfl, rfl⟩
theorem cb_X7_word : k_cb Mt_X7_word 0 := ⟨k_inWS 1200 (by decide +kernel) (by decide), k_inWS 8 (by decide +kernel) (by decide), ⟨by decide +kernel, by decide +kernel⟩, by decide +kernel, by decide⟩
theorem ci_X7_word : Cond.instanceMethod yX7_word ∈ k_WS := k_inWS 1199 (by decide +kernel) (by decide)
theorem ce_X7_word : Cond.selects RX7 yX7_word yX7_word ∈ k_WS := k_inPr (q := (yX7_word, 53)) (by decide +kernel) (by decide +kernel)
theorem cv_X7_192 : k_CV RX7 192 7 Mt_X7_word 0 := ⟨cb_X7_word, Or.inl (k_inWS 1197 (by decide +kernel) (by decide)), ci_X7_word, ce_X7_word, _, by decide, rfl, rfl⟩
theorem cb_X7_reads : k_cb Mt_X7_reads 0 := ⟨k_inWS 1204 (by decide +kernel) (by decide), k_inWS 8 (by decide +kernel) (by decide), ⟨by decide +kernel, by decide +kernel⟩, by decide +kernel, by decide⟩
theorem ci_X7_reads : Cond.instanceMethod yX7_reads ∈ k_WS := k_inWS 1203 (by decide +kernel) (by decide)
theorem ce_X7_reads : Cond.selects RX7 yX7_reads yX7_reads ∈ k_WS := k_inPr (q := (yX7_reads, 53)) (by decide +kernel) (by decide +kernel)
theorem cv_X7_196 : k_CV RX7 196 7 Mt_X7_reads 0 := ⟨cb_X7_reads, Or.inl (k_inWS 1201 (by decide +kernel) (by decide)), ci_X7_reads, ce_X7_reads, _, by decide, rfl, rfl⟩
theorem cb_X7_isSo : k_cb Mt_X7_isSo 2 := ⟨k_inWS 1212 (by decide +kernel) (by decide), k_inWS 8 (by decide +kernel) (by decide), ⟨by decide +kernel, by decide +kernel⟩, by decide +kernel, by decide⟩
theorem ci_X7_isSo : Cond.instanceMethod yX7_isSo ∈ k_WS := k_inWS 1211 (by decide +kernel) (by decide)
theorem ce_X7_isSo : Cond.selects RX7 yX7_isSo yX7_isSo ∈ k_WS := k_inPr (q := (yX7_isSo, 53)) (by decide +kernel) (by decide +kernel)
theorem cv_X7_199 : k_CV RX7 199 7 Mt_X7_isSo 2 := ⟨cb_X7_isSo, Or.inl (k_inWS 1209 (by decide +kernel) (by decide)), ci_X7_isSo, ce_X7_isSo, _, by decide, rfl, rfl⟩
theorem cb_X7_carries : k_cb Mt_X7_carries 4 := ⟨k_inWS 1184 (by decide +kernel) (by decide), k_inWS 8 (by decide +kernel) (by decide), ⟨by decide +kernel, by decide +kernel⟩, by decide +kernel, by decide⟩
theorem ci_X7_carries : Cond.instanceMethod yX7_carries ∈ k_WS := k_inWS 1183 (by decide +kernel) (by decide)
theorem ce_X7_carries : Cond.selects RX7 yX7_carries yX7_carries ∈ k_WS := k_inPr (q := (yX7_carries, 53)) (by decide +kernel) (by decide +kernel)
theorem cv_X7_203 : k_CV RX7 203 7 Mt_X7_carries 4 := ⟨cb_X7_carries, Or.inl (k_inWS 1181 (by decide +kernel) (by decide)), ci_X7_carries, ce_X7_carries, _, by decide, rfl, rfl⟩
theorem fl_X7_207 : k_FL RX7 207 7 2 := ⟨_, cl_X7, by decide, Or.inl (k_inWS 923 (by decide +kernel) (by decide))⟩
theorem pl_X7_207 : k_PL RX7 207 7 2 .int false := ⟨_, cl_X7, by decide, Or.inl (k_inWS 923 (by decide +kernel) (by decide)), rfl, by decide +kernel, fun _ => by contradiction⟩
theorem cb_X7_wanted : k_cb Mt_X7_wanted 1 := ⟨k_inWS 1176 (by decide +kernel) (by decide), k_inWS 8 (by decide +kernel) (by decide), ⟨by decide +kernel, by decide +kernel⟩, by decide +kernel, by decide⟩
theorem ci_X7_wanted : Cond.instanceMethod yX7_wanted ∈ k_WS := k_inWS 1175 (by decide +kernel) (by decide)
theorem ce_X7_wanted : Cond.selects RX7 yX7_wanted yX7_wanted ∈ k_WS := k_inPr (q := (yX7_wanted, 53)) (by decide +kernel) (by decide +kernel)
theorem cv_X7_210 : k_CV RX7 210 7 Mt_X7_wanted 1 := ⟨cb_X7_wanted, Or.inl (k_inWS 1173 (by decide +kernel) (by decide)), ci_X7_wanted, ce_X7_wanted, _, by decide, rfl, rfl⟩
theorem cb_X7_all : k_cb Mt_X7_all 2 := ⟨k_inWS 1180 (by decide +kernel) (by decide), k_inWS 8 (by decide +kernel) (by decide), ⟨by decide +kernel, by decide +kernel⟩, by decide +kernel, by decide⟩
theorem ci_X7_all : Cond.instanceMethod yX7_all ∈ k_WS := k_inWS 1179 (by decide +kernel) (by decide)
theorem ce_X7_all : Cond.selects RX7 yX7_all yX7_all ∈ k_WS := k_inPr (q := (yX7_all, 53)) (by decide +kernel) (by decide +kernel)
theorem cv_X7_213 : k_CV RX7 213 7 Mt_X7_all 2 := ⟨cb_X7_all, Or.inl (k_inWS 1177 (by decide +kernel) (by decide)), ci_X7_all, ce_X7_all, _, by decide, rfl, rfl⟩
theorem pl_X7_176 : k_PL RX7 176 7 28 .int false := ⟨_, cl_X7, by decide, Or.inl (k_inWS 949 (by decide +kernel) (by decide)), rfl, by decide +kernel, fun _ => by contradiction⟩
theorem pl_X7_173 : k_PL RX7 173 7 30 .int false := ⟨_, cl_X7, by decide, Or.inl (k_inWS 951 (by decide +kernel) (by decide)), rfl, by decide +kernel, fun _ => by contradiction⟩
theorem cb_X7_item : k_cb Mt_X7_item 0 := ⟨k_inWS 1188 (by decide +kernel) (by decide), k_inWS 8 (by decide +kernel) (by decide), ⟨by decide +kernel, by decide +kernel⟩, by decide +kernel, by decide⟩
theorem ci_X7_item : Cond.instanceMethod yX7_item ∈ k_WS := k_inWS 1187 (by decide +kernel) (by decide)
theorem ce_X7_item : Cond.selects RX7 yX7_item yX7_item ∈ k_WS := k_inPr (q := (yX7_item, 53)) (by decide +kernel) (by decide +kernel)
theorem cv_X7_217 : k_CV RX7 217 7 Mt_X7_item 0 := ⟨cb_X7_item, Or.inl (k_inWS 1185 (by decide +kernel) (by decide)), ci_X7_item, ce_X7_item, _, by decide, rfl, rfl⟩
theorem cb_X7_bestFace : k_cb Mt_X7_bestFace 2 := ⟨k_inWS 1232 (by decide +kernel) (by decide), k_inWS 8 (by decide +kernel) (by decide), ⟨by decide +kernel, by decide +kernel⟩, by decide +kernel, by decide⟩
theorem ci_X7_bestFace : Cond.instanceMethod yX7_bestFace ∈ k_WS := k_inWS 1231 (by decide +kernel) (by decide)
theorem ce_X7_bestFace : Cond.selects RX7 yX7_bestFace yX7_bestFace ∈ k_WS := k_inPr (q := (yX7_bestFace, 53)) (by decide +kernel) (by decide +kernel)
theorem cv_X7_220 : k_CV RX7 220 7 Mt_X7_bestFace 2 := ⟨cb_X7_bestFace, Or.inl (k_inWS 1229 (by decide +kernel) (by decide)), ci_X7_bestFace, ce_X7_bestFace, _, by decide, rfl, rfl⟩
theorem cb_X7_blindly : k_cb Mt_X7_blindly 1 := ⟨k_inWS 1236 (by decide +kernel) (by decide), k_inWS 8 (by decide +kernel) (by decide), ⟨by decide +kernel, by decide +kernel⟩, by decide +kernel, by decide⟩
theorem ci_X7_blindly : Cond.instanceMethod yX7_blindly ∈ k_WS := k_inWS 1235 (by decide +kernel) (by decide)
theorem ce_X7_blindly : Cond.selects RX7 yX7_blindly yX7_blindly ∈ k_WS := k_inPr (q := (yX7_blindly, 53)) (by decide +kernel) (by decide +kernel)
theorem cv_X7_224 : k_CV RX7 224 7 Mt_X7_blindly 1 := ⟨cb_X7_blindly, Or.inl (k_inWS 1233 (by decide +kernel) (by decide)), ci_X7_blindly, ce_X7_blindly, _, by decide, rfl, rfl⟩
theorem fl_X7_227 : k_FL RX7 227 7 42 := ⟨_, cl_X7, by decide, Or.inl (k_inWS 963 (by decide +kernel) (by decide))⟩
theorem pl_X7_227 : k_PL RX7 227 7 42 .int false := ⟨_, cl_X7, by decide, Or.inl (k_inWS 963 (by decide +kernel) (by decide)), rfl, by decide +kernel, fun _ => by contradiction⟩
theorem fl_X7_230 : k_FL RX7 230 7 43 := ⟨_, cl_X7, by decide, Or.inl (k_inWS 964 (by decide +kernel) (by decide))⟩
theorem pl_X7_230 : k_PL RX7 230 7 43 .int false := ⟨_, cl_X7, by decide, Or.inl (k_inWS 964 (by decide +kernel) (by decide)), rfl, by decide +kernel, fun _ => by contradiction⟩
theorem cb_X7_picksBy : k_cb Mt_X7_picksBy 2 := ⟨k_inWS 1228 (by decide +kernel) (by decide), k_inWS 8 (by decide +kernel) (by decide), ⟨by decide +kernel, by decide +kernel⟩, by decide +kernel, by decide⟩
theorem ci_X7_picksBy : Cond.instanceMethod yX7_picksBy ∈ k_WS := k_inWS 1227 (by decide +kernel) (by decide)
theorem ce_X7_picksBy : Cond.selects RX7 yX7_picksBy yX7_picksBy ∈ k_WS := k_inPr (q := (yX7_picksBy, 53)) (by decide +kernel) (by decide +kernel)
theorem cv_X7_233 : k_CV RX7 233 7 Mt_X7_picksBy 2 := ⟨cb_X7_picksBy, Or.inl (k_inWS 1225 (by decide +kernel) (by decide)), ci_X7_picksBy, ce_X7_picksBy, _, by decide, rfl, rfl⟩
theorem cb_X7_goes : k_cb Mt_X7_goes 0 := ⟨k_inWS 1224 (by decide +kernel) (by decide), k_inWS 8 (by decide +kernel) (by decide), ⟨by decide +kernel, by decide +kernel⟩, by decide +kernel, by decide⟩
theorem ci_X7_goes : Cond.instanceMethod yX7_goes ∈ k_WS := k_inWS 1223 (by decide +kernel) (by decide)
theorem ce_X7_goes : Cond.selects RX7 yX7_goes yX7_goes ∈ k_WS := k_inPr (q := (yX7_goes, 53)) (by decide +kernel) (by decide +kernel)
theorem cv_X7_236 : k_CV RX7 236 7 Mt_X7_goes 0 := ⟨cb_X7_goes, Or.inl (k_inWS 1221 (by decide +kernel) (by decide)), ci_X7_goes, ce_X7_goes, _, by decide, rfl, rfl⟩
theorem cb_X7_pickedBy : k_cb Mt_X7_pickedBy 1 := ⟨k_inWS 1248 (by decide +kernel) (by decide), k_inWS 8 (by decide +kernel) (by decide), ⟨by decide +kernel, by decide +kernel⟩, by decide +kernel, by decide⟩
theorem ci_X7_pickedBy : Cond.instanceMethod yX7_pickedBy ∈ k_WS := k_inWS 1247 (by decide +kernel) (by decide)
theorem ce_X7_pickedBy : Cond.selects RX7 yX7_pickedBy yX7_pickedBy ∈ k_WS := k_inPr (q := (yX7_pickedBy, 53)) (by decide +kernel) (by decide +kernel)
theorem cv_X7_239 : k_CV RX7 239 7 Mt_X7_pickedBy 1 := ⟨cb_X7_pickedBy, Or.inl (k_inWS 1245 (by decide +kernel) (by decide)), ci_X7_pickedBy, ce_X7_pickedBy, _, by decide, rfl, rfl⟩
theorem cb_X7_passes : k_cb Mt_X7_passes 0 := ⟨k_inWS 1256 (by decide +kernel) (by decide), k_inWS 8 (by decide +kernel) (by decide), ⟨by decide +kernel, by decide +kernel⟩, by decide +kernel, by decide⟩
theorem ci_X7_passes : Cond.instanceMethod yX7_passes ∈ k_WS := k_inWS 1255 (by decide +kernel) (by decide)
theorem ce_X7_passes : Cond.selects RX7 yX7_passes yX7_passes ∈ k_WS := k_inPr (q := (yX7_passes, 53)) (by decide +kernel) (by decide +kernel)
theorem cv_X7_242 : k_CV RX7 242 7 Mt_X7_passes 0 := ⟨cb_X7_passes, Or.inl (k_inWS 1253 (by decide +kernel) (by decide)), ci_X7_passes, ce_X7_passes, _, by decide, rfl, rfl⟩
theorem fl_X7_245 : k_FL RX7 245 7 48 := ⟨_, cl_X7, by decide, Or.inl (k_inWS 969 (by decide +kernel) (by decide))⟩
theorem pl_X7_245 : k_PL RX7 245 7 48 .int false := ⟨_, cl_X7, by decide, Or.inl (k_inWS 969 (by decide +kernel) (by decide)), rfl, by decide +kernel, fun _ => by contradiction⟩
theorem cb_X7_parts : k_cb Mt_X7_parts 1 := ⟨k_inWS 1272 (by decide +kernel) (by decide), k_inWS 8 (by decide +kernel) (by decide), ⟨by decide +kernel, by decide +kernel⟩, by decide +kernel, by decide⟩
theorem ci_X7_parts : Cond.instanceMethod yX7_parts ∈ k_WS := k_inWS 1271 (by decide +kernel) (by decide)
theorem ce_X7_parts : Cond.selects RX7 yX7_parts yX7_parts ∈ k_WS := k_inPr (q := (yX7_parts, 53)) (by decide +kernel) (by decide +kernel)
theorem cv_X7_248 : k_CV RX7 248 7 Mt_X7_parts 1 := ⟨cb_X7_parts, Or.inl (k_inWS 1269 (by decide +kernel) (by decide)), ci_X7_parts, ce_X7_parts, _, by decide, rfl, rfl⟩
theorem fl_X7_252 : k_FL RX7 252 7 49 := ⟨_, cl_X7, by decide, Or.inl (k_inWS 970 (by decide +kernel) (by decide))⟩
theorem pl_X7_252 : k_PL RX7 252 7 49 .int false := ⟨_, cl_X7, by decide, Or.inl (k_inWS 970 (by decide +kernel) (by decide)), rfl, by decide +kernel, fun _ => by contradiction⟩
theorem cb_X7_files : k_cb Mt_X7_files 0 := ⟨k_inWS 1268 (by decide +kernel) (by decide), k_inWS 8 (by decide +kernel) (by decide), ⟨by decide +kernel, by decide +kernel⟩, by decide +kernel, by decide⟩
theorem ci_X7_files : Cond.instanceMethod yX7_files ∈ k_WS := k_inWS 1267 (by decide +kernel) (by decide)
theorem ce_X7_files : Cond.selects RX7 yX7_files yX7_files ∈ k_WS := k_inPr (q := (yX7_files, 53)) (by decide +kernel) (by decide +kernel)
theorem cv_X7_255 : k_CV RX7 255 7 Mt_X7_files 0 := ⟨cb_X7_files, Or.inl (k_inWS 1265 (by decide +kernel) (by decide)), ci_X7_files, ce_X7_files, _, by decide, rfl, rfl⟩
theorem cb_X7_shareAt : k_cb Mt_X7_shareAt 3 := ⟨k_inWS 1288 (by decide +kernel) (by decide), k_inWS 8 (by decide +kernel) (by decide), ⟨by decide +kernel, by decide +kernel⟩, by decide +kernel, by decide⟩
theorem ci_X7_shareAt : Cond.instanceMethod yX7_shareAt ∈ k_WS := k_inWS 1287 (by decide +kernel) (by decide)
theorem ce_X7_shareAt : Cond.selects RX7 yX7_shareAt yX7_shareAt ∈ k_WS := k_inPr (q := (yX7_shareAt, 53)) (by decide +kernel) (by decide +kernel)
theorem cv_X7_258 : k_CV RX7 258 7 Mt_X7_shareAt 3 := ⟨cb_X7_shareAt, Or.inl (k_inWS 1285 (by decide +kernel) (by decide)), ci_X7_shareAt, ce_X7_shareAt, _, by decide, rfl, rfl⟩
theorem cb_X7_doesRound : k_cb Mt_X7_doesRound 0 := ⟨k_inWS 1284 (by decide +kernel) (by decide), k_inWS 8 (by decide +kernel) (by decide), ⟨by decide +kernel, by decide +kernel⟩, by decide +kernel, by decide⟩
theorem ci_X7_doesRound : Cond.instanceMethod yX7_doesRound ∈ k_WS := k_inWS 1283 (by decide +kernel) (by decide)
theorem ce_X7_doesRound : Cond.selects RX7 yX7_doesRound yX7_doesRound ∈ k_WS := k_inPr (q := (yX7_doesRound, 53)) (by decide +kernel) (by decide +kernel)
theorem cv_X7_262 : k_CV RX7 262 7 Mt_X7_doesRound 0 := ⟨cb_X7_doesRound, Or.inl (k_inWS 1281 (by decide +kernel) (by decide)), ci_X7_doesRound, ce_X7_doesRound, _, by decide, rfl, rfl⟩
theorem cb_X7_restsAfter : k_cb Mt_X7_restsAfter 0 := ⟨k_inWS 1280 (by decide +kernel) (by decide), k_inWS 8 (by decide +kernel) (by decide), ⟨by decide +kernel, by decide +kernel⟩, by decide +kernel, by decide⟩
theorem ci_X7_restsAfter : Cond.instanceMethod yX7_restsAfter ∈ k_WS := k_inWS 1279 (by decide +kernel) (by decide)
theorem ce_X7_restsAfter : Cond.selects RX7 yX7_restsAfter yX7_restsAfter ∈ k_WS := k_inPr (q := (yX7_restsAfter, 53)) (by decide +kernel) (by decide +kernel)
theorem cv_X7_265 : k_CV RX7 265 7 Mt_X7_restsAfter 0 := ⟨cb_X7_restsAfter, Or.inl (k_inWS 1277 (by decide +kernel) (by decide)), ci_X7_restsAfter, ce_X7_restsAfter, _, by decide, rfl, rfl⟩
theorem cb_X7_intAt : k_cb Mt_X7_intAt 2 := ⟨k_inWS 1316 (by decide +kernel) (by decide), k_inWS 8 (by decide +kernel) (by decide), ⟨by decide +kernel, by decide +kernel⟩, by decide +kernel, by decide⟩
theorem ci_X7_intAt : Cond.instanceMethod yX7_intAt ∈ k_WS := k_inWS 1315 (by decide +kernel) (by decide)
theorem ce_X7_intAt : Cond.selects RX7 yX7_intAt yX7_intAt ∈ k_WS := k_inPr (q := (yX7_intAt, 53)) (by decide +kernel) (by decide +kernel)
theorem cv_X7_268 : k_CV RX7 268 7 Mt_X7_intAt 2 := ⟨cb_X7_intAt, Or.inl (k_inWS 1313 (by decide +kernel) (by decide)), ci_X7_intAt, ce_X7_intAt, _, by decide, rfl, rfl⟩
theorem cb_X7_draw : k_cb Mt_X7_draw 1 := ⟨k_inWS 1328 (by decide +kernel) (by decide), k_inWS 8 (by decide +kernel) (by decide), ⟨by decide +kernel, by decide +kernel⟩, by decide +kernel, by decide⟩
theorem ci_X7_draw : Cond.instanceMethod yX7_draw ∈ k_WS := k_inWS 1327 (by decide +kernel) (by decide)
theorem ce_X7_draw : Cond.selects RX7 yX7_draw yX7_draw ∈ k_WS := k_inPr (q := (yX7_draw, 53)) (by decide +kernel) (by decide +kernel)
theorem cv_X7_272 : k_CV RX7 272 7 Mt_X7_draw 1 := ⟨cb_X7_draw, Or.inl (k_inWS 1325 (by decide +kernel) (by decide)), ci_X7_draw, ce_X7_draw, _, by decide, rfl, rfl⟩
theorem fl_X7_275 : k_FL RX7 275 7 51 := ⟨_, cl_X7, by decide, Or.inl (k_inWS 972 (by decide +kernel) (by decide))⟩
theorem pl_X7_275 : k_PL RX7 275 7 51 .int false := ⟨_, cl_X7, by decide, Or.inl (k_inWS 972 (by decide +kernel) (by decide)), rfl, by decide +kernel, fun _ => by contradiction⟩
theorem cb_X7_body : k_cb Mt_X7_body 1 := ⟨k_inWS 1345 (by decide +kernel) (by decide), k_inWS 8 (by decide +kernel) (by decide), ⟨by decide +kernel, by decide +kernel⟩, by decide +kernel, by decide⟩
theorem ci_X7_body : Cond.instanceMethod yX7_body ∈ k_WS := k_inWS 1344 (by decide +kernel) (by decide)
theorem ce_X7_body : Cond.selects RX7 yX7_body yX7_body ∈ k_WS := k_inPr (q := (yX7_body, 53)) (by decide +kernel) (by decide +kernel)
theorem cv_X7_278 : k_CV RX7 278 7 Mt_X7_body 1 := ⟨cb_X7_body, Or.inl (k_inWS 1342 (by decide +kernel) (by decide)), ci_X7_body, ce_X7_body, _, by decide, rfl, rfl⟩
theorem cb_X7_looking : k_cb Mt_X7_looking 2 := ⟨k_inWS 1341 (by decide +kernel) (by decide), k_inWS 8 (by decide +kernel) (by decide), ⟨by decide +kernel, by decide +kernel⟩, by decide +kernel, by decide⟩
theorem ci_X7_looking : Cond.instanceMethod yX7_looking ∈ k_WS := k_inWS 1340 (by decide +kernel) (by decide)
theorem ce_X7_looking : Cond.selects RX7 yX7_looking yX7_looking ∈ k_WS := k_inPr (q := (yX7_looking, 53)) (by decide +kernel) (by decide +kernel)
theorem cv_X7_281 : k_CV RX7 281 7 Mt_X7_looking 2 := ⟨cb_X7_looking, Or.inl (k_inWS 1338 (by decide +kernel) (by decide)), ci_X7_looking, ce_X7_looking, _, by decide, rfl, rfl⟩
theorem cb_X7_giving : k_cb Mt_X7_giving 2 := ⟨k_inWS 1349 (by decide +kernel) (by decide), k_inWS 8 (by decide +kernel) (by decide), ⟨by decide +kernel, by decide +kernel⟩, by decide +kernel, by decide⟩
theorem ci_X7_giving : Cond.instanceMethod yX7_giving ∈ k_WS := k_inWS 1348 (by decide +kernel) (by decide)
theorem ce_X7_giving : Cond.selects RX7 yX7_giving yX7_giving ∈ k_WS := k_inPr (q := (yX7_giving, 53)) (by decide +kernel) (by decide +kernel)
theorem cv_X7_284 : k_CV RX7 284 7 Mt_X7_giving 2 := ⟨cb_X7_giving, Or.inl (k_inWS 1346 (by decide +kernel) (by decide)), ci_X7_giving, ce_X7_giving, _, by decide, rfl, rfl⟩
theorem cb_X7_shutting : k_cb Mt_X7_shutting 2 := ⟨k_inWS 1353 (by decide +kernel) (by decide), k_inWS 8 (by decide +kernel) (by decide), ⟨by decide +kernel, by decide +kernel⟩, by decide +kernel, by decide⟩
theorem ci_X7_shutting : Cond.instanceMethod yX7_shutting ∈ k_WS := k_inWS 1352 (by decide +kernel) (by decide)
theorem ce_X7_shutting : Cond.selects RX7 yX7_shutting yX7_shutting ∈ k_WS := k_inPr (q := (yX7_shutting, 53)) (by decide +kernel) (by decide +kernel)
theorem cv_X7_287 : k_CV RX7 287 7 Mt_X7_shutting 2 := ⟨cb_X7_shutting, Or.inl (k_inWS 1350 (by decide +kernel) (by decide)), ci_X7_shutting, ce_X7_shutting, _, by decide, rfl, rfl⟩
theorem fl_X7_290 : k_FL RX7 290 7 52 := ⟨_, cl_X7, by decide, Or.inl (k_inWS 973 (by decide +kernel) (by decide))⟩
theorem pl_X7_290 : k_PL RX7 290 7 52 .boolean false := ⟨_, cl_X7, by decide, Or.inl (k_inWS 973 (by decide +kernel) (by decide)), rfl, by decide +kernel, fun _ => by contradiction⟩
theorem cb_X7_together : k_cb Mt_X7_together 2 := ⟨k_inWS 1373 (by decide +kernel) (by decide), k_inWS 8 (by decide +kernel) (by decide), ⟨by decide +kernel, by decide +kernel⟩, by decide +kernel, by decide⟩
theorem ci_X7_together : Cond.instanceMethod yX7_together ∈ k_WS := k_inWS 1372 (by decide +kernel) (by decide)
theorem ce_X7_together : Cond.selects RX7 yX7_together yX7_together ∈ k_WS := k_inPr (q := (yX7_together, 53)) (by decide +kernel) (by decide +kernel)
theorem cv_X7_294 : k_CV RX7 294 7 Mt_X7_together 2 := ⟨cb_X7_together, Or.inl (k_inWS 1370 (by decide +kernel) (by decide)), ci_X7_together, ce_X7_together, _, by decide, rfl, rfl⟩
theorem fl_X0_9 : k_FL RX0 9 0 5 := ⟨_, cl_X0, by decide, Or.inl (k_inWS 129 (by decide +kernel) (by decide))⟩
theorem pl_X0_9 : k_PL RX0 9 0 5 .int false := ⟨_, cl_X0, by decide, Or.inl (k_inWS 129 (by decide +kernel) (by decide)), rfl, by decide +kernel, fun _ => by contradiction⟩
theorem fl_X0_15 : k_FL RX0 15 0 7 := ⟨_, cl_X0, by decide, Or.inl (k_inWS 135 (by decide +kernel) (by decide))⟩
theorem pl_X0_15 : k_PL RX0 15 0 7 .int false := ⟨_, cl_X0, by decide, Or.inl (k_inWS 135 (by decide +kernel) (by decide)), rfl, by decide +kernel, fun _ => by contradiction⟩
theorem fl_X0_18 : k_FL RX0 18 0 9 := ⟨_, cl_X0, by decide, Or.inl (k_inWS 142 (by decide +kernel) (by decide))⟩
theorem pl_X0_18 : k_PL RX0 18 0 9 .int false := ⟨_, cl_X0, by decide, Or.inl (k_inWS 142 (by decide +kernel) (by decide)), rfl, by decide +kernel, fun _ => by contradiction⟩
theorem fl_X0_21 : k_FL RX0 21 0 10 := ⟨_, cl_X0, by decide, Or.inl (k_inWS 144 (by decide +kernel) (by decide))⟩
theorem pl_X0_21 : k_PL RX0 21 0 10 .int false := ⟨_, cl_X0, by decide, Or.inl (k_inWS 144 (by decide +kernel) (by decide)), rfl, by decide +kernel, fun _ => by contradiction⟩
theorem fl_X0_24 : k_FL RX0 24 0 11 := ⟨_, cl_X0, by decide, Or.inl (k_inWS 147 (by decide +kernel) (by decide))⟩
theorem pl_X0_24 : k_PL RX0 24 0 11 .int false := ⟨_, cl_X0, by decide, Or.inl (k_inWS 147 (by decide +kernel) (by decide)), rfl, by decide +kernel, fun _ => by contradiction⟩
theorem fl_X0_27 : k_FL RX0 27 0 0 := ⟨_, cl_X0, by decide, Or.inl (k_inWS 113 (by decide +kernel) (by decide))⟩
theorem pl_X0_27 : k_PL RX0 27 0 0 .int true := ⟨_, cl_X0, by decide, Or.inl (k_inWS 113 (by decide +kernel) (by decide)), rfl, by decide +kernel, fun _ => rfl⟩
theorem fl_X0_30 : k_FL RX0 30 0 1 := ⟨_, cl_X0, by decide, Or.inl (k_inWS 117 (by decide +kernel) (by decide))⟩
theorem pl_X0_30 : k_PL RX0 30 0 1 .boolean false := ⟨_, cl_X0, by decide, Or.inl (k_inWS 117 (by decide +kernel) (by decide)), rfl, by decide +kernel, fun _ => by contradiction⟩
theorem fl_X0_34 : k_FL RX0 34 0 2 := ⟨_, cl_X0, by decide, Or.inl (k_inWS 119 (by decide +kernel) (by decide))⟩
theorem pl_X0_34 : k_PL RX0 34 0 2 .boolean false := ⟨_, cl_X0, by decide, Or.inl (k_inWS 119 (by decide +kernel) (by decide)), rfl, by decide +kernel, fun _ => by contradiction⟩
theorem fl_X0_37 : k_FL RX0 37 0 3 := ⟨_, cl_X0, by decide, Or.inl (k_inWS 122 (by decide +kernel) (by decide))⟩
theorem pl_X0_37 : k_PL RX0 37 0 3 .int false := ⟨_, cl_X0, by decide, Or.inl (k_inWS 122 (by decide +kernel) (by decide)), rfl, by decide +kernel, fun _ => by contradiction⟩
theorem fl_X0_40 : k_FL RX0 40 0 4 := ⟨_, cl_X0, by decide, Or.inl (k_inWS 126 (by decide +kernel) (by decide))⟩
theorem pl_X0_40 : k_PL RX0 40 0 4 .int false := ⟨_, cl_X0, by decide, Or.inl (k_inWS 126 (by decide +kernel) (by decide)), rfl, by decide +kernel, fun _ => by contradiction⟩
theorem fl_X0_43 : k_FL RX0 43 0 6 := ⟨_, cl_X0, by decide, Or.inl (k_inWS 132 (by decide +kernel) (by decide))⟩
theorem pl_X0_43 : k_PL RX0 43 0 6 .int false := ⟨_, cl_X0, by decide, Or.inl (k_inWS 132 (by decide +kernel) (by decide)), rfl, by decide +kernel, fun _ => by contradiction⟩
theorem cv_X0_46 : k_CV RX0 46 0 Mt_X0_comes 0 := ⟨cb_X0_comes, Or.inl (k_inWS 717 (by decide +kernel) (by decide)), ci_X0_comes, ce_X0_comes, _, by decide, rfl, rfl⟩
theorem fl_X0_50 : k_FL RX0 50 0 8 := ⟨_, cl_X0, by decide, Or.inl (k_inWS 139 (by decide +kernel) (by decide))⟩
theorem cm_X0_53 : Cond.methodLink RX0 53 Lib.Math.min.name ∈ k_WS := k_inWS 718 (by decide +kernel) (by decide)
theorem fl_X1_9 : k_FL RX1 9 1 0 := ⟨_, cl_X1, by decide, Or.inl (k_inWS 38 (by decide +kernel) (by decide))⟩
theorem pl_X1_9 : k_PL RX1 9 1 0 .int true := ⟨_, cl_X1, by decide, Or.inl (k_inWS 38 (by decide +kernel) (by decide)), rfl, by decide +kernel, fun _ => rfl⟩
theorem fl_X1_15 : k_FL RX1 15 1 1 := ⟨_, cl_X1, by decide, Or.inl (k_inWS 41 (by decide +kernel) (by decide))⟩
theorem pl_X1_15 : k_PL RX1 15 1 1 .boolean false := ⟨_, cl_X1, by decide, Or.inl (k_inWS 41 (by decide +kernel) (by decide)), rfl, by decide +kernel, fun _ => by contradiction⟩
theorem fl_X1_19 : k_FL RX1 19 1 2 := ⟨_, cl_X1, by decide, Or.inl (k_inWS 43 (by decide +kernel) (by decide))⟩
theorem pl_X1_19 : k_PL RX1 19 1 2 .boolean false := ⟨_, cl_X1, by decide, Or.inl (k_inWS 43 (by decide +kernel) (by decide)), rfl, by decide +kernel, fun _ => by contradiction⟩
theorem fl_X1_22 : k_FL RX1 22 1 3 := ⟨_, cl_X1, by decide, Or.inl (k_inWS 47 (by decide +kernel) (by decide))⟩
theorem pl_X1_22 : k_PL RX1 22 1 3 .int false := ⟨_, cl_X1, by decide, Or.inl (k_inWS 47 (by decide +kernel) (by decide)), rfl, by decide +kernel, fun _ => by contradiction⟩
theorem fl_X1_25 : k_FL RX1 25 1 4 := ⟨_, cl_X1, by decide, Or.inl (k_inWS 50 (by decide +kernel) (by decide))⟩
theorem pl_X1_25 : k_PL RX1 25 1 4 .int false := ⟨_, cl_X1, by decide, Or.inl (k_inWS 50 (by decide +kernel) (by decide)), rfl, by decide +kernel, fun _ => by contradiction⟩
theorem fl_X1_28 : k_FL RX1 28 1 5 := ⟨_, cl_X1, by decide, Or.inl (k_inWS 53 (by decide +kernel) (by decide))⟩
theorem pl_X1_28 : k_PL RX1 28 1 5 .int false := ⟨_, cl_X1, by decide, Or.inl (k_inWS 53 (by decide +kernel) (by decide)), rfl, by decide +kernel, fun _ => by contradiction⟩
theorem fl_X1_31 : k_FL RX1 31 1 6 := ⟨_, cl_X1, by decide, Or.inl (k_inWS 56 (by decide +kernel) (by decide))⟩
theorem pl_X1_31 : k_PL RX1 31 1 6 .int false := ⟨_, cl_X1, by decide, Or.inl (k_inWS 56 (by decide +kernel) (by decide)), rfl, by decide +kernel, fun _ => by contradiction⟩
theorem fl_X1_34 : k_FL RX1 34 1 7 := ⟨_, cl_X1, by decide, Or.inl (k_inWS 59 (by decide +kernel) (by decide))⟩
theorem pl_X1_34 : k_PL RX1 34 1 7 .int false := ⟨_, cl_X1, by decide, Or.inl (k_inWS 59 (by decide +kernel) (by decide)), rfl, by decide +kernel, fun _ => by contradiction⟩
theorem fl_X1_37 : k_FL RX1 37 1 8 := ⟨_, cl_X1, by decide, Or.inl (k_inWS 63 (by decide +kernel) (by decide))⟩
theorem pl_X1_37 : k_PL RX1 37 1 8 .int false := ⟨_, cl_X1, by decide, Or.inl (k_inWS 63 (by decide +kernel) (by decide)), rfl, by decide +kernel, fun _ => by contradiction⟩
theorem cb_X1_unboundedFace : k_cb Mt_X1_unboundedFace 0 := ⟨k_inWS 416 (by decide +kernel) (by decide), k_inWS 3 (by decide +kernel) (by decide), ⟨by decide +kernel, by decide +kernel⟩, by decide +kernel, by decide⟩
theorem ci_X1_unboundedFace : Cond.instanceMethod yX1_unboundedFace ∈ k_WS := k_inWS 415 (by decide +kernel) (by decide)
theorem ce_X1_unboundedFace : Cond.selects RX1 yX1_unboundedFace yX1_unboundedFace ∈ k_WS := k_inPr (q := (yX1_unboundedFace, 15)) (by decide +kernel) (by decide +kernel)
theorem cv_X1_40 : k_CV RX1 40 1 Mt_X1_unboundedFace 0 := ⟨cb_X1_unboundedFace, Or.inl (k_inWS 413 (by decide +kernel) (by decide)), ci_X1_unboundedFace, ce_X1_unboundedFace, _, by decide, rfl, rfl⟩
theorem cm_X1_44 : Cond.methodLink RX1 44 Lib.Math.min.name ∈ k_WS := k_inWS 417 (by decide +kernel) (by decide)
theorem cm_X1_50 : Cond.methodLink RX1 50 Lib.Math.max.name ∈ k_WS := k_inWS 418 (by decide +kernel) (by decide)
theorem cv_X1_53 : k_CV RX1 53 1 Mt_X1_faceNow 0 := ⟨cb_X1_faceNow, Or.inl (k_inWS 409 (by decide +kernel) (by decide)), ci_X1_faceNow, ce_X1_faceNow, _, by decide, rfl, rfl⟩
theorem fl_X1_56 : k_FL RX1 56 1 9 := ⟨_, cl_X1, by decide, Or.inl (k_inWS 65 (by decide +kernel) (by decide))⟩
theorem pl_X1_56 : k_PL RX1 56 1 9 .int false := ⟨_, cl_X1, by decide, Or.inl (k_inWS 65 (by decide +kernel) (by decide)), rfl, by decide +kernel, fun _ => by contradiction⟩
theorem fl_X1_59 : k_FL RX1 59 1 10 := ⟨_, cl_X1, by decide, Or.inl (k_inWS 67 (by decide +kernel) (by decide))⟩
theorem pl_X1_59 : k_PL RX1 59 1 10 .int false := ⟨_, cl_X1, by decide, Or.inl (k_inWS 67 (by decide +kernel) (by decide)), rfl, by decide +kernel, fun _ => by contradiction⟩
theorem fl_X1_62 : k_FL RX1 62 1 11 := ⟨_, cl_X1, by decide, Or.inl (k_inWS 70 (by decide +kernel) (by decide))⟩
theorem pl_X1_62 : k_PL RX1 62 1 11 .int false := ⟨_, cl_X1, by decide, Or.inl (k_inWS 70 (by decide +kernel) (by decide)), rfl, by decide +kernel, fun _ => by contradiction⟩
theorem fl_X1_65 : k_FL RX1 65 1 12 := ⟨_, cl_X1, by decide, Or.inl (k_inWS 72 (by decide +kernel) (by decide))⟩
theorem pl_X1_65 : k_PL RX1 65 1 12 .int false := ⟨_, cl_X1, by decide, Or.inl (k_inWS 72 (by decide +kernel) (by decide)), rfl, by decide +kernel, fun _ => by contradiction⟩
theorem fl_X1_68 : k_FL RX1 68 1 13 := ⟨_, cl_X1, by decide, Or.inl (k_inWS 73 (by decide +kernel) (by decide))⟩
theorem pl_X1_68 : k_PL RX1 68 1 13 .int false := ⟨_, cl_X1, by decide, Or.inl (k_inWS 73 (by decide +kernel) (by decide)), rfl, by decide +kernel, fun _ => by contradiction⟩
theorem fl_X1_71 : k_FL RX1 71 0 7 := ⟨_, cl_X0, by decide, Or.inr ⟨"BeggarsChoose", k_inNW 136 (by decide +kernel) (by decide)⟩⟩
theorem pl_X1_71 : k_PL RX1 71 0 7 .int false := ⟨_, cl_X0, by decide, Or.inr ⟨rfl, "BeggarsChoose", k_inNW 136 (by decide +kernel) (by decide)⟩, rfl, by decide +kernel, fun _ => by contradiction⟩
theorem fl_X1_76 : k_FL RX1 76 0 0 := ⟨_, cl_X0, by decide, Or.inr ⟨"BeggarsChoose", k_inNW 114 (by decide +kernel) (by decide)⟩⟩
theorem fl_X1_77 : k_FL RX1 77 0 3 := ⟨_, cl_X0, by decide, Or.inr ⟨"BeggarsChoose", k_inNW 123 (by decide +kernel) (by decide)⟩⟩
theorem cb_X1_keeps : k_cb Mt_X1_keeps 1 := ⟨k_inWS 679 (by decide +kernel) (by decide), k_inWS 3 (by decide +kernel) (by decide), ⟨by decide +kernel, by decide +kernel⟩, by decide +kernel, by decide⟩
theorem ci_X1_keeps : Cond.instanceMethod yX1_keeps ∈ k_WS := k_inWS 678 (by decide +kernel) (by decide)
theorem ce_X1_keeps : Cond.selects RX1 yX1_keeps yX1_keeps ∈ k_WS := k_inPr (q := (yX1_keeps, 15)) (by decide +kernel) (by decide +kernel)
theorem cv_X1_80 : k_CV RX1 80 1 Mt_X1_keeps 1 := ⟨cb_X1_keeps, Or.inl (k_inWS 676 (by decide +kernel) (by decide)), ci_X1_keeps, ce_X1_keeps, _, by decide, rfl, rfl⟩
theorem fl_X1_84 : k_FL RX1 84 0 8 := ⟨_, cl_X0, by decide, Or.inr ⟨"BeggarsChoose", k_inNW 140 (by decide +kernel) (by decide)⟩⟩
theorem pl_X1_84 : k_PL RX1 84 0 8 .boolean false := ⟨_, cl_X0, by decide, Or.inr ⟨rfl, "BeggarsChoose", k_inNW 140 (by decide +kernel) (by decide)⟩, rfl, by decide +kernel, fun _ => by contradiction⟩
theorem fl_X2_11 : k_FL RX2 11 2 0 := ⟨_, cl_X2, by decide, Or.inl (k_inWS 175 (by decide +kernel) (by decide))⟩
theorem pl_X2_11 : k_PL RX2 11 2 0 (.array (.object "BeggarsChoose$Citizen")) true := ⟨_, cl_X2, by decide, Or.inl (k_inWS 175 (by decide +kernel) (by decide)), rfl, by decide +kernel, fun _ => rfl⟩
theorem fl_X2_19 : k_FL RX2 19 2 1 := ⟨_, cl_X2, by decide, Or.inl (k_inWS 176 (by decide +kernel) (by decide))⟩
theorem pl_X2_19 : k_PL RX2 19 2 1 (.array (.object "BeggarsChoose$Beggar")) true := ⟨_, cl_X2, by decide, Or.inl (k_inWS 176 (by decide +kernel) (by decide)), rfl, by decide +kernel, fun _ => rfl⟩
theorem fl_X2_23 : k_FL RX2 23 2 5 := ⟨_, cl_X2, by decide, Or.inl (k_inWS 186 (by decide +kernel) (by decide))⟩
theorem pl_X2_23 : k_PL RX2 23 2 5 .int false := ⟨_, cl_X2, by decide, Or.inl (k_inWS 186 (by decide +kernel) (by decide)), rfl, by decide +kernel, fun _ => by contradiction⟩
theorem cb_X1_init : k_cb Mt_X1_init 1 := ⟨k_inWS 36 (by decide +kernel) (by decide), k_inWS 3 (by decide +kernel) (by decide), ⟨by decide +kernel, by decide +kernel⟩, by decide +kernel, by decide⟩
theorem ci_X1_init : Cond.instanceMethod yX1_init ∈ k_WS := k_inWS 35 (by decide +kernel) (by decide)
theorem cb_X0_init : k_cb Mt_X0_init 1 := ⟨k_inWS 111 (by decide +kernel) (by decide), k_inWS 4 (by decide +kernel) (by decide), ⟨by decide +kernel, by decide +kernel⟩, by decide +kernel, by decide⟩
theorem ci_X0_init : Cond.instanceMethod yX0_init ∈ k_WS := k_inWS 110 (by decide +kernel) (by decide)
theorem cb_X1_become : k_cb Mt_X1_become 1 := ⟨k_inWS 485 (by decide +kernel) (by decide), k_inWS 3 (by decide +kernel) (by decide), ⟨by decide +kernel, by decide +kernel⟩, by decide +kernel, by decide⟩
theorem ci_X1_become : Cond.instanceMethod yX1_become ∈ k_WS := k_inWS 484 (by decide +kernel) (by decide)
theorem ce_X1_become : Cond.selects RX1 yX1_become yX1_become ∈ k_WS := k_inPr (q := (yX1_become, 15)) (by decide +kernel) (by decide +kernel)
theorem cv_X2_31 : k_CV RX2 31 1 Mt_X1_become 1 := ⟨cb_X1_become, Or.inr ⟨"BeggarsChoose", k_inNW 482 (by decide +kernel) (by decide)⟩, ci_X1_become, ce_X1_become, _, by decide, rfl, rfl⟩
theorem cb_X0_become : k_cb Mt_X0_become 1 := ⟨k_inWS 489 (by decide +kernel) (by decide), k_inWS 4 (by decide +kernel) (by decide), ⟨by decide +kernel, by decide +kernel⟩, by decide +kernel, by decide⟩
theorem ci_X0_become : Cond.instanceMethod yX0_become ∈ k_WS := k_inWS 488 (by decide +kernel) (by decide)
theorem ce_X0_become : Cond.selects RX0 yX0_become yX0_become ∈ k_WS := k_inPr (q := (yX0_become, 12)) (by decide +kernel) (by decide +kernel)
theorem cv_X2_35 : k_CV RX2 35 0 Mt_X0_become 1 := ⟨cb_X0_become, Or.inr ⟨"BeggarsChoose", k_inNW 486 (by decide +kernel) (by decide)⟩, ci_X0_become, ce_X0_become, _, by decide, rfl, rfl⟩
theorem fl_X2_38 : k_FL RX2 38 2 2 := ⟨_, cl_X2, by decide, Or.inl (k_inWS 178 (by decide +kernel) (by decide))⟩
theorem pl_X2_38 : k_PL RX2 38 2 2 .int false := ⟨_, cl_X2, by decide, Or.inl (k_inWS 178 (by decide +kernel) (by decide)), rfl, by decide +kernel, fun _ => by contradiction⟩
theorem fl_X2_41 : k_FL RX2 41 2 3 := ⟨_, cl_X2, by decide, Or.inl (k_inWS 181 (by decide +kernel) (by decide))⟩
theorem pl_X2_41 : k_PL RX2 41 2 3 .int false := ⟨_, cl_X2, by decide, Or.inl (k_inWS 181 (by decide +kernel) (by decide)), rfl, by decide +kernel, fun _ => by contradiction⟩
theorem fl_X2_44 : k_FL RX2 44 2 4 := ⟨_, cl_X2, by decide, Or.inl (k_inWS 184 (by decide +kernel) (by decide))⟩
theorem pl_X2_44 : k_PL RX2 44 2 4 .int false := ⟨_, cl_X2, by decide, Or.inl (k_inWS 184 (by decide +kernel) (by decide)), rfl, by decide +kernel, fun _ => by contradiction⟩
theorem cb_X1_arrive : k_cb Mt_X1_arrive 4 := ⟨k_inWS 433 (by decide +kernel) (by decide), k_inWS 3 (by decide +kernel) (by decide), ⟨by decide +kernel, by decide +kernel⟩, by decide +kernel, by decide⟩
theorem ci_X1_arrive : Cond.instanceMethod yX1_arrive ∈ k_WS := k_inWS 432 (by decide +kernel) (by decide)
theorem ce_X1_arrive : Cond.selects RX1 yX1_arrive yX1_arrive ∈ k_WS := k_inPr (q := (yX1_arrive, 15)) (by decide +kernel) (by decide +kernel)
theorem cv_X2_47 : k_CV RX2 47 1 Mt_X1_arrive 4 := ⟨cb_X1_arrive, Or.inr ⟨"BeggarsChoose", k_inNW 430 (by decide +kernel) (by decide)⟩, ci_X1_arrive, ce_X1_arrive, _, by decide, rfl, rfl⟩
theorem cb_X0_arrive : k_cb Mt_X0_arrive 2 := ⟨k_inWS 445 (by decide +kernel) (by decide), k_inWS 4 (by decide +kernel) (by decide), ⟨by decide +kernel, by decide +kernel⟩, by decide +kernel, by decide⟩
theorem ci_X0_arrive : Cond.instanceMethod yX0_arrive ∈ k_WS := k_inWS 444 (by decide +kernel) (by decide)
theorem ce_X0_arrive : Cond.selects RX0 yX0_arrive yX0_arrive ∈ k_WS := k_inPr (q := (yX0_arrive, 12)) (by decide +kernel) (by decide +kernel)
theorem cv_X2_51 : k_CV RX2 51 0 Mt_X0_arrive 2 := ⟨cb_X0_arrive, Or.inr ⟨"BeggarsChoose", k_inNW 442 (by decide +kernel) (by decide)⟩, ci_X0_arrive, ce_X0_arrive, _, by decide, rfl, rfl⟩
theorem cb_X1_isOpen : k_cb Mt_X1_isOpen 0 := ⟨k_inWS 646 (by decide +kernel) (by decide), k_inWS 3 (by decide +kernel) (by decide), ⟨by decide +kernel, by decide +kernel⟩, by decide +kernel, by decide⟩
theorem ci_X1_isOpen : Cond.instanceMethod yX1_isOpen ∈ k_WS := k_inWS 645 (by decide +kernel) (by decide)
theorem ce_X1_isOpen : Cond.selects RX1 yX1_isOpen yX1_isOpen ∈ k_WS := k_inPr (q := (yX1_isOpen, 15)) (by decide +kernel) (by decide +kernel)
theorem cv_X2_54 : k_CV RX2 54 1 Mt_X1_isOpen 0 := ⟨cb_X1_isOpen, Or.inr ⟨"BeggarsChoose", k_inNW 643 (by decide +kernel) (by decide)⟩, ci_X1_isOpen, ce_X1_isOpen, _, by decide, rfl, rfl⟩
theorem cb_X2_countOpen : k_cb Mt_X2_countOpen 0 := ⟨k_inWS 658 (by decide +kernel) (by decide), k_inWS 2 (by decide +kernel) (by decide), ⟨by decide +kernel, by decide +kernel⟩, by decide +kernel, by decide⟩
theorem ci_X2_countOpen : Cond.instanceMethod yX2_countOpen ∈ k_WS := k_inWS 657 (by decide +kernel) (by decide)
theorem ce_X2_countOpen : Cond.selects RX2 yX2_countOpen yX2_countOpen ∈ k_WS := k_inPr (q := (yX2_countOpen, 8)) (by decide +kernel) (by decide +kernel)
theorem cv_X2_58 : k_CV RX2 58 2 Mt_X2_countOpen 0 := ⟨cb_X2_countOpen, Or.inl (k_inWS 655 (by decide +kernel) (by decide)), ci_X2_countOpen, ce_X2_countOpen, _, by decide, rfl, rfl⟩
theorem cv_X2_62 : k_CV RX2 62 0 Mt_X0_comes 0 := ⟨cb_X0_comes, Or.inr ⟨"BeggarsChoose", k_inNW 631 (by decide +kernel) (by decide)⟩, ci_X0_comes, ce_X0_comes, _, by decide, rfl, rfl⟩
theorem cv_X2_65 : k_CV RX2 65 2 Mt_X2_countComing 0 := ⟨cb_X2_countComing, Or.inl (k_inWS 914 (by decide +kernel) (by decide)), ci_X2_countComing, ce_X2_countComing, _, by decide, rfl, rfl⟩
theorem fl_X2_68 : k_FL RX2 68 1 1 := ⟨_, cl_X1, by decide, Or.inr ⟨"BeggarsChoose", k_inNW 42 (by decide +kernel) (by decide)⟩⟩
theorem fl_X2_72 : k_FL RX2 72 1 7 := ⟨_, cl_X1, by decide, Or.inr ⟨"BeggarsChoose", k_inNW 61 (by decide +kernel) (by decide)⟩⟩
theorem fl_X2_75 : k_FL RX2 75 0 1 := ⟨_, cl_X0, by decide, Or.inr ⟨"BeggarsChoose", k_inNW 118 (by decide +kernel) (by decide)⟩⟩
theorem fl_X2_76 : k_FL RX2 76 0 6 := ⟨_, cl_X0, by decide, Or.inr ⟨"BeggarsChoose", k_inNW 133 (by decide +kernel) (by decide)⟩⟩
theorem cb_X1_beginMorning : k_cb Mt_X1_beginMorning 0 := ⟨k_inWS 630 (by decide +kernel) (by decide), k_inWS 3 (by decide +kernel) (by decide), ⟨by decide +kernel, by decide +kernel⟩, by decide +kernel, by decide⟩
theorem ci_X1_beginMorning : Cond.instanceMethod yX1_beginMorning ∈ k_WS := k_inWS 629 (by decide +kernel) (by decide)
theorem ce_X1_beginMorning : Cond.selects RX1 yX1_beginMorning yX1_beginMorning ∈ k_WS := k_inPr (q := (yX1_beginMorning, 15)) (by decide +kernel) (by decide +kernel)
theorem cv_X2_79 : k_CV RX2 79 1 Mt_X1_beginMorning 0 := ⟨cb_X1_beginMorning, Or.inr ⟨"BeggarsChoose", k_inNW 627 (by decide +kernel) (by decide)⟩, ci_X1_beginMorning, ce_X1_beginMorning, _, by decide, rfl, rfl⟩
theorem fl_X2_82 : k_FL RX2 82 0 7 := ⟨_, cl_X0, by decide, Or.inr ⟨"BeggarsChoose", k_inNW 137 (by decide +kernel) (by decide)⟩⟩
theorem pl_X2_82 : k_PL RX2 82 0 7 .int false := ⟨_, cl_X0, by decide, Or.inr ⟨rfl, "BeggarsChoose", k_inNW 137 (by decide +kernel) (by decide)⟩, rfl, by decide +kernel, fun _ => by contradiction⟩
theorem fl_X2_85 : k_FL RX2 85 0 8 := ⟨_, cl_X0, by decide, Or.inr ⟨"BeggarsChoose", k_inNW 141 (by decide +kernel) (by decide)⟩⟩
theorem pl_X2_85 : k_PL RX2 85 0 8 .boolean false := ⟨_, cl_X0, by decide, Or.inr ⟨rfl, "BeggarsChoose", k_inNW 141 (by decide +kernel) (by decide)⟩, rfl, by decide +kernel, fun _ => by contradiction⟩
theorem cb_X2_chosenBy : k_cb Mt_X2_chosenBy 1 := ⟨k_inWS 638 (by decide +kernel) (by decide), k_inWS 2 (by decide +kernel) (by decide), ⟨by decide +kernel, by decide +kernel⟩, by decide +kernel, by decide⟩
theorem ci_X2_chosenBy : Cond.instanceMethod yX2_chosenBy ∈ k_WS := k_inWS 637 (by decide +kernel) (by decide)
theorem ce_X2_chosenBy : Cond.selects RX2 yX2_chosenBy yX2_chosenBy ∈ k_WS := k_inPr (q := (yX2_chosenBy, 8)) (by decide +kernel) (by decide +kernel)
theorem cv_X2_88 : k_CV RX2 88 2 Mt_X2_chosenBy 1 := ⟨cb_X2_chosenBy, Or.inl (k_inWS 635 (by decide +kernel) (by decide)), ci_X2_chosenBy, ce_X2_chosenBy, _, by decide, rfl, rfl⟩
theorem cb_X1_receive : k_cb Mt_X1_receive 1 := ⟨k_inWS 675 (by decide +kernel) (by decide), k_inWS 3 (by decide +kernel) (by decide), ⟨by decide +kernel, by decide +kernel⟩, by decide +kernel, by decide⟩
theorem ci_X1_receive : Cond.instanceMethod yX1_receive ∈ k_WS := k_inWS 674 (by decide +kernel) (by decide)
theorem ce_X1_receive : Cond.selects RX1 yX1_receive yX1_receive ∈ k_WS := k_inPr (q := (yX1_receive, 15)) (by decide +kernel) (by decide +kernel)
theorem cv_X2_92 : k_CV RX2 92 1 Mt_X1_receive 1 := ⟨cb_X1_receive, Or.inr ⟨"BeggarsChoose", k_inNW 672 (by decide +kernel) (by decide)⟩, ci_X1_receive, ce_X1_receive, _, by decide, rfl, rfl⟩
theorem fl_X2_95 : k_FL RX2 95 0 4 := ⟨_, cl_X0, by decide, Or.inr ⟨"BeggarsChoose", k_inNW 128 (by decide +kernel) (by decide)⟩⟩
theorem cb_X2_greatestFace : k_cb Mt_X2_greatestFace 0 := ⟨k_inWS 642 (by decide +kernel) (by decide), k_inWS 2 (by decide +kernel) (by decide), ⟨by decide +kernel, by decide +kernel⟩, by decide +kernel, by decide⟩
theorem ci_X2_greatestFace : Cond.instanceMethod yX2_greatestFace ∈ k_WS := k_inWS 641 (by decide +kernel) (by decide)
theorem ce_X2_greatestFace : Cond.selects RX2 yX2_greatestFace yX2_greatestFace ∈ k_WS := k_inPr (q := (yX2_greatestFace, 8)) (by decide +kernel) (by decide +kernel)
theorem cv_X2_98 : k_CV RX2 98 2 Mt_X2_greatestFace 0 := ⟨cb_X2_greatestFace, Or.inl (k_inWS 639 (by decide +kernel) (by decide)), ci_X2_greatestFace, ce_X2_greatestFace, _, by decide, rfl, rfl⟩
theorem cb_X2_leastFace : k_cb Mt_X2_leastFace 0 := ⟨k_inWS 650 (by decide +kernel) (by decide), k_inWS 2 (by decide +kernel) (by decide), ⟨by decide +kernel, by decide +kernel⟩, by decide +kernel, by decide⟩
theorem ci_X2_leastFace : Cond.instanceMethod yX2_leastFace ∈ k_WS := k_inWS 649 (by decide +kernel) (by decide)
theorem ce_X2_leastFace : Cond.selects RX2 yX2_leastFace yX2_leastFace ∈ k_WS := k_inPr (q := (yX2_leastFace, 8)) (by decide +kernel) (by decide +kernel)
theorem cv_X2_102 : k_CV RX2 102 2 Mt_X2_leastFace 0 := ⟨cb_X2_leastFace, Or.inl (k_inWS 647 (by decide +kernel) (by decide)), ci_X2_leastFace, ce_X2_leastFace, _, by decide, rfl, rfl⟩
theorem cb_X2_fewestPicked : k_cb Mt_X2_fewestPicked 0 := ⟨k_inWS 654 (by decide +kernel) (by decide), k_inWS 2 (by decide +kernel) (by decide), ⟨by decide +kernel, by decide +kernel⟩, by decide +kernel, by decide⟩
theorem ci_X2_fewestPicked : Cond.instanceMethod yX2_fewestPicked ∈ k_WS := k_inWS 653 (by decide +kernel) (by decide)
theorem ce_X2_fewestPicked : Cond.selects RX2 yX2_fewestPicked yX2_fewestPicked ∈ k_WS := k_inPr (q := (yX2_fewestPicked, 8)) (by decide +kernel) (by decide +kernel)
theorem cv_X2_105 : k_CV RX2 105 2 Mt_X2_fewestPicked 0 := ⟨cb_X2_fewestPicked, Or.inl (k_inWS 651 (by decide +kernel) (by decide)), ci_X2_fewestPicked, ce_X2_fewestPicked, _, by decide, rfl, rfl⟩
theorem cb_X2_blindPlace : k_cb Mt_X2_blindPlace 2 := ⟨k_inWS 662 (by decide +kernel) (by decide), k_inWS 2 (by decide +kernel) (by decide), ⟨by decide +kernel, by decide +kernel⟩, by decide +kernel, by decide⟩
theorem ci_X2_blindPlace : Cond.instanceMethod yX2_blindPlace ∈ k_WS := k_inWS 661 (by decide +kernel) (by decide)
theorem ce_X2_blindPlace : Cond.selects RX2 yX2_blindPlace yX2_blindPlace ∈ k_WS := k_inPr (q := (yX2_blindPlace, 8)) (by decide +kernel) (by decide +kernel)
theorem cv_X2_108 : k_CV RX2 108 2 Mt_X2_blindPlace 2 := ⟨cb_X2_blindPlace, Or.inl (k_inWS 659 (by decide +kernel) (by decide)), ci_X2_blindPlace, ce_X2_blindPlace, _, by decide, rfl, rfl⟩
theorem cb_X2_openAt : k_cb Mt_X2_openAt 1 := ⟨k_inWS 666 (by decide +kernel) (by decide), k_inWS 2 (by decide +kernel) (by decide), ⟨by decide +kernel, by decide +kernel⟩, by decide +kernel, by decide⟩
theorem ci_X2_openAt : Cond.instanceMethod yX2_openAt ∈ k_WS := k_inWS 665 (by decide +kernel) (by decide)
theorem ce_X2_openAt : Cond.selects RX2 yX2_openAt yX2_openAt ∈ k_WS := k_inPr (q := (yX2_openAt, 8)) (by decide +kernel) (by decide +kernel)
theorem cv_X2_112 : k_CV RX2 112 2 Mt_X2_openAt 1 := ⟨cb_X2_openAt, Or.inl (k_inWS 663 (by decide +kernel) (by decide)), ci_X2_openAt, ce_X2_openAt, _, by decide, rfl, rfl⟩
theorem cb_X2_canStay : k_cb Mt_X2_canStay 1 := ⟨k_inWS 670 (by decide +kernel) (by decide), k_inWS 2 (by decide +kernel) (by decide), ⟨by decide +kernel, by decide +kernel⟩, by decide +kernel, by decide⟩
theorem ci_X2_canStay : Cond.instanceMethod yX2_canStay ∈ k_WS := k_inWS 669 (by decide +kernel) (by decide)
theorem ce_X2_canStay : Cond.selects RX2 yX2_canStay yX2_canStay ∈ k_WS := k_inPr (q := (yX2_canStay, 8)) (by decide +kernel) (by decide +kernel)
theorem cv_X2_116 : k_CV RX2 116 2 Mt_X2_canStay 1 := ⟨cb_X2_canStay, Or.inl (k_inWS 667 (by decide +kernel) (by decide)), ci_X2_canStay, ce_X2_canStay, _, by decide, rfl, rfl⟩
theorem fl_X2_120 : k_FL RX2 120 0 5 := ⟨_, cl_X0, by decide, Or.inr ⟨"BeggarsChoose", k_inNW 131 (by decide +kernel) (by decide)⟩⟩
theorem cv_X2_123 : k_CV RX2 123 2 Mt_X2_citizenAt 1 := ⟨cb_X2_citizenAt, Or.inl (k_inWS 671 (by decide +kernel) (by decide)), ci_X2_citizenAt, ce_X2_citizenAt, _, by decide, rfl, rfl⟩
theorem fl_X2_126 : k_FL RX2 126 1 9 := ⟨_, cl_X1, by decide, Or.inr ⟨"BeggarsChoose", k_inNW 66 (by decide +kernel) (by decide)⟩⟩
theorem fl_X2_129 : k_FL RX2 129 1 11 := ⟨_, cl_X1, by decide, Or.inr ⟨"BeggarsChoose", k_inNW 71 (by decide +kernel) (by decide)⟩⟩
theorem fl_X2_132 : k_FL RX2 132 0 0 := ⟨_, cl_X0, by decide, Or.inr ⟨"BeggarsChoose", k_inNW 115 (by decide +kernel) (by decide)⟩⟩
theorem cv_X2_135 : k_CV RX2 135 2 Mt_X2_goBy 0 := ⟨cb_X2_goBy, Or.inl (k_inWS 704 (by decide +kernel) (by decide)), ci_X2_goBy, ce_X2_goBy, _, by decide, rfl, rfl⟩
theorem cb_X2_countUnkept : k_cb Mt_X2_countUnkept 0 := ⟨k_inWS 708 (by decide +kernel) (by decide), k_inWS 2 (by decide +kernel) (by decide), ⟨by decide +kernel, by decide +kernel⟩, by decide +kernel, by decide⟩
theorem ci_X2_countUnkept : Cond.instanceMethod yX2_countUnkept ∈ k_WS := k_inWS 707 (by decide +kernel) (by decide)
theorem ce_X2_countUnkept : Cond.selects RX2 yX2_countUnkept yX2_countUnkept ∈ k_WS := k_inPr (q := (yX2_countUnkept, 8)) (by decide +kernel) (by decide +kernel)
theorem cv_X2_138 : k_CV RX2 138 2 Mt_X2_countUnkept 0 := ⟨cb_X2_countUnkept, Or.inl (k_inWS 705 (by decide +kernel) (by decide)), ci_X2_countUnkept, ce_X2_countUnkept, _, by decide, rfl, rfl⟩
theorem cb_X1_endMorning : k_cb Mt_X1_endMorning 0 := ⟨k_inWS 712 (by decide +kernel) (by decide), k_inWS 3 (by decide +kernel) (by decide), ⟨by decide +kernel, by decide +kernel⟩, by decide +kernel, by decide⟩
theorem ci_X1_endMorning : Cond.instanceMethod yX1_endMorning ∈ k_WS := k_inWS 711 (by decide +kernel) (by decide)
theorem ce_X1_endMorning : Cond.selects RX1 yX1_endMorning yX1_endMorning ∈ k_WS := k_inPr (q := (yX1_endMorning, 15)) (by decide +kernel) (by decide +kernel)
theorem cv_X2_141 : k_CV RX2 141 1 Mt_X1_endMorning 0 := ⟨cb_X1_endMorning, Or.inr ⟨"BeggarsChoose", k_inNW 709 (by decide +kernel) (by decide)⟩, ci_X1_endMorning, ce_X1_endMorning, _, by decide, rfl, rfl⟩
theorem cb_X0_endMorning : k_cb Mt_X0_endMorning 0 := ⟨k_inWS 716 (by decide +kernel) (by decide), k_inWS 4 (by decide +kernel) (by decide), ⟨by decide +kernel, by decide +kernel⟩, by decide +kernel, by decide⟩
theorem ci_X0_endMorning : Cond.instanceMethod yX0_endMorning ∈ k_WS := k_inWS 715 (by decide +kernel) (by decide)
theorem ce_X0_endMorning : Cond.selects RX0 yX0_endMorning yX0_endMorning ∈ k_WS := k_inPr (q := (yX0_endMorning, 12)) (by decide +kernel) (by decide +kernel)
theorem cv_X2_144 : k_CV RX2 144 0 Mt_X0_endMorning 0 := ⟨cb_X0_endMorning, Or.inr ⟨"BeggarsChoose", k_inNW 713 (by decide +kernel) (by decide)⟩, ci_X0_endMorning, ce_X0_endMorning, _, by decide, rfl, rfl⟩
theorem cv_X2_145 : k_CV RX2 145 2 Mt_X2_passMorning 0 := ⟨cb_X2_passMorning, Or.inl (k_inWS 700 (by decide +kernel) (by decide)), ci_X2_passMorning, ce_X2_passMorning, _, by decide, rfl, rfl⟩
theorem lc_X2_148 : Cond.constant RX2 148 1103515245 ∈ k_WS := k_inWS 839 (by decide +kernel) (by decide)
theorem cb_X2_draw : k_cb Mt_X2_draw 1 := ⟨k_inWS 838 (by decide +kernel) (by decide), k_inWS 2 (by decide +kernel) (by decide), ⟨by decide +kernel, by decide +kernel⟩, by decide +kernel, by decide⟩
theorem ci_X2_draw : Cond.instanceMethod yX2_draw ∈ k_WS := k_inWS 837 (by decide +kernel) (by decide)
theorem ce_X2_draw : Cond.selects RX2 yX2_draw yX2_draw ∈ k_WS := k_inPr (q := (yX2_draw, 8)) (by decide +kernel) (by decide +kernel)
theorem cv_X2_149 : k_CV RX2 149 2 Mt_X2_draw 1 := ⟨cb_X2_draw, Or.inl (k_inWS 835 (by decide +kernel) (by decide)), ci_X2_draw, ce_X2_draw, _, by decide, rfl, rfl⟩
theorem fl_X2_153 : k_FL RX2 153 1 2 := ⟨_, cl_X1, by decide, Or.inr ⟨"BeggarsChoose", k_inNW 46 (by decide +kernel) (by decide)⟩⟩
theorem pl_X2_153 : k_PL RX2 153 1 2 .boolean false := ⟨_, cl_X1, by decide, Or.inr ⟨rfl, "BeggarsChoose", k_inNW 46 (by decide +kernel) (by decide)⟩, rfl, by decide +kernel, fun _ => by contradiction⟩
theorem fl_X2_156 : k_FL RX2 156 1 6 := ⟨_, cl_X1, by decide, Or.inr ⟨"BeggarsChoose", k_inNW 58 (by decide +kernel) (by decide)⟩⟩
theorem pl_X2_156 : k_PL RX2 156 1 6 .int false := ⟨_, cl_X1, by decide, Or.inr ⟨rfl, "BeggarsChoose", k_inNW 58 (by decide +kernel) (by decide)⟩, rfl, by decide +kernel, fun _ => by contradiction⟩
theorem fl_X2_159 : k_FL RX2 159 1 10 := ⟨_, cl_X1, by decide, Or.inr ⟨"BeggarsChoose", k_inNW 69 (by decide +kernel) (by decide)⟩⟩
theorem cv_X2_162 : k_CV RX2 162 2 Mt_X2_beggarAt 1 := ⟨cb_X2_beggarAt, Or.inl (k_inWS 792 (by decide +kernel) (by decide)), ci_X2_beggarAt, ce_X2_beggarAt, _, by decide, rfl, rfl⟩
theorem pl_X2_95 : k_PL RX2 95 0 4 .int false := ⟨_, cl_X0, by decide, Or.inr ⟨rfl, "BeggarsChoose", k_inNW 128 (by decide +kernel) (by decide)⟩, rfl, by decide +kernel, fun _ => by contradiction⟩
theorem fl_X2_166 : k_FL RX2 166 1 13 := ⟨_, cl_X1, by decide, Or.inr ⟨"BeggarsChoose", k_inNW 75 (by decide +kernel) (by decide)⟩⟩
theorem fl_X2_169 : k_FL RX2 169 1 0 := ⟨_, cl_X1, by decide, Or.inr ⟨"BeggarsChoose", k_inNW 40 (by decide +kernel) (by decide)⟩⟩
theorem cb_X5_getInt : k_cb Mt_X5_getInt 1 := ⟨k_inWS 497 (by decide +kernel) (by decide), k_inWS 7 (by decide +kernel) (by decide), ⟨by decide +kernel, by decide +kernel⟩, by decide +kernel, by decide⟩
theorem ci_X5_getInt : Cond.instanceMethod yX5_getInt ∈ k_WS := k_inWS 496 (by decide +kernel) (by decide)
theorem ce_X5_getInt : Cond.selects RX5 yX5_getInt yX5_getInt ∈ k_WS := k_inPr (q := (yX5_getInt, 4)) (by decide +kernel) (by decide +kernel)
theorem cv_X2_170 : k_CV RX2 170 5 Mt_X5_getInt 1 := ⟨cb_X5_getInt, Or.inr ⟨"BeggarsChoose", k_inNW 822 (by decide +kernel) (by decide)⟩, ci_X5_getInt, ce_X5_getInt, _, by decide, rfl, rfl⟩
theorem fl_X2_175 : k_FL RX2 175 0 3 := ⟨_, cl_X0, by decide, Or.inr ⟨"BeggarsChoose", k_inNW 125 (by decide +kernel) (by decide)⟩⟩
theorem fl_X2_178 : k_FL RX2 178 1 14 := ⟨_, cl_X1, by decide, Or.inr ⟨"BeggarsChoose", k_inNW 76 (by decide +kernel) (by decide)⟩⟩
theorem pl_X2_178 : k_PL RX2 178 1 14 .int false := ⟨_, cl_X1, by decide, Or.inr ⟨rfl, "BeggarsChoose", k_inNW 76 (by decide +kernel) (by decide)⟩, rfl, by decide +kernel, fun _ => by contradiction⟩
theorem fl_X2_181 : k_FL RX2 181 2 7 := ⟨_, cl_X2, by decide, Or.inl (k_inWS 189 (by decide +kernel) (by decide))⟩
theorem pl_X2_181 : k_PL RX2 181 2 7 .int false := ⟨_, cl_X2, by decide, Or.inl (k_inWS 189 (by decide +kernel) (by decide)), rfl, by decide +kernel, fun _ => by contradiction⟩
theorem fl_X2_184 : k_FL RX2 184 2 6 := ⟨_, cl_X2, by decide, Or.inl (k_inWS 188 (by decide +kernel) (by decide))⟩
theorem pl_X2_184 : k_PL RX2 184 2 6 .int false := ⟨_, cl_X2, by decide, Or.inl (k_inWS 188 (by decide +kernel) (by decide)), rfl, by decide +kernel, fun _ => by contradiction⟩
theorem cb_X2_partFrom : k_cb Mt_X2_partFrom 2 := ⟨k_inWS 742 (by decide +kernel) (by decide), k_inWS 2 (by decide +kernel) (by decide), ⟨by decide +kernel, by decide +kernel⟩, by decide +kernel, by decide⟩
theorem ci_X2_partFrom : Cond.instanceMethod yX2_partFrom ∈ k_WS := k_inWS 741 (by decide +kernel) (by decide)
theorem ce_X2_partFrom : Cond.selects RX2 yX2_partFrom yX2_partFrom ∈ k_WS := k_inPr (q := (yX2_partFrom, 8)) (by decide +kernel) (by decide +kernel)
theorem cv_X2_187 : k_CV RX2 187 2 Mt_X2_partFrom 2 := ⟨cb_X2_partFrom, Or.inl (k_inWS 739 (by decide +kernel) (by decide)), ci_X2_partFrom, ce_X2_partFrom, _, by decide, rfl, rfl⟩
theorem cb_X2_notePart : k_cb Mt_X2_notePart 1 := ⟨k_inWS 746 (by decide +kernel) (by decide), k_inWS 2 (by decide +kernel) (by decide), ⟨by decide +kernel, by decide +kernel⟩, by decide +kernel, by decide⟩
theorem ci_X2_notePart : Cond.instanceMethod yX2_notePart ∈ k_WS := k_inWS 745 (by decide +kernel) (by decide)
theorem ce_X2_notePart : Cond.selects RX2 yX2_notePart yX2_notePart ∈ k_WS := k_inPr (q := (yX2_notePart, 8)) (by decide +kernel) (by decide +kernel)
theorem cv_X2_190 : k_CV RX2 190 2 Mt_X2_notePart 1 := ⟨cb_X2_notePart, Or.inl (k_inWS 743 (by decide +kernel) (by decide)), ci_X2_notePart, ce_X2_notePart, _, by decide, rfl, rfl⟩
theorem cb_X2_tryEach : k_cb Mt_X2_tryEach 2 := ⟨k_inWS 750 (by decide +kernel) (by decide), k_inWS 2 (by decide +kernel) (by decide), ⟨by decide +kernel, by decide +kernel⟩, by decide +kernel, by decide⟩
theorem ci_X2_tryEach : Cond.instanceMethod yX2_tryEach ∈ k_WS := k_inWS 749 (by decide +kernel) (by decide)
theorem ce_X2_tryEach : Cond.selects RX2 yX2_tryEach yX2_tryEach ∈ k_WS := k_inPr (q := (yX2_tryEach, 8)) (by decide +kernel) (by decide +kernel)
theorem cv_X2_193 : k_CV RX2 193 2 Mt_X2_tryEach 2 := ⟨cb_X2_tryEach, Or.inl (k_inWS 747 (by decide +kernel) (by decide)), ci_X2_tryEach, ce_X2_tryEach, _, by decide, rfl, rfl⟩
theorem fl_X2_197 : k_FL RX2 197 1 5 := ⟨_, cl_X1, by decide, Or.inr ⟨"BeggarsChoose", k_inNW 55 (by decide +kernel) (by decide)⟩⟩
theorem cm_X2_200 : Cond.methodLink RX2 200 Lib.Math.max.name ∈ k_WS := k_inWS 751 (by decide +kernel) (by decide)
theorem fl_X2_206 : k_FL RX2 206 0 9 := ⟨_, cl_X0, by decide, Or.inr ⟨"BeggarsChoose", k_inNW 143 (by decide +kernel) (by decide)⟩⟩
theorem pl_X2_206 : k_PL RX2 206 0 9 .int false := ⟨_, cl_X0, by decide, Or.inr ⟨rfl, "BeggarsChoose", k_inNW 143 (by decide +kernel) (by decide)⟩, rfl, by decide +kernel, fun _ => by contradiction⟩
theorem fl_X2_209 : k_FL RX2 209 0 10 := ⟨_, cl_X0, by decide, Or.inr ⟨"BeggarsChoose", k_inNW 146 (by decide +kernel) (by decide)⟩⟩
theorem pl_X2_209 : k_PL RX2 209 0 10 .int false := ⟨_, cl_X0, by decide, Or.inr ⟨rfl, "BeggarsChoose", k_inNW 146 (by decide +kernel) (by decide)⟩, rfl, by decide +kernel, fun _ => by contradiction⟩
theorem fl_X2_212 : k_FL RX2 212 0 11 := ⟨_, cl_X0, by decide, Or.inr ⟨"BeggarsChoose", k_inNW 149 (by decide +kernel) (by decide)⟩⟩
theorem pl_X2_212 : k_PL RX2 212 0 11 .int false := ⟨_, cl_X0, by decide, Or.inr ⟨rfl, "BeggarsChoose", k_inNW 149 (by decide +kernel) (by decide)⟩, rfl, by decide +kernel, fun _ => by contradiction⟩
theorem cb_X2_moveAll : k_cb Mt_X2_moveAll 0 := ⟨k_inWS 767 (by decide +kernel) (by decide), k_inWS 2 (by decide +kernel) (by decide), ⟨by decide +kernel, by decide +kernel⟩, by decide +kernel, by decide⟩
theorem ci_X2_moveAll : Cond.instanceMethod yX2_moveAll ∈ k_WS := k_inWS 766 (by decide +kernel) (by decide)
theorem ce_X2_moveAll : Cond.selects RX2 yX2_moveAll yX2_moveAll ∈ k_WS := k_inPr (q := (yX2_moveAll, 8)) (by decide +kernel) (by decide +kernel)
theorem cv_X2_215 : k_CV RX2 215 2 Mt_X2_moveAll 0 := ⟨cb_X2_moveAll, Or.inl (k_inWS 764 (by decide +kernel) (by decide)), ci_X2_moveAll, ce_X2_moveAll, _, by decide, rfl, rfl⟩
theorem cb_X2_moveOne : k_cb Mt_X2_moveOne 1 := ⟨k_inWS 771 (by decide +kernel) (by decide), k_inWS 2 (by decide +kernel) (by decide), ⟨by decide +kernel, by decide +kernel⟩, by decide +kernel, by decide⟩
theorem ci_X2_moveOne : Cond.instanceMethod yX2_moveOne ∈ k_WS := k_inWS 770 (by decide +kernel) (by decide)
theorem ce_X2_moveOne : Cond.selects RX2 yX2_moveOne yX2_moveOne ∈ k_WS := k_inPr (q := (yX2_moveOne, 8)) (by decide +kernel) (by decide +kernel)
theorem cv_X2_218 : k_CV RX2 218 2 Mt_X2_moveOne 1 := ⟨cb_X2_moveOne, Or.inl (k_inWS 768 (by decide +kernel) (by decide)), ci_X2_moveOne, ce_X2_moveOne, _, by decide, rfl, rfl⟩
theorem cb_X1_share : k_cb Mt_X1_share 2 := ⟨k_inWS 775 (by decide +kernel) (by decide), k_inWS 3 (by decide +kernel) (by decide), ⟨by decide +kernel, by decide +kernel⟩, by decide +kernel, by decide⟩
theorem ci_X1_share : Cond.instanceMethod yX1_share ∈ k_WS := k_inWS 774 (by decide +kernel) (by decide)
theorem ce_X1_share : Cond.selects RX1 yX1_share yX1_share ∈ k_WS := k_inPr (q := (yX1_share, 15)) (by decide +kernel) (by decide +kernel)
theorem cv_X2_221 : k_CV RX2 221 1 Mt_X1_share 2 := ⟨cb_X1_share, Or.inr ⟨"BeggarsChoose", k_inNW 772 (by decide +kernel) (by decide)⟩, ci_X1_share, ce_X1_share, _, by decide, rfl, rfl⟩
theorem fl_X3_9 : k_FL RX3 9 3 0 := ⟨_, cl_X3, by decide, Or.inl (k_inWS 236 (by decide +kernel) (by decide))⟩
theorem pl_X3_9 : k_PL RX3 9 3 0 (.array .int) true := ⟨_, cl_X3, by decide, Or.inl (k_inWS 236 (by decide +kernel) (by decide)), rfl, by decide +kernel, fun _ => rfl⟩
theorem fl_X3_15 : k_FL RX3 15 3 1 := ⟨_, cl_X3, by decide, Or.inl (k_inWS 237 (by decide +kernel) (by decide))⟩
theorem pl_X3_15 : k_PL RX3 15 3 1 .int false := ⟨_, cl_X3, by decide, Or.inl (k_inWS 237 (by decide +kernel) (by decide)), rfl, by decide +kernel, fun _ => by contradiction⟩
theorem fl_X3_19 : k_FL RX3 19 1 3 := ⟨_, cl_X1, by decide, Or.inr ⟨"BeggarsChoose", k_inNW 48 (by decide +kernel) (by decide)⟩⟩
theorem fl_X3_24 : k_FL RX3 24 3 2 := ⟨_, cl_X3, by decide, Or.inl (k_inWS 239 (by decide +kernel) (by decide))⟩
theorem pl_X3_24 : k_PL RX3 24 3 2 .int false := ⟨_, cl_X3, by decide, Or.inl (k_inWS 239 (by decide +kernel) (by decide)), rfl, by decide +kernel, fun _ => by contradiction⟩
theorem fl_X3_27 : k_FL RX3 27 1 0 := ⟨_, cl_X1, by decide, Or.inr ⟨"BeggarsChoose", k_inNW 39 (by decide +kernel) (by decide)⟩⟩
theorem fl_X3_30 : k_FL RX3 30 3 3 := ⟨_, cl_X3, by decide, Or.inl (k_inWS 240 (by decide +kernel) (by decide))⟩
theorem pl_X3_30 : k_PL RX3 30 3 3 .int false := ⟨_, cl_X3, by decide, Or.inl (k_inWS 240 (by decide +kernel) (by decide)), rfl, by decide +kernel, fun _ => by contradiction⟩
theorem fl_X3_33 : k_FL RX3 33 1 4 := ⟨_, cl_X1, by decide, Or.inr ⟨"BeggarsChoose", k_inNW 51 (by decide +kernel) (by decide)⟩⟩
theorem fl_X3_36 : k_FL RX3 36 3 4 := ⟨_, cl_X3, by decide, Or.inl (k_inWS 241 (by decide +kernel) (by decide))⟩
theorem pl_X3_36 : k_PL RX3 36 3 4 .int false := ⟨_, cl_X3, by decide, Or.inl (k_inWS 241 (by decide +kernel) (by decide)), rfl, by decide +kernel, fun _ => by contradiction⟩
theorem cb_X3_run : k_cb Mt_X3_run 4 := ⟨k_inWS 860 (by decide +kernel) (by decide), k_inWS 6 (by decide +kernel) (by decide), ⟨by decide +kernel, by decide +kernel⟩, by decide +kernel, by decide⟩
theorem ci_X3_run : Cond.instanceMethod yX3_run ∈ k_WS := k_inWS 859 (by decide +kernel) (by decide)
theorem ce_X3_run : Cond.selects RX3 yX3_run yX3_run ∈ k_WS := k_inPr (q := (yX3_run, 5)) (by decide +kernel) (by decide +kernel)
theorem cv_X3_39 : k_CV RX3 39 3 Mt_X3_run 4 := ⟨cb_X3_run, Or.inl (k_inWS 857 (by decide +kernel) (by decide)), ci_X3_run, ce_X3_run, _, by decide, rfl, rfl⟩
theorem cb_X3_ownerOf : k_cb Mt_X3_ownerOf 2 := ⟨k_inWS 863 (by decide +kernel) (by decide), k_inWS 6 (by decide +kernel) (by decide), ⟨by decide +kernel, by decide +kernel⟩, by decide +kernel, by decide⟩
theorem cs_X3_43 : k_CS RX3 43 Mt_X3_ownerOf 2 := ⟨cb_X3_ownerOf, Or.inl (k_inWS 861 (by decide +kernel) (by decide)), k_inWS 862 (by decide +kernel) (by decide)⟩
theorem cb_X3_bodyOf : k_cb Mt_X3_bodyOf 2 := ⟨k_inWS 866 (by decide +kernel) (by decide), k_inWS 6 (by decide +kernel) (by decide), ⟨by decide +kernel, by decide +kernel⟩, by decide +kernel, by decide⟩
theorem cs_X3_47 : k_CS RX3 47 Mt_X3_bodyOf 2 := ⟨cb_X3_bodyOf, Or.inl (k_inWS 864 (by decide +kernel) (by decide)), k_inWS 865 (by decide +kernel) (by decide)⟩
theorem cb_X3_begin : k_cb Mt_X3_begin 1 := ⟨k_inWS 873 (by decide +kernel) (by decide), k_inWS 6 (by decide +kernel) (by decide), ⟨by decide +kernel, by decide +kernel⟩, by decide +kernel, by decide⟩
theorem ci_X3_begin : Cond.instanceMethod yX3_begin ∈ k_WS := k_inWS 872 (by decide +kernel) (by decide)
theorem ce_X3_begin : Cond.selects RX3 yX3_begin yX3_begin ∈ k_WS := k_inPr (q := (yX3_begin, 5)) (by decide +kernel) (by decide +kernel)
theorem cv_X3_50 : k_CV RX3 50 3 Mt_X3_begin 1 := ⟨cb_X3_begin, Or.inl (k_inWS 870 (by decide +kernel) (by decide)), ci_X3_begin, ce_X3_begin, _, by decide, rfl, rfl⟩
theorem cs_X3_54 : k_CS RX3 54 Mt_X6_kindAbove 1 := ⟨cb_X6_kindAbove, Or.inr ⟨"BeggarsChoose", k_inNW 869 (by decide +kernel) (by decide)⟩, k_inWS 401 (by decide +kernel) (by decide)⟩
theorem cb_X3_answer : k_cb Mt_X3_answer 4 := ⟨k_inWS 877 (by decide +kernel) (by decide), k_inWS 6 (by decide +kernel) (by decide), ⟨by decide +kernel, by decide +kernel⟩, by decide +kernel, by decide⟩
theorem ci_X3_answer : Cond.instanceMethod yX3_answer ∈ k_WS := k_inWS 876 (by decide +kernel) (by decide)
theorem ce_X3_answer : Cond.selects RX3 yX3_answer yX3_answer ∈ k_WS := k_inPr (q := (yX3_answer, 5)) (by decide +kernel) (by decide +kernel)
theorem cv_X3_58 : k_CV RX3 58 3 Mt_X3_answer 4 := ⟨cb_X3_answer, Or.inl (k_inWS 874 (by decide +kernel) (by decide)), ci_X3_answer, ce_X3_answer, _, by decide, rfl, rfl⟩
theorem gs_X3_61 : Cond.fieldLinkNest RX3 61 RX6 "BODIES" "[I" "BeggarsChoose" ∈ k_NW := k_inNW 867 (by decide +kernel) (by decide)
theorem fl_X4_9 : k_FL RX4 9 4 0 := ⟨_, cl_X4, by decide, Or.inl (k_inWS 215 (by decide +kernel) (by decide))⟩
theorem pl_X4_9 : k_PL RX4 9 4 0 (.array .int) true := ⟨_, cl_X4, by decide, Or.inl (k_inWS 215 (by decide +kernel) (by decide)), rfl, by decide +kernel, fun _ => rfl⟩
theorem fl_X4_15 : k_FL RX4 15 4 3 := ⟨_, cl_X4, by decide, Or.inl (k_inWS 218 (by decide +kernel) (by decide))⟩
theorem pl_X4_15 : k_PL RX4 15 4 3 .int false := ⟨_, cl_X4, by decide, Or.inl (k_inWS 218 (by decide +kernel) (by decide)), rfl, by decide +kernel, fun _ => by contradiction⟩
theorem fl_X4_19 : k_FL RX4 19 5 2 := ⟨_, cl_X5, by decide, Or.inr ⟨"BeggarsChoose", k_inNW 261 (by decide +kernel) (by decide)⟩⟩
theorem fl_X4_24 : k_FL RX4 24 4 1 := ⟨_, cl_X4, by decide, Or.inl (k_inWS 216 (by decide +kernel) (by decide))⟩
theorem pl_X4_24 : k_PL RX4 24 4 1 .int false := ⟨_, cl_X4, by decide, Or.inl (k_inWS 216 (by decide +kernel) (by decide)), rfl, by decide +kernel, fun _ => by contradiction⟩
theorem cv_X4_25 : k_CV RX4 25 5 Mt_X5_getInt 1 := ⟨cb_X5_getInt, Or.inr ⟨"BeggarsChoose", k_inNW 494 (by decide +kernel) (by decide)⟩, ci_X5_getInt, ce_X5_getInt, _, by decide, rfl, rfl⟩
theorem fl_X4_29 : k_FL RX4 29 4 2 := ⟨_, cl_X4, by decide, Or.inl (k_inWS 217 (by decide +kernel) (by decide))⟩
theorem pl_X4_29 : k_PL RX4 29 4 2 .int false := ⟨_, cl_X4, by decide, Or.inl (k_inWS 217 (by decide +kernel) (by decide)), rfl, by decide +kernel, fun _ => by contradiction⟩
theorem cb_X4_readItem : k_cb Mt_X4_readItem 1 := ⟨k_inWS 502 (by decide +kernel) (by decide), k_inWS 5 (by decide +kernel) (by decide), ⟨by decide +kernel, by decide +kernel⟩, by decide +kernel, by decide⟩
theorem ci_X4_readItem : Cond.instanceMethod yX4_readItem ∈ k_WS := k_inWS 501 (by decide +kernel) (by decide)
theorem ce_X4_readItem : Cond.selects RX4 yX4_readItem yX4_readItem ∈ k_WS := k_inPr (q := (yX4_readItem, 4)) (by decide +kernel) (by decide +kernel)
theorem cv_X4_32 : k_CV RX4 32 4 Mt_X4_readItem 1 := ⟨cb_X4_readItem, Or.inl (k_inWS 499 (by decide +kernel) (by decide)), ci_X4_readItem, ce_X4_readItem, _, by decide, rfl, rfl⟩
theorem cb_X4_readSign : k_cb Mt_X4_readSign 1 := ⟨k_inWS 592 (by decide +kernel) (by decide), k_inWS 5 (by decide +kernel) (by decide), ⟨by decide +kernel, by decide +kernel⟩, by decide +kernel, by decide⟩
theorem ci_X4_readSign : Cond.instanceMethod yX4_readSign ∈ k_WS := k_inWS 591 (by decide +kernel) (by decide)
theorem ce_X4_readSign : Cond.selects RX4 yX4_readSign yX4_readSign ∈ k_WS := k_inPr (q := (yX4_readSign, 4)) (by decide +kernel) (by decide +kernel)
theorem cv_X4_36 : k_CV RX4 36 4 Mt_X4_readSign 1 := ⟨cb_X4_readSign, Or.inl (k_inWS 589 (by decide +kernel) (by decide)), ci_X4_readSign, ce_X4_readSign, _, by decide, rfl, rfl⟩
theorem cb_X4_readWord : k_cb Mt_X4_readWord 0 := ⟨k_inWS 506 (by decide +kernel) (by decide), k_inWS 5 (by decide +kernel) (by decide), ⟨by decide +kernel, by decide +kernel⟩, by decide +kernel, by decide⟩
theorem ci_X4_readWord : Cond.instanceMethod yX4_readWord ∈ k_WS := k_inWS 505 (by decide +kernel) (by decide)
theorem ce_X4_readWord : Cond.selects RX4 yX4_readWord yX4_readWord ∈ k_WS := k_inPr (q := (yX4_readWord, 4)) (by decide +kernel) (by decide +kernel)
theorem cv_X4_40 : k_CV RX4 40 4 Mt_X4_readWord 0 := ⟨cb_X4_readWord, Or.inl (k_inWS 503 (by decide +kernel) (by decide)), ci_X4_readWord, ce_X4_readWord, _, by decide, rfl, rfl⟩
theorem fl_X4_44 : k_FL RX4 44 2 2 := ⟨_, cl_X2, by decide, Or.inr ⟨"BeggarsChoose", k_inNW 179 (by decide +kernel) (by decide)⟩⟩
theorem cb_X4_hasRoom : k_cb Mt_X4_hasRoom 2 := ⟨k_inWS 580 (by decide +kernel) (by decide), k_inWS 5 (by decide +kernel) (by decide), ⟨by decide +kernel, by decide +kernel⟩, by decide +kernel, by decide⟩
theorem ci_X4_hasRoom : Cond.instanceMethod yX4_hasRoom ∈ k_WS := k_inWS 579 (by decide +kernel) (by decide)
theorem ce_X4_hasRoom : Cond.selects RX4 yX4_hasRoom yX4_hasRoom ∈ k_WS := k_inPr (q := (yX4_hasRoom, 4)) (by decide +kernel) (by decide +kernel)
theorem cv_X4_49 : k_CV RX4 49 4 Mt_X4_hasRoom 2 := ⟨cb_X4_hasRoom, Or.inl (k_inWS 577 (by decide +kernel) (by decide)), ci_X4_hasRoom, ce_X4_hasRoom, _, by decide, rfl, rfl⟩
theorem cb_X4_readCitizen : k_cb Mt_X4_readCitizen 1 := ⟨k_inWS 584 (by decide +kernel) (by decide), k_inWS 5 (by decide +kernel) (by decide), ⟨by decide +kernel, by decide +kernel⟩, by decide +kernel, by decide⟩
theorem ci_X4_readCitizen : Cond.instanceMethod yX4_readCitizen ∈ k_WS := k_inWS 583 (by decide +kernel) (by decide)
theorem ce_X4_readCitizen : Cond.selects RX4 yX4_readCitizen yX4_readCitizen ∈ k_WS := k_inPr (q := (yX4_readCitizen, 4)) (by decide +kernel) (by decide +kernel)
theorem cv_X4_53 : k_CV RX4 53 4 Mt_X4_readCitizen 1 := ⟨cb_X4_readCitizen, Or.inl (k_inWS 581 (by decide +kernel) (by decide)), ci_X4_readCitizen, ce_X4_readCitizen, _, by decide, rfl, rfl⟩
theorem fl_X4_56 : k_FL RX4 56 2 3 := ⟨_, cl_X2, by decide, Or.inr ⟨"BeggarsChoose", k_inNW 182 (by decide +kernel) (by decide)⟩⟩
theorem cb_X4_readBeggar : k_cb Mt_X4_readBeggar 1 := ⟨k_inWS 602 (by decide +kernel) (by decide), k_inWS 5 (by decide +kernel) (by decide), ⟨by decide +kernel, by decide +kernel⟩, by decide +kernel, by decide⟩
theorem ci_X4_readBeggar : Cond.instanceMethod yX4_readBeggar ∈ k_WS := k_inWS 601 (by decide +kernel) (by decide)
theorem ce_X4_readBeggar : Cond.selects RX4 yX4_readBeggar yX4_readBeggar ∈ k_WS := k_inPr (q := (yX4_readBeggar, 4)) (by decide +kernel) (by decide +kernel)
theorem cv_X4_59 : k_CV RX4 59 4 Mt_X4_readBeggar 1 := ⟨cb_X4_readBeggar, Or.inl (k_inWS 599 (by decide +kernel) (by decide)), ci_X4_readBeggar, ce_X4_readBeggar, _, by decide, rfl, rfl⟩
theorem cb_X4_readPost : k_cb Mt_X4_readPost 1 := ⟨k_inWS 607 (by decide +kernel) (by decide), k_inWS 5 (by decide +kernel) (by decide), ⟨by decide +kernel, by decide +kernel⟩, by decide +kernel, by decide⟩
theorem ci_X4_readPost : Cond.instanceMethod yX4_readPost ∈ k_WS := k_inWS 606 (by decide +kernel) (by decide)
theorem ce_X4_readPost : Cond.selects RX4 yX4_readPost yX4_readPost ∈ k_WS := k_inPr (q := (yX4_readPost, 4)) (by decide +kernel) (by decide +kernel)
theorem cv_X4_62 : k_CV RX4 62 4 Mt_X4_readPost 1 := ⟨cb_X4_readPost, Or.inl (k_inWS 604 (by decide +kernel) (by decide)), ci_X4_readPost, ce_X4_readPost, _, by decide, rfl, rfl⟩
theorem cb_X4_readOfCitizen : k_cb Mt_X4_readOfCitizen 2 := ⟨k_inWS 612 (by decide +kernel) (by decide), k_inWS 5 (by decide +kernel) (by decide), ⟨by decide +kernel, by decide +kernel⟩, by decide +kernel, by decide⟩
theorem ci_X4_readOfCitizen : Cond.instanceMethod yX4_readOfCitizen ∈ k_WS := k_inWS 611 (by decide +kernel) (by decide)
theorem ce_X4_readOfCitizen : Cond.selects RX4 yX4_readOfCitizen yX4_readOfCitizen ∈ k_WS := k_inPr (q := (yX4_readOfCitizen, 4)) (by decide +kernel) (by decide +kernel)
theorem cv_X4_65 : k_CV RX4 65 4 Mt_X4_readOfCitizen 2 := ⟨cb_X4_readOfCitizen, Or.inl (k_inWS 609 (by decide +kernel) (by decide)), ci_X4_readOfCitizen, ce_X4_readOfCitizen, _, by decide, rfl, rfl⟩
theorem cb_X4_failAt : k_cb Mt_X4_failAt 1 := ⟨k_inWS 576 (by decide +kernel) (by decide), k_inWS 5 (by decide +kernel) (by decide), ⟨by decide +kernel, by decide +kernel⟩, by decide +kernel, by decide⟩
theorem ci_X4_failAt : Cond.instanceMethod yX4_failAt ∈ k_WS := k_inWS 575 (by decide +kernel) (by decide)
theorem ce_X4_failAt : Cond.selects RX4 yX4_failAt yX4_failAt ∈ k_WS := k_inPr (q := (yX4_failAt, 4)) (by decide +kernel) (by decide +kernel)
theorem cv_X4_69 : k_CV RX4 69 4 Mt_X4_failAt 1 := ⟨cb_X4_failAt, Or.inl (k_inWS 573 (by decide +kernel) (by decide)), ci_X4_failAt, ce_X4_failAt, _, by decide, rfl, rfl⟩
theorem cb_X4_readNumber : k_cb Mt_X4_readNumber 2 := ⟨k_inWS 588 (by decide +kernel) (by decide), k_inWS 5 (by decide +kernel) (by decide), ⟨by decide +kernel, by decide +kernel⟩, by decide +kernel, by decide⟩
theorem ci_X4_readNumber : Cond.instanceMethod yX4_readNumber ∈ k_WS := k_inWS 587 (by decide +kernel) (by decide)
theorem ce_X4_readNumber : Cond.selects RX4 yX4_readNumber yX4_readNumber ∈ k_WS := k_inPr (q := (yX4_readNumber, 4)) (by decide +kernel) (by decide +kernel)
theorem cv_X4_73 : k_CV RX4 73 4 Mt_X4_readNumber 2 := ⟨cb_X4_readNumber, Or.inl (k_inWS 585 (by decide +kernel) (by decide)), ci_X4_readNumber, ce_X4_readNumber, _, by decide, rfl, rfl⟩
theorem cv_X4_77 : k_CV RX4 77 2 Mt_X2_addCitizen 4 := ⟨cb_X2_addCitizen, Or.inr ⟨"BeggarsChoose", k_inNW 598 (by decide +kernel) (by decide)⟩, ci_X2_addCitizen, ce_X2_addCitizen, _, by decide, rfl, rfl⟩
theorem cv_X4_81 : k_CV RX4 81 2 Mt_X2_addBeggar 2 := ⟨cb_X2_addBeggar, Or.inr ⟨"BeggarsChoose", k_inNW 603 (by decide +kernel) (by decide)⟩, ci_X2_addBeggar, ce_X2_addBeggar, _, by decide, rfl, rfl⟩
theorem cv_X4_84 : k_CV RX4 84 2 Mt_X2_beggarAt 1 := ⟨cb_X2_beggarAt, Or.inr ⟨"BeggarsChoose", k_inNW 608 (by decide +kernel) (by decide)⟩, ci_X2_beggarAt, ce_X2_beggarAt, _, by decide, rfl, rfl⟩
theorem fl_X4_88 : k_FL RX4 88 0 2 := ⟨_, cl_X0, by decide, Or.inr ⟨"BeggarsChoose", k_inNW 120 (by decide +kernel) (by decide)⟩⟩
theorem pl_X4_88 : k_PL RX4 88 0 2 .boolean false := ⟨_, cl_X0, by decide, Or.inr ⟨rfl, "BeggarsChoose", k_inNW 120 (by decide +kernel) (by decide)⟩, rfl, by decide +kernel, fun _ => by contradiction⟩
theorem cv_X4_94 : k_CV RX4 94 2 Mt_X2_citizenAt 1 := ⟨cb_X2_citizenAt, Or.inr ⟨"BeggarsChoose", k_inNW 613 (by decide +kernel) (by decide)⟩, ci_X2_citizenAt, ce_X2_citizenAt, _, by decide, rfl, rfl⟩
theorem fl_X4_98 : k_FL RX4 98 1 2 := ⟨_, cl_X1, by decide, Or.inr ⟨"BeggarsChoose", k_inNW 44 (by decide +kernel) (by decide)⟩⟩
theorem pl_X4_98 : k_PL RX4 98 1 2 .boolean false := ⟨_, cl_X1, by decide, Or.inr ⟨rfl, "BeggarsChoose", k_inNW 44 (by decide +kernel) (by decide)⟩, rfl, by decide +kernel, fun _ => by contradiction⟩
theorem fl_X4_103 : k_FL RX4 103 1 7 := ⟨_, cl_X1, by decide, Or.inr ⟨"BeggarsChoose", k_inNW 60 (by decide +kernel) (by decide)⟩⟩
theorem pl_X4_103 : k_PL RX4 103 1 7 .int false := ⟨_, cl_X1, by decide, Or.inr ⟨rfl, "BeggarsChoose", k_inNW 60 (by decide +kernel) (by decide)⟩, rfl, by decide +kernel, fun _ => by contradiction⟩
theorem cb_X4_wordAt : k_cb Mt_X4_wordAt 1 := ⟨k_inWS 509 (by decide +kernel) (by decide), k_inWS 5 (by decide +kernel) (by decide), ⟨by decide +kernel, by decide +kernel⟩, by decide +kernel, by decide⟩
theorem cs_X4_106 : k_CS RX4 106 Mt_X4_wordAt 1 := ⟨cb_X4_wordAt, Or.inl (k_inWS 507 (by decide +kernel) (by decide)), k_inWS 508 (by decide +kernel) (by decide)⟩
theorem cb_X4_countLetters : k_cb Mt_X4_countLetters 1 := ⟨k_inWS 519 (by decide +kernel) (by decide), k_inWS 5 (by decide +kernel) (by decide), ⟨by decide +kernel, by decide +kernel⟩, by decide +kernel, by decide⟩
theorem ci_X4_countLetters : Cond.instanceMethod yX4_countLetters ∈ k_WS := k_inWS 518 (by decide +kernel) (by decide)
theorem ce_X4_countLetters : Cond.selects RX4 yX4_countLetters yX4_countLetters ∈ k_WS := k_inPr (q := (yX4_countLetters, 4)) (by decide +kernel) (by decide +kernel)
theorem cv_X4_110 : k_CV RX4 110 4 Mt_X4_countLetters 1 := ⟨cb_X4_countLetters, Or.inl (k_inWS 516 (by decide +kernel) (by decide)), ci_X4_countLetters, ce_X4_countLetters, _, by decide, rfl, rfl⟩
theorem cm_X4_118 : Cond.methodLink RX4 118 Lib.Math.max.name ∈ k_WS := k_inWS 572 (by decide +kernel) (by decide)
theorem cb_X4_signAt : k_cb Mt_X4_signAt 1 := ⟨k_inWS 533 (by decide +kernel) (by decide), k_inWS 5 (by decide +kernel) (by decide), ⟨by decide +kernel, by decide +kernel⟩, by decide +kernel, by decide⟩
theorem ci_X4_signAt : Cond.instanceMethod yX4_signAt ∈ k_WS := k_inWS 532 (by decide +kernel) (by decide)
theorem ce_X4_signAt : Cond.selects RX4 yX4_signAt yX4_signAt ∈ k_WS := k_inPr (q := (yX4_signAt, 4)) (by decide +kernel) (by decide +kernel)
theorem cv_X4_134 : k_CV RX4 134 4 Mt_X4_signAt 1 := ⟨cb_X4_signAt, Or.inl (k_inWS 530 (by decide +kernel) (by decide)), ci_X4_signAt, ce_X4_signAt, _, by decide, rfl, rfl⟩
theorem cb_X4_isDigit : k_cb Mt_X4_isDigit 1 := ⟨k_inWS 596 (by decide +kernel) (by decide), k_inWS 5 (by decide +kernel) (by decide), ⟨by decide +kernel, by decide +kernel⟩, by decide +kernel, by decide⟩
theorem ci_X4_isDigit : Cond.instanceMethod yX4_isDigit ∈ k_WS := k_inWS 595 (by decide +kernel) (by decide)
theorem ce_X4_isDigit : Cond.selects RX4 yX4_isDigit yX4_isDigit ∈ k_WS := k_inPr (q := (yX4_isDigit, 4)) (by decide +kernel) (by decide +kernel)
theorem cv_X4_141 : k_CV RX4 141 4 Mt_X4_isDigit 1 := ⟨cb_X4_isDigit, Or.inl (k_inWS 593 (by decide +kernel) (by decide)), ci_X4_isDigit, ce_X4_isDigit, _, by decide, rfl, rfl⟩
theorem cs_X4_144 : k_CS RX4 144 Mt_X6_isOutside 3 := ⟨cb_X6_isOutside, Or.inr ⟨"BeggarsChoose", k_inNW 597 (by decide +kernel) (by decide)⟩, k_inWS 424 (by decide +kernel) (by decide)⟩
theorem fl_X5_9 : k_FL RX5 9 5 0 := ⟨_, cl_X5, by decide, Or.inl (k_inWS 258 (by decide +kernel) (by decide))⟩
theorem pl_X5_9 : k_PL RX5 9 5 0 (.array .long) true := ⟨_, cl_X5, by decide, Or.inl (k_inWS 258 (by decide +kernel) (by decide)), rfl, by decide +kernel, fun _ => rfl⟩
theorem fl_X5_15 : k_FL RX5 15 5 1 := ⟨_, cl_X5, by decide, Or.inl (k_inWS 259 (by decide +kernel) (by decide))⟩
theorem pl_X5_15 : k_PL RX5 15 5 1 .int false := ⟨_, cl_X5, by decide, Or.inl (k_inWS 259 (by decide +kernel) (by decide)), rfl, by decide +kernel, fun _ => by contradiction⟩
theorem fl_X5_19 : k_FL RX5 19 5 3 := ⟨_, cl_X5, by decide, Or.inl (k_inWS 264 (by decide +kernel) (by decide))⟩
theorem pl_X5_19 : k_PL RX5 19 5 3 .int false := ⟨_, cl_X5, by decide, Or.inl (k_inWS 264 (by decide +kernel) (by decide)), rfl, by decide +kernel, fun _ => by contradiction⟩
theorem cm_X5_22 : Cond.methodLink RX5 22 Lib.Math.min.name ∈ k_WS := k_inWS 317 (by decide +kernel) (by decide)
theorem cm_X5_28 : Cond.methodLink RX5 28 Lib.Math.max.name ∈ k_WS := k_inWS 320 (by decide +kernel) (by decide)
theorem fl_X5_31 : k_FL RX5 31 5 2 := ⟨_, cl_X5, by decide, Or.inl (k_inWS 262 (by decide +kernel) (by decide))⟩
theorem pl_X5_31 : k_PL RX5 31 5 2 .int false := ⟨_, cl_X5, by decide, Or.inl (k_inWS 262 (by decide +kernel) (by decide)), rfl, by decide +kernel, fun _ => by contradiction⟩
theorem cv_X5_34 : k_CV RX5 34 5 Mt_X5_hasRow 0 := ⟨cb_X5_hasRow, Or.inl (k_inWS 356 (by decide +kernel) (by decide)), ci_X5_hasRow, ce_X5_hasRow, _, by decide, rfl, rfl⟩
theorem cv_X5_38 : k_CV RX5 38 5 Mt_X5_hasElement 1 := ⟨cb_X5_hasElement, Or.inl (k_inWS 347 (by decide +kernel) (by decide)), ci_X5_hasElement, ce_X5_hasElement, _, by decide, rfl, rfl⟩
theorem cv_X5_42 : k_CV RX5 42 5 Mt_X5_get 1 := ⟨cb_X5_get, Or.inl (k_inWS 498 (by decide +kernel) (by decide)), ci_X5_get, ce_X5_get, _, by decide, rfl, rfl⟩
theorem cv_X5_46 : k_CV RX5 46 5 Mt_X5_hasStretch 2 := ⟨cb_X5_hasStretch, Or.inl (k_inWS 365 (by decide +kernel) (by decide)), ci_X5_hasStretch, ce_X5_hasStretch, _, by decide, rfl, rfl⟩
theorem cm_max_s : Cond.static Lib.Math.max.name ∈ k_WS := k_inWS 321 (by decide +kernel) (by decide)
theorem cm_max_c : Cond.code Lib.Math.max.name Lib.Math.max.code 2 (some .int) ∈ k_WS := k_inWS 322 (by decide +kernel) (by decide)
theorem cm_min_s : Cond.static Lib.Math.min.name ∈ k_WS := k_inWS 318 (by decide +kernel) (by decide)
theorem cm_min_c : Cond.code Lib.Math.min.name Lib.Math.min.code 2 (some .int) ∈ k_WS := k_inWS 319 (by decide +kernel) (by decide)
theorem cm_i : Cond.initialized "java/lang/Math" ∈ k_WS := k_inWS 9 (by decide +kernel) (by decide)
