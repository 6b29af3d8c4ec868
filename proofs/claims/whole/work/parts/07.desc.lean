def perX : Nat → Bool := fun k => Nat.ble k 10 || Nat.ble 20 k
def shX : List Sh := [.inl (0, [0, 0, 3, 4, 5, 6, 7, 8, 9, 10, 11, 12, 13, 14, 15, 16]), .inr (0, 210), .inr (0, 210), .inr (0, 70), .inr (0, 2), .inr (0, 3), .inr (0, 6), .inr (0, 12), .inr (0, 30), .inr (0, 10), .inr (0, 10), .inr (0, 7), .inr (0, 10), .inr (0, 10), .inr (0, 30)]
def GX : Gd := (perX, shX, false, RX0, TX0, 16, 0)
def perM : Nat → Bool := fun k => Nat.ble k 9 || Nat.beq k 11 || Nat.beq k 20 || Nat.beq k 21 || Nat.beq k 25 || Nat.beq k 26 || Nat.beq k 32
def shM : List Sh := [.inl (1, [0, 0, 3, 4, 5, 0, 0, 6, 7, 8, 9, 10, 0, 11, 0, 0, 12, 0, 0, 0, 0, 13, 1]), .inr (0, 210), .inr (1, 210), .inr (1, 70), .inr (0, 3), .inr (0, 6), .inr (0, 12), .inr (0, 10), .inr (0, 30), .inr (0, 10), .inr (0, 7), .inr (0, 12)]
def GM : Gd := (perM, shM, true, RX1, TX1, 23, 1)
theorem GXok : Gok GX := ⟨rfl, by decide, nmX0, fun j hj => ⟨tyX0 j, tyX0_ok j hj⟩⟩
theorem GX1 : ∀ (i : Nat) (o : Nat × List Nat), GX.2.1[i]? = some (.inl o) → i = 0 := by
  intro i o h
  have hl : i < 15 := (List.getElem?_eq_some_iff.mp h).1
  match i, h with
  | 0, _ => rfl
  | 1, h => cases h
  | 2, h => cases h
  | 3, h => cases h
  | 4, h => cases h
  | 5, h => cases h
  | 6, h => cases h
  | 7, h => cases h
  | 8, h => cases h
  | 9, h => cases h
  | 10, h => cases h
  | 11, h => cases h
  | 12, h => cases h
  | 13, h => cases h
  | 14, h => cases h
  | i + 15, h => omega
theorem GMok : Gok GM := ⟨rfl, by decide, nmX1, fun j hj => ⟨tyX1 j, tyX1_ok j hj⟩⟩
theorem GM1 : ∀ (i : Nat) (o : Nat × List Nat), GM.2.1[i]? = some (.inl o) → i = 0 := by
  intro i o h
  have hl : i < 12 := (List.getElem?_eq_some_iff.mp h).1
  match i, h with
  | 0, _ => rfl
  | 1, h => cases h
  | 2, h => cases h
  | 3, h => cases h
  | 4, h => cases h
  | 5, h => cases h
  | 6, h => cases h
  | 7, h => cases h
  | 8, h => cases h
  | 9, h => cases h
  | 10, h => cases h
  | 11, h => cases h
  | i + 12, h => omega
def kJ6_bitCount_0f7a4 : Mt := (yJ6_bitCount_0f7a4, wsJ6_bitCount_0f7a4, cJ6_bitCount_0f7a4, 1, (some .int))
def kJ6_compare_7cf53 : Mt := (yJ6_compare_7cf53, wsJ6_compare_7cf53, cJ6_compare_7cf53, 2, (some .int))
def kJ7_fill_53178 : Mt := (yJ7_fill_53178, wsJ7_fill_53178, cJ7_fill_53178, 4, none)
def kJ9_max_7cf53 : Mt := (yJ9_max_7cf53, wsJ9_max_7cf53, cJ9_max_7cf53, 2, (some .int))
def kJ9_min_7cf53 : Mt := (yJ9_min_7cf53, wsJ9_min_7cf53, cJ9_min_7cf53, 2, (some .int))
def kX0_beats : Mt := (yX0_beats, wsX0_beats, cX0_beats, 4, (some .int))
def kX0_bitOf : Mt := (yX0_bitOf, wsX0_bitOf, cX0_bitOf, 4, (some .int))
def kX0_cellOf : Mt := (yX0_cellOf, wsX0_cellOf, cX0_cellOf, 3, (some .int))
def kX0_choosesFrom : Mt := (yX0_choosesFrom, wsX0_choosesFrom, cX0_choosesFrom, 6, (some .boolean))
def kX0_choosesWith : Mt := (yX0_choosesWith, wsX0_choosesWith, cX0_choosesWith, 7, (some .boolean))
def kX0_chosen : Mt := (yX0_chosen, wsX0_chosen, cX0_chosen, 2, (some .int))
def kX0_clearAll : Mt := (yX0_clearAll, wsX0_clearAll, cX0_clearAll, 1, none)
def kX0_contest : Mt := (yX0_contest, wsX0_contest, cX0_contest, 3, (some .int))
def kX0_count : Mt := (yX0_count, wsX0_count, cX0_count, 2, (some .int))
def kX0_countMarks : Mt := (yX0_countMarks, wsX0_countMarks, cX0_countMarks, 3, (some .int))
def kX0_countYeses : Mt := (yX0_countYeses, wsX0_countYeses, cX0_countYeses, 5, (some .int))
def kX0_countedMark : Mt := (yX0_countedMark, wsX0_countedMark, cX0_countedMark, 4, (some .int))
def kX0_cutMean : Mt := (yX0_cutMean, wsX0_cutMean, cX0_cutMean, 3, (some .int))
def kX0_differ : Mt := (yX0_differ, wsX0_differ, cX0_differ, 5, (some .int))
def kX0_digest : Mt := (yX0_digest, wsX0_digest, cX0_digest, 5, (some .long))
def kX0_drawn : Mt := (yX0_drawn, wsX0_drawn, cX0_drawn, 8, (some .int))
def kX0_duel : Mt := (yX0_duel, wsX0_duel, cX0_duel, 8, (some .int))
def kX0_factorial : Mt := (yX0_factorial, wsX0_factorial, cX0_factorial, 3, (some .int))
def kX0_fillFitting : Mt := (yX0_fillFitting, wsX0_fillFitting, cX0_fillFitting, 7, none)
def kX0_fillScores : Mt := (yX0_fillScores, wsX0_fillScores, cX0_fillScores, 4, none)
def kX0_fillScoresIf : Mt := (yX0_fillScoresIf, wsX0_fillScoresIf, cX0_fillScoresIf, 9, none)
def kX0_fillTotals : Mt := (yX0_fillTotals, wsX0_fillTotals, cX0_fillTotals, 2, none)
def kX0_heard : Mt := (yX0_heard, wsX0_heard, cX0_heard, 4, (some .int))
def kX0_insertMark : Mt := (yX0_insertMark, wsX0_insertMark, cX0_insertMark, 4, none)
def kX0_isJuror : Mt := (yX0_isJuror, wsX0_isJuror, cX0_isJuror, 2, (some .boolean))
def kX0_isLimit : Mt := (yX0_isLimit, wsX0_isLimit, cX0_isLimit, 1, (some .boolean))
def kX0_isMarked : Mt := (yX0_isMarked, wsX0_isMarked, cX0_isMarked, 4, (some .boolean))
def kX0_isPlayer : Mt := (yX0_isPlayer, wsX0_isPlayer, cX0_isPlayer, 2, (some .boolean))
def kX0_isPupil : Mt := (yX0_isPupil, wsX0_isPupil, cX0_isPupil, 3, (some .boolean))
def kX0_isRound : Mt := (yX0_isRound, wsX0_isRound, cX0_isRound, 1, (some .boolean))
def kX0_isWay : Mt := (yX0_isWay, wsX0_isWay, cX0_isWay, 1, (some .boolean))
def kX0_isWithin : Mt := (yX0_isWithin, wsX0_isWithin, cX0_isWithin, 3, (some .boolean))
def kX0_isWork : Mt := (yX0_isWork, wsX0_isWork, cX0_isWork, 1, (some .boolean))
def kX0_last : Mt := (yX0_last, wsX0_last, cX0_last, 2, (some .int))
def kX0_mark : Mt := (yX0_mark, wsX0_mark, cX0_mark, 5, (some .int))
def kX0_meanBetween : Mt := (yX0_meanBetween, wsX0_meanBetween, cX0_meanBetween, 3, (some .int))
def kX0_minutesOf : Mt := (yX0_minutesOf, wsX0_minutesOf, cX0_minutesOf, 4, (some .int))
def kX0_mixed : Mt := (yX0_mixed, wsX0_mixed, cX0_mixed, 4, (some .long))
def kX0_mixedRound : Mt := (yX0_mixedRound, wsX0_mixedRound, cX0_mixedRound, 9, (some .long))
def kX0_mixedRow : Mt := (yX0_mixedRow, wsX0_mixedRow, cX0_mixedRow, 6, (some .long))
def kX0_pairScore : Mt := (yX0_pairScore, wsX0_pairScore, cX0_pairScore, 5, (some .int))
def kX0_passed : Mt := (yX0_passed, wsX0_passed, cX0_passed, 4, (some .int))
def kX0_passedBits : Mt := (yX0_passedBits, wsX0_passedBits, cX0_passedBits, 6, (some .int))
def kX0_passesIn : Mt := (yX0_passesIn, wsX0_passesIn, cX0_passesIn, 4, (some .boolean))
def kX0_place : Mt := (yX0_place, wsX0_place, cX0_place, 4, (some .int))
def kX0_placeIn : Mt := (yX0_placeIn, wsX0_placeIn, cX0_placeIn, 5, (some .int))
def kX0_plan : Mt := (yX0_plan, wsX0_plan, cX0_plan, 6, (some .int))
def kX0_prize : Mt := (yX0_prize, wsX0_prize, cX0_prize, 3, (some .int))
def kX0_programme : Mt := (yX0_programme, wsX0_programme, cX0_programme, 3, (some .int))
def kX0_programmeCellOf : Mt := (yX0_programmeCellOf, wsX0_programmeCellOf, cX0_programmeCellOf, 2, (some .int))
def kX0_pulledMean : Mt := (yX0_pulledMean, wsX0_pulledMean, cX0_pulledMean, 7, (some .int))
def kX0_pupil : Mt := (yX0_pupil, wsX0_pupil, cX0_pupil, 4, (some .int))
def kX0_pupilCellOf : Mt := (yX0_pupilCellOf, wsX0_pupilCellOf, cX0_pupilCellOf, 2, (some .int))
def kX0_reach : Mt := (yX0_reach, wsX0_reach, cX0_reach, 6, (some .int))
def kX0_replace : Mt := (yX0_replace, wsX0_replace, cX0_replace, 4, (some .int))
def kX0_rest : Mt := (yX0_rest, wsX0_rest, cX0_rest, 3, (some .int))
def kX0_rule : Mt := (yX0_rule, wsX0_rule, cX0_rule, 4, (some .int))
def kX0_score : Mt := (yX0_score, wsX0_score, cX0_score, 4, (some .int))
def kX0_scoreOf : Mt := (yX0_scoreOf, wsX0_scoreOf, cX0_scoreOf, 5, (some .int))
def kX0_shareOf : Mt := (yX0_shareOf, wsX0_shareOf, cX0_shareOf, 6, (some .int))
def kX0_sortMarks : Mt := (yX0_sortMarks, wsX0_sortMarks, cX0_sortMarks, 6, (some .int))
def kX0_sumBetween : Mt := (yX0_sumBetween, wsX0_sumBetween, cX0_sumBetween, 5, (some .int))
def kX0_sumOf : Mt := (yX0_sumOf, wsX0_sumOf, cX0_sumOf, 3, (some .int))
def kX0_sway : Mt := (yX0_sway, wsX0_sway, cX0_sway, 11, (some .int))
def kX0_total : Mt := (yX0_total, wsX0_total, cX0_total, 2, (some .int))
def kX0_totalOf : Mt := (yX0_totalOf, wsX0_totalOf, cX0_totalOf, 5, (some .int))
def kX0_weight : Mt := (yX0_weight, wsX0_weight, cX0_weight, 3, (some .int))
def kX0_wins : Mt := (yX0_wins, wsX0_wins, cX0_wins, 2, (some .int))
def kX0_work : Mt := (yX0_work, wsX0_work, cX0_work, 3, (some .int))
def kX0_yes : Mt := (yX0_yes, wsX0_yes, cX0_yes, 5, (some .int))
def kX1_beats : Mt := (yX1_beats, wsX1_beats, cX1_beats, 4, (some .int))
def kX1_beatsOf : Mt := (yX1_beatsOf, wsX1_beatsOf, cX1_beatsOf, 7, (some .int))
def kX1_begin : Mt := (yX1_begin, wsX1_begin, cX1_begin, 2, none)
def kX1_chosen : Mt := (yX1_chosen, wsX1_chosen, cX1_chosen, 2, (some .int))
def kX1_chosenOf : Mt := (yX1_chosenOf, wsX1_chosenOf, cX1_chosenOf, 2, (some .int))
def kX1_contest : Mt := (yX1_contest, wsX1_contest, cX1_contest, 3, (some .int))
def kX1_count : Mt := (yX1_count, wsX1_count, cX1_count, 4, (some .int))
def kX1_counts : Mt := (yX1_counts, wsX1_counts, cX1_counts, 4, (some .boolean))
def kX1_cutOf : Mt := (yX1_cutOf, wsX1_cutOf, cX1_cutOf, 4, (some .int))
def kX1_differ : Mt := (yX1_differ, wsX1_differ, cX1_differ, 8, (some .int))
def kX1_digest : Mt := (yX1_digest, wsX1_digest, cX1_digest, 4, (some .long))
def kX1_drawn : Mt := (yX1_drawn, wsX1_drawn, cX1_drawn, 9, (some .int))
def kX1_gather : Mt := (yX1_gather, wsX1_gather, cX1_gather, 6, none)
def kX1_hasMark : Mt := (yX1_hasMark, wsX1_hasMark, cX1_hasMark, 5, (some .boolean))
def kX1_hear : Mt := (yX1_hear, wsX1_hear, cX1_hear, 4, none)
def kX1_heard : Mt := (yX1_heard, wsX1_heard, cX1_heard, 2, (some .int))
def kX1_in : Mt := (yX1_in, wsX1_in, cX1_in, 3, (some .boolean))
def kX1_isJuror : Mt := (yX1_isJuror, wsX1_isJuror, cX1_isJuror, 2, (some .boolean))
def kX1_isPlayer : Mt := (yX1_isPlayer, wsX1_isPlayer, cX1_isPlayer, 2, (some .boolean))
def kX1_isRound : Mt := (yX1_isRound, wsX1_isRound, cX1_isRound, 1, (some .boolean))
def kX1_last : Mt := (yX1_last, wsX1_last, cX1_last, 2, (some .int))
def kX1_lastOf : Mt := (yX1_lastOf, wsX1_lastOf, cX1_lastOf, 5, (some .int))
def kX1_mark : Mt := (yX1_mark, wsX1_mark, cX1_mark, 7, (some .int))
def kX1_mayBe : Mt := (yX1_mayBe, wsX1_mayBe, cX1_mayBe, 8, (some .boolean))
def kX1_mix : Mt := (yX1_mix, wsX1_mix, cX1_mix, 3, none)
def kX1_note : Mt := (yX1_note, wsX1_note, cX1_note, 7, none)
def kX1_pairsOf : Mt := (yX1_pairsOf, wsX1_pairsOf, cX1_pairsOf, 5, (some .int))
def kX1_passed : Mt := (yX1_passed, wsX1_passed, cX1_passed, 4, (some .int))
def kX1_passedOf : Mt := (yX1_passedOf, wsX1_passedOf, cX1_passedOf, 6, (some .int))
def kX1_passes : Mt := (yX1_passes, wsX1_passes, cX1_passes, 5, (some .boolean))
def kX1_place : Mt := (yX1_place, wsX1_place, cX1_place, 4, (some .int))
def kX1_placeOf : Mt := (yX1_placeOf, wsX1_placeOf, cX1_placeOf, 7, (some .int))
def kX1_plan : Mt := (yX1_plan, wsX1_plan, cX1_plan, 5, (some .int))
def kX1_prize : Mt := (yX1_prize, wsX1_prize, cX1_prize, 4, (some .int))
def kX1_programme : Mt := (yX1_programme, wsX1_programme, cX1_programme, 3, (some .int))
def kX1_pulledOf : Mt := (yX1_pulledOf, wsX1_pulledOf, cX1_pulledOf, 4, (some .int))
def kX1_pupil : Mt := (yX1_pupil, wsX1_pupil, cX1_pupil, 5, (some .int))
def kX1_reach : Mt := (yX1_reach, wsX1_reach, cX1_reach, 6, (some .int))
def kX1_rest : Mt := (yX1_rest, wsX1_rest, cX1_rest, 3, (some .int))
def kX1_rule : Mt := (yX1_rule, wsX1_rule, cX1_rule, 4, (some .int))
def kX1_score : Mt := (yX1_score, wsX1_score, cX1_score, 4, (some .int))
def kX1_scoreOf : Mt := (yX1_scoreOf, wsX1_scoreOf, cX1_scoreOf, 4, (some .int))
def kX1_seek : Mt := (yX1_seek, wsX1_seek, cX1_seek, 9, none)
def kX1_sway : Mt := (yX1_sway, wsX1_sway, cX1_sway, 8, (some .int))
def kX1_total : Mt := (yX1_total, wsX1_total, cX1_total, 2, (some .int))
def kX1_totalOf : Mt := (yX1_totalOf, wsX1_totalOf, cX1_totalOf, 5, (some .int))
def kX1_weight : Mt := (yX1_weight, wsX1_weight, cX1_weight, 4, (some .int))
def kX1_wins : Mt := (yX1_wins, wsX1_wins, cX1_wins, 2, (some .int))
def kX1_winsOf : Mt := (yX1_winsOf, wsX1_winsOf, cX1_winsOf, 7, (some .int))
def kX1_work : Mt := (yX1_work, wsX1_work, cX1_work, 4, (some .int))
def kX1_yes : Mt := (yX1_yes, wsX1_yes, cX1_yes, 7, (some .int))
def kX1_yesOf : Mt := (yX1_yesOf, wsX1_yesOf, cX1_yesOf, 5, (some .int))
theorem kkJ6_bitCount_0f7a4 : Kok kJ6_bitCount_0f7a4 1 := ⟨⟨_, rfl⟩, by decide +kernel, by decide⟩
theorem kkJ6_compare_7cf53 : Kok kJ6_compare_7cf53 2 := ⟨⟨_, rfl⟩, by decide +kernel, by decide⟩
theorem kkJ7_fill_53178 : Kok kJ7_fill_53178 2 := ⟨⟨_, rfl⟩, by decide +kernel, by decide⟩
theorem kkJ9_max_7cf53 : Kok kJ9_max_7cf53 2 := ⟨⟨_, rfl⟩, by decide +kernel, by decide⟩
theorem kkJ9_min_7cf53 : Kok kJ9_min_7cf53 2 := ⟨⟨_, rfl⟩, by decide +kernel, by decide⟩
theorem kkX0_beats : Kok kX0_beats 3 := ⟨⟨_, rfl⟩, by decide +kernel, by decide⟩
theorem kkX0_bitOf : Kok kX0_bitOf 2 := ⟨⟨_, rfl⟩, by decide +kernel, by decide⟩
theorem kkX0_cellOf : Kok kX0_cellOf 3 := ⟨⟨_, rfl⟩, by decide +kernel, by decide⟩
theorem kkX0_choosesFrom : Kok kX0_choosesFrom 4 := ⟨⟨_, rfl⟩, by decide +kernel, by decide⟩
theorem kkX0_choosesWith : Kok kX0_choosesWith 5 := ⟨⟨_, rfl⟩, by decide +kernel, by decide⟩
theorem kkX0_chosen : Kok kX0_chosen 1 := ⟨⟨_, rfl⟩, by decide +kernel, by decide⟩
theorem kkX0_clearAll : Kok kX0_clearAll 0 := ⟨⟨_, rfl⟩, by decide +kernel, by decide⟩
theorem kkX0_contest : Kok kX0_contest 2 := ⟨⟨_, rfl⟩, by decide +kernel, by decide⟩
theorem kkX0_count : Kok kX0_count 1 := ⟨⟨_, rfl⟩, by decide +kernel, by decide⟩
theorem kkX0_countMarks : Kok kX0_countMarks 0 := ⟨⟨_, rfl⟩, by decide +kernel, by decide⟩
theorem kkX0_countYeses : Kok kX0_countYeses 2 := ⟨⟨_, rfl⟩, by decide +kernel, by decide⟩
theorem kkX0_countedMark : Kok kX0_countedMark 3 := ⟨⟨_, rfl⟩, by decide +kernel, by decide⟩
theorem kkX0_cutMean : Kok kX0_cutMean 1 := ⟨⟨_, rfl⟩, by decide +kernel, by decide⟩
theorem kkX0_differ : Kok kX0_differ 4 := ⟨⟨_, rfl⟩, by decide +kernel, by decide⟩
theorem kkX0_digest : Kok kX0_digest 0 := ⟨⟨_, rfl⟩, by decide +kernel, by decide⟩
theorem kkX0_drawn : Kok kX0_drawn 2 := ⟨⟨_, rfl⟩, by decide +kernel, by decide⟩
theorem kkX0_duel : Kok kX0_duel 3 := ⟨⟨_, rfl⟩, by decide +kernel, by decide⟩
theorem kkX0_factorial : Kok kX0_factorial 1 := ⟨⟨_, rfl⟩, by decide +kernel, by decide⟩
theorem kkX0_fillFitting : Kok kX0_fillFitting 2 := ⟨⟨_, rfl⟩, by decide +kernel, by decide⟩
theorem kkX0_fillScores : Kok kX0_fillScores 2 := ⟨⟨_, rfl⟩, by decide +kernel, by decide⟩
theorem kkX0_fillScoresIf : Kok kX0_fillScoresIf 5 := ⟨⟨_, rfl⟩, by decide +kernel, by decide⟩
theorem kkX0_fillTotals : Kok kX0_fillTotals 0 := ⟨⟨_, rfl⟩, by decide +kernel, by decide⟩
theorem kkX0_heard : Kok kX0_heard 1 := ⟨⟨_, rfl⟩, by decide +kernel, by decide⟩
theorem kkX0_insertMark : Kok kX0_insertMark 2 := ⟨⟨_, rfl⟩, by decide +kernel, by decide⟩
theorem kkX0_isJuror : Kok kX0_isJuror 1 := ⟨⟨_, rfl⟩, by decide +kernel, by decide⟩
theorem kkX0_isLimit : Kok kX0_isLimit 1 := ⟨⟨_, rfl⟩, by decide +kernel, by decide⟩
theorem kkX0_isMarked : Kok kX0_isMarked 2 := ⟨⟨_, rfl⟩, by decide +kernel, by decide⟩
theorem kkX0_isPlayer : Kok kX0_isPlayer 1 := ⟨⟨_, rfl⟩, by decide +kernel, by decide⟩
theorem kkX0_isPupil : Kok kX0_isPupil 2 := ⟨⟨_, rfl⟩, by decide +kernel, by decide⟩
theorem kkX0_isRound : Kok kX0_isRound 1 := ⟨⟨_, rfl⟩, by decide +kernel, by decide⟩
theorem kkX0_isWay : Kok kX0_isWay 1 := ⟨⟨_, rfl⟩, by decide +kernel, by decide⟩
theorem kkX0_isWithin : Kok kX0_isWithin 3 := ⟨⟨_, rfl⟩, by decide +kernel, by decide⟩
theorem kkX0_isWork : Kok kX0_isWork 1 := ⟨⟨_, rfl⟩, by decide +kernel, by decide⟩
theorem kkX0_last : Kok kX0_last 1 := ⟨⟨_, rfl⟩, by decide +kernel, by decide⟩
theorem kkX0_mark : Kok kX0_mark 4 := ⟨⟨_, rfl⟩, by decide +kernel, by decide⟩
theorem kkX0_meanBetween : Kok kX0_meanBetween 2 := ⟨⟨_, rfl⟩, by decide +kernel, by decide⟩
theorem kkX0_minutesOf : Kok kX0_minutesOf 1 := ⟨⟨_, rfl⟩, by decide +kernel, by decide⟩
theorem kkX0_mixed : Kok kX0_mixed 2 := ⟨⟨_, rfl⟩, by decide +kernel, by decide⟩
theorem kkX0_mixedRound : Kok kX0_mixedRound 2 := ⟨⟨_, rfl⟩, by decide +kernel, by decide⟩
theorem kkX0_mixedRow : Kok kX0_mixedRow 2 := ⟨⟨_, rfl⟩, by decide +kernel, by decide⟩
theorem kkX0_pairScore : Kok kX0_pairScore 2 := ⟨⟨_, rfl⟩, by decide +kernel, by decide⟩
theorem kkX0_passed : Kok kX0_passed 3 := ⟨⟨_, rfl⟩, by decide +kernel, by decide⟩
theorem kkX0_passedBits : Kok kX0_passedBits 3 := ⟨⟨_, rfl⟩, by decide +kernel, by decide⟩
theorem kkX0_passesIn : Kok kX0_passesIn 3 := ⟨⟨_, rfl⟩, by decide +kernel, by decide⟩
theorem kkX0_place : Kok kX0_place 3 := ⟨⟨_, rfl⟩, by decide +kernel, by decide⟩
theorem kkX0_placeIn : Kok kX0_placeIn 2 := ⟨⟨_, rfl⟩, by decide +kernel, by decide⟩
theorem kkX0_plan : Kok kX0_plan 3 := ⟨⟨_, rfl⟩, by decide +kernel, by decide⟩
theorem kkX0_prize : Kok kX0_prize 2 := ⟨⟨_, rfl⟩, by decide +kernel, by decide⟩
theorem kkX0_programme : Kok kX0_programme 2 := ⟨⟨_, rfl⟩, by decide +kernel, by decide⟩
theorem kkX0_programmeCellOf : Kok kX0_programmeCellOf 2 := ⟨⟨_, rfl⟩, by decide +kernel, by decide⟩
theorem kkX0_pulledMean : Kok kX0_pulledMean 1 := ⟨⟨_, rfl⟩, by decide +kernel, by decide⟩
theorem kkX0_pupil : Kok kX0_pupil 3 := ⟨⟨_, rfl⟩, by decide +kernel, by decide⟩
theorem kkX0_pupilCellOf : Kok kX0_pupilCellOf 2 := ⟨⟨_, rfl⟩, by decide +kernel, by decide⟩
theorem kkX0_reach : Kok kX0_reach 5 := ⟨⟨_, rfl⟩, by decide +kernel, by decide⟩
theorem kkX0_replace : Kok kX0_replace 3 := ⟨⟨_, rfl⟩, by decide +kernel, by decide⟩
theorem kkX0_rest : Kok kX0_rest 0 := ⟨⟨_, rfl⟩, by decide +kernel, by decide⟩
theorem kkX0_rule : Kok kX0_rule 2 := ⟨⟨_, rfl⟩, by decide +kernel, by decide⟩
theorem kkX0_score : Kok kX0_score 3 := ⟨⟨_, rfl⟩, by decide +kernel, by decide⟩
theorem kkX0_scoreOf : Kok kX0_scoreOf 3 := ⟨⟨_, rfl⟩, by decide +kernel, by decide⟩
theorem kkX0_shareOf : Kok kX0_shareOf 1 := ⟨⟨_, rfl⟩, by decide +kernel, by decide⟩
theorem kkX0_sortMarks : Kok kX0_sortMarks 2 := ⟨⟨_, rfl⟩, by decide +kernel, by decide⟩
theorem kkX0_sumBetween : Kok kX0_sumBetween 2 := ⟨⟨_, rfl⟩, by decide +kernel, by decide⟩
theorem kkX0_sumOf : Kok kX0_sumOf 1 := ⟨⟨_, rfl⟩, by decide +kernel, by decide⟩
theorem kkX0_sway : Kok kX0_sway 4 := ⟨⟨_, rfl⟩, by decide +kernel, by decide⟩
theorem kkX0_total : Kok kX0_total 1 := ⟨⟨_, rfl⟩, by decide +kernel, by decide⟩
theorem kkX0_totalOf : Kok kX0_totalOf 1 := ⟨⟨_, rfl⟩, by decide +kernel, by decide⟩
theorem kkX0_weight : Kok kX0_weight 2 := ⟨⟨_, rfl⟩, by decide +kernel, by decide⟩
theorem kkX0_wins : Kok kX0_wins 1 := ⟨⟨_, rfl⟩, by decide +kernel, by decide⟩
theorem kkX0_work : Kok kX0_work 2 := ⟨⟨_, rfl⟩, by decide +kernel, by decide⟩
theorem kkX0_yes : Kok kX0_yes 4 := ⟨⟨_, rfl⟩, by decide +kernel, by decide⟩
theorem kkX1_beats : Kok kX1_beats 3 := ⟨⟨_, rfl⟩, by decide +kernel, by decide⟩
theorem kkX1_beatsOf : Kok kX1_beatsOf 3 := ⟨⟨_, rfl⟩, by decide +kernel, by decide⟩
theorem kkX1_begin : Kok kX1_begin 0 := ⟨⟨_, rfl⟩, by decide +kernel, by decide⟩
theorem kkX1_chosen : Kok kX1_chosen 1 := ⟨⟨_, rfl⟩, by decide +kernel, by decide⟩
theorem kkX1_chosenOf : Kok kX1_chosenOf 1 := ⟨⟨_, rfl⟩, by decide +kernel, by decide⟩
theorem kkX1_contest : Kok kX1_contest 2 := ⟨⟨_, rfl⟩, by decide +kernel, by decide⟩
theorem kkX1_count : Kok kX1_count 1 := ⟨⟨_, rfl⟩, by decide +kernel, by decide⟩
theorem kkX1_counts : Kok kX1_counts 3 := ⟨⟨_, rfl⟩, by decide +kernel, by decide⟩
theorem kkX1_cutOf : Kok kX1_cutOf 0 := ⟨⟨_, rfl⟩, by decide +kernel, by decide⟩
theorem kkX1_differ : Kok kX1_differ 4 := ⟨⟨_, rfl⟩, by decide +kernel, by decide⟩
theorem kkX1_digest : Kok kX1_digest 0 := ⟨⟨_, rfl⟩, by decide +kernel, by decide⟩
theorem kkX1_drawn : Kok kX1_drawn 2 := ⟨⟨_, rfl⟩, by decide +kernel, by decide⟩
theorem kkX1_gather : Kok kX1_gather 2 := ⟨⟨_, rfl⟩, by decide +kernel, by decide⟩
theorem kkX1_hasMark : Kok kX1_hasMark 2 := ⟨⟨_, rfl⟩, by decide +kernel, by decide⟩
theorem kkX1_hear : Kok kX1_hear 2 := ⟨⟨_, rfl⟩, by decide +kernel, by decide⟩
theorem kkX1_heard : Kok kX1_heard 1 := ⟨⟨_, rfl⟩, by decide +kernel, by decide⟩
theorem kkX1_in : Kok kX1_in 3 := ⟨⟨_, rfl⟩, by decide +kernel, by decide⟩
theorem kkX1_isJuror : Kok kX1_isJuror 1 := ⟨⟨_, rfl⟩, by decide +kernel, by decide⟩
theorem kkX1_isPlayer : Kok kX1_isPlayer 1 := ⟨⟨_, rfl⟩, by decide +kernel, by decide⟩
theorem kkX1_isRound : Kok kX1_isRound 1 := ⟨⟨_, rfl⟩, by decide +kernel, by decide⟩
theorem kkX1_last : Kok kX1_last 1 := ⟨⟨_, rfl⟩, by decide +kernel, by decide⟩
theorem kkX1_lastOf : Kok kX1_lastOf 1 := ⟨⟨_, rfl⟩, by decide +kernel, by decide⟩
theorem kkX1_mark : Kok kX1_mark 4 := ⟨⟨_, rfl⟩, by decide +kernel, by decide⟩
theorem kkX1_mayBe : Kok kX1_mayBe 4 := ⟨⟨_, rfl⟩, by decide +kernel, by decide⟩
theorem kkX1_mix : Kok kX1_mix 1 := ⟨⟨_, rfl⟩, by decide +kernel, by decide⟩
theorem kkX1_note : Kok kX1_note 4 := ⟨⟨_, rfl⟩, by decide +kernel, by decide⟩
theorem kkX1_pairsOf : Kok kX1_pairsOf 2 := ⟨⟨_, rfl⟩, by decide +kernel, by decide⟩
theorem kkX1_passed : Kok kX1_passed 3 := ⟨⟨_, rfl⟩, by decide +kernel, by decide⟩
theorem kkX1_passedOf : Kok kX1_passedOf 3 := ⟨⟨_, rfl⟩, by decide +kernel, by decide⟩
theorem kkX1_passes : Kok kX1_passes 4 := ⟨⟨_, rfl⟩, by decide +kernel, by decide⟩
theorem kkX1_place : Kok kX1_place 3 := ⟨⟨_, rfl⟩, by decide +kernel, by decide⟩
theorem kkX1_placeOf : Kok kX1_placeOf 3 := ⟨⟨_, rfl⟩, by decide +kernel, by decide⟩
theorem kkX1_plan : Kok kX1_plan 3 := ⟨⟨_, rfl⟩, by decide +kernel, by decide⟩
theorem kkX1_prize : Kok kX1_prize 2 := ⟨⟨_, rfl⟩, by decide +kernel, by decide⟩
theorem kkX1_programme : Kok kX1_programme 2 := ⟨⟨_, rfl⟩, by decide +kernel, by decide⟩
theorem kkX1_pulledOf : Kok kX1_pulledOf 0 := ⟨⟨_, rfl⟩, by decide +kernel, by decide⟩
theorem kkX1_pupil : Kok kX1_pupil 3 := ⟨⟨_, rfl⟩, by decide +kernel, by decide⟩
theorem kkX1_reach : Kok kX1_reach 5 := ⟨⟨_, rfl⟩, by decide +kernel, by decide⟩
theorem kkX1_rest : Kok kX1_rest 0 := ⟨⟨_, rfl⟩, by decide +kernel, by decide⟩
theorem kkX1_rule : Kok kX1_rule 2 := ⟨⟨_, rfl⟩, by decide +kernel, by decide⟩
theorem kkX1_score : Kok kX1_score 3 := ⟨⟨_, rfl⟩, by decide +kernel, by decide⟩
theorem kkX1_scoreOf : Kok kX1_scoreOf 3 := ⟨⟨_, rfl⟩, by decide +kernel, by decide⟩
theorem kkX1_seek : Kok kX1_seek 5 := ⟨⟨_, rfl⟩, by decide +kernel, by decide⟩
theorem kkX1_sway : Kok kX1_sway 4 := ⟨⟨_, rfl⟩, by decide +kernel, by decide⟩
theorem kkX1_total : Kok kX1_total 1 := ⟨⟨_, rfl⟩, by decide +kernel, by decide⟩
theorem kkX1_totalOf : Kok kX1_totalOf 1 := ⟨⟨_, rfl⟩, by decide +kernel, by decide⟩
theorem kkX1_weight : Kok kX1_weight 2 := ⟨⟨_, rfl⟩, by decide +kernel, by decide⟩
theorem kkX1_wins : Kok kX1_wins 1 := ⟨⟨_, rfl⟩, by decide +kernel, by decide⟩
theorem kkX1_winsOf : Kok kX1_winsOf 1 := ⟨⟨_, rfl⟩, by decide +kernel, by decide⟩
theorem kkX1_work : Kok kX1_work 2 := ⟨⟨_, rfl⟩, by decide +kernel, by decide⟩
theorem kkX1_yes : Kok kX1_yes 4 := ⟨⟨_, rfl⟩, by decide +kernel, by decide⟩
theorem kkX1_yesOf : Kok kX1_yesOf 2 := ⟨⟨_, rfl⟩, by decide +kernel, by decide⟩
theorem inX0_choosesFrom : ∀ w ∈ wsX00, w ∈ wsX0_choosesFrom := fun _ h => List.mem_cons_of_mem _ (List.mem_append_right _ h)
theorem inX0_choosesWith : ∀ w ∈ wsX00, w ∈ wsX0_choosesWith := fun _ h => List.mem_cons_of_mem _ (List.mem_append_right _ h)
theorem inX0_chosen : ∀ w ∈ wsX00, w ∈ wsX0_chosen := fun _ h => List.mem_cons_of_mem _ (List.mem_append_right _ h)
theorem inX0_clearAll : ∀ w ∈ wsX00, w ∈ wsX0_clearAll := fun _ h => List.mem_cons_of_mem _ (List.mem_append_right _ h)
theorem inX0_contest : ∀ w ∈ wsX00, w ∈ wsX0_contest := fun _ h => List.mem_cons_of_mem _ (List.mem_append_right _ h)
theorem inX0_count : ∀ w ∈ wsX00, w ∈ wsX0_count := fun _ h => List.mem_cons_of_mem _ (List.mem_append_right _ h)
theorem inX0_countMarks : ∀ w ∈ wsX00, w ∈ wsX0_countMarks := fun _ h => List.mem_cons_of_mem _ (List.mem_append_right _ h)
theorem inX0_countYeses : ∀ w ∈ wsX00, w ∈ wsX0_countYeses := fun _ h => List.mem_cons_of_mem _ (List.mem_append_right _ h)
theorem inX0_countedMark : ∀ w ∈ wsX00, w ∈ wsX0_countedMark := fun _ h => List.mem_cons_of_mem _ (List.mem_append_right _ h)
theorem inX0_cutMean : ∀ w ∈ wsX00, w ∈ wsX0_cutMean := fun _ h => List.mem_cons_of_mem _ (List.mem_append_right _ h)
theorem inX0_digest : ∀ w ∈ wsX00, w ∈ wsX0_digest := fun _ h => List.mem_cons_of_mem _ (List.mem_append_right _ h)
theorem inX0_drawn : ∀ w ∈ wsX00, w ∈ wsX0_drawn := fun _ h => List.mem_cons_of_mem _ (List.mem_append_right _ h)
theorem inX0_duel : ∀ w ∈ wsX00, w ∈ wsX0_duel := fun _ h => List.mem_cons_of_mem _ (List.mem_append_right _ h)
theorem inX0_fillFitting : ∀ w ∈ wsX00, w ∈ wsX0_fillFitting := fun _ h => List.mem_cons_of_mem _ (List.mem_append_right _ h)
theorem inX0_fillScores : ∀ w ∈ wsX00, w ∈ wsX0_fillScores := fun _ h => List.mem_cons_of_mem _ (List.mem_append_right _ h)
theorem inX0_fillScoresIf : ∀ w ∈ wsX00, w ∈ wsX0_fillScoresIf := fun _ h => List.mem_cons_of_mem _ (List.mem_append_right _ h)
theorem inX0_fillTotals : ∀ w ∈ wsX00, w ∈ wsX0_fillTotals := fun _ h => List.mem_cons_of_mem _ (List.mem_append_right _ h)
theorem inX0_heard : ∀ w ∈ wsX00, w ∈ wsX0_heard := fun _ h => List.mem_cons_of_mem _ (List.mem_append_right _ h)
theorem inX0_insertMark : ∀ w ∈ wsX00, w ∈ wsX0_insertMark := fun _ h => List.mem_cons_of_mem _ (List.mem_append_right _ h)
theorem inX0_isJuror : ∀ w ∈ wsX00, w ∈ wsX0_isJuror := fun _ h => List.mem_cons_of_mem _ (List.mem_append_right _ h)
theorem inX0_isMarked : ∀ w ∈ wsX00, w ∈ wsX0_isMarked := fun _ h => List.mem_cons_of_mem _ (List.mem_append_right _ h)
theorem inX0_isPlayer : ∀ w ∈ wsX00, w ∈ wsX0_isPlayer := fun _ h => List.mem_cons_of_mem _ (List.mem_append_right _ h)
theorem inX0_isPupil : ∀ w ∈ wsX00, w ∈ wsX0_isPupil := fun _ h => List.mem_cons_of_mem _ (List.mem_append_right _ h)
theorem inX0_last : ∀ w ∈ wsX00, w ∈ wsX0_last := fun _ h => List.mem_cons_of_mem _ (List.mem_append_right _ h)
theorem inX0_mark : ∀ w ∈ wsX00, w ∈ wsX0_mark := fun _ h => List.mem_cons_of_mem _ (List.mem_append_right _ h)
theorem inX0_minutesOf : ∀ w ∈ wsX00, w ∈ wsX0_minutesOf := fun _ h => List.mem_cons_of_mem _ (List.mem_append_right _ h)
theorem inX0_mixedRound : ∀ w ∈ wsX00, w ∈ wsX0_mixedRound := fun _ h => List.mem_cons_of_mem _ (List.mem_append_right _ h)
theorem inX0_pairScore : ∀ w ∈ wsX00, w ∈ wsX0_pairScore := fun _ h => List.mem_cons_of_mem _ (List.mem_append_right _ h)
theorem inX0_passedBits : ∀ w ∈ wsX00, w ∈ wsX0_passedBits := fun _ h => List.mem_cons_of_mem _ (List.mem_append_right _ h)
theorem inX0_place : ∀ w ∈ wsX00, w ∈ wsX0_place := fun _ h => List.mem_cons_of_mem _ (List.mem_append_right _ h)
theorem inX0_placeIn : ∀ w ∈ wsX00, w ∈ wsX0_placeIn := fun _ h => List.mem_cons_of_mem _ (List.mem_append_right _ h)
theorem inX0_plan : ∀ w ∈ wsX00, w ∈ wsX0_plan := fun _ h => List.mem_cons_of_mem _ (List.mem_append_right _ h)
theorem inX0_prize : ∀ w ∈ wsX00, w ∈ wsX0_prize := fun _ h => List.mem_cons_of_mem _ (List.mem_append_right _ h)
theorem inX0_programme : ∀ w ∈ wsX00, w ∈ wsX0_programme := fun _ h => List.mem_cons_of_mem _ (List.mem_append_right _ h)
theorem inX0_pulledMean : ∀ w ∈ wsX00, w ∈ wsX0_pulledMean := fun _ h => List.mem_cons_of_mem _ (List.mem_append_right _ h)
theorem inX0_pupil : ∀ w ∈ wsX00, w ∈ wsX0_pupil := fun _ h => List.mem_cons_of_mem _ (List.mem_append_right _ h)
theorem inX0_reach : ∀ w ∈ wsX00, w ∈ wsX0_reach := fun _ h => List.mem_cons_of_mem _ (List.mem_append_right _ h)
theorem inX0_rest : ∀ w ∈ wsX00, w ∈ wsX0_rest := fun _ h => List.mem_cons_of_mem _ (List.mem_append_right _ h)
theorem inX0_rule : ∀ w ∈ wsX00, w ∈ wsX0_rule := fun _ h => List.mem_cons_of_mem _ (List.mem_append_right _ h)
theorem inX0_scoreOf : ∀ w ∈ wsX00, w ∈ wsX0_scoreOf := fun _ h => List.mem_cons_of_mem _ (List.mem_append_right _ h)
theorem inX0_shareOf : ∀ w ∈ wsX00, w ∈ wsX0_shareOf := fun _ h => List.mem_cons_of_mem _ (List.mem_append_right _ h)
theorem inX0_sortMarks : ∀ w ∈ wsX00, w ∈ wsX0_sortMarks := fun _ h => List.mem_cons_of_mem _ (List.mem_append_right _ h)
theorem inX0_sumBetween : ∀ w ∈ wsX00, w ∈ wsX0_sumBetween := fun _ h => List.mem_cons_of_mem _ (List.mem_append_right _ h)
theorem inX0_sway : ∀ w ∈ wsX00, w ∈ wsX0_sway := fun _ h => List.mem_cons_of_mem _ (List.mem_append_right _ h)
theorem inX0_totalOf : ∀ w ∈ wsX00, w ∈ wsX0_totalOf := fun _ h => List.mem_cons_of_mem _ (List.mem_append_right _ h)
theorem inX0_weight : ∀ w ∈ wsX00, w ∈ wsX0_weight := fun _ h => List.mem_cons_of_mem _ (List.mem_append_right _ h)
theorem inX0_work : ∀ w ∈ wsX00, w ∈ wsX0_work := fun _ h => List.mem_cons_of_mem _ (List.mem_append_right _ h)
theorem inX0_yes : ∀ w ∈ wsX00, w ∈ wsX0_yes := fun _ h => List.mem_cons_of_mem _ (List.mem_append_right _ h)
theorem inX1_beatsOf : ∀ w ∈ wsX10, w ∈ wsX1_beatsOf := fun _ h => List.mem_cons_of_mem _ (List.mem_append_right _ h)
theorem inX1_begin : ∀ w ∈ wsX10, w ∈ wsX1_begin := fun _ h => List.mem_cons_of_mem _ (List.mem_append_right _ h)
theorem inX1_chosenOf : ∀ w ∈ wsX10, w ∈ wsX1_chosenOf := fun _ h => List.mem_cons_of_mem _ (List.mem_append_right _ h)
theorem inX1_contest : ∀ w ∈ wsX10, w ∈ wsX1_contest := fun _ h => List.mem_cons_of_mem _ (List.mem_append_right _ h)
theorem inX1_count : ∀ w ∈ wsX10, w ∈ wsX1_count := fun _ h => List.mem_cons_of_mem _ (List.mem_append_right _ h)
theorem inX1_counts : ∀ w ∈ wsX10, w ∈ wsX1_counts := fun _ h => List.mem_cons_of_mem _ (List.mem_append_right _ h)
theorem inX1_cutOf : ∀ w ∈ wsX10, w ∈ wsX1_cutOf := fun _ h => List.mem_cons_of_mem _ (List.mem_append_right _ h)
theorem inX1_differ : ∀ w ∈ wsX10, w ∈ wsX1_differ := fun _ h => List.mem_cons_of_mem _ (List.mem_append_right _ h)
theorem inX1_digest : ∀ w ∈ wsX10, w ∈ wsX1_digest := fun _ h => List.mem_cons_of_mem _ (List.mem_append_right _ h)
theorem inX1_drawn : ∀ w ∈ wsX10, w ∈ wsX1_drawn := fun _ h => List.mem_cons_of_mem _ (List.mem_append_right _ h)
theorem inX1_gather : ∀ w ∈ wsX10, w ∈ wsX1_gather := fun _ h => List.mem_cons_of_mem _ (List.mem_append_right _ h)
theorem inX1_hasMark : ∀ w ∈ wsX10, w ∈ wsX1_hasMark := fun _ h => List.mem_cons_of_mem _ (List.mem_append_right _ h)
theorem inX1_hear : ∀ w ∈ wsX10, w ∈ wsX1_hear := fun _ h => List.mem_cons_of_mem _ (List.mem_append_right _ h)
theorem inX1_heard : ∀ w ∈ wsX10, w ∈ wsX1_heard := fun _ h => List.mem_cons_of_mem _ (List.mem_append_right _ h)
theorem inX1_isJuror : ∀ w ∈ wsX10, w ∈ wsX1_isJuror := fun _ h => List.mem_cons_of_mem _ (List.mem_append_right _ h)
theorem inX1_isPlayer : ∀ w ∈ wsX10, w ∈ wsX1_isPlayer := fun _ h => List.mem_cons_of_mem _ (List.mem_append_right _ h)
theorem inX1_lastOf : ∀ w ∈ wsX10, w ∈ wsX1_lastOf := fun _ h => List.mem_cons_of_mem _ (List.mem_append_right _ h)
theorem inX1_mark : ∀ w ∈ wsX10, w ∈ wsX1_mark := fun _ h => List.mem_cons_of_mem _ (List.mem_append_right _ h)
theorem inX1_mayBe : ∀ w ∈ wsX10, w ∈ wsX1_mayBe := fun _ h => List.mem_cons_of_mem _ (List.mem_append_right _ h)
theorem inX1_mix : ∀ w ∈ wsX10, w ∈ wsX1_mix := fun _ h => List.mem_cons_of_mem _ (List.mem_append_right _ h)
theorem inX1_note : ∀ w ∈ wsX10, w ∈ wsX1_note := fun _ h => List.mem_cons_of_mem _ (List.mem_append_right _ h)
theorem inX1_pairsOf : ∀ w ∈ wsX10, w ∈ wsX1_pairsOf := fun _ h => List.mem_cons_of_mem _ (List.mem_append_right _ h)
theorem inX1_passedOf : ∀ w ∈ wsX10, w ∈ wsX1_passedOf := fun _ h => List.mem_cons_of_mem _ (List.mem_append_right _ h)
theorem inX1_placeOf : ∀ w ∈ wsX10, w ∈ wsX1_placeOf := fun _ h => List.mem_cons_of_mem _ (List.mem_append_right _ h)
theorem inX1_plan : ∀ w ∈ wsX10, w ∈ wsX1_plan := fun _ h => List.mem_cons_of_mem _ (List.mem_append_right _ h)
theorem inX1_prize : ∀ w ∈ wsX10, w ∈ wsX1_prize := fun _ h => List.mem_cons_of_mem _ (List.mem_append_right _ h)
theorem inX1_programme : ∀ w ∈ wsX10, w ∈ wsX1_programme := fun _ h => List.mem_cons_of_mem _ (List.mem_append_right _ h)
theorem inX1_pulledOf : ∀ w ∈ wsX10, w ∈ wsX1_pulledOf := fun _ h => List.mem_cons_of_mem _ (List.mem_append_right _ h)
theorem inX1_pupil : ∀ w ∈ wsX10, w ∈ wsX1_pupil := fun _ h => List.mem_cons_of_mem _ (List.mem_append_right _ h)
theorem inX1_reach : ∀ w ∈ wsX10, w ∈ wsX1_reach := fun _ h => List.mem_cons_of_mem _ (List.mem_append_right _ h)
theorem inX1_rest : ∀ w ∈ wsX10, w ∈ wsX1_rest := fun _ h => List.mem_cons_of_mem _ (List.mem_append_right _ h)
theorem inX1_rule : ∀ w ∈ wsX10, w ∈ wsX1_rule := fun _ h => List.mem_cons_of_mem _ (List.mem_append_right _ h)
theorem inX1_scoreOf : ∀ w ∈ wsX10, w ∈ wsX1_scoreOf := fun _ h => List.mem_cons_of_mem _ (List.mem_append_right _ h)
theorem inX1_seek : ∀ w ∈ wsX10, w ∈ wsX1_seek := fun _ h => List.mem_cons_of_mem _ (List.mem_append_right _ h)
theorem inX1_sway : ∀ w ∈ wsX10, w ∈ wsX1_sway := fun _ h => List.mem_cons_of_mem _ (List.mem_append_right _ h)
theorem inX1_totalOf : ∀ w ∈ wsX10, w ∈ wsX1_totalOf := fun _ h => List.mem_cons_of_mem _ (List.mem_append_right _ h)
theorem inX1_weight : ∀ w ∈ wsX10, w ∈ wsX1_weight := fun _ h => List.mem_cons_of_mem _ (List.mem_append_right _ h)
theorem inX1_winsOf : ∀ w ∈ wsX10, w ∈ wsX1_winsOf := fun _ h => List.mem_cons_of_mem _ (List.mem_append_right _ h)
theorem inX1_work : ∀ w ∈ wsX10, w ∈ wsX1_work := fun _ h => List.mem_cons_of_mem _ (List.mem_append_right _ h)
theorem inX1_yes : ∀ w ∈ wsX10, w ∈ wsX1_yes := fun _ h => List.mem_cons_of_mem _ (List.mem_append_right _ h)
theorem inX1_yesOf : ∀ w ∈ wsX10, w ∈ wsX1_yesOf := fun _ h => List.mem_cons_of_mem _ (List.mem_append_right _ h)
theorem fX0_choosesFrom_7 : Fok GX kX0_choosesFrom 7 0 0 := ⟨GXok, inX0_choosesFrom, GX1, ⟨_, rfl, rfl⟩, rfl, by decide, by decide +kernel⟩
theorem fX0_choosesFrom_41 : Fok GX kX0_choosesFrom 41 10 11 := ⟨GXok, inX0_choosesFrom, GX1, ⟨_, rfl, rfl⟩, rfl, by decide, by decide +kernel⟩
theorem fX0_choosesWith_44 : Fok GX kX0_choosesWith 44 11 12 := ⟨GXok, inX0_choosesWith, GX1, ⟨_, rfl, rfl⟩, rfl, by decide, by decide +kernel⟩
theorem fX0_choosesWith_56 : Fok GX kX0_choosesWith 56 15 16 := ⟨GXok, inX0_choosesWith, GX1, ⟨_, rfl, rfl⟩, rfl, by decide, by decide +kernel⟩
theorem fX0_chosen_44 : Fok GX kX0_chosen 44 11 12 := ⟨GXok, inX0_chosen, GX1, ⟨_, rfl, rfl⟩, rfl, by decide, by decide +kernel⟩
theorem fX0_clearAll_16 : Fok GX kX0_clearAll 16 2 3 := ⟨GXok, inX0_clearAll, GX1, ⟨_, rfl, rfl⟩, rfl, by decide, by decide +kernel⟩
theorem fX0_clearAll_20 : Fok GX kX0_clearAll 20 3 4 := ⟨GXok, inX0_clearAll, GX1, ⟨_, rfl, rfl⟩, rfl, by decide, by decide +kernel⟩
theorem fX0_clearAll_23 : Fok GX kX0_clearAll 23 4 5 := ⟨GXok, inX0_clearAll, GX1, ⟨_, rfl, rfl⟩, rfl, by decide, by decide +kernel⟩
theorem fX0_clearAll_41 : Fok GX kX0_clearAll 41 10 11 := ⟨GXok, inX0_clearAll, GX1, ⟨_, rfl, rfl⟩, rfl, by decide, by decide +kernel⟩
theorem fX0_clearAll_44 : Fok GX kX0_clearAll 44 11 12 := ⟨GXok, inX0_clearAll, GX1, ⟨_, rfl, rfl⟩, rfl, by decide, by decide +kernel⟩
theorem fX0_contest_7 : Fok GX kX0_contest 7 0 0 := ⟨GXok, inX0_contest, GX1, ⟨_, rfl, rfl⟩, rfl, by decide, by decide +kernel⟩
theorem fX0_contest_13 : Fok GX kX0_contest 13 1 0 := ⟨GXok, inX0_contest, GX1, ⟨_, rfl, rfl⟩, rfl, by decide, by decide +kernel⟩
theorem fX0_count_7 : Fok GX kX0_count 7 0 0 := ⟨GXok, inX0_count, GX1, ⟨_, rfl, rfl⟩, rfl, by decide, by decide +kernel⟩
theorem fX0_count_13 : Fok GX kX0_count 13 1 0 := ⟨GXok, inX0_count, GX1, ⟨_, rfl, rfl⟩, rfl, by decide, by decide +kernel⟩
theorem fX0_count_20 : Fok GX kX0_count 20 3 4 := ⟨GXok, inX0_count, GX1, ⟨_, rfl, rfl⟩, rfl, by decide, by decide +kernel⟩
theorem fX0_count_23 : Fok GX kX0_count 23 4 5 := ⟨GXok, inX0_count, GX1, ⟨_, rfl, rfl⟩, rfl, by decide, by decide +kernel⟩
theorem fX0_count_41 : Fok GX kX0_count 41 10 11 := ⟨GXok, inX0_count, GX1, ⟨_, rfl, rfl⟩, rfl, by decide, by decide +kernel⟩
theorem fX0_countMarks_16 : Fok GX kX0_countMarks 16 2 3 := ⟨GXok, inX0_countMarks, GX1, ⟨_, rfl, rfl⟩, rfl, by decide, by decide +kernel⟩
theorem fX0_countYeses_13 : Fok GX kX0_countYeses 13 1 0 := ⟨GXok, inX0_countYeses, GX1, ⟨_, rfl, rfl⟩, rfl, by decide, by decide +kernel⟩
theorem fX0_countYeses_20 : Fok GX kX0_countYeses 20 3 4 := ⟨GXok, inX0_countYeses, GX1, ⟨_, rfl, rfl⟩, rfl, by decide, by decide +kernel⟩
theorem fX0_countedMark_16 : Fok GX kX0_countedMark 16 2 3 := ⟨GXok, inX0_countedMark, GX1, ⟨_, rfl, rfl⟩, rfl, by decide, by decide +kernel⟩
theorem fX0_countedMark_23 : Fok GX kX0_countedMark 23 4 5 := ⟨GXok, inX0_countedMark, GX1, ⟨_, rfl, rfl⟩, rfl, by decide, by decide +kernel⟩
theorem fX0_cutMean_26 : Fok GX kX0_cutMean 26 5 6 := ⟨GXok, inX0_cutMean, GX1, ⟨_, rfl, rfl⟩, rfl, by decide, by decide +kernel⟩
theorem fX0_digest_7 : Fok GX kX0_digest 7 0 0 := ⟨GXok, inX0_digest, GX1, ⟨_, rfl, rfl⟩, rfl, by decide, by decide +kernel⟩
theorem fX0_digest_13 : Fok GX kX0_digest 13 1 0 := ⟨GXok, inX0_digest, GX1, ⟨_, rfl, rfl⟩, rfl, by decide, by decide +kernel⟩
theorem fX0_digest_23 : Fok GX kX0_digest 23 4 5 := ⟨GXok, inX0_digest, GX1, ⟨_, rfl, rfl⟩, rfl, by decide, by decide +kernel⟩
theorem fX0_digest_26 : Fok GX kX0_digest 26 5 6 := ⟨GXok, inX0_digest, GX1, ⟨_, rfl, rfl⟩, rfl, by decide, by decide +kernel⟩
theorem fX0_digest_29 : Fok GX kX0_digest 29 6 7 := ⟨GXok, inX0_digest, GX1, ⟨_, rfl, rfl⟩, rfl, by decide, by decide +kernel⟩
theorem fX0_digest_32 : Fok GX kX0_digest 32 7 8 := ⟨GXok, inX0_digest, GX1, ⟨_, rfl, rfl⟩, rfl, by decide, by decide +kernel⟩
theorem fX0_digest_35 : Fok GX kX0_digest 35 8 9 := ⟨GXok, inX0_digest, GX1, ⟨_, rfl, rfl⟩, rfl, by decide, by decide +kernel⟩
theorem fX0_digest_38 : Fok GX kX0_digest 38 9 10 := ⟨GXok, inX0_digest, GX1, ⟨_, rfl, rfl⟩, rfl, by decide, by decide +kernel⟩
theorem fX0_digest_41 : Fok GX kX0_digest 41 10 11 := ⟨GXok, inX0_digest, GX1, ⟨_, rfl, rfl⟩, rfl, by decide, by decide +kernel⟩
theorem fX0_digest_44 : Fok GX kX0_digest 44 11 12 := ⟨GXok, inX0_digest, GX1, ⟨_, rfl, rfl⟩, rfl, by decide, by decide +kernel⟩
theorem fX0_drawn_7 : Fok GX kX0_drawn 7 0 0 := ⟨GXok, inX0_drawn, GX1, ⟨_, rfl, rfl⟩, rfl, by decide, by decide +kernel⟩
theorem fX0_duel_13 : Fok GX kX0_duel 13 1 0 := ⟨GXok, inX0_duel, GX1, ⟨_, rfl, rfl⟩, rfl, by decide, by decide +kernel⟩
theorem fX0_fillFitting_7 : Fok GX kX0_fillFitting 7 0 0 := ⟨GXok, inX0_fillFitting, GX1, ⟨_, rfl, rfl⟩, rfl, by decide, by decide +kernel⟩
theorem fX0_fillFitting_38 : Fok GX kX0_fillFitting 38 9 10 := ⟨GXok, inX0_fillFitting, GX1, ⟨_, rfl, rfl⟩, rfl, by decide, by decide +kernel⟩
theorem fX0_fillFitting_41 : Fok GX kX0_fillFitting 41 10 11 := ⟨GXok, inX0_fillFitting, GX1, ⟨_, rfl, rfl⟩, rfl, by decide, by decide +kernel⟩
theorem fX0_fillFitting_56 : Fok GX kX0_fillFitting 56 15 16 := ⟨GXok, inX0_fillFitting, GX1, ⟨_, rfl, rfl⟩, rfl, by decide, by decide +kernel⟩
theorem fX0_fillScores_7 : Fok GX kX0_fillScores 7 0 0 := ⟨GXok, inX0_fillScores, GX1, ⟨_, rfl, rfl⟩, rfl, by decide, by decide +kernel⟩
theorem fX0_fillScores_50 : Fok GX kX0_fillScores 50 13 14 := ⟨GXok, inX0_fillScores, GX1, ⟨_, rfl, rfl⟩, rfl, by decide, by decide +kernel⟩
theorem fX0_fillScoresIf_16 : Fok GX kX0_fillScoresIf 16 2 3 := ⟨GXok, inX0_fillScoresIf, GX1, ⟨_, rfl, rfl⟩, rfl, by decide, by decide +kernel⟩
theorem fX0_fillScoresIf_20 : Fok GX kX0_fillScoresIf 20 3 4 := ⟨GXok, inX0_fillScoresIf, GX1, ⟨_, rfl, rfl⟩, rfl, by decide, by decide +kernel⟩
theorem fX0_fillTotals_7 : Fok GX kX0_fillTotals 7 0 0 := ⟨GXok, inX0_fillTotals, GX1, ⟨_, rfl, rfl⟩, rfl, by decide, by decide +kernel⟩
theorem fX0_fillTotals_53 : Fok GX kX0_fillTotals 53 14 15 := ⟨GXok, inX0_fillTotals, GX1, ⟨_, rfl, rfl⟩, rfl, by decide, by decide +kernel⟩
theorem fX0_heard_7 : Fok GX kX0_heard 7 0 0 := ⟨GXok, inX0_heard, GX1, ⟨_, rfl, rfl⟩, rfl, by decide, by decide +kernel⟩
theorem fX0_heard_38 : Fok GX kX0_heard 38 9 10 := ⟨GXok, inX0_heard, GX1, ⟨_, rfl, rfl⟩, rfl, by decide, by decide +kernel⟩
theorem fX0_heard_44 : Fok GX kX0_heard 44 11 12 := ⟨GXok, inX0_heard, GX1, ⟨_, rfl, rfl⟩, rfl, by decide, by decide +kernel⟩
theorem fX0_insertMark_47 : Fok GX kX0_insertMark 47 12 13 := ⟨GXok, inX0_insertMark, GX1, ⟨_, rfl, rfl⟩, rfl, by decide, by decide +kernel⟩
theorem fX0_isJuror_13 : Fok GX kX0_isJuror 13 1 0 := ⟨GXok, inX0_isJuror, GX1, ⟨_, rfl, rfl⟩, rfl, by decide, by decide +kernel⟩
theorem fX0_isMarked_13 : Fok GX kX0_isMarked 13 1 0 := ⟨GXok, inX0_isMarked, GX1, ⟨_, rfl, rfl⟩, rfl, by decide, by decide +kernel⟩
theorem fX0_isPlayer_7 : Fok GX kX0_isPlayer 7 0 0 := ⟨GXok, inX0_isPlayer, GX1, ⟨_, rfl, rfl⟩, rfl, by decide, by decide +kernel⟩
theorem fX0_isPupil_23 : Fok GX kX0_isPupil 23 4 5 := ⟨GXok, inX0_isPupil, GX1, ⟨_, rfl, rfl⟩, rfl, by decide, by decide +kernel⟩
theorem fX0_last_53 : Fok GX kX0_last 53 14 15 := ⟨GXok, inX0_last, GX1, ⟨_, rfl, rfl⟩, rfl, by decide, by decide +kernel⟩
theorem fX0_mark_16 : Fok GX kX0_mark 16 2 3 := ⟨GXok, inX0_mark, GX1, ⟨_, rfl, rfl⟩, rfl, by decide, by decide +kernel⟩
theorem fX0_minutesOf_35 : Fok GX kX0_minutesOf 35 8 9 := ⟨GXok, inX0_minutesOf, GX1, ⟨_, rfl, rfl⟩, rfl, by decide, by decide +kernel⟩
theorem fX0_mixedRound_7 : Fok GX kX0_mixedRound 7 0 0 := ⟨GXok, inX0_mixedRound, GX1, ⟨_, rfl, rfl⟩, rfl, by decide, by decide +kernel⟩
theorem fX0_mixedRound_13 : Fok GX kX0_mixedRound 13 1 0 := ⟨GXok, inX0_mixedRound, GX1, ⟨_, rfl, rfl⟩, rfl, by decide, by decide +kernel⟩
theorem fX0_mixedRound_16 : Fok GX kX0_mixedRound 16 2 3 := ⟨GXok, inX0_mixedRound, GX1, ⟨_, rfl, rfl⟩, rfl, by decide, by decide +kernel⟩
theorem fX0_mixedRound_20 : Fok GX kX0_mixedRound 20 3 4 := ⟨GXok, inX0_mixedRound, GX1, ⟨_, rfl, rfl⟩, rfl, by decide, by decide +kernel⟩
theorem fX0_pairScore_7 : Fok GX kX0_pairScore 7 0 0 := ⟨GXok, inX0_pairScore, GX1, ⟨_, rfl, rfl⟩, rfl, by decide, by decide +kernel⟩
theorem fX0_passedBits_7 : Fok GX kX0_passedBits 7 0 0 := ⟨GXok, inX0_passedBits, GX1, ⟨_, rfl, rfl⟩, rfl, by decide, by decide +kernel⟩
theorem fX0_passedBits_50 : Fok GX kX0_passedBits 50 13 14 := ⟨GXok, inX0_passedBits, GX1, ⟨_, rfl, rfl⟩, rfl, by decide, by decide +kernel⟩
theorem fX0_place_50 : Fok GX kX0_place 50 13 14 := ⟨GXok, inX0_place, GX1, ⟨_, rfl, rfl⟩, rfl, by decide, by decide +kernel⟩
theorem fX0_placeIn_7 : Fok GX kX0_placeIn 7 0 0 := ⟨GXok, inX0_placeIn, GX1, ⟨_, rfl, rfl⟩, rfl, by decide, by decide +kernel⟩
theorem fX0_plan_44 : Fok GX kX0_plan 44 11 12 := ⟨GXok, inX0_plan, GX1, ⟨_, rfl, rfl⟩, rfl, by decide, by decide +kernel⟩
theorem fX0_prize_32 : Fok GX kX0_prize 32 7 8 := ⟨GXok, inX0_prize, GX1, ⟨_, rfl, rfl⟩, rfl, by decide, by decide +kernel⟩
theorem fX0_programme_38 : Fok GX kX0_programme 38 9 10 := ⟨GXok, inX0_programme, GX1, ⟨_, rfl, rfl⟩, rfl, by decide, by decide +kernel⟩
theorem fX0_programme_41 : Fok GX kX0_programme 41 10 11 := ⟨GXok, inX0_programme, GX1, ⟨_, rfl, rfl⟩, rfl, by decide, by decide +kernel⟩
theorem fX0_pulledMean_26 : Fok GX kX0_pulledMean 26 5 6 := ⟨GXok, inX0_pulledMean, GX1, ⟨_, rfl, rfl⟩, rfl, by decide, by decide +kernel⟩
theorem fX0_pulledMean_47 : Fok GX kX0_pulledMean 47 12 13 := ⟨GXok, inX0_pulledMean, GX1, ⟨_, rfl, rfl⟩, rfl, by decide, by decide +kernel⟩
theorem fX0_pupil_23 : Fok GX kX0_pupil 23 4 5 := ⟨GXok, inX0_pupil, GX1, ⟨_, rfl, rfl⟩, rfl, by decide, by decide +kernel⟩
theorem fX0_reach_50 : Fok GX kX0_reach 50 13 14 := ⟨GXok, inX0_reach, GX1, ⟨_, rfl, rfl⟩, rfl, by decide, by decide +kernel⟩
theorem fX0_rest_7 : Fok GX kX0_rest 7 0 0 := ⟨GXok, inX0_rest, GX1, ⟨_, rfl, rfl⟩, rfl, by decide, by decide +kernel⟩
theorem fX0_rest_32 : Fok GX kX0_rest 32 7 8 := ⟨GXok, inX0_rest, GX1, ⟨_, rfl, rfl⟩, rfl, by decide, by decide +kernel⟩
theorem fX0_rule_26 : Fok GX kX0_rule 26 5 6 := ⟨GXok, inX0_rule, GX1, ⟨_, rfl, rfl⟩, rfl, by decide, by decide +kernel⟩
theorem fX0_scoreOf_47 : Fok GX kX0_scoreOf 47 12 13 := ⟨GXok, inX0_scoreOf, GX1, ⟨_, rfl, rfl⟩, rfl, by decide, by decide +kernel⟩
theorem fX0_shareOf_7 : Fok GX kX0_shareOf 7 0 0 := ⟨GXok, inX0_shareOf, GX1, ⟨_, rfl, rfl⟩, rfl, by decide, by decide +kernel⟩
theorem fX0_shareOf_32 : Fok GX kX0_shareOf 32 7 8 := ⟨GXok, inX0_shareOf, GX1, ⟨_, rfl, rfl⟩, rfl, by decide, by decide +kernel⟩
theorem fX0_shareOf_53 : Fok GX kX0_shareOf 53 14 15 := ⟨GXok, inX0_shareOf, GX1, ⟨_, rfl, rfl⟩, rfl, by decide, by decide +kernel⟩
theorem fX0_sortMarks_13 : Fok GX kX0_sortMarks 13 1 0 := ⟨GXok, inX0_sortMarks, GX1, ⟨_, rfl, rfl⟩, rfl, by decide, by decide +kernel⟩
theorem fX0_sumBetween_47 : Fok GX kX0_sumBetween 47 12 13 := ⟨GXok, inX0_sumBetween, GX1, ⟨_, rfl, rfl⟩, rfl, by decide, by decide +kernel⟩
theorem fX0_sway_7 : Fok GX kX0_sway 7 0 0 := ⟨GXok, inX0_sway, GX1, ⟨_, rfl, rfl⟩, rfl, by decide, by decide +kernel⟩
theorem fX0_sway_50 : Fok GX kX0_sway 50 13 14 := ⟨GXok, inX0_sway, GX1, ⟨_, rfl, rfl⟩, rfl, by decide, by decide +kernel⟩
theorem fX0_totalOf_29 : Fok GX kX0_totalOf 29 6 7 := ⟨GXok, inX0_totalOf, GX1, ⟨_, rfl, rfl⟩, rfl, by decide, by decide +kernel⟩
theorem fX0_weight_29 : Fok GX kX0_weight 29 6 7 := ⟨GXok, inX0_weight, GX1, ⟨_, rfl, rfl⟩, rfl, by decide, by decide +kernel⟩
theorem fX0_work_35 : Fok GX kX0_work 35 8 9 := ⟨GXok, inX0_work, GX1, ⟨_, rfl, rfl⟩, rfl, by decide, by decide +kernel⟩
theorem fX0_yes_20 : Fok GX kX0_yes 20 3 4 := ⟨GXok, inX0_yes, GX1, ⟨_, rfl, rfl⟩, rfl, by decide, by decide +kernel⟩
theorem fX1_beatsOf_13 : Fok GM kX1_beatsOf 13 1 0 := ⟨GMok, inX1_beatsOf, GM1, ⟨_, rfl, rfl⟩, rfl, by decide, by decide +kernel⟩
theorem fX1_beatsOf_16 : Fok GM kX1_beatsOf 16 2 3 := ⟨GMok, inX1_beatsOf, GM1, ⟨_, rfl, rfl⟩, rfl, by decide, by decide +kernel⟩
theorem fX1_begin_16 : Fok GM kX1_begin 16 2 3 := ⟨GMok, inX1_begin, GM1, ⟨_, rfl, rfl⟩, rfl, by decide, by decide +kernel⟩
theorem fX1_begin_20 : Fok GM kX1_begin 20 3 4 := ⟨GMok, inX1_begin, GM1, ⟨_, rfl, rfl⟩, rfl, by decide, by decide +kernel⟩
theorem fX1_begin_24 : Fok GM kX1_begin 24 4 5 := ⟨GMok, inX1_begin, GM1, ⟨_, rfl, rfl⟩, rfl, by decide, by decide +kernel⟩
theorem fX1_begin_42 : Fok GM kX1_begin 42 10 9 := ⟨GMok, inX1_begin, GM1, ⟨_, rfl, rfl⟩, rfl, by decide, by decide +kernel⟩
theorem fX1_begin_60 : Fok GM kX1_begin 60 12 0 := ⟨GMok, inX1_begin, GM1, ⟨_, rfl, rfl⟩, rfl, by decide, by decide +kernel⟩
theorem fX1_chosenOf_48 : Fok GM kX1_chosenOf 48 13 11 := ⟨GMok, inX1_chosenOf, GM1, ⟨_, rfl, rfl⟩, rfl, by decide, by decide +kernel⟩
theorem fX1_chosenOf_60 : Fok GM kX1_chosenOf 60 12 0 := ⟨GMok, inX1_chosenOf, GM1, ⟨_, rfl, rfl⟩, rfl, by decide, by decide +kernel⟩
theorem fX1_contest_7 : Fok GM kX1_contest 7 0 0 := ⟨GMok, inX1_contest, GM1, ⟨_, rfl, rfl⟩, rfl, by decide, by decide +kernel⟩
theorem fX1_contest_13 : Fok GM kX1_contest 13 1 0 := ⟨GMok, inX1_contest, GM1, ⟨_, rfl, rfl⟩, rfl, by decide, by decide +kernel⟩
theorem fX1_count_7 : Fok GM kX1_count 7 0 0 := ⟨GMok, inX1_count, GM1, ⟨_, rfl, rfl⟩, rfl, by decide, by decide +kernel⟩
theorem fX1_count_13 : Fok GM kX1_count 13 1 0 := ⟨GMok, inX1_count, GM1, ⟨_, rfl, rfl⟩, rfl, by decide, by decide +kernel⟩
theorem fX1_count_16 : Fok GM kX1_count 16 2 3 := ⟨GMok, inX1_count, GM1, ⟨_, rfl, rfl⟩, rfl, by decide, by decide +kernel⟩
theorem fX1_count_20 : Fok GM kX1_count 20 3 4 := ⟨GMok, inX1_count, GM1, ⟨_, rfl, rfl⟩, rfl, by decide, by decide +kernel⟩
theorem fX1_count_24 : Fok GM kX1_count 24 4 5 := ⟨GMok, inX1_count, GM1, ⟨_, rfl, rfl⟩, rfl, by decide, by decide +kernel⟩
theorem fX1_count_42 : Fok GM kX1_count 42 10 9 := ⟨GMok, inX1_count, GM1, ⟨_, rfl, rfl⟩, rfl, by decide, by decide +kernel⟩
theorem fX1_counts_16 : Fok GM kX1_counts 16 2 3 := ⟨GMok, inX1_counts, GM1, ⟨_, rfl, rfl⟩, rfl, by decide, by decide +kernel⟩
theorem fX1_counts_24 : Fok GM kX1_counts 24 4 5 := ⟨GMok, inX1_counts, GM1, ⟨_, rfl, rfl⟩, rfl, by decide, by decide +kernel⟩
theorem fX1_cutOf_27 : Fok GM kX1_cutOf 27 5 0 := ⟨GMok, inX1_cutOf, GM1, ⟨_, rfl, rfl⟩, rfl, by decide, by decide +kernel⟩
theorem fX1_cutOf_51 : Fok GM kX1_cutOf 51 16 12 := ⟨GMok, inX1_cutOf, GM1, ⟨_, rfl, rfl⟩, rfl, by decide, by decide +kernel⟩
theorem fX1_cutOf_78 : Fok GM kX1_cutOf 78 14 0 := ⟨GMok, inX1_cutOf, GM1, ⟨_, rfl, rfl⟩, rfl, by decide, by decide +kernel⟩
theorem fX1_differ_7 : Fok GM kX1_differ 7 0 0 := ⟨GMok, inX1_differ, GM1, ⟨_, rfl, rfl⟩, rfl, by decide, by decide +kernel⟩
theorem fX1_digest_7 : Fok GM kX1_digest 7 0 0 := ⟨GMok, inX1_digest, GM1, ⟨_, rfl, rfl⟩, rfl, by decide, by decide +kernel⟩
theorem fX1_digest_13 : Fok GM kX1_digest 13 1 0 := ⟨GMok, inX1_digest, GM1, ⟨_, rfl, rfl⟩, rfl, by decide, by decide +kernel⟩
theorem fX1_digest_16 : Fok GM kX1_digest 16 2 3 := ⟨GMok, inX1_digest, GM1, ⟨_, rfl, rfl⟩, rfl, by decide, by decide +kernel⟩
theorem fX1_digest_20 : Fok GM kX1_digest 20 3 4 := ⟨GMok, inX1_digest, GM1, ⟨_, rfl, rfl⟩, rfl, by decide, by decide +kernel⟩
theorem fX1_digest_24 : Fok GM kX1_digest 24 4 5 := ⟨GMok, inX1_digest, GM1, ⟨_, rfl, rfl⟩, rfl, by decide, by decide +kernel⟩
theorem fX1_digest_27 : Fok GM kX1_digest 27 5 0 := ⟨GMok, inX1_digest, GM1, ⟨_, rfl, rfl⟩, rfl, by decide, by decide +kernel⟩
theorem fX1_digest_30 : Fok GM kX1_digest 30 6 0 := ⟨GMok, inX1_digest, GM1, ⟨_, rfl, rfl⟩, rfl, by decide, by decide +kernel⟩
theorem fX1_digest_33 : Fok GM kX1_digest 33 7 6 := ⟨GMok, inX1_digest, GM1, ⟨_, rfl, rfl⟩, rfl, by decide, by decide +kernel⟩
theorem fX1_digest_36 : Fok GM kX1_digest 36 8 7 := ⟨GMok, inX1_digest, GM1, ⟨_, rfl, rfl⟩, rfl, by decide, by decide +kernel⟩
theorem fX1_digest_39 : Fok GM kX1_digest 39 9 8 := ⟨GMok, inX1_digest, GM1, ⟨_, rfl, rfl⟩, rfl, by decide, by decide +kernel⟩
theorem fX1_digest_42 : Fok GM kX1_digest 42 10 9 := ⟨GMok, inX1_digest, GM1, ⟨_, rfl, rfl⟩, rfl, by decide, by decide +kernel⟩
theorem fX1_digest_45 : Fok GM kX1_digest 45 11 10 := ⟨GMok, inX1_digest, GM1, ⟨_, rfl, rfl⟩, rfl, by decide, by decide +kernel⟩
theorem fX1_digest_170 : Fok GM kX1_digest 170 22 1 := ⟨GMok, inX1_digest, GM1, ⟨_, rfl, rfl⟩, rfl, by decide, by decide +kernel⟩
theorem fX1_drawn_7 : Fok GM kX1_drawn 7 0 0 := ⟨GMok, inX1_drawn, GM1, ⟨_, rfl, rfl⟩, rfl, by decide, by decide +kernel⟩
theorem fX1_gather_13 : Fok GM kX1_gather 13 1 0 := ⟨GMok, inX1_gather, GM1, ⟨_, rfl, rfl⟩, rfl, by decide, by decide +kernel⟩
theorem fX1_gather_16 : Fok GM kX1_gather 16 2 3 := ⟨GMok, inX1_gather, GM1, ⟨_, rfl, rfl⟩, rfl, by decide, by decide +kernel⟩
theorem fX1_gather_51 : Fok GM kX1_gather 51 16 12 := ⟨GMok, inX1_gather, GM1, ⟨_, rfl, rfl⟩, rfl, by decide, by decide +kernel⟩
theorem fX1_gather_78 : Fok GM kX1_gather 78 14 0 := ⟨GMok, inX1_gather, GM1, ⟨_, rfl, rfl⟩, rfl, by decide, by decide +kernel⟩
theorem fX1_gather_81 : Fok GM kX1_gather 81 15 0 := ⟨GMok, inX1_gather, GM1, ⟨_, rfl, rfl⟩, rfl, by decide, by decide +kernel⟩
theorem fX1_hasMark_13 : Fok GM kX1_hasMark 13 1 0 := ⟨GMok, inX1_hasMark, GM1, ⟨_, rfl, rfl⟩, rfl, by decide, by decide +kernel⟩
theorem fX1_hear_54 : Fok GM kX1_hear 54 21 13 := ⟨GMok, inX1_hear, GM1, ⟨_, rfl, rfl⟩, rfl, by decide, by decide +kernel⟩
theorem fX1_heard_54 : Fok GM kX1_heard 54 21 13 := ⟨GMok, inX1_heard, GM1, ⟨_, rfl, rfl⟩, rfl, by decide, by decide +kernel⟩
theorem fX1_heard_60 : Fok GM kX1_heard 60 12 0 := ⟨GMok, inX1_heard, GM1, ⟨_, rfl, rfl⟩, rfl, by decide, by decide +kernel⟩
theorem fX1_isJuror_13 : Fok GM kX1_isJuror 13 1 0 := ⟨GMok, inX1_isJuror, GM1, ⟨_, rfl, rfl⟩, rfl, by decide, by decide +kernel⟩
theorem fX1_isPlayer_7 : Fok GM kX1_isPlayer 7 0 0 := ⟨GMok, inX1_isPlayer, GM1, ⟨_, rfl, rfl⟩, rfl, by decide, by decide +kernel⟩
theorem fX1_lastOf_7 : Fok GM kX1_lastOf 7 0 0 := ⟨GMok, inX1_lastOf, GM1, ⟨_, rfl, rfl⟩, rfl, by decide, by decide +kernel⟩
theorem fX1_mark_16 : Fok GM kX1_mark 16 2 3 := ⟨GMok, inX1_mark, GM1, ⟨_, rfl, rfl⟩, rfl, by decide, by decide +kernel⟩
theorem fX1_mayBe_39 : Fok GM kX1_mayBe 39 9 8 := ⟨GMok, inX1_mayBe, GM1, ⟨_, rfl, rfl⟩, rfl, by decide, by decide +kernel⟩
theorem fX1_mayBe_54 : Fok GM kX1_mayBe 54 21 13 := ⟨GMok, inX1_mayBe, GM1, ⟨_, rfl, rfl⟩, rfl, by decide, by decide +kernel⟩
theorem fX1_mix_170 : Fok GM kX1_mix 170 22 1 := ⟨GMok, inX1_mix, GM1, ⟨_, rfl, rfl⟩, rfl, by decide, by decide +kernel⟩
theorem fX1_note_128 : Fok GM kX1_note 128 17 0 := ⟨GMok, inX1_note, GM1, ⟨_, rfl, rfl⟩, rfl, by decide, by decide +kernel⟩
theorem fX1_note_131 : Fok GM kX1_note 131 18 0 := ⟨GMok, inX1_note, GM1, ⟨_, rfl, rfl⟩, rfl, by decide, by decide +kernel⟩
theorem fX1_note_134 : Fok GM kX1_note 134 19 0 := ⟨GMok, inX1_note, GM1, ⟨_, rfl, rfl⟩, rfl, by decide, by decide +kernel⟩
theorem fX1_note_137 : Fok GM kX1_note 137 20 0 := ⟨GMok, inX1_note, GM1, ⟨_, rfl, rfl⟩, rfl, by decide, by decide +kernel⟩
theorem fX1_pairsOf_7 : Fok GM kX1_pairsOf 7 0 0 := ⟨GMok, inX1_pairsOf, GM1, ⟨_, rfl, rfl⟩, rfl, by decide, by decide +kernel⟩
theorem fX1_passedOf_7 : Fok GM kX1_passedOf 7 0 0 := ⟨GMok, inX1_passedOf, GM1, ⟨_, rfl, rfl⟩, rfl, by decide, by decide +kernel⟩
theorem fX1_placeOf_7 : Fok GM kX1_placeOf 7 0 0 := ⟨GMok, inX1_placeOf, GM1, ⟨_, rfl, rfl⟩, rfl, by decide, by decide +kernel⟩
theorem fX1_plan_7 : Fok GM kX1_plan 7 0 0 := ⟨GMok, inX1_plan, GM1, ⟨_, rfl, rfl⟩, rfl, by decide, by decide +kernel⟩
theorem fX1_plan_42 : Fok GM kX1_plan 42 10 9 := ⟨GMok, inX1_plan, GM1, ⟨_, rfl, rfl⟩, rfl, by decide, by decide +kernel⟩
theorem fX1_plan_45 : Fok GM kX1_plan 45 11 10 := ⟨GMok, inX1_plan, GM1, ⟨_, rfl, rfl⟩, rfl, by decide, by decide +kernel⟩
theorem fX1_plan_48 : Fok GM kX1_plan 48 13 11 := ⟨GMok, inX1_plan, GM1, ⟨_, rfl, rfl⟩, rfl, by decide, by decide +kernel⟩
theorem fX1_plan_54 : Fok GM kX1_plan 54 21 13 := ⟨GMok, inX1_plan, GM1, ⟨_, rfl, rfl⟩, rfl, by decide, by decide +kernel⟩
theorem fX1_plan_60 : Fok GM kX1_plan 60 12 0 := ⟨GMok, inX1_plan, GM1, ⟨_, rfl, rfl⟩, rfl, by decide, by decide +kernel⟩
theorem fX1_prize_36 : Fok GM kX1_prize 36 8 7 := ⟨GMok, inX1_prize, GM1, ⟨_, rfl, rfl⟩, rfl, by decide, by decide +kernel⟩
theorem fX1_programme_42 : Fok GM kX1_programme 42 10 9 := ⟨GMok, inX1_programme, GM1, ⟨_, rfl, rfl⟩, rfl, by decide, by decide +kernel⟩
theorem fX1_programme_45 : Fok GM kX1_programme 45 11 10 := ⟨GMok, inX1_programme, GM1, ⟨_, rfl, rfl⟩, rfl, by decide, by decide +kernel⟩
theorem fX1_pulledOf_30 : Fok GM kX1_pulledOf 30 6 0 := ⟨GMok, inX1_pulledOf, GM1, ⟨_, rfl, rfl⟩, rfl, by decide, by decide +kernel⟩
theorem fX1_pulledOf_51 : Fok GM kX1_pulledOf 51 16 12 := ⟨GMok, inX1_pulledOf, GM1, ⟨_, rfl, rfl⟩, rfl, by decide, by decide +kernel⟩
theorem fX1_pulledOf_78 : Fok GM kX1_pulledOf 78 14 0 := ⟨GMok, inX1_pulledOf, GM1, ⟨_, rfl, rfl⟩, rfl, by decide, by decide +kernel⟩
theorem fX1_pulledOf_81 : Fok GM kX1_pulledOf 81 15 0 := ⟨GMok, inX1_pulledOf, GM1, ⟨_, rfl, rfl⟩, rfl, by decide, by decide +kernel⟩
theorem fX1_pupil_24 : Fok GM kX1_pupil 24 4 5 := ⟨GMok, inX1_pupil, GM1, ⟨_, rfl, rfl⟩, rfl, by decide, by decide +kernel⟩
theorem fX1_reach_24 : Fok GM kX1_reach 24 4 5 := ⟨GMok, inX1_reach, GM1, ⟨_, rfl, rfl⟩, rfl, by decide, by decide +kernel⟩
theorem fX1_reach_128 : Fok GM kX1_reach 128 17 0 := ⟨GMok, inX1_reach, GM1, ⟨_, rfl, rfl⟩, rfl, by decide, by decide +kernel⟩
theorem fX1_reach_131 : Fok GM kX1_reach 131 18 0 := ⟨GMok, inX1_reach, GM1, ⟨_, rfl, rfl⟩, rfl, by decide, by decide +kernel⟩
theorem fX1_rest_7 : Fok GM kX1_rest 7 0 0 := ⟨GMok, inX1_rest, GM1, ⟨_, rfl, rfl⟩, rfl, by decide, by decide +kernel⟩
theorem fX1_rest_36 : Fok GM kX1_rest 36 8 7 := ⟨GMok, inX1_rest, GM1, ⟨_, rfl, rfl⟩, rfl, by decide, by decide +kernel⟩
theorem fX1_rule_27 : Fok GM kX1_rule 27 5 0 := ⟨GMok, inX1_rule, GM1, ⟨_, rfl, rfl⟩, rfl, by decide, by decide +kernel⟩
theorem fX1_rule_30 : Fok GM kX1_rule 30 6 0 := ⟨GMok, inX1_rule, GM1, ⟨_, rfl, rfl⟩, rfl, by decide, by decide +kernel⟩
theorem fX1_scoreOf_51 : Fok GM kX1_scoreOf 51 16 12 := ⟨GMok, inX1_scoreOf, GM1, ⟨_, rfl, rfl⟩, rfl, by decide, by decide +kernel⟩
theorem fX1_scoreOf_78 : Fok GM kX1_scoreOf 78 14 0 := ⟨GMok, inX1_scoreOf, GM1, ⟨_, rfl, rfl⟩, rfl, by decide, by decide +kernel⟩
theorem fX1_scoreOf_81 : Fok GM kX1_scoreOf 81 15 0 := ⟨GMok, inX1_scoreOf, GM1, ⟨_, rfl, rfl⟩, rfl, by decide, by decide +kernel⟩
theorem fX1_seek_16 : Fok GM kX1_seek 16 2 3 := ⟨GMok, inX1_seek, GM1, ⟨_, rfl, rfl⟩, rfl, by decide, by decide +kernel⟩
theorem fX1_seek_20 : Fok GM kX1_seek 20 3 4 := ⟨GMok, inX1_seek, GM1, ⟨_, rfl, rfl⟩, rfl, by decide, by decide +kernel⟩
theorem fX1_seek_128 : Fok GM kX1_seek 128 17 0 := ⟨GMok, inX1_seek, GM1, ⟨_, rfl, rfl⟩, rfl, by decide, by decide +kernel⟩
theorem fX1_seek_131 : Fok GM kX1_seek 131 18 0 := ⟨GMok, inX1_seek, GM1, ⟨_, rfl, rfl⟩, rfl, by decide, by decide +kernel⟩
theorem fX1_seek_134 : Fok GM kX1_seek 134 19 0 := ⟨GMok, inX1_seek, GM1, ⟨_, rfl, rfl⟩, rfl, by decide, by decide +kernel⟩
theorem fX1_seek_137 : Fok GM kX1_seek 137 20 0 := ⟨GMok, inX1_seek, GM1, ⟨_, rfl, rfl⟩, rfl, by decide, by decide +kernel⟩
theorem fX1_sway_7 : Fok GM kX1_sway 7 0 0 := ⟨GMok, inX1_sway, GM1, ⟨_, rfl, rfl⟩, rfl, by decide, by decide +kernel⟩
theorem fX1_sway_24 : Fok GM kX1_sway 24 4 5 := ⟨GMok, inX1_sway, GM1, ⟨_, rfl, rfl⟩, rfl, by decide, by decide +kernel⟩
theorem fX1_sway_134 : Fok GM kX1_sway 134 19 0 := ⟨GMok, inX1_sway, GM1, ⟨_, rfl, rfl⟩, rfl, by decide, by decide +kernel⟩
theorem fX1_sway_137 : Fok GM kX1_sway 137 20 0 := ⟨GMok, inX1_sway, GM1, ⟨_, rfl, rfl⟩, rfl, by decide, by decide +kernel⟩
theorem fX1_totalOf_33 : Fok GM kX1_totalOf 33 7 6 := ⟨GMok, inX1_totalOf, GM1, ⟨_, rfl, rfl⟩, rfl, by decide, by decide +kernel⟩
theorem fX1_weight_33 : Fok GM kX1_weight 33 7 6 := ⟨GMok, inX1_weight, GM1, ⟨_, rfl, rfl⟩, rfl, by decide, by decide +kernel⟩
theorem fX1_winsOf_7 : Fok GM kX1_winsOf 7 0 0 := ⟨GMok, inX1_winsOf, GM1, ⟨_, rfl, rfl⟩, rfl, by decide, by decide +kernel⟩
theorem fX1_winsOf_36 : Fok GM kX1_winsOf 36 8 7 := ⟨GMok, inX1_winsOf, GM1, ⟨_, rfl, rfl⟩, rfl, by decide, by decide +kernel⟩
theorem fX1_work_39 : Fok GM kX1_work 39 9 8 := ⟨GMok, inX1_work, GM1, ⟨_, rfl, rfl⟩, rfl, by decide, by decide +kernel⟩
theorem fX1_yes_20 : Fok GM kX1_yes 20 3 4 := ⟨GMok, inX1_yes, GM1, ⟨_, rfl, rfl⟩, rfl, by decide, by decide +kernel⟩
theorem fX1_yesOf_13 : Fok GM kX1_yesOf 13 1 0 := ⟨GMok, inX1_yesOf, GM1, ⟨_, rfl, rfl⟩, rfl, by decide, by decide +kernel⟩
theorem fX1_yesOf_20 : Fok GM kX1_yesOf 20 3 4 := ⟨GMok, inX1_yesOf, GM1, ⟨_, rfl, rfl⟩, rfl, by decide, by decide +kernel⟩
theorem fX1_yesOf_78 : Fok GM kX1_yesOf 78 14 0 := ⟨GMok, inX1_yesOf, GM1, ⟨_, rfl, rfl⟩, rfl, by decide, by decide +kernel⟩
theorem cnX0_digest_172 : Jvm.Cond.constantLong RX0 172 (193) ∈ wsX0_digest := by decide +kernel
theorem cnX0_meanBetween_196 : Jvm.Cond.constant RX0 196 (176400) ∈ wsX0_meanBetween := by decide +kernel
theorem cnX0_mixed_236 : Jvm.Cond.constantLong RX0 236 (31) ∈ wsX0_mixed := by decide +kernel
theorem cnX0_prize_141 : Jvm.Cond.constant RX0 141 (1000000) ∈ wsX0_prize := by decide +kernel
theorem cnX0_pulledMean_196 : Jvm.Cond.constant RX0 196 (176400) ∈ wsX0_pulledMean := by decide +kernel
theorem cnX0_scoreOf_195 : Jvm.Cond.constant RX0 195 (88200) ∈ wsX0_scoreOf := by decide +kernel
theorem cnX0_scoreOf_196 : Jvm.Cond.constant RX0 196 (176400) ∈ wsX0_scoreOf := by decide +kernel
theorem cnX1_cutOf_87 : Jvm.Cond.constant RX1 87 (176400) ∈ wsX1_cutOf := by decide +kernel
theorem cnX1_digest_174 : Jvm.Cond.constantLong RX1 174 (193) ∈ wsX1_digest := by decide +kernel
theorem cnX1_mix_168 : Jvm.Cond.constantLong RX1 168 (31) ∈ wsX1_mix := by decide +kernel
theorem cnX1_prize_155 : Jvm.Cond.constant RX1 155 (1000000) ∈ wsX1_prize := by decide +kernel
theorem cnX1_pulledOf_87 : Jvm.Cond.constant RX1 87 (176400) ∈ wsX1_pulledOf := by decide +kernel
theorem cnX1_scoreOf_87 : Jvm.Cond.constant RX1 87 (176400) ∈ wsX1_scoreOf := by decide +kernel
theorem cnX1_scoreOf_104 : Jvm.Cond.constant RX1 104 (88200) ∈ wsX1_scoreOf := by decide +kernel
theorem cnX1_yesOf_87 : Jvm.Cond.constant RX1 87 (176400) ∈ wsX1_yesOf := by decide +kernel
