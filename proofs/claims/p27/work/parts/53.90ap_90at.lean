theorem ok_X4_all : zokM zTab kX4_all := ⟨zwdf_ok rfl _ 0 (by decide +kernel) (by decide +kernel), by decide +kernel, by decide +kernel⟩
theorem gw_X4_all : (kX4_all.2.2.2.2.2.flatMap (zrq zTab kX4_all.1.cls)).all goodWord = true := by decide +kernel
theorem wd_X4_all : ∀ w ∈ kX4_all.2.2.2.2.2.flatMap (zrq zTab kX4_all.1.cls), w ∈ lw_tbl := zkin_wd (own := "ReadAloud$Readings") [7, 10] (by decide +kernel) wK_9
theorem ok_X4_after : zokM zTab kX4_after := ⟨zwdf_ok rfl _ 0 (by decide +kernel) (by decide +kernel), by decide +kernel, by decide +kernel⟩
theorem gw_X4_after : (kX4_after.2.2.2.2.2.flatMap (zrq zTab kX4_after.1.cls)).all goodWord = true := by decide +kernel
theorem wd_X4_after : ∀ w ∈ kX4_after.2.2.2.2.2.flatMap (zrq zTab kX4_after.1.cls), w ∈ lw_tbl := zkin_wd (own := "ReadAloud$Readings") [8, 8, 7, 11, 8] (by decide +kernel) wK_9
theorem ok_X4_isChanged : zokM zTab kX4_isChanged := ⟨zwdf_ok rfl _ 0 (by decide +kernel) (by decide +kernel), by decide +kernel, by decide +kernel⟩
theorem gw_X4_isChanged : (kX4_isChanged.2.2.2.2.2.flatMap (zrq zTab kX4_isChanged.1.cls)).all goodWord = true := by decide +kernel
theorem wd_X4_isChanged : ∀ w ∈ kX4_isChanged.2.2.2.2.2.flatMap (zrq zTab kX4_isChanged.1.cls), w ∈ lw_tbl := zkin_wd (own := "ReadAloud$Readings") [7, 10, 12, 13] (by decide +kernel) wK_9
theorem ok_X4_unchangedBy : zokM zTab kX4_unchangedBy := ⟨zwdf_ok rfl _ 0 (by decide +kernel) (by decide +kernel), by decide +kernel, by decide +kernel⟩
theorem gw_X4_unchangedBy : (kX4_unchangedBy.2.2.2.2.2.flatMap (zrq zTab kX4_unchangedBy.1.cls)).all goodWord = true := by decide +kernel
theorem wd_X4_unchangedBy : ∀ w ∈ kX4_unchangedBy.2.2.2.2.2.flatMap (zrq zTab kX4_unchangedBy.1.cls), w ∈ lw_tbl := zkin_wd (own := "ReadAloud$Readings") [14] (by decide +kernel) wK_9
theorem ok_X4_alikeEitherWay : zokM zTab kX4_alikeEitherWay := ⟨zwdf_ok rfl _ 0 (by decide +kernel) (by decide +kernel), by decide +kernel, by decide +kernel⟩
theorem gw_X4_alikeEitherWay : (kX4_alikeEitherWay.2.2.2.2.2.flatMap (zrq zTab kX4_alikeEitherWay.1.cls)).all goodWord = true := by decide +kernel
theorem wd_X4_alikeEitherWay : ∀ w ∈ kX4_alikeEitherWay.2.2.2.2.2.flatMap (zrq zTab kX4_alikeEitherWay.1.cls), w ∈ lw_tbl := zkin_wd (own := "ReadAloud$Readings") [13, 13, 13, 13] (by decide +kernel) wK_9
theorem ok_X4_goBack : zokM zTab kX4_goBack := ⟨zwdf_ok rfl _ 0 (by decide +kernel) (by decide +kernel), by decide +kernel, by decide +kernel⟩
theorem gw_X4_goBack : (kX4_goBack.2.2.2.2.2.flatMap (zrq zTab kX4_goBack.1.cls)).all goodWord = true := by decide +kernel
theorem wd_X4_goBack : ∀ w ∈ kX4_goBack.2.2.2.2.2.flatMap (zrq zTab kX4_goBack.1.cls), w ∈ lw_tbl := zkin_wd (own := "ReadAloud$Readings") [15, 16, 15, 17, 18, 15, 17, 5, 6] (by decide +kernel) wK_9
theorem ok_X4_comesToMarked : zokM zTab kX4_comesToMarked := ⟨zwdf_ok rfl _ 0 (by decide +kernel) (by decide +kernel), by decide +kernel, by decide +kernel⟩
theorem gw_X4_comesToMarked : (kX4_comesToMarked.2.2.2.2.2.flatMap (zrq zTab kX4_comesToMarked.1.cls)).all goodWord = true := by decide +kernel
theorem wd_X4_comesToMarked : ∀ w ∈ kX4_comesToMarked.2.2.2.2.2.flatMap (zrq zTab kX4_comesToMarked.1.cls), w ∈ lw_tbl := zkin_wd (own := "ReadAloud$Readings") [7, 10, 15, 13] (by decide +kernel) wK_9
theorem ok_X4_markUnmade : zokM zTab kX4_markUnmade := ⟨zwdf_ok rfl _ 0 (by decide +kernel) (by decide +kernel), by decide +kernel, by decide +kernel⟩
theorem gw_X4_markUnmade : (kX4_markUnmade.2.2.2.2.2.flatMap (zrq zTab kX4_markUnmade.1.cls)).all goodWord = true := by decide +kernel
theorem wd_X4_markUnmade : ∀ w ∈ kX4_markUnmade.2.2.2.2.2.flatMap (zrq zTab kX4_markUnmade.1.cls), w ∈ lw_tbl := zkin_wd (own := "ReadAloud$Readings") [15, 16, 7, 10, 15, 13] (by decide +kernel) wK_9
theorem ok_X4_marked : zokM zTab kX4_marked := ⟨zwdf_ok rfl _ 0 (by decide +kernel) (by decide +kernel), by decide +kernel, by decide +kernel⟩
theorem gw_X4_marked : (kX4_marked.2.2.2.2.2.flatMap (zrq zTab kX4_marked.1.cls)).all goodWord = true := by decide +kernel
theorem wd_X4_marked : ∀ w ∈ kX4_marked.2.2.2.2.2.flatMap (zrq zTab kX4_marked.1.cls), w ∈ lw_tbl := zkin_wd (own := "ReadAloud$Readings") [15] (by decide +kernel) wK_9
theorem ok_X4_leastMarked : zokM zTab kX4_leastMarked := ⟨zwdf_ok rfl _ 0 (by decide +kernel) (by decide +kernel), by decide +kernel, by decide +kernel⟩
theorem gw_X4_leastMarked : (kX4_leastMarked.2.2.2.2.2.flatMap (zrq zTab kX4_leastMarked.1.cls)).all goodWord = true := by decide +kernel
theorem wd_X4_leastMarked : ∀ w ∈ kX4_leastMarked.2.2.2.2.2.flatMap (zrq zTab kX4_leastMarked.1.cls), w ∈ lw_tbl := zkin_wd (own := "ReadAloud$Readings") [15] (by decide +kernel) wK_9
theorem ok_X9_init : zokM zTab kX9_init := ⟨zwdf_ok rfl _ 0 (by decide +kernel) (by decide +kernel), by decide +kernel, by decide +kernel⟩
theorem gw_X9_init : (kX9_init.2.2.2.2.2.flatMap (zrq zTab kX9_init.1.cls)).all goodWord = true := by decide +kernel
theorem wd_X9_init : ∀ w ∈ kX9_init.2.2.2.2.2.flatMap (zrq zTab kX9_init.1.cls), w ∈ lw_tbl := zkin_wd (own := "ReadAloud$Walk") [0, 1, 2, 3, 2, 4, 2, 5, 2, 6, 7, 8] (by decide +kernel) wK_10
theorem ok_X9_go : zokM zTab kX9_go := ⟨zwdf_ok rfl _ 0 (by decide +kernel) (by decide +kernel), by decide +kernel, by decide +kernel⟩
theorem gw_X9_go : (kX9_go.2.2.2.2.2.flatMap (zrq zTab kX9_go.1.cls)).all goodWord = true := by decide +kernel
theorem wd_X9_go : ∀ w ∈ kX9_go.2.2.2.2.2.flatMap (zrq zTab kX9_go.1.cls), w ∈ lw_tbl := zkin_wd (own := "ReadAloud$Walk") [9, 7, 10, 1, 11, 9, 10, 12, 13, 14, 15, 7, 11] (by decide +kernel) wK_10
theorem ok_X9_comeTo : zokM zTab kX9_comeTo := ⟨zwdf_ok rfl _ 0 (by decide +kernel) (by decide +kernel), by decide +kernel, by decide +kernel⟩
theorem gw_X9_comeTo : (kX9_comeTo.2.2.2.2.2.flatMap (zrq zTab kX9_comeTo.1.cls)).all goodWord = true := by decide +kernel
theorem wd_X9_comeTo : ∀ w ∈ kX9_comeTo.2.2.2.2.2.flatMap (zrq zTab kX9_comeTo.1.cls), w ∈ lw_tbl := zkin_wd (own := "ReadAloud$Walk") [7, 9, 7, 16, 17, 10, 9, 9, 1] (by decide +kernel) wK_10
theorem ok_X9_readerOnWay : zokM zTab kX9_readerOnWay := ⟨zwdf_ok rfl _ 0 (by decide +kernel) (by decide +kernel), by decide +kernel, by decide +kernel⟩
theorem gw_X9_readerOnWay : (kX9_readerOnWay.2.2.2.2.2.flatMap (zrq zTab kX9_readerOnWay.1.cls)).all goodWord = true := by decide +kernel
theorem wd_X9_readerOnWay : ∀ w ∈ kX9_readerOnWay.2.2.2.2.2.flatMap (zrq zTab kX9_readerOnWay.1.cls), w ∈ lw_tbl := zkin_wd (own := "ReadAloud$Walk") [7, 16, 17] (by decide +kernel) wK_10
theorem ok_X9_wayBack : zokM zTab kX9_wayBack := ⟨zwdf_ok rfl _ 0 (by decide +kernel) (by decide +kernel), by decide +kernel, by decide +kernel⟩
theorem gw_X9_wayBack : (kX9_wayBack.2.2.2.2.2.flatMap (zrq zTab kX9_wayBack.1.cls)).all goodWord = true := by decide +kernel
theorem wd_X9_wayBack : ∀ w ∈ kX9_wayBack.2.2.2.2.2.flatMap (zrq zTab kX9_wayBack.1.cls), w ∈ lw_tbl := zkin_wd (own := "ReadAloud$Walk") [9, 12, 13, 10, 15, 7, 10] (by decide +kernel) wK_10
theorem ok_X9_farthest : zokM zTab kX9_farthest := ⟨zwdf_ok rfl _ 0 (by decide +kernel) (by decide +kernel), by decide +kernel, by decide +kernel⟩
theorem gw_X9_farthest : (kX9_farthest.2.2.2.2.2.flatMap (zrq zTab kX9_farthest.1.cls)).all goodWord = true := by decide +kernel
theorem wd_X9_farthest : ∀ w ∈ kX9_farthest.2.2.2.2.2.flatMap (zrq zTab kX9_farthest.1.cls), w ∈ lw_tbl := zkin_wd (own := "ReadAloud$Walk") [9, 7, 10, 9] (by decide +kernel) wK_10
theorem ok_X9_meeting : zokM zTab kX9_meeting := ⟨zwdf_ok rfl _ 0 (by decide +kernel) (by decide +kernel), by decide +kernel, by decide +kernel⟩
theorem gw_X9_meeting : (kX9_meeting.2.2.2.2.2.flatMap (zrq zTab kX9_meeting.1.cls)).all goodWord = true := by decide +kernel
theorem wd_X9_meeting : ∀ w ∈ kX9_meeting.2.2.2.2.2.flatMap (zrq zTab kX9_meeting.1.cls), w ∈ lw_tbl := zkin_wd (own := "ReadAloud$Walk") [9, 10, 7, 7, 7] (by decide +kernel) wK_10
theorem ok_X9_nearestTo : zokM zTab kX9_nearestTo := ⟨zwdf_ok rfl _ 0 (by decide +kernel) (by decide +kernel), by decide +kernel, by decide +kernel⟩
theorem gw_X9_nearestTo : (kX9_nearestTo.2.2.2.2.2.flatMap (zrq zTab kX9_nearestTo.1.cls)).all goodWord = true := by decide +kernel
theorem wd_X9_nearestTo : ∀ w ∈ kX9_nearestTo.2.2.2.2.2.flatMap (zrq zTab kX9_nearestTo.1.cls), w ∈ lw_tbl := zkin_wd (own := "ReadAloud$Walk") [10, 18, 9, 10, 18, 10, 10] (by decide +kernel) wK_10
theorem ok_X9_firstSettled : zokM zTab kX9_firstSettled := ⟨zwdf_ok rfl _ 0 (by decide +kernel) (by decide +kernel), by decide +kernel, by decide +kernel⟩
theorem gw_X9_firstSettled : (kX9_firstSettled.2.2.2.2.2.flatMap (zrq zTab kX9_firstSettled.1.cls)).all goodWord = true := by decide +kernel
theorem wd_X9_firstSettled : ∀ w ∈ kX9_firstSettled.2.2.2.2.2.flatMap (zrq zTab kX9_firstSettled.1.cls), w ∈ lw_tbl := zkin_wd (own := "ReadAloud$Walk") [9, 10, 7, 7, 19, 20] (by decide +kernel) wK_10
theorem ok_X2_init : zokM zTab kX2_init := ⟨zwdf_ok rfl _ 0 (by decide +kernel) (by decide +kernel), by decide +kernel, by decide +kernel⟩
theorem gw_X2_init : (kX2_init.2.2.2.2.2.flatMap (zrq zTab kX2_init.1.cls)).all goodWord = true := by decide +kernel
theorem wd_X2_init : ∀ w ∈ kX2_init.2.2.2.2.2.flatMap (zrq zTab kX2_init.1.cls), w ∈ lw_tbl := zkin_wd (own := "ReadAloud$Levels") [0, 1, 2, 3, 4, 5, 6, 7, 8, 9, 10, 9, 11, 9, 12, 13, 14, 15, 16] (by decide +kernel) wK_11
theorem ok_X2_wantNothing : zokM zTab kX2_wantNothing := ⟨zwdf_ok rfl _ 0 (by decide +kernel) (by decide +kernel), by decide +kernel, by decide +kernel⟩
theorem gw_X2_wantNothing : (kX2_wantNothing.2.2.2.2.2.flatMap (zrq zTab kX2_wantNothing.1.cls)).all goodWord = true := by decide +kernel
theorem wd_X2_wantNothing : ∀ w ∈ kX2_wantNothing.2.2.2.2.2.flatMap (zrq zTab kX2_wantNothing.1.cls), w ∈ lw_tbl := zkin_wd (own := "ReadAloud$Levels") [17, 16] (by decide +kernel) wK_11
theorem ok_X2_want : zokM zTab kX2_want := ⟨zwdf_ok rfl _ 0 (by decide +kernel) (by decide +kernel), by decide +kernel, by decide +kernel⟩
theorem gw_X2_want : (kX2_want.2.2.2.2.2.flatMap (zrq zTab kX2_want.1.cls)).all goodWord = true := by decide +kernel
theorem wd_X2_want : ∀ w ∈ kX2_want.2.2.2.2.2.flatMap (zrq zTab kX2_want.1.cls), w ∈ lw_tbl := zkin_wd (own := "ReadAloud$Levels") [18, 19, 20, 17, 17, 21, 17, 21, 17] (by decide +kernel) wK_11
theorem ok_X2_isWanted : zokM zTab kX2_isWanted := ⟨zwdf_ok rfl _ 0 (by decide +kernel) (by decide +kernel), by decide +kernel, by decide +kernel⟩
theorem gw_X2_isWanted : (kX2_isWanted.2.2.2.2.2.flatMap (zrq zTab kX2_isWanted.1.cls)).all goodWord = true := by decide +kernel
theorem wd_X2_isWanted : ∀ w ∈ kX2_isWanted.2.2.2.2.2.flatMap (zrq zTab kX2_isWanted.1.cls), w ∈ lw_tbl := zkin_wd (own := "ReadAloud$Levels") [17, 17] (by decide +kernel) wK_11
theorem ok_X2_spread : zokM zTab kX2_spread := ⟨zwdf_ok rfl _ 0 (by decide +kernel) (by decide +kernel), by decide +kernel, by decide +kernel⟩
theorem gw_X2_spread : (kX2_spread.2.2.2.2.2.flatMap (zrq zTab kX2_spread.1.cls)).all goodWord = true := by decide +kernel
theorem wd_X2_spread : ∀ w ∈ kX2_spread.2.2.2.2.2.flatMap (zrq zTab kX2_spread.1.cls), w ∈ lw_tbl := zkin_wd (own := "ReadAloud$Levels") [1, 2, 3, 4, 22, 22, 23, 24, 25, 26, 23, 24, 27, 22, 28, 22, 29, 30] (by decide +kernel) wK_11
theorem ok_X2_fillBehind : zokM zTab kX2_fillBehind := ⟨zwdf_ok rfl _ 0 (by decide +kernel) (by decide +kernel), by decide +kernel, by decide +kernel⟩
theorem gw_X2_fillBehind : (kX2_fillBehind.2.2.2.2.2.flatMap (zrq zTab kX2_fillBehind.1.cls)).all goodWord = true := by decide +kernel
theorem wd_X2_fillBehind : ∀ w ∈ kX2_fillBehind.2.2.2.2.2.flatMap (zrq zTab kX2_fillBehind.1.cls), w ∈ lw_tbl := zkin_wd (own := "ReadAloud$Levels") [22, 22, 22, 31, 23, 32, 33, 34, 31, 26, 35, 15, 25, 15, 26, 27, 15, 27, 15, 27] (by decide +kernel) wK_11
theorem ok_X2_onesAt : zokM zTab kX2_onesAt := ⟨zwdf_ok rfl _ 0 (by decide +kernel) (by decide +kernel), by decide +kernel, by decide +kernel⟩
theorem gw_X2_onesAt : (kX2_onesAt.2.2.2.2.2.flatMap (zrq zTab kX2_onesAt.1.cls)).all goodWord = true := by decide +kernel
theorem wd_X2_onesAt : ∀ w ∈ kX2_onesAt.2.2.2.2.2.flatMap (zrq zTab kX2_onesAt.1.cls), w ∈ lw_tbl := zkin_wd (own := "ReadAloud$Levels") [36, 37] (by decide +kernel) wK_11
theorem ok_X2_recall : zokM zTab kX2_recall := ⟨zwdf_ok rfl _ 0 (by decide +kernel) (by decide +kernel), by decide +kernel, by decide +kernel⟩
theorem gw_X2_recall : (kX2_recall.2.2.2.2.2.flatMap (zrq zTab kX2_recall.1.cls)).all goodWord = true := by decide +kernel
theorem wd_X2_recall : ∀ w ∈ kX2_recall.2.2.2.2.2.flatMap (zrq zTab kX2_recall.1.cls), w ∈ lw_tbl := zkin_wd (own := "ReadAloud$Levels") [22, 22, 15, 26] (by decide +kernel) wK_11
theorem ok_X2_forget : zokM zTab kX2_forget := ⟨zwdf_ok rfl _ 0 (by decide +kernel) (by decide +kernel), by decide +kernel, by decide +kernel⟩
theorem gw_X2_forget : (kX2_forget.2.2.2.2.2.flatMap (zrq zTab kX2_forget.1.cls)).all goodWord = true := by decide +kernel
theorem wd_X2_forget : ∀ w ∈ kX2_forget.2.2.2.2.2.flatMap (zrq zTab kX2_forget.1.cls), w ∈ lw_tbl := zkin_wd (own := "ReadAloud$Levels") [22, 22, 15, 26] (by decide +kernel) wK_11
theorem ok_X2_endByDrift : zokM zTab kX2_endByDrift := ⟨zwdf_ok rfl _ 0 (by decide +kernel) (by decide +kernel), by decide +kernel, by decide +kernel⟩
theorem gw_X2_endByDrift : (kX2_endByDrift.2.2.2.2.2.flatMap (zrq zTab kX2_endByDrift.1.cls)).all goodWord = true := by decide +kernel
theorem wd_X2_endByDrift : ∀ w ∈ kX2_endByDrift.2.2.2.2.2.flatMap (zrq zTab kX2_endByDrift.1.cls), w ∈ lw_tbl := zkin_wd (own := "ReadAloud$Levels") [22, 28, 22, 28, 38, 26, 31, 23, 24, 39] (by decide +kernel) wK_11
theorem ok_X2_endByWord : zokM zTab kX2_endByWord := ⟨zwdf_ok rfl _ 0 (by decide +kernel) (by decide +kernel), by decide +kernel, by decide +kernel⟩
theorem gw_X2_endByWord : (kX2_endByWord.2.2.2.2.2.flatMap (zrq zTab kX2_endByWord.1.cls)).all goodWord = true := by decide +kernel
theorem wd_X2_endByWord : ∀ w ∈ kX2_endByWord.2.2.2.2.2.flatMap (zrq zTab kX2_endByWord.1.cls), w ∈ lw_tbl := zkin_wd (own := "ReadAloud$Levels") [22, 28, 22, 28, 38, 26, 40] (by decide +kernel) wK_11
theorem ok_X2_endByOne : zokM zTab kX2_endByOne := ⟨zwdf_ok rfl _ 0 (by decide +kernel) (by decide +kernel), by decide +kernel, by decide +kernel⟩
theorem gw_X2_endByOne : (kX2_endByOne.2.2.2.2.2.flatMap (zrq zTab kX2_endByOne.1.cls)).all goodWord = true := by decide +kernel
theorem wd_X2_endByOne : ∀ w ∈ kX2_endByOne.2.2.2.2.2.flatMap (zrq zTab kX2_endByOne.1.cls), w ∈ lw_tbl := zkin_wd (own := "ReadAloud$Levels") [22, 28, 22, 28, 38] (by decide +kernel) wK_11
theorem ok_X2_foldBack : zokM zTab kX2_foldBack := ⟨zwdf_ok rfl _ 0 (by decide +kernel) (by decide +kernel), by decide +kernel, by decide +kernel⟩
theorem gw_X2_foldBack : (kX2_foldBack.2.2.2.2.2.flatMap (zrq zTab kX2_foldBack.1.cls)).all goodWord = true := by decide +kernel
theorem wd_X2_foldBack : ∀ w ∈ kX2_foldBack.2.2.2.2.2.flatMap (zrq zTab kX2_foldBack.1.cls), w ∈ lw_tbl := zkin_wd (own := "ReadAloud$Levels") [28, 41, 22, 22, 38, 42, 30] (by decide +kernel) wK_11
theorem ok_X2_folded : zokM zTab kX2_folded := ⟨zwdf_ok rfl _ 0 (by decide +kernel) (by decide +kernel), by decide +kernel, by decide +kernel⟩
theorem gw_X2_folded : (kX2_folded.2.2.2.2.2.flatMap (zrq zTab kX2_folded.1.cls)).all goodWord = true := by decide +kernel
theorem wd_X2_folded : ∀ w ∈ kX2_folded.2.2.2.2.2.flatMap (zrq zTab kX2_folded.1.cls), w ∈ lw_tbl := zkin_wd (own := "ReadAloud$Levels") [31, 23, 32, 33, 34, 15, 31, 26, 35, 38, 38, 38, 43, 38, 44] (by decide +kernel) wK_11
theorem ok_X2_chosenAt : zokM zTab kX2_chosenAt := ⟨zwdf_ok rfl _ 0 (by decide +kernel) (by decide +kernel), by decide +kernel, by decide +kernel⟩
theorem gw_X2_chosenAt : (kX2_chosenAt.2.2.2.2.2.flatMap (zrq zTab kX2_chosenAt.1.cls)).all goodWord = true := by decide +kernel
theorem wd_X2_chosenAt : ∀ w ∈ kX2_chosenAt.2.2.2.2.2.flatMap (zrq zTab kX2_chosenAt.1.cls), w ∈ lw_tbl := zkin_wd (own := "ReadAloud$Levels") [28, 41, 45, 15, 31, 26, 35, 30] (by decide +kernel) wK_11
theorem ok_X2_firstAsGood : zokM zTab kX2_firstAsGood := ⟨zwdf_ok rfl _ 0 (by decide +kernel) (by decide +kernel), by decide +kernel, by decide +kernel⟩
theorem gw_X2_firstAsGood : (kX2_firstAsGood.2.2.2.2.2.flatMap (zrq zTab kX2_firstAsGood.1.cls)).all goodWord = true := by decide +kernel
theorem wd_X2_firstAsGood : ∀ w ∈ kX2_firstAsGood.2.2.2.2.2.flatMap (zrq zTab kX2_firstAsGood.1.cls), w ∈ lw_tbl := zkin_wd (own := "ReadAloud$Levels") [31, 23, 32, 33, 34, 15, 31, 26, 35, 38, 38] (by decide +kernel) wK_11
theorem ok_X2_bestStart : zokM zTab kX2_bestStart := ⟨zwdf_ok rfl _ 0 (by decide +kernel) (by decide +kernel), by decide +kernel, by decide +kernel⟩
theorem gw_X2_bestStart : (kX2_bestStart.2.2.2.2.2.flatMap (zrq zTab kX2_bestStart.1.cls)).all goodWord = true := by decide +kernel
theorem wd_X2_bestStart : ∀ w ∈ kX2_bestStart.2.2.2.2.2.flatMap (zrq zTab kX2_bestStart.1.cls), w ∈ lw_tbl := zkin_wd (own := "ReadAloud$Levels") [38] (by decide +kernel) wK_11
theorem ok_X2_bestEnd : zokM zTab kX2_bestEnd := ⟨zwdf_ok rfl _ 0 (by decide +kernel) (by decide +kernel), by decide +kernel, by decide +kernel⟩
theorem gw_X2_bestEnd : (kX2_bestEnd.2.2.2.2.2.flatMap (zrq zTab kX2_bestEnd.1.cls)).all goodWord = true := by decide +kernel
theorem wd_X2_bestEnd : ∀ w ∈ kX2_bestEnd.2.2.2.2.2.flatMap (zrq zTab kX2_bestEnd.1.cls), w ∈ lw_tbl := zkin_wd (own := "ReadAloud$Levels") [38, 22, 28, 22, 28, 22, 28, 38, 44, 38, 43] (by decide +kernel) wK_11
theorem ok_X2_sumOfEnds : zokM zTab kX2_sumOfEnds := ⟨zwdf_ok rfl _ 0 (by decide +kernel) (by decide +kernel), by decide +kernel, by decide +kernel⟩
theorem gw_X2_sumOfEnds : (kX2_sumOfEnds.2.2.2.2.2.flatMap (zrq zTab kX2_sumOfEnds.1.cls)).all goodWord = true := by decide +kernel
theorem wd_X2_sumOfEnds : ∀ w ∈ kX2_sumOfEnds.2.2.2.2.2.flatMap (zrq zTab kX2_sumOfEnds.1.cls), w ∈ lw_tbl := zkin_wd (own := "ReadAloud$Levels") [22, 28, 22, 28, 27, 38] (by decide +kernel) wK_11
theorem ok_X2_rows : zokM zTab kX2_rows := ⟨zwdf_ok rfl _ 0 (by decide +kernel) (by decide +kernel), by decide +kernel, by decide +kernel⟩
theorem gw_X2_rows : (kX2_rows.2.2.2.2.2.flatMap (zrq zTab kX2_rows.1.cls)).all goodWord = true := by decide +kernel
theorem wd_X2_rows : ∀ w ∈ kX2_rows.2.2.2.2.2.flatMap (zrq zTab kX2_rows.1.cls), w ∈ lw_tbl := zkin_wd (own := "ReadAloud$Levels") [22, 28, 22, 28, 27] (by decide +kernel) wK_11
theorem ok_X2_rowsTo : zokM zTab kX2_rowsTo := ⟨zwdf_ok rfl _ 0 (by decide +kernel) (by decide +kernel), by decide +kernel, by decide +kernel⟩
theorem gw_X2_rowsTo : (kX2_rowsTo.2.2.2.2.2.flatMap (zrq zTab kX2_rowsTo.1.cls)).all goodWord = true := by decide +kernel
theorem wd_X2_rowsTo : ∀ w ∈ kX2_rowsTo.2.2.2.2.2.flatMap (zrq zTab kX2_rowsTo.1.cls), w ∈ lw_tbl := zkin_wd (own := "ReadAloud$Levels") [22, 28, 22, 28, 26, 27] (by decide +kernel) wK_11
theorem ok_X2_look : zokM zTab kX2_look := ⟨zwdf_ok rfl _ 0 (by decide +kernel) (by decide +kernel), by decide +kernel, by decide +kernel⟩
theorem gw_X2_look : (kX2_look.2.2.2.2.2.flatMap (zrq zTab kX2_look.1.cls)).all goodWord = true := by decide +kernel
theorem wd_X2_look : ∀ w ∈ kX2_look.2.2.2.2.2.flatMap (zrq zTab kX2_look.1.cls), w ∈ lw_tbl := zkin_wd (own := "ReadAloud$Levels") [28, 22, 22, 27, 38, 44] (by decide +kernel) wK_11
theorem ok_X2_onlyReaderAt : zokM zTab kX2_onlyReaderAt := ⟨zwdf_ok rfl _ 0 (by decide +kernel) (by decide +kernel), by decide +kernel, by decide +kernel⟩
theorem gw_X2_onlyReaderAt : (kX2_onlyReaderAt.2.2.2.2.2.flatMap (zrq zTab kX2_onlyReaderAt.1.cls)).all goodWord = true := by decide +kernel
theorem wd_X2_onlyReaderAt : ∀ w ∈ kX2_onlyReaderAt.2.2.2.2.2.flatMap (zrq zTab kX2_onlyReaderAt.1.cls), w ∈ lw_tbl := zkin_wd (own := "ReadAloud$Levels") [41, 31, 23, 32, 46, 30, 30] (by decide +kernel) wK_11
theorem ok_X2_isReaderAt : zokM zTab kX2_isReaderAt := ⟨zwdf_ok rfl _ 0 (by decide +kernel) (by decide +kernel), by decide +kernel, by decide +kernel⟩
theorem gw_X2_isReaderAt : (kX2_isReaderAt.2.2.2.2.2.flatMap (zrq zTab kX2_isReaderAt.1.cls)).all goodWord = true := by decide +kernel
theorem wd_X2_isReaderAt : ∀ w ∈ kX2_isReaderAt.2.2.2.2.2.flatMap (zrq zTab kX2_isReaderAt.1.cls), w ∈ lw_tbl := zkin_wd (own := "ReadAloud$Levels") [22, 22, 15, 31, 26, 35, 38] (by decide +kernel) wK_11
theorem ok_X5_init : zokM zTab kX5_init := ⟨zwdf_ok rfl _ 0 (by decide +kernel) (by decide +kernel), by decide +kernel, by decide +kernel⟩
theorem gw_X5_init : (kX5_init.2.2.2.2.2.flatMap (zrq zTab kX5_init.1.cls)).all goodWord = true := by decide +kernel
theorem wd_X5_init : ∀ w ∈ kX5_init.2.2.2.2.2.flatMap (zrq zTab kX5_init.1.cls), w ∈ lw_tbl := zkin_wd (own := "ReadAloud$Rings") [0, 1, 2, 3, 4, 5, 6, 7, 8, 9, 8, 10, 8, 11, 8, 12, 8, 13, 8, 14, 8, 15, 8, 16, 8, 17] (by decide +kernel) wK_12
theorem ok_X5_findOrbits : zokM zTab kX5_findOrbits := ⟨zwdf_ok rfl _ 0 (by decide +kernel) (by decide +kernel), by decide +kernel, by decide +kernel⟩
theorem gw_X5_findOrbits : (kX5_findOrbits.2.2.2.2.2.flatMap (zrq zTab kX5_findOrbits.1.cls)).all goodWord = true := by decide +kernel
theorem wd_X5_findOrbits : ∀ w ∈ kX5_findOrbits.2.2.2.2.2.flatMap (zrq zTab kX5_findOrbits.1.cls), w ∈ lw_tbl := zkin_wd (own := "ReadAloud$Rings") [18, 19, 20, 19, 21, 19, 22, 20, 18, 18, 23, 18, 18, 24, 20, 18, 18, 21, 25, 20, 18, 18, 18, 26, 25] (by decide +kernel) wK_12
theorem ok_X5_putThoseOfNone : zokM zTab kX5_putThoseOfNone := ⟨zwdf_ok rfl _ 0 (by decide +kernel) (by decide +kernel), by decide +kernel, by decide +kernel⟩
theorem gw_X5_putThoseOfNone : (kX5_putThoseOfNone.2.2.2.2.2.flatMap (zrq zTab kX5_putThoseOfNone.1.cls)).all goodWord = true := by decide +kernel
theorem wd_X5_putThoseOfNone : ∀ w ∈ kX5_putThoseOfNone.2.2.2.2.2.flatMap (zrq zTab kX5_putThoseOfNone.1.cls), w ∈ lw_tbl := zkin_wd (own := "ReadAloud$Rings") [20, 27] (by decide +kernel) wK_12
theorem ok_X5_takeOutside : zokM zTab kX5_takeOutside := ⟨zwdf_ok rfl _ 0 (by decide +kernel) (by decide +kernel), by decide +kernel, by decide +kernel⟩
theorem gw_X5_takeOutside : (kX5_takeOutside.2.2.2.2.2.flatMap (zrq zTab kX5_takeOutside.1.cls)).all goodWord = true := by decide +kernel
theorem wd_X5_takeOutside : ∀ w ∈ kX5_takeOutside.2.2.2.2.2.flatMap (zrq zTab kX5_takeOutside.1.cls), w ∈ lw_tbl := zkin_wd (own := "ReadAloud$Rings") [27, 22, 21, 21, 21, 25, 20, 20, 27] (by decide +kernel) wK_12
theorem ok_X5_goRound : zokM zTab kX5_goRound := ⟨zwdf_ok rfl _ 0 (by decide +kernel) (by decide +kernel), by decide +kernel, by decide +kernel⟩
theorem gw_X5_goRound : (kX5_goRound.2.2.2.2.2.flatMap (zrq zTab kX5_goRound.1.cls)).all goodWord = true := by decide +kernel
theorem wd_X5_goRound : ∀ w ∈ kX5_goRound.2.2.2.2.2.flatMap (zrq zTab kX5_goRound.1.cls), w ∈ lw_tbl := zkin_wd (own := "ReadAloud$Rings") [20, 20, 22] (by decide +kernel) wK_12
theorem ok_X5_findCircles : zokM zTab kX5_findCircles := ⟨zwdf_ok rfl _ 0 (by decide +kernel) (by decide +kernel), by decide +kernel, by decide +kernel⟩
theorem gw_X5_findCircles : (kX5_findCircles.2.2.2.2.2.flatMap (zrq zTab kX5_findCircles.1.cls)).all goodWord = true := by decide +kernel
theorem wd_X5_findCircles : ∀ w ∈ kX5_findCircles.2.2.2.2.2.flatMap (zrq zTab kX5_findCircles.1.cls), w ∈ lw_tbl := zkin_wd (own := "ReadAloud$Rings") [3, 4, 5, 6, 28, 19, 29, 19, 28, 30] (by decide +kernel) wK_12
theorem ok_X5_findFrom : zokM zTab kX5_findFrom := ⟨zwdf_ok rfl _ 0 (by decide +kernel) (by decide +kernel), by decide +kernel, by decide +kernel⟩
theorem gw_X5_findFrom : (kX5_findFrom.2.2.2.2.2.flatMap (zrq zTab kX5_findFrom.1.cls)).all goodWord = true := by decide +kernel
theorem wd_X5_findFrom : ∀ w ∈ kX5_findFrom.2.2.2.2.2.flatMap (zrq zTab kX5_findFrom.1.cls), w ∈ lw_tbl := zkin_wd (own := "ReadAloud$Rings") [7, 31, 32, 33, 34, 33, 35, 36, 37, 38, 39] (by decide +kernel) wK_12
theorem ok_X5_enter : zokM zTab kX5_enter := ⟨zwdf_ok rfl _ 0 (by decide +kernel) (by decide +kernel), by decide +kernel, by decide +kernel⟩
theorem gw_X5_enter : (kX5_enter.2.2.2.2.2.flatMap (zrq zTab kX5_enter.1.cls)).all goodWord = true := by decide +kernel
theorem wd_X5_enter : ∀ w ∈ kX5_enter.2.2.2.2.2.flatMap (zrq zTab kX5_enter.1.cls), w ∈ lw_tbl := zkin_wd (own := "ReadAloud$Rings") [28, 40, 41, 40, 35, 40, 5, 42, 43, 43, 6, 34, 33, 33, 7] (by decide +kernel) wK_12
theorem ok_X5_tryNext : zokM zTab kX5_tryNext := ⟨zwdf_ok rfl _ 0 (by decide +kernel) (by decide +kernel), by decide +kernel, by decide +kernel⟩
theorem gw_X5_tryNext : (kX5_tryNext.2.2.2.2.2.flatMap (zrq zTab kX5_tryNext.1.cls)).all goodWord = true := by decide +kernel
theorem wd_X5_tryNext : ∀ w ∈ kX5_tryNext.2.2.2.2.2.flatMap (zrq zTab kX5_tryNext.1.cls), w ∈ lw_tbl := zkin_wd (own := "ReadAloud$Rings") [35, 22, 35, 28, 31, 29, 41, 41, 28, 44] (by decide +kernel) wK_12
theorem ok_X5_leave : zokM zTab kX5_leave := ⟨zwdf_ok rfl _ 0 (by decide +kernel) (by decide +kernel), by decide +kernel, by decide +kernel⟩
theorem gw_X5_leave : (kX5_leave.2.2.2.2.2.flatMap (zrq zTab kX5_leave.1.cls)).all goodWord = true := by decide +kernel
theorem wd_X5_leave : ∀ w ∈ kX5_leave.2.2.2.2.2.flatMap (zrq zTab kX5_leave.1.cls), w ∈ lw_tbl := zkin_wd (own := "ReadAloud$Rings") [33, 7, 33, 34, 33, 41, 41, 41, 44, 41, 28, 45] (by decide +kernel) wK_12
theorem ok_X5_closeCircle : zokM zTab kX5_closeCircle := ⟨zwdf_ok rfl _ 0 (by decide +kernel) (by decide +kernel), by decide +kernel, by decide +kernel⟩
theorem gw_X5_closeCircle : (kX5_closeCircle.2.2.2.2.2.flatMap (zrq zTab kX5_closeCircle.1.cls)).all goodWord = true := by decide +kernel
theorem wd_X5_closeCircle : ∀ w ∈ kX5_closeCircle.2.2.2.2.2.flatMap (zrq zTab kX5_closeCircle.1.cls), w ∈ lw_tbl := zkin_wd (own := "ReadAloud$Rings") [43, 42, 43, 43, 29, 42, 6, 46, 3, 47, 25, 4] (by decide +kernel) wK_12
theorem ok_X12_init : zokM zTab kX12_init := ⟨zwdf_ok rfl _ 0 (by decide +kernel) (by decide +kernel), by decide +kernel, by decide +kernel⟩
theorem gw_X12_init : (kX12_init.2.2.2.2.2.flatMap (zrq zTab kX12_init.1.cls)).all goodWord = true := by decide +kernel
theorem wd_X12_init : ∀ w ∈ kX12_init.2.2.2.2.2.flatMap (zrq zTab kX12_init.1.cls), w ∈ lw_tbl := zkin_wd (own := "ReadAloudModel") [0, 1, 2, 3, 4, 3, 5, 3, 6, 7, 8, 9, 10, 11, 12, 13, 14, 15, 16, 17, 18, 19, 20, 21, 20, 22, 23, 24, 3, 25, 26, 27, 28, 29, 30, 31, 30, 32, 30, 33, 30, 34, 35, 36, 37, 35, 36, 38, 35, 36, 39, 30, 40, 30, 41, 30, 42, 30, 43, 30, 44, 28, 45, 46, 47, 48] (by decide +kernel) wK_13
theorem ok_X12_in : zokM zTab kX12_in := ⟨zwdf_ok rfl _ 0 (by decide +kernel) (by decide +kernel), by decide +kernel, by decide +kernel⟩
theorem gw_X12_in : (kX12_in.2.2.2.2.2.flatMap (zrq zTab kX12_in.1.cls)).all goodWord = true := by decide +kernel
theorem wd_X12_in : ∀ w ∈ kX12_in.2.2.2.2.2.flatMap (zrq zTab kX12_in.1.cls), w ∈ lw_tbl := zkin_wd (own := "ReadAloudModel") [] (by decide +kernel) wK_13
theorem ok_X12_has : zokM zTab kX12_has := ⟨zwdf_ok rfl _ 0 (by decide +kernel) (by decide +kernel), by decide +kernel, by decide +kernel⟩
theorem gw_X12_has : (kX12_has.2.2.2.2.2.flatMap (zrq zTab kX12_has.1.cls)).all goodWord = true := by decide +kernel
theorem wd_X12_has : ∀ w ∈ kX12_has.2.2.2.2.2.flatMap (zrq zTab kX12_has.1.cls), w ∈ lw_tbl := zkin_wd (own := "ReadAloudModel") [] (by decide +kernel) wK_13
theorem ok_X12_greater : zokM zTab kX12_greater := ⟨zwdf_ok rfl _ 0 (by decide +kernel) (by decide +kernel), by decide +kernel, by decide +kernel⟩
theorem gw_X12_greater : (kX12_greater.2.2.2.2.2.flatMap (zrq zTab kX12_greater.1.cls)).all goodWord = true := by decide +kernel
theorem wd_X12_greater : ∀ w ∈ kX12_greater.2.2.2.2.2.flatMap (zrq zTab kX12_greater.1.cls), w ∈ lw_tbl := zkin_wd (own := "ReadAloudModel") [] (by decide +kernel) wK_13
theorem ok_X12_lesser : zokM zTab kX12_lesser := ⟨zwdf_ok rfl _ 0 (by decide +kernel) (by decide +kernel), by decide +kernel, by decide +kernel⟩
theorem gw_X12_lesser : (kX12_lesser.2.2.2.2.2.flatMap (zrq zTab kX12_lesser.1.cls)).all goodWord = true := by decide +kernel
theorem wd_X12_lesser : ∀ w ∈ kX12_lesser.2.2.2.2.2.flatMap (zrq zTab kX12_lesser.1.cls), w ∈ lw_tbl := zkin_wd (own := "ReadAloudModel") [] (by decide +kernel) wK_13
theorem ok_X12_copyRow : zokM zTab kX12_copyRow := ⟨zwdf_ok rfl _ 0 (by decide +kernel) (by decide +kernel), by decide +kernel, by decide +kernel⟩
theorem gw_X12_copyRow : (kX12_copyRow.2.2.2.2.2.flatMap (zrq zTab kX12_copyRow.1.cls)).all goodWord = true := by decide +kernel
theorem wd_X12_copyRow : ∀ w ∈ kX12_copyRow.2.2.2.2.2.flatMap (zrq zTab kX12_copyRow.1.cls), w ∈ lw_tbl := zkin_wd (own := "ReadAloudModel") [] (by decide +kernel) wK_13
theorem ok_X12_copyAll : zokM zTab kX12_copyAll := ⟨zwdf_ok rfl _ 0 (by decide +kernel) (by decide +kernel), by decide +kernel, by decide +kernel⟩
theorem gw_X12_copyAll : (kX12_copyAll.2.2.2.2.2.flatMap (zrq zTab kX12_copyAll.1.cls)).all goodWord = true := by decide +kernel
theorem wd_X12_copyAll : ∀ w ∈ kX12_copyAll.2.2.2.2.2.flatMap (zrq zTab kX12_copyAll.1.cls), w ∈ lw_tbl := zkin_wd (own := "ReadAloudModel") [49, 49, 50, 51, 52, 51, 48, 51, 53, 51, 54, 51, 55, 51, 56, 51] (by decide +kernel) wK_13
theorem ok_X12_is : zokM zTab kX12_is := ⟨zwdf_ok rfl _ 0 (by decide +kernel) (by decide +kernel), by decide +kernel, by decide +kernel⟩
theorem gw_X12_is : (kX12_is.2.2.2.2.2.flatMap (zrq zTab kX12_is.1.cls)).all goodWord = true := by decide +kernel
theorem wd_X12_is : ∀ w ∈ kX12_is.2.2.2.2.2.flatMap (zrq zTab kX12_is.1.cls), w ∈ lw_tbl := zkin_wd (own := "ReadAloudModel") [53, 57] (by decide +kernel) wK_13
theorem ok_X12_feed : zokM zTab kX12_feed := ⟨zwdf_ok rfl _ 0 (by decide +kernel) (by decide +kernel), by decide +kernel, by decide +kernel⟩
theorem gw_X12_feed : (kX12_feed.2.2.2.2.2.flatMap (zrq zTab kX12_feed.1.cls)).all goodWord = true := by decide +kernel
theorem wd_X12_feed : ∀ w ∈ kX12_feed.2.2.2.2.2.flatMap (zrq zTab kX12_feed.1.cls), w ∈ lw_tbl := zkin_wd (own := "ReadAloudModel") [58, 50, 59, 59, 59, 59, 59, 50] (by decide +kernel) wK_13
theorem ok_X12_four : zokM zTab kX12_four := ⟨zwdf_ok rfl _ 0 (by decide +kernel) (by decide +kernel), by decide +kernel, by decide +kernel⟩
theorem gw_X12_four : (kX12_four.2.2.2.2.2.flatMap (zrq zTab kX12_four.1.cls)).all goodWord = true := by decide +kernel
theorem wd_X12_four : ∀ w ∈ kX12_four.2.2.2.2.2.flatMap (zrq zTab kX12_four.1.cls), w ∈ lw_tbl := zkin_wd (own := "ReadAloudModel") [49, 50, 50] (by decide +kernel) wK_13
theorem ok_X12_end : zokM zTab kX12_end := ⟨zwdf_ok rfl _ 0 (by decide +kernel) (by decide +kernel), by decide +kernel, by decide +kernel⟩
theorem gw_X12_end : (kX12_end.2.2.2.2.2.flatMap (zrq zTab kX12_end.1.cls)).all goodWord = true := by decide +kernel
theorem wd_X12_end : ∀ w ∈ kX12_end.2.2.2.2.2.flatMap (zrq zTab kX12_end.1.cls), w ∈ lw_tbl := zkin_wd (own := "ReadAloudModel") [58, 50, 57, 50] (by decide +kernel) wK_13
theorem ok_X12_see : zokM zTab kX12_see := ⟨zwdf_ok rfl _ 0 (by decide +kernel) (by decide +kernel), by decide +kernel, by decide +kernel⟩
theorem gw_X12_see : (kX12_see.2.2.2.2.2.flatMap (zrq zTab kX12_see.1.cls)).all goodWord = true := by decide +kernel
theorem wd_X12_see : ∀ w ∈ kX12_see.2.2.2.2.2.flatMap (zrq zTab kX12_see.1.cls), w ∈ lw_tbl := zkin_wd (own := "ReadAloudModel") [60, 61, 49, 60] (by decide +kernel) wK_13
theorem ok_X12_token : zokM zTab kX12_token := ⟨zwdf_ok rfl _ 0 (by decide +kernel) (by decide +kernel), by decide +kernel, by decide +kernel⟩
theorem gw_X12_token : (kX12_token.2.2.2.2.2.flatMap (zrq zTab kX12_token.1.cls)).all goodWord = true := by decide +kernel
theorem wd_X12_token : ∀ w ∈ kX12_token.2.2.2.2.2.flatMap (zrq zTab kX12_token.1.cls), w ∈ lw_tbl := zkin_wd (own := "ReadAloudModel") [62, 62, 60, 63, 60, 64, 62, 65, 66, 57, 62, 57, 67, 62, 65, 60, 63, 67, 65, 66, 57, 68, 62, 57, 69, 62, 69, 68, 60, 63, 66, 60, 63, 66] (by decide +kernel) wK_13
theorem ok_X12_fails : zokM zTab kX12_fails := ⟨zwdf_ok rfl _ 0 (by decide +kernel) (by decide +kernel), by decide +kernel, by decide +kernel⟩
theorem gw_X12_fails : (kX12_fails.2.2.2.2.2.flatMap (zrq zTab kX12_fails.1.cls)).all goodWord = true := by decide +kernel
theorem wd_X12_fails : ∀ w ∈ kX12_fails.2.2.2.2.2.flatMap (zrq zTab kX12_fails.1.cls), w ∈ lw_tbl := zkin_wd (own := "ReadAloudModel") [70, 71] (by decide +kernel) wK_13
theorem ok_X12_later : zokM zTab kX12_later := ⟨zwdf_ok rfl _ 0 (by decide +kernel) (by decide +kernel), by decide +kernel, by decide +kernel⟩
theorem gw_X12_later : (kX12_later.2.2.2.2.2.flatMap (zrq zTab kX12_later.1.cls)).all goodWord = true := by decide +kernel
theorem wd_X12_later : ∀ w ∈ kX12_later.2.2.2.2.2.flatMap (zrq zTab kX12_later.1.cls), w ∈ lw_tbl := zkin_wd (own := "ReadAloudModel") [72, 73, 73, 72, 74, 75] (by decide +kernel) wK_13
theorem ok_X12_takeBut : zokM zTab kX12_takeBut := ⟨zwdf_ok rfl _ 0 (by decide +kernel) (by decide +kernel), by decide +kernel, by decide +kernel⟩
theorem gw_X12_takeBut : (kX12_takeBut.2.2.2.2.2.flatMap (zrq zTab kX12_takeBut.1.cls)).all goodWord = true := by decide +kernel
theorem wd_X12_takeBut : ∀ w ∈ kX12_takeBut.2.2.2.2.2.flatMap (zrq zTab kX12_takeBut.1.cls), w ∈ lw_tbl := zkin_wd (own := "ReadAloudModel") [76, 77, 78, 69, 69, 57, 69, 70, 79, 80] (by decide +kernel) wK_13
theorem ok_X12_take : zokM zTab kX12_take := ⟨zwdf_ok rfl _ 0 (by decide +kernel) (by decide +kernel), by decide +kernel, by decide +kernel⟩
theorem gw_X12_take : (kX12_take.2.2.2.2.2.flatMap (zrq zTab kX12_take.1.cls)).all goodWord = true := by decide +kernel
theorem wd_X12_take : ∀ w ∈ kX12_take.2.2.2.2.2.flatMap (zrq zTab kX12_take.1.cls), w ∈ lw_tbl := zkin_wd (own := "ReadAloudModel") [81] (by decide +kernel) wK_13
theorem ok_X12_full : zokM zTab kX12_full := ⟨zwdf_ok rfl _ 0 (by decide +kernel) (by decide +kernel), by decide +kernel, by decide +kernel⟩
theorem gw_X12_full : (kX12_full.2.2.2.2.2.flatMap (zrq zTab kX12_full.1.cls)).all goodWord = true := by decide +kernel
theorem wd_X12_full : ∀ w ∈ kX12_full.2.2.2.2.2.flatMap (zrq zTab kX12_full.1.cls), w ∈ lw_tbl := zkin_wd (own := "ReadAloudModel") [82, 79] (by decide +kernel) wK_13
theorem ok_X12_shorter : zokM zTab kX12_shorter := ⟨zwdf_ok rfl _ 0 (by decide +kernel) (by decide +kernel), by decide +kernel, by decide +kernel⟩
theorem gw_X12_shorter : (kX12_shorter.2.2.2.2.2.flatMap (zrq zTab kX12_shorter.1.cls)).all goodWord = true := by decide +kernel
theorem wd_X12_shorter : ∀ w ∈ kX12_shorter.2.2.2.2.2.flatMap (zrq zTab kX12_shorter.1.cls), w ∈ lw_tbl := zkin_wd (own := "ReadAloudModel") [] (by decide +kernel) wK_13
theorem ok_X12_takeText : zokM zTab kX12_takeText := ⟨zwdf_ok rfl _ 0 (by decide +kernel) (by decide +kernel), by decide +kernel, by decide +kernel⟩
theorem gw_X12_takeText : (kX12_takeText.2.2.2.2.2.flatMap (zrq zTab kX12_takeText.1.cls)).all goodWord = true := by decide +kernel
theorem wd_X12_takeText : ∀ w ∈ kX12_takeText.2.2.2.2.2.flatMap (zrq zTab kX12_takeText.1.cls), w ∈ lw_tbl := zkin_wd (own := "ReadAloudModel") [76, 70, 79, 83, 78, 78, 84] (by decide +kernel) wK_13
