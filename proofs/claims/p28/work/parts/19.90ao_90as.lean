theorem ok_X0_doubled : zokM zTab kX0_doubled := ⟨by decide +kernel, by decide +kernel, by decide +kernel⟩
theorem gw_X0_doubled : (kX0_doubled.2.2.2.2.2.flatMap (zrq zTab kX0_doubled.1.cls)).all goodWord = true := by decide +kernel
set_option maxRecDepth 1000000 in
theorem wd_X0_doubled : ∀ w ∈ kX0_doubled.2.2.2.2.2.flatMap (zrq zTab kX0_doubled.1.cls), w ∈ lw_tbl := zplaces [] rfl
theorem ok_X0_swapped : zokM zTab kX0_swapped := ⟨by decide +kernel, by decide +kernel, by decide +kernel⟩
theorem gw_X0_swapped : (kX0_swapped.2.2.2.2.2.flatMap (zrq zTab kX0_swapped.1.cls)).all goodWord = true := by decide +kernel
set_option maxRecDepth 1000000 in
theorem wd_X0_swapped : ∀ w ∈ kX0_swapped.2.2.2.2.2.flatMap (zrq zTab kX0_swapped.1.cls), w ∈ lw_tbl := zplaces [] rfl
theorem ok_X0_turned : zokM zTab kX0_turned := ⟨by decide +kernel, by decide +kernel, by decide +kernel⟩
theorem gw_X0_turned : (kX0_turned.2.2.2.2.2.flatMap (zrq zTab kX0_turned.1.cls)).all goodWord = true := by decide +kernel
set_option maxRecDepth 1000000 in
theorem wd_X0_turned : ∀ w ∈ kX0_turned.2.2.2.2.2.flatMap (zrq zTab kX0_turned.1.cls), w ∈ lw_tbl := zplaces [] rfl
theorem ok_X0_kinRing : zokM zTab kX0_kinRing := ⟨by decide +kernel, by decide +kernel, by decide +kernel⟩
theorem gw_X0_kinRing : (kX0_kinRing.2.2.2.2.2.flatMap (zrq zTab kX0_kinRing.1.cls)).all goodWord = true := by decide +kernel
set_option maxRecDepth 1000000 in
theorem wd_X0_kinRing : ∀ w ∈ kX0_kinRing.2.2.2.2.2.flatMap (zrq zTab kX0_kinRing.1.cls), w ∈ lw_tbl := zplaces [382, 382] rfl
theorem ok_X0_kinUntilRing : zokM zTab kX0_kinUntilRing := ⟨by decide +kernel, by decide +kernel, by decide +kernel⟩
theorem gw_X0_kinUntilRing : (kX0_kinUntilRing.2.2.2.2.2.flatMap (zrq zTab kX0_kinUntilRing.1.cls)).all goodWord = true := by decide +kernel
set_option maxRecDepth 1000000 in
theorem wd_X0_kinUntilRing : ∀ w ∈ kX0_kinUntilRing.2.2.2.2.2.flatMap (zrq zTab kX0_kinUntilRing.1.cls), w ∈ lw_tbl := zplaces [1229, 1228, 84, 178, 1226, 382] rfl
theorem ok_X0_isInKinRing : zokM zTab kX0_isInKinRing := ⟨by decide +kernel, by decide +kernel, by decide +kernel⟩
theorem gw_X0_isInKinRing : (kX0_isInKinRing.2.2.2.2.2.flatMap (zrq zTab kX0_isInKinRing.1.cls)).all goodWord = true := by decide +kernel
set_option maxRecDepth 1000000 in
theorem wd_X0_isInKinRing : ∀ w ∈ kX0_isInKinRing.2.2.2.2.2.flatMap (zrq zTab kX0_isInKinRing.1.cls), w ∈ lw_tbl := zplaces [382] rfl
theorem ok_X10_init : zokM zTab kX10_init := ⟨by decide +kernel, by decide +kernel, by decide +kernel⟩
theorem gw_X10_init : (kX10_init.2.2.2.2.2.flatMap (zrq zTab kX10_init.1.cls)).all goodWord = true := by decide +kernel
set_option maxRecDepth 1000000 in
theorem wd_X10_init : ∀ w ∈ kX10_init.2.2.2.2.2.flatMap (zrq zTab kX10_init.1.cls), w ∈ lw_tbl := zplaces [369, 368, 177, 590, 247, 593, 247, 595, 247, 597] rfl
theorem ok_X10_lineOf : zokM zTab kX10_lineOf := ⟨by decide +kernel, by decide +kernel, by decide +kernel⟩
theorem gw_X10_lineOf : (kX10_lineOf.2.2.2.2.2.flatMap (zrq zTab kX10_lineOf.1.cls)).all goodWord = true := by decide +kernel
set_option maxRecDepth 1000000 in
theorem wd_X10_lineOf : ∀ w ∈ kX10_lineOf.2.2.2.2.2.flatMap (zrq zTab kX10_lineOf.1.cls), w ∈ lw_tbl := zplaces [435, 434, 8, 174, 435, 434, 8, 174, 435, 434, 8, 174, 435, 434, 8, 174, 435, 434, 8, 174, 435, 434, 8, 174] rfl
theorem ok_X10_fewestNumbers : zokM zTab kX10_fewestNumbers := ⟨by decide +kernel, by decide +kernel, by decide +kernel⟩
theorem gw_X10_fewestNumbers : (kX10_fewestNumbers.2.2.2.2.2.flatMap (zrq zTab kX10_fewestNumbers.1.cls)).all goodWord = true := by decide +kernel
set_option maxRecDepth 1000000 in
theorem wd_X10_fewestNumbers : ∀ w ∈ kX10_fewestNumbers.2.2.2.2.2.flatMap (zrq zTab kX10_fewestNumbers.1.cls), w ∈ lw_tbl := zplaces [539, 538, 2000, 183, 583] rfl
theorem ok_X10_mostNumbers : zokM zTab kX10_mostNumbers := ⟨by decide +kernel, by decide +kernel, by decide +kernel⟩
theorem gw_X10_mostNumbers : (kX10_mostNumbers.2.2.2.2.2.flatMap (zrq zTab kX10_mostNumbers.1.cls)).all goodWord = true := by decide +kernel
set_option maxRecDepth 1000000 in
theorem wd_X10_mostNumbers : ∀ w ∈ kX10_mostNumbers.2.2.2.2.2.flatMap (zrq zTab kX10_mostNumbers.1.cls), w ∈ lw_tbl := zplaces [] rfl
theorem ok_X10_beginLine : zokM zTab kX10_beginLine := ⟨by decide +kernel, by decide +kernel, by decide +kernel⟩
theorem gw_X10_beginLine : (kX10_beginLine.2.2.2.2.2.flatMap (zrq zTab kX10_beginLine.1.cls)).all goodWord = true := by decide +kernel
set_option maxRecDepth 1000000 in
theorem wd_X10_beginLine : ∀ w ∈ kX10_beginLine.2.2.2.2.2.flatMap (zrq zTab kX10_beginLine.1.cls), w ∈ lw_tbl := zplaces [590, 515, 514, 9, 174, 593, 590, 595, 590, 597, 590, 590, 590] rfl
theorem ok_X10_takeNumber : zokM zTab kX10_takeNumber := ⟨by decide +kernel, by decide +kernel, by decide +kernel⟩
theorem gw_X10_takeNumber : (kX10_takeNumber.2.2.2.2.2.flatMap (zrq zTab kX10_takeNumber.1.cls)).all goodWord = true := by decide +kernel
set_option maxRecDepth 1000000 in
theorem wd_X10_takeNumber : ∀ w ∈ kX10_takeNumber.2.2.2.2.2.flatMap (zrq zTab kX10_takeNumber.1.cls), w ∈ lw_tbl := zplaces [590, 549, 548, 11, 174, 595, 595, 515, 514, 9, 174, 597] rfl
theorem ok_X10_tells : zokM zTab kX10_tells := ⟨by decide +kernel, by decide +kernel, by decide +kernel⟩
theorem gw_X10_tells : (kX10_tells.2.2.2.2.2.flatMap (zrq zTab kX10_tells.1.cls)).all goodWord = true := by decide +kernel
set_option maxRecDepth 1000000 in
theorem wd_X10_tells : ∀ w ∈ kX10_tells.2.2.2.2.2.flatMap (zrq zTab kX10_tells.1.cls), w ∈ lw_tbl := zplaces [590, 590, 593, 595, 597] rfl
theorem ok_X6_init : zokM zTab kX6_init := ⟨by decide +kernel, by decide +kernel, by decide +kernel⟩
theorem gw_X6_init : (kX6_init.2.2.2.2.2.flatMap (zrq zTab kX6_init.1.cls)).all goodWord = true := by decide +kernel
set_option maxRecDepth 1000000 in
theorem wd_X6_init : ∀ w ∈ kX6_init.2.2.2.2.2.flatMap (zrq zTab kX6_init.1.cls), w ∈ lw_tbl := zplaces [369, 368, 177, 614, 247, 616, 247, 618] rfl
theorem ok_X6_lineOf : zokM zTab kX6_lineOf := ⟨by decide +kernel, by decide +kernel, by decide +kernel⟩
theorem gw_X6_lineOf : (kX6_lineOf.2.2.2.2.2.flatMap (zrq zTab kX6_lineOf.1.cls)).all goodWord = true := by decide +kernel
set_option maxRecDepth 1000000 in
theorem wd_X6_lineOf : ∀ w ∈ kX6_lineOf.2.2.2.2.2.flatMap (zrq zTab kX6_lineOf.1.cls), w ∈ lw_tbl := zplaces [435, 434, 8, 174] rfl
theorem ok_X6_fewestNumbers : zokM zTab kX6_fewestNumbers := ⟨by decide +kernel, by decide +kernel, by decide +kernel⟩
theorem gw_X6_fewestNumbers : (kX6_fewestNumbers.2.2.2.2.2.flatMap (zrq zTab kX6_fewestNumbers.1.cls)).all goodWord = true := by decide +kernel
set_option maxRecDepth 1000000 in
theorem wd_X6_fewestNumbers : ∀ w ∈ kX6_fewestNumbers.2.2.2.2.2.flatMap (zrq zTab kX6_fewestNumbers.1.cls), w ∈ lw_tbl := zplaces [] rfl
theorem ok_X6_mostNumbers : zokM zTab kX6_mostNumbers := ⟨by decide +kernel, by decide +kernel, by decide +kernel⟩
theorem gw_X6_mostNumbers : (kX6_mostNumbers.2.2.2.2.2.flatMap (zrq zTab kX6_mostNumbers.1.cls)).all goodWord = true := by decide +kernel
set_option maxRecDepth 1000000 in
theorem wd_X6_mostNumbers : ∀ w ∈ kX6_mostNumbers.2.2.2.2.2.flatMap (zrq zTab kX6_mostNumbers.1.cls), w ∈ lw_tbl := zplaces [] rfl
theorem ok_X6_beginLine : zokM zTab kX6_beginLine := ⟨by decide +kernel, by decide +kernel, by decide +kernel⟩
theorem gw_X6_beginLine : (kX6_beginLine.2.2.2.2.2.flatMap (zrq zTab kX6_beginLine.1.cls)).all goodWord = true := by decide +kernel
set_option maxRecDepth 1000000 in
theorem wd_X6_beginLine : ∀ w ∈ kX6_beginLine.2.2.2.2.2.flatMap (zrq zTab kX6_beginLine.1.cls), w ∈ lw_tbl := zplaces [614, 515, 514, 9, 174, 618, 614, 614, 614] rfl
theorem ok_X6_takeNumber : zokM zTab kX6_takeNumber := ⟨by decide +kernel, by decide +kernel, by decide +kernel⟩
theorem gw_X6_takeNumber : (kX6_takeNumber.2.2.2.2.2.flatMap (zrq zTab kX6_takeNumber.1.cls)).all goodWord = true := by decide +kernel
set_option maxRecDepth 1000000 in
theorem wd_X6_takeNumber : ∀ w ∈ kX6_takeNumber.2.2.2.2.2.flatMap (zrq zTab kX6_takeNumber.1.cls), w ∈ lw_tbl := zplaces [549, 548, 11, 174, 614, 515, 514, 9, 174, 616, 618, 618, 557, 556, 172] rfl
theorem ok_X6_tells : zokM zTab kX6_tells := ⟨by decide +kernel, by decide +kernel, by decide +kernel⟩
theorem gw_X6_tells : (kX6_tells.2.2.2.2.2.flatMap (zrq zTab kX6_tells.1.cls)).all goodWord = true := by decide +kernel
set_option maxRecDepth 1000000 in
theorem wd_X6_tells : ∀ w ∈ kX6_tells.2.2.2.2.2.flatMap (zrq zTab kX6_tells.1.cls), w ∈ lw_tbl := zplaces [614, 614, 616, 618] rfl
theorem ok_X4_init : zokM zTab kX4_init := ⟨by decide +kernel, by decide +kernel, by decide +kernel⟩
theorem gw_X4_init : (kX4_init.2.2.2.2.2.flatMap (zrq zTab kX4_init.1.cls)).all goodWord = true := by decide +kernel
set_option maxRecDepth 1000000 in
theorem wd_X4_init : ∀ w ∈ kX4_init.2.2.2.2.2.flatMap (zrq zTab kX4_init.1.cls), w ∈ lw_tbl := zplaces [797, 199, 200, 798, 247, 803, 246, 804, 246, 805] rfl
theorem ok_X4_takeUp : zokM zTab kX4_takeUp := ⟨by decide +kernel, by decide +kernel, by decide +kernel⟩
theorem gw_X4_takeUp : (kX4_takeUp.2.2.2.2.2.flatMap (zrq zTab kX4_takeUp.1.cls)).all goodWord = true := by decide +kernel
set_option maxRecDepth 1000000 in
theorem wd_X4_takeUp : ∀ w ∈ kX4_takeUp.2.2.2.2.2.flatMap (zrq zTab kX4_takeUp.1.cls), w ∈ lw_tbl := zplaces [798, 798, 803, 742, 741, 186, 819] rfl
theorem ok_X4_all : zokM zTab kX4_all := ⟨by decide +kernel, by decide +kernel, by decide +kernel⟩
theorem gw_X4_all : (kX4_all.2.2.2.2.2.flatMap (zrq zTab kX4_all.1.cls)).all goodWord = true := by decide +kernel
set_option maxRecDepth 1000000 in
theorem wd_X4_all : ∀ w ∈ kX4_all.2.2.2.2.2.flatMap (zrq zTab kX4_all.1.cls), w ∈ lw_tbl := zplaces [798] rfl
theorem ok_X4_after : zokM zTab kX4_after := ⟨by decide +kernel, by decide +kernel, by decide +kernel⟩
theorem gw_X4_after : (kX4_after.2.2.2.2.2.flatMap (zrq zTab kX4_after.1.cls)).all goodWord = true := by decide +kernel
set_option maxRecDepth 1000000 in
theorem wd_X4_after : ∀ w ∈ kX4_after.2.2.2.2.2.flatMap (zrq zTab kX4_after.1.cls), w ∈ lw_tbl := zplaces [803, 803, 798, 691, 690, 17, 178, 803] rfl
theorem ok_X4_isChanged : zokM zTab kX4_isChanged := ⟨by decide +kernel, by decide +kernel, by decide +kernel⟩
theorem gw_X4_isChanged : (kX4_isChanged.2.2.2.2.2.flatMap (zrq zTab kX4_isChanged.1.cls)).all goodWord = true := by decide +kernel
set_option maxRecDepth 1000000 in
theorem wd_X4_isChanged : ∀ w ∈ kX4_isChanged.2.2.2.2.2.flatMap (zrq zTab kX4_isChanged.1.cls), w ∈ lw_tbl := zplaces [798, 758, 757, 172, 864, 863, 37, 187, 903] rfl
theorem ok_X4_unchangedBy : zokM zTab kX4_unchangedBy := ⟨by decide +kernel, by decide +kernel, by decide +kernel⟩
theorem gw_X4_unchangedBy : (kX4_unchangedBy.2.2.2.2.2.flatMap (zrq zTab kX4_unchangedBy.1.cls)).all goodWord = true := by decide +kernel
set_option maxRecDepth 1000000 in
theorem wd_X4_unchangedBy : ∀ w ∈ kX4_unchangedBy.2.2.2.2.2.flatMap (zrq zTab kX4_unchangedBy.1.cls), w ∈ lw_tbl := zplaces [901, 900, 43, 187, 898] rfl
theorem ok_X4_alikeEitherWay : zokM zTab kX4_alikeEitherWay := ⟨by decide +kernel, by decide +kernel, by decide +kernel⟩
theorem gw_X4_alikeEitherWay : (kX4_alikeEitherWay.2.2.2.2.2.flatMap (zrq zTab kX4_alikeEitherWay.1.cls)).all goodWord = true := by decide +kernel
set_option maxRecDepth 1000000 in
theorem wd_X4_alikeEitherWay : ∀ w ∈ kX4_alikeEitherWay.2.2.2.2.2.flatMap (zrq zTab kX4_alikeEitherWay.1.cls), w ∈ lw_tbl := zplaces [864, 863, 37, 187, 903, 864, 863, 37, 187, 903, 864, 863, 37, 187, 903, 864, 863, 37, 187, 903] rfl
theorem ok_X4_goBack : zokM zTab kX4_goBack := ⟨by decide +kernel, by decide +kernel, by decide +kernel⟩
theorem gw_X4_goBack : (kX4_goBack.2.2.2.2.2.flatMap (zrq zTab kX4_goBack.1.cls)).all goodWord = true := by decide +kernel
set_option maxRecDepth 1000000 in
theorem wd_X4_goBack : ∀ w ∈ kX4_goBack.2.2.2.2.2.flatMap (zrq zTab kX4_goBack.1.cls), w ∈ lw_tbl := zplaces [804, 1127, 1126, 186, 1125, 804, 805, 1131, 1130, 67, 187, 1128, 804, 805, 804, 805] rfl
theorem ok_X4_comesToMarked : zokM zTab kX4_comesToMarked := ⟨by decide +kernel, by decide +kernel, by decide +kernel⟩
theorem gw_X4_comesToMarked : (kX4_comesToMarked.2.2.2.2.2.flatMap (zrq zTab kX4_comesToMarked.1.cls)).all goodWord = true := by decide +kernel
set_option maxRecDepth 1000000 in
theorem wd_X4_comesToMarked : ∀ w ∈ kX4_comesToMarked.2.2.2.2.2.flatMap (zrq zTab kX4_comesToMarked.1.cls), w ∈ lw_tbl := zplaces [798, 804, 864, 863, 37, 187, 903] rfl
theorem ok_X4_markUnmade : zokM zTab kX4_markUnmade := ⟨by decide +kernel, by decide +kernel, by decide +kernel⟩
theorem gw_X4_markUnmade : (kX4_markUnmade.2.2.2.2.2.flatMap (zrq zTab kX4_markUnmade.1.cls)).all goodWord = true := by decide +kernel
set_option maxRecDepth 1000000 in
theorem wd_X4_markUnmade : ∀ w ∈ kX4_markUnmade.2.2.2.2.2.flatMap (zrq zTab kX4_markUnmade.1.cls), w ∈ lw_tbl := zplaces [804, 1127, 1126, 186, 1125, 798, 804, 864, 863, 37, 187, 903] rfl
theorem ok_X4_marked : zokM zTab kX4_marked := ⟨by decide +kernel, by decide +kernel, by decide +kernel⟩
theorem gw_X4_marked : (kX4_marked.2.2.2.2.2.flatMap (zrq zTab kX4_marked.1.cls)).all goodWord = true := by decide +kernel
set_option maxRecDepth 1000000 in
theorem wd_X4_marked : ∀ w ∈ kX4_marked.2.2.2.2.2.flatMap (zrq zTab kX4_marked.1.cls), w ∈ lw_tbl := zplaces [804] rfl
theorem ok_X4_leastMarked : zokM zTab kX4_leastMarked := ⟨by decide +kernel, by decide +kernel, by decide +kernel⟩
theorem gw_X4_leastMarked : (kX4_leastMarked.2.2.2.2.2.flatMap (zrq zTab kX4_leastMarked.1.cls)).all goodWord = true := by decide +kernel
set_option maxRecDepth 1000000 in
theorem wd_X4_leastMarked : ∀ w ∈ kX4_leastMarked.2.2.2.2.2.flatMap (zrq zTab kX4_leastMarked.1.cls), w ∈ lw_tbl := zplaces [804] rfl
theorem ok_X9_init : zokM zTab kX9_init := ⟨by decide +kernel, by decide +kernel, by decide +kernel⟩
theorem gw_X9_init : (kX9_init.2.2.2.2.2.flatMap (zrq zTab kX9_init.1.cls)).all goodWord = true := by decide +kernel
set_option maxRecDepth 1000000 in
theorem wd_X9_init : ∀ w ∈ kX9_init.2.2.2.2.2.flatMap (zrq zTab kX9_init.1.cls), w ∈ lw_tbl := zplaces [828, 199, 200, 830, 247, 832, 247, 833, 247, 835, 247, 836, 833, 742, 741, 186, 829] rfl
theorem ok_X9_go : zokM zTab kX9_go := ⟨by decide +kernel, by decide +kernel, by decide +kernel⟩
theorem gw_X9_go : (kX9_go.2.2.2.2.2.flatMap (zrq zTab kX9_go.1.cls)).all goodWord = true := by decide +kernel
set_option maxRecDepth 1000000 in
theorem wd_X9_go : ∀ w ∈ kX9_go.2.2.2.2.2.flatMap (zrq zTab kX9_go.1.cls), w ∈ lw_tbl := zplaces [830, 833, 832, 830, 859, 858, 36, 188, 856, 830, 832, 758, 757, 172, 864, 863, 37, 187, 833, 859, 858, 36, 188, 856] rfl
theorem ok_X9_comeTo : zokM zTab kX9_comeTo := ⟨by decide +kernel, by decide +kernel, by decide +kernel⟩
theorem gw_X9_comeTo : (kX9_comeTo.2.2.2.2.2.flatMap (zrq zTab kX9_comeTo.1.cls)).all goodWord = true := by decide +kernel
set_option maxRecDepth 1000000 in
theorem wd_X9_comeTo : ∀ w ∈ kX9_comeTo.2.2.2.2.2.flatMap (zrq zTab kX9_comeTo.1.cls), w ∈ lw_tbl := zplaces [833, 830, 833, 835, 836, 832, 830, 830, 830] rfl
theorem ok_X9_readerOnWay : zokM zTab kX9_readerOnWay := ⟨by decide +kernel, by decide +kernel, by decide +kernel⟩
theorem gw_X9_readerOnWay : (kX9_readerOnWay.2.2.2.2.2.flatMap (zrq zTab kX9_readerOnWay.1.cls)).all goodWord = true := by decide +kernel
set_option maxRecDepth 1000000 in
theorem wd_X9_readerOnWay : ∀ w ∈ kX9_readerOnWay.2.2.2.2.2.flatMap (zrq zTab kX9_readerOnWay.1.cls), w ∈ lw_tbl := zplaces [833, 835, 836] rfl
theorem ok_X9_wayBack : zokM zTab kX9_wayBack := ⟨by decide +kernel, by decide +kernel, by decide +kernel⟩
theorem gw_X9_wayBack : (kX9_wayBack.2.2.2.2.2.flatMap (zrq zTab kX9_wayBack.1.cls)).all goodWord = true := by decide +kernel
set_option maxRecDepth 1000000 in
theorem wd_X9_wayBack : ∀ w ∈ kX9_wayBack.2.2.2.2.2.flatMap (zrq zTab kX9_wayBack.1.cls), w ∈ lw_tbl := zplaces [830, 832, 864, 863, 37, 187, 833, 832] rfl
theorem ok_X9_farthest : zokM zTab kX9_farthest := ⟨by decide +kernel, by decide +kernel, by decide +kernel⟩
theorem gw_X9_farthest : (kX9_farthest.2.2.2.2.2.flatMap (zrq zTab kX9_farthest.1.cls)).all goodWord = true := by decide +kernel
set_option maxRecDepth 1000000 in
theorem wd_X9_farthest : ∀ w ∈ kX9_farthest.2.2.2.2.2.flatMap (zrq zTab kX9_farthest.1.cls), w ∈ lw_tbl := zplaces [830, 833, 832, 830] rfl
theorem ok_X9_meeting : zokM zTab kX9_meeting := ⟨by decide +kernel, by decide +kernel, by decide +kernel⟩
theorem gw_X9_meeting : (kX9_meeting.2.2.2.2.2.flatMap (zrq zTab kX9_meeting.1.cls)).all goodWord = true := by decide +kernel
set_option maxRecDepth 1000000 in
theorem wd_X9_meeting : ∀ w ∈ kX9_meeting.2.2.2.2.2.flatMap (zrq zTab kX9_meeting.1.cls), w ∈ lw_tbl := zplaces [830, 832, 833, 833, 833] rfl
theorem ok_X9_nearestTo : zokM zTab kX9_nearestTo := ⟨by decide +kernel, by decide +kernel, by decide +kernel⟩
theorem gw_X9_nearestTo : (kX9_nearestTo.2.2.2.2.2.flatMap (zrq zTab kX9_nearestTo.1.cls)).all goodWord = true := by decide +kernel
set_option maxRecDepth 1000000 in
theorem wd_X9_nearestTo : ∀ w ∈ kX9_nearestTo.2.2.2.2.2.flatMap (zrq zTab kX9_nearestTo.1.cls), w ∈ lw_tbl := zplaces [832, 679, 678, 172, 830, 832, 679, 678, 172, 832, 832] rfl
theorem ok_X9_firstSettled : zokM zTab kX9_firstSettled := ⟨by decide +kernel, by decide +kernel, by decide +kernel⟩
theorem gw_X9_firstSettled : (kX9_firstSettled.2.2.2.2.2.flatMap (zrq zTab kX9_firstSettled.1.cls)).all goodWord = true := by decide +kernel
set_option maxRecDepth 1000000 in
theorem wd_X9_firstSettled : ∀ w ∈ kX9_firstSettled.2.2.2.2.2.flatMap (zrq zTab kX9_firstSettled.1.cls), w ∈ lw_tbl := zplaces [830, 832, 833, 833, 851, 850, 34, 187, 901, 900, 43, 187] rfl
theorem ok_X2_init : zokM zTab kX2_init := ⟨by decide +kernel, by decide +kernel, by decide +kernel⟩
theorem gw_X2_init : (kX2_init.2.2.2.2.2.flatMap (zrq zTab kX2_init.1.cls)).all goodWord = true := by decide +kernel
set_option maxRecDepth 1000000 in
theorem wd_X2_init : ∀ w ∈ kX2_init.2.2.2.2.2.flatMap (zrq zTab kX2_init.1.cls), w ∈ lw_tbl := zplaces [1011, 199, 200, 1013, 1014, 1015, 1016, 247, 1017, 247, 1018, 247, 1019, 247, 1020, 247, 1021, 247, 1022, 1022, 742, 741, 186, 1012] rfl
theorem ok_X2_wantNothing : zokM zTab kX2_wantNothing := ⟨by decide +kernel, by decide +kernel, by decide +kernel⟩
theorem gw_X2_wantNothing : (kX2_wantNothing.2.2.2.2.2.flatMap (zrq zTab kX2_wantNothing.1.cls)).all goodWord = true := by decide +kernel
set_option maxRecDepth 1000000 in
theorem wd_X2_wantNothing : ∀ w ∈ kX2_wantNothing.2.2.2.2.2.flatMap (zrq zTab kX2_wantNothing.1.cls), w ∈ lw_tbl := zplaces [1018, 742, 741, 186, 1012] rfl
theorem ok_X2_want : zokM zTab kX2_want := ⟨by decide +kernel, by decide +kernel, by decide +kernel⟩
theorem gw_X2_want : (kX2_want.2.2.2.2.2.flatMap (zrq zTab kX2_want.1.cls)).all goodWord = true := by decide +kernel
set_option maxRecDepth 1000000 in
theorem wd_X2_want : ∀ w ∈ kX2_want.2.2.2.2.2.flatMap (zrq zTab kX2_want.1.cls), w ∈ lw_tbl := zplaces [1047, 1046, 51, 190, 1176, 1018, 1018, 1018, 1018] rfl
theorem ok_X2_isWanted : zokM zTab kX2_isWanted := ⟨by decide +kernel, by decide +kernel, by decide +kernel⟩
theorem gw_X2_isWanted : (kX2_isWanted.2.2.2.2.2.flatMap (zrq zTab kX2_isWanted.1.cls)).all goodWord = true := by decide +kernel
set_option maxRecDepth 1000000 in
theorem wd_X2_isWanted : ∀ w ∈ kX2_isWanted.2.2.2.2.2.flatMap (zrq zTab kX2_isWanted.1.cls), w ∈ lw_tbl := zplaces [1018, 1018] rfl
theorem ok_X2_spread : zokM zTab kX2_spread := ⟨by decide +kernel, by decide +kernel, by decide +kernel⟩
theorem gw_X2_spread : (kX2_spread.2.2.2.2.2.flatMap (zrq zTab kX2_spread.1.cls)).all goodWord = true := by decide +kernel
set_option maxRecDepth 1000000 in
theorem wd_X2_spread : ∀ w ∈ kX2_spread.2.2.2.2.2.flatMap (zrq zTab kX2_spread.1.cls), w ∈ lw_tbl := zplaces [1013, 1014, 1015, 1016, 1017, 1017, 1055, 1054, 53, 190, 1052, 1019, 1020, 1017, 1014, 1017, 1059, 1058, 54, 190, 1056, 1069, 1068, 56, 190, 1066] rfl
theorem ok_X2_fillBehind : zokM zTab kX2_fillBehind := ⟨by decide +kernel, by decide +kernel, by decide +kernel⟩
theorem gw_X2_fillBehind : (kX2_fillBehind.2.2.2.2.2.flatMap (zrq zTab kX2_fillBehind.1.cls)).all goodWord = true := by decide +kernel
set_option maxRecDepth 1000000 in
theorem wd_X2_fillBehind : ∀ w ∈ kX2_fillBehind.2.2.2.2.2.flatMap (zrq zTab kX2_fillBehind.1.cls), w ∈ lw_tbl := zplaces [1017, 1017, 1017, 1013, 1063, 1062, 55, 190, 1060, 758, 757, 172, 1013, 1019, 864, 863, 37, 187, 1022, 1055, 1054, 53, 190, 1052, 1022, 1019, 1020, 1022, 1020, 1022, 1020] rfl
theorem ok_X2_onesAt : zokM zTab kX2_onesAt := ⟨by decide +kernel, by decide +kernel, by decide +kernel⟩
theorem gw_X2_onesAt : (kX2_onesAt.2.2.2.2.2.flatMap (zrq zTab kX2_onesAt.1.cls)).all goodWord = true := by decide +kernel
set_option maxRecDepth 1000000 in
theorem wd_X2_onesAt : ∀ w ∈ kX2_onesAt.2.2.2.2.2.flatMap (zrq zTab kX2_onesAt.1.cls), w ∈ lw_tbl := zplaces [1015, 1016] rfl
theorem ok_X2_recall : zokM zTab kX2_recall := ⟨by decide +kernel, by decide +kernel, by decide +kernel⟩
theorem gw_X2_recall : (kX2_recall.2.2.2.2.2.flatMap (zrq zTab kX2_recall.1.cls)).all goodWord = true := by decide +kernel
set_option maxRecDepth 1000000 in
theorem wd_X2_recall : ∀ w ∈ kX2_recall.2.2.2.2.2.flatMap (zrq zTab kX2_recall.1.cls), w ∈ lw_tbl := zplaces [1017, 1017, 1022, 1019] rfl
theorem ok_X2_forget : zokM zTab kX2_forget := ⟨by decide +kernel, by decide +kernel, by decide +kernel⟩
theorem gw_X2_forget : (kX2_forget.2.2.2.2.2.flatMap (zrq zTab kX2_forget.1.cls)).all goodWord = true := by decide +kernel
set_option maxRecDepth 1000000 in
theorem wd_X2_forget : ∀ w ∈ kX2_forget.2.2.2.2.2.flatMap (zrq zTab kX2_forget.1.cls), w ∈ lw_tbl := zplaces [1017, 1017, 1022, 1019] rfl
theorem ok_X2_endByDrift : zokM zTab kX2_endByDrift := ⟨by decide +kernel, by decide +kernel, by decide +kernel⟩
theorem gw_X2_endByDrift : (kX2_endByDrift.2.2.2.2.2.flatMap (zrq zTab kX2_endByDrift.1.cls)).all goodWord = true := by decide +kernel
set_option maxRecDepth 1000000 in
theorem wd_X2_endByDrift : ∀ w ∈ kX2_endByDrift.2.2.2.2.2.flatMap (zrq zTab kX2_endByDrift.1.cls), w ∈ lw_tbl := zplaces [1017, 1014, 1017, 1014, 1021, 1019, 1013, 679, 678, 172] rfl
theorem ok_X2_endByWord : zokM zTab kX2_endByWord := ⟨by decide +kernel, by decide +kernel, by decide +kernel⟩
theorem gw_X2_endByWord : (kX2_endByWord.2.2.2.2.2.flatMap (zrq zTab kX2_endByWord.1.cls)).all goodWord = true := by decide +kernel
set_option maxRecDepth 1000000 in
theorem wd_X2_endByWord : ∀ w ∈ kX2_endByWord.2.2.2.2.2.flatMap (zrq zTab kX2_endByWord.1.cls), w ∈ lw_tbl := zplaces [1017, 1014, 1017, 1014, 1021, 1019, 1151, 1150, 172] rfl
theorem ok_X2_endByOne : zokM zTab kX2_endByOne := ⟨by decide +kernel, by decide +kernel, by decide +kernel⟩
theorem gw_X2_endByOne : (kX2_endByOne.2.2.2.2.2.flatMap (zrq zTab kX2_endByOne.1.cls)).all goodWord = true := by decide +kernel
set_option maxRecDepth 1000000 in
theorem wd_X2_endByOne : ∀ w ∈ kX2_endByOne.2.2.2.2.2.flatMap (zrq zTab kX2_endByOne.1.cls), w ∈ lw_tbl := zplaces [1017, 1014, 1017, 1014, 1021] rfl
theorem ok_X2_foldBack : zokM zTab kX2_foldBack := ⟨by decide +kernel, by decide +kernel, by decide +kernel⟩
theorem gw_X2_foldBack : (kX2_foldBack.2.2.2.2.2.flatMap (zrq zTab kX2_foldBack.1.cls)).all goodWord = true := by decide +kernel
set_option maxRecDepth 1000000 in
theorem wd_X2_foldBack : ∀ w ∈ kX2_foldBack.2.2.2.2.2.flatMap (zrq zTab kX2_foldBack.1.cls), w ∈ lw_tbl := zplaces [1014, 1088, 1087, 60, 190, 1085, 1017, 1017, 1021, 1092, 1091, 61, 190, 1089, 1069, 1068, 56, 190, 1066] rfl
theorem ok_X2_folded : zokM zTab kX2_folded := ⟨by decide +kernel, by decide +kernel, by decide +kernel⟩
theorem gw_X2_folded : (kX2_folded.2.2.2.2.2.flatMap (zrq zTab kX2_folded.1.cls)).all goodWord = true := by decide +kernel
set_option maxRecDepth 1000000 in
theorem wd_X2_folded : ∀ w ∈ kX2_folded.2.2.2.2.2.flatMap (zrq zTab kX2_folded.1.cls), w ∈ lw_tbl := zplaces [1013, 1063, 1062, 55, 190, 1060, 758, 757, 172, 1022, 1013, 1019, 864, 863, 37, 187, 1021, 1021, 1021, 1080, 681, 185, 682, 1021, 1079, 628, 185, 629] rfl
theorem ok_X2_chosenAt : zokM zTab kX2_chosenAt := ⟨by decide +kernel, by decide +kernel, by decide +kernel⟩
theorem gw_X2_chosenAt : (kX2_chosenAt.2.2.2.2.2.flatMap (zrq zTab kX2_chosenAt.1.cls)).all goodWord = true := by decide +kernel
set_option maxRecDepth 1000000 in
theorem wd_X2_chosenAt : ∀ w ∈ kX2_chosenAt.2.2.2.2.2.flatMap (zrq zTab kX2_chosenAt.1.cls), w ∈ lw_tbl := zplaces [1014, 1088, 1087, 60, 190, 1085, 1100, 1099, 63, 190, 1097, 1022, 1013, 1019, 864, 863, 37, 187, 1069, 1068, 56, 190, 1066] rfl
theorem ok_X2_firstAsGood : zokM zTab kX2_firstAsGood := ⟨by decide +kernel, by decide +kernel, by decide +kernel⟩
theorem gw_X2_firstAsGood : (kX2_firstAsGood.2.2.2.2.2.flatMap (zrq zTab kX2_firstAsGood.1.cls)).all goodWord = true := by decide +kernel
set_option maxRecDepth 1000000 in
theorem wd_X2_firstAsGood : ∀ w ∈ kX2_firstAsGood.2.2.2.2.2.flatMap (zrq zTab kX2_firstAsGood.1.cls), w ∈ lw_tbl := zplaces [1013, 1063, 1062, 55, 190, 1060, 758, 757, 172, 1022, 1013, 1019, 864, 863, 37, 187, 1021, 1021] rfl
theorem ok_X2_bestStart : zokM zTab kX2_bestStart := ⟨by decide +kernel, by decide +kernel, by decide +kernel⟩
theorem gw_X2_bestStart : (kX2_bestStart.2.2.2.2.2.flatMap (zrq zTab kX2_bestStart.1.cls)).all goodWord = true := by decide +kernel
set_option maxRecDepth 1000000 in
theorem wd_X2_bestStart : ∀ w ∈ kX2_bestStart.2.2.2.2.2.flatMap (zrq zTab kX2_bestStart.1.cls), w ∈ lw_tbl := zplaces [1021] rfl
theorem ok_X2_bestEnd : zokM zTab kX2_bestEnd := ⟨by decide +kernel, by decide +kernel, by decide +kernel⟩
theorem gw_X2_bestEnd : (kX2_bestEnd.2.2.2.2.2.flatMap (zrq zTab kX2_bestEnd.1.cls)).all goodWord = true := by decide +kernel
set_option maxRecDepth 1000000 in
theorem wd_X2_bestEnd : ∀ w ∈ kX2_bestEnd.2.2.2.2.2.flatMap (zrq zTab kX2_bestEnd.1.cls), w ∈ lw_tbl := zplaces [1021, 1017, 1014, 1017, 1014, 1017, 1014, 1021, 1079, 628, 185, 629, 1021, 1080, 681, 185, 682] rfl
theorem ok_X2_sumOfEnds : zokM zTab kX2_sumOfEnds := ⟨by decide +kernel, by decide +kernel, by decide +kernel⟩
theorem gw_X2_sumOfEnds : (kX2_sumOfEnds.2.2.2.2.2.flatMap (zrq zTab kX2_sumOfEnds.1.cls)).all goodWord = true := by decide +kernel
set_option maxRecDepth 1000000 in
theorem wd_X2_sumOfEnds : ∀ w ∈ kX2_sumOfEnds.2.2.2.2.2.flatMap (zrq zTab kX2_sumOfEnds.1.cls), w ∈ lw_tbl := zplaces [1017, 1014, 1017, 1014, 1020, 1021] rfl
theorem ok_X2_rows : zokM zTab kX2_rows := ⟨by decide +kernel, by decide +kernel, by decide +kernel⟩
theorem gw_X2_rows : (kX2_rows.2.2.2.2.2.flatMap (zrq zTab kX2_rows.1.cls)).all goodWord = true := by decide +kernel
set_option maxRecDepth 1000000 in
theorem wd_X2_rows : ∀ w ∈ kX2_rows.2.2.2.2.2.flatMap (zrq zTab kX2_rows.1.cls), w ∈ lw_tbl := zplaces [1017, 1014, 1017, 1014, 1020] rfl
theorem ok_X2_rowsTo : zokM zTab kX2_rowsTo := ⟨by decide +kernel, by decide +kernel, by decide +kernel⟩
theorem gw_X2_rowsTo : (kX2_rowsTo.2.2.2.2.2.flatMap (zrq zTab kX2_rowsTo.1.cls)).all goodWord = true := by decide +kernel
set_option maxRecDepth 1000000 in
theorem wd_X2_rowsTo : ∀ w ∈ kX2_rowsTo.2.2.2.2.2.flatMap (zrq zTab kX2_rowsTo.1.cls), w ∈ lw_tbl := zplaces [1017, 1014, 1017, 1014, 1019, 1020] rfl
theorem ok_X2_look : zokM zTab kX2_look := ⟨by decide +kernel, by decide +kernel, by decide +kernel⟩
theorem gw_X2_look : (kX2_look.2.2.2.2.2.flatMap (zrq zTab kX2_look.1.cls)).all goodWord = true := by decide +kernel
set_option maxRecDepth 1000000 in
theorem wd_X2_look : ∀ w ∈ kX2_look.2.2.2.2.2.flatMap (zrq zTab kX2_look.1.cls), w ∈ lw_tbl := zplaces [1014, 1017, 1017, 1020, 1021, 1079, 628, 185, 629] rfl
theorem ok_X2_onlyReaderAt : zokM zTab kX2_onlyReaderAt := ⟨by decide +kernel, by decide +kernel, by decide +kernel⟩
theorem gw_X2_onlyReaderAt : (kX2_onlyReaderAt.2.2.2.2.2.flatMap (zrq zTab kX2_onlyReaderAt.1.cls)).all goodWord = true := by decide +kernel
set_option maxRecDepth 1000000 in
theorem wd_X2_onlyReaderAt : ∀ w ∈ kX2_onlyReaderAt.2.2.2.2.2.flatMap (zrq zTab kX2_onlyReaderAt.1.cls), w ∈ lw_tbl := zplaces [1088, 1087, 60, 190, 1085, 1013, 1200, 1199, 79, 190, 1197, 1069, 1068, 56, 190, 1066, 1069, 1068, 56, 190, 1066] rfl
theorem ok_X2_isReaderAt : zokM zTab kX2_isReaderAt := ⟨by decide +kernel, by decide +kernel, by decide +kernel⟩
theorem gw_X2_isReaderAt : (kX2_isReaderAt.2.2.2.2.2.flatMap (zrq zTab kX2_isReaderAt.1.cls)).all goodWord = true := by decide +kernel
set_option maxRecDepth 1000000 in
theorem wd_X2_isReaderAt : ∀ w ∈ kX2_isReaderAt.2.2.2.2.2.flatMap (zrq zTab kX2_isReaderAt.1.cls), w ∈ lw_tbl := zplaces [1017, 1017, 1022, 1013, 1019, 864, 863, 37, 187, 1021] rfl
theorem ok_X5_init : zokM zTab kX5_init := ⟨by decide +kernel, by decide +kernel, by decide +kernel⟩
theorem gw_X5_init : (kX5_init.2.2.2.2.2.flatMap (zrq zTab kX5_init.1.cls)).all goodWord = true := by decide +kernel
set_option maxRecDepth 1000000 in
theorem wd_X5_init : ∀ w ∈ kX5_init.2.2.2.2.2.flatMap (zrq zTab kX5_init.1.cls), w ∈ lw_tbl := zplaces [925, 199, 200, 247, 926, 928, 930, 932, 933, 934, 247, 935, 247, 936, 247, 937, 247, 938, 247, 939, 247, 940, 247, 941, 247, 942, 247, 943] rfl
theorem ok_X5_findOrbits : zokM zTab kX5_findOrbits := ⟨by decide +kernel, by decide +kernel, by decide +kernel⟩
theorem gw_X5_findOrbits : (kX5_findOrbits.2.2.2.2.2.flatMap (zrq zTab kX5_findOrbits.1.cls)).all goodWord = true := by decide +kernel
set_option maxRecDepth 1000000 in
theorem wd_X5_findOrbits : ∀ w ∈ kX5_findOrbits.2.2.2.2.2.flatMap (zrq zTab kX5_findOrbits.1.cls), w ∈ lw_tbl := zplaces [926, 742, 741, 186, 980, 935, 742, 741, 186, 980, 937, 742, 741, 186, 980, 864, 863, 37, 187, 935, 926, 926, 985, 984, 47, 189, 982, 926, 926, 989, 988, 48, 189, 986, 935, 926, 926, 937, 990, 628, 185, 629, 935, 926, 926, 926, 994, 993, 49, 189, 991, 990, 628, 185, 629] rfl
theorem ok_X5_putThoseOfNone : zokM zTab kX5_putThoseOfNone := ⟨by decide +kernel, by decide +kernel, by decide +kernel⟩
theorem gw_X5_putThoseOfNone : (kX5_putThoseOfNone.2.2.2.2.2.flatMap (zrq zTab kX5_putThoseOfNone.1.cls)).all goodWord = true := by decide +kernel
set_option maxRecDepth 1000000 in
theorem wd_X5_putThoseOfNone : ∀ w ∈ kX5_putThoseOfNone.2.2.2.2.2.flatMap (zrq zTab kX5_putThoseOfNone.1.cls), w ∈ lw_tbl := zplaces [935, 936] rfl
theorem ok_X5_takeOutside : zokM zTab kX5_takeOutside := ⟨by decide +kernel, by decide +kernel, by decide +kernel⟩
theorem gw_X5_takeOutside : (kX5_takeOutside.2.2.2.2.2.flatMap (zrq zTab kX5_takeOutside.1.cls)).all goodWord = true := by decide +kernel
set_option maxRecDepth 1000000 in
theorem wd_X5_takeOutside : ∀ w ∈ kX5_takeOutside.2.2.2.2.2.flatMap (zrq zTab kX5_takeOutside.1.cls), w ∈ lw_tbl := zplaces [936, 864, 863, 37, 187, 937, 937, 937, 990, 628, 185, 629, 935, 935, 936] rfl
theorem ok_X5_goRound : zokM zTab kX5_goRound := ⟨by decide +kernel, by decide +kernel, by decide +kernel⟩
theorem gw_X5_goRound : (kX5_goRound.2.2.2.2.2.flatMap (zrq zTab kX5_goRound.1.cls)).all goodWord = true := by decide +kernel
set_option maxRecDepth 1000000 in
theorem wd_X5_goRound : ∀ w ∈ kX5_goRound.2.2.2.2.2.flatMap (zrq zTab kX5_goRound.1.cls), w ∈ lw_tbl := zplaces [935, 935, 864, 863, 37, 187] rfl
theorem ok_X5_findCircles : zokM zTab kX5_findCircles := ⟨by decide +kernel, by decide +kernel, by decide +kernel⟩
theorem gw_X5_findCircles : (kX5_findCircles.2.2.2.2.2.flatMap (zrq zTab kX5_findCircles.1.cls)).all goodWord = true := by decide +kernel
set_option maxRecDepth 1000000 in
theorem wd_X5_findCircles : ∀ w ∈ kX5_findCircles.2.2.2.2.2.flatMap (zrq zTab kX5_findCircles.1.cls), w ∈ lw_tbl := zplaces [928, 930, 932, 933, 940, 742, 741, 186, 980, 943, 742, 741, 186, 980, 940, 1298, 1297, 90, 189, 1295] rfl
theorem ok_X5_findFrom : zokM zTab kX5_findFrom := ⟨by decide +kernel, by decide +kernel, by decide +kernel⟩
theorem gw_X5_findFrom : (kX5_findFrom.2.2.2.2.2.flatMap (zrq zTab kX5_findFrom.1.cls)).all goodWord = true := by decide +kernel
set_option maxRecDepth 1000000 in
theorem wd_X5_findFrom : ∀ w ∈ kX5_findFrom.2.2.2.2.2.flatMap (zrq zTab kX5_findFrom.1.cls), w ∈ lw_tbl := zplaces [934, 1302, 1301, 91, 189, 1299, 1303, 934, 938, 934, 942, 1307, 1306, 92, 189, 1304, 1312, 1311, 93, 189, 1309] rfl
theorem ok_X5_enter : zokM zTab kX5_enter := ⟨by decide +kernel, by decide +kernel, by decide +kernel⟩
theorem gw_X5_enter : (kX5_enter.2.2.2.2.2.flatMap (zrq zTab kX5_enter.1.cls)).all goodWord = true := by decide +kernel
set_option maxRecDepth 1000000 in
theorem wd_X5_enter : ∀ w ∈ kX5_enter.2.2.2.2.2.flatMap (zrq zTab kX5_enter.1.cls), w ∈ lw_tbl := zplaces [940, 932, 941, 932, 942, 932, 932, 939, 933, 933, 933, 938, 934, 934, 934] rfl
theorem ok_X5_tryNext : zokM zTab kX5_tryNext := ⟨by decide +kernel, by decide +kernel, by decide +kernel⟩
theorem gw_X5_tryNext : (kX5_tryNext.2.2.2.2.2.flatMap (zrq zTab kX5_tryNext.1.cls)).all goodWord = true := by decide +kernel
set_option maxRecDepth 1000000 in
theorem wd_X5_tryNext : ∀ w ∈ kX5_tryNext.2.2.2.2.2.flatMap (zrq zTab kX5_tryNext.1.cls), w ∈ lw_tbl := zplaces [942, 864, 863, 37, 187, 942, 940, 1302, 1301, 91, 189, 1299, 943, 941, 941, 940, 1308, 681, 185, 682] rfl
theorem ok_X5_leave : zokM zTab kX5_leave := ⟨by decide +kernel, by decide +kernel, by decide +kernel⟩
theorem gw_X5_leave : (kX5_leave.2.2.2.2.2.flatMap (zrq zTab kX5_leave.1.cls)).all goodWord = true := by decide +kernel
set_option maxRecDepth 1000000 in
theorem wd_X5_leave : ∀ w ∈ kX5_leave.2.2.2.2.2.flatMap (zrq zTab kX5_leave.1.cls), w ∈ lw_tbl := zplaces [934, 934, 934, 938, 934, 941, 941, 941, 1308, 681, 185, 682, 941, 940, 1316, 1315, 94, 189, 1313] rfl
theorem ok_X5_closeCircle : zokM zTab kX5_closeCircle := ⟨by decide +kernel, by decide +kernel, by decide +kernel⟩
theorem gw_X5_closeCircle : (kX5_closeCircle.2.2.2.2.2.flatMap (zrq zTab kX5_closeCircle.1.cls)).all goodWord = true := by decide +kernel
set_option maxRecDepth 1000000 in
theorem wd_X5_closeCircle : ∀ w ∈ kX5_closeCircle.2.2.2.2.2.flatMap (zrq zTab kX5_closeCircle.1.cls), w ∈ lw_tbl := zplaces [933, 939, 933, 933, 943, 939, 933, 928, 928, 930, 990, 628, 185, 629, 930] rfl
theorem ok_X12_init : zokM zTab kX12_init := ⟨by decide +kernel, by decide +kernel, by decide +kernel⟩
theorem gw_X12_init : (kX12_init.2.2.2.2.2.flatMap (zrq zTab kX12_init.1.cls)).all goodWord = true := by decide +kernel
set_option maxRecDepth 1000000 in
theorem wd_X12_init : ∀ w ∈ kX12_init.2.2.2.2.2.flatMap (zrq zTab kX12_init.1.cls), w ∈ lw_tbl := zplaces [1341, 199, 200, 246, 1344, 247, 1345, 247, 1346, 247, 1347, 247, 1348, 247, 1349, 247, 1350, 247, 1351, 247, 1361, 247, 1362, 1364, 247, 1367, 247, 1368, 247, 1370, 247, 1372, 247, 1373, 247, 1377, 247, 1378, 247, 1379, 247, 1380, 247, 1382, 1342, 247, 1383, 1342, 247, 1385, 1342, 247, 1386, 247, 1388, 247, 1389, 247, 1390, 247, 1391, 247, 1392, 247, 1393, 1500, 1394, 1347] rfl
