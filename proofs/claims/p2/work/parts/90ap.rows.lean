theorem ok_X4_all : zokM zTab kX4_all := ⟨by decide +kernel, by decide +kernel, by decide +kernel⟩
theorem gw_X4_all : (kX4_all.2.2.2.2.2.flatMap (zrq zTab kX4_all.1.cls)).all goodWord = true := by decide +kernel
theorem wd_X4_all : ∀ w ∈ kX4_all.2.2.2.2.2.flatMap (zrq zTab kX4_all.1.cls), w ∈ lw_tbl := zplaces [798] (by decide +kernel)
theorem ok_X4_after : zokM zTab kX4_after := ⟨by decide +kernel, by decide +kernel, by decide +kernel⟩
theorem gw_X4_after : (kX4_after.2.2.2.2.2.flatMap (zrq zTab kX4_after.1.cls)).all goodWord = true := by decide +kernel
theorem wd_X4_after : ∀ w ∈ kX4_after.2.2.2.2.2.flatMap (zrq zTab kX4_after.1.cls), w ∈ lw_tbl := zplaces [803, 803, 798, 691, 690, 17, 178, 803] (by decide +kernel)
theorem ok_X4_isChanged : zokM zTab kX4_isChanged := ⟨by decide +kernel, by decide +kernel, by decide +kernel⟩
theorem gw_X4_isChanged : (kX4_isChanged.2.2.2.2.2.flatMap (zrq zTab kX4_isChanged.1.cls)).all goodWord = true := by decide +kernel
theorem wd_X4_isChanged : ∀ w ∈ kX4_isChanged.2.2.2.2.2.flatMap (zrq zTab kX4_isChanged.1.cls), w ∈ lw_tbl := zplaces [798, 758, 757, 172, 864, 863, 37, 187, 903] (by decide +kernel)
theorem ok_X4_unchangedBy : zokM zTab kX4_unchangedBy := ⟨by decide +kernel, by decide +kernel, by decide +kernel⟩
theorem gw_X4_unchangedBy : (kX4_unchangedBy.2.2.2.2.2.flatMap (zrq zTab kX4_unchangedBy.1.cls)).all goodWord = true := by decide +kernel
theorem wd_X4_unchangedBy : ∀ w ∈ kX4_unchangedBy.2.2.2.2.2.flatMap (zrq zTab kX4_unchangedBy.1.cls), w ∈ lw_tbl := zplaces [901, 900, 43, 187, 898] (by decide +kernel)
theorem ok_X4_alikeEitherWay : zokM zTab kX4_alikeEitherWay := ⟨by decide +kernel, by decide +kernel, by decide +kernel⟩
theorem gw_X4_alikeEitherWay : (kX4_alikeEitherWay.2.2.2.2.2.flatMap (zrq zTab kX4_alikeEitherWay.1.cls)).all goodWord = true := by decide +kernel
theorem wd_X4_alikeEitherWay : ∀ w ∈ kX4_alikeEitherWay.2.2.2.2.2.flatMap (zrq zTab kX4_alikeEitherWay.1.cls), w ∈ lw_tbl := zplaces [864, 863, 37, 187, 903, 864, 863, 37, 187, 903, 864, 863, 37, 187, 903, 864, 863, 37, 187, 903] (by decide +kernel)
theorem ok_X4_goBack : zokM zTab kX4_goBack := ⟨by decide +kernel, by decide +kernel, by decide +kernel⟩
theorem gw_X4_goBack : (kX4_goBack.2.2.2.2.2.flatMap (zrq zTab kX4_goBack.1.cls)).all goodWord = true := by decide +kernel
theorem wd_X4_goBack : ∀ w ∈ kX4_goBack.2.2.2.2.2.flatMap (zrq zTab kX4_goBack.1.cls), w ∈ lw_tbl := zplaces [804, 1127, 1126, 186, 1125, 804, 805, 1131, 1130, 67, 187, 1128, 804, 805, 804, 805] (by decide +kernel)
theorem ok_X4_comesToMarked : zokM zTab kX4_comesToMarked := ⟨by decide +kernel, by decide +kernel, by decide +kernel⟩
theorem gw_X4_comesToMarked : (kX4_comesToMarked.2.2.2.2.2.flatMap (zrq zTab kX4_comesToMarked.1.cls)).all goodWord = true := by decide +kernel
theorem wd_X4_comesToMarked : ∀ w ∈ kX4_comesToMarked.2.2.2.2.2.flatMap (zrq zTab kX4_comesToMarked.1.cls), w ∈ lw_tbl := zplaces [798, 804, 864, 863, 37, 187, 903] (by decide +kernel)
theorem ok_X4_markUnmade : zokM zTab kX4_markUnmade := ⟨by decide +kernel, by decide +kernel, by decide +kernel⟩
theorem gw_X4_markUnmade : (kX4_markUnmade.2.2.2.2.2.flatMap (zrq zTab kX4_markUnmade.1.cls)).all goodWord = true := by decide +kernel
theorem wd_X4_markUnmade : ∀ w ∈ kX4_markUnmade.2.2.2.2.2.flatMap (zrq zTab kX4_markUnmade.1.cls), w ∈ lw_tbl := zplaces [804, 1127, 1126, 186, 1125, 798, 804, 864, 863, 37, 187, 903] (by decide +kernel)
theorem ok_X4_marked : zokM zTab kX4_marked := ⟨by decide +kernel, by decide +kernel, by decide +kernel⟩
theorem gw_X4_marked : (kX4_marked.2.2.2.2.2.flatMap (zrq zTab kX4_marked.1.cls)).all goodWord = true := by decide +kernel
theorem wd_X4_marked : ∀ w ∈ kX4_marked.2.2.2.2.2.flatMap (zrq zTab kX4_marked.1.cls), w ∈ lw_tbl := zplaces [804] (by decide +kernel)
theorem ok_X4_leastMarked : zokM zTab kX4_leastMarked := ⟨by decide +kernel, by decide +kernel, by decide +kernel⟩
theorem gw_X4_leastMarked : (kX4_leastMarked.2.2.2.2.2.flatMap (zrq zTab kX4_leastMarked.1.cls)).all goodWord = true := by decide +kernel
theorem wd_X4_leastMarked : ∀ w ∈ kX4_leastMarked.2.2.2.2.2.flatMap (zrq zTab kX4_leastMarked.1.cls), w ∈ lw_tbl := zplaces [804] (by decide +kernel)
theorem ok_X9_init : zokM zTab kX9_init := ⟨by decide +kernel, by decide +kernel, by decide +kernel⟩
theorem gw_X9_init : (kX9_init.2.2.2.2.2.flatMap (zrq zTab kX9_init.1.cls)).all goodWord = true := by decide +kernel
theorem wd_X9_init : ∀ w ∈ kX9_init.2.2.2.2.2.flatMap (zrq zTab kX9_init.1.cls), w ∈ lw_tbl := zplaces [828, 199, 200, 830, 247, 832, 247, 833, 247, 835, 247, 836, 833, 742, 741, 186, 829] (by decide +kernel)
theorem ok_X9_go : zokM zTab kX9_go := ⟨by decide +kernel, by decide +kernel, by decide +kernel⟩
theorem gw_X9_go : (kX9_go.2.2.2.2.2.flatMap (zrq zTab kX9_go.1.cls)).all goodWord = true := by decide +kernel
theorem wd_X9_go : ∀ w ∈ kX9_go.2.2.2.2.2.flatMap (zrq zTab kX9_go.1.cls), w ∈ lw_tbl := zplaces [830, 833, 832, 830, 859, 858, 36, 188, 856, 830, 832, 758, 757, 172, 864, 863, 37, 187, 833, 859, 858, 36, 188, 856] (by decide +kernel)
theorem ok_X9_comeTo : zokM zTab kX9_comeTo := ⟨by decide +kernel, by decide +kernel, by decide +kernel⟩
theorem gw_X9_comeTo : (kX9_comeTo.2.2.2.2.2.flatMap (zrq zTab kX9_comeTo.1.cls)).all goodWord = true := by decide +kernel
theorem wd_X9_comeTo : ∀ w ∈ kX9_comeTo.2.2.2.2.2.flatMap (zrq zTab kX9_comeTo.1.cls), w ∈ lw_tbl := zplaces [833, 830, 833, 835, 836, 832, 830, 830, 830] (by decide +kernel)
theorem ok_X9_readerOnWay : zokM zTab kX9_readerOnWay := ⟨by decide +kernel, by decide +kernel, by decide +kernel⟩
theorem gw_X9_readerOnWay : (kX9_readerOnWay.2.2.2.2.2.flatMap (zrq zTab kX9_readerOnWay.1.cls)).all goodWord = true := by decide +kernel
theorem wd_X9_readerOnWay : ∀ w ∈ kX9_readerOnWay.2.2.2.2.2.flatMap (zrq zTab kX9_readerOnWay.1.cls), w ∈ lw_tbl := zplaces [833, 835, 836] (by decide +kernel)
theorem ok_X9_wayBack : zokM zTab kX9_wayBack := ⟨by decide +kernel, by decide +kernel, by decide +kernel⟩
theorem gw_X9_wayBack : (kX9_wayBack.2.2.2.2.2.flatMap (zrq zTab kX9_wayBack.1.cls)).all goodWord = true := by decide +kernel
theorem wd_X9_wayBack : ∀ w ∈ kX9_wayBack.2.2.2.2.2.flatMap (zrq zTab kX9_wayBack.1.cls), w ∈ lw_tbl := zplaces [830, 832, 864, 863, 37, 187, 833, 832] (by decide +kernel)
theorem ok_X9_farthest : zokM zTab kX9_farthest := ⟨by decide +kernel, by decide +kernel, by decide +kernel⟩
theorem gw_X9_farthest : (kX9_farthest.2.2.2.2.2.flatMap (zrq zTab kX9_farthest.1.cls)).all goodWord = true := by decide +kernel
theorem wd_X9_farthest : ∀ w ∈ kX9_farthest.2.2.2.2.2.flatMap (zrq zTab kX9_farthest.1.cls), w ∈ lw_tbl := zplaces [830, 833, 832, 830] (by decide +kernel)
theorem ok_X9_meeting : zokM zTab kX9_meeting := ⟨by decide +kernel, by decide +kernel, by decide +kernel⟩
theorem gw_X9_meeting : (kX9_meeting.2.2.2.2.2.flatMap (zrq zTab kX9_meeting.1.cls)).all goodWord = true := by decide +kernel
theorem wd_X9_meeting : ∀ w ∈ kX9_meeting.2.2.2.2.2.flatMap (zrq zTab kX9_meeting.1.cls), w ∈ lw_tbl := zplaces [830, 832, 833, 833, 833] (by decide +kernel)
theorem ok_X9_nearestTo : zokM zTab kX9_nearestTo := ⟨by decide +kernel, by decide +kernel, by decide +kernel⟩
theorem gw_X9_nearestTo : (kX9_nearestTo.2.2.2.2.2.flatMap (zrq zTab kX9_nearestTo.1.cls)).all goodWord = true := by decide +kernel
theorem wd_X9_nearestTo : ∀ w ∈ kX9_nearestTo.2.2.2.2.2.flatMap (zrq zTab kX9_nearestTo.1.cls), w ∈ lw_tbl := zplaces [832, 679, 678, 172, 830, 832, 679, 678, 172, 832, 832] (by decide +kernel)
