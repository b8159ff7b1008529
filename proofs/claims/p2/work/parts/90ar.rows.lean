theorem ok_X2_folded : zokM zTab kX2_folded := ⟨by decide +kernel, by decide +kernel, by decide +kernel⟩
theorem gw_X2_folded : (kX2_folded.2.2.2.2.2.flatMap (zrq zTab kX2_folded.1.cls)).all goodWord = true := by decide +kernel
theorem wd_X2_folded : ∀ w ∈ kX2_folded.2.2.2.2.2.flatMap (zrq zTab kX2_folded.1.cls), w ∈ lw_tbl := zplaces [1013, 1063, 1062, 55, 190, 1060, 758, 757, 172, 1022, 1013, 1019, 864, 863, 37, 187, 1021, 1021, 1021, 1080, 681, 185, 682, 1021, 1079, 628, 185, 629] (by decide +kernel)
theorem ok_X2_chosenAt : zokM zTab kX2_chosenAt := ⟨by decide +kernel, by decide +kernel, by decide +kernel⟩
theorem gw_X2_chosenAt : (kX2_chosenAt.2.2.2.2.2.flatMap (zrq zTab kX2_chosenAt.1.cls)).all goodWord = true := by decide +kernel
theorem wd_X2_chosenAt : ∀ w ∈ kX2_chosenAt.2.2.2.2.2.flatMap (zrq zTab kX2_chosenAt.1.cls), w ∈ lw_tbl := zplaces [1014, 1088, 1087, 60, 190, 1085, 1100, 1099, 63, 190, 1097, 1022, 1013, 1019, 864, 863, 37, 187, 1069, 1068, 56, 190, 1066] (by decide +kernel)
theorem ok_X2_firstAsGood : zokM zTab kX2_firstAsGood := ⟨by decide +kernel, by decide +kernel, by decide +kernel⟩
theorem gw_X2_firstAsGood : (kX2_firstAsGood.2.2.2.2.2.flatMap (zrq zTab kX2_firstAsGood.1.cls)).all goodWord = true := by decide +kernel
theorem wd_X2_firstAsGood : ∀ w ∈ kX2_firstAsGood.2.2.2.2.2.flatMap (zrq zTab kX2_firstAsGood.1.cls), w ∈ lw_tbl := zplaces [1013, 1063, 1062, 55, 190, 1060, 758, 757, 172, 1022, 1013, 1019, 864, 863, 37, 187, 1021, 1021] (by decide +kernel)
theorem ok_X2_bestStart : zokM zTab kX2_bestStart := ⟨by decide +kernel, by decide +kernel, by decide +kernel⟩
theorem gw_X2_bestStart : (kX2_bestStart.2.2.2.2.2.flatMap (zrq zTab kX2_bestStart.1.cls)).all goodWord = true := by decide +kernel
theorem wd_X2_bestStart : ∀ w ∈ kX2_bestStart.2.2.2.2.2.flatMap (zrq zTab kX2_bestStart.1.cls), w ∈ lw_tbl := zplaces [1021] (by decide +kernel)
theorem ok_X2_bestEnd : zokM zTab kX2_bestEnd := ⟨by decide +kernel, by decide +kernel, by decide +kernel⟩
theorem gw_X2_bestEnd : (kX2_bestEnd.2.2.2.2.2.flatMap (zrq zTab kX2_bestEnd.1.cls)).all goodWord = true := by decide +kernel
theorem wd_X2_bestEnd : ∀ w ∈ kX2_bestEnd.2.2.2.2.2.flatMap (zrq zTab kX2_bestEnd.1.cls), w ∈ lw_tbl := zplaces [1021, 1017, 1014, 1017, 1014, 1017, 1014, 1021, 1079, 628, 185, 629, 1021, 1080, 681, 185, 682] (by decide +kernel)
theorem ok_X2_sumOfEnds : zokM zTab kX2_sumOfEnds := ⟨by decide +kernel, by decide +kernel, by decide +kernel⟩
theorem gw_X2_sumOfEnds : (kX2_sumOfEnds.2.2.2.2.2.flatMap (zrq zTab kX2_sumOfEnds.1.cls)).all goodWord = true := by decide +kernel
theorem wd_X2_sumOfEnds : ∀ w ∈ kX2_sumOfEnds.2.2.2.2.2.flatMap (zrq zTab kX2_sumOfEnds.1.cls), w ∈ lw_tbl := zplaces [1017, 1014, 1017, 1014, 1020, 1021] (by decide +kernel)
theorem ok_X2_rows : zokM zTab kX2_rows := ⟨by decide +kernel, by decide +kernel, by decide +kernel⟩
theorem gw_X2_rows : (kX2_rows.2.2.2.2.2.flatMap (zrq zTab kX2_rows.1.cls)).all goodWord = true := by decide +kernel
theorem wd_X2_rows : ∀ w ∈ kX2_rows.2.2.2.2.2.flatMap (zrq zTab kX2_rows.1.cls), w ∈ lw_tbl := zplaces [1017, 1014, 1017, 1014, 1020] (by decide +kernel)
theorem ok_X2_rowsTo : zokM zTab kX2_rowsTo := ⟨by decide +kernel, by decide +kernel, by decide +kernel⟩
theorem gw_X2_rowsTo : (kX2_rowsTo.2.2.2.2.2.flatMap (zrq zTab kX2_rowsTo.1.cls)).all goodWord = true := by decide +kernel
theorem wd_X2_rowsTo : ∀ w ∈ kX2_rowsTo.2.2.2.2.2.flatMap (zrq zTab kX2_rowsTo.1.cls), w ∈ lw_tbl := zplaces [1017, 1014, 1017, 1014, 1019, 1020] (by decide +kernel)
theorem ok_X2_look : zokM zTab kX2_look := ⟨by decide +kernel, by decide +kernel, by decide +kernel⟩
theorem gw_X2_look : (kX2_look.2.2.2.2.2.flatMap (zrq zTab kX2_look.1.cls)).all goodWord = true := by decide +kernel
theorem wd_X2_look : ∀ w ∈ kX2_look.2.2.2.2.2.flatMap (zrq zTab kX2_look.1.cls), w ∈ lw_tbl := zplaces [1014, 1017, 1017, 1020, 1021, 1079, 628, 185, 629] (by decide +kernel)
theorem ok_X2_onlyReaderAt : zokM zTab kX2_onlyReaderAt := ⟨by decide +kernel, by decide +kernel, by decide +kernel⟩
theorem gw_X2_onlyReaderAt : (kX2_onlyReaderAt.2.2.2.2.2.flatMap (zrq zTab kX2_onlyReaderAt.1.cls)).all goodWord = true := by decide +kernel
theorem wd_X2_onlyReaderAt : ∀ w ∈ kX2_onlyReaderAt.2.2.2.2.2.flatMap (zrq zTab kX2_onlyReaderAt.1.cls), w ∈ lw_tbl := zplaces [1088, 1087, 60, 190, 1085, 1013, 1200, 1199, 79, 190, 1197, 1069, 1068, 56, 190, 1066, 1069, 1068, 56, 190, 1066] (by decide +kernel)
theorem ok_X2_isReaderAt : zokM zTab kX2_isReaderAt := ⟨by decide +kernel, by decide +kernel, by decide +kernel⟩
theorem gw_X2_isReaderAt : (kX2_isReaderAt.2.2.2.2.2.flatMap (zrq zTab kX2_isReaderAt.1.cls)).all goodWord = true := by decide +kernel
theorem wd_X2_isReaderAt : ∀ w ∈ kX2_isReaderAt.2.2.2.2.2.flatMap (zrq zTab kX2_isReaderAt.1.cls), w ∈ lw_tbl := zplaces [1017, 1017, 1022, 1013, 1019, 864, 863, 37, 187, 1021] (by decide +kernel)
theorem ok_X5_init : zokM zTab kX5_init := ⟨by decide +kernel, by decide +kernel, by decide +kernel⟩
theorem gw_X5_init : (kX5_init.2.2.2.2.2.flatMap (zrq zTab kX5_init.1.cls)).all goodWord = true := by decide +kernel
theorem wd_X5_init : ∀ w ∈ kX5_init.2.2.2.2.2.flatMap (zrq zTab kX5_init.1.cls), w ∈ lw_tbl := zplaces [925, 199, 200, 247, 926, 928, 930, 932, 933, 934, 247, 935, 247, 936, 247, 937, 247, 938, 247, 939, 247, 940, 247, 941, 247, 942, 247, 943] (by decide +kernel)
