theorem ok_X9_firstSettled : zokM zTab kX9_firstSettled := ⟨zwdf_ok rfl _ 0 (by decide +kernel) (by decide +kernel), by decide +kernel, by decide +kernel⟩
theorem gw_X9_firstSettled : (kX9_firstSettled.2.2.2.2.2.flatMap (zrq zTab kX9_firstSettled.1.cls)).all goodWord = true := by decide +kernel
set_option maxRecDepth 1000000 in
theorem wd_X9_firstSettled : ∀ w ∈ kX9_firstSettled.2.2.2.2.2.flatMap (zrq zTab kX9_firstSettled.1.cls), w ∈ lw_tbl := zplaces [830, 832, 833, 833, 851, 850, 34, 187, 901, 900, 43, 187] rfl
theorem ok_X2_init : zokM zTab kX2_init := ⟨zwdf_ok rfl _ 0 (by decide +kernel) (by decide +kernel), by decide +kernel, by decide +kernel⟩
theorem gw_X2_init : (kX2_init.2.2.2.2.2.flatMap (zrq zTab kX2_init.1.cls)).all goodWord = true := by decide +kernel
set_option maxRecDepth 1000000 in
theorem wd_X2_init : ∀ w ∈ kX2_init.2.2.2.2.2.flatMap (zrq zTab kX2_init.1.cls), w ∈ lw_tbl := zplaces [1011, 199, 200, 1013, 1014, 1015, 1016, 247, 1017, 247, 1018, 247, 1019, 247, 1020, 247, 1021, 247, 1022, 1022, 742, 741, 186, 1012] rfl
theorem ok_X2_wantNothing : zokM zTab kX2_wantNothing := ⟨zwdf_ok rfl _ 0 (by decide +kernel) (by decide +kernel), by decide +kernel, by decide +kernel⟩
theorem gw_X2_wantNothing : (kX2_wantNothing.2.2.2.2.2.flatMap (zrq zTab kX2_wantNothing.1.cls)).all goodWord = true := by decide +kernel
set_option maxRecDepth 1000000 in
theorem wd_X2_wantNothing : ∀ w ∈ kX2_wantNothing.2.2.2.2.2.flatMap (zrq zTab kX2_wantNothing.1.cls), w ∈ lw_tbl := zplaces [1018, 742, 741, 186, 1012] rfl
theorem ok_X2_want : zokM zTab kX2_want := ⟨zwdf_ok rfl _ 0 (by decide +kernel) (by decide +kernel), by decide +kernel, by decide +kernel⟩
theorem gw_X2_want : (kX2_want.2.2.2.2.2.flatMap (zrq zTab kX2_want.1.cls)).all goodWord = true := by decide +kernel
set_option maxRecDepth 1000000 in
theorem wd_X2_want : ∀ w ∈ kX2_want.2.2.2.2.2.flatMap (zrq zTab kX2_want.1.cls), w ∈ lw_tbl := zplaces [1047, 1046, 51, 190, 1176, 1018, 1018, 1018, 1018] rfl
theorem ok_X2_isWanted : zokM zTab kX2_isWanted := ⟨zwdf_ok rfl _ 0 (by decide +kernel) (by decide +kernel), by decide +kernel, by decide +kernel⟩
theorem gw_X2_isWanted : (kX2_isWanted.2.2.2.2.2.flatMap (zrq zTab kX2_isWanted.1.cls)).all goodWord = true := by decide +kernel
set_option maxRecDepth 1000000 in
theorem wd_X2_isWanted : ∀ w ∈ kX2_isWanted.2.2.2.2.2.flatMap (zrq zTab kX2_isWanted.1.cls), w ∈ lw_tbl := zplaces [1018, 1018] rfl
theorem ok_X2_spread : zokM zTab kX2_spread := ⟨zwdf_ok rfl _ 0 (by decide +kernel) (by decide +kernel), by decide +kernel, by decide +kernel⟩
theorem gw_X2_spread : (kX2_spread.2.2.2.2.2.flatMap (zrq zTab kX2_spread.1.cls)).all goodWord = true := by decide +kernel
set_option maxRecDepth 1000000 in
theorem wd_X2_spread : ∀ w ∈ kX2_spread.2.2.2.2.2.flatMap (zrq zTab kX2_spread.1.cls), w ∈ lw_tbl := zplaces [1013, 1014, 1015, 1016, 1017, 1017, 1055, 1054, 53, 190, 1052, 1019, 1020, 1017, 1014, 1017, 1059, 1058, 54, 190, 1056, 1069, 1068, 56, 190, 1066] rfl
theorem ok_X2_fillBehind : zokM zTab kX2_fillBehind := ⟨zwdf_ok rfl _ 0 (by decide +kernel) (by decide +kernel), by decide +kernel, by decide +kernel⟩
theorem gw_X2_fillBehind : (kX2_fillBehind.2.2.2.2.2.flatMap (zrq zTab kX2_fillBehind.1.cls)).all goodWord = true := by decide +kernel
set_option maxRecDepth 1000000 in
theorem wd_X2_fillBehind : ∀ w ∈ kX2_fillBehind.2.2.2.2.2.flatMap (zrq zTab kX2_fillBehind.1.cls), w ∈ lw_tbl := zplaces [1017, 1017, 1017, 1013, 1063, 1062, 55, 190, 1060, 758, 757, 172, 1013, 1019, 864, 863, 37, 187, 1022, 1055, 1054, 53, 190, 1052, 1022, 1019, 1020, 1022, 1020, 1022, 1020] rfl
theorem ok_X2_onesAt : zokM zTab kX2_onesAt := ⟨zwdf_ok rfl _ 0 (by decide +kernel) (by decide +kernel), by decide +kernel, by decide +kernel⟩
theorem gw_X2_onesAt : (kX2_onesAt.2.2.2.2.2.flatMap (zrq zTab kX2_onesAt.1.cls)).all goodWord = true := by decide +kernel
set_option maxRecDepth 1000000 in
theorem wd_X2_onesAt : ∀ w ∈ kX2_onesAt.2.2.2.2.2.flatMap (zrq zTab kX2_onesAt.1.cls), w ∈ lw_tbl := zplaces [1015, 1016] rfl
theorem ok_X2_recall : zokM zTab kX2_recall := ⟨zwdf_ok rfl _ 0 (by decide +kernel) (by decide +kernel), by decide +kernel, by decide +kernel⟩
theorem gw_X2_recall : (kX2_recall.2.2.2.2.2.flatMap (zrq zTab kX2_recall.1.cls)).all goodWord = true := by decide +kernel
set_option maxRecDepth 1000000 in
theorem wd_X2_recall : ∀ w ∈ kX2_recall.2.2.2.2.2.flatMap (zrq zTab kX2_recall.1.cls), w ∈ lw_tbl := zplaces [1017, 1017, 1022, 1019] rfl
theorem ok_X2_forget : zokM zTab kX2_forget := ⟨zwdf_ok rfl _ 0 (by decide +kernel) (by decide +kernel), by decide +kernel, by decide +kernel⟩
theorem gw_X2_forget : (kX2_forget.2.2.2.2.2.flatMap (zrq zTab kX2_forget.1.cls)).all goodWord = true := by decide +kernel
set_option maxRecDepth 1000000 in
theorem wd_X2_forget : ∀ w ∈ kX2_forget.2.2.2.2.2.flatMap (zrq zTab kX2_forget.1.cls), w ∈ lw_tbl := zplaces [1017, 1017, 1022, 1019] rfl
theorem ok_X2_endByDrift : zokM zTab kX2_endByDrift := ⟨zwdf_ok rfl _ 0 (by decide +kernel) (by decide +kernel), by decide +kernel, by decide +kernel⟩
theorem gw_X2_endByDrift : (kX2_endByDrift.2.2.2.2.2.flatMap (zrq zTab kX2_endByDrift.1.cls)).all goodWord = true := by decide +kernel
set_option maxRecDepth 1000000 in
theorem wd_X2_endByDrift : ∀ w ∈ kX2_endByDrift.2.2.2.2.2.flatMap (zrq zTab kX2_endByDrift.1.cls), w ∈ lw_tbl := zplaces [1017, 1014, 1017, 1014, 1021, 1019, 1013, 679, 678, 172] rfl
theorem ok_X2_endByWord : zokM zTab kX2_endByWord := ⟨zwdf_ok rfl _ 0 (by decide +kernel) (by decide +kernel), by decide +kernel, by decide +kernel⟩
theorem gw_X2_endByWord : (kX2_endByWord.2.2.2.2.2.flatMap (zrq zTab kX2_endByWord.1.cls)).all goodWord = true := by decide +kernel
set_option maxRecDepth 1000000 in
theorem wd_X2_endByWord : ∀ w ∈ kX2_endByWord.2.2.2.2.2.flatMap (zrq zTab kX2_endByWord.1.cls), w ∈ lw_tbl := zplaces [1017, 1014, 1017, 1014, 1021, 1019, 1151, 1150, 172] rfl
theorem ok_X2_endByOne : zokM zTab kX2_endByOne := ⟨zwdf_ok rfl _ 0 (by decide +kernel) (by decide +kernel), by decide +kernel, by decide +kernel⟩
theorem gw_X2_endByOne : (kX2_endByOne.2.2.2.2.2.flatMap (zrq zTab kX2_endByOne.1.cls)).all goodWord = true := by decide +kernel
set_option maxRecDepth 1000000 in
theorem wd_X2_endByOne : ∀ w ∈ kX2_endByOne.2.2.2.2.2.flatMap (zrq zTab kX2_endByOne.1.cls), w ∈ lw_tbl := zplaces [1017, 1014, 1017, 1014, 1021] rfl
theorem ok_X2_foldBack : zokM zTab kX2_foldBack := ⟨zwdf_ok rfl _ 0 (by decide +kernel) (by decide +kernel), by decide +kernel, by decide +kernel⟩
theorem gw_X2_foldBack : (kX2_foldBack.2.2.2.2.2.flatMap (zrq zTab kX2_foldBack.1.cls)).all goodWord = true := by decide +kernel
set_option maxRecDepth 1000000 in
theorem wd_X2_foldBack : ∀ w ∈ kX2_foldBack.2.2.2.2.2.flatMap (zrq zTab kX2_foldBack.1.cls), w ∈ lw_tbl := zplaces [1014, 1088, 1087, 60, 190, 1085, 1017, 1017, 1021, 1092, 1091, 61, 190, 1089, 1069, 1068, 56, 190, 1066] rfl
theorem ok_X2_folded : zokM zTab kX2_folded := ⟨zwdf_ok rfl _ 0 (by decide +kernel) (by decide +kernel), by decide +kernel, by decide +kernel⟩
theorem gw_X2_folded : (kX2_folded.2.2.2.2.2.flatMap (zrq zTab kX2_folded.1.cls)).all goodWord = true := by decide +kernel
set_option maxRecDepth 1000000 in
theorem wd_X2_folded : ∀ w ∈ kX2_folded.2.2.2.2.2.flatMap (zrq zTab kX2_folded.1.cls), w ∈ lw_tbl := zplaces [1013, 1063, 1062, 55, 190, 1060, 758, 757, 172, 1022, 1013, 1019, 864, 863, 37, 187, 1021, 1021, 1021, 1080, 681, 185, 682, 1021, 1079, 628, 185, 629] rfl
theorem ok_X2_chosenAt : zokM zTab kX2_chosenAt := ⟨zwdf_ok rfl _ 0 (by decide +kernel) (by decide +kernel), by decide +kernel, by decide +kernel⟩
theorem gw_X2_chosenAt : (kX2_chosenAt.2.2.2.2.2.flatMap (zrq zTab kX2_chosenAt.1.cls)).all goodWord = true := by decide +kernel
set_option maxRecDepth 1000000 in
theorem wd_X2_chosenAt : ∀ w ∈ kX2_chosenAt.2.2.2.2.2.flatMap (zrq zTab kX2_chosenAt.1.cls), w ∈ lw_tbl := zplaces [1014, 1088, 1087, 60, 190, 1085, 1100, 1099, 63, 190, 1097, 1022, 1013, 1019, 864, 863, 37, 187, 1069, 1068, 56, 190, 1066] rfl
theorem ok_X2_firstAsGood : zokM zTab kX2_firstAsGood := ⟨zwdf_ok rfl _ 0 (by decide +kernel) (by decide +kernel), by decide +kernel, by decide +kernel⟩
theorem gw_X2_firstAsGood : (kX2_firstAsGood.2.2.2.2.2.flatMap (zrq zTab kX2_firstAsGood.1.cls)).all goodWord = true := by decide +kernel
set_option maxRecDepth 1000000 in
theorem wd_X2_firstAsGood : ∀ w ∈ kX2_firstAsGood.2.2.2.2.2.flatMap (zrq zTab kX2_firstAsGood.1.cls), w ∈ lw_tbl := zplaces [1013, 1063, 1062, 55, 190, 1060, 758, 757, 172, 1022, 1013, 1019, 864, 863, 37, 187, 1021, 1021] rfl
theorem ok_X2_bestStart : zokM zTab kX2_bestStart := ⟨zwdf_ok rfl _ 0 (by decide +kernel) (by decide +kernel), by decide +kernel, by decide +kernel⟩
theorem gw_X2_bestStart : (kX2_bestStart.2.2.2.2.2.flatMap (zrq zTab kX2_bestStart.1.cls)).all goodWord = true := by decide +kernel
set_option maxRecDepth 1000000 in
theorem wd_X2_bestStart : ∀ w ∈ kX2_bestStart.2.2.2.2.2.flatMap (zrq zTab kX2_bestStart.1.cls), w ∈ lw_tbl := zplaces [1021] rfl
theorem ok_X2_bestEnd : zokM zTab kX2_bestEnd := ⟨zwdf_ok rfl _ 0 (by decide +kernel) (by decide +kernel), by decide +kernel, by decide +kernel⟩
theorem gw_X2_bestEnd : (kX2_bestEnd.2.2.2.2.2.flatMap (zrq zTab kX2_bestEnd.1.cls)).all goodWord = true := by decide +kernel
set_option maxRecDepth 1000000 in
theorem wd_X2_bestEnd : ∀ w ∈ kX2_bestEnd.2.2.2.2.2.flatMap (zrq zTab kX2_bestEnd.1.cls), w ∈ lw_tbl := zplaces [1021, 1017, 1014, 1017, 1014, 1017, 1014, 1021, 1079, 628, 185, 629, 1021, 1080, 681, 185, 682] rfl
theorem ok_X2_sumOfEnds : zokM zTab kX2_sumOfEnds := ⟨zwdf_ok rfl _ 0 (by decide +kernel) (by decide +kernel), by decide +kernel, by decide +kernel⟩
theorem gw_X2_sumOfEnds : (kX2_sumOfEnds.2.2.2.2.2.flatMap (zrq zTab kX2_sumOfEnds.1.cls)).all goodWord = true := by decide +kernel
set_option maxRecDepth 1000000 in
theorem wd_X2_sumOfEnds : ∀ w ∈ kX2_sumOfEnds.2.2.2.2.2.flatMap (zrq zTab kX2_sumOfEnds.1.cls), w ∈ lw_tbl := zplaces [1017, 1014, 1017, 1014, 1020, 1021] rfl
theorem ok_X2_rows : zokM zTab kX2_rows := ⟨zwdf_ok rfl _ 0 (by decide +kernel) (by decide +kernel), by decide +kernel, by decide +kernel⟩
theorem gw_X2_rows : (kX2_rows.2.2.2.2.2.flatMap (zrq zTab kX2_rows.1.cls)).all goodWord = true := by decide +kernel
set_option maxRecDepth 1000000 in
theorem wd_X2_rows : ∀ w ∈ kX2_rows.2.2.2.2.2.flatMap (zrq zTab kX2_rows.1.cls), w ∈ lw_tbl := zplaces [1017, 1014, 1017, 1014, 1020] rfl
theorem ok_X2_rowsTo : zokM zTab kX2_rowsTo := ⟨zwdf_ok rfl _ 0 (by decide +kernel) (by decide +kernel), by decide +kernel, by decide +kernel⟩
theorem gw_X2_rowsTo : (kX2_rowsTo.2.2.2.2.2.flatMap (zrq zTab kX2_rowsTo.1.cls)).all goodWord = true := by decide +kernel
set_option maxRecDepth 1000000 in
theorem wd_X2_rowsTo : ∀ w ∈ kX2_rowsTo.2.2.2.2.2.flatMap (zrq zTab kX2_rowsTo.1.cls), w ∈ lw_tbl := zplaces [1017, 1014, 1017, 1014, 1019, 1020] rfl
theorem ok_X2_look : zokM zTab kX2_look := ⟨zwdf_ok rfl _ 0 (by decide +kernel) (by decide +kernel), by decide +kernel, by decide +kernel⟩
theorem gw_X2_look : (kX2_look.2.2.2.2.2.flatMap (zrq zTab kX2_look.1.cls)).all goodWord = true := by decide +kernel
set_option maxRecDepth 1000000 in
theorem wd_X2_look : ∀ w ∈ kX2_look.2.2.2.2.2.flatMap (zrq zTab kX2_look.1.cls), w ∈ lw_tbl := zplaces [1014, 1017, 1017, 1020, 1021, 1079, 628, 185, 629] rfl
theorem ok_X2_onlyReaderAt : zokM zTab kX2_onlyReaderAt := ⟨zwdf_ok rfl _ 0 (by decide +kernel) (by decide +kernel), by decide +kernel, by decide +kernel⟩
theorem gw_X2_onlyReaderAt : (kX2_onlyReaderAt.2.2.2.2.2.flatMap (zrq zTab kX2_onlyReaderAt.1.cls)).all goodWord = true := by decide +kernel
set_option maxRecDepth 1000000 in
theorem wd_X2_onlyReaderAt : ∀ w ∈ kX2_onlyReaderAt.2.2.2.2.2.flatMap (zrq zTab kX2_onlyReaderAt.1.cls), w ∈ lw_tbl := zplaces [1088, 1087, 60, 190, 1085, 1013, 1200, 1199, 79, 190, 1197, 1069, 1068, 56, 190, 1066, 1069, 1068, 56, 190, 1066] rfl
theorem ok_X2_isReaderAt : zokM zTab kX2_isReaderAt := ⟨zwdf_ok rfl _ 0 (by decide +kernel) (by decide +kernel), by decide +kernel, by decide +kernel⟩
theorem gw_X2_isReaderAt : (kX2_isReaderAt.2.2.2.2.2.flatMap (zrq zTab kX2_isReaderAt.1.cls)).all goodWord = true := by decide +kernel
set_option maxRecDepth 1000000 in
theorem wd_X2_isReaderAt : ∀ w ∈ kX2_isReaderAt.2.2.2.2.2.flatMap (zrq zTab kX2_isReaderAt.1.cls), w ∈ lw_tbl := zplaces [1017, 1017, 1022, 1013, 1019, 864, 863, 37, 187, 1021] rfl
theorem ok_X5_init : zokM zTab kX5_init := ⟨zwdf_ok rfl _ 0 (by decide +kernel) (by decide +kernel), by decide +kernel, by decide +kernel⟩
theorem gw_X5_init : (kX5_init.2.2.2.2.2.flatMap (zrq zTab kX5_init.1.cls)).all goodWord = true := by decide +kernel
set_option maxRecDepth 1000000 in
theorem wd_X5_init : ∀ w ∈ kX5_init.2.2.2.2.2.flatMap (zrq zTab kX5_init.1.cls), w ∈ lw_tbl := zplaces [925, 199, 200, 247, 926, 928, 930, 932, 933, 934, 247, 935, 247, 936, 247, 937, 247, 938, 247, 939, 247, 940, 247, 941, 247, 942, 247, 943] rfl
theorem ok_X5_findOrbits : zokM zTab kX5_findOrbits := ⟨zwdf_ok rfl _ 0 (by decide +kernel) (by decide +kernel), by decide +kernel, by decide +kernel⟩
theorem gw_X5_findOrbits : (kX5_findOrbits.2.2.2.2.2.flatMap (zrq zTab kX5_findOrbits.1.cls)).all goodWord = true := by decide +kernel
set_option maxRecDepth 1000000 in
theorem wd_X5_findOrbits : ∀ w ∈ kX5_findOrbits.2.2.2.2.2.flatMap (zrq zTab kX5_findOrbits.1.cls), w ∈ lw_tbl := zplaces [926, 742, 741, 186, 980, 935, 742, 741, 186, 980, 937, 742, 741, 186, 980, 864, 863, 37, 187, 935, 926, 926, 985, 984, 47, 189, 982, 926, 926, 989, 988, 48, 189, 986, 935, 926, 926, 937, 990, 628, 185, 629, 935, 926, 926, 926, 994, 993, 49, 189, 991, 990, 628, 185, 629] rfl
theorem ok_X5_putThoseOfNone : zokM zTab kX5_putThoseOfNone := ⟨zwdf_ok rfl _ 0 (by decide +kernel) (by decide +kernel), by decide +kernel, by decide +kernel⟩
theorem gw_X5_putThoseOfNone : (kX5_putThoseOfNone.2.2.2.2.2.flatMap (zrq zTab kX5_putThoseOfNone.1.cls)).all goodWord = true := by decide +kernel
set_option maxRecDepth 1000000 in
theorem wd_X5_putThoseOfNone : ∀ w ∈ kX5_putThoseOfNone.2.2.2.2.2.flatMap (zrq zTab kX5_putThoseOfNone.1.cls), w ∈ lw_tbl := zplaces [935, 936] rfl
theorem ok_X5_takeOutside : zokM zTab kX5_takeOutside := ⟨zwdf_ok rfl _ 0 (by decide +kernel) (by decide +kernel), by decide +kernel, by decide +kernel⟩
theorem gw_X5_takeOutside : (kX5_takeOutside.2.2.2.2.2.flatMap (zrq zTab kX5_takeOutside.1.cls)).all goodWord = true := by decide +kernel
set_option maxRecDepth 1000000 in
theorem wd_X5_takeOutside : ∀ w ∈ kX5_takeOutside.2.2.2.2.2.flatMap (zrq zTab kX5_takeOutside.1.cls), w ∈ lw_tbl := zplaces [936, 864, 863, 37, 187, 937, 937, 937, 990, 628, 185, 629, 935, 935, 936] rfl
theorem ok_X5_goRound : zokM zTab kX5_goRound := ⟨zwdf_ok rfl _ 0 (by decide +kernel) (by decide +kernel), by decide +kernel, by decide +kernel⟩
theorem gw_X5_goRound : (kX5_goRound.2.2.2.2.2.flatMap (zrq zTab kX5_goRound.1.cls)).all goodWord = true := by decide +kernel
set_option maxRecDepth 1000000 in
theorem wd_X5_goRound : ∀ w ∈ kX5_goRound.2.2.2.2.2.flatMap (zrq zTab kX5_goRound.1.cls), w ∈ lw_tbl := zplaces [935, 935, 864, 863, 37, 187] rfl
theorem ok_X5_findCircles : zokM zTab kX5_findCircles := ⟨zwdf_ok rfl _ 0 (by decide +kernel) (by decide +kernel), by decide +kernel, by decide +kernel⟩
theorem gw_X5_findCircles : (kX5_findCircles.2.2.2.2.2.flatMap (zrq zTab kX5_findCircles.1.cls)).all goodWord = true := by decide +kernel
set_option maxRecDepth 1000000 in
theorem wd_X5_findCircles : ∀ w ∈ kX5_findCircles.2.2.2.2.2.flatMap (zrq zTab kX5_findCircles.1.cls), w ∈ lw_tbl := zplaces [928, 930, 932, 933, 940, 742, 741, 186, 980, 943, 742, 741, 186, 980, 940, 1298, 1297, 90, 189, 1295] rfl
theorem ok_X5_findFrom : zokM zTab kX5_findFrom := ⟨zwdf_ok rfl _ 0 (by decide +kernel) (by decide +kernel), by decide +kernel, by decide +kernel⟩
theorem gw_X5_findFrom : (kX5_findFrom.2.2.2.2.2.flatMap (zrq zTab kX5_findFrom.1.cls)).all goodWord = true := by decide +kernel
set_option maxRecDepth 1000000 in
theorem wd_X5_findFrom : ∀ w ∈ kX5_findFrom.2.2.2.2.2.flatMap (zrq zTab kX5_findFrom.1.cls), w ∈ lw_tbl := zplaces [934, 1302, 1301, 91, 189, 1299, 1303, 934, 938, 934, 942, 1307, 1306, 92, 189, 1304, 1312, 1311, 93, 189, 1309] rfl
theorem ok_X5_enter : zokM zTab kX5_enter := ⟨zwdf_ok rfl _ 0 (by decide +kernel) (by decide +kernel), by decide +kernel, by decide +kernel⟩
theorem gw_X5_enter : (kX5_enter.2.2.2.2.2.flatMap (zrq zTab kX5_enter.1.cls)).all goodWord = true := by decide +kernel
set_option maxRecDepth 1000000 in
theorem wd_X5_enter : ∀ w ∈ kX5_enter.2.2.2.2.2.flatMap (zrq zTab kX5_enter.1.cls), w ∈ lw_tbl := zplaces [940, 932, 941, 932, 942, 932, 932, 939, 933, 933, 933, 938, 934, 934, 934] rfl
theorem ok_X5_tryNext : zokM zTab kX5_tryNext := ⟨zwdf_ok rfl _ 0 (by decide +kernel) (by decide +kernel), by decide +kernel, by decide +kernel⟩
theorem gw_X5_tryNext : (kX5_tryNext.2.2.2.2.2.flatMap (zrq zTab kX5_tryNext.1.cls)).all goodWord = true := by decide +kernel
set_option maxRecDepth 1000000 in
theorem wd_X5_tryNext : ∀ w ∈ kX5_tryNext.2.2.2.2.2.flatMap (zrq zTab kX5_tryNext.1.cls), w ∈ lw_tbl := zplaces [942, 864, 863, 37, 187, 942, 940, 1302, 1301, 91, 189, 1299, 943, 941, 941, 940, 1308, 681, 185, 682] rfl
theorem ok_X5_leave : zokM zTab kX5_leave := ⟨zwdf_ok rfl _ 0 (by decide +kernel) (by decide +kernel), by decide +kernel, by decide +kernel⟩
theorem gw_X5_leave : (kX5_leave.2.2.2.2.2.flatMap (zrq zTab kX5_leave.1.cls)).all goodWord = true := by decide +kernel
set_option maxRecDepth 1000000 in
theorem wd_X5_leave : ∀ w ∈ kX5_leave.2.2.2.2.2.flatMap (zrq zTab kX5_leave.1.cls), w ∈ lw_tbl := zplaces [934, 934, 934, 938, 934, 941, 941, 941, 1308, 681, 185, 682, 941, 940, 1316, 1315, 94, 189, 1313] rfl
theorem ok_X5_closeCircle : zokM zTab kX5_closeCircle := ⟨zwdf_ok rfl _ 0 (by decide +kernel) (by decide +kernel), by decide +kernel, by decide +kernel⟩
theorem gw_X5_closeCircle : (kX5_closeCircle.2.2.2.2.2.flatMap (zrq zTab kX5_closeCircle.1.cls)).all goodWord = true := by decide +kernel
set_option maxRecDepth 1000000 in
theorem wd_X5_closeCircle : ∀ w ∈ kX5_closeCircle.2.2.2.2.2.flatMap (zrq zTab kX5_closeCircle.1.cls), w ∈ lw_tbl := zplaces [933, 939, 933, 933, 943, 939, 933, 928, 928, 930, 990, 628, 185, 629, 930] rfl
theorem ok_X12_init : zokM zTab kX12_init := ⟨zwdf_ok rfl _ 0 (by decide +kernel) (by decide +kernel), by decide +kernel, by decide +kernel⟩
theorem gw_X12_init : (kX12_init.2.2.2.2.2.flatMap (zrq zTab kX12_init.1.cls)).all goodWord = true := by decide +kernel
set_option maxRecDepth 1000000 in
theorem wd_X12_init : ∀ w ∈ kX12_init.2.2.2.2.2.flatMap (zrq zTab kX12_init.1.cls), w ∈ lw_tbl := zplaces [1341, 199, 200, 246, 1344, 247, 1345, 247, 1346, 247, 1347, 247, 1348, 247, 1349, 247, 1350, 247, 1351, 247, 1361, 247, 1362, 1364, 247, 1367, 247, 1368, 247, 1370, 247, 1372, 247, 1373, 247, 1377, 247, 1378, 247, 1379, 247, 1380, 247, 1382, 1342, 247, 1383, 1342, 247, 1385, 1342, 247, 1386, 247, 1388, 247, 1389, 247, 1390, 247, 1391, 247, 1392, 247, 1393, 1500, 1394, 1347] rfl
theorem ok_X12_in : zokM zTab kX12_in := ⟨zwdf_ok rfl _ 0 (by decide +kernel) (by decide +kernel), by decide +kernel, by decide +kernel⟩
theorem gw_X12_in : (kX12_in.2.2.2.2.2.flatMap (zrq zTab kX12_in.1.cls)).all goodWord = true := by decide +kernel
set_option maxRecDepth 1000000 in
theorem wd_X12_in : ∀ w ∈ kX12_in.2.2.2.2.2.flatMap (zrq zTab kX12_in.1.cls), w ∈ lw_tbl := zplaces [] rfl
theorem ok_X12_has : zokM zTab kX12_has := ⟨zwdf_ok rfl _ 0 (by decide +kernel) (by decide +kernel), by decide +kernel, by decide +kernel⟩
theorem gw_X12_has : (kX12_has.2.2.2.2.2.flatMap (zrq zTab kX12_has.1.cls)).all goodWord = true := by decide +kernel
set_option maxRecDepth 1000000 in
theorem wd_X12_has : ∀ w ∈ kX12_has.2.2.2.2.2.flatMap (zrq zTab kX12_has.1.cls), w ∈ lw_tbl := zplaces [] rfl
theorem ok_X12_greater : zokM zTab kX12_greater := ⟨zwdf_ok rfl _ 0 (by decide +kernel) (by decide +kernel), by decide +kernel, by decide +kernel⟩
theorem gw_X12_greater : (kX12_greater.2.2.2.2.2.flatMap (zrq zTab kX12_greater.1.cls)).all goodWord = true := by decide +kernel
set_option maxRecDepth 1000000 in
theorem wd_X12_greater : ∀ w ∈ kX12_greater.2.2.2.2.2.flatMap (zrq zTab kX12_greater.1.cls), w ∈ lw_tbl := zplaces [] rfl
theorem ok_X12_lesser : zokM zTab kX12_lesser := ⟨zwdf_ok rfl _ 0 (by decide +kernel) (by decide +kernel), by decide +kernel, by decide +kernel⟩
theorem gw_X12_lesser : (kX12_lesser.2.2.2.2.2.flatMap (zrq zTab kX12_lesser.1.cls)).all goodWord = true := by decide +kernel
set_option maxRecDepth 1000000 in
theorem wd_X12_lesser : ∀ w ∈ kX12_lesser.2.2.2.2.2.flatMap (zrq zTab kX12_lesser.1.cls), w ∈ lw_tbl := zplaces [] rfl
theorem ok_X12_copyRow : zokM zTab kX12_copyRow := ⟨zwdf_ok rfl _ 0 (by decide +kernel) (by decide +kernel), by decide +kernel, by decide +kernel⟩
theorem gw_X12_copyRow : (kX12_copyRow.2.2.2.2.2.flatMap (zrq zTab kX12_copyRow.1.cls)).all goodWord = true := by decide +kernel
set_option maxRecDepth 1000000 in
theorem wd_X12_copyRow : ∀ w ∈ kX12_copyRow.2.2.2.2.2.flatMap (zrq zTab kX12_copyRow.1.cls), w ∈ lw_tbl := zplaces [] rfl
theorem ok_X12_copyAll : zokM zTab kX12_copyAll := ⟨zwdf_ok rfl _ 0 (by decide +kernel) (by decide +kernel), by decide +kernel, by decide +kernel⟩
theorem gw_X12_copyAll : (kX12_copyAll.2.2.2.2.2.flatMap (zrq zTab kX12_copyAll.1.cls)).all goodWord = true := by decide +kernel
set_option maxRecDepth 1000000 in
theorem wd_X12_copyAll : ∀ w ∈ kX12_copyAll.2.2.2.2.2.flatMap (zrq zTab kX12_copyAll.1.cls), w ∈ lw_tbl := zplaces [1344, 1344, 1345, 1994, 1993, 176, 1992, 1346, 1994, 1993, 176, 1992, 1347, 1994, 1993, 176, 1992, 1348, 1994, 1993, 176, 1992, 1349, 1994, 1993, 176, 1992, 1350, 1994, 1993, 176, 1992, 1351, 1994, 1993, 176, 1992] rfl
theorem ok_X12_is : zokM zTab kX12_is := ⟨zwdf_ok rfl _ 0 (by decide +kernel) (by decide +kernel), by decide +kernel, by decide +kernel⟩
theorem gw_X12_is : (kX12_is.2.2.2.2.2.flatMap (zrq zTab kX12_is.1.cls)).all goodWord = true := by decide +kernel
set_option maxRecDepth 1000000 in
theorem wd_X12_is : ∀ w ∈ kX12_is.2.2.2.2.2.flatMap (zrq zTab kX12_is.1.cls), w ∈ lw_tbl := zplaces [1348, 1515, 1514, 176, 1513] rfl
theorem ok_X12_feed : zokM zTab kX12_feed := ⟨zwdf_ok rfl _ 0 (by decide +kernel) (by decide +kernel), by decide +kernel, by decide +kernel⟩
theorem gw_X12_feed : (kX12_feed.2.2.2.2.2.flatMap (zrq zTab kX12_feed.1.cls)).all goodWord = true := by decide +kernel
set_option maxRecDepth 1000000 in
theorem wd_X12_feed : ∀ w ∈ kX12_feed.2.2.2.2.2.flatMap (zrq zTab kX12_feed.1.cls), w ∈ lw_tbl := zplaces [1343, 1345, 1508, 1507, 96, 176, 1505, 1508, 1507, 96, 176, 1505, 1508, 1507, 96, 176, 1505, 1508, 1507, 96, 176, 1505, 1508, 1507, 96, 176, 1505, 1345] rfl
theorem ok_X12_four : zokM zTab kX12_four := ⟨zwdf_ok rfl _ 0 (by decide +kernel) (by decide +kernel), by decide +kernel, by decide +kernel⟩
theorem gw_X12_four : (kX12_four.2.2.2.2.2.flatMap (zrq zTab kX12_four.1.cls)).all goodWord = true := by decide +kernel
set_option maxRecDepth 1000000 in
theorem wd_X12_four : ∀ w ∈ kX12_four.2.2.2.2.2.flatMap (zrq zTab kX12_four.1.cls), w ∈ lw_tbl := zplaces [1344, 1345, 1345] rfl
theorem ok_X12_end : zokM zTab kX12_end := ⟨zwdf_ok rfl _ 0 (by decide +kernel) (by decide +kernel), by decide +kernel, by decide +kernel⟩
theorem gw_X12_end : (kX12_end.2.2.2.2.2.flatMap (zrq zTab kX12_end.1.cls)).all goodWord = true := by decide +kernel
set_option maxRecDepth 1000000 in
theorem wd_X12_end : ∀ w ∈ kX12_end.2.2.2.2.2.flatMap (zrq zTab kX12_end.1.cls), w ∈ lw_tbl := zplaces [1343, 1345, 1515, 1514, 176, 1513, 1345] rfl
theorem ok_X12_see : zokM zTab kX12_see := ⟨zwdf_ok rfl _ 0 (by decide +kernel) (by decide +kernel), by decide +kernel, by decide +kernel⟩
theorem gw_X12_see : (kX12_see.2.2.2.2.2.flatMap (zrq zTab kX12_see.1.cls)).all goodWord = true := by decide +kernel
set_option maxRecDepth 1000000 in
theorem wd_X12_see : ∀ w ∈ kX12_see.2.2.2.2.2.flatMap (zrq zTab kX12_see.1.cls), w ∈ lw_tbl := zplaces [1352, 1353, 1344, 1352] rfl
theorem ok_X12_token : zokM zTab kX12_token := ⟨zwdf_ok rfl _ 0 (by decide +kernel) (by decide +kernel), by decide +kernel, by decide +kernel⟩
theorem gw_X12_token : (kX12_token.2.2.2.2.2.flatMap (zrq zTab kX12_token.1.cls)).all goodWord = true := by decide +kernel
set_option maxRecDepth 1000000 in
theorem wd_X12_token : ∀ w ∈ kX12_token.2.2.2.2.2.flatMap (zrq zTab kX12_token.1.cls), w ∈ lw_tbl := zplaces [1535, 1534, 100, 176, 1532, 1535, 1534, 100, 176, 1532, 1352, 1352, 1352, 1354, 1535, 1534, 100, 176, 1532, 1357, 1355, 1515, 1514, 176, 1513, 1535, 1534, 100, 176, 1532, 1515, 1514, 176, 1513, 1357, 1535, 1534, 100, 176, 1532, 1357, 1352, 1352, 1357, 1357, 1355, 1515, 1514, 176, 1513, 1356, 1535, 1534, 100, 176, 1532, 1515, 1514, 176, 1513, 1356, 1535, 1534, 100, 176, 1532, 1356, 1356, 1352, 1352, 1355, 1352, 1352, 1355] rfl
theorem ok_X12_fails : zokM zTab kX12_fails := ⟨zwdf_ok rfl _ 0 (by decide +kernel) (by decide +kernel), by decide +kernel, by decide +kernel⟩
theorem gw_X12_fails : (kX12_fails.2.2.2.2.2.flatMap (zrq zTab kX12_fails.1.cls)).all goodWord = true := by decide +kernel
set_option maxRecDepth 1000000 in
theorem wd_X12_fails : ∀ w ∈ kX12_fails.2.2.2.2.2.flatMap (zrq zTab kX12_fails.1.cls), w ∈ lw_tbl := zplaces [1354, 1358] rfl
theorem ok_X12_later : zokM zTab kX12_later := ⟨zwdf_ok rfl _ 0 (by decide +kernel) (by decide +kernel), by decide +kernel, by decide +kernel⟩
theorem gw_X12_later : (kX12_later.2.2.2.2.2.flatMap (zrq zTab kX12_later.1.cls)).all goodWord = true := by decide +kernel
set_option maxRecDepth 1000000 in
theorem wd_X12_later : ∀ w ∈ kX12_later.2.2.2.2.2.flatMap (zrq zTab kX12_later.1.cls), w ∈ lw_tbl := zplaces [1359, 1360, 1360, 1359, 1359, 1360] rfl
theorem ok_X12_takeBut : zokM zTab kX12_takeBut := ⟨zwdf_ok rfl _ 0 (by decide +kernel) (by decide +kernel), by decide +kernel, by decide +kernel⟩
theorem gw_X12_takeBut : (kX12_takeBut.2.2.2.2.2.flatMap (zrq zTab kX12_takeBut.1.cls)).all goodWord = true := by decide +kernel
set_option maxRecDepth 1000000 in
theorem wd_X12_takeBut : ∀ w ∈ kX12_takeBut.2.2.2.2.2.flatMap (zrq zTab kX12_takeBut.1.cls), w ∈ lw_tbl := zplaces [1355, 1575, 1574, 108, 176, 1572, 1362, 1356, 1356, 1515, 1514, 176, 1513, 1356, 1354, 1563, 1562, 105, 176, 1560, 1531, 1530, 99, 176, 1528] rfl
theorem ok_X12_take : zokM zTab kX12_take := ⟨zwdf_ok rfl _ 0 (by decide +kernel) (by decide +kernel), by decide +kernel, by decide +kernel⟩
theorem gw_X12_take : (kX12_take.2.2.2.2.2.flatMap (zrq zTab kX12_take.1.cls)).all goodWord = true := by decide +kernel
set_option maxRecDepth 1000000 in
theorem wd_X12_take : ∀ w ∈ kX12_take.2.2.2.2.2.flatMap (zrq zTab kX12_take.1.cls), w ∈ lw_tbl := zplaces [1571, 1570, 107, 176, 1568] rfl
theorem ok_X12_full : zokM zTab kX12_full := ⟨zwdf_ok rfl _ 0 (by decide +kernel) (by decide +kernel), by decide +kernel, by decide +kernel⟩
theorem gw_X12_full : (kX12_full.2.2.2.2.2.flatMap (zrq zTab kX12_full.1.cls)).all goodWord = true := by decide +kernel
set_option maxRecDepth 1000000 in
theorem wd_X12_full : ∀ w ∈ kX12_full.2.2.2.2.2.flatMap (zrq zTab kX12_full.1.cls), w ∈ lw_tbl := zplaces [1361, 1563, 1562, 105, 176, 1560] rfl
theorem ok_X12_shorter : zokM zTab kX12_shorter := ⟨zwdf_ok rfl _ 0 (by decide +kernel) (by decide +kernel), by decide +kernel, by decide +kernel⟩
theorem gw_X12_shorter : (kX12_shorter.2.2.2.2.2.flatMap (zrq zTab kX12_shorter.1.cls)).all goodWord = true := by decide +kernel
set_option maxRecDepth 1000000 in
theorem wd_X12_shorter : ∀ w ∈ kX12_shorter.2.2.2.2.2.flatMap (zrq zTab kX12_shorter.1.cls), w ∈ lw_tbl := zplaces [] rfl
theorem ok_X12_takeText : zokM zTab kX12_takeText := ⟨zwdf_ok rfl _ 0 (by decide +kernel) (by decide +kernel), by decide +kernel, by decide +kernel⟩
theorem gw_X12_takeText : (kX12_takeText.2.2.2.2.2.flatMap (zrq zTab kX12_takeText.1.cls)).all goodWord = true := by decide +kernel
set_option maxRecDepth 1000000 in
theorem wd_X12_takeText : ∀ w ∈ kX12_takeText.2.2.2.2.2.flatMap (zrq zTab kX12_takeText.1.cls), w ∈ lw_tbl := zplaces [1355, 1354, 1563, 1562, 105, 176, 1560, 1567, 1566, 106, 176, 1564, 1362, 1362, 1592, 1591, 176, 1590] rfl
theorem ok_X12_stepBy : zokM zTab kX12_stepBy := ⟨zwdf_ok rfl _ 0 (by decide +kernel) (by decide +kernel), by decide +kernel, by decide +kernel⟩
theorem gw_X12_stepBy : (kX12_stepBy.2.2.2.2.2.flatMap (zrq zTab kX12_stepBy.1.cls)).all goodWord = true := by decide +kernel
set_option maxRecDepth 1000000 in
theorem wd_X12_stepBy : ∀ w ∈ kX12_stepBy.2.2.2.2.2.flatMap (zrq zTab kX12_stepBy.1.cls), w ∈ lw_tbl := zplaces [1551, 1552, 1553, 1554, 1555] rfl
theorem ok_X12_stepLine : zokM zTab kX12_stepLine := ⟨zwdf_ok rfl _ 0 (by decide +kernel) (by decide +kernel), by decide +kernel, by decide +kernel⟩
theorem gw_X12_stepLine : (kX12_stepLine.2.2.2.2.2.flatMap (zrq zTab kX12_stepLine.1.cls)).all goodWord = true := by decide +kernel
set_option maxRecDepth 1000000 in
theorem wd_X12_stepLine : ∀ w ∈ kX12_stepLine.2.2.2.2.2.flatMap (zrq zTab kX12_stepLine.1.cls), w ∈ lw_tbl := zplaces [1361, 1563, 1562, 105, 176, 1560, 1361, 1563, 1562, 105, 176, 1560, 1531, 1530, 99, 176, 1528, 1362, 1567, 1566, 106, 176, 1564, 1361, 1361, 1361, 1361, 1362, 1361] rfl
theorem ok_X12_bookLine : zokM zTab kX12_bookLine := ⟨zwdf_ok rfl _ 0 (by decide +kernel) (by decide +kernel), by decide +kernel, by decide +kernel⟩
theorem gw_X12_bookLine : (kX12_bookLine.2.2.2.2.2.flatMap (zrq zTab kX12_bookLine.1.cls)).all goodWord = true := by decide +kernel
set_option maxRecDepth 1000000 in
theorem wd_X12_bookLine : ∀ w ∈ kX12_bookLine.2.2.2.2.2.flatMap (zrq zTab kX12_bookLine.1.cls), w ∈ lw_tbl := zplaces [1550, 1549, 176, 1548, 1559, 1558, 104, 176, 1556, 1576, 1577, 1578, 1575, 1574, 108, 176, 1572, 1578, 1582, 1581, 109, 176, 1579, 1361, 1361, 1585, 1584, 176, 1583, 1531, 1530, 99, 176, 1528, 1576, 1589, 1588, 110, 176, 1586, 1361, 1362, 1577, 1567, 1566, 106, 176, 1564, 1567, 1566, 106, 176, 1564, 1362, 1515, 1514, 176, 1513, 1361, 1362, 1362] rfl
theorem ok_X12_deedBy : zokM zTab kX12_deedBy := ⟨zwdf_ok rfl _ 0 (by decide +kernel) (by decide +kernel), by decide +kernel, by decide +kernel⟩
theorem gw_X12_deedBy : (kX12_deedBy.2.2.2.2.2.flatMap (zrq zTab kX12_deedBy.1.cls)).all goodWord = true := by decide +kernel
set_option maxRecDepth 1000000 in
theorem wd_X12_deedBy : ∀ w ∈ kX12_deedBy.2.2.2.2.2.flatMap (zrq zTab kX12_deedBy.1.cls), w ∈ lw_tbl := zplaces [1600, 1601, 1602, 1603, 1604, 1605] rfl
theorem ok_X12_keep : zokM zTab kX12_keep := ⟨zwdf_ok rfl _ 0 (by decide +kernel) (by decide +kernel), by decide +kernel, by decide +kernel⟩
theorem gw_X12_keep : (kX12_keep.2.2.2.2.2.flatMap (zrq zTab kX12_keep.1.cls)).all goodWord = true := by decide +kernel
set_option maxRecDepth 1000000 in
theorem wd_X12_keep : ∀ w ∈ kX12_keep.2.2.2.2.2.flatMap (zrq zTab kX12_keep.1.cls), w ∈ lw_tbl := zplaces [1361, 1361, 1362, 1361] rfl
theorem ok_X12_yearLine : zokM zTab kX12_yearLine := ⟨zwdf_ok rfl _ 0 (by decide +kernel) (by decide +kernel), by decide +kernel, by decide +kernel⟩
theorem gw_X12_yearLine : (kX12_yearLine.2.2.2.2.2.flatMap (zrq zTab kX12_yearLine.1.cls)).all goodWord = true := by decide +kernel
set_option maxRecDepth 1000000 in
theorem wd_X12_yearLine : ∀ w ∈ kX12_yearLine.2.2.2.2.2.flatMap (zrq zTab kX12_yearLine.1.cls), w ∈ lw_tbl := zplaces [1599, 1598, 176, 1597, 1575, 1574, 108, 176, 1572, 1582, 1581, 109, 176, 1579, 1531, 1530, 99, 176, 1528, 1362, 1362, 1567, 1566, 106, 176, 1564, 1567, 1566, 106, 176, 1564, 1362, 1571, 1570, 107, 176, 1568, 1362, 1609, 1608, 112, 176, 1606] rfl
theorem ok_X12_sightLine : zokM zTab kX12_sightLine := ⟨zwdf_ok rfl _ 0 (by decide +kernel) (by decide +kernel), by decide +kernel, by decide +kernel⟩
theorem gw_X12_sightLine : (kX12_sightLine.2.2.2.2.2.flatMap (zrq zTab kX12_sightLine.1.cls)).all goodWord = true := by decide +kernel
set_option maxRecDepth 1000000 in
theorem wd_X12_sightLine : ∀ w ∈ kX12_sightLine.2.2.2.2.2.flatMap (zrq zTab kX12_sightLine.1.cls), w ∈ lw_tbl := zplaces [1614, 1575, 1574, 108, 176, 1572, 1582, 1581, 109, 176, 1579, 1531, 1530, 99, 176, 1528, 1567, 1566, 106, 176, 1564, 1589, 1588, 110, 176, 1586, 1609, 1608, 112, 176, 1606] rfl
theorem ok_X12_lineOf : zokM zTab kX12_lineOf := ⟨zwdf_ok rfl _ 0 (by decide +kernel) (by decide +kernel), by decide +kernel, by decide +kernel⟩
theorem gw_X12_lineOf : (kX12_lineOf.2.2.2.2.2.flatMap (zrq zTab kX12_lineOf.1.cls)).all goodWord = true := by decide +kernel
set_option maxRecDepth 1000000 in
theorem wd_X12_lineOf : ∀ w ∈ kX12_lineOf.2.2.2.2.2.flatMap (zrq zTab kX12_lineOf.1.cls), w ∈ lw_tbl := zplaces [1547, 1546, 103, 176, 1544, 1596, 1595, 111, 176, 1593, 1613, 1612, 113, 176, 1610] rfl
theorem ok_X12_lines : zokM zTab kX12_lines := ⟨zwdf_ok rfl _ 0 (by decide +kernel) (by decide +kernel), by decide +kernel, by decide +kernel⟩
theorem gw_X12_lines : (kX12_lines.2.2.2.2.2.flatMap (zrq zTab kX12_lines.1.cls)).all goodWord = true := by decide +kernel
set_option maxRecDepth 1000000 in
theorem wd_X12_lines : ∀ w ∈ kX12_lines.2.2.2.2.2.flatMap (zrq zTab kX12_lines.1.cls), w ∈ lw_tbl := zplaces [1355, 1355, 1357, 1354, 1543, 1542, 102, 176, 1540, 1355, 1575, 1574, 108, 176, 1572, 1531, 1530, 99, 176, 1528] rfl
theorem ok_X12_readText : zokM zTab kX12_readText := ⟨zwdf_ok rfl _ 0 (by decide +kernel) (by decide +kernel), by decide +kernel, by decide +kernel⟩
theorem gw_X12_readText : (kX12_readText.2.2.2.2.2.flatMap (zrq zTab kX12_readText.1.cls)).all goodWord = true := by decide +kernel
set_option maxRecDepth 1000000 in
theorem wd_X12_readText : ∀ w ∈ kX12_readText.2.2.2.2.2.flatMap (zrq zTab kX12_readText.1.cls), w ∈ lw_tbl := zplaces [1361, 1515, 1514, 176, 1513, 1352, 1359, 1531, 1530, 99, 176, 1528, 1539, 1538, 101, 176, 1536, 1346, 1359, 1347, 1358, 1359, 1360, 1346] rfl
