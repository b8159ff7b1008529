theorem ok_X9_firstSettled : zokM zTab kX9_firstSettled := ⟨by decide +kernel, by decide +kernel, by decide +kernel⟩
theorem gw_X9_firstSettled : (kX9_firstSettled.2.2.2.2.2.flatMap (zrq zTab kX9_firstSettled.1.cls)).all goodWord = true := by decide +kernel
theorem wd_X9_firstSettled : ∀ w ∈ kX9_firstSettled.2.2.2.2.2.flatMap (zrq zTab kX9_firstSettled.1.cls), w ∈ lw_tbl := zplaces [830, 832, 833, 833, 851, 850, 34, 187, 901, 900, 43, 187] (by decide +kernel)
theorem ok_X2_init : zokM zTab kX2_init := ⟨by decide +kernel, by decide +kernel, by decide +kernel⟩
theorem gw_X2_init : (kX2_init.2.2.2.2.2.flatMap (zrq zTab kX2_init.1.cls)).all goodWord = true := by decide +kernel
theorem wd_X2_init : ∀ w ∈ kX2_init.2.2.2.2.2.flatMap (zrq zTab kX2_init.1.cls), w ∈ lw_tbl := zplaces [1011, 199, 200, 1013, 1014, 1015, 1016, 247, 1017, 247, 1018, 247, 1019, 247, 1020, 247, 1021, 247, 1022, 1022, 742, 741, 186, 1012] (by decide +kernel)
theorem ok_X2_wantNothing : zokM zTab kX2_wantNothing := ⟨by decide +kernel, by decide +kernel, by decide +kernel⟩
theorem gw_X2_wantNothing : (kX2_wantNothing.2.2.2.2.2.flatMap (zrq zTab kX2_wantNothing.1.cls)).all goodWord = true := by decide +kernel
theorem wd_X2_wantNothing : ∀ w ∈ kX2_wantNothing.2.2.2.2.2.flatMap (zrq zTab kX2_wantNothing.1.cls), w ∈ lw_tbl := zplaces [1018, 742, 741, 186, 1012] (by decide +kernel)
theorem ok_X2_want : zokM zTab kX2_want := ⟨by decide +kernel, by decide +kernel, by decide +kernel⟩
theorem gw_X2_want : (kX2_want.2.2.2.2.2.flatMap (zrq zTab kX2_want.1.cls)).all goodWord = true := by decide +kernel
theorem wd_X2_want : ∀ w ∈ kX2_want.2.2.2.2.2.flatMap (zrq zTab kX2_want.1.cls), w ∈ lw_tbl := zplaces [1047, 1046, 51, 190, 1176, 1018, 1018, 1018, 1018] (by decide +kernel)
theorem ok_X2_isWanted : zokM zTab kX2_isWanted := ⟨by decide +kernel, by decide +kernel, by decide +kernel⟩
theorem gw_X2_isWanted : (kX2_isWanted.2.2.2.2.2.flatMap (zrq zTab kX2_isWanted.1.cls)).all goodWord = true := by decide +kernel
theorem wd_X2_isWanted : ∀ w ∈ kX2_isWanted.2.2.2.2.2.flatMap (zrq zTab kX2_isWanted.1.cls), w ∈ lw_tbl := zplaces [1018, 1018] (by decide +kernel)
theorem ok_X2_spread : zokM zTab kX2_spread := ⟨by decide +kernel, by decide +kernel, by decide +kernel⟩
theorem gw_X2_spread : (kX2_spread.2.2.2.2.2.flatMap (zrq zTab kX2_spread.1.cls)).all goodWord = true := by decide +kernel
theorem wd_X2_spread : ∀ w ∈ kX2_spread.2.2.2.2.2.flatMap (zrq zTab kX2_spread.1.cls), w ∈ lw_tbl := zplaces [1013, 1014, 1015, 1016, 1017, 1017, 1055, 1054, 53, 190, 1052, 1019, 1020, 1017, 1014, 1017, 1059, 1058, 54, 190, 1056, 1069, 1068, 56, 190, 1066] (by decide +kernel)
theorem ok_X2_fillBehind : zokM zTab kX2_fillBehind := ⟨by decide +kernel, by decide +kernel, by decide +kernel⟩
theorem gw_X2_fillBehind : (kX2_fillBehind.2.2.2.2.2.flatMap (zrq zTab kX2_fillBehind.1.cls)).all goodWord = true := by decide +kernel
theorem wd_X2_fillBehind : ∀ w ∈ kX2_fillBehind.2.2.2.2.2.flatMap (zrq zTab kX2_fillBehind.1.cls), w ∈ lw_tbl := zplaces [1017, 1017, 1017, 1013, 1063, 1062, 55, 190, 1060, 758, 757, 172, 1013, 1019, 864, 863, 37, 187, 1022, 1055, 1054, 53, 190, 1052, 1022, 1019, 1020, 1022, 1020, 1022, 1020] (by decide +kernel)
theorem ok_X2_onesAt : zokM zTab kX2_onesAt := ⟨by decide +kernel, by decide +kernel, by decide +kernel⟩
theorem gw_X2_onesAt : (kX2_onesAt.2.2.2.2.2.flatMap (zrq zTab kX2_onesAt.1.cls)).all goodWord = true := by decide +kernel
theorem wd_X2_onesAt : ∀ w ∈ kX2_onesAt.2.2.2.2.2.flatMap (zrq zTab kX2_onesAt.1.cls), w ∈ lw_tbl := zplaces [1015, 1016] (by decide +kernel)
theorem ok_X2_recall : zokM zTab kX2_recall := ⟨by decide +kernel, by decide +kernel, by decide +kernel⟩
theorem gw_X2_recall : (kX2_recall.2.2.2.2.2.flatMap (zrq zTab kX2_recall.1.cls)).all goodWord = true := by decide +kernel
theorem wd_X2_recall : ∀ w ∈ kX2_recall.2.2.2.2.2.flatMap (zrq zTab kX2_recall.1.cls), w ∈ lw_tbl := zplaces [1017, 1017, 1022, 1019] (by decide +kernel)
theorem ok_X2_forget : zokM zTab kX2_forget := ⟨by decide +kernel, by decide +kernel, by decide +kernel⟩
theorem gw_X2_forget : (kX2_forget.2.2.2.2.2.flatMap (zrq zTab kX2_forget.1.cls)).all goodWord = true := by decide +kernel
theorem wd_X2_forget : ∀ w ∈ kX2_forget.2.2.2.2.2.flatMap (zrq zTab kX2_forget.1.cls), w ∈ lw_tbl := zplaces [1017, 1017, 1022, 1019] (by decide +kernel)
theorem ok_X2_endByDrift : zokM zTab kX2_endByDrift := ⟨by decide +kernel, by decide +kernel, by decide +kernel⟩
theorem gw_X2_endByDrift : (kX2_endByDrift.2.2.2.2.2.flatMap (zrq zTab kX2_endByDrift.1.cls)).all goodWord = true := by decide +kernel
theorem wd_X2_endByDrift : ∀ w ∈ kX2_endByDrift.2.2.2.2.2.flatMap (zrq zTab kX2_endByDrift.1.cls), w ∈ lw_tbl := zplaces [1017, 1014, 1017, 1014, 1021, 1019, 1013, 679, 678, 172] (by decide +kernel)
theorem ok_X2_endByWord : zokM zTab kX2_endByWord := ⟨by decide +kernel, by decide +kernel, by decide +kernel⟩
theorem gw_X2_endByWord : (kX2_endByWord.2.2.2.2.2.flatMap (zrq zTab kX2_endByWord.1.cls)).all goodWord = true := by decide +kernel
theorem wd_X2_endByWord : ∀ w ∈ kX2_endByWord.2.2.2.2.2.flatMap (zrq zTab kX2_endByWord.1.cls), w ∈ lw_tbl := zplaces [1017, 1014, 1017, 1014, 1021, 1019, 1151, 1150, 172] (by decide +kernel)
theorem ok_X2_endByOne : zokM zTab kX2_endByOne := ⟨by decide +kernel, by decide +kernel, by decide +kernel⟩
theorem gw_X2_endByOne : (kX2_endByOne.2.2.2.2.2.flatMap (zrq zTab kX2_endByOne.1.cls)).all goodWord = true := by decide +kernel
theorem wd_X2_endByOne : ∀ w ∈ kX2_endByOne.2.2.2.2.2.flatMap (zrq zTab kX2_endByOne.1.cls), w ∈ lw_tbl := zplaces [1017, 1014, 1017, 1014, 1021] (by decide +kernel)
theorem ok_X2_foldBack : zokM zTab kX2_foldBack := ⟨by decide +kernel, by decide +kernel, by decide +kernel⟩
theorem gw_X2_foldBack : (kX2_foldBack.2.2.2.2.2.flatMap (zrq zTab kX2_foldBack.1.cls)).all goodWord = true := by decide +kernel
theorem wd_X2_foldBack : ∀ w ∈ kX2_foldBack.2.2.2.2.2.flatMap (zrq zTab kX2_foldBack.1.cls), w ∈ lw_tbl := zplaces [1014, 1088, 1087, 60, 190, 1085, 1017, 1017, 1021, 1092, 1091, 61, 190, 1089, 1069, 1068, 56, 190, 1066] (by decide +kernel)
