theorem ok_X11_mean : zokM zTab kX11_mean := ⟨by decide +kernel, by decide +kernel, by decide +kernel⟩
theorem gw_X11_mean : (kX11_mean.2.2.2.2.2.flatMap (zrq zTab kX11_mean.1.cls)).all goodWord = true := by decide +kernel
set_option maxRecDepth 1000000 in
theorem wd_X11_mean : ∀ w ∈ kX11_mean.2.2.2.2.2.flatMap (zrq zTab kX11_mean.1.cls), w ∈ lw_tbl := zplaces [792, 791, 31, 172, 789, 1001, 1000, 172, 999, 851, 850, 34, 187, 1105, 1005, 1004, 50, 172, 1002, 1047, 1046, 51, 190, 851, 850, 34, 187, 851, 850, 34, 187, 1051, 1050, 52, 190, 1073, 1072, 57, 190, 1109, 1108, 64, 190, 1113, 1112, 65, 190, 1116, 1115, 172, 1114, 1105] rfl
theorem ok_X11_elders : zokM zTab kX11_elders := ⟨by decide +kernel, by decide +kernel, by decide +kernel⟩
theorem gw_X11_elders : (kX11_elders.2.2.2.2.2.flatMap (zrq zTab kX11_elders.1.cls)).all goodWord = true := by decide +kernel
set_option maxRecDepth 1000000 in
theorem wd_X11_elders : ∀ w ∈ kX11_elders.2.2.2.2.2.flatMap (zrq zTab kX11_elders.1.cls), w ∈ lw_tbl := zplaces [792, 791, 31, 172, 789, 660, 659, 172, 658, 1001, 1000, 172, 999, 1124, 1123, 66, 187, 1135, 1134, 68, 187, 1139, 1138, 69, 187] rfl
theorem ok_X11_play : zokM zTab kX11_play := ⟨by decide +kernel, by decide +kernel, by decide +kernel⟩
theorem gw_X11_play : (kX11_play.2.2.2.2.2.flatMap (zrq zTab kX11_play.1.cls)).all goodWord = true := by decide +kernel
set_option maxRecDepth 1000000 in
theorem wd_X11_play : ∀ w ∈ kX11_play.2.2.2.2.2.flatMap (zrq zTab kX11_play.1.cls), w ∈ lw_tbl := zplaces [792, 791, 31, 172, 789, 1001, 1000, 172, 999, 560, 559, 172, 1144, 893, 892, 41, 178, 893, 892, 41, 178, 1005, 1004, 50, 172, 1002, 1047, 1046, 51, 190, 1051, 1050, 52, 190, 1148, 1147, 70, 190, 1084, 1083, 59, 190, 1096, 1095, 62, 190, 1155, 1154, 71, 190] rfl
theorem ok_X11_fact : zokM zTab kX11_fact := ⟨by decide +kernel, by decide +kernel, by decide +kernel⟩
theorem gw_X11_fact : (kX11_fact.2.2.2.2.2.flatMap (zrq zTab kX11_fact.1.cls)).all goodWord = true := by decide +kernel
set_option maxRecDepth 1000000 in
theorem wd_X11_fact : ∀ w ∈ kX11_fact.2.2.2.2.2.flatMap (zrq zTab kX11_fact.1.cls), w ∈ lw_tbl := zplaces [1163, 1162, 72, 172, 1160, 1167, 1166, 73, 184] rfl
theorem ok_X11_fits : zokM zTab kX11_fits := ⟨by decide +kernel, by decide +kernel, by decide +kernel⟩
theorem gw_X11_fits : (kX11_fits.2.2.2.2.2.flatMap (zrq zTab kX11_fits.1.cls)).all goodWord = true := by decide +kernel
set_option maxRecDepth 1000000 in
theorem wd_X11_fits : ∀ w ∈ kX11_fits.2.2.2.2.2.flatMap (zrq zTab kX11_fits.1.cls), w ∈ lw_tbl := zplaces [792, 791, 31, 172, 789, 1163, 1162, 72, 172, 1160, 1001, 1000, 172, 999, 660, 659, 172, 658, 1005, 1004, 50, 172, 1002, 1175, 1174, 74, 190, 851, 850, 34, 187, 851, 850, 34, 187, 1051, 1050, 52, 190, 1113, 1112, 65, 190, 1180, 1179, 75, 190] rfl
theorem ok_X11_sure : zokM zTab kX11_sure := ⟨by decide +kernel, by decide +kernel, by decide +kernel⟩
theorem gw_X11_sure : (kX11_sure.2.2.2.2.2.flatMap (zrq zTab kX11_sure.1.cls)).all goodWord = true := by decide +kernel
set_option maxRecDepth 1000000 in
theorem wd_X11_sure : ∀ w ∈ kX11_sure.2.2.2.2.2.flatMap (zrq zTab kX11_sure.1.cls), w ∈ lw_tbl := zplaces [792, 791, 31, 172, 789, 1163, 1162, 72, 172, 1160, 1001, 1000, 172, 999, 1005, 1004, 50, 172, 1002, 1175, 1174, 74, 190, 851, 850, 34, 187, 851, 850, 34, 187, 1051, 1050, 52, 190, 1113, 1112, 65, 190, 1188, 1187, 76, 190, 1084, 1083, 59, 190, 1192, 1191, 77, 190, 1196, 1195, 78, 190] rfl
theorem ok_X11_drawn : zokM zTab kX11_drawn := ⟨by decide +kernel, by decide +kernel, by decide +kernel⟩
theorem gw_X11_drawn : (kX11_drawn.2.2.2.2.2.flatMap (zrq zTab kX11_drawn.1.cls)).all goodWord = true := by decide +kernel
set_option maxRecDepth 1000000 in
theorem wd_X11_drawn : ∀ w ∈ kX11_drawn.2.2.2.2.2.flatMap (zrq zTab kX11_drawn.1.cls), w ∈ lw_tbl := zplaces [641, 640, 13, 172, 638, 320, 739, 738, 22, 175, 320, 1208, 1207, 80, 175, 320, 771, 770, 27, 175] rfl
theorem ok_X11_kinship : zokM zTab kX11_kinship := ⟨by decide +kernel, by decide +kernel, by decide +kernel⟩
theorem gw_X11_kinship : (kX11_kinship.2.2.2.2.2.flatMap (zrq zTab kX11_kinship.1.cls)).all goodWord = true := by decide +kernel
set_option maxRecDepth 1000000 in
theorem wd_X11_kinship : ∀ w ∈ kX11_kinship.2.2.2.2.2.flatMap (zrq zTab kX11_kinship.1.cls), w ∈ lw_tbl := zplaces [641, 640, 13, 172, 638, 560, 559, 172, 1144, 1221, 1220, 82, 178, 1225, 1224, 83, 178] rfl
theorem ok_X11_shared : zokM zTab kX11_shared := ⟨by decide +kernel, by decide +kernel, by decide +kernel⟩
theorem gw_X11_shared : (kX11_shared.2.2.2.2.2.flatMap (zrq zTab kX11_shared.1.cls)).all goodWord = true := by decide +kernel
set_option maxRecDepth 1000000 in
theorem wd_X11_shared : ∀ w ∈ kX11_shared.2.2.2.2.2.flatMap (zrq zTab kX11_shared.1.cls), w ∈ lw_tbl := zplaces [660, 659, 172, 658, 660, 659, 172, 658, 1236, 1235, 172, 1234, 663, 662, 172, 661] rfl
theorem ok_X11_joined : zokM zTab kX11_joined := ⟨by decide +kernel, by decide +kernel, by decide +kernel⟩
theorem gw_X11_joined : (kX11_joined.2.2.2.2.2.flatMap (zrq zTab kX11_joined.1.cls)).all goodWord = true := by decide +kernel
set_option maxRecDepth 1000000 in
theorem wd_X11_joined : ∀ w ∈ kX11_joined.2.2.2.2.2.flatMap (zrq zTab kX11_joined.1.cls), w ∈ lw_tbl := zplaces [792, 791, 31, 172, 789, 660, 659, 172, 658, 660, 659, 172, 658, 823, 822, 33, 172, 820, 823, 822, 33, 172, 820, 851, 850, 34, 187, 855, 854, 35, 188, 851, 850, 34, 187, 855, 854, 35, 188, 1249, 1248, 85, 188] rfl
theorem ok_X11_nearest : zokM zTab kX11_nearest := ⟨by decide +kernel, by decide +kernel, by decide +kernel⟩
theorem gw_X11_nearest : (kX11_nearest.2.2.2.2.2.flatMap (zrq zTab kX11_nearest.1.cls)).all goodWord = true := by decide +kernel
set_option maxRecDepth 1000000 in
theorem wd_X11_nearest : ∀ w ∈ kX11_nearest.2.2.2.2.2.flatMap (zrq zTab kX11_nearest.1.cls), w ∈ lw_tbl := zplaces [792, 791, 31, 172, 789, 660, 659, 172, 658, 660, 659, 172, 658, 823, 822, 33, 172, 820, 851, 850, 34, 187, 855, 854, 35, 188, 1257, 1256, 86, 188, 679, 678, 172, 677] rfl
theorem ok_X11_settles : zokM zTab kX11_settles := ⟨by decide +kernel, by decide +kernel, by decide +kernel⟩
theorem gw_X11_settles : (kX11_settles.2.2.2.2.2.flatMap (zrq zTab kX11_settles.1.cls)).all goodWord = true := by decide +kernel
set_option maxRecDepth 1000000 in
theorem wd_X11_settles : ∀ w ∈ kX11_settles.2.2.2.2.2.flatMap (zrq zTab kX11_settles.1.cls), w ∈ lw_tbl := zplaces [792, 791, 31, 172, 789, 660, 659, 172, 658, 823, 822, 33, 172, 820, 851, 850, 34, 187, 855, 854, 35, 188, 1266, 1265, 87, 188] rfl
theorem ok_X11_unmade : zokM zTab kX11_unmade := ⟨by decide +kernel, by decide +kernel, by decide +kernel⟩
theorem gw_X11_unmade : (kX11_unmade.2.2.2.2.2.flatMap (zrq zTab kX11_unmade.1.cls)).all goodWord = true := by decide +kernel
set_option maxRecDepth 1000000 in
theorem wd_X11_unmade : ∀ w ∈ kX11_unmade.2.2.2.2.2.flatMap (zrq zTab kX11_unmade.1.cls), w ∈ lw_tbl := zplaces [792, 791, 31, 172, 789, 1276, 1275, 88, 187, 1135, 1134, 68, 187, 1139, 1138, 69, 187] rfl
theorem ok_X11_silenced : zokM zTab kX11_silenced := ⟨by decide +kernel, by decide +kernel, by decide +kernel⟩
theorem gw_X11_silenced : (kX11_silenced.2.2.2.2.2.flatMap (zrq zTab kX11_silenced.1.cls)).all goodWord = true := by decide +kernel
set_option maxRecDepth 1000000 in
theorem wd_X11_silenced : ∀ w ∈ kX11_silenced.2.2.2.2.2.flatMap (zrq zTab kX11_silenced.1.cls), w ∈ lw_tbl := zplaces [792, 791, 31, 172, 789, 660, 659, 172, 658, 660, 659, 172, 658, 823, 822, 33, 172, 820, 851, 850, 34, 187, 1283, 1282, 191, 1281, 851, 850, 34, 187, 855, 854, 35, 188] rfl
theorem ok_X11_circles : zokM zTab kX11_circles := ⟨by decide +kernel, by decide +kernel, by decide +kernel⟩
theorem gw_X11_circles : (kX11_circles.2.2.2.2.2.flatMap (zrq zTab kX11_circles.1.cls)).all goodWord = true := by decide +kernel
set_option maxRecDepth 1000000 in
theorem wd_X11_circles : ∀ w ∈ kX11_circles.2.2.2.2.2.flatMap (zrq zTab kX11_circles.1.cls), w ∈ lw_tbl := zplaces [792, 791, 31, 172, 789, 660, 659, 172, 658, 919, 918, 45, 172, 916, 1294, 1293, 89, 189] rfl
theorem ok_X11_count : zokM zTab kX11_count := ⟨by decide +kernel, by decide +kernel, by decide +kernel⟩
theorem gw_X11_count : (kX11_count.2.2.2.2.2.flatMap (zrq zTab kX11_count.1.cls)).all goodWord = true := by decide +kernel
set_option maxRecDepth 1000000 in
theorem wd_X11_count : ∀ w ∈ kX11_count.2.2.2.2.2.flatMap (zrq zTab kX11_count.1.cls), w ∈ lw_tbl := zplaces [317] rfl
theorem ok_X11_image : zokM zTab kX11_image := ⟨by decide +kernel, by decide +kernel, by decide +kernel⟩
theorem gw_X11_image : (kX11_image.2.2.2.2.2.flatMap (zrq zTab kX11_image.1.cls)).all goodWord = true := by decide +kernel
set_option maxRecDepth 1000000 in
theorem wd_X11_image : ∀ w ∈ kX11_image.2.2.2.2.2.flatMap (zrq zTab kX11_image.1.cls), w ∈ lw_tbl := zplaces [318, 318, 201, 202, 173, 205, 204, 173, 318, 317, 1328, 1327, 95, 173] rfl
theorem ok_X11_again : zokM zTab kX11_again := ⟨by decide +kernel, by decide +kernel, by decide +kernel⟩
theorem gw_X11_again : (kX11_again.2.2.2.2.2.flatMap (zrq zTab kX11_again.1.cls)).all goodWord = true := by decide +kernel
set_option maxRecDepth 1000000 in
theorem wd_X11_again : ∀ w ∈ kX11_again.2.2.2.2.2.flatMap (zrq zTab kX11_again.1.cls), w ∈ lw_tbl := zplaces [318, 317, 318, 1328, 1327, 95, 173] rfl
theorem ok_X11_tellInto : zokM zTab kX11_tellInto := ⟨by decide +kernel, by decide +kernel, by decide +kernel⟩
theorem gw_X11_tellInto : (kX11_tellInto.2.2.2.2.2.flatMap (zrq zTab kX11_tellInto.1.cls)).all goodWord = true := by decide +kernel
set_option maxRecDepth 1000000 in
theorem wd_X11_tellInto : ∀ w ∈ kX11_tellInto.2.2.2.2.2.flatMap (zrq zTab kX11_tellInto.1.cls), w ∈ lw_tbl := zplaces [362, 363, 178, 366, 365, 178, 319, 317, 404, 403, 2, 174, 317, 584, 585, 183, 588, 587, 183, 319, 317, 404, 403, 2, 174, 317, 608, 609, 184, 612, 611, 184, 319, 317, 404, 403, 2, 174, 317] rfl
theorem ok_X11_bookAt : zokM zTab kX11_bookAt := ⟨by decide +kernel, by decide +kernel, by decide +kernel⟩
theorem gw_X11_bookAt : (kX11_bookAt.2.2.2.2.2.flatMap (zrq zTab kX11_bookAt.1.cls)).all goodWord = true := by decide +kernel
set_option maxRecDepth 1000000 in
theorem wd_X11_bookAt : ∀ w ∈ kX11_bookAt.2.2.2.2.2.flatMap (zrq zTab kX11_bookAt.1.cls), w ∈ lw_tbl := zplaces [317, 317] rfl
theorem ok_X11_yearAt : zokM zTab kX11_yearAt := ⟨by decide +kernel, by decide +kernel, by decide +kernel⟩
theorem gw_X11_yearAt : (kX11_yearAt.2.2.2.2.2.flatMap (zrq zTab kX11_yearAt.1.cls)).all goodWord = true := by decide +kernel
set_option maxRecDepth 1000000 in
theorem wd_X11_yearAt : ∀ w ∈ kX11_yearAt.2.2.2.2.2.flatMap (zrq zTab kX11_yearAt.1.cls), w ∈ lw_tbl := zplaces [317, 317] rfl
theorem ok_X11_sightAt : zokM zTab kX11_sightAt := ⟨by decide +kernel, by decide +kernel, by decide +kernel⟩
theorem gw_X11_sightAt : (kX11_sightAt.2.2.2.2.2.flatMap (zrq zTab kX11_sightAt.1.cls)).all goodWord = true := by decide +kernel
set_option maxRecDepth 1000000 in
theorem wd_X11_sightAt : ∀ w ∈ kX11_sightAt.2.2.2.2.2.flatMap (zrq zTab kX11_sightAt.1.cls), w ∈ lw_tbl := zplaces [317, 317] rfl
theorem ok_X11_readingsAt : zokM zTab kX11_readingsAt := ⟨by decide +kernel, by decide +kernel, by decide +kernel⟩
theorem gw_X11_readingsAt : (kX11_readingsAt.2.2.2.2.2.flatMap (zrq zTab kX11_readingsAt.1.cls)).all goodWord = true := by decide +kernel
set_option maxRecDepth 1000000 in
theorem wd_X11_readingsAt : ∀ w ∈ kX11_readingsAt.2.2.2.2.2.flatMap (zrq zTab kX11_readingsAt.1.cls), w ∈ lw_tbl := zplaces [641, 640, 13, 172, 638, 321, 321, 313, 793, 187, 796, 795, 187, 321, 818, 817, 32, 187, 321] rfl
theorem ok_X11_walkAt : zokM zTab kX11_walkAt := ⟨by decide +kernel, by decide +kernel, by decide +kernel⟩
theorem gw_X11_walkAt : (kX11_walkAt.2.2.2.2.2.flatMap (zrq zTab kX11_walkAt.1.cls)).all goodWord = true := by decide +kernel
set_option maxRecDepth 1000000 in
theorem wd_X11_walkAt : ∀ w ∈ kX11_walkAt.2.2.2.2.2.flatMap (zrq zTab kX11_walkAt.1.cls), w ∈ lw_tbl := zplaces [322, 322, 315, 824, 188, 827, 826, 188, 322] rfl
theorem ok_X11_levelsThere : zokM zTab kX11_levelsThere := ⟨by decide +kernel, by decide +kernel, by decide +kernel⟩
theorem gw_X11_levelsThere : (kX11_levelsThere.2.2.2.2.2.flatMap (zrq zTab kX11_levelsThere.1.cls)).all goodWord = true := by decide +kernel
set_option maxRecDepth 1000000 in
theorem wd_X11_levelsThere : ∀ w ∈ kX11_levelsThere.2.2.2.2.2.flatMap (zrq zTab kX11_levelsThere.1.cls), w ∈ lw_tbl := zplaces [323, 1006, 1007, 190, 1010, 1009, 190, 323, 323] rfl
theorem ok_X11_ringsThere : zokM zTab kX11_ringsThere := ⟨by decide +kernel, by decide +kernel, by decide +kernel⟩
theorem gw_X11_ringsThere : (kX11_ringsThere.2.2.2.2.2.flatMap (zrq zTab kX11_ringsThere.1.cls)).all goodWord = true := by decide +kernel
set_option maxRecDepth 1000000 in
theorem wd_X11_ringsThere : ∀ w ∈ kX11_ringsThere.2.2.2.2.2.flatMap (zrq zTab kX11_ringsThere.1.cls), w ∈ lw_tbl := zplaces [324, 920, 921, 189, 924, 923, 189, 324, 324] rfl
theorem ok_X11_isText : zokM zTab kX11_isText := ⟨by decide +kernel, by decide +kernel, by decide +kernel⟩
theorem gw_X11_isText : (kX11_isText.2.2.2.2.2.flatMap (zrq zTab kX11_isText.1.cls)).all goodWord = true := by decide +kernel
set_option maxRecDepth 1000000 in
theorem wd_X11_isText : ∀ w ∈ kX11_isText.2.2.2.2.2.flatMap (zrq zTab kX11_isText.1.cls), w ∈ lw_tbl := zplaces [] rfl
theorem ok_X11_isWord : zokM zTab kX11_isWord := ⟨by decide +kernel, by decide +kernel, by decide +kernel⟩
theorem gw_X11_isWord : (kX11_isWord.2.2.2.2.2.flatMap (zrq zTab kX11_isWord.1.cls)).all goodWord = true := by decide +kernel
set_option maxRecDepth 1000000 in
theorem wd_X11_isWord : ∀ w ∈ kX11_isWord.2.2.2.2.2.flatMap (zrq zTab kX11_isWord.1.cls), w ∈ lw_tbl := zplaces [] rfl
theorem ok_X11_isSpan : zokM zTab kX11_isSpan := ⟨by decide +kernel, by decide +kernel, by decide +kernel⟩
theorem gw_X11_isSpan : (kX11_isSpan.2.2.2.2.2.flatMap (zrq zTab kX11_isSpan.1.cls)).all goodWord = true := by decide +kernel
set_option maxRecDepth 1000000 in
theorem wd_X11_isSpan : ∀ w ∈ kX11_isSpan.2.2.2.2.2.flatMap (zrq zTab kX11_isSpan.1.cls), w ∈ lw_tbl := zplaces [] rfl
theorem ok_X11_isIn : zokM zTab kX11_isIn := ⟨by decide +kernel, by decide +kernel, by decide +kernel⟩
theorem gw_X11_isIn : (kX11_isIn.2.2.2.2.2.flatMap (zrq zTab kX11_isIn.1.cls)).all goodWord = true := by decide +kernel
set_option maxRecDepth 1000000 in
theorem wd_X11_isIn : ∀ w ∈ kX11_isIn.2.2.2.2.2.flatMap (zrq zTab kX11_isIn.1.cls), w ∈ lw_tbl := zplaces [] rfl
theorem ok_X11_common : zokM zTab kX11_common := ⟨by decide +kernel, by decide +kernel, by decide +kernel⟩
theorem gw_X11_common : (kX11_common.2.2.2.2.2.flatMap (zrq zTab kX11_common.1.cls)).all goodWord = true := by decide +kernel
set_option maxRecDepth 1000000 in
theorem wd_X11_common : ∀ w ∈ kX11_common.2.2.2.2.2.flatMap (zrq zTab kX11_common.1.cls), w ∈ lw_tbl := zplaces [] rfl
theorem ok_X11_longer : zokM zTab kX11_longer := ⟨by decide +kernel, by decide +kernel, by decide +kernel⟩
theorem gw_X11_longer : (kX11_longer.2.2.2.2.2.flatMap (zrq zTab kX11_longer.1.cls)).all goodWord = true := by decide +kernel
set_option maxRecDepth 1000000 in
theorem wd_X11_longer : ∀ w ∈ kX11_longer.2.2.2.2.2.flatMap (zrq zTab kX11_longer.1.cls), w ∈ lw_tbl := zplaces [] rfl
theorem ok_X11_lengthOf : zokM zTab kX11_lengthOf := ⟨by decide +kernel, by decide +kernel, by decide +kernel⟩
theorem gw_X11_lengthOf : (kX11_lengthOf.2.2.2.2.2.flatMap (zrq zTab kX11_lengthOf.1.cls)).all goodWord = true := by decide +kernel
set_option maxRecDepth 1000000 in
theorem wd_X11_lengthOf : ∀ w ∈ kX11_lengthOf.2.2.2.2.2.flatMap (zrq zTab kX11_lengthOf.1.cls), w ∈ lw_tbl := zplaces [] rfl
theorem ok_X11_bitsOf : zokM zTab kX11_bitsOf := ⟨by decide +kernel, by decide +kernel, by decide +kernel⟩
theorem gw_X11_bitsOf : (kX11_bitsOf.2.2.2.2.2.flatMap (zrq zTab kX11_bitsOf.1.cls)).all goodWord = true := by decide +kernel
set_option maxRecDepth 1000000 in
theorem wd_X11_bitsOf : ∀ w ∈ kX11_bitsOf.2.2.2.2.2.flatMap (zrq zTab kX11_bitsOf.1.cls), w ∈ lw_tbl := zplaces [663, 662, 172, 661] rfl
theorem ok_X11_lengthOfBits : zokM zTab kX11_lengthOfBits := ⟨by decide +kernel, by decide +kernel, by decide +kernel⟩
theorem gw_X11_lengthOfBits : (kX11_lengthOfBits.2.2.2.2.2.flatMap (zrq zTab kX11_lengthOfBits.1.cls)).all goodWord = true := by decide +kernel
set_option maxRecDepth 1000000 in
theorem wd_X11_lengthOfBits : ∀ w ∈ kX11_lengthOfBits.2.2.2.2.2.flatMap (zrq zTab kX11_lengthOfBits.1.cls), w ∈ lw_tbl := zplaces [] rfl
theorem ok_X11_numberOfBits : zokM zTab kX11_numberOfBits := ⟨by decide +kernel, by decide +kernel, by decide +kernel⟩
theorem gw_X11_numberOfBits : (kX11_numberOfBits.2.2.2.2.2.flatMap (zrq zTab kX11_numberOfBits.1.cls)).all goodWord = true := by decide +kernel
set_option maxRecDepth 1000000 in
theorem wd_X11_numberOfBits : ∀ w ∈ kX11_numberOfBits.2.2.2.2.2.flatMap (zrq zTab kX11_numberOfBits.1.cls), w ∈ lw_tbl := zplaces [699, 698, 172, 719] rfl
theorem ok_X11_wordAt : zokM zTab kX11_wordAt := ⟨by decide +kernel, by decide +kernel, by decide +kernel⟩
theorem gw_X11_wordAt : (kX11_wordAt.2.2.2.2.2.flatMap (zrq zTab kX11_wordAt.1.cls)).all goodWord = true := by decide +kernel
set_option maxRecDepth 1000000 in
theorem wd_X11_wordAt : ∀ w ∈ kX11_wordAt.2.2.2.2.2.flatMap (zrq zTab kX11_wordAt.1.cls), w ∈ lw_tbl := zplaces [669, 668, 172, 667, 663, 662, 172, 661, 672, 671, 172, 670] rfl
theorem ok_X11_wordOfBits : zokM zTab kX11_wordOfBits := ⟨by decide +kernel, by decide +kernel, by decide +kernel⟩
theorem gw_X11_wordOfBits : (kX11_wordOfBits.2.2.2.2.2.flatMap (zrq zTab kX11_wordOfBits.1.cls)).all goodWord = true := by decide +kernel
set_option maxRecDepth 1000000 in
theorem wd_X11_wordOfBits : ∀ w ∈ kX11_wordOfBits.2.2.2.2.2.flatMap (zrq zTab kX11_wordOfBits.1.cls), w ∈ lw_tbl := zplaces [] rfl
theorem ok_X11_timesOf : zokM zTab kX11_timesOf := ⟨by decide +kernel, by decide +kernel, by decide +kernel⟩
theorem gw_X11_timesOf : (kX11_timesOf.2.2.2.2.2.flatMap (zrq zTab kX11_timesOf.1.cls)).all goodWord = true := by decide +kernel
set_option maxRecDepth 1000000 in
theorem wd_X11_timesOf : ∀ w ∈ kX11_timesOf.2.2.2.2.2.flatMap (zrq zTab kX11_timesOf.1.cls), w ∈ lw_tbl := zplaces [669, 668, 172, 667, 663, 662, 172, 661, 672, 671, 172, 670] rfl
theorem ok_X11_driftOf : zokM zTab kX11_driftOf := ⟨by decide +kernel, by decide +kernel, by decide +kernel⟩
theorem gw_X11_driftOf : (kX11_driftOf.2.2.2.2.2.flatMap (zrq zTab kX11_driftOf.1.cls)).all goodWord = true := by decide +kernel
set_option maxRecDepth 1000000 in
theorem wd_X11_driftOf : ∀ w ∈ kX11_driftOf.2.2.2.2.2.flatMap (zrq zTab kX11_driftOf.1.cls), w ∈ lw_tbl := zplaces [669, 668, 172, 667, 669, 668, 172, 667, 663, 662, 172, 661, 663, 662, 172, 661, 672, 671, 172, 670, 672, 671, 172, 670, 680, 681, 185, 682, 680, 681, 185, 682] rfl
theorem ok_X11_mostShared : zokM zTab kX11_mostShared := ⟨by decide +kernel, by decide +kernel, by decide +kernel⟩
theorem gw_X11_mostShared : (kX11_mostShared.2.2.2.2.2.flatMap (zrq zTab kX11_mostShared.1.cls)).all goodWord = true := by decide +kernel
set_option maxRecDepth 1000000 in
theorem wd_X11_mostShared : ∀ w ∈ kX11_mostShared.2.2.2.2.2.flatMap (zrq zTab kX11_mostShared.1.cls), w ∈ lw_tbl := zplaces [663, 662, 172, 661, 758, 757, 172, 1237, 666, 665, 172, 664, 557, 556, 172, 1238, 663, 662, 172, 661, 663, 662, 172, 661, 1241, 1240, 172, 1239] rfl
theorem ok_X11_isLeftOf : zokM zTab kX11_isLeftOf := ⟨by decide +kernel, by decide +kernel, by decide +kernel⟩
theorem gw_X11_isLeftOf : (kX11_isLeftOf.2.2.2.2.2.flatMap (zrq zTab kX11_isLeftOf.1.cls)).all goodWord = true := by decide +kernel
set_option maxRecDepth 1000000 in
theorem wd_X11_isLeftOf : ∀ w ∈ kX11_isLeftOf.2.2.2.2.2.flatMap (zrq zTab kX11_isLeftOf.1.cls), w ∈ lw_tbl := zplaces [663, 662, 172, 661, 663, 662, 172, 661, 666, 665, 172, 664, 666, 665, 172, 664] rfl
theorem ok_X8_init : zokM zTab kX8_init := ⟨by decide +kernel, by decide +kernel, by decide +kernel⟩
theorem gw_X8_init : (kX8_init.2.2.2.2.2.flatMap (zrq zTab kX8_init.1.cls)).all goodWord = true := by decide +kernel
set_option maxRecDepth 1000000 in
theorem wd_X8_init : ∀ w ∈ kX8_init.2.2.2.2.2.flatMap (zrq zTab kX8_init.1.cls), w ∈ lw_tbl := zplaces [206, 199, 200, 246, 213, 215, 217, 219, 247, 221, 207, 223, 209, 225, 211, 227] rfl
theorem ok_X8_putBytes : zokM zTab kX8_putBytes := ⟨by decide +kernel, by decide +kernel, by decide +kernel⟩
theorem gw_X8_putBytes : (kX8_putBytes.2.2.2.2.2.flatMap (zrq zTab kX8_putBytes.1.cls)).all goodWord = true := by decide +kernel
set_option maxRecDepth 1000000 in
theorem wd_X8_putBytes : ∀ w ∈ kX8_putBytes.2.2.2.2.2.flatMap (zrq zTab kX8_putBytes.1.cls), w ∈ lw_tbl := zplaces [215, 213, 215, 215, 215] rfl
theorem ok_X8_becomes : zokM zTab kX8_becomes := ⟨by decide +kernel, by decide +kernel, by decide +kernel⟩
theorem gw_X8_becomes : (kX8_becomes.2.2.2.2.2.flatMap (zrq zTab kX8_becomes.1.cls)).all goodWord = true := by decide +kernel
set_option maxRecDepth 1000000 in
theorem wd_X8_becomes : ∀ w ∈ kX8_becomes.2.2.2.2.2.flatMap (zrq zTab kX8_becomes.1.cls), w ∈ lw_tbl := zplaces [213, 213, 1329, 1331, 1330, 192, 215, 215, 217, 217, 219, 219, 221, 221, 1329, 1331, 1330, 192, 223, 223, 225, 225, 227, 227] rfl
theorem ok_X7_init : zokM zTab kX7_init := ⟨by decide +kernel, by decide +kernel, by decide +kernel⟩
theorem gw_X7_init : (kX7_init.2.2.2.2.2.flatMap (zrq zTab kX7_init.1.cls)).all goodWord = true := by decide +kernel
set_option maxRecDepth 1000000 in
theorem wd_X7_init : ∀ w ∈ kX7_init.2.2.2.2.2.flatMap (zrq zTab kX7_init.1.cls), w ∈ lw_tbl := zplaces [254, 199, 200, 255, 256, 257, 258, 259, 260, 264, 266] rfl
theorem ok_X7_tell : zokM zTab kX7_tell := ⟨by decide +kernel, by decide +kernel, by decide +kernel⟩
theorem gw_X7_tell : (kX7_tell.2.2.2.2.2.flatMap (zrq zTab kX7_tell.1.cls)).all goodWord = true := by decide +kernel
set_option maxRecDepth 1000000 in
theorem wd_X7_tell : ∀ w ∈ kX7_tell.2.2.2.2.2.flatMap (zrq zTab kX7_tell.1.cls), w ∈ lw_tbl := zplaces [255, 256, 257, 264, 266, 408, 407, 3, 174, 405, 258, 424, 423, 7, 174, 421, 264, 259, 266, 264] rfl
theorem ok_X7_tellLine : zokM zTab kX7_tellLine := ⟨by decide +kernel, by decide +kernel, by decide +kernel⟩
theorem gw_X7_tellLine : (kX7_tellLine.2.2.2.2.2.flatMap (zrq zTab kX7_tellLine.1.cls)).all goodWord = true := by decide +kernel
set_option maxRecDepth 1000000 in
theorem wd_X7_tellLine : ∀ w ∈ kX7_tellLine.2.2.2.2.2.flatMap (zrq zTab kX7_tellLine.1.cls), w ∈ lw_tbl := zplaces [258, 425, 427, 428, 429, 178, 430, 425, 427, 496, 497, 183, 498, 425, 427, 491, 492, 184, 493, 506, 508, 509, 510, 178, 511, 506, 508, 524, 525, 183, 526, 506, 508, 520, 521, 184, 522, 408, 407, 3, 174, 405, 528, 530, 531, 532, 178, 533, 528, 530, 537, 538, 183, 539, 528, 530, 534, 535, 184, 536, 258, 540, 542, 543, 544, 178, 545, 540, 542, 566, 567, 183, 568, 540, 542, 561, 562, 184, 563, 408, 407, 3, 174, 405, 570, 572, 573, 574, 178, 575, 570, 572, 580, 581, 183, 582, 570, 572, 577, 578, 184, 579, 258, 408, 407, 3, 174, 405] rfl
theorem ok_X7_advance : zokM zTab kX7_advance := ⟨by decide +kernel, by decide +kernel, by decide +kernel⟩
theorem gw_X7_advance : (kX7_advance.2.2.2.2.2.flatMap (zrq zTab kX7_advance.1.cls)).all goodWord = true := by decide +kernel
set_option maxRecDepth 1000000 in
theorem wd_X7_advance : ∀ w ∈ kX7_advance.2.2.2.2.2.flatMap (zrq zTab kX7_advance.1.cls), w ∈ lw_tbl := zplaces [257, 256, 255, 257, 255, 257, 257, 257, 257, 259, 257, 256, 258, 257, 412, 411, 4, 174, 409, 258, 257, 256, 257, 412, 411, 4, 174, 409, 257, 257, 257, 416, 415, 5, 174, 413, 420, 419, 6, 174, 417, 255, 257, 258, 257, 257] rfl
theorem ok_X7_advanceDigits : zokM zTab kX7_advanceDigits := ⟨by decide +kernel, by decide +kernel, by decide +kernel⟩
theorem gw_X7_advanceDigits : (kX7_advanceDigits.2.2.2.2.2.flatMap (zrq zTab kX7_advanceDigits.1.cls)).all goodWord = true := by decide +kernel
set_option maxRecDepth 1000000 in
theorem wd_X7_advanceDigits : ∀ w ∈ kX7_advanceDigits.2.2.2.2.2.flatMap (zrq zTab kX7_advanceDigits.1.cls), w ∈ lw_tbl := zplaces [260, 257, 256, 257, 416, 415, 5, 174, 413, 257, 259, 260, 255, 257, 260, 257, 257, 257, 259, 258] rfl
theorem ok_X7_isLetter : zokM zTab kX7_isLetter := ⟨by decide +kernel, by decide +kernel, by decide +kernel⟩
theorem gw_X7_isLetter : (kX7_isLetter.2.2.2.2.2.flatMap (zrq zTab kX7_isLetter.1.cls)).all goodWord = true := by decide +kernel
set_option maxRecDepth 1000000 in
theorem wd_X7_isLetter : ∀ w ∈ kX7_isLetter.2.2.2.2.2.flatMap (zrq zTab kX7_isLetter.1.cls), w ∈ lw_tbl := zplaces [255, 255] rfl
theorem ok_X7_isDigit : zokM zTab kX7_isDigit := ⟨by decide +kernel, by decide +kernel, by decide +kernel⟩
theorem gw_X7_isDigit : (kX7_isDigit.2.2.2.2.2.flatMap (zrq zTab kX7_isDigit.1.cls)).all goodWord = true := by decide +kernel
set_option maxRecDepth 1000000 in
theorem wd_X7_isDigit : ∀ w ∈ kX7_isDigit.2.2.2.2.2.flatMap (zrq zTab kX7_isDigit.1.cls), w ∈ lw_tbl := zplaces [255, 255] rfl
theorem ok_X7_isAtHand : zokM zTab kX7_isAtHand := ⟨by decide +kernel, by decide +kernel, by decide +kernel⟩
theorem gw_X7_isAtHand : (kX7_isAtHand.2.2.2.2.2.flatMap (zrq zTab kX7_isAtHand.1.cls)).all goodWord = true := by decide +kernel
set_option maxRecDepth 1000000 in
theorem wd_X7_isAtHand : ∀ w ∈ kX7_isAtHand.2.2.2.2.2.flatMap (zrq zTab kX7_isAtHand.1.cls), w ∈ lw_tbl := zplaces [257, 259, 439, 437, 438, 179, 436, 439, 437, 438, 179, 436, 255, 259, 449, 447, 448, 179, 446] rfl
theorem ok_X7_isWithin : zokM zTab kX7_isWithin := ⟨by decide +kernel, by decide +kernel, by decide +kernel⟩
theorem gw_X7_isWithin : (kX7_isWithin.2.2.2.2.2.flatMap (zrq zTab kX7_isWithin.1.cls)).all goodWord = true := by decide +kernel
set_option maxRecDepth 1000000 in
theorem wd_X7_isWithin : ∀ w ∈ kX7_isWithin.2.2.2.2.2.flatMap (zrq zTab kX7_isWithin.1.cls), w ∈ lw_tbl := zplaces [260, 260, 515, 514, 9, 174, 550] rfl
theorem ok_X7_faultHere : zokM zTab kX7_faultHere := ⟨by decide +kernel, by decide +kernel, by decide +kernel⟩
theorem gw_X7_faultHere : (kX7_faultHere.2.2.2.2.2.flatMap (zrq zTab kX7_faultHere.1.cls)).all goodWord = true := by decide +kernel
set_option maxRecDepth 1000000 in
theorem wd_X7_faultHere : ∀ w ∈ kX7_faultHere.2.2.2.2.2.flatMap (zrq zTab kX7_faultHere.1.cls), w ∈ lw_tbl := zplaces [264, 259, 266, 259, 266, 264, 264, 259, 266] rfl
theorem ok_X1_init : zokM zTab kX1_init := ⟨by decide +kernel, by decide +kernel, by decide +kernel⟩
theorem gw_X1_init : (kX1_init.2.2.2.2.2.flatMap (zrq zTab kX1_init.1.cls)).all goodWord = true := by decide +kernel
set_option maxRecDepth 1000000 in
theorem wd_X1_init : ∀ w ∈ kX1_init.2.2.2.2.2.flatMap (zrq zTab kX1_init.1.cls), w ∈ lw_tbl := zplaces [290, 199, 200, 291, 292, 293, 294, 295, 247, 296, 247, 297] rfl
theorem ok_X1_begin : zokM zTab kX1_begin := ⟨by decide +kernel, by decide +kernel, by decide +kernel⟩
theorem gw_X1_begin : (kX1_begin.2.2.2.2.2.flatMap (zrq zTab kX1_begin.1.cls)).all goodWord = true := by decide +kernel
set_option maxRecDepth 1000000 in
theorem wd_X1_begin : ∀ w ∈ kX1_begin.2.2.2.2.2.flatMap (zrq zTab kX1_begin.1.cls), w ∈ lw_tbl := zplaces [291, 292, 293, 294, 296, 742, 741, 186, 740, 297, 742, 741, 186, 740] rfl
theorem ok_X1_doFirst : zokM zTab kX1_doFirst := ⟨by decide +kernel, by decide +kernel, by decide +kernel⟩
theorem gw_X1_doFirst : (kX1_doFirst.2.2.2.2.2.flatMap (zrq zTab kX1_doFirst.1.cls)).all goodWord = true := by decide +kernel
set_option maxRecDepth 1000000 in
theorem wd_X1_doFirst : ∀ w ∈ kX1_doFirst.2.2.2.2.2.flatMap (zrq zTab kX1_doFirst.1.cls), w ∈ lw_tbl := zplaces [750, 749, 24, 175, 747] rfl
theorem ok_X1_doDeed : zokM zTab kX1_doDeed := ⟨by decide +kernel, by decide +kernel, by decide +kernel⟩
theorem gw_X1_doDeed : (kX1_doDeed.2.2.2.2.2.flatMap (zrq zTab kX1_doDeed.1.cls)).all goodWord = true := by decide +kernel
set_option maxRecDepth 1000000 in
theorem wd_X1_doDeed : ∀ w ∈ kX1_doDeed.2.2.2.2.2.flatMap (zrq zTab kX1_doDeed.1.cls), w ∈ lw_tbl := zplaces [754, 753, 25, 175, 751, 763, 762, 26, 175, 760, 293, 293, 296, 291, 294, 758, 757, 172, 294, 294, 292, 292, 292] rfl
theorem ok_X1_doRead : zokM zTab kX1_doRead := ⟨by decide +kernel, by decide +kernel, by decide +kernel⟩
theorem gw_X1_doRead : (kX1_doRead.2.2.2.2.2.flatMap (zrq zTab kX1_doRead.1.cls)).all goodWord = true := by decide +kernel
set_option maxRecDepth 1000000 in
theorem wd_X1_doRead : ∀ w ∈ kX1_doRead.2.2.2.2.2.flatMap (zrq zTab kX1_doRead.1.cls), w ∈ lw_tbl := zplaces [291, 653, 652, 16, 178, 297, 294, 758, 757, 172, 294, 294, 296, 291, 296, 691, 690, 17, 178] rfl
theorem ok_X1_doCopy : zokM zTab kX1_doCopy := ⟨by decide +kernel, by decide +kernel, by decide +kernel⟩
theorem gw_X1_doCopy : (kX1_doCopy.2.2.2.2.2.flatMap (zrq zTab kX1_doCopy.1.cls)).all goodWord = true := by decide +kernel
set_option maxRecDepth 1000000 in
theorem wd_X1_doCopy : ∀ w ∈ kX1_doCopy.2.2.2.2.2.flatMap (zrq zTab kX1_doCopy.1.cls), w ∈ lw_tbl := zplaces [296, 296] rfl
theorem ok_X1_draw : zokM zTab kX1_draw := ⟨by decide +kernel, by decide +kernel, by decide +kernel⟩
theorem gw_X1_draw : (kX1_draw.2.2.2.2.2.flatMap (zrq zTab kX1_draw.1.cls)).all goodWord = true := by decide +kernel
set_option maxRecDepth 1000000 in
theorem wd_X1_draw : ∀ w ∈ kX1_draw.2.2.2.2.2.flatMap (zrq zTab kX1_draw.1.cls), w ∈ lw_tbl := zplaces [295, 1212, 1211, 81, 175, 1209, 1212, 1211, 81, 175, 1209, 291, 291, 1212, 1211, 81, 175, 1209, 750, 749, 24, 175, 747, 1212, 1211, 81, 175, 1209, 750, 749, 24, 175, 747, 750, 749, 24, 175, 747] rfl
theorem ok_X1_drawBelow : zokM zTab kX1_drawBelow := ⟨by decide +kernel, by decide +kernel, by decide +kernel⟩
theorem gw_X1_drawBelow : (kX1_drawBelow.2.2.2.2.2.flatMap (zrq zTab kX1_drawBelow.1.cls)).all goodWord = true := by decide +kernel
set_option maxRecDepth 1000000 in
theorem wd_X1_drawBelow : ∀ w ∈ kX1_drawBelow.2.2.2.2.2.flatMap (zrq zTab kX1_drawBelow.1.cls), w ∈ lw_tbl := zplaces [295, 1213, 295, 295] rfl
theorem ok_X1_tells : zokM zTab kX1_tells := ⟨by decide +kernel, by decide +kernel, by decide +kernel⟩
theorem gw_X1_tells : (kX1_tells.2.2.2.2.2.flatMap (zrq zTab kX1_tells.1.cls)).all goodWord = true := by decide +kernel
set_option maxRecDepth 1000000 in
theorem wd_X1_tells : ∀ w ∈ kX1_tells.2.2.2.2.2.flatMap (zrq zTab kX1_tells.1.cls), w ∈ lw_tbl := zplaces [292, 293, 775, 774, 28, 175, 772, 779, 778, 29, 175, 776, 779, 778, 29, 175, 776, 783, 782, 30, 175, 780, 294, 296, 291, 297] rfl
theorem ok_X1_suits : zokM zTab kX1_suits := ⟨by decide +kernel, by decide +kernel, by decide +kernel⟩
theorem gw_X1_suits : (kX1_suits.2.2.2.2.2.flatMap (zrq zTab kX1_suits.1.cls)).all goodWord = true := by decide +kernel
set_option maxRecDepth 1000000 in
theorem wd_X1_suits : ∀ w ∈ kX1_suits.2.2.2.2.2.flatMap (zrq zTab kX1_suits.1.cls), w ∈ lw_tbl := zplaces [296, 296, 293] rfl
theorem ok_X1_against : zokM zTab kX1_against := ⟨by decide +kernel, by decide +kernel, by decide +kernel⟩
theorem gw_X1_against : (kX1_against.2.2.2.2.2.flatMap (zrq zTab kX1_against.1.cls)).all goodWord = true := by decide +kernel
set_option maxRecDepth 1000000 in
theorem wd_X1_against : ∀ w ∈ kX1_against.2.2.2.2.2.flatMap (zrq zTab kX1_against.1.cls), w ∈ lw_tbl := zplaces [783, 782, 30, 175, 780, 783, 782, 30, 175, 780] rfl
theorem ok_X1_driftOfCopy : zokM zTab kX1_driftOfCopy := ⟨by decide +kernel, by decide +kernel, by decide +kernel⟩
theorem gw_X1_driftOfCopy : (kX1_driftOfCopy.2.2.2.2.2.flatMap (zrq zTab kX1_driftOfCopy.1.cls)).all goodWord = true := by decide +kernel
set_option maxRecDepth 1000000 in
theorem wd_X1_driftOfCopy : ∀ w ∈ kX1_driftOfCopy.2.2.2.2.2.flatMap (zrq zTab kX1_driftOfCopy.1.cls), w ∈ lw_tbl := zplaces [296, 291, 679, 678, 172] rfl
theorem ok_X3_init : zokM zTab kX3_init := ⟨by decide +kernel, by decide +kernel, by decide +kernel⟩
theorem gw_X3_init : (kX3_init.2.2.2.2.2.flatMap (zrq zTab kX3_init.1.cls)).all goodWord = true := by decide +kernel
set_option maxRecDepth 1000000 in
theorem wd_X3_init : ∀ w ∈ kX3_init.2.2.2.2.2.flatMap (zrq zTab kX3_init.1.cls), w ∈ lw_tbl := zplaces [370, 199, 200] rfl
theorem ok_X0_init : zokM zTab kX0_init := ⟨by decide +kernel, by decide +kernel, by decide +kernel⟩
theorem gw_X0_init : (kX0_init.2.2.2.2.2.flatMap (zrq zTab kX0_init.1.cls)).all goodWord = true := by decide +kernel
set_option maxRecDepth 1000000 in
theorem wd_X0_init : ∀ w ∈ kX0_init.2.2.2.2.2.flatMap (zrq zTab kX0_init.1.cls), w ∈ lw_tbl := zplaces [369, 368, 177, 371, 374, 381, 247, 382, 247, 383, 247, 384, 247, 385] rfl
theorem ok_X0_lineOf : zokM zTab kX0_lineOf := ⟨by decide +kernel, by decide +kernel, by decide +kernel⟩
theorem gw_X0_lineOf : (kX0_lineOf.2.2.2.2.2.flatMap (zrq zTab kX0_lineOf.1.cls)).all goodWord = true := by decide +kernel
set_option maxRecDepth 1000000 in
theorem wd_X0_lineOf : ∀ w ∈ kX0_lineOf.2.2.2.2.2.flatMap (zrq zTab kX0_lineOf.1.cls), w ∈ lw_tbl := zplaces [435, 434, 8, 174, 435, 434, 8, 174, 435, 434, 8, 174, 435, 434, 8, 174, 435, 434, 8, 174, 435, 434, 8, 174, 435, 434, 8, 174, 435, 434, 8, 174] rfl
theorem ok_X0_fewestNumbers : zokM zTab kX0_fewestNumbers := ⟨by decide +kernel, by decide +kernel, by decide +kernel⟩
theorem gw_X0_fewestNumbers : (kX0_fewestNumbers.2.2.2.2.2.flatMap (zrq zTab kX0_fewestNumbers.1.cls)).all goodWord = true := by decide +kernel
set_option maxRecDepth 1000000 in
theorem wd_X0_fewestNumbers : ∀ w ∈ kX0_fewestNumbers.2.2.2.2.2.flatMap (zrq zTab kX0_fewestNumbers.1.cls), w ∈ lw_tbl := zplaces [533, 532, 1999, 178, 576] rfl
theorem ok_X0_mostNumbers : zokM zTab kX0_mostNumbers := ⟨by decide +kernel, by decide +kernel, by decide +kernel⟩
theorem gw_X0_mostNumbers : (kX0_mostNumbers.2.2.2.2.2.flatMap (zrq zTab kX0_mostNumbers.1.cls)).all goodWord = true := by decide +kernel
set_option maxRecDepth 1000000 in
theorem wd_X0_mostNumbers : ∀ w ∈ kX0_mostNumbers.2.2.2.2.2.flatMap (zrq zTab kX0_mostNumbers.1.cls), w ∈ lw_tbl := zplaces [] rfl
theorem ok_X0_beginLine : zokM zTab kX0_beginLine := ⟨by decide +kernel, by decide +kernel, by decide +kernel⟩
theorem gw_X0_beginLine : (kX0_beginLine.2.2.2.2.2.flatMap (zrq zTab kX0_beginLine.1.cls)).all goodWord = true := by decide +kernel
set_option maxRecDepth 1000000 in
theorem wd_X0_beginLine : ∀ w ∈ kX0_beginLine.2.2.2.2.2.flatMap (zrq zTab kX0_beginLine.1.cls), w ∈ lw_tbl := zplaces [371, 374, 374, 374, 515, 514, 9, 174, 519, 518, 10, 178, 516] rfl
theorem ok_X0_beginStep : zokM zTab kX0_beginStep := ⟨by decide +kernel, by decide +kernel, by decide +kernel⟩
theorem gw_X0_beginStep : (kX0_beginStep.2.2.2.2.2.flatMap (zrq zTab kX0_beginStep.1.cls)).all goodWord = true := by decide +kernel
set_option maxRecDepth 1000000 in
theorem wd_X0_beginStep : ∀ w ∈ kX0_beginStep.2.2.2.2.2.flatMap (zrq zTab kX0_beginStep.1.cls), w ∈ lw_tbl := zplaces [374, 515, 514, 9, 174, 383, 515, 514, 9, 174, 384, 383, 383] rfl
theorem ok_X0_takeNumber : zokM zTab kX0_takeNumber := ⟨by decide +kernel, by decide +kernel, by decide +kernel⟩
theorem gw_X0_takeNumber : (kX0_takeNumber.2.2.2.2.2.flatMap (zrq zTab kX0_takeNumber.1.cls)).all goodWord = true := by decide +kernel
set_option maxRecDepth 1000000 in
theorem wd_X0_takeNumber : ∀ w ∈ kX0_takeNumber.2.2.2.2.2.flatMap (zrq zTab kX0_takeNumber.1.cls), w ∈ lw_tbl := zplaces [549, 548, 11, 174, 515, 514, 9, 174, 554, 553, 12, 178, 551] rfl
theorem ok_X0_keepNumber : zokM zTab kX0_keepNumber := ⟨by decide +kernel, by decide +kernel, by decide +kernel⟩
theorem gw_X0_keepNumber : (kX0_keepNumber.2.2.2.2.2.flatMap (zrq zTab kX0_keepNumber.1.cls)).all goodWord = true := by decide +kernel
set_option maxRecDepth 1000000 in
theorem wd_X0_keepNumber : ∀ w ∈ kX0_keepNumber.2.2.2.2.2.flatMap (zrq zTab kX0_keepNumber.1.cls), w ∈ lw_tbl := zplaces [374, 371, 557, 556, 172, 371, 381, 381, 560, 559, 172, 382, 381, 383, 385, 383] rfl
theorem ok_X0_hasReader : zokM zTab kX0_hasReader := ⟨by decide +kernel, by decide +kernel, by decide +kernel⟩
theorem gw_X0_hasReader : (kX0_hasReader.2.2.2.2.2.flatMap (zrq zTab kX0_hasReader.1.cls)).all goodWord = true := by decide +kernel
set_option maxRecDepth 1000000 in
theorem wd_X0_hasReader : ∀ w ∈ kX0_hasReader.2.2.2.2.2.flatMap (zrq zTab kX0_hasReader.1.cls), w ∈ lw_tbl := zplaces [374] rfl
theorem ok_X0_hasReaders : zokM zTab kX0_hasReaders := ⟨by decide +kernel, by decide +kernel, by decide +kernel⟩
theorem gw_X0_hasReaders : (kX0_hasReaders.2.2.2.2.2.flatMap (zrq zTab kX0_hasReaders.1.cls)).all goodWord = true := by decide +kernel
set_option maxRecDepth 1000000 in
theorem wd_X0_hasReaders : ∀ w ∈ kX0_hasReaders.2.2.2.2.2.flatMap (zrq zTab kX0_hasReaders.1.cls), w ∈ lw_tbl := zplaces [374] rfl
theorem ok_X0_tells : zokM zTab kX0_tells := ⟨by decide +kernel, by decide +kernel, by decide +kernel⟩
theorem gw_X0_tells : (kX0_tells.2.2.2.2.2.flatMap (zrq zTab kX0_tells.1.cls)).all goodWord = true := by decide +kernel
set_option maxRecDepth 1000000 in
theorem wd_X0_tells : ∀ w ∈ kX0_tells.2.2.2.2.2.flatMap (zrq zTab kX0_tells.1.cls), w ∈ lw_tbl := zplaces [371, 374, 382, 374, 383, 649, 648, 15, 178, 646] rfl
theorem ok_X0_tellsStep : zokM zTab kX0_tellsStep := ⟨by decide +kernel, by decide +kernel, by decide +kernel⟩
theorem gw_X0_tellsStep : (kX0_tellsStep.2.2.2.2.2.flatMap (zrq zTab kX0_tellsStep.1.cls)).all goodWord = true := by decide +kernel
set_option maxRecDepth 1000000 in
theorem wd_X0_tellsStep : ∀ w ∈ kX0_tellsStep.2.2.2.2.2.flatMap (zrq zTab kX0_tellsStep.1.cls), w ∈ lw_tbl := zplaces [653, 652, 16, 178, 650, 383, 384, 385] rfl
theorem ok_X0_readBy : zokM zTab kX0_readBy := ⟨by decide +kernel, by decide +kernel, by decide +kernel⟩
theorem gw_X0_readBy : (kX0_readBy.2.2.2.2.2.flatMap (zrq zTab kX0_readBy.1.cls)).all goodWord = true := by decide +kernel
set_option maxRecDepth 1000000 in
theorem wd_X0_readBy : ∀ w ∈ kX0_readBy.2.2.2.2.2.flatMap (zrq zTab kX0_readBy.1.cls), w ∈ lw_tbl := zplaces [669, 668, 172, 383, 384, 385, 696, 695, 18, 178, 693, 718, 717, 172] rfl
theorem ok_X0_stepOn : zokM zTab kX0_stepOn := ⟨by decide +kernel, by decide +kernel, by decide +kernel⟩
theorem gw_X0_stepOn : (kX0_stepOn.2.2.2.2.2.flatMap (zrq zTab kX0_stepOn.1.cls)).all goodWord = true := by decide +kernel
set_option maxRecDepth 1000000 in
theorem wd_X0_stepOn : ∀ w ∈ kX0_stepOn.2.2.2.2.2.flatMap (zrq zTab kX0_stepOn.1.cls), w ∈ lw_tbl := zplaces [699, 698, 172, 703, 702, 19, 178, 700, 706, 705, 178, 704, 709, 708, 178, 707, 712, 711, 178, 710, 715, 714, 178, 713] rfl
theorem ok_X0_shifted : zokM zTab kX0_shifted := ⟨by decide +kernel, by decide +kernel, by decide +kernel⟩
theorem gw_X0_shifted : (kX0_shifted.2.2.2.2.2.flatMap (zrq zTab kX0_shifted.1.cls)).all goodWord = true := by decide +kernel
set_option maxRecDepth 1000000 in
theorem wd_X0_shifted : ∀ w ∈ kX0_shifted.2.2.2.2.2.flatMap (zrq zTab kX0_shifted.1.cls), w ∈ lw_tbl := zplaces [382] rfl
theorem ok_X0_dropped : zokM zTab kX0_dropped := ⟨by decide +kernel, by decide +kernel, by decide +kernel⟩
theorem gw_X0_dropped : (kX0_dropped.2.2.2.2.2.flatMap (zrq zTab kX0_dropped.1.cls)).all goodWord = true := by decide +kernel
set_option maxRecDepth 1000000 in
theorem wd_X0_dropped : ∀ w ∈ kX0_dropped.2.2.2.2.2.flatMap (zrq zTab kX0_dropped.1.cls), w ∈ lw_tbl := zplaces [] rfl
