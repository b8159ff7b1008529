theorem ok_X11_mean : zokM zTab kX11_mean := ⟨by decide +kernel, by decide +kernel, by decide +kernel⟩
theorem gw_X11_mean : (kX11_mean.2.2.2.2.2.flatMap (zrq zTab kX11_mean.1.cls)).all goodWord = true := by decide +kernel
theorem wd_X11_mean : ∀ w ∈ kX11_mean.2.2.2.2.2.flatMap (zrq zTab kX11_mean.1.cls), w ∈ lw_tbl := zplaces [792, 791, 31, 172, 789, 1001, 1000, 172, 999, 851, 850, 34, 187, 1105, 1005, 1004, 50, 172, 1002, 1047, 1046, 51, 190, 851, 850, 34, 187, 851, 850, 34, 187, 1051, 1050, 52, 190, 1073, 1072, 57, 190, 1109, 1108, 64, 190, 1113, 1112, 65, 190, 1116, 1115, 172, 1114, 1105] (by decide +kernel)
theorem ok_X11_elders : zokM zTab kX11_elders := ⟨by decide +kernel, by decide +kernel, by decide +kernel⟩
theorem gw_X11_elders : (kX11_elders.2.2.2.2.2.flatMap (zrq zTab kX11_elders.1.cls)).all goodWord = true := by decide +kernel
theorem wd_X11_elders : ∀ w ∈ kX11_elders.2.2.2.2.2.flatMap (zrq zTab kX11_elders.1.cls), w ∈ lw_tbl := zplaces [792, 791, 31, 172, 789, 660, 659, 172, 658, 1001, 1000, 172, 999, 1124, 1123, 66, 187, 1135, 1134, 68, 187, 1139, 1138, 69, 187] (by decide +kernel)
theorem ok_X11_play : zokM zTab kX11_play := ⟨by decide +kernel, by decide +kernel, by decide +kernel⟩
theorem gw_X11_play : (kX11_play.2.2.2.2.2.flatMap (zrq zTab kX11_play.1.cls)).all goodWord = true := by decide +kernel
theorem wd_X11_play : ∀ w ∈ kX11_play.2.2.2.2.2.flatMap (zrq zTab kX11_play.1.cls), w ∈ lw_tbl := zplaces [792, 791, 31, 172, 789, 1001, 1000, 172, 999, 560, 559, 172, 1144, 893, 892, 41, 178, 893, 892, 41, 178, 1005, 1004, 50, 172, 1002, 1047, 1046, 51, 190, 1051, 1050, 52, 190, 1148, 1147, 70, 190, 1084, 1083, 59, 190, 1096, 1095, 62, 190, 1155, 1154, 71, 190] (by decide +kernel)
theorem ok_X11_fact : zokM zTab kX11_fact := ⟨by decide +kernel, by decide +kernel, by decide +kernel⟩
theorem gw_X11_fact : (kX11_fact.2.2.2.2.2.flatMap (zrq zTab kX11_fact.1.cls)).all goodWord = true := by decide +kernel
theorem wd_X11_fact : ∀ w ∈ kX11_fact.2.2.2.2.2.flatMap (zrq zTab kX11_fact.1.cls), w ∈ lw_tbl := zplaces [1163, 1162, 72, 172, 1160, 1167, 1166, 73, 184] (by decide +kernel)
theorem ok_X11_fits : zokM zTab kX11_fits := ⟨by decide +kernel, by decide +kernel, by decide +kernel⟩
theorem gw_X11_fits : (kX11_fits.2.2.2.2.2.flatMap (zrq zTab kX11_fits.1.cls)).all goodWord = true := by decide +kernel
theorem wd_X11_fits : ∀ w ∈ kX11_fits.2.2.2.2.2.flatMap (zrq zTab kX11_fits.1.cls), w ∈ lw_tbl := zplaces [792, 791, 31, 172, 789, 1163, 1162, 72, 172, 1160, 1001, 1000, 172, 999, 660, 659, 172, 658, 1005, 1004, 50, 172, 1002, 1175, 1174, 74, 190, 851, 850, 34, 187, 851, 850, 34, 187, 1051, 1050, 52, 190, 1113, 1112, 65, 190, 1180, 1179, 75, 190] (by decide +kernel)
theorem ok_X11_sure : zokM zTab kX11_sure := ⟨by decide +kernel, by decide +kernel, by decide +kernel⟩
theorem gw_X11_sure : (kX11_sure.2.2.2.2.2.flatMap (zrq zTab kX11_sure.1.cls)).all goodWord = true := by decide +kernel
theorem wd_X11_sure : ∀ w ∈ kX11_sure.2.2.2.2.2.flatMap (zrq zTab kX11_sure.1.cls), w ∈ lw_tbl := zplaces [792, 791, 31, 172, 789, 1163, 1162, 72, 172, 1160, 1001, 1000, 172, 999, 1005, 1004, 50, 172, 1002, 1175, 1174, 74, 190, 851, 850, 34, 187, 851, 850, 34, 187, 1051, 1050, 52, 190, 1113, 1112, 65, 190, 1188, 1187, 76, 190, 1084, 1083, 59, 190, 1192, 1191, 77, 190, 1196, 1195, 78, 190] (by decide +kernel)
theorem ok_X11_drawn : zokM zTab kX11_drawn := ⟨by decide +kernel, by decide +kernel, by decide +kernel⟩
theorem gw_X11_drawn : (kX11_drawn.2.2.2.2.2.flatMap (zrq zTab kX11_drawn.1.cls)).all goodWord = true := by decide +kernel
theorem wd_X11_drawn : ∀ w ∈ kX11_drawn.2.2.2.2.2.flatMap (zrq zTab kX11_drawn.1.cls), w ∈ lw_tbl := zplaces [641, 640, 13, 172, 638, 320, 739, 738, 22, 175, 320, 1208, 1207, 80, 175, 320, 771, 770, 27, 175] (by decide +kernel)
theorem ok_X11_kinship : zokM zTab kX11_kinship := ⟨by decide +kernel, by decide +kernel, by decide +kernel⟩
theorem gw_X11_kinship : (kX11_kinship.2.2.2.2.2.flatMap (zrq zTab kX11_kinship.1.cls)).all goodWord = true := by decide +kernel
theorem wd_X11_kinship : ∀ w ∈ kX11_kinship.2.2.2.2.2.flatMap (zrq zTab kX11_kinship.1.cls), w ∈ lw_tbl := zplaces [641, 640, 13, 172, 638, 560, 559, 172, 1144, 1221, 1220, 82, 178, 1225, 1224, 83, 178] (by decide +kernel)
theorem ok_X11_shared : zokM zTab kX11_shared := ⟨by decide +kernel, by decide +kernel, by decide +kernel⟩
theorem gw_X11_shared : (kX11_shared.2.2.2.2.2.flatMap (zrq zTab kX11_shared.1.cls)).all goodWord = true := by decide +kernel
theorem wd_X11_shared : ∀ w ∈ kX11_shared.2.2.2.2.2.flatMap (zrq zTab kX11_shared.1.cls), w ∈ lw_tbl := zplaces [660, 659, 172, 658, 660, 659, 172, 658, 1236, 1235, 172, 1234, 663, 662, 172, 661] (by decide +kernel)
theorem ok_X11_joined : zokM zTab kX11_joined := ⟨by decide +kernel, by decide +kernel, by decide +kernel⟩
theorem gw_X11_joined : (kX11_joined.2.2.2.2.2.flatMap (zrq zTab kX11_joined.1.cls)).all goodWord = true := by decide +kernel
theorem wd_X11_joined : ∀ w ∈ kX11_joined.2.2.2.2.2.flatMap (zrq zTab kX11_joined.1.cls), w ∈ lw_tbl := zplaces [792, 791, 31, 172, 789, 660, 659, 172, 658, 660, 659, 172, 658, 823, 822, 33, 172, 820, 823, 822, 33, 172, 820, 851, 850, 34, 187, 855, 854, 35, 188, 851, 850, 34, 187, 855, 854, 35, 188, 1249, 1248, 85, 188] (by decide +kernel)
theorem ok_X11_nearest : zokM zTab kX11_nearest := ⟨by decide +kernel, by decide +kernel, by decide +kernel⟩
theorem gw_X11_nearest : (kX11_nearest.2.2.2.2.2.flatMap (zrq zTab kX11_nearest.1.cls)).all goodWord = true := by decide +kernel
theorem wd_X11_nearest : ∀ w ∈ kX11_nearest.2.2.2.2.2.flatMap (zrq zTab kX11_nearest.1.cls), w ∈ lw_tbl := zplaces [792, 791, 31, 172, 789, 660, 659, 172, 658, 660, 659, 172, 658, 823, 822, 33, 172, 820, 851, 850, 34, 187, 855, 854, 35, 188, 1257, 1256, 86, 188, 679, 678, 172, 677] (by decide +kernel)
theorem ok_X11_settles : zokM zTab kX11_settles := ⟨by decide +kernel, by decide +kernel, by decide +kernel⟩
theorem gw_X11_settles : (kX11_settles.2.2.2.2.2.flatMap (zrq zTab kX11_settles.1.cls)).all goodWord = true := by decide +kernel
theorem wd_X11_settles : ∀ w ∈ kX11_settles.2.2.2.2.2.flatMap (zrq zTab kX11_settles.1.cls), w ∈ lw_tbl := zplaces [792, 791, 31, 172, 789, 660, 659, 172, 658, 823, 822, 33, 172, 820, 851, 850, 34, 187, 855, 854, 35, 188, 1266, 1265, 87, 188] (by decide +kernel)
theorem ok_X11_unmade : zokM zTab kX11_unmade := ⟨by decide +kernel, by decide +kernel, by decide +kernel⟩
theorem gw_X11_unmade : (kX11_unmade.2.2.2.2.2.flatMap (zrq zTab kX11_unmade.1.cls)).all goodWord = true := by decide +kernel
theorem wd_X11_unmade : ∀ w ∈ kX11_unmade.2.2.2.2.2.flatMap (zrq zTab kX11_unmade.1.cls), w ∈ lw_tbl := zplaces [792, 791, 31, 172, 789, 1276, 1275, 88, 187, 1135, 1134, 68, 187, 1139, 1138, 69, 187] (by decide +kernel)
theorem ok_X11_silenced : zokM zTab kX11_silenced := ⟨by decide +kernel, by decide +kernel, by decide +kernel⟩
theorem gw_X11_silenced : (kX11_silenced.2.2.2.2.2.flatMap (zrq zTab kX11_silenced.1.cls)).all goodWord = true := by decide +kernel
theorem wd_X11_silenced : ∀ w ∈ kX11_silenced.2.2.2.2.2.flatMap (zrq zTab kX11_silenced.1.cls), w ∈ lw_tbl := zplaces [792, 791, 31, 172, 789, 660, 659, 172, 658, 660, 659, 172, 658, 823, 822, 33, 172, 820, 851, 850, 34, 187, 1283, 1282, 191, 1281, 851, 850, 34, 187, 855, 854, 35, 188] (by decide +kernel)
