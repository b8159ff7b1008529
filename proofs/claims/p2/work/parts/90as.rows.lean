theorem ok_X5_findOrbits : zokM zTab kX5_findOrbits := ⟨by decide +kernel, by decide +kernel, by decide +kernel⟩
theorem gw_X5_findOrbits : (kX5_findOrbits.2.2.2.2.2.flatMap (zrq zTab kX5_findOrbits.1.cls)).all goodWord = true := by decide +kernel
theorem wd_X5_findOrbits : ∀ w ∈ kX5_findOrbits.2.2.2.2.2.flatMap (zrq zTab kX5_findOrbits.1.cls), w ∈ lw_tbl := zplaces [926, 742, 741, 186, 980, 935, 742, 741, 186, 980, 937, 742, 741, 186, 980, 864, 863, 37, 187, 935, 926, 926, 985, 984, 47, 189, 982, 926, 926, 989, 988, 48, 189, 986, 935, 926, 926, 937, 990, 628, 185, 629, 935, 926, 926, 926, 994, 993, 49, 189, 991, 990, 628, 185, 629] (by decide +kernel)
theorem ok_X5_putThoseOfNone : zokM zTab kX5_putThoseOfNone := ⟨by decide +kernel, by decide +kernel, by decide +kernel⟩
theorem gw_X5_putThoseOfNone : (kX5_putThoseOfNone.2.2.2.2.2.flatMap (zrq zTab kX5_putThoseOfNone.1.cls)).all goodWord = true := by decide +kernel
theorem wd_X5_putThoseOfNone : ∀ w ∈ kX5_putThoseOfNone.2.2.2.2.2.flatMap (zrq zTab kX5_putThoseOfNone.1.cls), w ∈ lw_tbl := zplaces [935, 936] (by decide +kernel)
theorem ok_X5_takeOutside : zokM zTab kX5_takeOutside := ⟨by decide +kernel, by decide +kernel, by decide +kernel⟩
theorem gw_X5_takeOutside : (kX5_takeOutside.2.2.2.2.2.flatMap (zrq zTab kX5_takeOutside.1.cls)).all goodWord = true := by decide +kernel
theorem wd_X5_takeOutside : ∀ w ∈ kX5_takeOutside.2.2.2.2.2.flatMap (zrq zTab kX5_takeOutside.1.cls), w ∈ lw_tbl := zplaces [936, 864, 863, 37, 187, 937, 937, 937, 990, 628, 185, 629, 935, 935, 936] (by decide +kernel)
theorem ok_X5_goRound : zokM zTab kX5_goRound := ⟨by decide +kernel, by decide +kernel, by decide +kernel⟩
theorem gw_X5_goRound : (kX5_goRound.2.2.2.2.2.flatMap (zrq zTab kX5_goRound.1.cls)).all goodWord = true := by decide +kernel
theorem wd_X5_goRound : ∀ w ∈ kX5_goRound.2.2.2.2.2.flatMap (zrq zTab kX5_goRound.1.cls), w ∈ lw_tbl := zplaces [935, 935, 864, 863, 37, 187] (by decide +kernel)
theorem ok_X5_findCircles : zokM zTab kX5_findCircles := ⟨by decide +kernel, by decide +kernel, by decide +kernel⟩
theorem gw_X5_findCircles : (kX5_findCircles.2.2.2.2.2.flatMap (zrq zTab kX5_findCircles.1.cls)).all goodWord = true := by decide +kernel
theorem wd_X5_findCircles : ∀ w ∈ kX5_findCircles.2.2.2.2.2.flatMap (zrq zTab kX5_findCircles.1.cls), w ∈ lw_tbl := zplaces [928, 930, 932, 933, 940, 742, 741, 186, 980, 943, 742, 741, 186, 980, 940, 1298, 1297, 90, 189, 1295] (by decide +kernel)
theorem ok_X5_findFrom : zokM zTab kX5_findFrom := ⟨by decide +kernel, by decide +kernel, by decide +kernel⟩
theorem gw_X5_findFrom : (kX5_findFrom.2.2.2.2.2.flatMap (zrq zTab kX5_findFrom.1.cls)).all goodWord = true := by decide +kernel
theorem wd_X5_findFrom : ∀ w ∈ kX5_findFrom.2.2.2.2.2.flatMap (zrq zTab kX5_findFrom.1.cls), w ∈ lw_tbl := zplaces [934, 1302, 1301, 91, 189, 1299, 1303, 934, 938, 934, 942, 1307, 1306, 92, 189, 1304, 1312, 1311, 93, 189, 1309] (by decide +kernel)
theorem ok_X5_enter : zokM zTab kX5_enter := ⟨by decide +kernel, by decide +kernel, by decide +kernel⟩
theorem gw_X5_enter : (kX5_enter.2.2.2.2.2.flatMap (zrq zTab kX5_enter.1.cls)).all goodWord = true := by decide +kernel
theorem wd_X5_enter : ∀ w ∈ kX5_enter.2.2.2.2.2.flatMap (zrq zTab kX5_enter.1.cls), w ∈ lw_tbl := zplaces [940, 932, 941, 932, 942, 932, 932, 939, 933, 933, 933, 938, 934, 934, 934] (by decide +kernel)
theorem ok_X5_tryNext : zokM zTab kX5_tryNext := ⟨by decide +kernel, by decide +kernel, by decide +kernel⟩
theorem gw_X5_tryNext : (kX5_tryNext.2.2.2.2.2.flatMap (zrq zTab kX5_tryNext.1.cls)).all goodWord = true := by decide +kernel
theorem wd_X5_tryNext : ∀ w ∈ kX5_tryNext.2.2.2.2.2.flatMap (zrq zTab kX5_tryNext.1.cls), w ∈ lw_tbl := zplaces [942, 864, 863, 37, 187, 942, 940, 1302, 1301, 91, 189, 1299, 943, 941, 941, 940, 1308, 681, 185, 682] (by decide +kernel)
theorem ok_X5_leave : zokM zTab kX5_leave := ⟨by decide +kernel, by decide +kernel, by decide +kernel⟩
theorem gw_X5_leave : (kX5_leave.2.2.2.2.2.flatMap (zrq zTab kX5_leave.1.cls)).all goodWord = true := by decide +kernel
theorem wd_X5_leave : ∀ w ∈ kX5_leave.2.2.2.2.2.flatMap (zrq zTab kX5_leave.1.cls), w ∈ lw_tbl := zplaces [934, 934, 934, 938, 934, 941, 941, 941, 1308, 681, 185, 682, 941, 940, 1316, 1315, 94, 189, 1313] (by decide +kernel)
theorem ok_X5_closeCircle : zokM zTab kX5_closeCircle := ⟨by decide +kernel, by decide +kernel, by decide +kernel⟩
theorem gw_X5_closeCircle : (kX5_closeCircle.2.2.2.2.2.flatMap (zrq zTab kX5_closeCircle.1.cls)).all goodWord = true := by decide +kernel
theorem wd_X5_closeCircle : ∀ w ∈ kX5_closeCircle.2.2.2.2.2.flatMap (zrq zTab kX5_closeCircle.1.cls), w ∈ lw_tbl := zplaces [933, 939, 933, 933, 943, 939, 933, 928, 928, 930, 990, 628, 185, 629, 930] (by decide +kernel)
theorem ok_X12_init : zokM zTab kX12_init := ⟨by decide +kernel, by decide +kernel, by decide +kernel⟩
theorem gw_X12_init : (kX12_init.2.2.2.2.2.flatMap (zrq zTab kX12_init.1.cls)).all goodWord = true := by decide +kernel
theorem wd_X12_init : ∀ w ∈ kX12_init.2.2.2.2.2.flatMap (zrq zTab kX12_init.1.cls), w ∈ lw_tbl := zplaces [1341, 199, 200, 246, 1344, 247, 1345, 247, 1346, 247, 1347, 247, 1348, 247, 1349, 247, 1350, 247, 1351, 247, 1361, 247, 1362, 1364, 247, 1367, 247, 1368, 247, 1370, 247, 1372, 247, 1373, 247, 1377, 247, 1378, 247, 1379, 247, 1380, 247, 1382, 1342, 247, 1383, 1342, 247, 1385, 1342, 247, 1386, 247, 1388, 247, 1389, 247, 1390, 247, 1391, 247, 1392, 247, 1393, 1500, 1394, 1347] (by decide +kernel)
