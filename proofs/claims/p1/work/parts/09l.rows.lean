theorem ok_X8_init : zokM zTab kX8_init := ⟨by decide +kernel, by decide +kernel, by decide +kernel⟩
theorem gw_X8_init : (kX8_init.2.2.2.2.2.flatMap (zrq zTab kX8_init.1.cls)).all goodWord = true := by decide +kernel
theorem wd_X8_init : ∀ w ∈ kX8_init.2.2.2.2.2.flatMap (zrq zTab kX8_init.1.cls), w ∈ lw_tbl := zplaces [206, 199, 200, 246, 213, 215, 217, 219, 247, 221, 207, 223, 209, 225, 211, 227] (by decide +kernel)
theorem ok_X8_putBytes : zokM zTab kX8_putBytes := ⟨by decide +kernel, by decide +kernel, by decide +kernel⟩
theorem gw_X8_putBytes : (kX8_putBytes.2.2.2.2.2.flatMap (zrq zTab kX8_putBytes.1.cls)).all goodWord = true := by decide +kernel
theorem wd_X8_putBytes : ∀ w ∈ kX8_putBytes.2.2.2.2.2.flatMap (zrq zTab kX8_putBytes.1.cls), w ∈ lw_tbl := zplaces [215, 213, 215, 215, 215] (by decide +kernel)
theorem ok_X8_becomes : zokM zTab kX8_becomes := ⟨by decide +kernel, by decide +kernel, by decide +kernel⟩
theorem gw_X8_becomes : (kX8_becomes.2.2.2.2.2.flatMap (zrq zTab kX8_becomes.1.cls)).all goodWord = true := by decide +kernel
theorem wd_X8_becomes : ∀ w ∈ kX8_becomes.2.2.2.2.2.flatMap (zrq zTab kX8_becomes.1.cls), w ∈ lw_tbl := zplaces [213, 213, 1329, 1331, 1330, 192, 215, 215, 217, 217, 219, 219, 221, 221, 1329, 1331, 1330, 192, 223, 223, 225, 225, 227, 227] (by decide +kernel)
theorem ok_X7_init : zokM zTab kX7_init := ⟨by decide +kernel, by decide +kernel, by decide +kernel⟩
theorem gw_X7_init : (kX7_init.2.2.2.2.2.flatMap (zrq zTab kX7_init.1.cls)).all goodWord = true := by decide +kernel
theorem wd_X7_init : ∀ w ∈ kX7_init.2.2.2.2.2.flatMap (zrq zTab kX7_init.1.cls), w ∈ lw_tbl := zplaces [254, 199, 200, 255, 256, 257, 258, 259, 260, 264, 266] (by decide +kernel)
theorem ok_X7_tell : zokM zTab kX7_tell := ⟨by decide +kernel, by decide +kernel, by decide +kernel⟩
theorem gw_X7_tell : (kX7_tell.2.2.2.2.2.flatMap (zrq zTab kX7_tell.1.cls)).all goodWord = true := by decide +kernel
theorem wd_X7_tell : ∀ w ∈ kX7_tell.2.2.2.2.2.flatMap (zrq zTab kX7_tell.1.cls), w ∈ lw_tbl := zplaces [255, 256, 257, 264, 266, 408, 407, 3, 174, 405, 258, 264, 259, 266, 264] (by decide +kernel)
theorem ok_X7_advance : zokM zTab kX7_advance := ⟨by decide +kernel, by decide +kernel, by decide +kernel⟩
theorem gw_X7_advance : (kX7_advance.2.2.2.2.2.flatMap (zrq zTab kX7_advance.1.cls)).all goodWord = true := by decide +kernel
theorem wd_X7_advance : ∀ w ∈ kX7_advance.2.2.2.2.2.flatMap (zrq zTab kX7_advance.1.cls), w ∈ lw_tbl := zplaces [257, 256, 255, 257, 255, 257, 257, 257, 257, 259, 257, 256, 258, 257, 258, 257, 256, 257, 257, 257, 257, 255, 257, 258, 257, 257] (by decide +kernel)
theorem ok_X1_init : zokM zTab kX1_init := ⟨by decide +kernel, by decide +kernel, by decide +kernel⟩
theorem gw_X1_init : (kX1_init.2.2.2.2.2.flatMap (zrq zTab kX1_init.1.cls)).all goodWord = true := by decide +kernel
theorem wd_X1_init : ∀ w ∈ kX1_init.2.2.2.2.2.flatMap (zrq zTab kX1_init.1.cls), w ∈ lw_tbl := zplaces [290, 199, 200, 291, 292, 293, 294, 295, 247, 296, 247, 297] (by decide +kernel)
theorem ok_X3_init : zokM zTab kX3_init := ⟨by decide +kernel, by decide +kernel, by decide +kernel⟩
theorem gw_X3_init : (kX3_init.2.2.2.2.2.flatMap (zrq zTab kX3_init.1.cls)).all goodWord = true := by decide +kernel
theorem wd_X3_init : ∀ w ∈ kX3_init.2.2.2.2.2.flatMap (zrq zTab kX3_init.1.cls), w ∈ lw_tbl := zplaces [370, 199, 200] (by decide +kernel)
theorem ok_X0_init : zokM zTab kX0_init := ⟨by decide +kernel, by decide +kernel, by decide +kernel⟩
theorem gw_X0_init : (kX0_init.2.2.2.2.2.flatMap (zrq zTab kX0_init.1.cls)).all goodWord = true := by decide +kernel
theorem wd_X0_init : ∀ w ∈ kX0_init.2.2.2.2.2.flatMap (zrq zTab kX0_init.1.cls), w ∈ lw_tbl := zplaces [369, 368, 177, 371, 374, 381, 247, 382, 247, 383, 247, 384, 247, 385] (by decide +kernel)
theorem ok_X10_init : zokM zTab kX10_init := ⟨by decide +kernel, by decide +kernel, by decide +kernel⟩
theorem gw_X10_init : (kX10_init.2.2.2.2.2.flatMap (zrq zTab kX10_init.1.cls)).all goodWord = true := by decide +kernel
theorem wd_X10_init : ∀ w ∈ kX10_init.2.2.2.2.2.flatMap (zrq zTab kX10_init.1.cls), w ∈ lw_tbl := zplaces [369, 368, 177, 590, 247, 593, 247, 595, 247, 597] (by decide +kernel)
theorem ok_X6_init : zokM zTab kX6_init := ⟨by decide +kernel, by decide +kernel, by decide +kernel⟩
theorem gw_X6_init : (kX6_init.2.2.2.2.2.flatMap (zrq zTab kX6_init.1.cls)).all goodWord = true := by decide +kernel
theorem wd_X6_init : ∀ w ∈ kX6_init.2.2.2.2.2.flatMap (zrq zTab kX6_init.1.cls), w ∈ lw_tbl := zplaces [369, 368, 177, 614, 247, 616, 247, 618] (by decide +kernel)
theorem ok_X12_init : zokM zTab kX12_init := ⟨by decide +kernel, by decide +kernel, by decide +kernel⟩
theorem gw_X12_init : (kX12_init.2.2.2.2.2.flatMap (zrq zTab kX12_init.1.cls)).all goodWord = true := by decide +kernel
theorem wd_X12_init : ∀ w ∈ kX12_init.2.2.2.2.2.flatMap (zrq zTab kX12_init.1.cls), w ∈ lw_tbl := zplaces [1341, 199, 200, 246, 1344, 247, 1345, 247, 1346, 247, 1347, 247, 1348, 247, 1349, 247, 1350, 247, 1351, 247, 1361, 247, 1362, 1364, 247, 1367, 247, 1368, 247, 1370, 247, 1372, 247, 1373, 247, 1377, 247, 1378, 247, 1379, 247, 1380, 247, 1382, 1342, 247, 1383, 1342, 247, 1385, 1342, 247, 1386, 247, 1388, 247, 1389, 247, 1390, 247, 1391, 247, 1392, 247, 1393, 1500, 1394, 1347] (by decide +kernel)
