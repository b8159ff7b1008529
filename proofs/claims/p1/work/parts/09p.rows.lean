theorem ok_X12_silenced : zokM zTab kX12_silenced := ⟨by decide +kernel, by decide +kernel, by decide +kernel⟩
theorem gw_X12_silenced : (kX12_silenced.2.2.2.2.2.flatMap (zrq zTab kX12_silenced.1.cls)).all goodWord = true := by decide +kernel
theorem wd_X12_silenced : ∀ w ∈ kX12_silenced.2.2.2.2.2.flatMap (zrq zTab kX12_silenced.1.cls), w ∈ lw_tbl := zplaces [1343, 1641, 1640, 176, 1639, 1641, 1640, 176, 1639, 1758, 1757, 137, 176, 1755, 1366, 1734, 1733, 176, 1732, 1378, 1378] (by decide +kernel)
theorem ok_X12_circles : zokM zTab kX12_circles := ⟨by decide +kernel, by decide +kernel, by decide +kernel⟩
theorem gw_X12_circles : (kX12_circles.2.2.2.2.2.flatMap (zrq zTab kX12_circles.1.cls)).all goodWord = true := by decide +kernel
theorem wd_X12_circles : ∀ w ∈ kX12_circles.2.2.2.2.2.flatMap (zrq zTab kX12_circles.1.cls), w ∈ lw_tbl := zplaces [1343, 1515, 1514, 176, 1513, 1758, 1757, 137, 176, 1755, 1391, 1391, 1390] (by decide +kernel)
theorem ok_X12_count : zokM zTab kX12_count := ⟨by decide +kernel, by decide +kernel, by decide +kernel⟩
theorem gw_X12_count : (kX12_count.2.2.2.2.2.flatMap (zrq zTab kX12_count.1.cls)).all goodWord = true := by decide +kernel
theorem wd_X12_count : ∀ w ∈ kX12_count.2.2.2.2.2.flatMap (zrq zTab kX12_count.1.cls), w ∈ lw_tbl := zplaces [1343, 1515, 1514, 176, 1513, 1348] (by decide +kernel)
theorem ok_X12_image : zokM zTab kX12_image := ⟨by decide +kernel, by decide +kernel, by decide +kernel⟩
theorem gw_X12_image : (kX12_image.2.2.2.2.2.flatMap (zrq zTab kX12_image.1.cls)).all goodWord = true := by decide +kernel
theorem wd_X12_image : ∀ w ∈ kX12_image.2.2.2.2.2.flatMap (zrq zTab kX12_image.1.cls), w ∈ lw_tbl := zplaces [1343, 1515, 1514, 176, 1513, 1991, 1990, 170, 176, 1988, 1394] (by decide +kernel)
theorem ok_X12_again : zokM zTab kX12_again := ⟨by decide +kernel, by decide +kernel, by decide +kernel⟩
theorem gw_X12_again : (kX12_again.2.2.2.2.2.flatMap (zrq zTab kX12_again.1.cls)).all goodWord = true := by decide +kernel
theorem wd_X12_again : ∀ w ∈ kX12_again.2.2.2.2.2.flatMap (zrq zTab kX12_again.1.cls), w ∈ lw_tbl := zplaces [1343, 1515, 1514, 176, 1513, 1394, 1991, 1990, 170, 176, 1988, 1364] (by decide +kernel)
theorem ok_X12_in : zokM zTab kX12_in := ⟨by decide +kernel, by decide +kernel, by decide +kernel⟩
theorem gw_X12_in : (kX12_in.2.2.2.2.2.flatMap (zrq zTab kX12_in.1.cls)).all goodWord = true := by decide +kernel
theorem wd_X12_in : ∀ w ∈ kX12_in.2.2.2.2.2.flatMap (zrq zTab kX12_in.1.cls), w ∈ lw_tbl := zplaces [] (by decide +kernel)
theorem ok_X12_has : zokM zTab kX12_has := ⟨by decide +kernel, by decide +kernel, by decide +kernel⟩
theorem gw_X12_has : (kX12_has.2.2.2.2.2.flatMap (zrq zTab kX12_has.1.cls)).all goodWord = true := by decide +kernel
theorem wd_X12_has : ∀ w ∈ kX12_has.2.2.2.2.2.flatMap (zrq zTab kX12_has.1.cls), w ∈ lw_tbl := zplaces [] (by decide +kernel)
theorem ok_X12_lesser : zokM zTab kX12_lesser := ⟨by decide +kernel, by decide +kernel, by decide +kernel⟩
theorem gw_X12_lesser : (kX12_lesser.2.2.2.2.2.flatMap (zrq zTab kX12_lesser.1.cls)).all goodWord = true := by decide +kernel
theorem wd_X12_lesser : ∀ w ∈ kX12_lesser.2.2.2.2.2.flatMap (zrq zTab kX12_lesser.1.cls), w ∈ lw_tbl := zplaces [] (by decide +kernel)
theorem ok_X12_copyRow : zokM zTab kX12_copyRow := ⟨by decide +kernel, by decide +kernel, by decide +kernel⟩
theorem gw_X12_copyRow : (kX12_copyRow.2.2.2.2.2.flatMap (zrq zTab kX12_copyRow.1.cls)).all goodWord = true := by decide +kernel
theorem wd_X12_copyRow : ∀ w ∈ kX12_copyRow.2.2.2.2.2.flatMap (zrq zTab kX12_copyRow.1.cls), w ∈ lw_tbl := zplaces [] (by decide +kernel)
theorem ok_X12_copyAll : zokM zTab kX12_copyAll := ⟨by decide +kernel, by decide +kernel, by decide +kernel⟩
theorem gw_X12_copyAll : (kX12_copyAll.2.2.2.2.2.flatMap (zrq zTab kX12_copyAll.1.cls)).all goodWord = true := by decide +kernel
theorem wd_X12_copyAll : ∀ w ∈ kX12_copyAll.2.2.2.2.2.flatMap (zrq zTab kX12_copyAll.1.cls), w ∈ lw_tbl := zplaces [1344, 1344, 1345, 1994, 1993, 176, 1992, 1346, 1994, 1993, 176, 1992, 1347, 1994, 1993, 176, 1992, 1348, 1994, 1993, 176, 1992, 1349, 1994, 1993, 176, 1992, 1350, 1994, 1993, 176, 1992, 1351, 1994, 1993, 176, 1992] (by decide +kernel)
theorem ok_X12_is : zokM zTab kX12_is := ⟨by decide +kernel, by decide +kernel, by decide +kernel⟩
theorem gw_X12_is : (kX12_is.2.2.2.2.2.flatMap (zrq zTab kX12_is.1.cls)).all goodWord = true := by decide +kernel
theorem wd_X12_is : ∀ w ∈ kX12_is.2.2.2.2.2.flatMap (zrq zTab kX12_is.1.cls), w ∈ lw_tbl := zplaces [1348, 1515, 1514, 176, 1513] (by decide +kernel)
theorem ok_X12_four : zokM zTab kX12_four := ⟨by decide +kernel, by decide +kernel, by decide +kernel⟩
theorem gw_X12_four : (kX12_four.2.2.2.2.2.flatMap (zrq zTab kX12_four.1.cls)).all goodWord = true := by decide +kernel
theorem wd_X12_four : ∀ w ∈ kX12_four.2.2.2.2.2.flatMap (zrq zTab kX12_four.1.cls), w ∈ lw_tbl := zplaces [1344, 1345, 1345] (by decide +kernel)
theorem ok_X12_see : zokM zTab kX12_see := ⟨by decide +kernel, by decide +kernel, by decide +kernel⟩
theorem gw_X12_see : (kX12_see.2.2.2.2.2.flatMap (zrq zTab kX12_see.1.cls)).all goodWord = true := by decide +kernel
theorem wd_X12_see : ∀ w ∈ kX12_see.2.2.2.2.2.flatMap (zrq zTab kX12_see.1.cls), w ∈ lw_tbl := zplaces [1352, 1353, 1344, 1352] (by decide +kernel)
theorem ok_X12_token : zokM zTab kX12_token := ⟨by decide +kernel, by decide +kernel, by decide +kernel⟩
theorem gw_X12_token : (kX12_token.2.2.2.2.2.flatMap (zrq zTab kX12_token.1.cls)).all goodWord = true := by decide +kernel
theorem wd_X12_token : ∀ w ∈ kX12_token.2.2.2.2.2.flatMap (zrq zTab kX12_token.1.cls), w ∈ lw_tbl := zplaces [1535, 1534, 100, 176, 1532, 1535, 1534, 100, 176, 1532, 1352, 1352, 1352, 1354, 1535, 1534, 100, 176, 1532, 1357, 1355, 1515, 1514, 176, 1513, 1535, 1534, 100, 176, 1532, 1515, 1514, 176, 1513, 1357, 1535, 1534, 100, 176, 1532, 1357, 1352, 1352, 1357, 1357, 1355, 1515, 1514, 176, 1513, 1356, 1535, 1534, 100, 176, 1532, 1515, 1514, 176, 1513, 1356, 1535, 1534, 100, 176, 1532, 1356, 1356, 1352, 1352, 1355, 1352, 1352, 1355] (by decide +kernel)
theorem ok_X12_lines : zokM zTab kX12_lines := ⟨by decide +kernel, by decide +kernel, by decide +kernel⟩
theorem gw_X12_lines : (kX12_lines.2.2.2.2.2.flatMap (zrq zTab kX12_lines.1.cls)).all goodWord = true := by decide +kernel
theorem wd_X12_lines : ∀ w ∈ kX12_lines.2.2.2.2.2.flatMap (zrq zTab kX12_lines.1.cls), w ∈ lw_tbl := zplaces [1355, 1355, 1357, 1354, 1355, 1531, 1530, 99, 176, 1528] (by decide +kernel)
