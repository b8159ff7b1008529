theorem ok_X12_in : zokM zTab kX12_in := ⟨by decide +kernel, by decide +kernel, by decide +kernel⟩
theorem gw_X12_in : (kX12_in.2.2.2.2.2.flatMap (zrq zTab kX12_in.1.cls)).all goodWord = true := by decide +kernel
theorem wd_X12_in : ∀ w ∈ kX12_in.2.2.2.2.2.flatMap (zrq zTab kX12_in.1.cls), w ∈ lw_tbl := zplaces [] (by decide +kernel)
theorem ok_X12_has : zokM zTab kX12_has := ⟨by decide +kernel, by decide +kernel, by decide +kernel⟩
theorem gw_X12_has : (kX12_has.2.2.2.2.2.flatMap (zrq zTab kX12_has.1.cls)).all goodWord = true := by decide +kernel
theorem wd_X12_has : ∀ w ∈ kX12_has.2.2.2.2.2.flatMap (zrq zTab kX12_has.1.cls), w ∈ lw_tbl := zplaces [] (by decide +kernel)
theorem ok_X12_greater : zokM zTab kX12_greater := ⟨by decide +kernel, by decide +kernel, by decide +kernel⟩
theorem gw_X12_greater : (kX12_greater.2.2.2.2.2.flatMap (zrq zTab kX12_greater.1.cls)).all goodWord = true := by decide +kernel
theorem wd_X12_greater : ∀ w ∈ kX12_greater.2.2.2.2.2.flatMap (zrq zTab kX12_greater.1.cls), w ∈ lw_tbl := zplaces [] (by decide +kernel)
theorem ok_X12_lesser : zokM zTab kX12_lesser := ⟨by decide +kernel, by decide +kernel, by decide +kernel⟩
theorem gw_X12_lesser : (kX12_lesser.2.2.2.2.2.flatMap (zrq zTab kX12_lesser.1.cls)).all goodWord = true := by decide +kernel
theorem wd_X12_lesser : ∀ w ∈ kX12_lesser.2.2.2.2.2.flatMap (zrq zTab kX12_lesser.1.cls), w ∈ lw_tbl := zplaces [] (by decide +kernel)
theorem ok_X12_copyRow : zokM zTab kX12_copyRow := ⟨by decide +kernel, by decide +kernel, by decide +kernel⟩
theorem gw_X12_copyRow : (kX12_copyRow.2.2.2.2.2.flatMap (zrq zTab kX12_copyRow.1.cls)).all goodWord = true := by decide +kernel
theorem wd_X12_copyRow : ∀ w ∈ kX12_copyRow.2.2.2.2.2.flatMap (zrq zTab kX12_copyRow.1.cls), w ∈ lw_tbl := zplaces [] (by decide +kernel)
theorem ok_X12_copyAll : zokM zTab kX12_copyAll := ⟨by decide +kernel, by decide +kernel, by decide +kernel⟩
theorem gw_X12_copyAll : (kX12_copyAll.2.2.2.2.2.flatMap (zrq zTab kX12_copyAll.1.cls)).all goodWord = true := by decide +kernel
theorem wd_X12_copyAll : ∀ w ∈ kX12_copyAll.2.2.2.2.2.flatMap (zrq zTab kX12_copyAll.1.cls), w ∈ lw_tbl := zplaces [1344, 1344, 1345, 1994, 1993, 176, 1992, 1346, 1994, 1993, 176, 1992, 1347, 1994, 1993, 176, 1992, 1348, 1994, 1993, 176, 1992, 1349, 1994, 1993, 176, 1992, 1350, 1994, 1993, 176, 1992, 1351, 1994, 1993, 176, 1992] (by decide +kernel)
theorem ok_X12_is : zokM zTab kX12_is := ⟨by decide +kernel, by decide +kernel, by decide +kernel⟩
theorem gw_X12_is : (kX12_is.2.2.2.2.2.flatMap (zrq zTab kX12_is.1.cls)).all goodWord = true := by decide +kernel
theorem wd_X12_is : ∀ w ∈ kX12_is.2.2.2.2.2.flatMap (zrq zTab kX12_is.1.cls), w ∈ lw_tbl := zplaces [1348, 1515, 1514, 176, 1513] (by decide +kernel)
theorem ok_X12_feed : zokM zTab kX12_feed := ⟨by decide +kernel, by decide +kernel, by decide +kernel⟩
theorem gw_X12_feed : (kX12_feed.2.2.2.2.2.flatMap (zrq zTab kX12_feed.1.cls)).all goodWord = true := by decide +kernel
theorem wd_X12_feed : ∀ w ∈ kX12_feed.2.2.2.2.2.flatMap (zrq zTab kX12_feed.1.cls), w ∈ lw_tbl := zplaces [1343, 1345, 1508, 1507, 96, 176, 1505, 1508, 1507, 96, 176, 1505, 1508, 1507, 96, 176, 1505, 1508, 1507, 96, 176, 1505, 1508, 1507, 96, 176, 1505, 1345] (by decide +kernel)
theorem ok_X12_four : zokM zTab kX12_four := ⟨by decide +kernel, by decide +kernel, by decide +kernel⟩
theorem gw_X12_four : (kX12_four.2.2.2.2.2.flatMap (zrq zTab kX12_four.1.cls)).all goodWord = true := by decide +kernel
theorem wd_X12_four : ∀ w ∈ kX12_four.2.2.2.2.2.flatMap (zrq zTab kX12_four.1.cls), w ∈ lw_tbl := zplaces [1344, 1345, 1345] (by decide +kernel)
theorem ok_X12_end : zokM zTab kX12_end := ⟨by decide +kernel, by decide +kernel, by decide +kernel⟩
theorem gw_X12_end : (kX12_end.2.2.2.2.2.flatMap (zrq zTab kX12_end.1.cls)).all goodWord = true := by decide +kernel
theorem wd_X12_end : ∀ w ∈ kX12_end.2.2.2.2.2.flatMap (zrq zTab kX12_end.1.cls), w ∈ lw_tbl := zplaces [1343, 1345, 1515, 1514, 176, 1513, 1345] (by decide +kernel)
theorem ok_X12_see : zokM zTab kX12_see := ⟨by decide +kernel, by decide +kernel, by decide +kernel⟩
theorem gw_X12_see : (kX12_see.2.2.2.2.2.flatMap (zrq zTab kX12_see.1.cls)).all goodWord = true := by decide +kernel
theorem wd_X12_see : ∀ w ∈ kX12_see.2.2.2.2.2.flatMap (zrq zTab kX12_see.1.cls), w ∈ lw_tbl := zplaces [1352, 1353, 1344, 1352] (by decide +kernel)
theorem ok_X12_token : zokM zTab kX12_token := ⟨by decide +kernel, by decide +kernel, by decide +kernel⟩
theorem gw_X12_token : (kX12_token.2.2.2.2.2.flatMap (zrq zTab kX12_token.1.cls)).all goodWord = true := by decide +kernel
theorem wd_X12_token : ∀ w ∈ kX12_token.2.2.2.2.2.flatMap (zrq zTab kX12_token.1.cls), w ∈ lw_tbl := zplaces [1535, 1534, 100, 176, 1532, 1535, 1534, 100, 176, 1532, 1352, 1352, 1352, 1354, 1535, 1534, 100, 176, 1532, 1357, 1355, 1515, 1514, 176, 1513, 1535, 1534, 100, 176, 1532, 1515, 1514, 176, 1513, 1357, 1535, 1534, 100, 176, 1532, 1357, 1352, 1352, 1357, 1357, 1355, 1515, 1514, 176, 1513, 1356, 1535, 1534, 100, 176, 1532, 1515, 1514, 176, 1513, 1356, 1535, 1534, 100, 176, 1532, 1356, 1356, 1352, 1352, 1355, 1352, 1352, 1355] (by decide +kernel)
theorem ok_X12_fails : zokM zTab kX12_fails := ⟨by decide +kernel, by decide +kernel, by decide +kernel⟩
theorem gw_X12_fails : (kX12_fails.2.2.2.2.2.flatMap (zrq zTab kX12_fails.1.cls)).all goodWord = true := by decide +kernel
theorem wd_X12_fails : ∀ w ∈ kX12_fails.2.2.2.2.2.flatMap (zrq zTab kX12_fails.1.cls), w ∈ lw_tbl := zplaces [1354, 1358] (by decide +kernel)
theorem ok_X12_later : zokM zTab kX12_later := ⟨by decide +kernel, by decide +kernel, by decide +kernel⟩
theorem gw_X12_later : (kX12_later.2.2.2.2.2.flatMap (zrq zTab kX12_later.1.cls)).all goodWord = true := by decide +kernel
theorem wd_X12_later : ∀ w ∈ kX12_later.2.2.2.2.2.flatMap (zrq zTab kX12_later.1.cls), w ∈ lw_tbl := zplaces [1359, 1360, 1360, 1359, 1359, 1360] (by decide +kernel)
theorem ok_X12_takeBut : zokM zTab kX12_takeBut := ⟨by decide +kernel, by decide +kernel, by decide +kernel⟩
theorem gw_X12_takeBut : (kX12_takeBut.2.2.2.2.2.flatMap (zrq zTab kX12_takeBut.1.cls)).all goodWord = true := by decide +kernel
theorem wd_X12_takeBut : ∀ w ∈ kX12_takeBut.2.2.2.2.2.flatMap (zrq zTab kX12_takeBut.1.cls), w ∈ lw_tbl := zplaces [1355, 1575, 1574, 108, 176, 1572, 1362, 1356, 1356, 1515, 1514, 176, 1513, 1356, 1354, 1563, 1562, 105, 176, 1560, 1531, 1530, 99, 176, 1528] (by decide +kernel)
theorem ok_X12_take : zokM zTab kX12_take := ⟨by decide +kernel, by decide +kernel, by decide +kernel⟩
theorem gw_X12_take : (kX12_take.2.2.2.2.2.flatMap (zrq zTab kX12_take.1.cls)).all goodWord = true := by decide +kernel
theorem wd_X12_take : ∀ w ∈ kX12_take.2.2.2.2.2.flatMap (zrq zTab kX12_take.1.cls), w ∈ lw_tbl := zplaces [1571, 1570, 107, 176, 1568] (by decide +kernel)
theorem ok_X12_full : zokM zTab kX12_full := ⟨by decide +kernel, by decide +kernel, by decide +kernel⟩
theorem gw_X12_full : (kX12_full.2.2.2.2.2.flatMap (zrq zTab kX12_full.1.cls)).all goodWord = true := by decide +kernel
theorem wd_X12_full : ∀ w ∈ kX12_full.2.2.2.2.2.flatMap (zrq zTab kX12_full.1.cls), w ∈ lw_tbl := zplaces [1361, 1563, 1562, 105, 176, 1560] (by decide +kernel)
theorem ok_X12_shorter : zokM zTab kX12_shorter := ⟨by decide +kernel, by decide +kernel, by decide +kernel⟩
theorem gw_X12_shorter : (kX12_shorter.2.2.2.2.2.flatMap (zrq zTab kX12_shorter.1.cls)).all goodWord = true := by decide +kernel
theorem wd_X12_shorter : ∀ w ∈ kX12_shorter.2.2.2.2.2.flatMap (zrq zTab kX12_shorter.1.cls), w ∈ lw_tbl := zplaces [] (by decide +kernel)
theorem ok_X12_takeText : zokM zTab kX12_takeText := ⟨by decide +kernel, by decide +kernel, by decide +kernel⟩
theorem gw_X12_takeText : (kX12_takeText.2.2.2.2.2.flatMap (zrq zTab kX12_takeText.1.cls)).all goodWord = true := by decide +kernel
theorem wd_X12_takeText : ∀ w ∈ kX12_takeText.2.2.2.2.2.flatMap (zrq zTab kX12_takeText.1.cls), w ∈ lw_tbl := zplaces [1355, 1354, 1563, 1562, 105, 176, 1560, 1567, 1566, 106, 176, 1564, 1362, 1362, 1592, 1591, 176, 1590] (by decide +kernel)
