theorem ok_X12_readText : zokM zTab kX12_readText := ⟨by decide +kernel, by decide +kernel, by decide +kernel⟩
theorem gw_X12_readText : (kX12_readText.2.2.2.2.2.flatMap (zrq zTab kX12_readText.1.cls)).all goodWord = true := by decide +kernel
theorem wd_X12_readText : ∀ w ∈ kX12_readText.2.2.2.2.2.flatMap (zrq zTab kX12_readText.1.cls), w ∈ lw_tbl := zplaces [1361, 1515, 1514, 176, 1513, 1352, 1359, 1531, 1530, 99, 176, 1528, 1539, 1538, 101, 176, 1536, 1346, 1359, 1347, 1358, 1359, 1360, 1346] (by decide +kernel)
theorem ok_X12_store : zokM zTab kX12_store := ⟨by decide +kernel, by decide +kernel, by decide +kernel⟩
theorem gw_X12_store : (kX12_store.2.2.2.2.2.flatMap (zrq zTab kX12_store.1.cls)).all goodWord = true := by decide +kernel
theorem wd_X12_store : ∀ w ∈ kX12_store.2.2.2.2.2.flatMap (zrq zTab kX12_store.1.cls), w ∈ lw_tbl := zplaces [1361] (by decide +kernel)
theorem ok_X12_hand : zokM zTab kX12_hand := ⟨by decide +kernel, by decide +kernel, by decide +kernel⟩
theorem gw_X12_hand : (kX12_hand.2.2.2.2.2.flatMap (zrq zTab kX12_hand.1.cls)).all goodWord = true := by decide +kernel
theorem wd_X12_hand : ∀ w ∈ kX12_hand.2.2.2.2.2.flatMap (zrq zTab kX12_hand.1.cls), w ∈ lw_tbl := zplaces [1523, 1522, 97, 176, 1520, 1363, 1365, 1366] (by decide +kernel)
theorem ok_X12_isText : zokM zTab kX12_isText := ⟨by decide +kernel, by decide +kernel, by decide +kernel⟩
theorem gw_X12_isText : (kX12_isText.2.2.2.2.2.flatMap (zrq zTab kX12_isText.1.cls)).all goodWord = true := by decide +kernel
theorem wd_X12_isText : ∀ w ∈ kX12_isText.2.2.2.2.2.flatMap (zrq zTab kX12_isText.1.cls), w ∈ lw_tbl := zplaces [1515, 1514, 176, 1513] (by decide +kernel)
theorem ok_X12_sizeOf : zokM zTab kX12_sizeOf := ⟨by decide +kernel, by decide +kernel, by decide +kernel⟩
theorem gw_X12_sizeOf : (kX12_sizeOf.2.2.2.2.2.flatMap (zrq zTab kX12_sizeOf.1.cls)).all goodWord = true := by decide +kernel
theorem wd_X12_sizeOf : ∀ w ∈ kX12_sizeOf.2.2.2.2.2.flatMap (zrq zTab kX12_sizeOf.1.cls), w ∈ lw_tbl := zplaces [1592, 1591, 176, 1590] (by decide +kernel)
theorem ok_X12_spell : zokM zTab kX12_spell := ⟨by decide +kernel, by decide +kernel, by decide +kernel⟩
theorem gw_X12_spell : (kX12_spell.2.2.2.2.2.flatMap (zrq zTab kX12_spell.1.cls)).all goodWord = true := by decide +kernel
theorem wd_X12_spell : ∀ w ∈ kX12_spell.2.2.2.2.2.flatMap (zrq zTab kX12_spell.1.cls), w ∈ lw_tbl := zplaces [1644, 1643, 176, 1642, 1592, 1591, 176, 1590] (by decide +kernel)
theorem ok_X12_numberOf : zokM zTab kX12_numberOf := ⟨by decide +kernel, by decide +kernel, by decide +kernel⟩
theorem gw_X12_numberOf : (kX12_numberOf.2.2.2.2.2.flatMap (zrq zTab kX12_numberOf.1.cls)).all goodWord = true := by decide +kernel
theorem wd_X12_numberOf : ∀ w ∈ kX12_numberOf.2.2.2.2.2.flatMap (zrq zTab kX12_numberOf.1.cls), w ∈ lw_tbl := zplaces [1367, 1592, 1591, 176, 1590] (by decide +kernel)
theorem ok_X12_shorter : zokM zTab kX12_shorter := ⟨by decide +kernel, by decide +kernel, by decide +kernel⟩
theorem gw_X12_shorter : (kX12_shorter.2.2.2.2.2.flatMap (zrq zTab kX12_shorter.1.cls)).all goodWord = true := by decide +kernel
theorem wd_X12_shorter : ∀ w ∈ kX12_shorter.2.2.2.2.2.flatMap (zrq zTab kX12_shorter.1.cls), w ∈ lw_tbl := zplaces [] (by decide +kernel)
theorem ok_X12_apart : zokM zTab kX12_apart := ⟨by decide +kernel, by decide +kernel, by decide +kernel⟩
theorem gw_X12_apart : (kX12_apart.2.2.2.2.2.flatMap (zrq zTab kX12_apart.1.cls)).all goodWord = true := by decide +kernel
theorem wd_X12_apart : ∀ w ∈ kX12_apart.2.2.2.2.2.flatMap (zrq zTab kX12_apart.1.cls), w ∈ lw_tbl := zplaces [1644, 1643, 176, 1642, 1644, 1643, 176, 1642, 1367, 1647, 1646, 176, 1645, 1368, 1647, 1646, 176, 1645, 1370, 1367, 1368, 1370, 1370, 1585, 1584, 176, 1583, 1585, 1584, 176, 1583, 1370, 1370] (by decide +kernel)
theorem ok_X12_layAll : zokM zTab kX12_layAll := ⟨by decide +kernel, by decide +kernel, by decide +kernel⟩
theorem gw_X12_layAll : (kX12_layAll.2.2.2.2.2.flatMap (zrq zTab kX12_layAll.1.cls)).all goodWord = true := by decide +kernel
theorem wd_X12_layAll : ∀ w ∈ kX12_layAll.2.2.2.2.2.flatMap (zrq zTab kX12_layAll.1.cls), w ∈ lw_tbl := zplaces [1699, 1698, 126, 176, 1696, 1630, 1629, 115, 176, 1627] (by decide +kernel)
theorem ok_X12_hasYear : zokM zTab kX12_hasYear := ⟨by decide +kernel, by decide +kernel, by decide +kernel⟩
theorem gw_X12_hasYear : (kX12_hasYear.2.2.2.2.2.flatMap (zrq zTab kX12_hasYear.1.cls)).all goodWord = true := by decide +kernel
theorem wd_X12_hasYear : ∀ w ∈ kX12_hasYear.2.2.2.2.2.flatMap (zrq zTab kX12_hasYear.1.cls), w ∈ lw_tbl := zplaces [1371, 1523, 1522, 97, 176, 1520] (by decide +kernel)
theorem ok_X12_hasSight : zokM zTab kX12_hasSight := ⟨by decide +kernel, by decide +kernel, by decide +kernel⟩
theorem gw_X12_hasSight : (kX12_hasSight.2.2.2.2.2.flatMap (zrq zTab kX12_hasSight.1.cls)).all goodWord = true := by decide +kernel
theorem wd_X12_hasSight : ∀ w ∈ kX12_hasSight.2.2.2.2.2.flatMap (zrq zTab kX12_hasSight.1.cls), w ∈ lw_tbl := zplaces [1384, 1523, 1522, 97, 176, 1520] (by decide +kernel)
theorem ok_X12_handAll : zokM zTab kX12_handAll := ⟨by decide +kernel, by decide +kernel, by decide +kernel⟩
theorem gw_X12_handAll : (kX12_handAll.2.2.2.2.2.flatMap (zrq zTab kX12_handAll.1.cls)).all goodWord = true := by decide +kernel
theorem wd_X12_handAll : ∀ w ∈ kX12_handAll.2.2.2.2.2.flatMap (zrq zTab kX12_handAll.1.cls), w ∈ lw_tbl := zplaces [1630, 1629, 115, 176, 1627] (by decide +kernel)
theorem ok_X12_someOf : zokM zTab kX12_someOf := ⟨by decide +kernel, by decide +kernel, by decide +kernel⟩
theorem gw_X12_someOf : (kX12_someOf.2.2.2.2.2.flatMap (zrq zTab kX12_someOf.1.cls)).all goodWord = true := by decide +kernel
theorem wd_X12_someOf : ∀ w ∈ kX12_someOf.2.2.2.2.2.flatMap (zrq zTab kX12_someOf.1.cls), w ∈ lw_tbl := zplaces [1367, 1647, 1646, 176, 1645, 1644, 1643, 176, 1642, 1734, 1733, 176, 1732, 1367, 1367, 1691, 1690, 125, 176, 1688] (by decide +kernel)
theorem ok_X12_isLeft : zokM zTab kX12_isLeft := ⟨by decide +kernel, by decide +kernel, by decide +kernel⟩
theorem gw_X12_isLeft : (kX12_isLeft.2.2.2.2.2.flatMap (zrq zTab kX12_isLeft.1.cls)).all goodWord = true := by decide +kernel
theorem wd_X12_isLeft : ∀ w ∈ kX12_isLeft.2.2.2.2.2.flatMap (zrq zTab kX12_isLeft.1.cls), w ∈ lw_tbl := zplaces [1644, 1643, 176, 1642, 1935, 1934, 164, 176, 1932] (by decide +kernel)
