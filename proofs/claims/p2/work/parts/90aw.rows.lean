theorem ok_X12_book : zokM zTab kX12_book := ⟨by decide +kernel, by decide +kernel, by decide +kernel⟩
theorem gw_X12_book : (kX12_book.2.2.2.2.2.flatMap (zrq zTab kX12_book.1.cls)).all goodWord = true := by decide +kernel
theorem wd_X12_book : ∀ w ∈ kX12_book.2.2.2.2.2.flatMap (zrq zTab kX12_book.1.cls), w ∈ lw_tbl := zplaces [1343, 1630, 1629, 115, 176, 1627, 1515, 1514, 176, 1513, 1634, 1633, 116, 176, 1631, 1366, 1515, 1514, 176, 1513, 1634, 1633, 116, 176, 1631, 1366, 1515, 1514, 176, 1513, 1634, 1633, 116, 176, 1631, 1634, 1633, 116, 176, 1631, 1365, 1366] (by decide +kernel)
theorem ok_X12_word : zokM zTab kX12_word := ⟨by decide +kernel, by decide +kernel, by decide +kernel⟩
theorem gw_X12_word : (kX12_word.2.2.2.2.2.flatMap (zrq zTab kX12_word.1.cls)).all goodWord = true := by decide +kernel
theorem wd_X12_word : ∀ w ∈ kX12_word.2.2.2.2.2.flatMap (zrq zTab kX12_word.1.cls), w ∈ lw_tbl := zplaces [1343, 1641, 1640, 176, 1639, 1644, 1643, 176, 1642, 1515, 1514, 176, 1513, 1367, 1647, 1646, 176, 1645, 1644, 1643, 176, 1642, 1367] (by decide +kernel)
theorem ok_X12_drift : zokM zTab kX12_drift := ⟨by decide +kernel, by decide +kernel, by decide +kernel⟩
theorem gw_X12_drift : (kX12_drift.2.2.2.2.2.flatMap (zrq zTab kX12_drift.1.cls)).all goodWord = true := by decide +kernel
theorem wd_X12_drift : ∀ w ∈ kX12_drift.2.2.2.2.2.flatMap (zrq zTab kX12_drift.1.cls), w ∈ lw_tbl := zplaces [1343, 1641, 1640, 176, 1639, 1641, 1640, 176, 1639, 1655, 1654, 117, 176, 1652] (by decide +kernel)
theorem ok_X12_read : zokM zTab kX12_read := ⟨by decide +kernel, by decide +kernel, by decide +kernel⟩
theorem gw_X12_read : (kX12_read.2.2.2.2.2.flatMap (zrq zTab kX12_read.1.cls)).all goodWord = true := by decide +kernel
theorem wd_X12_read : ∀ w ∈ kX12_read.2.2.2.2.2.flatMap (zrq zTab kX12_read.1.cls), w ∈ lw_tbl := zplaces [1343, 1630, 1629, 115, 176, 1627, 1641, 1640, 176, 1639, 1663, 1662, 118, 176, 1660, 1667, 1666, 119, 176, 1664] (by decide +kernel)
theorem ok_X12_deeds : zokM zTab kX12_deeds := ⟨by decide +kernel, by decide +kernel, by decide +kernel⟩
theorem gw_X12_deeds : (kX12_deeds.2.2.2.2.2.flatMap (zrq zTab kX12_deeds.1.cls)).all goodWord = true := by decide +kernel
theorem wd_X12_deeds : ∀ w ∈ kX12_deeds.2.2.2.2.2.flatMap (zrq zTab kX12_deeds.1.cls), w ∈ lw_tbl := zplaces [1350, 1371] (by decide +kernel)
theorem ok_X12_deedOf : zokM zTab kX12_deedOf := ⟨by decide +kernel, by decide +kernel, by decide +kernel⟩
theorem gw_X12_deedOf : (kX12_deedOf.2.2.2.2.2.flatMap (zrq zTab kX12_deedOf.1.cls)).all goodWord = true := by decide +kernel
theorem wd_X12_deedOf : ∀ w ∈ kX12_deedOf.2.2.2.2.2.flatMap (zrq zTab kX12_deedOf.1.cls), w ∈ lw_tbl := zplaces [1350, 1371] (by decide +kernel)
theorem ok_X12_hasYear : zokM zTab kX12_hasYear := ⟨by decide +kernel, by decide +kernel, by decide +kernel⟩
theorem gw_X12_hasYear : (kX12_hasYear.2.2.2.2.2.flatMap (zrq zTab kX12_hasYear.1.cls)).all goodWord = true := by decide +kernel
theorem wd_X12_hasYear : ∀ w ∈ kX12_hasYear.2.2.2.2.2.flatMap (zrq zTab kX12_hasYear.1.cls), w ∈ lw_tbl := zplaces [1371, 1523, 1522, 97, 176, 1520] (by decide +kernel)
theorem ok_X12_deed : zokM zTab kX12_deed := ⟨by decide +kernel, by decide +kernel, by decide +kernel⟩
theorem gw_X12_deed : (kX12_deed.2.2.2.2.2.flatMap (zrq zTab kX12_deed.1.cls)).all goodWord = true := by decide +kernel
theorem wd_X12_deed : ∀ w ∈ kX12_deed.2.2.2.2.2.flatMap (zrq zTab kX12_deed.1.cls), w ∈ lw_tbl := zplaces [1343, 1699, 1698, 126, 176, 1696, 1703, 1702, 127, 176, 1700, 1703, 1702, 127, 176, 1700, 1515, 1514, 176, 1513, 1515, 1514, 176, 1513, 1707, 1706, 128, 176, 1704] (by decide +kernel)
theorem ok_X12_begin : zokM zTab kX12_begin := ⟨by decide +kernel, by decide +kernel, by decide +kernel⟩
theorem gw_X12_begin : (kX12_begin.2.2.2.2.2.flatMap (zrq zTab kX12_begin.1.cls)).all goodWord = true := by decide +kernel
theorem wd_X12_begin : ∀ w ∈ kX12_begin.2.2.2.2.2.flatMap (zrq zTab kX12_begin.1.cls), w ∈ lw_tbl := zplaces [1372, 1365, 1373, 1374, 1375, 1376] (by decide +kernel)
theorem ok_X12_reads : zokM zTab kX12_reads := ⟨by decide +kernel, by decide +kernel, by decide +kernel⟩
theorem gw_X12_reads : (kX12_reads.2.2.2.2.2.flatMap (zrq zTab kX12_reads.1.cls)).all goodWord = true := by decide +kernel
theorem wd_X12_reads : ∀ w ∈ kX12_reads.2.2.2.2.2.flatMap (zrq zTab kX12_reads.1.cls), w ∈ lw_tbl := zplaces [1663, 1662, 118, 176, 1660, 1372, 1376, 1734, 1733, 176, 1732, 1372, 1372, 1667, 1666, 119, 176, 1664, 1376, 1376, 1373] (by decide +kernel)
theorem ok_X12_hushes : zokM zTab kX12_hushes := ⟨by decide +kernel, by decide +kernel, by decide +kernel⟩
theorem gw_X12_hushes : (kX12_hushes.2.2.2.2.2.flatMap (zrq zTab kX12_hushes.1.cls)).all goodWord = true := by decide +kernel
theorem wd_X12_hushes : ∀ w ∈ kX12_hushes.2.2.2.2.2.flatMap (zrq zTab kX12_hushes.1.cls), w ∈ lw_tbl := zplaces [1376, 1734, 1733, 176, 1732, 1376, 1376] (by decide +kernel)
theorem ok_X12_goesOn : zokM zTab kX12_goesOn := ⟨by decide +kernel, by decide +kernel, by decide +kernel⟩
theorem gw_X12_goesOn : (kX12_goesOn.2.2.2.2.2.flatMap (zrq zTab kX12_goesOn.1.cls)).all goodWord = true := by decide +kernel
theorem wd_X12_goesOn : ∀ w ∈ kX12_goesOn.2.2.2.2.2.flatMap (zrq zTab kX12_goesOn.1.cls), w ∈ lw_tbl := zplaces [1374, 1374, 1374] (by decide +kernel)
theorem ok_X12_does : zokM zTab kX12_does := ⟨by decide +kernel, by decide +kernel, by decide +kernel⟩
theorem gw_X12_does : (kX12_does.2.2.2.2.2.flatMap (zrq zTab kX12_does.1.cls)).all goodWord = true := by decide +kernel
theorem wd_X12_does : ∀ w ∈ kX12_does.2.2.2.2.2.flatMap (zrq zTab kX12_does.1.cls), w ∈ lw_tbl := zplaces [1707, 1706, 128, 176, 1704, 1707, 1706, 128, 176, 1704, 1707, 1706, 128, 176, 1704, 1731, 1730, 133, 176, 1728, 1372, 1707, 1706, 128, 176, 1704, 1372, 1375, 1372, 1375, 1372, 1365, 1375, 1738, 1737, 134, 176, 1735, 1742, 1741, 135, 176, 1739] (by decide +kernel)
theorem ok_X12_play : zokM zTab kX12_play := ⟨by decide +kernel, by decide +kernel, by decide +kernel⟩
theorem gw_X12_play : (kX12_play.2.2.2.2.2.flatMap (zrq zTab kX12_play.1.cls)).all goodWord = true := by decide +kernel
theorem wd_X12_play : ∀ w ∈ kX12_play.2.2.2.2.2.flatMap (zrq zTab kX12_play.1.cls), w ∈ lw_tbl := zplaces [1723, 1722, 131, 176, 1720, 1727, 1726, 132, 176, 1724] (by decide +kernel)
theorem ok_X12_layAll : zokM zTab kX12_layAll := ⟨by decide +kernel, by decide +kernel, by decide +kernel⟩
theorem gw_X12_layAll : (kX12_layAll.2.2.2.2.2.flatMap (zrq zTab kX12_layAll.1.cls)).all goodWord = true := by decide +kernel
theorem wd_X12_layAll : ∀ w ∈ kX12_layAll.2.2.2.2.2.flatMap (zrq zTab kX12_layAll.1.cls), w ∈ lw_tbl := zplaces [1699, 1698, 126, 176, 1696, 1630, 1629, 115, 176, 1627] (by decide +kernel)
theorem ok_X12_stop : zokM zTab kX12_stop := ⟨by decide +kernel, by decide +kernel, by decide +kernel⟩
theorem gw_X12_stop : (kX12_stop.2.2.2.2.2.flatMap (zrq zTab kX12_stop.1.cls)).all goodWord = true := by decide +kernel
theorem wd_X12_stop : ∀ w ∈ kX12_stop.2.2.2.2.2.flatMap (zrq zTab kX12_stop.1.cls), w ∈ lw_tbl := zplaces [1343, 1715, 1714, 129, 176, 1712, 1703, 1702, 127, 176, 1700, 1719, 1718, 130, 176, 1716] (by decide +kernel)
theorem ok_X12_ofState : zokM zTab kX12_ofState := ⟨by decide +kernel, by decide +kernel, by decide +kernel⟩
theorem gw_X12_ofState : (kX12_ofState.2.2.2.2.2.flatMap (zrq zTab kX12_ofState.1.cls)).all goodWord = true := by decide +kernel
theorem wd_X12_ofState : ∀ w ∈ kX12_ofState.2.2.2.2.2.flatMap (zrq zTab kX12_ofState.1.cls), w ∈ lw_tbl := zplaces [1515, 1514, 176, 1513, 1372, 1366, 1515, 1514, 176, 1513, 1373, 1372, 1372, 1375, 1372, 1365, 1655, 1654, 117, 176, 1652, 1372, 1365, 1655, 1654, 117, 176, 1652, 1374, 1375, 1372, 1365, 1655, 1654, 117, 176, 1652, 1376] (by decide +kernel)
