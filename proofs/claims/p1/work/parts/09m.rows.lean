theorem ok_X12_feed : zokM zTab kX12_feed := ⟨by decide +kernel, by decide +kernel, by decide +kernel⟩
theorem gw_X12_feed : (kX12_feed.2.2.2.2.2.flatMap (zrq zTab kX12_feed.1.cls)).all goodWord = true := by decide +kernel
theorem wd_X12_feed : ∀ w ∈ kX12_feed.2.2.2.2.2.flatMap (zrq zTab kX12_feed.1.cls), w ∈ lw_tbl := zplaces [1343, 1345, 1508, 1507, 96, 176, 1505, 1508, 1507, 96, 176, 1505, 1508, 1507, 96, 176, 1505, 1508, 1507, 96, 176, 1505, 1508, 1507, 96, 176, 1505, 1345] (by decide +kernel)
theorem ok_X12_end : zokM zTab kX12_end := ⟨by decide +kernel, by decide +kernel, by decide +kernel⟩
theorem gw_X12_end : (kX12_end.2.2.2.2.2.flatMap (zrq zTab kX12_end.1.cls)).all goodWord = true := by decide +kernel
theorem wd_X12_end : ∀ w ∈ kX12_end.2.2.2.2.2.flatMap (zrq zTab kX12_end.1.cls), w ∈ lw_tbl := zplaces [1343, 1345, 1515, 1514, 176, 1513, 1345] (by decide +kernel)
theorem ok_X12_text : zokM zTab kX12_text := ⟨by decide +kernel, by decide +kernel, by decide +kernel⟩
theorem gw_X12_text : (kX12_text.2.2.2.2.2.flatMap (zrq zTab kX12_text.1.cls)).all goodWord = true := by decide +kernel
theorem wd_X12_text : ∀ w ∈ kX12_text.2.2.2.2.2.flatMap (zrq zTab kX12_text.1.cls), w ∈ lw_tbl := zplaces [1343, 1345, 1353, 1345, 1346, 1347, 1515, 1514, 176, 1513, 1348, 1523, 1522, 97, 176, 1520, 1527, 1526, 98, 176, 1524, 1348, 1348, 1349, 1618, 1617, 114, 176, 1615, 1364, 1350, 1618, 1617, 114, 176, 1615, 1351, 1618, 1617, 114, 176, 1615] (by decide +kernel)
theorem ok_X12_fault : zokM zTab kX12_fault := ⟨by decide +kernel, by decide +kernel, by decide +kernel⟩
theorem gw_X12_fault : (kX12_fault.2.2.2.2.2.flatMap (zrq zTab kX12_fault.1.cls)).all goodWord = true := by decide +kernel
theorem wd_X12_fault : ∀ w ∈ kX12_fault.2.2.2.2.2.flatMap (zrq zTab kX12_fault.1.cls), w ∈ lw_tbl := zplaces [1343, 1346, 1347] (by decide +kernel)
theorem ok_X12_book : zokM zTab kX12_book := ⟨by decide +kernel, by decide +kernel, by decide +kernel⟩
theorem gw_X12_book : (kX12_book.2.2.2.2.2.flatMap (zrq zTab kX12_book.1.cls)).all goodWord = true := by decide +kernel
theorem wd_X12_book : ∀ w ∈ kX12_book.2.2.2.2.2.flatMap (zrq zTab kX12_book.1.cls), w ∈ lw_tbl := zplaces [1343, 1630, 1629, 115, 176, 1627, 1515, 1514, 176, 1513, 1366, 1515, 1514, 176, 1513, 1366, 1515, 1514, 176, 1513, 1365, 1366] (by decide +kernel)
theorem ok_X12_word : zokM zTab kX12_word := ⟨by decide +kernel, by decide +kernel, by decide +kernel⟩
theorem gw_X12_word : (kX12_word.2.2.2.2.2.flatMap (zrq zTab kX12_word.1.cls)).all goodWord = true := by decide +kernel
theorem wd_X12_word : ∀ w ∈ kX12_word.2.2.2.2.2.flatMap (zrq zTab kX12_word.1.cls), w ∈ lw_tbl := zplaces [1343, 1641, 1640, 176, 1639, 1644, 1643, 176, 1642, 1515, 1514, 176, 1513, 1367, 1647, 1646, 176, 1645, 1644, 1643, 176, 1642, 1367] (by decide +kernel)
theorem ok_X12_drift : zokM zTab kX12_drift := ⟨by decide +kernel, by decide +kernel, by decide +kernel⟩
theorem gw_X12_drift : (kX12_drift.2.2.2.2.2.flatMap (zrq zTab kX12_drift.1.cls)).all goodWord = true := by decide +kernel
theorem wd_X12_drift : ∀ w ∈ kX12_drift.2.2.2.2.2.flatMap (zrq zTab kX12_drift.1.cls), w ∈ lw_tbl := zplaces [1343, 1641, 1640, 176, 1639, 1641, 1640, 176, 1639, 1655, 1654, 117, 176, 1652] (by decide +kernel)
theorem ok_X12_read : zokM zTab kX12_read := ⟨by decide +kernel, by decide +kernel, by decide +kernel⟩
theorem gw_X12_read : (kX12_read.2.2.2.2.2.flatMap (zrq zTab kX12_read.1.cls)).all goodWord = true := by decide +kernel
theorem wd_X12_read : ∀ w ∈ kX12_read.2.2.2.2.2.flatMap (zrq zTab kX12_read.1.cls), w ∈ lw_tbl := zplaces [1343, 1630, 1629, 115, 176, 1627, 1641, 1640, 176, 1639] (by decide +kernel)
theorem ok_X12_deed : zokM zTab kX12_deed := ⟨by decide +kernel, by decide +kernel, by decide +kernel⟩
theorem gw_X12_deed : (kX12_deed.2.2.2.2.2.flatMap (zrq zTab kX12_deed.1.cls)).all goodWord = true := by decide +kernel
theorem wd_X12_deed : ∀ w ∈ kX12_deed.2.2.2.2.2.flatMap (zrq zTab kX12_deed.1.cls), w ∈ lw_tbl := zplaces [1343, 1699, 1698, 126, 176, 1696, 1515, 1514, 176, 1513, 1515, 1514, 176, 1513] (by decide +kernel)
theorem ok_X12_stop : zokM zTab kX12_stop := ⟨by decide +kernel, by decide +kernel, by decide +kernel⟩
theorem gw_X12_stop : (kX12_stop.2.2.2.2.2.flatMap (zrq zTab kX12_stop.1.cls)).all goodWord = true := by decide +kernel
theorem wd_X12_stop : ∀ w ∈ kX12_stop.2.2.2.2.2.flatMap (zrq zTab kX12_stop.1.cls), w ∈ lw_tbl := zplaces [1343, 1715, 1714, 129, 176, 1712] (by decide +kernel)
theorem ok_X12_state : zokM zTab kX12_state := ⟨by decide +kernel, by decide +kernel, by decide +kernel⟩
theorem gw_X12_state : (kX12_state.2.2.2.2.2.flatMap (zrq zTab kX12_state.1.cls)).all goodWord = true := by decide +kernel
theorem wd_X12_state : ∀ w ∈ kX12_state.2.2.2.2.2.flatMap (zrq zTab kX12_state.1.cls), w ∈ lw_tbl := zplaces [1343, 1715, 1714, 129, 176, 1712, 1515, 1514, 176, 1513] (by decide +kernel)
theorem ok_X12_making : zokM zTab kX12_making := ⟨by decide +kernel, by decide +kernel, by decide +kernel⟩
theorem gw_X12_making : (kX12_making.2.2.2.2.2.flatMap (zrq zTab kX12_making.1.cls)).all goodWord = true := by decide +kernel
theorem wd_X12_making : ∀ w ∈ kX12_making.2.2.2.2.2.flatMap (zrq zTab kX12_making.1.cls), w ∈ lw_tbl := zplaces [1343, 1641, 1640, 176, 1639, 1641, 1640, 176, 1639, 1758, 1757, 137, 176, 1755, 1379, 1515, 1514, 176, 1513, 1379, 1377, 1379, 1377] (by decide +kernel)
theorem ok_X12_ring : zokM zTab kX12_ring := ⟨by decide +kernel, by decide +kernel, by decide +kernel⟩
theorem gw_X12_ring : (kX12_ring.2.2.2.2.2.flatMap (zrq zTab kX12_ring.1.cls)).all goodWord = true := by decide +kernel
theorem wd_X12_ring : ∀ w ∈ kX12_ring.2.2.2.2.2.flatMap (zrq zTab kX12_ring.1.cls), w ∈ lw_tbl := zplaces [1343, 1641, 1640, 176, 1639, 1758, 1757, 137, 176, 1755, 1378, 1366, 1377, 1378, 1585, 1584, 176, 1583] (by decide +kernel)
