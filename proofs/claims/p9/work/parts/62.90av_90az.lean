theorem ok_X12_store : zokM zTab kX12_store := ⟨zwdf_ok rfl _ 0 (by decide +kernel) (by decide +kernel), by decide +kernel, by decide +kernel⟩
theorem gw_X12_store : (kX12_store.2.2.2.2.2.flatMap (zrq zTab kX12_store.1.cls)).all goodWord = true := by decide +kernel
set_option maxRecDepth 1000000 in
theorem wd_X12_store : ∀ w ∈ kX12_store.2.2.2.2.2.flatMap (zrq zTab kX12_store.1.cls), w ∈ lw_tbl := zplaces [1361] rfl
theorem ok_X12_text : zokM zTab kX12_text := ⟨zwdf_ok rfl _ 0 (by decide +kernel) (by decide +kernel), by decide +kernel, by decide +kernel⟩
theorem gw_X12_text : (kX12_text.2.2.2.2.2.flatMap (zrq zTab kX12_text.1.cls)).all goodWord = true := by decide +kernel
set_option maxRecDepth 1000000 in
theorem wd_X12_text : ∀ w ∈ kX12_text.2.2.2.2.2.flatMap (zrq zTab kX12_text.1.cls), w ∈ lw_tbl := zplaces [1343, 1345, 1353, 1345, 1346, 1347, 1515, 1514, 176, 1513, 1348, 1523, 1522, 97, 176, 1520, 1527, 1526, 98, 176, 1524, 1348, 1348, 1349, 1618, 1617, 114, 176, 1615, 1364, 1350, 1618, 1617, 114, 176, 1615, 1351, 1618, 1617, 114, 176, 1615] rfl
theorem ok_X12_fault : zokM zTab kX12_fault := ⟨zwdf_ok rfl _ 0 (by decide +kernel) (by decide +kernel), by decide +kernel, by decide +kernel⟩
theorem gw_X12_fault : (kX12_fault.2.2.2.2.2.flatMap (zrq zTab kX12_fault.1.cls)).all goodWord = true := by decide +kernel
set_option maxRecDepth 1000000 in
theorem wd_X12_fault : ∀ w ∈ kX12_fault.2.2.2.2.2.flatMap (zrq zTab kX12_fault.1.cls), w ∈ lw_tbl := zplaces [1343, 1346, 1347] rfl
theorem ok_X12_of : zokM zTab kX12_of := ⟨zwdf_ok rfl _ 0 (by decide +kernel) (by decide +kernel), by decide +kernel, by decide +kernel⟩
theorem gw_X12_of : (kX12_of.2.2.2.2.2.flatMap (zrq zTab kX12_of.1.cls)).all goodWord = true := by decide +kernel
set_option maxRecDepth 1000000 in
theorem wd_X12_of : ∀ w ∈ kX12_of.2.2.2.2.2.flatMap (zrq zTab kX12_of.1.cls), w ∈ lw_tbl := zplaces [1349, 1363] rfl
theorem ok_X12_hand : zokM zTab kX12_hand := ⟨zwdf_ok rfl _ 0 (by decide +kernel) (by decide +kernel), by decide +kernel, by decide +kernel⟩
theorem gw_X12_hand : (kX12_hand.2.2.2.2.2.flatMap (zrq zTab kX12_hand.1.cls)).all goodWord = true := by decide +kernel
set_option maxRecDepth 1000000 in
theorem wd_X12_hand : ∀ w ∈ kX12_hand.2.2.2.2.2.flatMap (zrq zTab kX12_hand.1.cls), w ∈ lw_tbl := zplaces [1523, 1522, 97, 176, 1520, 1363, 1634, 1633, 116, 176, 1631, 1365, 1634, 1633, 116, 176, 1631, 1366] rfl
theorem ok_X12_isText : zokM zTab kX12_isText := ⟨zwdf_ok rfl _ 0 (by decide +kernel) (by decide +kernel), by decide +kernel, by decide +kernel⟩
theorem gw_X12_isText : (kX12_isText.2.2.2.2.2.flatMap (zrq zTab kX12_isText.1.cls)).all goodWord = true := by decide +kernel
set_option maxRecDepth 1000000 in
theorem wd_X12_isText : ∀ w ∈ kX12_isText.2.2.2.2.2.flatMap (zrq zTab kX12_isText.1.cls), w ∈ lw_tbl := zplaces [1515, 1514, 176, 1513] rfl
theorem ok_X12_isReader : zokM zTab kX12_isReader := ⟨zwdf_ok rfl _ 0 (by decide +kernel) (by decide +kernel), by decide +kernel, by decide +kernel⟩
theorem gw_X12_isReader : (kX12_isReader.2.2.2.2.2.flatMap (zrq zTab kX12_isReader.1.cls)).all goodWord = true := by decide +kernel
set_option maxRecDepth 1000000 in
theorem wd_X12_isReader : ∀ w ∈ kX12_isReader.2.2.2.2.2.flatMap (zrq zTab kX12_isReader.1.cls), w ∈ lw_tbl := zplaces [1366, 1515, 1514, 176, 1513] rfl
theorem ok_X12_sizeOf : zokM zTab kX12_sizeOf := ⟨zwdf_ok rfl _ 0 (by decide +kernel) (by decide +kernel), by decide +kernel, by decide +kernel⟩
theorem gw_X12_sizeOf : (kX12_sizeOf.2.2.2.2.2.flatMap (zrq zTab kX12_sizeOf.1.cls)).all goodWord = true := by decide +kernel
set_option maxRecDepth 1000000 in
theorem wd_X12_sizeOf : ∀ w ∈ kX12_sizeOf.2.2.2.2.2.flatMap (zrq zTab kX12_sizeOf.1.cls), w ∈ lw_tbl := zplaces [1592, 1591, 176, 1590] rfl
theorem ok_X12_spell : zokM zTab kX12_spell := ⟨zwdf_ok rfl _ 0 (by decide +kernel) (by decide +kernel), by decide +kernel, by decide +kernel⟩
theorem gw_X12_spell : (kX12_spell.2.2.2.2.2.flatMap (zrq zTab kX12_spell.1.cls)).all goodWord = true := by decide +kernel
set_option maxRecDepth 1000000 in
theorem wd_X12_spell : ∀ w ∈ kX12_spell.2.2.2.2.2.flatMap (zrq zTab kX12_spell.1.cls), w ∈ lw_tbl := zplaces [1644, 1643, 176, 1642, 1592, 1591, 176, 1590] rfl
theorem ok_X12_numberOf : zokM zTab kX12_numberOf := ⟨zwdf_ok rfl _ 0 (by decide +kernel) (by decide +kernel), by decide +kernel, by decide +kernel⟩
theorem gw_X12_numberOf : (kX12_numberOf.2.2.2.2.2.flatMap (zrq zTab kX12_numberOf.1.cls)).all goodWord = true := by decide +kernel
set_option maxRecDepth 1000000 in
theorem wd_X12_numberOf : ∀ w ∈ kX12_numberOf.2.2.2.2.2.flatMap (zrq zTab kX12_numberOf.1.cls), w ∈ lw_tbl := zplaces [1367, 1592, 1591, 176, 1590] rfl
theorem ok_X12_shift : zokM zTab kX12_shift := ⟨zwdf_ok rfl _ 0 (by decide +kernel) (by decide +kernel), by decide +kernel, by decide +kernel⟩
theorem gw_X12_shift : (kX12_shift.2.2.2.2.2.flatMap (zrq zTab kX12_shift.1.cls)).all goodWord = true := by decide +kernel
set_option maxRecDepth 1000000 in
theorem wd_X12_shift : ∀ w ∈ kX12_shift.2.2.2.2.2.flatMap (zrq zTab kX12_shift.1.cls), w ∈ lw_tbl := zplaces [1369, 1367, 1367, 1634, 1633, 116, 176, 1631, 1367] rfl
theorem ok_X12_drop : zokM zTab kX12_drop := ⟨zwdf_ok rfl _ 0 (by decide +kernel) (by decide +kernel), by decide +kernel, by decide +kernel⟩
theorem gw_X12_drop : (kX12_drop.2.2.2.2.2.flatMap (zrq zTab kX12_drop.1.cls)).all goodWord = true := by decide +kernel
set_option maxRecDepth 1000000 in
theorem wd_X12_drop : ∀ w ∈ kX12_drop.2.2.2.2.2.flatMap (zrq zTab kX12_drop.1.cls), w ∈ lw_tbl := zplaces [1369, 1369, 1367, 1367, 1369, 1369] rfl
theorem ok_X12_twice : zokM zTab kX12_twice := ⟨zwdf_ok rfl _ 0 (by decide +kernel) (by decide +kernel), by decide +kernel, by decide +kernel⟩
theorem gw_X12_twice : (kX12_twice.2.2.2.2.2.flatMap (zrq zTab kX12_twice.1.cls)).all goodWord = true := by decide +kernel
set_option maxRecDepth 1000000 in
theorem wd_X12_twice : ∀ w ∈ kX12_twice.2.2.2.2.2.flatMap (zrq zTab kX12_twice.1.cls), w ∈ lw_tbl := zplaces [1369, 1369, 1369, 1367, 1367, 1369, 1369] rfl
theorem ok_X12_swap : zokM zTab kX12_swap := ⟨zwdf_ok rfl _ 0 (by decide +kernel) (by decide +kernel), by decide +kernel, by decide +kernel⟩
theorem gw_X12_swap : (kX12_swap.2.2.2.2.2.flatMap (zrq zTab kX12_swap.1.cls)).all goodWord = true := by decide +kernel
set_option maxRecDepth 1000000 in
theorem wd_X12_swap : ∀ w ∈ kX12_swap.2.2.2.2.2.flatMap (zrq zTab kX12_swap.1.cls), w ∈ lw_tbl := zplaces [1367, 1367, 1367, 1367] rfl
theorem ok_X12_step : zokM zTab kX12_step := ⟨zwdf_ok rfl _ 0 (by decide +kernel) (by decide +kernel), by decide +kernel, by decide +kernel⟩
theorem gw_X12_step : (kX12_step.2.2.2.2.2.flatMap (zrq zTab kX12_step.1.cls)).all goodWord = true := by decide +kernel
set_option maxRecDepth 1000000 in
theorem wd_X12_step : ∀ w ∈ kX12_step.2.2.2.2.2.flatMap (zrq zTab kX12_step.1.cls), w ∈ lw_tbl := zplaces [1675, 1674, 121, 176, 1672, 1679, 1678, 122, 176, 1676, 1683, 1682, 123, 176, 1680, 1369, 1687, 1686, 124, 176, 1684, 1369, 1687, 1686, 124, 176, 1684] rfl
theorem ok_X12_readBy : zokM zTab kX12_readBy := ⟨zwdf_ok rfl _ 0 (by decide +kernel) (by decide +kernel), by decide +kernel, by decide +kernel⟩
theorem gw_X12_readBy : (kX12_readBy.2.2.2.2.2.flatMap (zrq zTab kX12_readBy.1.cls)).all goodWord = true := by decide +kernel
set_option maxRecDepth 1000000 in
theorem wd_X12_readBy : ∀ w ∈ kX12_readBy.2.2.2.2.2.flatMap (zrq zTab kX12_readBy.1.cls), w ∈ lw_tbl := zplaces [1367, 1647, 1646, 176, 1645, 1644, 1643, 176, 1642, 1369, 1634, 1633, 116, 176, 1631, 1634, 1633, 116, 176, 1631, 1634, 1633, 116, 176, 1631, 1671, 1670, 120, 176, 1668, 1369, 1691, 1690, 125, 176, 1688] rfl
theorem ok_X12_apart : zokM zTab kX12_apart := ⟨zwdf_ok rfl _ 0 (by decide +kernel) (by decide +kernel), by decide +kernel, by decide +kernel⟩
theorem gw_X12_apart : (kX12_apart.2.2.2.2.2.flatMap (zrq zTab kX12_apart.1.cls)).all goodWord = true := by decide +kernel
set_option maxRecDepth 1000000 in
theorem wd_X12_apart : ∀ w ∈ kX12_apart.2.2.2.2.2.flatMap (zrq zTab kX12_apart.1.cls), w ∈ lw_tbl := zplaces [1644, 1643, 176, 1642, 1644, 1643, 176, 1642, 1367, 1647, 1646, 176, 1645, 1368, 1647, 1646, 176, 1645, 1370, 1367, 1368, 1370, 1370, 1585, 1584, 176, 1583, 1585, 1584, 176, 1583, 1370, 1370] rfl
theorem ok_X12_book : zokM zTab kX12_book := ⟨zwdf_ok rfl _ 0 (by decide +kernel) (by decide +kernel), by decide +kernel, by decide +kernel⟩
theorem gw_X12_book : (kX12_book.2.2.2.2.2.flatMap (zrq zTab kX12_book.1.cls)).all goodWord = true := by decide +kernel
set_option maxRecDepth 1000000 in
theorem wd_X12_book : ∀ w ∈ kX12_book.2.2.2.2.2.flatMap (zrq zTab kX12_book.1.cls), w ∈ lw_tbl := zplaces [1343, 1630, 1629, 115, 176, 1627, 1515, 1514, 176, 1513, 1634, 1633, 116, 176, 1631, 1366, 1515, 1514, 176, 1513, 1634, 1633, 116, 176, 1631, 1366, 1515, 1514, 176, 1513, 1634, 1633, 116, 176, 1631, 1634, 1633, 116, 176, 1631, 1365, 1366] rfl
theorem ok_X12_word : zokM zTab kX12_word := ⟨zwdf_ok rfl _ 0 (by decide +kernel) (by decide +kernel), by decide +kernel, by decide +kernel⟩
theorem gw_X12_word : (kX12_word.2.2.2.2.2.flatMap (zrq zTab kX12_word.1.cls)).all goodWord = true := by decide +kernel
set_option maxRecDepth 1000000 in
theorem wd_X12_word : ∀ w ∈ kX12_word.2.2.2.2.2.flatMap (zrq zTab kX12_word.1.cls), w ∈ lw_tbl := zplaces [1343, 1641, 1640, 176, 1639, 1644, 1643, 176, 1642, 1515, 1514, 176, 1513, 1367, 1647, 1646, 176, 1645, 1644, 1643, 176, 1642, 1367] rfl
theorem ok_X12_drift : zokM zTab kX12_drift := ⟨zwdf_ok rfl _ 0 (by decide +kernel) (by decide +kernel), by decide +kernel, by decide +kernel⟩
theorem gw_X12_drift : (kX12_drift.2.2.2.2.2.flatMap (zrq zTab kX12_drift.1.cls)).all goodWord = true := by decide +kernel
set_option maxRecDepth 1000000 in
theorem wd_X12_drift : ∀ w ∈ kX12_drift.2.2.2.2.2.flatMap (zrq zTab kX12_drift.1.cls), w ∈ lw_tbl := zplaces [1343, 1641, 1640, 176, 1639, 1641, 1640, 176, 1639, 1655, 1654, 117, 176, 1652] rfl
theorem ok_X12_read : zokM zTab kX12_read := ⟨zwdf_ok rfl _ 0 (by decide +kernel) (by decide +kernel), by decide +kernel, by decide +kernel⟩
theorem gw_X12_read : (kX12_read.2.2.2.2.2.flatMap (zrq zTab kX12_read.1.cls)).all goodWord = true := by decide +kernel
set_option maxRecDepth 1000000 in
theorem wd_X12_read : ∀ w ∈ kX12_read.2.2.2.2.2.flatMap (zrq zTab kX12_read.1.cls), w ∈ lw_tbl := zplaces [1343, 1630, 1629, 115, 176, 1627, 1641, 1640, 176, 1639, 1663, 1662, 118, 176, 1660, 1667, 1666, 119, 176, 1664] rfl
theorem ok_X12_deeds : zokM zTab kX12_deeds := ⟨zwdf_ok rfl _ 0 (by decide +kernel) (by decide +kernel), by decide +kernel, by decide +kernel⟩
theorem gw_X12_deeds : (kX12_deeds.2.2.2.2.2.flatMap (zrq zTab kX12_deeds.1.cls)).all goodWord = true := by decide +kernel
set_option maxRecDepth 1000000 in
theorem wd_X12_deeds : ∀ w ∈ kX12_deeds.2.2.2.2.2.flatMap (zrq zTab kX12_deeds.1.cls), w ∈ lw_tbl := zplaces [1350, 1371] rfl
theorem ok_X12_deedOf : zokM zTab kX12_deedOf := ⟨zwdf_ok rfl _ 0 (by decide +kernel) (by decide +kernel), by decide +kernel, by decide +kernel⟩
theorem gw_X12_deedOf : (kX12_deedOf.2.2.2.2.2.flatMap (zrq zTab kX12_deedOf.1.cls)).all goodWord = true := by decide +kernel
set_option maxRecDepth 1000000 in
theorem wd_X12_deedOf : ∀ w ∈ kX12_deedOf.2.2.2.2.2.flatMap (zrq zTab kX12_deedOf.1.cls), w ∈ lw_tbl := zplaces [1350, 1371] rfl
theorem ok_X12_hasYear : zokM zTab kX12_hasYear := ⟨zwdf_ok rfl _ 0 (by decide +kernel) (by decide +kernel), by decide +kernel, by decide +kernel⟩
theorem gw_X12_hasYear : (kX12_hasYear.2.2.2.2.2.flatMap (zrq zTab kX12_hasYear.1.cls)).all goodWord = true := by decide +kernel
set_option maxRecDepth 1000000 in
theorem wd_X12_hasYear : ∀ w ∈ kX12_hasYear.2.2.2.2.2.flatMap (zrq zTab kX12_hasYear.1.cls), w ∈ lw_tbl := zplaces [1371, 1523, 1522, 97, 176, 1520] rfl
theorem ok_X12_deed : zokM zTab kX12_deed := ⟨zwdf_ok rfl _ 0 (by decide +kernel) (by decide +kernel), by decide +kernel, by decide +kernel⟩
theorem gw_X12_deed : (kX12_deed.2.2.2.2.2.flatMap (zrq zTab kX12_deed.1.cls)).all goodWord = true := by decide +kernel
set_option maxRecDepth 1000000 in
theorem wd_X12_deed : ∀ w ∈ kX12_deed.2.2.2.2.2.flatMap (zrq zTab kX12_deed.1.cls), w ∈ lw_tbl := zplaces [1343, 1699, 1698, 126, 176, 1696, 1703, 1702, 127, 176, 1700, 1703, 1702, 127, 176, 1700, 1515, 1514, 176, 1513, 1515, 1514, 176, 1513, 1707, 1706, 128, 176, 1704] rfl
theorem ok_X12_begin : zokM zTab kX12_begin := ⟨zwdf_ok rfl _ 0 (by decide +kernel) (by decide +kernel), by decide +kernel, by decide +kernel⟩
theorem gw_X12_begin : (kX12_begin.2.2.2.2.2.flatMap (zrq zTab kX12_begin.1.cls)).all goodWord = true := by decide +kernel
set_option maxRecDepth 1000000 in
theorem wd_X12_begin : ∀ w ∈ kX12_begin.2.2.2.2.2.flatMap (zrq zTab kX12_begin.1.cls), w ∈ lw_tbl := zplaces [1372, 1365, 1373, 1374, 1375, 1376] rfl
theorem ok_X12_reads : zokM zTab kX12_reads := ⟨zwdf_ok rfl _ 0 (by decide +kernel) (by decide +kernel), by decide +kernel, by decide +kernel⟩
theorem gw_X12_reads : (kX12_reads.2.2.2.2.2.flatMap (zrq zTab kX12_reads.1.cls)).all goodWord = true := by decide +kernel
set_option maxRecDepth 1000000 in
theorem wd_X12_reads : ∀ w ∈ kX12_reads.2.2.2.2.2.flatMap (zrq zTab kX12_reads.1.cls), w ∈ lw_tbl := zplaces [1663, 1662, 118, 176, 1660, 1372, 1376, 1734, 1733, 176, 1732, 1372, 1372, 1667, 1666, 119, 176, 1664, 1376, 1376, 1373] rfl
theorem ok_X12_hushes : zokM zTab kX12_hushes := ⟨zwdf_ok rfl _ 0 (by decide +kernel) (by decide +kernel), by decide +kernel, by decide +kernel⟩
theorem gw_X12_hushes : (kX12_hushes.2.2.2.2.2.flatMap (zrq zTab kX12_hushes.1.cls)).all goodWord = true := by decide +kernel
set_option maxRecDepth 1000000 in
theorem wd_X12_hushes : ∀ w ∈ kX12_hushes.2.2.2.2.2.flatMap (zrq zTab kX12_hushes.1.cls), w ∈ lw_tbl := zplaces [1376, 1734, 1733, 176, 1732, 1376, 1376] rfl
theorem ok_X12_goesOn : zokM zTab kX12_goesOn := ⟨zwdf_ok rfl _ 0 (by decide +kernel) (by decide +kernel), by decide +kernel, by decide +kernel⟩
theorem gw_X12_goesOn : (kX12_goesOn.2.2.2.2.2.flatMap (zrq zTab kX12_goesOn.1.cls)).all goodWord = true := by decide +kernel
set_option maxRecDepth 1000000 in
theorem wd_X12_goesOn : ∀ w ∈ kX12_goesOn.2.2.2.2.2.flatMap (zrq zTab kX12_goesOn.1.cls), w ∈ lw_tbl := zplaces [1374, 1374, 1374] rfl
theorem ok_X12_does : zokM zTab kX12_does := ⟨zwdf_ok rfl _ 0 (by decide +kernel) (by decide +kernel), by decide +kernel, by decide +kernel⟩
theorem gw_X12_does : (kX12_does.2.2.2.2.2.flatMap (zrq zTab kX12_does.1.cls)).all goodWord = true := by decide +kernel
set_option maxRecDepth 1000000 in
theorem wd_X12_does : ∀ w ∈ kX12_does.2.2.2.2.2.flatMap (zrq zTab kX12_does.1.cls), w ∈ lw_tbl := zplaces [1707, 1706, 128, 176, 1704, 1707, 1706, 128, 176, 1704, 1707, 1706, 128, 176, 1704, 1731, 1730, 133, 176, 1728, 1372, 1707, 1706, 128, 176, 1704, 1372, 1375, 1372, 1375, 1372, 1365, 1375, 1738, 1737, 134, 176, 1735, 1742, 1741, 135, 176, 1739] rfl
theorem ok_X12_play : zokM zTab kX12_play := ⟨zwdf_ok rfl _ 0 (by decide +kernel) (by decide +kernel), by decide +kernel, by decide +kernel⟩
theorem gw_X12_play : (kX12_play.2.2.2.2.2.flatMap (zrq zTab kX12_play.1.cls)).all goodWord = true := by decide +kernel
set_option maxRecDepth 1000000 in
theorem wd_X12_play : ∀ w ∈ kX12_play.2.2.2.2.2.flatMap (zrq zTab kX12_play.1.cls), w ∈ lw_tbl := zplaces [1723, 1722, 131, 176, 1720, 1727, 1726, 132, 176, 1724] rfl
theorem ok_X12_layAll : zokM zTab kX12_layAll := ⟨zwdf_ok rfl _ 0 (by decide +kernel) (by decide +kernel), by decide +kernel, by decide +kernel⟩
theorem gw_X12_layAll : (kX12_layAll.2.2.2.2.2.flatMap (zrq zTab kX12_layAll.1.cls)).all goodWord = true := by decide +kernel
set_option maxRecDepth 1000000 in
theorem wd_X12_layAll : ∀ w ∈ kX12_layAll.2.2.2.2.2.flatMap (zrq zTab kX12_layAll.1.cls), w ∈ lw_tbl := zplaces [1699, 1698, 126, 176, 1696, 1630, 1629, 115, 176, 1627] rfl
theorem ok_X12_stop : zokM zTab kX12_stop := ⟨zwdf_ok rfl _ 0 (by decide +kernel) (by decide +kernel), by decide +kernel, by decide +kernel⟩
theorem gw_X12_stop : (kX12_stop.2.2.2.2.2.flatMap (zrq zTab kX12_stop.1.cls)).all goodWord = true := by decide +kernel
set_option maxRecDepth 1000000 in
theorem wd_X12_stop : ∀ w ∈ kX12_stop.2.2.2.2.2.flatMap (zrq zTab kX12_stop.1.cls), w ∈ lw_tbl := zplaces [1343, 1715, 1714, 129, 176, 1712, 1703, 1702, 127, 176, 1700, 1719, 1718, 130, 176, 1716] rfl
theorem ok_X12_ofState : zokM zTab kX12_ofState := ⟨zwdf_ok rfl _ 0 (by decide +kernel) (by decide +kernel), by decide +kernel, by decide +kernel⟩
theorem gw_X12_ofState : (kX12_ofState.2.2.2.2.2.flatMap (zrq zTab kX12_ofState.1.cls)).all goodWord = true := by decide +kernel
set_option maxRecDepth 1000000 in
theorem wd_X12_ofState : ∀ w ∈ kX12_ofState.2.2.2.2.2.flatMap (zrq zTab kX12_ofState.1.cls), w ∈ lw_tbl := zplaces [1515, 1514, 176, 1513, 1372, 1366, 1515, 1514, 176, 1513, 1373, 1372, 1372, 1375, 1372, 1365, 1655, 1654, 117, 176, 1652, 1372, 1365, 1655, 1654, 117, 176, 1652, 1374, 1375, 1372, 1365, 1655, 1654, 117, 176, 1652, 1376] rfl
theorem ok_X12_state : zokM zTab kX12_state := ⟨zwdf_ok rfl _ 0 (by decide +kernel) (by decide +kernel), by decide +kernel, by decide +kernel⟩
theorem gw_X12_state : (kX12_state.2.2.2.2.2.flatMap (zrq zTab kX12_state.1.cls)).all goodWord = true := by decide +kernel
set_option maxRecDepth 1000000 in
theorem wd_X12_state : ∀ w ∈ kX12_state.2.2.2.2.2.flatMap (zrq zTab kX12_state.1.cls), w ∈ lw_tbl := zplaces [1343, 1715, 1714, 129, 176, 1712, 1703, 1702, 127, 176, 1700, 1515, 1514, 176, 1513, 1719, 1718, 130, 176, 1716, 1750, 1749, 136, 176, 1747] rfl
theorem ok_X12_layMade : zokM zTab kX12_layMade := ⟨zwdf_ok rfl _ 0 (by decide +kernel) (by decide +kernel), by decide +kernel, by decide +kernel⟩
theorem gw_X12_layMade : (kX12_layMade.2.2.2.2.2.flatMap (zrq zTab kX12_layMade.1.cls)).all goodWord = true := by decide +kernel
set_option maxRecDepth 1000000 in
theorem wd_X12_layMade : ∀ w ∈ kX12_layMade.2.2.2.2.2.flatMap (zrq zTab kX12_layMade.1.cls), w ∈ lw_tbl := zplaces [1366, 1364, 1363, 1377, 1667, 1666, 119, 176, 1664, 1363, 1364] rfl
theorem ok_X12_handAll : zokM zTab kX12_handAll := ⟨zwdf_ok rfl _ 0 (by decide +kernel) (by decide +kernel), by decide +kernel, by decide +kernel⟩
theorem gw_X12_handAll : (kX12_handAll.2.2.2.2.2.flatMap (zrq zTab kX12_handAll.1.cls)).all goodWord = true := by decide +kernel
set_option maxRecDepth 1000000 in
theorem wd_X12_handAll : ∀ w ∈ kX12_handAll.2.2.2.2.2.flatMap (zrq zTab kX12_handAll.1.cls), w ∈ lw_tbl := zplaces [1630, 1629, 115, 176, 1627, 1762, 1761, 138, 176, 1759] rfl
theorem ok_X12_findFar : zokM zTab kX12_findFar := ⟨zwdf_ok rfl _ 0 (by decide +kernel) (by decide +kernel), by decide +kernel, by decide +kernel⟩
theorem gw_X12_findFar : (kX12_findFar.2.2.2.2.2.flatMap (zrq zTab kX12_findFar.1.cls)).all goodWord = true := by decide +kernel
set_option maxRecDepth 1000000 in
theorem wd_X12_findFar : ∀ w ∈ kX12_findFar.2.2.2.2.2.flatMap (zrq zTab kX12_findFar.1.cls), w ∈ lw_tbl := zplaces [1767, 1380, 1381, 1381, 1366, 1377, 1380, 1734, 1733, 176, 1732, 1767, 1380, 1380, 1381, 1381, 1381] rfl
theorem ok_X12_findBack : zokM zTab kX12_findBack := ⟨zwdf_ok rfl _ 0 (by decide +kernel) (by decide +kernel), by decide +kernel, by decide +kernel⟩
theorem gw_X12_findBack : (kX12_findBack.2.2.2.2.2.flatMap (zrq zTab kX12_findBack.1.cls)).all goodWord = true := by decide +kernel
set_option maxRecDepth 1000000 in
theorem wd_X12_findBack : ∀ w ∈ kX12_findBack.2.2.2.2.2.flatMap (zrq zTab kX12_findBack.1.cls), w ∈ lw_tbl := zplaces [1379, 1767, 1366, 1379, 1377, 1379, 1379] rfl
theorem ok_X12_making : zokM zTab kX12_making := ⟨zwdf_ok rfl _ 0 (by decide +kernel) (by decide +kernel), by decide +kernel, by decide +kernel⟩
theorem gw_X12_making : (kX12_making.2.2.2.2.2.flatMap (zrq zTab kX12_making.1.cls)).all goodWord = true := by decide +kernel
set_option maxRecDepth 1000000 in
theorem wd_X12_making : ∀ w ∈ kX12_making.2.2.2.2.2.flatMap (zrq zTab kX12_making.1.cls), w ∈ lw_tbl := zplaces [1343, 1641, 1640, 176, 1639, 1641, 1640, 176, 1639, 1758, 1757, 137, 176, 1755, 1766, 1765, 139, 176, 1763, 1379, 1767, 1515, 1514, 176, 1513, 1379, 1377, 1379, 1377] rfl
theorem ok_X12_ring : zokM zTab kX12_ring := ⟨zwdf_ok rfl _ 0 (by decide +kernel) (by decide +kernel), by decide +kernel, by decide +kernel⟩
theorem gw_X12_ring : (kX12_ring.2.2.2.2.2.flatMap (zrq zTab kX12_ring.1.cls)).all goodWord = true := by decide +kernel
set_option maxRecDepth 1000000 in
theorem wd_X12_ring : ∀ w ∈ kX12_ring.2.2.2.2.2.flatMap (zrq zTab kX12_ring.1.cls), w ∈ lw_tbl := zplaces [1343, 1641, 1640, 176, 1639, 1758, 1757, 137, 176, 1755, 1378, 1775, 1774, 140, 176, 1772, 1767, 1366, 1377, 1378, 1585, 1584, 176, 1583, 1767] rfl
theorem ok_X12_reach : zokM zTab kX12_reach := ⟨zwdf_ok rfl _ 0 (by decide +kernel) (by decide +kernel), by decide +kernel, by decide +kernel⟩
theorem gw_X12_reach : (kX12_reach.2.2.2.2.2.flatMap (zrq zTab kX12_reach.1.cls)).all goodWord = true := by decide +kernel
set_option maxRecDepth 1000000 in
theorem wd_X12_reach : ∀ w ∈ kX12_reach.2.2.2.2.2.flatMap (zrq zTab kX12_reach.1.cls), w ∈ lw_tbl := zplaces [1343, 1641, 1640, 176, 1639, 1758, 1757, 137, 176, 1755, 1378, 1775, 1774, 140, 176, 1772, 1378, 1380, 1381, 1381] rfl
theorem ok_X12_isKept : zokM zTab kX12_isKept := ⟨zwdf_ok rfl _ 0 (by decide +kernel) (by decide +kernel), by decide +kernel, by decide +kernel⟩
theorem gw_X12_isKept : (kX12_isKept.2.2.2.2.2.flatMap (zrq zTab kX12_isKept.1.cls)).all goodWord = true := by decide +kernel
set_option maxRecDepth 1000000 in
theorem wd_X12_isKept : ∀ w ∈ kX12_isKept.2.2.2.2.2.flatMap (zrq zTab kX12_isKept.1.cls), w ∈ lw_tbl := zplaces [1366, 1734, 1733, 176, 1732, 1377] rfl
theorem ok_X12_sound : zokM zTab kX12_sound := ⟨zwdf_ok rfl _ 0 (by decide +kernel) (by decide +kernel), by decide +kernel, by decide +kernel⟩
theorem gw_X12_sound : (kX12_sound.2.2.2.2.2.flatMap (zrq zTab kX12_sound.1.cls)).all goodWord = true := by decide +kernel
set_option maxRecDepth 1000000 in
theorem wd_X12_sound : ∀ w ∈ kX12_sound.2.2.2.2.2.flatMap (zrq zTab kX12_sound.1.cls), w ∈ lw_tbl := zplaces [1343, 1630, 1629, 115, 176, 1627, 1366, 1515, 1514, 176, 1513, 1762, 1761, 138, 176, 1759, 1787, 1786, 141, 176, 1784] rfl
theorem ok_X12_like : zokM zTab kX12_like := ⟨zwdf_ok rfl _ 0 (by decide +kernel) (by decide +kernel), by decide +kernel, by decide +kernel⟩
theorem gw_X12_like : (kX12_like.2.2.2.2.2.flatMap (zrq zTab kX12_like.1.cls)).all goodWord = true := by decide +kernel
set_option maxRecDepth 1000000 in
theorem wd_X12_like : ∀ w ∈ kX12_like.2.2.2.2.2.flatMap (zrq zTab kX12_like.1.cls), w ∈ lw_tbl := zplaces [1343, 1630, 1629, 115, 176, 1627, 1663, 1662, 118, 176, 1660, 1663, 1662, 118, 176, 1660, 1762, 1761, 138, 176, 1759, 1377, 1377, 1377, 1377] rfl
theorem ok_X12_findComes : zokM zTab kX12_findComes := ⟨zwdf_ok rfl _ 0 (by decide +kernel) (by decide +kernel), by decide +kernel, by decide +kernel⟩
theorem gw_X12_findComes : (kX12_findComes.2.2.2.2.2.flatMap (zrq zTab kX12_findComes.1.cls)).all goodWord = true := by decide +kernel
set_option maxRecDepth 1000000 in
theorem wd_X12_findComes : ∀ w ∈ kX12_findComes.2.2.2.2.2.flatMap (zrq zTab kX12_findComes.1.cls), w ∈ lw_tbl := zplaces [1382, 1382, 1377] rfl
theorem ok_X12_unread : zokM zTab kX12_unread := ⟨zwdf_ok rfl _ 0 (by decide +kernel) (by decide +kernel), by decide +kernel, by decide +kernel⟩
theorem gw_X12_unread : (kX12_unread.2.2.2.2.2.flatMap (zrq zTab kX12_unread.1.cls)).all goodWord = true := by decide +kernel
set_option maxRecDepth 1000000 in
theorem wd_X12_unread : ∀ w ∈ kX12_unread.2.2.2.2.2.flatMap (zrq zTab kX12_unread.1.cls), w ∈ lw_tbl := zplaces [1803, 1802, 143, 176, 1800, 1382] rfl
theorem ok_X12_fallAway : zokM zTab kX12_fallAway := ⟨zwdf_ok rfl _ 0 (by decide +kernel) (by decide +kernel), by decide +kernel, by decide +kernel⟩
theorem gw_X12_fallAway : (kX12_fallAway.2.2.2.2.2.flatMap (zrq zTab kX12_fallAway.1.cls)).all goodWord = true := by decide +kernel
set_option maxRecDepth 1000000 in
theorem wd_X12_fallAway : ∀ w ∈ kX12_fallAway.2.2.2.2.2.flatMap (zrq zTab kX12_fallAway.1.cls), w ∈ lw_tbl := zplaces [1803, 1802, 143, 176, 1800, 1382, 1380, 1377, 1380, 1382, 1382, 1380] rfl
theorem ok_X12_tail : zokM zTab kX12_tail := ⟨zwdf_ok rfl _ 0 (by decide +kernel) (by decide +kernel), by decide +kernel, by decide +kernel⟩
theorem gw_X12_tail : (kX12_tail.2.2.2.2.2.flatMap (zrq zTab kX12_tail.1.cls)).all goodWord = true := by decide +kernel
set_option maxRecDepth 1000000 in
theorem wd_X12_tail : ∀ w ∈ kX12_tail.2.2.2.2.2.flatMap (zrq zTab kX12_tail.1.cls), w ∈ lw_tbl := zplaces [1378, 1378, 1380, 1378, 1377, 1380, 1378, 1380, 1818, 1817, 176, 1816] rfl
theorem ok_X12_longest : zokM zTab kX12_longest := ⟨zwdf_ok rfl _ 0 (by decide +kernel) (by decide +kernel), by decide +kernel, by decide +kernel⟩
theorem gw_X12_longest : (kX12_longest.2.2.2.2.2.flatMap (zrq zTab kX12_longest.1.cls)).all goodWord = true := by decide +kernel
set_option maxRecDepth 1000000 in
theorem wd_X12_longest : ∀ w ∈ kX12_longest.2.2.2.2.2.flatMap (zrq zTab kX12_longest.1.cls), w ∈ lw_tbl := zplaces [1382, 1382, 1377, 1818, 1817, 176, 1816] rfl
theorem ok_X12_stays : zokM zTab kX12_stays := ⟨zwdf_ok rfl _ 0 (by decide +kernel) (by decide +kernel), by decide +kernel, by decide +kernel⟩
theorem gw_X12_stays : (kX12_stays.2.2.2.2.2.flatMap (zrq zTab kX12_stays.1.cls)).all goodWord = true := by decide +kernel
set_option maxRecDepth 1000000 in
theorem wd_X12_stays : ∀ w ∈ kX12_stays.2.2.2.2.2.flatMap (zrq zTab kX12_stays.1.cls), w ∈ lw_tbl := zplaces [1377] rfl
theorem ok_X12_orbits : zokM zTab kX12_orbits := ⟨zwdf_ok rfl _ 0 (by decide +kernel) (by decide +kernel), by decide +kernel, by decide +kernel⟩
theorem gw_X12_orbits : (kX12_orbits.2.2.2.2.2.flatMap (zrq zTab kX12_orbits.1.cls)).all goodWord = true := by decide +kernel
set_option maxRecDepth 1000000 in
theorem wd_X12_orbits : ∀ w ∈ kX12_orbits.2.2.2.2.2.flatMap (zrq zTab kX12_orbits.1.cls), w ∈ lw_tbl := zplaces [1343, 1630, 1629, 115, 176, 1627, 1663, 1662, 118, 176, 1660, 1515, 1514, 176, 1513, 1762, 1761, 138, 176, 1759, 1799, 1798, 142, 176, 1796, 1807, 1806, 144, 176, 1804, 1811, 1810, 145, 176, 1808, 1815, 1814, 146, 176, 1812, 1822, 1821, 147, 176, 1819] rfl
theorem ok_X12_layDrifts : zokM zTab kX12_layDrifts := ⟨zwdf_ok rfl _ 0 (by decide +kernel) (by decide +kernel), by decide +kernel, by decide +kernel⟩
theorem gw_X12_layDrifts : (kX12_layDrifts.2.2.2.2.2.flatMap (zrq zTab kX12_layDrifts.1.cls)).all goodWord = true := by decide +kernel
set_option maxRecDepth 1000000 in
theorem wd_X12_layDrifts : ∀ w ∈ kX12_layDrifts.2.2.2.2.2.flatMap (zrq zTab kX12_layDrifts.1.cls), w ∈ lw_tbl := zplaces [1383, 1365, 1655, 1654, 117, 176, 1652] rfl
theorem ok_X12_best : zokM zTab kX12_best := ⟨zwdf_ok rfl _ 0 (by decide +kernel) (by decide +kernel), by decide +kernel, by decide +kernel⟩
theorem gw_X12_best : (kX12_best.2.2.2.2.2.flatMap (zrq zTab kX12_best.1.cls)).all goodWord = true := by decide +kernel
set_option maxRecDepth 1000000 in
theorem wd_X12_best : ∀ w ∈ kX12_best.2.2.2.2.2.flatMap (zrq zTab kX12_best.1.cls), w ∈ lw_tbl := zplaces [1767, 1366, 1383, 1377, 1734, 1733, 176, 1732, 1818, 1817, 176, 1816, 1585, 1584, 176, 1583, 1383] rfl
theorem ok_X12_everybody : zokM zTab kX12_everybody := ⟨zwdf_ok rfl _ 0 (by decide +kernel) (by decide +kernel), by decide +kernel, by decide +kernel⟩
theorem gw_X12_everybody : (kX12_everybody.2.2.2.2.2.flatMap (zrq zTab kX12_everybody.1.cls)).all goodWord = true := by decide +kernel
set_option maxRecDepth 1000000 in
theorem wd_X12_everybody : ∀ w ∈ kX12_everybody.2.2.2.2.2.flatMap (zrq zTab kX12_everybody.1.cls), w ∈ lw_tbl := zplaces [1366] rfl
theorem ok_X12_rotaAt : zokM zTab kX12_rotaAt := ⟨zwdf_ok rfl _ 0 (by decide +kernel) (by decide +kernel), by decide +kernel, by decide +kernel⟩
theorem gw_X12_rotaAt : (kX12_rotaAt.2.2.2.2.2.flatMap (zrq zTab kX12_rotaAt.1.cls)).all goodWord = true := by decide +kernel
set_option maxRecDepth 1000000 in
theorem wd_X12_rotaAt : ∀ w ∈ kX12_rotaAt.2.2.2.2.2.flatMap (zrq zTab kX12_rotaAt.1.cls), w ∈ lw_tbl := zplaces [1365, 1383, 1377, 1383, 1377] rfl
theorem ok_X12_rota : zokM zTab kX12_rota := ⟨zwdf_ok rfl _ 0 (by decide +kernel) (by decide +kernel), by decide +kernel, by decide +kernel⟩
theorem gw_X12_rota : (kX12_rota.2.2.2.2.2.flatMap (zrq zTab kX12_rota.1.cls)).all goodWord = true := by decide +kernel
set_option maxRecDepth 1000000 in
theorem wd_X12_rota : ∀ w ∈ kX12_rota.2.2.2.2.2.flatMap (zrq zTab kX12_rota.1.cls), w ∈ lw_tbl := zplaces [1343, 1515, 1514, 176, 1513, 1630, 1629, 115, 176, 1627, 1366, 1515, 1514, 176, 1513, 1515, 1514, 176, 1513, 1762, 1761, 138, 176, 1759, 1830, 1829, 148, 176, 1827, 1834, 1833, 149, 176, 1831, 1838, 1837, 150, 176, 1835, 1383, 1365, 1842, 1841, 151, 176, 1839] rfl
theorem ok_X12_common : zokM zTab kX12_common := ⟨zwdf_ok rfl _ 0 (by decide +kernel) (by decide +kernel), by decide +kernel, by decide +kernel⟩
theorem gw_X12_common : (kX12_common.2.2.2.2.2.flatMap (zrq zTab kX12_common.1.cls)).all goodWord = true := by decide +kernel
set_option maxRecDepth 1000000 in
theorem wd_X12_common : ∀ w ∈ kX12_common.2.2.2.2.2.flatMap (zrq zTab kX12_common.1.cls), w ∈ lw_tbl := zplaces [] rfl
theorem ok_X12_mean : zokM zTab kX12_mean := ⟨zwdf_ok rfl _ 0 (by decide +kernel) (by decide +kernel), by decide +kernel, by decide +kernel⟩
theorem gw_X12_mean : (kX12_mean.2.2.2.2.2.flatMap (zrq zTab kX12_mean.1.cls)).all goodWord = true := by decide +kernel
set_option maxRecDepth 1000000 in
theorem wd_X12_mean : ∀ w ∈ kX12_mean.2.2.2.2.2.flatMap (zrq zTab kX12_mean.1.cls), w ∈ lw_tbl := zplaces [1343, 1515, 1514, 176, 1513, 1630, 1629, 115, 176, 1627, 1366, 1847, 1762, 1761, 138, 176, 1759, 1830, 1829, 148, 176, 1827, 1366, 1366, 1383, 1377, 1383, 1383, 1365, 1850, 1849, 176, 1848] rfl
theorem ok_X12_elders : zokM zTab kX12_elders := ⟨zwdf_ok rfl _ 0 (by decide +kernel) (by decide +kernel), by decide +kernel, by decide +kernel⟩
theorem gw_X12_elders : (kX12_elders.2.2.2.2.2.flatMap (zrq zTab kX12_elders.1.cls)).all goodWord = true := by decide +kernel
set_option maxRecDepth 1000000 in
theorem wd_X12_elders : ∀ w ∈ kX12_elders.2.2.2.2.2.flatMap (zrq zTab kX12_elders.1.cls), w ∈ lw_tbl := zplaces [1343, 1515, 1514, 176, 1513, 1641, 1640, 176, 1639, 1758, 1757, 137, 176, 1755, 1378, 1379, 1366, 1379, 1378, 1377, 1378, 1379, 1378, 1378] rfl
theorem ok_X12_wordsIn : zokM zTab kX12_wordsIn := ⟨zwdf_ok rfl _ 0 (by decide +kernel) (by decide +kernel), by decide +kernel, by decide +kernel⟩
theorem gw_X12_wordsIn : (kX12_wordsIn.2.2.2.2.2.flatMap (zrq zTab kX12_wordsIn.1.cls)).all goodWord = true := by decide +kernel
set_option maxRecDepth 1000000 in
theorem wd_X12_wordsIn : ∀ w ∈ kX12_wordsIn.2.2.2.2.2.flatMap (zrq zTab kX12_wordsIn.1.cls), w ∈ lw_tbl := zplaces [1367, 1647, 1646, 176, 1645, 1644, 1643, 176, 1642, 1367] rfl
theorem ok_X12_play_ : zokM zTab kX12_play_ := ⟨zwdf_ok rfl _ 0 (by decide +kernel) (by decide +kernel), by decide +kernel, by decide +kernel⟩
theorem gw_X12_play_ : (kX12_play_.2.2.2.2.2.flatMap (zrq zTab kX12_play_.1.cls)).all goodWord = true := by decide +kernel
set_option maxRecDepth 1000000 in
theorem wd_X12_play_ : ∀ w ∈ kX12_play_.2.2.2.2.2.flatMap (zrq zTab kX12_play_.1.cls), w ∈ lw_tbl := zplaces [1343, 1515, 1514, 176, 1513, 1515, 1514, 176, 1513, 1630, 1629, 115, 176, 1627, 1834, 1833, 149, 176, 1831, 1515, 1514, 176, 1513, 1834, 1833, 149, 176, 1831, 1515, 1514, 176, 1513, 1762, 1761, 138, 176, 1759, 1383, 1862, 1861, 152, 176, 1859, 1838, 1837, 150, 176, 1835, 1383, 1365, 1366, 1734, 1733, 176, 1732, 1383, 1377, 1365, 1383, 1365] rfl
theorem ok_X12_facts : zokM zTab kX12_facts := ⟨zwdf_ok rfl _ 0 (by decide +kernel) (by decide +kernel), by decide +kernel, by decide +kernel⟩
theorem gw_X12_facts : (kX12_facts.2.2.2.2.2.flatMap (zrq zTab kX12_facts.1.cls)).all goodWord = true := by decide +kernel
set_option maxRecDepth 1000000 in
theorem wd_X12_facts : ∀ w ∈ kX12_facts.2.2.2.2.2.flatMap (zrq zTab kX12_facts.1.cls), w ∈ lw_tbl := zplaces [1351, 1384] rfl
theorem ok_X12_factOf : zokM zTab kX12_factOf := ⟨zwdf_ok rfl _ 0 (by decide +kernel) (by decide +kernel), by decide +kernel, by decide +kernel⟩
theorem gw_X12_factOf : (kX12_factOf.2.2.2.2.2.flatMap (zrq zTab kX12_factOf.1.cls)).all goodWord = true := by decide +kernel
set_option maxRecDepth 1000000 in
theorem wd_X12_factOf : ∀ w ∈ kX12_factOf.2.2.2.2.2.flatMap (zrq zTab kX12_factOf.1.cls), w ∈ lw_tbl := zplaces [1351, 1384] rfl
theorem ok_X12_hasSight : zokM zTab kX12_hasSight := ⟨zwdf_ok rfl _ 0 (by decide +kernel) (by decide +kernel), by decide +kernel, by decide +kernel⟩
theorem gw_X12_hasSight : (kX12_hasSight.2.2.2.2.2.flatMap (zrq zTab kX12_hasSight.1.cls)).all goodWord = true := by decide +kernel
set_option maxRecDepth 1000000 in
theorem wd_X12_hasSight : ∀ w ∈ kX12_hasSight.2.2.2.2.2.flatMap (zrq zTab kX12_hasSight.1.cls), w ∈ lw_tbl := zplaces [1384, 1523, 1522, 97, 176, 1520] rfl
theorem ok_X12_fact : zokM zTab kX12_fact := ⟨zwdf_ok rfl _ 0 (by decide +kernel) (by decide +kernel), by decide +kernel, by decide +kernel⟩
theorem gw_X12_fact : (kX12_fact.2.2.2.2.2.flatMap (zrq zTab kX12_fact.1.cls)).all goodWord = true := by decide +kernel
set_option maxRecDepth 1000000 in
theorem wd_X12_fact : ∀ w ∈ kX12_fact.2.2.2.2.2.flatMap (zrq zTab kX12_fact.1.cls), w ∈ lw_tbl := zplaces [1343, 1870, 1869, 153, 176, 1867, 1874, 1873, 154, 176, 1871, 1874, 1873, 154, 176, 1871, 1515, 1514, 176, 1513, 1515, 1514, 176, 1513, 1878, 1877, 155, 176, 1875] rfl
theorem ok_X12_mayBe : zokM zTab kX12_mayBe := ⟨zwdf_ok rfl _ 0 (by decide +kernel) (by decide +kernel), by decide +kernel, by decide +kernel⟩
theorem gw_X12_mayBe : (kX12_mayBe.2.2.2.2.2.flatMap (zrq zTab kX12_mayBe.1.cls)).all goodWord = true := by decide +kernel
set_option maxRecDepth 1000000 in
theorem wd_X12_mayBe : ∀ w ∈ kX12_mayBe.2.2.2.2.2.flatMap (zrq zTab kX12_mayBe.1.cls), w ∈ lw_tbl := zplaces [1874, 1873, 154, 176, 1871, 1878, 1877, 155, 176, 1875, 1878, 1877, 155, 176, 1875] rfl
