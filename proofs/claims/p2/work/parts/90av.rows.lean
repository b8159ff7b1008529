theorem ok_X12_store : zokM zTab kX12_store := ⟨by decide +kernel, by decide +kernel, by decide +kernel⟩
theorem gw_X12_store : (kX12_store.2.2.2.2.2.flatMap (zrq zTab kX12_store.1.cls)).all goodWord = true := by decide +kernel
theorem wd_X12_store : ∀ w ∈ kX12_store.2.2.2.2.2.flatMap (zrq zTab kX12_store.1.cls), w ∈ lw_tbl := zplaces [1361] (by decide +kernel)
theorem ok_X12_text : zokM zTab kX12_text := ⟨by decide +kernel, by decide +kernel, by decide +kernel⟩
theorem gw_X12_text : (kX12_text.2.2.2.2.2.flatMap (zrq zTab kX12_text.1.cls)).all goodWord = true := by decide +kernel
theorem wd_X12_text : ∀ w ∈ kX12_text.2.2.2.2.2.flatMap (zrq zTab kX12_text.1.cls), w ∈ lw_tbl := zplaces [1343, 1345, 1353, 1345, 1346, 1347, 1515, 1514, 176, 1513, 1348, 1523, 1522, 97, 176, 1520, 1527, 1526, 98, 176, 1524, 1348, 1348, 1349, 1618, 1617, 114, 176, 1615, 1364, 1350, 1618, 1617, 114, 176, 1615, 1351, 1618, 1617, 114, 176, 1615] (by decide +kernel)
theorem ok_X12_fault : zokM zTab kX12_fault := ⟨by decide +kernel, by decide +kernel, by decide +kernel⟩
theorem gw_X12_fault : (kX12_fault.2.2.2.2.2.flatMap (zrq zTab kX12_fault.1.cls)).all goodWord = true := by decide +kernel
theorem wd_X12_fault : ∀ w ∈ kX12_fault.2.2.2.2.2.flatMap (zrq zTab kX12_fault.1.cls), w ∈ lw_tbl := zplaces [1343, 1346, 1347] (by decide +kernel)
theorem ok_X12_of : zokM zTab kX12_of := ⟨by decide +kernel, by decide +kernel, by decide +kernel⟩
theorem gw_X12_of : (kX12_of.2.2.2.2.2.flatMap (zrq zTab kX12_of.1.cls)).all goodWord = true := by decide +kernel
theorem wd_X12_of : ∀ w ∈ kX12_of.2.2.2.2.2.flatMap (zrq zTab kX12_of.1.cls), w ∈ lw_tbl := zplaces [1349, 1363] (by decide +kernel)
theorem ok_X12_hand : zokM zTab kX12_hand := ⟨by decide +kernel, by decide +kernel, by decide +kernel⟩
theorem gw_X12_hand : (kX12_hand.2.2.2.2.2.flatMap (zrq zTab kX12_hand.1.cls)).all goodWord = true := by decide +kernel
theorem wd_X12_hand : ∀ w ∈ kX12_hand.2.2.2.2.2.flatMap (zrq zTab kX12_hand.1.cls), w ∈ lw_tbl := zplaces [1523, 1522, 97, 176, 1520, 1363, 1634, 1633, 116, 176, 1631, 1365, 1634, 1633, 116, 176, 1631, 1366] (by decide +kernel)
theorem ok_X12_isText : zokM zTab kX12_isText := ⟨by decide +kernel, by decide +kernel, by decide +kernel⟩
theorem gw_X12_isText : (kX12_isText.2.2.2.2.2.flatMap (zrq zTab kX12_isText.1.cls)).all goodWord = true := by decide +kernel
theorem wd_X12_isText : ∀ w ∈ kX12_isText.2.2.2.2.2.flatMap (zrq zTab kX12_isText.1.cls), w ∈ lw_tbl := zplaces [1515, 1514, 176, 1513] (by decide +kernel)
theorem ok_X12_isReader : zokM zTab kX12_isReader := ⟨by decide +kernel, by decide +kernel, by decide +kernel⟩
theorem gw_X12_isReader : (kX12_isReader.2.2.2.2.2.flatMap (zrq zTab kX12_isReader.1.cls)).all goodWord = true := by decide +kernel
theorem wd_X12_isReader : ∀ w ∈ kX12_isReader.2.2.2.2.2.flatMap (zrq zTab kX12_isReader.1.cls), w ∈ lw_tbl := zplaces [1366, 1515, 1514, 176, 1513] (by decide +kernel)
theorem ok_X12_sizeOf : zokM zTab kX12_sizeOf := ⟨by decide +kernel, by decide +kernel, by decide +kernel⟩
theorem gw_X12_sizeOf : (kX12_sizeOf.2.2.2.2.2.flatMap (zrq zTab kX12_sizeOf.1.cls)).all goodWord = true := by decide +kernel
theorem wd_X12_sizeOf : ∀ w ∈ kX12_sizeOf.2.2.2.2.2.flatMap (zrq zTab kX12_sizeOf.1.cls), w ∈ lw_tbl := zplaces [1592, 1591, 176, 1590] (by decide +kernel)
theorem ok_X12_spell : zokM zTab kX12_spell := ⟨by decide +kernel, by decide +kernel, by decide +kernel⟩
theorem gw_X12_spell : (kX12_spell.2.2.2.2.2.flatMap (zrq zTab kX12_spell.1.cls)).all goodWord = true := by decide +kernel
theorem wd_X12_spell : ∀ w ∈ kX12_spell.2.2.2.2.2.flatMap (zrq zTab kX12_spell.1.cls), w ∈ lw_tbl := zplaces [1644, 1643, 176, 1642, 1592, 1591, 176, 1590] (by decide +kernel)
theorem ok_X12_numberOf : zokM zTab kX12_numberOf := ⟨by decide +kernel, by decide +kernel, by decide +kernel⟩
theorem gw_X12_numberOf : (kX12_numberOf.2.2.2.2.2.flatMap (zrq zTab kX12_numberOf.1.cls)).all goodWord = true := by decide +kernel
theorem wd_X12_numberOf : ∀ w ∈ kX12_numberOf.2.2.2.2.2.flatMap (zrq zTab kX12_numberOf.1.cls), w ∈ lw_tbl := zplaces [1367, 1592, 1591, 176, 1590] (by decide +kernel)
theorem ok_X12_shift : zokM zTab kX12_shift := ⟨by decide +kernel, by decide +kernel, by decide +kernel⟩
theorem gw_X12_shift : (kX12_shift.2.2.2.2.2.flatMap (zrq zTab kX12_shift.1.cls)).all goodWord = true := by decide +kernel
theorem wd_X12_shift : ∀ w ∈ kX12_shift.2.2.2.2.2.flatMap (zrq zTab kX12_shift.1.cls), w ∈ lw_tbl := zplaces [1369, 1367, 1367, 1634, 1633, 116, 176, 1631, 1367] (by decide +kernel)
theorem ok_X12_drop : zokM zTab kX12_drop := ⟨by decide +kernel, by decide +kernel, by decide +kernel⟩
theorem gw_X12_drop : (kX12_drop.2.2.2.2.2.flatMap (zrq zTab kX12_drop.1.cls)).all goodWord = true := by decide +kernel
theorem wd_X12_drop : ∀ w ∈ kX12_drop.2.2.2.2.2.flatMap (zrq zTab kX12_drop.1.cls), w ∈ lw_tbl := zplaces [1369, 1369, 1367, 1367, 1369, 1369] (by decide +kernel)
theorem ok_X12_twice : zokM zTab kX12_twice := ⟨by decide +kernel, by decide +kernel, by decide +kernel⟩
theorem gw_X12_twice : (kX12_twice.2.2.2.2.2.flatMap (zrq zTab kX12_twice.1.cls)).all goodWord = true := by decide +kernel
theorem wd_X12_twice : ∀ w ∈ kX12_twice.2.2.2.2.2.flatMap (zrq zTab kX12_twice.1.cls), w ∈ lw_tbl := zplaces [1369, 1369, 1369, 1367, 1367, 1369, 1369] (by decide +kernel)
theorem ok_X12_swap : zokM zTab kX12_swap := ⟨by decide +kernel, by decide +kernel, by decide +kernel⟩
theorem gw_X12_swap : (kX12_swap.2.2.2.2.2.flatMap (zrq zTab kX12_swap.1.cls)).all goodWord = true := by decide +kernel
theorem wd_X12_swap : ∀ w ∈ kX12_swap.2.2.2.2.2.flatMap (zrq zTab kX12_swap.1.cls), w ∈ lw_tbl := zplaces [1367, 1367, 1367, 1367] (by decide +kernel)
theorem ok_X12_step : zokM zTab kX12_step := ⟨by decide +kernel, by decide +kernel, by decide +kernel⟩
theorem gw_X12_step : (kX12_step.2.2.2.2.2.flatMap (zrq zTab kX12_step.1.cls)).all goodWord = true := by decide +kernel
theorem wd_X12_step : ∀ w ∈ kX12_step.2.2.2.2.2.flatMap (zrq zTab kX12_step.1.cls), w ∈ lw_tbl := zplaces [1675, 1674, 121, 176, 1672, 1679, 1678, 122, 176, 1676, 1683, 1682, 123, 176, 1680, 1369, 1687, 1686, 124, 176, 1684, 1369, 1687, 1686, 124, 176, 1684] (by decide +kernel)
theorem ok_X12_readBy : zokM zTab kX12_readBy := ⟨by decide +kernel, by decide +kernel, by decide +kernel⟩
theorem gw_X12_readBy : (kX12_readBy.2.2.2.2.2.flatMap (zrq zTab kX12_readBy.1.cls)).all goodWord = true := by decide +kernel
theorem wd_X12_readBy : ∀ w ∈ kX12_readBy.2.2.2.2.2.flatMap (zrq zTab kX12_readBy.1.cls), w ∈ lw_tbl := zplaces [1367, 1647, 1646, 176, 1645, 1644, 1643, 176, 1642, 1369, 1634, 1633, 116, 176, 1631, 1634, 1633, 116, 176, 1631, 1634, 1633, 116, 176, 1631, 1671, 1670, 120, 176, 1668, 1369, 1691, 1690, 125, 176, 1688] (by decide +kernel)
theorem ok_X12_apart : zokM zTab kX12_apart := ⟨by decide +kernel, by decide +kernel, by decide +kernel⟩
theorem gw_X12_apart : (kX12_apart.2.2.2.2.2.flatMap (zrq zTab kX12_apart.1.cls)).all goodWord = true := by decide +kernel
theorem wd_X12_apart : ∀ w ∈ kX12_apart.2.2.2.2.2.flatMap (zrq zTab kX12_apart.1.cls), w ∈ lw_tbl := zplaces [1644, 1643, 176, 1642, 1644, 1643, 176, 1642, 1367, 1647, 1646, 176, 1645, 1368, 1647, 1646, 176, 1645, 1370, 1367, 1368, 1370, 1370, 1585, 1584, 176, 1583, 1585, 1584, 176, 1583, 1370, 1370] (by decide +kernel)
