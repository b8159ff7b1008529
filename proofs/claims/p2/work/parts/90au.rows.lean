theorem ok_X12_stepBy : zokM zTab kX12_stepBy := ⟨by decide +kernel, by decide +kernel, by decide +kernel⟩
theorem gw_X12_stepBy : (kX12_stepBy.2.2.2.2.2.flatMap (zrq zTab kX12_stepBy.1.cls)).all goodWord = true := by decide +kernel
theorem wd_X12_stepBy : ∀ w ∈ kX12_stepBy.2.2.2.2.2.flatMap (zrq zTab kX12_stepBy.1.cls), w ∈ lw_tbl := zplaces [1551, 1552, 1553, 1554, 1555] (by decide +kernel)
theorem ok_X12_stepLine : zokM zTab kX12_stepLine := ⟨by decide +kernel, by decide +kernel, by decide +kernel⟩
theorem gw_X12_stepLine : (kX12_stepLine.2.2.2.2.2.flatMap (zrq zTab kX12_stepLine.1.cls)).all goodWord = true := by decide +kernel
theorem wd_X12_stepLine : ∀ w ∈ kX12_stepLine.2.2.2.2.2.flatMap (zrq zTab kX12_stepLine.1.cls), w ∈ lw_tbl := zplaces [1361, 1563, 1562, 105, 176, 1560, 1361, 1563, 1562, 105, 176, 1560, 1531, 1530, 99, 176, 1528, 1362, 1567, 1566, 106, 176, 1564, 1361, 1361, 1361, 1361, 1362, 1361] (by decide +kernel)
theorem ok_X12_bookLine : zokM zTab kX12_bookLine := ⟨by decide +kernel, by decide +kernel, by decide +kernel⟩
theorem gw_X12_bookLine : (kX12_bookLine.2.2.2.2.2.flatMap (zrq zTab kX12_bookLine.1.cls)).all goodWord = true := by decide +kernel
theorem wd_X12_bookLine : ∀ w ∈ kX12_bookLine.2.2.2.2.2.flatMap (zrq zTab kX12_bookLine.1.cls), w ∈ lw_tbl := zplaces [1550, 1549, 176, 1548, 1559, 1558, 104, 176, 1556, 1576, 1577, 1578, 1575, 1574, 108, 176, 1572, 1578, 1582, 1581, 109, 176, 1579, 1361, 1361, 1585, 1584, 176, 1583, 1531, 1530, 99, 176, 1528, 1576, 1589, 1588, 110, 176, 1586, 1361, 1362, 1577, 1567, 1566, 106, 176, 1564, 1567, 1566, 106, 176, 1564, 1362, 1515, 1514, 176, 1513, 1361, 1362, 1362] (by decide +kernel)
theorem ok_X12_deedBy : zokM zTab kX12_deedBy := ⟨by decide +kernel, by decide +kernel, by decide +kernel⟩
theorem gw_X12_deedBy : (kX12_deedBy.2.2.2.2.2.flatMap (zrq zTab kX12_deedBy.1.cls)).all goodWord = true := by decide +kernel
theorem wd_X12_deedBy : ∀ w ∈ kX12_deedBy.2.2.2.2.2.flatMap (zrq zTab kX12_deedBy.1.cls), w ∈ lw_tbl := zplaces [1600, 1601, 1602, 1603, 1604, 1605] (by decide +kernel)
theorem ok_X12_keep : zokM zTab kX12_keep := ⟨by decide +kernel, by decide +kernel, by decide +kernel⟩
theorem gw_X12_keep : (kX12_keep.2.2.2.2.2.flatMap (zrq zTab kX12_keep.1.cls)).all goodWord = true := by decide +kernel
theorem wd_X12_keep : ∀ w ∈ kX12_keep.2.2.2.2.2.flatMap (zrq zTab kX12_keep.1.cls), w ∈ lw_tbl := zplaces [1361, 1361, 1362, 1361] (by decide +kernel)
theorem ok_X12_yearLine : zokM zTab kX12_yearLine := ⟨by decide +kernel, by decide +kernel, by decide +kernel⟩
theorem gw_X12_yearLine : (kX12_yearLine.2.2.2.2.2.flatMap (zrq zTab kX12_yearLine.1.cls)).all goodWord = true := by decide +kernel
theorem wd_X12_yearLine : ∀ w ∈ kX12_yearLine.2.2.2.2.2.flatMap (zrq zTab kX12_yearLine.1.cls), w ∈ lw_tbl := zplaces [1599, 1598, 176, 1597, 1575, 1574, 108, 176, 1572, 1582, 1581, 109, 176, 1579, 1531, 1530, 99, 176, 1528, 1362, 1362, 1567, 1566, 106, 176, 1564, 1567, 1566, 106, 176, 1564, 1362, 1571, 1570, 107, 176, 1568, 1362, 1609, 1608, 112, 176, 1606] (by decide +kernel)
theorem ok_X12_sightLine : zokM zTab kX12_sightLine := ⟨by decide +kernel, by decide +kernel, by decide +kernel⟩
theorem gw_X12_sightLine : (kX12_sightLine.2.2.2.2.2.flatMap (zrq zTab kX12_sightLine.1.cls)).all goodWord = true := by decide +kernel
theorem wd_X12_sightLine : ∀ w ∈ kX12_sightLine.2.2.2.2.2.flatMap (zrq zTab kX12_sightLine.1.cls), w ∈ lw_tbl := zplaces [1614, 1575, 1574, 108, 176, 1572, 1582, 1581, 109, 176, 1579, 1531, 1530, 99, 176, 1528, 1567, 1566, 106, 176, 1564, 1589, 1588, 110, 176, 1586, 1609, 1608, 112, 176, 1606] (by decide +kernel)
theorem ok_X12_lineOf : zokM zTab kX12_lineOf := ⟨by decide +kernel, by decide +kernel, by decide +kernel⟩
theorem gw_X12_lineOf : (kX12_lineOf.2.2.2.2.2.flatMap (zrq zTab kX12_lineOf.1.cls)).all goodWord = true := by decide +kernel
theorem wd_X12_lineOf : ∀ w ∈ kX12_lineOf.2.2.2.2.2.flatMap (zrq zTab kX12_lineOf.1.cls), w ∈ lw_tbl := zplaces [1547, 1546, 103, 176, 1544, 1596, 1595, 111, 176, 1593, 1613, 1612, 113, 176, 1610] (by decide +kernel)
theorem ok_X12_lines : zokM zTab kX12_lines := ⟨by decide +kernel, by decide +kernel, by decide +kernel⟩
theorem gw_X12_lines : (kX12_lines.2.2.2.2.2.flatMap (zrq zTab kX12_lines.1.cls)).all goodWord = true := by decide +kernel
theorem wd_X12_lines : ∀ w ∈ kX12_lines.2.2.2.2.2.flatMap (zrq zTab kX12_lines.1.cls), w ∈ lw_tbl := zplaces [1355, 1355, 1357, 1354, 1543, 1542, 102, 176, 1540, 1355, 1575, 1574, 108, 176, 1572, 1531, 1530, 99, 176, 1528] (by decide +kernel)
theorem ok_X12_readText : zokM zTab kX12_readText := ⟨by decide +kernel, by decide +kernel, by decide +kernel⟩
theorem gw_X12_readText : (kX12_readText.2.2.2.2.2.flatMap (zrq zTab kX12_readText.1.cls)).all goodWord = true := by decide +kernel
theorem wd_X12_readText : ∀ w ∈ kX12_readText.2.2.2.2.2.flatMap (zrq zTab kX12_readText.1.cls), w ∈ lw_tbl := zplaces [1361, 1515, 1514, 176, 1513, 1352, 1359, 1531, 1530, 99, 176, 1528, 1539, 1538, 101, 176, 1536, 1346, 1359, 1347, 1358, 1359, 1360, 1346] (by decide +kernel)
