theorem ok_X12_in : zokM zTab kX12_in := ⟨by decide +kernel, by decide +kernel, by decide +kernel⟩
theorem gw_X12_in : (kX12_in.2.2.2.2.2.flatMap (zrq zTab kX12_in.1.cls)).all goodWord = true := by decide +kernel
set_option maxRecDepth 1000000 in
theorem wd_X12_in : ∀ w ∈ kX12_in.2.2.2.2.2.flatMap (zrq zTab kX12_in.1.cls), w ∈ lw_tbl := zplaces [] rfl
theorem ok_X12_has : zokM zTab kX12_has := ⟨by decide +kernel, by decide +kernel, by decide +kernel⟩
theorem gw_X12_has : (kX12_has.2.2.2.2.2.flatMap (zrq zTab kX12_has.1.cls)).all goodWord = true := by decide +kernel
set_option maxRecDepth 1000000 in
theorem wd_X12_has : ∀ w ∈ kX12_has.2.2.2.2.2.flatMap (zrq zTab kX12_has.1.cls), w ∈ lw_tbl := zplaces [] rfl
theorem ok_X12_greater : zokM zTab kX12_greater := ⟨by decide +kernel, by decide +kernel, by decide +kernel⟩
theorem gw_X12_greater : (kX12_greater.2.2.2.2.2.flatMap (zrq zTab kX12_greater.1.cls)).all goodWord = true := by decide +kernel
set_option maxRecDepth 1000000 in
theorem wd_X12_greater : ∀ w ∈ kX12_greater.2.2.2.2.2.flatMap (zrq zTab kX12_greater.1.cls), w ∈ lw_tbl := zplaces [] rfl
theorem ok_X12_lesser : zokM zTab kX12_lesser := ⟨by decide +kernel, by decide +kernel, by decide +kernel⟩
theorem gw_X12_lesser : (kX12_lesser.2.2.2.2.2.flatMap (zrq zTab kX12_lesser.1.cls)).all goodWord = true := by decide +kernel
set_option maxRecDepth 1000000 in
theorem wd_X12_lesser : ∀ w ∈ kX12_lesser.2.2.2.2.2.flatMap (zrq zTab kX12_lesser.1.cls), w ∈ lw_tbl := zplaces [] rfl
theorem ok_X12_copyRow : zokM zTab kX12_copyRow := ⟨by decide +kernel, by decide +kernel, by decide +kernel⟩
theorem gw_X12_copyRow : (kX12_copyRow.2.2.2.2.2.flatMap (zrq zTab kX12_copyRow.1.cls)).all goodWord = true := by decide +kernel
set_option maxRecDepth 1000000 in
theorem wd_X12_copyRow : ∀ w ∈ kX12_copyRow.2.2.2.2.2.flatMap (zrq zTab kX12_copyRow.1.cls), w ∈ lw_tbl := zplaces [] rfl
theorem ok_X12_copyAll : zokM zTab kX12_copyAll := ⟨by decide +kernel, by decide +kernel, by decide +kernel⟩
theorem gw_X12_copyAll : (kX12_copyAll.2.2.2.2.2.flatMap (zrq zTab kX12_copyAll.1.cls)).all goodWord = true := by decide +kernel
set_option maxRecDepth 1000000 in
theorem wd_X12_copyAll : ∀ w ∈ kX12_copyAll.2.2.2.2.2.flatMap (zrq zTab kX12_copyAll.1.cls), w ∈ lw_tbl := zplaces [1344, 1344, 1345, 1994, 1993, 176, 1992, 1346, 1994, 1993, 176, 1992, 1347, 1994, 1993, 176, 1992, 1348, 1994, 1993, 176, 1992, 1349, 1994, 1993, 176, 1992, 1350, 1994, 1993, 176, 1992, 1351, 1994, 1993, 176, 1992] rfl
theorem ok_X12_is : zokM zTab kX12_is := ⟨by decide +kernel, by decide +kernel, by decide +kernel⟩
theorem gw_X12_is : (kX12_is.2.2.2.2.2.flatMap (zrq zTab kX12_is.1.cls)).all goodWord = true := by decide +kernel
set_option maxRecDepth 1000000 in
theorem wd_X12_is : ∀ w ∈ kX12_is.2.2.2.2.2.flatMap (zrq zTab kX12_is.1.cls), w ∈ lw_tbl := zplaces [1348, 1515, 1514, 176, 1513] rfl
theorem ok_X12_feed : zokM zTab kX12_feed := ⟨by decide +kernel, by decide +kernel, by decide +kernel⟩
theorem gw_X12_feed : (kX12_feed.2.2.2.2.2.flatMap (zrq zTab kX12_feed.1.cls)).all goodWord = true := by decide +kernel
set_option maxRecDepth 1000000 in
theorem wd_X12_feed : ∀ w ∈ kX12_feed.2.2.2.2.2.flatMap (zrq zTab kX12_feed.1.cls), w ∈ lw_tbl := zplaces [1343, 1345, 1508, 1507, 96, 176, 1505, 1508, 1507, 96, 176, 1505, 1508, 1507, 96, 176, 1505, 1508, 1507, 96, 176, 1505, 1508, 1507, 96, 176, 1505, 1345] rfl
theorem ok_X12_four : zokM zTab kX12_four := ⟨by decide +kernel, by decide +kernel, by decide +kernel⟩
theorem gw_X12_four : (kX12_four.2.2.2.2.2.flatMap (zrq zTab kX12_four.1.cls)).all goodWord = true := by decide +kernel
set_option maxRecDepth 1000000 in
theorem wd_X12_four : ∀ w ∈ kX12_four.2.2.2.2.2.flatMap (zrq zTab kX12_four.1.cls), w ∈ lw_tbl := zplaces [1344, 1345, 1345] rfl
theorem ok_X12_end : zokM zTab kX12_end := ⟨by decide +kernel, by decide +kernel, by decide +kernel⟩
theorem gw_X12_end : (kX12_end.2.2.2.2.2.flatMap (zrq zTab kX12_end.1.cls)).all goodWord = true := by decide +kernel
set_option maxRecDepth 1000000 in
theorem wd_X12_end : ∀ w ∈ kX12_end.2.2.2.2.2.flatMap (zrq zTab kX12_end.1.cls), w ∈ lw_tbl := zplaces [1343, 1345, 1515, 1514, 176, 1513, 1345] rfl
theorem ok_X12_see : zokM zTab kX12_see := ⟨by decide +kernel, by decide +kernel, by decide +kernel⟩
theorem gw_X12_see : (kX12_see.2.2.2.2.2.flatMap (zrq zTab kX12_see.1.cls)).all goodWord = true := by decide +kernel
set_option maxRecDepth 1000000 in
theorem wd_X12_see : ∀ w ∈ kX12_see.2.2.2.2.2.flatMap (zrq zTab kX12_see.1.cls), w ∈ lw_tbl := zplaces [1352, 1353, 1344, 1352] rfl
theorem ok_X12_token : zokM zTab kX12_token := ⟨by decide +kernel, by decide +kernel, by decide +kernel⟩
theorem gw_X12_token : (kX12_token.2.2.2.2.2.flatMap (zrq zTab kX12_token.1.cls)).all goodWord = true := by decide +kernel
set_option maxRecDepth 1000000 in
theorem wd_X12_token : ∀ w ∈ kX12_token.2.2.2.2.2.flatMap (zrq zTab kX12_token.1.cls), w ∈ lw_tbl := zplaces [1535, 1534, 100, 176, 1532, 1535, 1534, 100, 176, 1532, 1352, 1352, 1352, 1354, 1535, 1534, 100, 176, 1532, 1357, 1355, 1515, 1514, 176, 1513, 1535, 1534, 100, 176, 1532, 1515, 1514, 176, 1513, 1357, 1535, 1534, 100, 176, 1532, 1357, 1352, 1352, 1357, 1357, 1355, 1515, 1514, 176, 1513, 1356, 1535, 1534, 100, 176, 1532, 1515, 1514, 176, 1513, 1356, 1535, 1534, 100, 176, 1532, 1356, 1356, 1352, 1352, 1355, 1352, 1352, 1355] rfl
theorem ok_X12_fails : zokM zTab kX12_fails := ⟨by decide +kernel, by decide +kernel, by decide +kernel⟩
theorem gw_X12_fails : (kX12_fails.2.2.2.2.2.flatMap (zrq zTab kX12_fails.1.cls)).all goodWord = true := by decide +kernel
set_option maxRecDepth 1000000 in
theorem wd_X12_fails : ∀ w ∈ kX12_fails.2.2.2.2.2.flatMap (zrq zTab kX12_fails.1.cls), w ∈ lw_tbl := zplaces [1354, 1358] rfl
theorem ok_X12_later : zokM zTab kX12_later := ⟨by decide +kernel, by decide +kernel, by decide +kernel⟩
theorem gw_X12_later : (kX12_later.2.2.2.2.2.flatMap (zrq zTab kX12_later.1.cls)).all goodWord = true := by decide +kernel
set_option maxRecDepth 1000000 in
theorem wd_X12_later : ∀ w ∈ kX12_later.2.2.2.2.2.flatMap (zrq zTab kX12_later.1.cls), w ∈ lw_tbl := zplaces [1359, 1360, 1360, 1359, 1359, 1360] rfl
theorem ok_X12_takeBut : zokM zTab kX12_takeBut := ⟨by decide +kernel, by decide +kernel, by decide +kernel⟩
theorem gw_X12_takeBut : (kX12_takeBut.2.2.2.2.2.flatMap (zrq zTab kX12_takeBut.1.cls)).all goodWord = true := by decide +kernel
set_option maxRecDepth 1000000 in
theorem wd_X12_takeBut : ∀ w ∈ kX12_takeBut.2.2.2.2.2.flatMap (zrq zTab kX12_takeBut.1.cls), w ∈ lw_tbl := zplaces [1355, 1575, 1574, 108, 176, 1572, 1362, 1356, 1356, 1515, 1514, 176, 1513, 1356, 1354, 1563, 1562, 105, 176, 1560, 1531, 1530, 99, 176, 1528] rfl
theorem ok_X12_take : zokM zTab kX12_take := ⟨by decide +kernel, by decide +kernel, by decide +kernel⟩
theorem gw_X12_take : (kX12_take.2.2.2.2.2.flatMap (zrq zTab kX12_take.1.cls)).all goodWord = true := by decide +kernel
set_option maxRecDepth 1000000 in
theorem wd_X12_take : ∀ w ∈ kX12_take.2.2.2.2.2.flatMap (zrq zTab kX12_take.1.cls), w ∈ lw_tbl := zplaces [1571, 1570, 107, 176, 1568] rfl
theorem ok_X12_full : zokM zTab kX12_full := ⟨by decide +kernel, by decide +kernel, by decide +kernel⟩
theorem gw_X12_full : (kX12_full.2.2.2.2.2.flatMap (zrq zTab kX12_full.1.cls)).all goodWord = true := by decide +kernel
set_option maxRecDepth 1000000 in
theorem wd_X12_full : ∀ w ∈ kX12_full.2.2.2.2.2.flatMap (zrq zTab kX12_full.1.cls), w ∈ lw_tbl := zplaces [1361, 1563, 1562, 105, 176, 1560] rfl
theorem ok_X12_shorter : zokM zTab kX12_shorter := ⟨by decide +kernel, by decide +kernel, by decide +kernel⟩
theorem gw_X12_shorter : (kX12_shorter.2.2.2.2.2.flatMap (zrq zTab kX12_shorter.1.cls)).all goodWord = true := by decide +kernel
set_option maxRecDepth 1000000 in
theorem wd_X12_shorter : ∀ w ∈ kX12_shorter.2.2.2.2.2.flatMap (zrq zTab kX12_shorter.1.cls), w ∈ lw_tbl := zplaces [] rfl
theorem ok_X12_takeText : zokM zTab kX12_takeText := ⟨by decide +kernel, by decide +kernel, by decide +kernel⟩
theorem gw_X12_takeText : (kX12_takeText.2.2.2.2.2.flatMap (zrq zTab kX12_takeText.1.cls)).all goodWord = true := by decide +kernel
set_option maxRecDepth 1000000 in
theorem wd_X12_takeText : ∀ w ∈ kX12_takeText.2.2.2.2.2.flatMap (zrq zTab kX12_takeText.1.cls), w ∈ lw_tbl := zplaces [1355, 1354, 1563, 1562, 105, 176, 1560, 1567, 1566, 106, 176, 1564, 1362, 1362, 1592, 1591, 176, 1590] rfl
theorem ok_X12_stepBy : zokM zTab kX12_stepBy := ⟨by decide +kernel, by decide +kernel, by decide +kernel⟩
theorem gw_X12_stepBy : (kX12_stepBy.2.2.2.2.2.flatMap (zrq zTab kX12_stepBy.1.cls)).all goodWord = true := by decide +kernel
set_option maxRecDepth 1000000 in
theorem wd_X12_stepBy : ∀ w ∈ kX12_stepBy.2.2.2.2.2.flatMap (zrq zTab kX12_stepBy.1.cls), w ∈ lw_tbl := zplaces [1551, 1552, 1553, 1554, 1555] rfl
theorem ok_X12_stepLine : zokM zTab kX12_stepLine := ⟨by decide +kernel, by decide +kernel, by decide +kernel⟩
theorem gw_X12_stepLine : (kX12_stepLine.2.2.2.2.2.flatMap (zrq zTab kX12_stepLine.1.cls)).all goodWord = true := by decide +kernel
set_option maxRecDepth 1000000 in
theorem wd_X12_stepLine : ∀ w ∈ kX12_stepLine.2.2.2.2.2.flatMap (zrq zTab kX12_stepLine.1.cls), w ∈ lw_tbl := zplaces [1361, 1563, 1562, 105, 176, 1560, 1361, 1563, 1562, 105, 176, 1560, 1531, 1530, 99, 176, 1528, 1362, 1567, 1566, 106, 176, 1564, 1361, 1361, 1361, 1361, 1362, 1361] rfl
theorem ok_X12_bookLine : zokM zTab kX12_bookLine := ⟨by decide +kernel, by decide +kernel, by decide +kernel⟩
theorem gw_X12_bookLine : (kX12_bookLine.2.2.2.2.2.flatMap (zrq zTab kX12_bookLine.1.cls)).all goodWord = true := by decide +kernel
set_option maxRecDepth 1000000 in
theorem wd_X12_bookLine : ∀ w ∈ kX12_bookLine.2.2.2.2.2.flatMap (zrq zTab kX12_bookLine.1.cls), w ∈ lw_tbl := zplaces [1550, 1549, 176, 1548, 1559, 1558, 104, 176, 1556, 1576, 1577, 1578, 1575, 1574, 108, 176, 1572, 1578, 1582, 1581, 109, 176, 1579, 1361, 1361, 1585, 1584, 176, 1583, 1531, 1530, 99, 176, 1528, 1576, 1589, 1588, 110, 176, 1586, 1361, 1362, 1577, 1567, 1566, 106, 176, 1564, 1567, 1566, 106, 176, 1564, 1362, 1515, 1514, 176, 1513, 1361, 1362, 1362] rfl
theorem ok_X12_deedBy : zokM zTab kX12_deedBy := ⟨by decide +kernel, by decide +kernel, by decide +kernel⟩
theorem gw_X12_deedBy : (kX12_deedBy.2.2.2.2.2.flatMap (zrq zTab kX12_deedBy.1.cls)).all goodWord = true := by decide +kernel
set_option maxRecDepth 1000000 in
theorem wd_X12_deedBy : ∀ w ∈ kX12_deedBy.2.2.2.2.2.flatMap (zrq zTab kX12_deedBy.1.cls), w ∈ lw_tbl := zplaces [1600, 1601, 1602, 1603, 1604, 1605] rfl
theorem ok_X12_keep : zokM zTab kX12_keep := ⟨by decide +kernel, by decide +kernel, by decide +kernel⟩
theorem gw_X12_keep : (kX12_keep.2.2.2.2.2.flatMap (zrq zTab kX12_keep.1.cls)).all goodWord = true := by decide +kernel
set_option maxRecDepth 1000000 in
theorem wd_X12_keep : ∀ w ∈ kX12_keep.2.2.2.2.2.flatMap (zrq zTab kX12_keep.1.cls), w ∈ lw_tbl := zplaces [1361, 1361, 1362, 1361] rfl
theorem ok_X12_yearLine : zokM zTab kX12_yearLine := ⟨by decide +kernel, by decide +kernel, by decide +kernel⟩
theorem gw_X12_yearLine : (kX12_yearLine.2.2.2.2.2.flatMap (zrq zTab kX12_yearLine.1.cls)).all goodWord = true := by decide +kernel
set_option maxRecDepth 1000000 in
theorem wd_X12_yearLine : ∀ w ∈ kX12_yearLine.2.2.2.2.2.flatMap (zrq zTab kX12_yearLine.1.cls), w ∈ lw_tbl := zplaces [1599, 1598, 176, 1597, 1575, 1574, 108, 176, 1572, 1582, 1581, 109, 176, 1579, 1531, 1530, 99, 176, 1528, 1362, 1362, 1567, 1566, 106, 176, 1564, 1567, 1566, 106, 176, 1564, 1362, 1571, 1570, 107, 176, 1568, 1362, 1609, 1608, 112, 176, 1606] rfl
theorem ok_X12_sightLine : zokM zTab kX12_sightLine := ⟨by decide +kernel, by decide +kernel, by decide +kernel⟩
theorem gw_X12_sightLine : (kX12_sightLine.2.2.2.2.2.flatMap (zrq zTab kX12_sightLine.1.cls)).all goodWord = true := by decide +kernel
set_option maxRecDepth 1000000 in
theorem wd_X12_sightLine : ∀ w ∈ kX12_sightLine.2.2.2.2.2.flatMap (zrq zTab kX12_sightLine.1.cls), w ∈ lw_tbl := zplaces [1614, 1575, 1574, 108, 176, 1572, 1582, 1581, 109, 176, 1579, 1531, 1530, 99, 176, 1528, 1567, 1566, 106, 176, 1564, 1589, 1588, 110, 176, 1586, 1609, 1608, 112, 176, 1606] rfl
theorem ok_X12_lineOf : zokM zTab kX12_lineOf := ⟨by decide +kernel, by decide +kernel, by decide +kernel⟩
theorem gw_X12_lineOf : (kX12_lineOf.2.2.2.2.2.flatMap (zrq zTab kX12_lineOf.1.cls)).all goodWord = true := by decide +kernel
set_option maxRecDepth 1000000 in
theorem wd_X12_lineOf : ∀ w ∈ kX12_lineOf.2.2.2.2.2.flatMap (zrq zTab kX12_lineOf.1.cls), w ∈ lw_tbl := zplaces [1547, 1546, 103, 176, 1544, 1596, 1595, 111, 176, 1593, 1613, 1612, 113, 176, 1610] rfl
theorem ok_X12_lines : zokM zTab kX12_lines := ⟨by decide +kernel, by decide +kernel, by decide +kernel⟩
theorem gw_X12_lines : (kX12_lines.2.2.2.2.2.flatMap (zrq zTab kX12_lines.1.cls)).all goodWord = true := by decide +kernel
set_option maxRecDepth 1000000 in
theorem wd_X12_lines : ∀ w ∈ kX12_lines.2.2.2.2.2.flatMap (zrq zTab kX12_lines.1.cls), w ∈ lw_tbl := zplaces [1355, 1355, 1357, 1354, 1543, 1542, 102, 176, 1540, 1355, 1575, 1574, 108, 176, 1572, 1531, 1530, 99, 176, 1528] rfl
theorem ok_X12_readText : zokM zTab kX12_readText := ⟨by decide +kernel, by decide +kernel, by decide +kernel⟩
theorem gw_X12_readText : (kX12_readText.2.2.2.2.2.flatMap (zrq zTab kX12_readText.1.cls)).all goodWord = true := by decide +kernel
set_option maxRecDepth 1000000 in
theorem wd_X12_readText : ∀ w ∈ kX12_readText.2.2.2.2.2.flatMap (zrq zTab kX12_readText.1.cls), w ∈ lw_tbl := zplaces [1361, 1515, 1514, 176, 1513, 1352, 1359, 1531, 1530, 99, 176, 1528, 1539, 1538, 101, 176, 1536, 1346, 1359, 1347, 1358, 1359, 1360, 1346] rfl
theorem ok_X12_store : zokM zTab kX12_store := ⟨by decide +kernel, by decide +kernel, by decide +kernel⟩
theorem gw_X12_store : (kX12_store.2.2.2.2.2.flatMap (zrq zTab kX12_store.1.cls)).all goodWord = true := by decide +kernel
set_option maxRecDepth 1000000 in
theorem wd_X12_store : ∀ w ∈ kX12_store.2.2.2.2.2.flatMap (zrq zTab kX12_store.1.cls), w ∈ lw_tbl := zplaces [1361] rfl
theorem ok_X12_text : zokM zTab kX12_text := ⟨by decide +kernel, by decide +kernel, by decide +kernel⟩
theorem gw_X12_text : (kX12_text.2.2.2.2.2.flatMap (zrq zTab kX12_text.1.cls)).all goodWord = true := by decide +kernel
set_option maxRecDepth 1000000 in
theorem wd_X12_text : ∀ w ∈ kX12_text.2.2.2.2.2.flatMap (zrq zTab kX12_text.1.cls), w ∈ lw_tbl := zplaces [1343, 1345, 1353, 1345, 1346, 1347, 1515, 1514, 176, 1513, 1348, 1523, 1522, 97, 176, 1520, 1527, 1526, 98, 176, 1524, 1348, 1348, 1349, 1618, 1617, 114, 176, 1615, 1364, 1350, 1618, 1617, 114, 176, 1615, 1351, 1618, 1617, 114, 176, 1615] rfl
theorem ok_X12_fault : zokM zTab kX12_fault := ⟨by decide +kernel, by decide +kernel, by decide +kernel⟩
theorem gw_X12_fault : (kX12_fault.2.2.2.2.2.flatMap (zrq zTab kX12_fault.1.cls)).all goodWord = true := by decide +kernel
set_option maxRecDepth 1000000 in
theorem wd_X12_fault : ∀ w ∈ kX12_fault.2.2.2.2.2.flatMap (zrq zTab kX12_fault.1.cls), w ∈ lw_tbl := zplaces [1343, 1346, 1347] rfl
theorem ok_X12_of : zokM zTab kX12_of := ⟨by decide +kernel, by decide +kernel, by decide +kernel⟩
theorem gw_X12_of : (kX12_of.2.2.2.2.2.flatMap (zrq zTab kX12_of.1.cls)).all goodWord = true := by decide +kernel
set_option maxRecDepth 1000000 in
theorem wd_X12_of : ∀ w ∈ kX12_of.2.2.2.2.2.flatMap (zrq zTab kX12_of.1.cls), w ∈ lw_tbl := zplaces [1349, 1363] rfl
theorem ok_X12_hand : zokM zTab kX12_hand := ⟨by decide +kernel, by decide +kernel, by decide +kernel⟩
theorem gw_X12_hand : (kX12_hand.2.2.2.2.2.flatMap (zrq zTab kX12_hand.1.cls)).all goodWord = true := by decide +kernel
set_option maxRecDepth 1000000 in
theorem wd_X12_hand : ∀ w ∈ kX12_hand.2.2.2.2.2.flatMap (zrq zTab kX12_hand.1.cls), w ∈ lw_tbl := zplaces [1523, 1522, 97, 176, 1520, 1363, 1634, 1633, 116, 176, 1631, 1365, 1634, 1633, 116, 176, 1631, 1366] rfl
theorem ok_X12_isText : zokM zTab kX12_isText := ⟨by decide +kernel, by decide +kernel, by decide +kernel⟩
theorem gw_X12_isText : (kX12_isText.2.2.2.2.2.flatMap (zrq zTab kX12_isText.1.cls)).all goodWord = true := by decide +kernel
set_option maxRecDepth 1000000 in
theorem wd_X12_isText : ∀ w ∈ kX12_isText.2.2.2.2.2.flatMap (zrq zTab kX12_isText.1.cls), w ∈ lw_tbl := zplaces [1515, 1514, 176, 1513] rfl
theorem ok_X12_isReader : zokM zTab kX12_isReader := ⟨by decide +kernel, by decide +kernel, by decide +kernel⟩
theorem gw_X12_isReader : (kX12_isReader.2.2.2.2.2.flatMap (zrq zTab kX12_isReader.1.cls)).all goodWord = true := by decide +kernel
set_option maxRecDepth 1000000 in
theorem wd_X12_isReader : ∀ w ∈ kX12_isReader.2.2.2.2.2.flatMap (zrq zTab kX12_isReader.1.cls), w ∈ lw_tbl := zplaces [1366, 1515, 1514, 176, 1513] rfl
theorem ok_X12_sizeOf : zokM zTab kX12_sizeOf := ⟨by decide +kernel, by decide +kernel, by decide +kernel⟩
theorem gw_X12_sizeOf : (kX12_sizeOf.2.2.2.2.2.flatMap (zrq zTab kX12_sizeOf.1.cls)).all goodWord = true := by decide +kernel
set_option maxRecDepth 1000000 in
theorem wd_X12_sizeOf : ∀ w ∈ kX12_sizeOf.2.2.2.2.2.flatMap (zrq zTab kX12_sizeOf.1.cls), w ∈ lw_tbl := zplaces [1592, 1591, 176, 1590] rfl
theorem ok_X12_spell : zokM zTab kX12_spell := ⟨by decide +kernel, by decide +kernel, by decide +kernel⟩
theorem gw_X12_spell : (kX12_spell.2.2.2.2.2.flatMap (zrq zTab kX12_spell.1.cls)).all goodWord = true := by decide +kernel
set_option maxRecDepth 1000000 in
theorem wd_X12_spell : ∀ w ∈ kX12_spell.2.2.2.2.2.flatMap (zrq zTab kX12_spell.1.cls), w ∈ lw_tbl := zplaces [1644, 1643, 176, 1642, 1592, 1591, 176, 1590] rfl
theorem ok_X12_numberOf : zokM zTab kX12_numberOf := ⟨by decide +kernel, by decide +kernel, by decide +kernel⟩
theorem gw_X12_numberOf : (kX12_numberOf.2.2.2.2.2.flatMap (zrq zTab kX12_numberOf.1.cls)).all goodWord = true := by decide +kernel
set_option maxRecDepth 1000000 in
theorem wd_X12_numberOf : ∀ w ∈ kX12_numberOf.2.2.2.2.2.flatMap (zrq zTab kX12_numberOf.1.cls), w ∈ lw_tbl := zplaces [1367, 1592, 1591, 176, 1590] rfl
theorem ok_X12_shift : zokM zTab kX12_shift := ⟨by decide +kernel, by decide +kernel, by decide +kernel⟩
theorem gw_X12_shift : (kX12_shift.2.2.2.2.2.flatMap (zrq zTab kX12_shift.1.cls)).all goodWord = true := by decide +kernel
set_option maxRecDepth 1000000 in
theorem wd_X12_shift : ∀ w ∈ kX12_shift.2.2.2.2.2.flatMap (zrq zTab kX12_shift.1.cls), w ∈ lw_tbl := zplaces [1369, 1367, 1367, 1634, 1633, 116, 176, 1631, 1367] rfl
theorem ok_X12_drop : zokM zTab kX12_drop := ⟨by decide +kernel, by decide +kernel, by decide +kernel⟩
theorem gw_X12_drop : (kX12_drop.2.2.2.2.2.flatMap (zrq zTab kX12_drop.1.cls)).all goodWord = true := by decide +kernel
set_option maxRecDepth 1000000 in
theorem wd_X12_drop : ∀ w ∈ kX12_drop.2.2.2.2.2.flatMap (zrq zTab kX12_drop.1.cls), w ∈ lw_tbl := zplaces [1369, 1369, 1367, 1367, 1369, 1369] rfl
theorem ok_X12_twice : zokM zTab kX12_twice := ⟨by decide +kernel, by decide +kernel, by decide +kernel⟩
theorem gw_X12_twice : (kX12_twice.2.2.2.2.2.flatMap (zrq zTab kX12_twice.1.cls)).all goodWord = true := by decide +kernel
set_option maxRecDepth 1000000 in
theorem wd_X12_twice : ∀ w ∈ kX12_twice.2.2.2.2.2.flatMap (zrq zTab kX12_twice.1.cls), w ∈ lw_tbl := zplaces [1369, 1369, 1369, 1367, 1367, 1369, 1369] rfl
theorem ok_X12_swap : zokM zTab kX12_swap := ⟨by decide +kernel, by decide +kernel, by decide +kernel⟩
theorem gw_X12_swap : (kX12_swap.2.2.2.2.2.flatMap (zrq zTab kX12_swap.1.cls)).all goodWord = true := by decide +kernel
set_option maxRecDepth 1000000 in
theorem wd_X12_swap : ∀ w ∈ kX12_swap.2.2.2.2.2.flatMap (zrq zTab kX12_swap.1.cls), w ∈ lw_tbl := zplaces [1367, 1367, 1367, 1367] rfl
theorem ok_X12_step : zokM zTab kX12_step := ⟨by decide +kernel, by decide +kernel, by decide +kernel⟩
theorem gw_X12_step : (kX12_step.2.2.2.2.2.flatMap (zrq zTab kX12_step.1.cls)).all goodWord = true := by decide +kernel
set_option maxRecDepth 1000000 in
theorem wd_X12_step : ∀ w ∈ kX12_step.2.2.2.2.2.flatMap (zrq zTab kX12_step.1.cls), w ∈ lw_tbl := zplaces [1675, 1674, 121, 176, 1672, 1679, 1678, 122, 176, 1676, 1683, 1682, 123, 176, 1680, 1369, 1687, 1686, 124, 176, 1684, 1369, 1687, 1686, 124, 176, 1684] rfl
theorem ok_X12_readBy : zokM zTab kX12_readBy := ⟨by decide +kernel, by decide +kernel, by decide +kernel⟩
theorem gw_X12_readBy : (kX12_readBy.2.2.2.2.2.flatMap (zrq zTab kX12_readBy.1.cls)).all goodWord = true := by decide +kernel
set_option maxRecDepth 1000000 in
theorem wd_X12_readBy : ∀ w ∈ kX12_readBy.2.2.2.2.2.flatMap (zrq zTab kX12_readBy.1.cls), w ∈ lw_tbl := zplaces [1367, 1647, 1646, 176, 1645, 1644, 1643, 176, 1642, 1369, 1634, 1633, 116, 176, 1631, 1634, 1633, 116, 176, 1631, 1634, 1633, 116, 176, 1631, 1671, 1670, 120, 176, 1668, 1369, 1691, 1690, 125, 176, 1688] rfl
theorem ok_X12_apart : zokM zTab kX12_apart := ⟨by decide +kernel, by decide +kernel, by decide +kernel⟩
theorem gw_X12_apart : (kX12_apart.2.2.2.2.2.flatMap (zrq zTab kX12_apart.1.cls)).all goodWord = true := by decide +kernel
set_option maxRecDepth 1000000 in
theorem wd_X12_apart : ∀ w ∈ kX12_apart.2.2.2.2.2.flatMap (zrq zTab kX12_apart.1.cls), w ∈ lw_tbl := zplaces [1644, 1643, 176, 1642, 1644, 1643, 176, 1642, 1367, 1647, 1646, 176, 1645, 1368, 1647, 1646, 176, 1645, 1370, 1367, 1368, 1370, 1370, 1585, 1584, 176, 1583, 1585, 1584, 176, 1583, 1370, 1370] rfl
theorem ok_X12_book : zokM zTab kX12_book := ⟨by decide +kernel, by decide +kernel, by decide +kernel⟩
theorem gw_X12_book : (kX12_book.2.2.2.2.2.flatMap (zrq zTab kX12_book.1.cls)).all goodWord = true := by decide +kernel
set_option maxRecDepth 1000000 in
theorem wd_X12_book : ∀ w ∈ kX12_book.2.2.2.2.2.flatMap (zrq zTab kX12_book.1.cls), w ∈ lw_tbl := zplaces [1343, 1630, 1629, 115, 176, 1627, 1515, 1514, 176, 1513, 1634, 1633, 116, 176, 1631, 1366, 1515, 1514, 176, 1513, 1634, 1633, 116, 176, 1631, 1366, 1515, 1514, 176, 1513, 1634, 1633, 116, 176, 1631, 1634, 1633, 116, 176, 1631, 1365, 1366] rfl
theorem ok_X12_word : zokM zTab kX12_word := ⟨by decide +kernel, by decide +kernel, by decide +kernel⟩
theorem gw_X12_word : (kX12_word.2.2.2.2.2.flatMap (zrq zTab kX12_word.1.cls)).all goodWord = true := by decide +kernel
set_option maxRecDepth 1000000 in
theorem wd_X12_word : ∀ w ∈ kX12_word.2.2.2.2.2.flatMap (zrq zTab kX12_word.1.cls), w ∈ lw_tbl := zplaces [1343, 1641, 1640, 176, 1639, 1644, 1643, 176, 1642, 1515, 1514, 176, 1513, 1367, 1647, 1646, 176, 1645, 1644, 1643, 176, 1642, 1367] rfl
theorem ok_X12_drift : zokM zTab kX12_drift := ⟨by decide +kernel, by decide +kernel, by decide +kernel⟩
theorem gw_X12_drift : (kX12_drift.2.2.2.2.2.flatMap (zrq zTab kX12_drift.1.cls)).all goodWord = true := by decide +kernel
set_option maxRecDepth 1000000 in
theorem wd_X12_drift : ∀ w ∈ kX12_drift.2.2.2.2.2.flatMap (zrq zTab kX12_drift.1.cls), w ∈ lw_tbl := zplaces [1343, 1641, 1640, 176, 1639, 1641, 1640, 176, 1639, 1655, 1654, 117, 176, 1652] rfl
theorem ok_X12_read : zokM zTab kX12_read := ⟨by decide +kernel, by decide +kernel, by decide +kernel⟩
theorem gw_X12_read : (kX12_read.2.2.2.2.2.flatMap (zrq zTab kX12_read.1.cls)).all goodWord = true := by decide +kernel
set_option maxRecDepth 1000000 in
theorem wd_X12_read : ∀ w ∈ kX12_read.2.2.2.2.2.flatMap (zrq zTab kX12_read.1.cls), w ∈ lw_tbl := zplaces [1343, 1630, 1629, 115, 176, 1627, 1641, 1640, 176, 1639, 1663, 1662, 118, 176, 1660, 1667, 1666, 119, 176, 1664] rfl
theorem ok_X12_deeds : zokM zTab kX12_deeds := ⟨by decide +kernel, by decide +kernel, by decide +kernel⟩
theorem gw_X12_deeds : (kX12_deeds.2.2.2.2.2.flatMap (zrq zTab kX12_deeds.1.cls)).all goodWord = true := by decide +kernel
set_option maxRecDepth 1000000 in
theorem wd_X12_deeds : ∀ w ∈ kX12_deeds.2.2.2.2.2.flatMap (zrq zTab kX12_deeds.1.cls), w ∈ lw_tbl := zplaces [1350, 1371] rfl
theorem ok_X12_deedOf : zokM zTab kX12_deedOf := ⟨by decide +kernel, by decide +kernel, by decide +kernel⟩
theorem gw_X12_deedOf : (kX12_deedOf.2.2.2.2.2.flatMap (zrq zTab kX12_deedOf.1.cls)).all goodWord = true := by decide +kernel
set_option maxRecDepth 1000000 in
theorem wd_X12_deedOf : ∀ w ∈ kX12_deedOf.2.2.2.2.2.flatMap (zrq zTab kX12_deedOf.1.cls), w ∈ lw_tbl := zplaces [1350, 1371] rfl
theorem ok_X12_hasYear : zokM zTab kX12_hasYear := ⟨by decide +kernel, by decide +kernel, by decide +kernel⟩
theorem gw_X12_hasYear : (kX12_hasYear.2.2.2.2.2.flatMap (zrq zTab kX12_hasYear.1.cls)).all goodWord = true := by decide +kernel
set_option maxRecDepth 1000000 in
theorem wd_X12_hasYear : ∀ w ∈ kX12_hasYear.2.2.2.2.2.flatMap (zrq zTab kX12_hasYear.1.cls), w ∈ lw_tbl := zplaces [1371, 1523, 1522, 97, 176, 1520] rfl
theorem ok_X12_deed : zokM zTab kX12_deed := ⟨by decide +kernel, by decide +kernel, by decide +kernel⟩
theorem gw_X12_deed : (kX12_deed.2.2.2.2.2.flatMap (zrq zTab kX12_deed.1.cls)).all goodWord = true := by decide +kernel
set_option maxRecDepth 1000000 in
theorem wd_X12_deed : ∀ w ∈ kX12_deed.2.2.2.2.2.flatMap (zrq zTab kX12_deed.1.cls), w ∈ lw_tbl := zplaces [1343, 1699, 1698, 126, 176, 1696, 1703, 1702, 127, 176, 1700, 1703, 1702, 127, 176, 1700, 1515, 1514, 176, 1513, 1515, 1514, 176, 1513, 1707, 1706, 128, 176, 1704] rfl
theorem ok_X12_begin : zokM zTab kX12_begin := ⟨by decide +kernel, by decide +kernel, by decide +kernel⟩
theorem gw_X12_begin : (kX12_begin.2.2.2.2.2.flatMap (zrq zTab kX12_begin.1.cls)).all goodWord = true := by decide +kernel
set_option maxRecDepth 1000000 in
theorem wd_X12_begin : ∀ w ∈ kX12_begin.2.2.2.2.2.flatMap (zrq zTab kX12_begin.1.cls), w ∈ lw_tbl := zplaces [1372, 1365, 1373, 1374, 1375, 1376] rfl
theorem ok_X12_reads : zokM zTab kX12_reads := ⟨by decide +kernel, by decide +kernel, by decide +kernel⟩
theorem gw_X12_reads : (kX12_reads.2.2.2.2.2.flatMap (zrq zTab kX12_reads.1.cls)).all goodWord = true := by decide +kernel
set_option maxRecDepth 1000000 in
theorem wd_X12_reads : ∀ w ∈ kX12_reads.2.2.2.2.2.flatMap (zrq zTab kX12_reads.1.cls), w ∈ lw_tbl := zplaces [1663, 1662, 118, 176, 1660, 1372, 1376, 1734, 1733, 176, 1732, 1372, 1372, 1667, 1666, 119, 176, 1664, 1376, 1376, 1373] rfl
theorem ok_X12_hushes : zokM zTab kX12_hushes := ⟨by decide +kernel, by decide +kernel, by decide +kernel⟩
theorem gw_X12_hushes : (kX12_hushes.2.2.2.2.2.flatMap (zrq zTab kX12_hushes.1.cls)).all goodWord = true := by decide +kernel
set_option maxRecDepth 1000000 in
theorem wd_X12_hushes : ∀ w ∈ kX12_hushes.2.2.2.2.2.flatMap (zrq zTab kX12_hushes.1.cls), w ∈ lw_tbl := zplaces [1376, 1734, 1733, 176, 1732, 1376, 1376] rfl
theorem ok_X12_goesOn : zokM zTab kX12_goesOn := ⟨by decide +kernel, by decide +kernel, by decide +kernel⟩
theorem gw_X12_goesOn : (kX12_goesOn.2.2.2.2.2.flatMap (zrq zTab kX12_goesOn.1.cls)).all goodWord = true := by decide +kernel
set_option maxRecDepth 1000000 in
theorem wd_X12_goesOn : ∀ w ∈ kX12_goesOn.2.2.2.2.2.flatMap (zrq zTab kX12_goesOn.1.cls), w ∈ lw_tbl := zplaces [1374, 1374, 1374] rfl
theorem ok_X12_does : zokM zTab kX12_does := ⟨by decide +kernel, by decide +kernel, by decide +kernel⟩
theorem gw_X12_does : (kX12_does.2.2.2.2.2.flatMap (zrq zTab kX12_does.1.cls)).all goodWord = true := by decide +kernel
set_option maxRecDepth 1000000 in
theorem wd_X12_does : ∀ w ∈ kX12_does.2.2.2.2.2.flatMap (zrq zTab kX12_does.1.cls), w ∈ lw_tbl := zplaces [1707, 1706, 128, 176, 1704, 1707, 1706, 128, 176, 1704, 1707, 1706, 128, 176, 1704, 1731, 1730, 133, 176, 1728, 1372, 1707, 1706, 128, 176, 1704, 1372, 1375, 1372, 1375, 1372, 1365, 1375, 1738, 1737, 134, 176, 1735, 1742, 1741, 135, 176, 1739] rfl
theorem ok_X12_play : zokM zTab kX12_play := ⟨by decide +kernel, by decide +kernel, by decide +kernel⟩
theorem gw_X12_play : (kX12_play.2.2.2.2.2.flatMap (zrq zTab kX12_play.1.cls)).all goodWord = true := by decide +kernel
set_option maxRecDepth 1000000 in
theorem wd_X12_play : ∀ w ∈ kX12_play.2.2.2.2.2.flatMap (zrq zTab kX12_play.1.cls), w ∈ lw_tbl := zplaces [1723, 1722, 131, 176, 1720, 1727, 1726, 132, 176, 1724] rfl
theorem ok_X12_layAll : zokM zTab kX12_layAll := ⟨by decide +kernel, by decide +kernel, by decide +kernel⟩
theorem gw_X12_layAll : (kX12_layAll.2.2.2.2.2.flatMap (zrq zTab kX12_layAll.1.cls)).all goodWord = true := by decide +kernel
set_option maxRecDepth 1000000 in
theorem wd_X12_layAll : ∀ w ∈ kX12_layAll.2.2.2.2.2.flatMap (zrq zTab kX12_layAll.1.cls), w ∈ lw_tbl := zplaces [1699, 1698, 126, 176, 1696, 1630, 1629, 115, 176, 1627] rfl
theorem ok_X12_stop : zokM zTab kX12_stop := ⟨by decide +kernel, by decide +kernel, by decide +kernel⟩
theorem gw_X12_stop : (kX12_stop.2.2.2.2.2.flatMap (zrq zTab kX12_stop.1.cls)).all goodWord = true := by decide +kernel
set_option maxRecDepth 1000000 in
theorem wd_X12_stop : ∀ w ∈ kX12_stop.2.2.2.2.2.flatMap (zrq zTab kX12_stop.1.cls), w ∈ lw_tbl := zplaces [1343, 1715, 1714, 129, 176, 1712, 1703, 1702, 127, 176, 1700, 1719, 1718, 130, 176, 1716] rfl
theorem ok_X12_ofState : zokM zTab kX12_ofState := ⟨by decide +kernel, by decide +kernel, by decide +kernel⟩
theorem gw_X12_ofState : (kX12_ofState.2.2.2.2.2.flatMap (zrq zTab kX12_ofState.1.cls)).all goodWord = true := by decide +kernel
set_option maxRecDepth 1000000 in
theorem wd_X12_ofState : ∀ w ∈ kX12_ofState.2.2.2.2.2.flatMap (zrq zTab kX12_ofState.1.cls), w ∈ lw_tbl := zplaces [1515, 1514, 176, 1513, 1372, 1366, 1515, 1514, 176, 1513, 1373, 1372, 1372, 1375, 1372, 1365, 1655, 1654, 117, 176, 1652, 1372, 1365, 1655, 1654, 117, 176, 1652, 1374, 1375, 1372, 1365, 1655, 1654, 117, 176, 1652, 1376] rfl
theorem ok_X12_state : zokM zTab kX12_state := ⟨by decide +kernel, by decide +kernel, by decide +kernel⟩
theorem gw_X12_state : (kX12_state.2.2.2.2.2.flatMap (zrq zTab kX12_state.1.cls)).all goodWord = true := by decide +kernel
set_option maxRecDepth 1000000 in
theorem wd_X12_state : ∀ w ∈ kX12_state.2.2.2.2.2.flatMap (zrq zTab kX12_state.1.cls), w ∈ lw_tbl := zplaces [1343, 1715, 1714, 129, 176, 1712, 1703, 1702, 127, 176, 1700, 1515, 1514, 176, 1513, 1719, 1718, 130, 176, 1716, 1750, 1749, 136, 176, 1747] rfl
theorem ok_X12_layMade : zokM zTab kX12_layMade := ⟨by decide +kernel, by decide +kernel, by decide +kernel⟩
theorem gw_X12_layMade : (kX12_layMade.2.2.2.2.2.flatMap (zrq zTab kX12_layMade.1.cls)).all goodWord = true := by decide +kernel
set_option maxRecDepth 1000000 in
theorem wd_X12_layMade : ∀ w ∈ kX12_layMade.2.2.2.2.2.flatMap (zrq zTab kX12_layMade.1.cls), w ∈ lw_tbl := zplaces [1366, 1364, 1363, 1377, 1667, 1666, 119, 176, 1664, 1363, 1364] rfl
theorem ok_X12_handAll : zokM zTab kX12_handAll := ⟨by decide +kernel, by decide +kernel, by decide +kernel⟩
theorem gw_X12_handAll : (kX12_handAll.2.2.2.2.2.flatMap (zrq zTab kX12_handAll.1.cls)).all goodWord = true := by decide +kernel
set_option maxRecDepth 1000000 in
theorem wd_X12_handAll : ∀ w ∈ kX12_handAll.2.2.2.2.2.flatMap (zrq zTab kX12_handAll.1.cls), w ∈ lw_tbl := zplaces [1630, 1629, 115, 176, 1627, 1762, 1761, 138, 176, 1759] rfl
theorem ok_X12_findFar : zokM zTab kX12_findFar := ⟨by decide +kernel, by decide +kernel, by decide +kernel⟩
theorem gw_X12_findFar : (kX12_findFar.2.2.2.2.2.flatMap (zrq zTab kX12_findFar.1.cls)).all goodWord = true := by decide +kernel
set_option maxRecDepth 1000000 in
theorem wd_X12_findFar : ∀ w ∈ kX12_findFar.2.2.2.2.2.flatMap (zrq zTab kX12_findFar.1.cls), w ∈ lw_tbl := zplaces [1767, 1380, 1381, 1381, 1366, 1377, 1380, 1734, 1733, 176, 1732, 1767, 1380, 1380, 1381, 1381, 1381] rfl
theorem ok_X12_findBack : zokM zTab kX12_findBack := ⟨by decide +kernel, by decide +kernel, by decide +kernel⟩
theorem gw_X12_findBack : (kX12_findBack.2.2.2.2.2.flatMap (zrq zTab kX12_findBack.1.cls)).all goodWord = true := by decide +kernel
set_option maxRecDepth 1000000 in
theorem wd_X12_findBack : ∀ w ∈ kX12_findBack.2.2.2.2.2.flatMap (zrq zTab kX12_findBack.1.cls), w ∈ lw_tbl := zplaces [1379, 1767, 1366, 1379, 1377, 1379, 1379] rfl
theorem ok_X12_making : zokM zTab kX12_making := ⟨by decide +kernel, by decide +kernel, by decide +kernel⟩
theorem gw_X12_making : (kX12_making.2.2.2.2.2.flatMap (zrq zTab kX12_making.1.cls)).all goodWord = true := by decide +kernel
set_option maxRecDepth 1000000 in
theorem wd_X12_making : ∀ w ∈ kX12_making.2.2.2.2.2.flatMap (zrq zTab kX12_making.1.cls), w ∈ lw_tbl := zplaces [1343, 1641, 1640, 176, 1639, 1641, 1640, 176, 1639, 1758, 1757, 137, 176, 1755, 1766, 1765, 139, 176, 1763, 1379, 1767, 1515, 1514, 176, 1513, 1379, 1377, 1379, 1377] rfl
theorem ok_X12_ring : zokM zTab kX12_ring := ⟨by decide +kernel, by decide +kernel, by decide +kernel⟩
theorem gw_X12_ring : (kX12_ring.2.2.2.2.2.flatMap (zrq zTab kX12_ring.1.cls)).all goodWord = true := by decide +kernel
set_option maxRecDepth 1000000 in
theorem wd_X12_ring : ∀ w ∈ kX12_ring.2.2.2.2.2.flatMap (zrq zTab kX12_ring.1.cls), w ∈ lw_tbl := zplaces [1343, 1641, 1640, 176, 1639, 1758, 1757, 137, 176, 1755, 1378, 1775, 1774, 140, 176, 1772, 1767, 1366, 1377, 1378, 1585, 1584, 176, 1583, 1767] rfl
theorem ok_X12_reach : zokM zTab kX12_reach := ⟨by decide +kernel, by decide +kernel, by decide +kernel⟩
theorem gw_X12_reach : (kX12_reach.2.2.2.2.2.flatMap (zrq zTab kX12_reach.1.cls)).all goodWord = true := by decide +kernel
set_option maxRecDepth 1000000 in
theorem wd_X12_reach : ∀ w ∈ kX12_reach.2.2.2.2.2.flatMap (zrq zTab kX12_reach.1.cls), w ∈ lw_tbl := zplaces [1343, 1641, 1640, 176, 1639, 1758, 1757, 137, 176, 1755, 1378, 1775, 1774, 140, 176, 1772, 1378, 1380, 1381, 1381] rfl
theorem ok_X12_isKept : zokM zTab kX12_isKept := ⟨by decide +kernel, by decide +kernel, by decide +kernel⟩
theorem gw_X12_isKept : (kX12_isKept.2.2.2.2.2.flatMap (zrq zTab kX12_isKept.1.cls)).all goodWord = true := by decide +kernel
set_option maxRecDepth 1000000 in
theorem wd_X12_isKept : ∀ w ∈ kX12_isKept.2.2.2.2.2.flatMap (zrq zTab kX12_isKept.1.cls), w ∈ lw_tbl := zplaces [1366, 1734, 1733, 176, 1732, 1377] rfl
theorem ok_X12_sound : zokM zTab kX12_sound := ⟨by decide +kernel, by decide +kernel, by decide +kernel⟩
theorem gw_X12_sound : (kX12_sound.2.2.2.2.2.flatMap (zrq zTab kX12_sound.1.cls)).all goodWord = true := by decide +kernel
set_option maxRecDepth 1000000 in
theorem wd_X12_sound : ∀ w ∈ kX12_sound.2.2.2.2.2.flatMap (zrq zTab kX12_sound.1.cls), w ∈ lw_tbl := zplaces [1343, 1630, 1629, 115, 176, 1627, 1366, 1515, 1514, 176, 1513, 1762, 1761, 138, 176, 1759, 1787, 1786, 141, 176, 1784] rfl
theorem ok_X12_like : zokM zTab kX12_like := ⟨by decide +kernel, by decide +kernel, by decide +kernel⟩
theorem gw_X12_like : (kX12_like.2.2.2.2.2.flatMap (zrq zTab kX12_like.1.cls)).all goodWord = true := by decide +kernel
set_option maxRecDepth 1000000 in
theorem wd_X12_like : ∀ w ∈ kX12_like.2.2.2.2.2.flatMap (zrq zTab kX12_like.1.cls), w ∈ lw_tbl := zplaces [1343, 1630, 1629, 115, 176, 1627, 1663, 1662, 118, 176, 1660, 1663, 1662, 118, 176, 1660, 1762, 1761, 138, 176, 1759, 1377, 1377, 1377, 1377] rfl
