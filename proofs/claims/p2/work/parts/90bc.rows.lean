theorem ok_X12_allRows : zokM zTab kX12_allRows := ⟨by decide +kernel, by decide +kernel, by decide +kernel⟩
theorem gw_X12_allRows : (kX12_allRows.2.2.2.2.2.flatMap (zrq zTab kX12_allRows.1.cls)).all goodWord = true := by decide +kernel
theorem wd_X12_allRows : ∀ w ∈ kX12_allRows.2.2.2.2.2.flatMap (zrq zTab kX12_allRows.1.cls), w ∈ lw_tbl := zplaces [1386, 1365] (by decide +kernel)
theorem ok_X12_fits : zokM zTab kX12_fits := ⟨by decide +kernel, by decide +kernel, by decide +kernel⟩
theorem gw_X12_fits : (kX12_fits.2.2.2.2.2.flatMap (zrq zTab kX12_fits.1.cls)).all goodWord = true := by decide +kernel
theorem wd_X12_fits : ∀ w ∈ kX12_fits.2.2.2.2.2.flatMap (zrq zTab kX12_fits.1.cls), w ∈ lw_tbl := zplaces [1343, 1515, 1514, 176, 1513, 1641, 1640, 176, 1639, 1870, 1869, 153, 176, 1867, 1758, 1757, 137, 176, 1755, 1886, 1885, 156, 176, 1883, 1894, 1893, 158, 176, 1891, 1385] (by decide +kernel)
theorem ok_X12_look : zokM zTab kX12_look := ⟨by decide +kernel, by decide +kernel, by decide +kernel⟩
theorem gw_X12_look : (kX12_look.2.2.2.2.2.flatMap (zrq zTab kX12_look.1.cls)).all goodWord = true := by decide +kernel
theorem wd_X12_look : ∀ w ∈ kX12_look.2.2.2.2.2.flatMap (zrq zTab kX12_look.1.cls), w ∈ lw_tbl := zplaces [1385, 1385, 1386, 1818, 1817, 176, 1816] (by decide +kernel)
theorem ok_X12_rowsOf : zokM zTab kX12_rowsOf := ⟨by decide +kernel, by decide +kernel, by decide +kernel⟩
theorem gw_X12_rowsOf : (kX12_rowsOf.2.2.2.2.2.flatMap (zrq zTab kX12_rowsOf.1.cls)).all goodWord = true := by decide +kernel
theorem wd_X12_rowsOf : ∀ w ∈ kX12_rowsOf.2.2.2.2.2.flatMap (zrq zTab kX12_rowsOf.1.cls), w ∈ lw_tbl := zplaces [1385, 1385, 1386, 1377] (by decide +kernel)
theorem ok_X12_sure : zokM zTab kX12_sure := ⟨by decide +kernel, by decide +kernel, by decide +kernel⟩
theorem gw_X12_sure : (kX12_sure.2.2.2.2.2.flatMap (zrq zTab kX12_sure.1.cls)).all goodWord = true := by decide +kernel
theorem wd_X12_sure : ∀ w ∈ kX12_sure.2.2.2.2.2.flatMap (zrq zTab kX12_sure.1.cls), w ∈ lw_tbl := zplaces [1343, 1515, 1514, 176, 1513, 1515, 1514, 176, 1513, 1870, 1869, 153, 176, 1867, 1758, 1757, 137, 176, 1755, 1886, 1885, 156, 176, 1883, 1894, 1893, 158, 176, 1891, 1902, 1901, 159, 176, 1899, 1366, 1906, 1905, 160, 176, 1903, 1894, 1893, 158, 176, 1891] (by decide +kernel)
theorem ok_X12_draw : zokM zTab kX12_draw := ⟨by decide +kernel, by decide +kernel, by decide +kernel⟩
theorem gw_X12_draw : (kX12_draw.2.2.2.2.2.flatMap (zrq zTab kX12_draw.1.cls)).all goodWord = true := by decide +kernel
theorem wd_X12_draw : ∀ w ∈ kX12_draw.2.2.2.2.2.flatMap (zrq zTab kX12_draw.1.cls), w ∈ lw_tbl := zplaces [1387, 1919, 1387, 1387] (by decide +kernel)
theorem ok_X12_drawDeed : zokM zTab kX12_drawDeed := ⟨by decide +kernel, by decide +kernel, by decide +kernel⟩
theorem gw_X12_drawDeed : (kX12_drawDeed.2.2.2.2.2.flatMap (zrq zTab kX12_drawDeed.1.cls)).all goodWord = true := by decide +kernel
theorem wd_X12_drawDeed : ∀ w ∈ kX12_drawDeed.2.2.2.2.2.flatMap (zrq zTab kX12_drawDeed.1.cls), w ∈ lw_tbl := zplaces [1918, 1917, 162, 176, 1915, 1918, 1917, 162, 176, 1915, 1366, 1366, 1918, 1917, 162, 176, 1915, 1731, 1730, 133, 176, 1728, 1372, 1918, 1917, 162, 176, 1915, 1372, 1738, 1737, 134, 176, 1735, 1742, 1741, 135, 176, 1739] (by decide +kernel)
theorem ok_X12_drawn : zokM zTab kX12_drawn := ⟨by decide +kernel, by decide +kernel, by decide +kernel⟩
theorem gw_X12_drawn : (kX12_drawn.2.2.2.2.2.flatMap (zrq zTab kX12_drawn.1.cls)).all goodWord = true := by decide +kernel
theorem wd_X12_drawn : ∀ w ∈ kX12_drawn.2.2.2.2.2.flatMap (zrq zTab kX12_drawn.1.cls), w ∈ lw_tbl := zplaces [1343, 1515, 1514, 176, 1513, 1630, 1629, 115, 176, 1627, 1387, 1723, 1722, 131, 176, 1720, 1914, 1913, 161, 176, 1911, 1750, 1749, 136, 176, 1747] (by decide +kernel)
theorem ok_X12_kinship : zokM zTab kX12_kinship := ⟨by decide +kernel, by decide +kernel, by decide +kernel⟩
theorem gw_X12_kinship : (kX12_kinship.2.2.2.2.2.flatMap (zrq zTab kX12_kinship.1.cls)).all goodWord = true := by decide +kernel
theorem wd_X12_kinship : ∀ w ∈ kX12_kinship.2.2.2.2.2.flatMap (zrq zTab kX12_kinship.1.cls), w ∈ lw_tbl := zplaces [1343, 1630, 1629, 115, 176, 1627, 1515, 1514, 176, 1513, 1927, 1926, 163, 176, 1924, 1634, 1633, 116, 176, 1631, 1927, 1926, 163, 176, 1924] (by decide +kernel)
theorem ok_X12_kinRing : zokM zTab kX12_kinRing := ⟨by decide +kernel, by decide +kernel, by decide +kernel⟩
theorem gw_X12_kinRing : (kX12_kinRing.2.2.2.2.2.flatMap (zrq zTab kX12_kinRing.1.cls)).all goodWord = true := by decide +kernel
theorem wd_X12_kinRing : ∀ w ∈ kX12_kinRing.2.2.2.2.2.flatMap (zrq zTab kX12_kinRing.1.cls), w ∈ lw_tbl := zplaces [1634, 1633, 116, 176, 1631, 1634, 1633, 116, 176, 1631] (by decide +kernel)
theorem ok_X12_someOf : zokM zTab kX12_someOf := ⟨by decide +kernel, by decide +kernel, by decide +kernel⟩
theorem gw_X12_someOf : (kX12_someOf.2.2.2.2.2.flatMap (zrq zTab kX12_someOf.1.cls)).all goodWord = true := by decide +kernel
theorem wd_X12_someOf : ∀ w ∈ kX12_someOf.2.2.2.2.2.flatMap (zrq zTab kX12_someOf.1.cls), w ∈ lw_tbl := zplaces [1367, 1647, 1646, 176, 1645, 1644, 1643, 176, 1642, 1734, 1733, 176, 1732, 1367, 1367, 1691, 1690, 125, 176, 1688] (by decide +kernel)
theorem ok_X12_isLeft : zokM zTab kX12_isLeft := ⟨by decide +kernel, by decide +kernel, by decide +kernel⟩
theorem gw_X12_isLeft : (kX12_isLeft.2.2.2.2.2.flatMap (zrq zTab kX12_isLeft.1.cls)).all goodWord = true := by decide +kernel
theorem wd_X12_isLeft : ∀ w ∈ kX12_isLeft.2.2.2.2.2.flatMap (zrq zTab kX12_isLeft.1.cls), w ∈ lw_tbl := zplaces [1644, 1643, 176, 1642, 1935, 1934, 164, 176, 1932] (by decide +kernel)
theorem ok_X12_shared : zokM zTab kX12_shared := ⟨by decide +kernel, by decide +kernel, by decide +kernel⟩
theorem gw_X12_shared : (kX12_shared.2.2.2.2.2.flatMap (zrq zTab kX12_shared.1.cls)).all goodWord = true := by decide +kernel
theorem wd_X12_shared : ∀ w ∈ kX12_shared.2.2.2.2.2.flatMap (zrq zTab kX12_shared.1.cls), w ∈ lw_tbl := zplaces [1343, 1641, 1640, 176, 1639, 1641, 1640, 176, 1639, 1644, 1643, 176, 1642, 1935, 1934, 164, 176, 1932, 1644, 1643, 176, 1642, 1644, 1643, 176, 1642, 1644, 1643, 176, 1642, 1644, 1643, 176, 1642, 1939, 1938, 165, 176, 1936, 1644, 1643, 176, 1642] (by decide +kernel)
