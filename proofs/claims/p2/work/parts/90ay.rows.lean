theorem ok_X12_findComes : zokM zTab kX12_findComes := ⟨by decide +kernel, by decide +kernel, by decide +kernel⟩
theorem gw_X12_findComes : (kX12_findComes.2.2.2.2.2.flatMap (zrq zTab kX12_findComes.1.cls)).all goodWord = true := by decide +kernel
theorem wd_X12_findComes : ∀ w ∈ kX12_findComes.2.2.2.2.2.flatMap (zrq zTab kX12_findComes.1.cls), w ∈ lw_tbl := zplaces [1382, 1382, 1377] (by decide +kernel)
theorem ok_X12_unread : zokM zTab kX12_unread := ⟨by decide +kernel, by decide +kernel, by decide +kernel⟩
theorem gw_X12_unread : (kX12_unread.2.2.2.2.2.flatMap (zrq zTab kX12_unread.1.cls)).all goodWord = true := by decide +kernel
theorem wd_X12_unread : ∀ w ∈ kX12_unread.2.2.2.2.2.flatMap (zrq zTab kX12_unread.1.cls), w ∈ lw_tbl := zplaces [1803, 1802, 143, 176, 1800, 1382] (by decide +kernel)
theorem ok_X12_fallAway : zokM zTab kX12_fallAway := ⟨by decide +kernel, by decide +kernel, by decide +kernel⟩
theorem gw_X12_fallAway : (kX12_fallAway.2.2.2.2.2.flatMap (zrq zTab kX12_fallAway.1.cls)).all goodWord = true := by decide +kernel
theorem wd_X12_fallAway : ∀ w ∈ kX12_fallAway.2.2.2.2.2.flatMap (zrq zTab kX12_fallAway.1.cls), w ∈ lw_tbl := zplaces [1803, 1802, 143, 176, 1800, 1382, 1380, 1377, 1380, 1382, 1382, 1380] (by decide +kernel)
theorem ok_X12_tail : zokM zTab kX12_tail := ⟨by decide +kernel, by decide +kernel, by decide +kernel⟩
theorem gw_X12_tail : (kX12_tail.2.2.2.2.2.flatMap (zrq zTab kX12_tail.1.cls)).all goodWord = true := by decide +kernel
theorem wd_X12_tail : ∀ w ∈ kX12_tail.2.2.2.2.2.flatMap (zrq zTab kX12_tail.1.cls), w ∈ lw_tbl := zplaces [1378, 1378, 1380, 1378, 1377, 1380, 1378, 1380, 1818, 1817, 176, 1816] (by decide +kernel)
theorem ok_X12_longest : zokM zTab kX12_longest := ⟨by decide +kernel, by decide +kernel, by decide +kernel⟩
theorem gw_X12_longest : (kX12_longest.2.2.2.2.2.flatMap (zrq zTab kX12_longest.1.cls)).all goodWord = true := by decide +kernel
theorem wd_X12_longest : ∀ w ∈ kX12_longest.2.2.2.2.2.flatMap (zrq zTab kX12_longest.1.cls), w ∈ lw_tbl := zplaces [1382, 1382, 1377, 1818, 1817, 176, 1816] (by decide +kernel)
theorem ok_X12_stays : zokM zTab kX12_stays := ⟨by decide +kernel, by decide +kernel, by decide +kernel⟩
theorem gw_X12_stays : (kX12_stays.2.2.2.2.2.flatMap (zrq zTab kX12_stays.1.cls)).all goodWord = true := by decide +kernel
theorem wd_X12_stays : ∀ w ∈ kX12_stays.2.2.2.2.2.flatMap (zrq zTab kX12_stays.1.cls), w ∈ lw_tbl := zplaces [1377] (by decide +kernel)
theorem ok_X12_orbits : zokM zTab kX12_orbits := ⟨by decide +kernel, by decide +kernel, by decide +kernel⟩
theorem gw_X12_orbits : (kX12_orbits.2.2.2.2.2.flatMap (zrq zTab kX12_orbits.1.cls)).all goodWord = true := by decide +kernel
theorem wd_X12_orbits : ∀ w ∈ kX12_orbits.2.2.2.2.2.flatMap (zrq zTab kX12_orbits.1.cls), w ∈ lw_tbl := zplaces [1343, 1630, 1629, 115, 176, 1627, 1663, 1662, 118, 176, 1660, 1515, 1514, 176, 1513, 1762, 1761, 138, 176, 1759, 1799, 1798, 142, 176, 1796, 1807, 1806, 144, 176, 1804, 1811, 1810, 145, 176, 1808, 1815, 1814, 146, 176, 1812, 1822, 1821, 147, 176, 1819] (by decide +kernel)
theorem ok_X12_layDrifts : zokM zTab kX12_layDrifts := ⟨by decide +kernel, by decide +kernel, by decide +kernel⟩
theorem gw_X12_layDrifts : (kX12_layDrifts.2.2.2.2.2.flatMap (zrq zTab kX12_layDrifts.1.cls)).all goodWord = true := by decide +kernel
theorem wd_X12_layDrifts : ∀ w ∈ kX12_layDrifts.2.2.2.2.2.flatMap (zrq zTab kX12_layDrifts.1.cls), w ∈ lw_tbl := zplaces [1383, 1365, 1655, 1654, 117, 176, 1652] (by decide +kernel)
theorem ok_X12_best : zokM zTab kX12_best := ⟨by decide +kernel, by decide +kernel, by decide +kernel⟩
theorem gw_X12_best : (kX12_best.2.2.2.2.2.flatMap (zrq zTab kX12_best.1.cls)).all goodWord = true := by decide +kernel
theorem wd_X12_best : ∀ w ∈ kX12_best.2.2.2.2.2.flatMap (zrq zTab kX12_best.1.cls), w ∈ lw_tbl := zplaces [1767, 1366, 1383, 1377, 1734, 1733, 176, 1732, 1818, 1817, 176, 1816, 1585, 1584, 176, 1583, 1383] (by decide +kernel)
theorem ok_X12_everybody : zokM zTab kX12_everybody := ⟨by decide +kernel, by decide +kernel, by decide +kernel⟩
theorem gw_X12_everybody : (kX12_everybody.2.2.2.2.2.flatMap (zrq zTab kX12_everybody.1.cls)).all goodWord = true := by decide +kernel
theorem wd_X12_everybody : ∀ w ∈ kX12_everybody.2.2.2.2.2.flatMap (zrq zTab kX12_everybody.1.cls), w ∈ lw_tbl := zplaces [1366] (by decide +kernel)
theorem ok_X12_rotaAt : zokM zTab kX12_rotaAt := ⟨by decide +kernel, by decide +kernel, by decide +kernel⟩
theorem gw_X12_rotaAt : (kX12_rotaAt.2.2.2.2.2.flatMap (zrq zTab kX12_rotaAt.1.cls)).all goodWord = true := by decide +kernel
theorem wd_X12_rotaAt : ∀ w ∈ kX12_rotaAt.2.2.2.2.2.flatMap (zrq zTab kX12_rotaAt.1.cls), w ∈ lw_tbl := zplaces [1365, 1383, 1377, 1383, 1377] (by decide +kernel)
theorem ok_X12_rota : zokM zTab kX12_rota := ⟨by decide +kernel, by decide +kernel, by decide +kernel⟩
theorem gw_X12_rota : (kX12_rota.2.2.2.2.2.flatMap (zrq zTab kX12_rota.1.cls)).all goodWord = true := by decide +kernel
theorem wd_X12_rota : ∀ w ∈ kX12_rota.2.2.2.2.2.flatMap (zrq zTab kX12_rota.1.cls), w ∈ lw_tbl := zplaces [1343, 1515, 1514, 176, 1513, 1630, 1629, 115, 176, 1627, 1366, 1515, 1514, 176, 1513, 1515, 1514, 176, 1513, 1762, 1761, 138, 176, 1759, 1830, 1829, 148, 176, 1827, 1834, 1833, 149, 176, 1831, 1838, 1837, 150, 176, 1835, 1383, 1365, 1842, 1841, 151, 176, 1839] (by decide +kernel)
