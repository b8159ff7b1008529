theorem ok_X12_findComes : zokM zTab kX12_findComes := ⟨by decide +kernel, by decide +kernel, by decide +kernel⟩
theorem gw_X12_findComes : (kX12_findComes.2.2.2.2.2.flatMap (zrq zTab kX12_findComes.1.cls)).all goodWord = true := by decide +kernel
set_option maxRecDepth 1000000 in
theorem wd_X12_findComes : ∀ w ∈ kX12_findComes.2.2.2.2.2.flatMap (zrq zTab kX12_findComes.1.cls), w ∈ lw_tbl := zplaces [1382, 1382, 1377] rfl
theorem ok_X12_unread : zokM zTab kX12_unread := ⟨by decide +kernel, by decide +kernel, by decide +kernel⟩
theorem gw_X12_unread : (kX12_unread.2.2.2.2.2.flatMap (zrq zTab kX12_unread.1.cls)).all goodWord = true := by decide +kernel
set_option maxRecDepth 1000000 in
theorem wd_X12_unread : ∀ w ∈ kX12_unread.2.2.2.2.2.flatMap (zrq zTab kX12_unread.1.cls), w ∈ lw_tbl := zplaces [1803, 1802, 143, 176, 1800, 1382] rfl
theorem ok_X12_fallAway : zokM zTab kX12_fallAway := ⟨by decide +kernel, by decide +kernel, by decide +kernel⟩
theorem gw_X12_fallAway : (kX12_fallAway.2.2.2.2.2.flatMap (zrq zTab kX12_fallAway.1.cls)).all goodWord = true := by decide +kernel
set_option maxRecDepth 1000000 in
theorem wd_X12_fallAway : ∀ w ∈ kX12_fallAway.2.2.2.2.2.flatMap (zrq zTab kX12_fallAway.1.cls), w ∈ lw_tbl := zplaces [1803, 1802, 143, 176, 1800, 1382, 1380, 1377, 1380, 1382, 1382, 1380] rfl
theorem ok_X12_tail : zokM zTab kX12_tail := ⟨by decide +kernel, by decide +kernel, by decide +kernel⟩
theorem gw_X12_tail : (kX12_tail.2.2.2.2.2.flatMap (zrq zTab kX12_tail.1.cls)).all goodWord = true := by decide +kernel
set_option maxRecDepth 1000000 in
theorem wd_X12_tail : ∀ w ∈ kX12_tail.2.2.2.2.2.flatMap (zrq zTab kX12_tail.1.cls), w ∈ lw_tbl := zplaces [1378, 1378, 1380, 1378, 1377, 1380, 1378, 1380, 1818, 1817, 176, 1816] rfl
theorem ok_X12_longest : zokM zTab kX12_longest := ⟨by decide +kernel, by decide +kernel, by decide +kernel⟩
theorem gw_X12_longest : (kX12_longest.2.2.2.2.2.flatMap (zrq zTab kX12_longest.1.cls)).all goodWord = true := by decide +kernel
set_option maxRecDepth 1000000 in
theorem wd_X12_longest : ∀ w ∈ kX12_longest.2.2.2.2.2.flatMap (zrq zTab kX12_longest.1.cls), w ∈ lw_tbl := zplaces [1382, 1382, 1377, 1818, 1817, 176, 1816] rfl
theorem ok_X12_stays : zokM zTab kX12_stays := ⟨by decide +kernel, by decide +kernel, by decide +kernel⟩
theorem gw_X12_stays : (kX12_stays.2.2.2.2.2.flatMap (zrq zTab kX12_stays.1.cls)).all goodWord = true := by decide +kernel
set_option maxRecDepth 1000000 in
theorem wd_X12_stays : ∀ w ∈ kX12_stays.2.2.2.2.2.flatMap (zrq zTab kX12_stays.1.cls), w ∈ lw_tbl := zplaces [1377] rfl
theorem ok_X12_orbits : zokM zTab kX12_orbits := ⟨by decide +kernel, by decide +kernel, by decide +kernel⟩
theorem gw_X12_orbits : (kX12_orbits.2.2.2.2.2.flatMap (zrq zTab kX12_orbits.1.cls)).all goodWord = true := by decide +kernel
set_option maxRecDepth 1000000 in
theorem wd_X12_orbits : ∀ w ∈ kX12_orbits.2.2.2.2.2.flatMap (zrq zTab kX12_orbits.1.cls), w ∈ lw_tbl := zplaces [1343, 1630, 1629, 115, 176, 1627, 1663, 1662, 118, 176, 1660, 1515, 1514, 176, 1513, 1762, 1761, 138, 176, 1759, 1799, 1798, 142, 176, 1796, 1807, 1806, 144, 176, 1804, 1811, 1810, 145, 176, 1808, 1815, 1814, 146, 176, 1812, 1822, 1821, 147, 176, 1819] rfl
theorem ok_X12_layDrifts : zokM zTab kX12_layDrifts := ⟨by decide +kernel, by decide +kernel, by decide +kernel⟩
theorem gw_X12_layDrifts : (kX12_layDrifts.2.2.2.2.2.flatMap (zrq zTab kX12_layDrifts.1.cls)).all goodWord = true := by decide +kernel
set_option maxRecDepth 1000000 in
theorem wd_X12_layDrifts : ∀ w ∈ kX12_layDrifts.2.2.2.2.2.flatMap (zrq zTab kX12_layDrifts.1.cls), w ∈ lw_tbl := zplaces [1383, 1365, 1655, 1654, 117, 176, 1652] rfl
theorem ok_X12_best : zokM zTab kX12_best := ⟨by decide +kernel, by decide +kernel, by decide +kernel⟩
theorem gw_X12_best : (kX12_best.2.2.2.2.2.flatMap (zrq zTab kX12_best.1.cls)).all goodWord = true := by decide +kernel
set_option maxRecDepth 1000000 in
theorem wd_X12_best : ∀ w ∈ kX12_best.2.2.2.2.2.flatMap (zrq zTab kX12_best.1.cls), w ∈ lw_tbl := zplaces [1767, 1366, 1383, 1377, 1734, 1733, 176, 1732, 1818, 1817, 176, 1816, 1585, 1584, 176, 1583, 1383] rfl
theorem ok_X12_everybody : zokM zTab kX12_everybody := ⟨by decide +kernel, by decide +kernel, by decide +kernel⟩
theorem gw_X12_everybody : (kX12_everybody.2.2.2.2.2.flatMap (zrq zTab kX12_everybody.1.cls)).all goodWord = true := by decide +kernel
set_option maxRecDepth 1000000 in
theorem wd_X12_everybody : ∀ w ∈ kX12_everybody.2.2.2.2.2.flatMap (zrq zTab kX12_everybody.1.cls), w ∈ lw_tbl := zplaces [1366] rfl
theorem ok_X12_rotaAt : zokM zTab kX12_rotaAt := ⟨by decide +kernel, by decide +kernel, by decide +kernel⟩
theorem gw_X12_rotaAt : (kX12_rotaAt.2.2.2.2.2.flatMap (zrq zTab kX12_rotaAt.1.cls)).all goodWord = true := by decide +kernel
set_option maxRecDepth 1000000 in
theorem wd_X12_rotaAt : ∀ w ∈ kX12_rotaAt.2.2.2.2.2.flatMap (zrq zTab kX12_rotaAt.1.cls), w ∈ lw_tbl := zplaces [1365, 1383, 1377, 1383, 1377] rfl
theorem ok_X12_rota : zokM zTab kX12_rota := ⟨by decide +kernel, by decide +kernel, by decide +kernel⟩
theorem gw_X12_rota : (kX12_rota.2.2.2.2.2.flatMap (zrq zTab kX12_rota.1.cls)).all goodWord = true := by decide +kernel
set_option maxRecDepth 1000000 in
theorem wd_X12_rota : ∀ w ∈ kX12_rota.2.2.2.2.2.flatMap (zrq zTab kX12_rota.1.cls), w ∈ lw_tbl := zplaces [1343, 1515, 1514, 176, 1513, 1630, 1629, 115, 176, 1627, 1366, 1515, 1514, 176, 1513, 1515, 1514, 176, 1513, 1762, 1761, 138, 176, 1759, 1830, 1829, 148, 176, 1827, 1834, 1833, 149, 176, 1831, 1838, 1837, 150, 176, 1835, 1383, 1365, 1842, 1841, 151, 176, 1839] rfl
theorem ok_X12_common : zokM zTab kX12_common := ⟨by decide +kernel, by decide +kernel, by decide +kernel⟩
theorem gw_X12_common : (kX12_common.2.2.2.2.2.flatMap (zrq zTab kX12_common.1.cls)).all goodWord = true := by decide +kernel
set_option maxRecDepth 1000000 in
theorem wd_X12_common : ∀ w ∈ kX12_common.2.2.2.2.2.flatMap (zrq zTab kX12_common.1.cls), w ∈ lw_tbl := zplaces [] rfl
theorem ok_X12_mean : zokM zTab kX12_mean := ⟨by decide +kernel, by decide +kernel, by decide +kernel⟩
theorem gw_X12_mean : (kX12_mean.2.2.2.2.2.flatMap (zrq zTab kX12_mean.1.cls)).all goodWord = true := by decide +kernel
set_option maxRecDepth 1000000 in
theorem wd_X12_mean : ∀ w ∈ kX12_mean.2.2.2.2.2.flatMap (zrq zTab kX12_mean.1.cls), w ∈ lw_tbl := zplaces [1343, 1515, 1514, 176, 1513, 1630, 1629, 115, 176, 1627, 1366, 1847, 1762, 1761, 138, 176, 1759, 1830, 1829, 148, 176, 1827, 1366, 1366, 1383, 1377, 1383, 1383, 1365, 1850, 1849, 176, 1848] rfl
theorem ok_X12_elders : zokM zTab kX12_elders := ⟨by decide +kernel, by decide +kernel, by decide +kernel⟩
theorem gw_X12_elders : (kX12_elders.2.2.2.2.2.flatMap (zrq zTab kX12_elders.1.cls)).all goodWord = true := by decide +kernel
set_option maxRecDepth 1000000 in
theorem wd_X12_elders : ∀ w ∈ kX12_elders.2.2.2.2.2.flatMap (zrq zTab kX12_elders.1.cls), w ∈ lw_tbl := zplaces [1343, 1515, 1514, 176, 1513, 1641, 1640, 176, 1639, 1758, 1757, 137, 176, 1755, 1378, 1379, 1366, 1379, 1378, 1377, 1378, 1379, 1378, 1378] rfl
theorem ok_X12_wordsIn : zokM zTab kX12_wordsIn := ⟨by decide +kernel, by decide +kernel, by decide +kernel⟩
theorem gw_X12_wordsIn : (kX12_wordsIn.2.2.2.2.2.flatMap (zrq zTab kX12_wordsIn.1.cls)).all goodWord = true := by decide +kernel
set_option maxRecDepth 1000000 in
theorem wd_X12_wordsIn : ∀ w ∈ kX12_wordsIn.2.2.2.2.2.flatMap (zrq zTab kX12_wordsIn.1.cls), w ∈ lw_tbl := zplaces [1367, 1647, 1646, 176, 1645, 1644, 1643, 176, 1642, 1367] rfl
theorem ok_X12_play_ : zokM zTab kX12_play_ := ⟨by decide +kernel, by decide +kernel, by decide +kernel⟩
theorem gw_X12_play_ : (kX12_play_.2.2.2.2.2.flatMap (zrq zTab kX12_play_.1.cls)).all goodWord = true := by decide +kernel
set_option maxRecDepth 1000000 in
theorem wd_X12_play_ : ∀ w ∈ kX12_play_.2.2.2.2.2.flatMap (zrq zTab kX12_play_.1.cls), w ∈ lw_tbl := zplaces [1343, 1515, 1514, 176, 1513, 1515, 1514, 176, 1513, 1630, 1629, 115, 176, 1627, 1834, 1833, 149, 176, 1831, 1515, 1514, 176, 1513, 1834, 1833, 149, 176, 1831, 1515, 1514, 176, 1513, 1762, 1761, 138, 176, 1759, 1383, 1862, 1861, 152, 176, 1859, 1838, 1837, 150, 176, 1835, 1383, 1365, 1366, 1734, 1733, 176, 1732, 1383, 1377, 1365, 1383, 1365] rfl
theorem ok_X12_facts : zokM zTab kX12_facts := ⟨by decide +kernel, by decide +kernel, by decide +kernel⟩
theorem gw_X12_facts : (kX12_facts.2.2.2.2.2.flatMap (zrq zTab kX12_facts.1.cls)).all goodWord = true := by decide +kernel
set_option maxRecDepth 1000000 in
theorem wd_X12_facts : ∀ w ∈ kX12_facts.2.2.2.2.2.flatMap (zrq zTab kX12_facts.1.cls), w ∈ lw_tbl := zplaces [1351, 1384] rfl
theorem ok_X12_factOf : zokM zTab kX12_factOf := ⟨by decide +kernel, by decide +kernel, by decide +kernel⟩
theorem gw_X12_factOf : (kX12_factOf.2.2.2.2.2.flatMap (zrq zTab kX12_factOf.1.cls)).all goodWord = true := by decide +kernel
set_option maxRecDepth 1000000 in
theorem wd_X12_factOf : ∀ w ∈ kX12_factOf.2.2.2.2.2.flatMap (zrq zTab kX12_factOf.1.cls), w ∈ lw_tbl := zplaces [1351, 1384] rfl
theorem ok_X12_hasSight : zokM zTab kX12_hasSight := ⟨by decide +kernel, by decide +kernel, by decide +kernel⟩
theorem gw_X12_hasSight : (kX12_hasSight.2.2.2.2.2.flatMap (zrq zTab kX12_hasSight.1.cls)).all goodWord = true := by decide +kernel
set_option maxRecDepth 1000000 in
theorem wd_X12_hasSight : ∀ w ∈ kX12_hasSight.2.2.2.2.2.flatMap (zrq zTab kX12_hasSight.1.cls), w ∈ lw_tbl := zplaces [1384, 1523, 1522, 97, 176, 1520] rfl
theorem ok_X12_fact : zokM zTab kX12_fact := ⟨by decide +kernel, by decide +kernel, by decide +kernel⟩
theorem gw_X12_fact : (kX12_fact.2.2.2.2.2.flatMap (zrq zTab kX12_fact.1.cls)).all goodWord = true := by decide +kernel
set_option maxRecDepth 1000000 in
theorem wd_X12_fact : ∀ w ∈ kX12_fact.2.2.2.2.2.flatMap (zrq zTab kX12_fact.1.cls), w ∈ lw_tbl := zplaces [1343, 1870, 1869, 153, 176, 1867, 1874, 1873, 154, 176, 1871, 1874, 1873, 154, 176, 1871, 1515, 1514, 176, 1513, 1515, 1514, 176, 1513, 1878, 1877, 155, 176, 1875] rfl
theorem ok_X12_mayBe : zokM zTab kX12_mayBe := ⟨by decide +kernel, by decide +kernel, by decide +kernel⟩
theorem gw_X12_mayBe : (kX12_mayBe.2.2.2.2.2.flatMap (zrq zTab kX12_mayBe.1.cls)).all goodWord = true := by decide +kernel
set_option maxRecDepth 1000000 in
theorem wd_X12_mayBe : ∀ w ∈ kX12_mayBe.2.2.2.2.2.flatMap (zrq zTab kX12_mayBe.1.cls), w ∈ lw_tbl := zplaces [1874, 1873, 154, 176, 1871, 1878, 1877, 155, 176, 1875, 1878, 1877, 155, 176, 1875] rfl
theorem zd_X12_findRows_0 : qX12_findRows_0.all (zde kX12_findRows) = true := by decide +kernel
theorem zr_X12_findRows_0 : qX12_findRows_0.all (zrow zTab kX12_findRows) = true := by decide +kernel
theorem gw_X12_findRows_0 : (qX12_findRows_0.flatMap (zrq zTab kX12_findRows.1.cls)).all goodWord = true := by decide +kernel
set_option maxRecDepth 1000000 in
theorem wd_X12_findRows_0 : ∀ w ∈ qX12_findRows_0.flatMap (zrq zTab kX12_findRows.1.cls), w ∈ lw_tbl := zplaces [1385, 1365, 1890, 1889, 157, 176, 1887, 1366] rfl
theorem zd_X12_findRows_1 : qX12_findRows_1.all (zde kX12_findRows) = true := by decide +kernel
theorem zr_X12_findRows_1 : qX12_findRows_1.all (zrow zTab kX12_findRows) = true := by decide +kernel
theorem gw_X12_findRows_1 : (qX12_findRows_1.flatMap (zrq zTab kX12_findRows.1.cls)).all goodWord = true := by decide +kernel
set_option maxRecDepth 1000000 in
theorem wd_X12_findRows_1 : ∀ w ∈ qX12_findRows_1.flatMap (zrq zTab kX12_findRows.1.cls), w ∈ lw_tbl := zplaces [1385, 1385, 1377, 1377, 1890, 1889, 157, 176, 1887] rfl
theorem zd_X12_findRows_2 : qX12_findRows_2.all (zde kX12_findRows) = true := by decide +kernel
theorem zr_X12_findRows_2 : qX12_findRows_2.all (zrow zTab kX12_findRows) = true := by decide +kernel
theorem gw_X12_findRows_2 : (qX12_findRows_2.flatMap (zrq zTab kX12_findRows.1.cls)).all goodWord = true := by decide +kernel
set_option maxRecDepth 1000000 in
theorem wd_X12_findRows_2 : ∀ w ∈ qX12_findRows_2.flatMap (zrq zTab kX12_findRows.1.cls), w ∈ lw_tbl := zplaces [1366, 1386, 1377, 1386] rfl
theorem zd_X12_findRows_3 : qX12_findRows_3.all (zde kX12_findRows) = true := by decide +kernel
theorem zr_X12_findRows_3 : qX12_findRows_3.all (zrow zTab kX12_findRows) = true := by decide +kernel
theorem gw_X12_findRows_3 : (qX12_findRows_3.flatMap (zrq zTab kX12_findRows.1.cls)).all goodWord = true := by decide +kernel
set_option maxRecDepth 1000000 in
theorem wd_X12_findRows_3 : ∀ w ∈ qX12_findRows_3.flatMap (zrq zTab kX12_findRows.1.cls), w ∈ lw_tbl := zplaces [1890, 1889, 157, 176, 1887] rfl
theorem ok_X12_findRows : zokM zTab kX12_findRows := ⟨zall_app zd_X12_findRows_0 (zall_app zd_X12_findRows_1 (zall_app zd_X12_findRows_2 (zd_X12_findRows_3))), zall_app zr_X12_findRows_0 (zall_app zr_X12_findRows_1 (zall_app zr_X12_findRows_2 (zr_X12_findRows_3))), by decide +kernel⟩
theorem gw_X12_findRows : (kX12_findRows.2.2.2.2.2.flatMap (zrq zTab kX12_findRows.1.cls)).all goodWord = true := zfg_app gw_X12_findRows_0 (zfg_app gw_X12_findRows_1 (zfg_app gw_X12_findRows_2 (gw_X12_findRows_3)))
theorem wd_X12_findRows : ∀ w ∈ kX12_findRows.2.2.2.2.2.flatMap (zrq zTab kX12_findRows.1.cls), w ∈ lw_tbl := zfm_app wd_X12_findRows_0 (zfm_app wd_X12_findRows_1 (zfm_app wd_X12_findRows_2 (wd_X12_findRows_3)))
theorem ok_X12_allRows : zokM zTab kX12_allRows := ⟨by decide +kernel, by decide +kernel, by decide +kernel⟩
theorem gw_X12_allRows : (kX12_allRows.2.2.2.2.2.flatMap (zrq zTab kX12_allRows.1.cls)).all goodWord = true := by decide +kernel
set_option maxRecDepth 1000000 in
theorem wd_X12_allRows : ∀ w ∈ kX12_allRows.2.2.2.2.2.flatMap (zrq zTab kX12_allRows.1.cls), w ∈ lw_tbl := zplaces [1386, 1365] rfl
theorem ok_X12_fits : zokM zTab kX12_fits := ⟨by decide +kernel, by decide +kernel, by decide +kernel⟩
theorem gw_X12_fits : (kX12_fits.2.2.2.2.2.flatMap (zrq zTab kX12_fits.1.cls)).all goodWord = true := by decide +kernel
set_option maxRecDepth 1000000 in
theorem wd_X12_fits : ∀ w ∈ kX12_fits.2.2.2.2.2.flatMap (zrq zTab kX12_fits.1.cls), w ∈ lw_tbl := zplaces [1343, 1515, 1514, 176, 1513, 1641, 1640, 176, 1639, 1870, 1869, 153, 176, 1867, 1758, 1757, 137, 176, 1755, 1886, 1885, 156, 176, 1883, 1894, 1893, 158, 176, 1891, 1385] rfl
theorem ok_X12_look : zokM zTab kX12_look := ⟨by decide +kernel, by decide +kernel, by decide +kernel⟩
theorem gw_X12_look : (kX12_look.2.2.2.2.2.flatMap (zrq zTab kX12_look.1.cls)).all goodWord = true := by decide +kernel
set_option maxRecDepth 1000000 in
theorem wd_X12_look : ∀ w ∈ kX12_look.2.2.2.2.2.flatMap (zrq zTab kX12_look.1.cls), w ∈ lw_tbl := zplaces [1385, 1385, 1386, 1818, 1817, 176, 1816] rfl
theorem ok_X12_rowsOf : zokM zTab kX12_rowsOf := ⟨by decide +kernel, by decide +kernel, by decide +kernel⟩
theorem gw_X12_rowsOf : (kX12_rowsOf.2.2.2.2.2.flatMap (zrq zTab kX12_rowsOf.1.cls)).all goodWord = true := by decide +kernel
set_option maxRecDepth 1000000 in
theorem wd_X12_rowsOf : ∀ w ∈ kX12_rowsOf.2.2.2.2.2.flatMap (zrq zTab kX12_rowsOf.1.cls), w ∈ lw_tbl := zplaces [1385, 1385, 1386, 1377] rfl
theorem ok_X12_sure : zokM zTab kX12_sure := ⟨by decide +kernel, by decide +kernel, by decide +kernel⟩
theorem gw_X12_sure : (kX12_sure.2.2.2.2.2.flatMap (zrq zTab kX12_sure.1.cls)).all goodWord = true := by decide +kernel
set_option maxRecDepth 1000000 in
theorem wd_X12_sure : ∀ w ∈ kX12_sure.2.2.2.2.2.flatMap (zrq zTab kX12_sure.1.cls), w ∈ lw_tbl := zplaces [1343, 1515, 1514, 176, 1513, 1515, 1514, 176, 1513, 1870, 1869, 153, 176, 1867, 1758, 1757, 137, 176, 1755, 1886, 1885, 156, 176, 1883, 1894, 1893, 158, 176, 1891, 1902, 1901, 159, 176, 1899, 1366, 1906, 1905, 160, 176, 1903, 1894, 1893, 158, 176, 1891] rfl
theorem ok_X12_draw : zokM zTab kX12_draw := ⟨by decide +kernel, by decide +kernel, by decide +kernel⟩
theorem gw_X12_draw : (kX12_draw.2.2.2.2.2.flatMap (zrq zTab kX12_draw.1.cls)).all goodWord = true := by decide +kernel
set_option maxRecDepth 1000000 in
theorem wd_X12_draw : ∀ w ∈ kX12_draw.2.2.2.2.2.flatMap (zrq zTab kX12_draw.1.cls), w ∈ lw_tbl := zplaces [1387, 1919, 1387, 1387] rfl
theorem ok_X12_drawDeed : zokM zTab kX12_drawDeed := ⟨by decide +kernel, by decide +kernel, by decide +kernel⟩
theorem gw_X12_drawDeed : (kX12_drawDeed.2.2.2.2.2.flatMap (zrq zTab kX12_drawDeed.1.cls)).all goodWord = true := by decide +kernel
set_option maxRecDepth 1000000 in
theorem wd_X12_drawDeed : ∀ w ∈ kX12_drawDeed.2.2.2.2.2.flatMap (zrq zTab kX12_drawDeed.1.cls), w ∈ lw_tbl := zplaces [1918, 1917, 162, 176, 1915, 1918, 1917, 162, 176, 1915, 1366, 1366, 1918, 1917, 162, 176, 1915, 1731, 1730, 133, 176, 1728, 1372, 1918, 1917, 162, 176, 1915, 1372, 1738, 1737, 134, 176, 1735, 1742, 1741, 135, 176, 1739] rfl
theorem ok_X12_drawn : zokM zTab kX12_drawn := ⟨by decide +kernel, by decide +kernel, by decide +kernel⟩
theorem gw_X12_drawn : (kX12_drawn.2.2.2.2.2.flatMap (zrq zTab kX12_drawn.1.cls)).all goodWord = true := by decide +kernel
set_option maxRecDepth 1000000 in
theorem wd_X12_drawn : ∀ w ∈ kX12_drawn.2.2.2.2.2.flatMap (zrq zTab kX12_drawn.1.cls), w ∈ lw_tbl := zplaces [1343, 1515, 1514, 176, 1513, 1630, 1629, 115, 176, 1627, 1387, 1723, 1722, 131, 176, 1720, 1914, 1913, 161, 176, 1911, 1750, 1749, 136, 176, 1747] rfl
theorem ok_X12_kinship : zokM zTab kX12_kinship := ⟨by decide +kernel, by decide +kernel, by decide +kernel⟩
theorem gw_X12_kinship : (kX12_kinship.2.2.2.2.2.flatMap (zrq zTab kX12_kinship.1.cls)).all goodWord = true := by decide +kernel
set_option maxRecDepth 1000000 in
theorem wd_X12_kinship : ∀ w ∈ kX12_kinship.2.2.2.2.2.flatMap (zrq zTab kX12_kinship.1.cls), w ∈ lw_tbl := zplaces [1343, 1630, 1629, 115, 176, 1627, 1515, 1514, 176, 1513, 1927, 1926, 163, 176, 1924, 1634, 1633, 116, 176, 1631, 1927, 1926, 163, 176, 1924] rfl
theorem ok_X12_kinRing : zokM zTab kX12_kinRing := ⟨by decide +kernel, by decide +kernel, by decide +kernel⟩
theorem gw_X12_kinRing : (kX12_kinRing.2.2.2.2.2.flatMap (zrq zTab kX12_kinRing.1.cls)).all goodWord = true := by decide +kernel
set_option maxRecDepth 1000000 in
theorem wd_X12_kinRing : ∀ w ∈ kX12_kinRing.2.2.2.2.2.flatMap (zrq zTab kX12_kinRing.1.cls), w ∈ lw_tbl := zplaces [1634, 1633, 116, 176, 1631, 1634, 1633, 116, 176, 1631] rfl
theorem ok_X12_someOf : zokM zTab kX12_someOf := ⟨by decide +kernel, by decide +kernel, by decide +kernel⟩
theorem gw_X12_someOf : (kX12_someOf.2.2.2.2.2.flatMap (zrq zTab kX12_someOf.1.cls)).all goodWord = true := by decide +kernel
set_option maxRecDepth 1000000 in
theorem wd_X12_someOf : ∀ w ∈ kX12_someOf.2.2.2.2.2.flatMap (zrq zTab kX12_someOf.1.cls), w ∈ lw_tbl := zplaces [1367, 1647, 1646, 176, 1645, 1644, 1643, 176, 1642, 1734, 1733, 176, 1732, 1367, 1367, 1691, 1690, 125, 176, 1688] rfl
theorem ok_X12_isLeft : zokM zTab kX12_isLeft := ⟨by decide +kernel, by decide +kernel, by decide +kernel⟩
theorem gw_X12_isLeft : (kX12_isLeft.2.2.2.2.2.flatMap (zrq zTab kX12_isLeft.1.cls)).all goodWord = true := by decide +kernel
set_option maxRecDepth 1000000 in
theorem wd_X12_isLeft : ∀ w ∈ kX12_isLeft.2.2.2.2.2.flatMap (zrq zTab kX12_isLeft.1.cls), w ∈ lw_tbl := zplaces [1644, 1643, 176, 1642, 1935, 1934, 164, 176, 1932] rfl
theorem ok_X12_shared : zokM zTab kX12_shared := ⟨by decide +kernel, by decide +kernel, by decide +kernel⟩
theorem gw_X12_shared : (kX12_shared.2.2.2.2.2.flatMap (zrq zTab kX12_shared.1.cls)).all goodWord = true := by decide +kernel
set_option maxRecDepth 1000000 in
theorem wd_X12_shared : ∀ w ∈ kX12_shared.2.2.2.2.2.flatMap (zrq zTab kX12_shared.1.cls), w ∈ lw_tbl := zplaces [1343, 1641, 1640, 176, 1639, 1641, 1640, 176, 1639, 1644, 1643, 176, 1642, 1935, 1934, 164, 176, 1932, 1644, 1643, 176, 1642, 1644, 1643, 176, 1642, 1644, 1643, 176, 1642, 1644, 1643, 176, 1642, 1939, 1938, 165, 176, 1936, 1644, 1643, 176, 1642] rfl
theorem ok_X12_joined : zokM zTab kX12_joined := ⟨by decide +kernel, by decide +kernel, by decide +kernel⟩
theorem gw_X12_joined : (kX12_joined.2.2.2.2.2.flatMap (zrq zTab kX12_joined.1.cls)).all goodWord = true := by decide +kernel
set_option maxRecDepth 1000000 in
theorem wd_X12_joined : ∀ w ∈ kX12_joined.2.2.2.2.2.flatMap (zrq zTab kX12_joined.1.cls), w ∈ lw_tbl := zplaces [1343, 1641, 1640, 176, 1639, 1641, 1640, 176, 1639, 1758, 1757, 137, 176, 1755, 1378, 1775, 1774, 140, 176, 1772, 1379, 1775, 1774, 140, 176, 1772, 1767, 1378, 1379, 1585, 1584, 176, 1583] rfl
theorem ok_X12_nearest : zokM zTab kX12_nearest := ⟨by decide +kernel, by decide +kernel, by decide +kernel⟩
theorem gw_X12_nearest : (kX12_nearest.2.2.2.2.2.flatMap (zrq zTab kX12_nearest.1.cls)).all goodWord = true := by decide +kernel
set_option maxRecDepth 1000000 in
theorem wd_X12_nearest : ∀ w ∈ kX12_nearest.2.2.2.2.2.flatMap (zrq zTab kX12_nearest.1.cls), w ∈ lw_tbl := zplaces [1343, 1641, 1640, 176, 1639, 1641, 1640, 176, 1639, 1758, 1757, 137, 176, 1755, 1378, 1775, 1774, 140, 176, 1772, 1767, 1378, 1767, 1655, 1654, 117, 176, 1652, 1767, 1585, 1584, 176, 1583] rfl
theorem ok_X12_settles : zokM zTab kX12_settles := ⟨by decide +kernel, by decide +kernel, by decide +kernel⟩
theorem gw_X12_settles : (kX12_settles.2.2.2.2.2.flatMap (zrq zTab kX12_settles.1.cls)).all goodWord = true := by decide +kernel
set_option maxRecDepth 1000000 in
theorem wd_X12_settles : ∀ w ∈ kX12_settles.2.2.2.2.2.flatMap (zrq zTab kX12_settles.1.cls), w ∈ lw_tbl := zplaces [1343, 1641, 1640, 176, 1639, 1758, 1757, 137, 176, 1755, 1378, 1775, 1774, 140, 176, 1772, 1767, 1378, 1834, 1833, 149, 176, 1831, 1787, 1786, 141, 176, 1784, 1378] rfl
theorem ok_X12_unmade : zokM zTab kX12_unmade := ⟨by decide +kernel, by decide +kernel, by decide +kernel⟩
theorem gw_X12_unmade : (kX12_unmade.2.2.2.2.2.flatMap (zrq zTab kX12_unmade.1.cls)).all goodWord = true := by decide +kernel
set_option maxRecDepth 1000000 in
theorem wd_X12_unmade : ∀ w ∈ kX12_unmade.2.2.2.2.2.flatMap (zrq zTab kX12_unmade.1.cls), w ∈ lw_tbl := zplaces [1343, 1758, 1757, 137, 176, 1755, 1382, 1366, 1382, 1377, 1382, 1382] rfl
theorem ok_X12_silenced : zokM zTab kX12_silenced := ⟨by decide +kernel, by decide +kernel, by decide +kernel⟩
theorem gw_X12_silenced : (kX12_silenced.2.2.2.2.2.flatMap (zrq zTab kX12_silenced.1.cls)).all goodWord = true := by decide +kernel
set_option maxRecDepth 1000000 in
theorem wd_X12_silenced : ∀ w ∈ kX12_silenced.2.2.2.2.2.flatMap (zrq zTab kX12_silenced.1.cls), w ∈ lw_tbl := zplaces [1343, 1641, 1640, 176, 1639, 1641, 1640, 176, 1639, 1758, 1757, 137, 176, 1755, 1767, 1834, 1833, 149, 176, 1831, 1366, 1734, 1733, 176, 1732, 1378, 1775, 1774, 140, 176, 1772, 1378, 1767] rfl
theorem ok_X12_goDeep : zokM zTab kX12_goDeep := ⟨by decide +kernel, by decide +kernel, by decide +kernel⟩
theorem gw_X12_goDeep : (kX12_goDeep.2.2.2.2.2.flatMap (zrq zTab kX12_goDeep.1.cls)).all goodWord = true := by decide +kernel
set_option maxRecDepth 1000000 in
theorem wd_X12_goDeep : ∀ w ∈ kX12_goDeep.2.2.2.2.2.flatMap (zrq zTab kX12_goDeep.1.cls), w ∈ lw_tbl := zplaces [1388, 1389, 1388, 1389, 1366, 1380, 1377, 1389, 1389, 1389, 1389, 1388] rfl
theorem ok_X12_layBack : zokM zTab kX12_layBack := ⟨by decide +kernel, by decide +kernel, by decide +kernel⟩
theorem gw_X12_layBack : (kX12_layBack.2.2.2.2.2.flatMap (zrq zTab kX12_layBack.1.cls)).all goodWord = true := by decide +kernel
set_option maxRecDepth 1000000 in
theorem wd_X12_layBack : ∀ w ∈ kX12_layBack.2.2.2.2.2.flatMap (zrq zTab kX12_layBack.1.cls), w ∈ lw_tbl := zplaces [1392, 1390, 1389, 1391, 1366, 1393, 1392, 1377, 1392, 1377] rfl
theorem ok_X12_goBack : zokM zTab kX12_goBack := ⟨by decide +kernel, by decide +kernel, by decide +kernel⟩
theorem gw_X12_goBack : (kX12_goBack.2.2.2.2.2.flatMap (zrq zTab kX12_goBack.1.cls)).all goodWord = true := by decide +kernel
set_option maxRecDepth 1000000 in
theorem wd_X12_goBack : ∀ w ∈ kX12_goBack.2.2.2.2.2.flatMap (zrq zTab kX12_goBack.1.cls), w ∈ lw_tbl := zplaces [1388, 1390, 1392, 1388, 1390, 1390, 1388, 1393, 1391] rfl
