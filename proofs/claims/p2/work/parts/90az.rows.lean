theorem ok_X12_common : zokM zTab kX12_common := ⟨by decide +kernel, by decide +kernel, by decide +kernel⟩
theorem gw_X12_common : (kX12_common.2.2.2.2.2.flatMap (zrq zTab kX12_common.1.cls)).all goodWord = true := by decide +kernel
theorem wd_X12_common : ∀ w ∈ kX12_common.2.2.2.2.2.flatMap (zrq zTab kX12_common.1.cls), w ∈ lw_tbl := zplaces [] (by decide +kernel)
theorem ok_X12_mean : zokM zTab kX12_mean := ⟨by decide +kernel, by decide +kernel, by decide +kernel⟩
theorem gw_X12_mean : (kX12_mean.2.2.2.2.2.flatMap (zrq zTab kX12_mean.1.cls)).all goodWord = true := by decide +kernel
theorem wd_X12_mean : ∀ w ∈ kX12_mean.2.2.2.2.2.flatMap (zrq zTab kX12_mean.1.cls), w ∈ lw_tbl := zplaces [1343, 1515, 1514, 176, 1513, 1630, 1629, 115, 176, 1627, 1366, 1847, 1762, 1761, 138, 176, 1759, 1830, 1829, 148, 176, 1827, 1366, 1366, 1383, 1377, 1383, 1383, 1365, 1850, 1849, 176, 1848] (by decide +kernel)
theorem ok_X12_elders : zokM zTab kX12_elders := ⟨by decide +kernel, by decide +kernel, by decide +kernel⟩
theorem gw_X12_elders : (kX12_elders.2.2.2.2.2.flatMap (zrq zTab kX12_elders.1.cls)).all goodWord = true := by decide +kernel
theorem wd_X12_elders : ∀ w ∈ kX12_elders.2.2.2.2.2.flatMap (zrq zTab kX12_elders.1.cls), w ∈ lw_tbl := zplaces [1343, 1515, 1514, 176, 1513, 1641, 1640, 176, 1639, 1758, 1757, 137, 176, 1755, 1378, 1379, 1366, 1379, 1378, 1377, 1378, 1379, 1378, 1378] (by decide +kernel)
theorem ok_X12_wordsIn : zokM zTab kX12_wordsIn := ⟨by decide +kernel, by decide +kernel, by decide +kernel⟩
theorem gw_X12_wordsIn : (kX12_wordsIn.2.2.2.2.2.flatMap (zrq zTab kX12_wordsIn.1.cls)).all goodWord = true := by decide +kernel
theorem wd_X12_wordsIn : ∀ w ∈ kX12_wordsIn.2.2.2.2.2.flatMap (zrq zTab kX12_wordsIn.1.cls), w ∈ lw_tbl := zplaces [1367, 1647, 1646, 176, 1645, 1644, 1643, 176, 1642, 1367] (by decide +kernel)
theorem ok_X12_play_ : zokM zTab kX12_play_ := ⟨by decide +kernel, by decide +kernel, by decide +kernel⟩
theorem gw_X12_play_ : (kX12_play_.2.2.2.2.2.flatMap (zrq zTab kX12_play_.1.cls)).all goodWord = true := by decide +kernel
theorem wd_X12_play_ : ∀ w ∈ kX12_play_.2.2.2.2.2.flatMap (zrq zTab kX12_play_.1.cls), w ∈ lw_tbl := zplaces [1343, 1515, 1514, 176, 1513, 1515, 1514, 176, 1513, 1630, 1629, 115, 176, 1627, 1834, 1833, 149, 176, 1831, 1515, 1514, 176, 1513, 1834, 1833, 149, 176, 1831, 1515, 1514, 176, 1513, 1762, 1761, 138, 176, 1759, 1383, 1862, 1861, 152, 176, 1859, 1838, 1837, 150, 176, 1835, 1383, 1365, 1366, 1734, 1733, 176, 1732, 1383, 1377, 1365, 1383, 1365] (by decide +kernel)
theorem ok_X12_facts : zokM zTab kX12_facts := ⟨by decide +kernel, by decide +kernel, by decide +kernel⟩
theorem gw_X12_facts : (kX12_facts.2.2.2.2.2.flatMap (zrq zTab kX12_facts.1.cls)).all goodWord = true := by decide +kernel
theorem wd_X12_facts : ∀ w ∈ kX12_facts.2.2.2.2.2.flatMap (zrq zTab kX12_facts.1.cls), w ∈ lw_tbl := zplaces [1351, 1384] (by decide +kernel)
theorem ok_X12_factOf : zokM zTab kX12_factOf := ⟨by decide +kernel, by decide +kernel, by decide +kernel⟩
theorem gw_X12_factOf : (kX12_factOf.2.2.2.2.2.flatMap (zrq zTab kX12_factOf.1.cls)).all goodWord = true := by decide +kernel
theorem wd_X12_factOf : ∀ w ∈ kX12_factOf.2.2.2.2.2.flatMap (zrq zTab kX12_factOf.1.cls), w ∈ lw_tbl := zplaces [1351, 1384] (by decide +kernel)
theorem ok_X12_hasSight : zokM zTab kX12_hasSight := ⟨by decide +kernel, by decide +kernel, by decide +kernel⟩
theorem gw_X12_hasSight : (kX12_hasSight.2.2.2.2.2.flatMap (zrq zTab kX12_hasSight.1.cls)).all goodWord = true := by decide +kernel
theorem wd_X12_hasSight : ∀ w ∈ kX12_hasSight.2.2.2.2.2.flatMap (zrq zTab kX12_hasSight.1.cls), w ∈ lw_tbl := zplaces [1384, 1523, 1522, 97, 176, 1520] (by decide +kernel)
theorem ok_X12_fact : zokM zTab kX12_fact := ⟨by decide +kernel, by decide +kernel, by decide +kernel⟩
theorem gw_X12_fact : (kX12_fact.2.2.2.2.2.flatMap (zrq zTab kX12_fact.1.cls)).all goodWord = true := by decide +kernel
theorem wd_X12_fact : ∀ w ∈ kX12_fact.2.2.2.2.2.flatMap (zrq zTab kX12_fact.1.cls), w ∈ lw_tbl := zplaces [1343, 1870, 1869, 153, 176, 1867, 1874, 1873, 154, 176, 1871, 1874, 1873, 154, 176, 1871, 1515, 1514, 176, 1513, 1515, 1514, 176, 1513, 1878, 1877, 155, 176, 1875] (by decide +kernel)
theorem ok_X12_mayBe : zokM zTab kX12_mayBe := ⟨by decide +kernel, by decide +kernel, by decide +kernel⟩
theorem gw_X12_mayBe : (kX12_mayBe.2.2.2.2.2.flatMap (zrq zTab kX12_mayBe.1.cls)).all goodWord = true := by decide +kernel
theorem wd_X12_mayBe : ∀ w ∈ kX12_mayBe.2.2.2.2.2.flatMap (zrq zTab kX12_mayBe.1.cls), w ∈ lw_tbl := zplaces [1874, 1873, 154, 176, 1871, 1878, 1877, 155, 176, 1875, 1878, 1877, 155, 176, 1875] (by decide +kernel)
