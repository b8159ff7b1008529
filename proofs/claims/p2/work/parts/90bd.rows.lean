theorem ok_X12_joined : zokM zTab kX12_joined := ⟨by decide +kernel, by decide +kernel, by decide +kernel⟩
theorem gw_X12_joined : (kX12_joined.2.2.2.2.2.flatMap (zrq zTab kX12_joined.1.cls)).all goodWord = true := by decide +kernel
theorem wd_X12_joined : ∀ w ∈ kX12_joined.2.2.2.2.2.flatMap (zrq zTab kX12_joined.1.cls), w ∈ lw_tbl := zplaces [1343, 1641, 1640, 176, 1639, 1641, 1640, 176, 1639, 1758, 1757, 137, 176, 1755, 1378, 1775, 1774, 140, 176, 1772, 1379, 1775, 1774, 140, 176, 1772, 1767, 1378, 1379, 1585, 1584, 176, 1583] (by decide +kernel)
theorem ok_X12_nearest : zokM zTab kX12_nearest := ⟨by decide +kernel, by decide +kernel, by decide +kernel⟩
theorem gw_X12_nearest : (kX12_nearest.2.2.2.2.2.flatMap (zrq zTab kX12_nearest.1.cls)).all goodWord = true := by decide +kernel
theorem wd_X12_nearest : ∀ w ∈ kX12_nearest.2.2.2.2.2.flatMap (zrq zTab kX12_nearest.1.cls), w ∈ lw_tbl := zplaces [1343, 1641, 1640, 176, 1639, 1641, 1640, 176, 1639, 1758, 1757, 137, 176, 1755, 1378, 1775, 1774, 140, 176, 1772, 1767, 1378, 1767, 1655, 1654, 117, 176, 1652, 1767, 1585, 1584, 176, 1583] (by decide +kernel)
theorem ok_X12_settles : zokM zTab kX12_settles := ⟨by decide +kernel, by decide +kernel, by decide +kernel⟩
theorem gw_X12_settles : (kX12_settles.2.2.2.2.2.flatMap (zrq zTab kX12_settles.1.cls)).all goodWord = true := by decide +kernel
theorem wd_X12_settles : ∀ w ∈ kX12_settles.2.2.2.2.2.flatMap (zrq zTab kX12_settles.1.cls), w ∈ lw_tbl := zplaces [1343, 1641, 1640, 176, 1639, 1758, 1757, 137, 176, 1755, 1378, 1775, 1774, 140, 176, 1772, 1767, 1378, 1834, 1833, 149, 176, 1831, 1787, 1786, 141, 176, 1784, 1378] (by decide +kernel)
theorem ok_X12_unmade : zokM zTab kX12_unmade := ⟨by decide +kernel, by decide +kernel, by decide +kernel⟩
theorem gw_X12_unmade : (kX12_unmade.2.2.2.2.2.flatMap (zrq zTab kX12_unmade.1.cls)).all goodWord = true := by decide +kernel
theorem wd_X12_unmade : ∀ w ∈ kX12_unmade.2.2.2.2.2.flatMap (zrq zTab kX12_unmade.1.cls), w ∈ lw_tbl := zplaces [1343, 1758, 1757, 137, 176, 1755, 1382, 1366, 1382, 1377, 1382, 1382] (by decide +kernel)
theorem ok_X12_silenced : zokM zTab kX12_silenced := ⟨by decide +kernel, by decide +kernel, by decide +kernel⟩
theorem gw_X12_silenced : (kX12_silenced.2.2.2.2.2.flatMap (zrq zTab kX12_silenced.1.cls)).all goodWord = true := by decide +kernel
theorem wd_X12_silenced : ∀ w ∈ kX12_silenced.2.2.2.2.2.flatMap (zrq zTab kX12_silenced.1.cls), w ∈ lw_tbl := zplaces [1343, 1641, 1640, 176, 1639, 1641, 1640, 176, 1639, 1758, 1757, 137, 176, 1755, 1767, 1834, 1833, 149, 176, 1831, 1366, 1734, 1733, 176, 1732, 1378, 1775, 1774, 140, 176, 1772, 1378, 1767] (by decide +kernel)
theorem ok_X12_goDeep : zokM zTab kX12_goDeep := ⟨by decide +kernel, by decide +kernel, by decide +kernel⟩
theorem gw_X12_goDeep : (kX12_goDeep.2.2.2.2.2.flatMap (zrq zTab kX12_goDeep.1.cls)).all goodWord = true := by decide +kernel
theorem wd_X12_goDeep : ∀ w ∈ kX12_goDeep.2.2.2.2.2.flatMap (zrq zTab kX12_goDeep.1.cls), w ∈ lw_tbl := zplaces [1388, 1389, 1388, 1389, 1366, 1380, 1377, 1389, 1389, 1389, 1389, 1388] (by decide +kernel)
theorem ok_X12_layBack : zokM zTab kX12_layBack := ⟨by decide +kernel, by decide +kernel, by decide +kernel⟩
theorem gw_X12_layBack : (kX12_layBack.2.2.2.2.2.flatMap (zrq zTab kX12_layBack.1.cls)).all goodWord = true := by decide +kernel
theorem wd_X12_layBack : ∀ w ∈ kX12_layBack.2.2.2.2.2.flatMap (zrq zTab kX12_layBack.1.cls), w ∈ lw_tbl := zplaces [1392, 1390, 1389, 1391, 1366, 1393, 1392, 1377, 1392, 1377] (by decide +kernel)
theorem ok_X12_goBack : zokM zTab kX12_goBack := ⟨by decide +kernel, by decide +kernel, by decide +kernel⟩
theorem gw_X12_goBack : (kX12_goBack.2.2.2.2.2.flatMap (zrq zTab kX12_goBack.1.cls)).all goodWord = true := by decide +kernel
theorem wd_X12_goBack : ∀ w ∈ kX12_goBack.2.2.2.2.2.flatMap (zrq zTab kX12_goBack.1.cls), w ∈ lw_tbl := zplaces [1388, 1390, 1392, 1388, 1390, 1390, 1388, 1393, 1391] (by decide +kernel)
