theorem ok_X12_state : zokM zTab kX12_state := ⟨by decide +kernel, by decide +kernel, by decide +kernel⟩
theorem gw_X12_state : (kX12_state.2.2.2.2.2.flatMap (zrq zTab kX12_state.1.cls)).all goodWord = true := by decide +kernel
theorem wd_X12_state : ∀ w ∈ kX12_state.2.2.2.2.2.flatMap (zrq zTab kX12_state.1.cls), w ∈ lw_tbl := zplaces [1343, 1715, 1714, 129, 176, 1712, 1703, 1702, 127, 176, 1700, 1515, 1514, 176, 1513, 1719, 1718, 130, 176, 1716, 1750, 1749, 136, 176, 1747] (by decide +kernel)
theorem ok_X12_layMade : zokM zTab kX12_layMade := ⟨by decide +kernel, by decide +kernel, by decide +kernel⟩
theorem gw_X12_layMade : (kX12_layMade.2.2.2.2.2.flatMap (zrq zTab kX12_layMade.1.cls)).all goodWord = true := by decide +kernel
theorem wd_X12_layMade : ∀ w ∈ kX12_layMade.2.2.2.2.2.flatMap (zrq zTab kX12_layMade.1.cls), w ∈ lw_tbl := zplaces [1366, 1364, 1363, 1377, 1667, 1666, 119, 176, 1664, 1363, 1364] (by decide +kernel)
theorem ok_X12_handAll : zokM zTab kX12_handAll := ⟨by decide +kernel, by decide +kernel, by decide +kernel⟩
theorem gw_X12_handAll : (kX12_handAll.2.2.2.2.2.flatMap (zrq zTab kX12_handAll.1.cls)).all goodWord = true := by decide +kernel
theorem wd_X12_handAll : ∀ w ∈ kX12_handAll.2.2.2.2.2.flatMap (zrq zTab kX12_handAll.1.cls), w ∈ lw_tbl := zplaces [1630, 1629, 115, 176, 1627, 1762, 1761, 138, 176, 1759] (by decide +kernel)
theorem ok_X12_findFar : zokM zTab kX12_findFar := ⟨by decide +kernel, by decide +kernel, by decide +kernel⟩
theorem gw_X12_findFar : (kX12_findFar.2.2.2.2.2.flatMap (zrq zTab kX12_findFar.1.cls)).all goodWord = true := by decide +kernel
theorem wd_X12_findFar : ∀ w ∈ kX12_findFar.2.2.2.2.2.flatMap (zrq zTab kX12_findFar.1.cls), w ∈ lw_tbl := zplaces [1767, 1380, 1381, 1381, 1366, 1377, 1380, 1734, 1733, 176, 1732, 1767, 1380, 1380, 1381, 1381, 1381] (by decide +kernel)
theorem ok_X12_findBack : zokM zTab kX12_findBack := ⟨by decide +kernel, by decide +kernel, by decide +kernel⟩
theorem gw_X12_findBack : (kX12_findBack.2.2.2.2.2.flatMap (zrq zTab kX12_findBack.1.cls)).all goodWord = true := by decide +kernel
theorem wd_X12_findBack : ∀ w ∈ kX12_findBack.2.2.2.2.2.flatMap (zrq zTab kX12_findBack.1.cls), w ∈ lw_tbl := zplaces [1379, 1767, 1366, 1379, 1377, 1379, 1379] (by decide +kernel)
theorem ok_X12_making : zokM zTab kX12_making := ⟨by decide +kernel, by decide +kernel, by decide +kernel⟩
theorem gw_X12_making : (kX12_making.2.2.2.2.2.flatMap (zrq zTab kX12_making.1.cls)).all goodWord = true := by decide +kernel
theorem wd_X12_making : ∀ w ∈ kX12_making.2.2.2.2.2.flatMap (zrq zTab kX12_making.1.cls), w ∈ lw_tbl := zplaces [1343, 1641, 1640, 176, 1639, 1641, 1640, 176, 1639, 1758, 1757, 137, 176, 1755, 1766, 1765, 139, 176, 1763, 1379, 1767, 1515, 1514, 176, 1513, 1379, 1377, 1379, 1377] (by decide +kernel)
theorem ok_X12_ring : zokM zTab kX12_ring := ⟨by decide +kernel, by decide +kernel, by decide +kernel⟩
theorem gw_X12_ring : (kX12_ring.2.2.2.2.2.flatMap (zrq zTab kX12_ring.1.cls)).all goodWord = true := by decide +kernel
theorem wd_X12_ring : ∀ w ∈ kX12_ring.2.2.2.2.2.flatMap (zrq zTab kX12_ring.1.cls), w ∈ lw_tbl := zplaces [1343, 1641, 1640, 176, 1639, 1758, 1757, 137, 176, 1755, 1378, 1775, 1774, 140, 176, 1772, 1767, 1366, 1377, 1378, 1585, 1584, 176, 1583, 1767] (by decide +kernel)
theorem ok_X12_reach : zokM zTab kX12_reach := ⟨by decide +kernel, by decide +kernel, by decide +kernel⟩
theorem gw_X12_reach : (kX12_reach.2.2.2.2.2.flatMap (zrq zTab kX12_reach.1.cls)).all goodWord = true := by decide +kernel
theorem wd_X12_reach : ∀ w ∈ kX12_reach.2.2.2.2.2.flatMap (zrq zTab kX12_reach.1.cls), w ∈ lw_tbl := zplaces [1343, 1641, 1640, 176, 1639, 1758, 1757, 137, 176, 1755, 1378, 1775, 1774, 140, 176, 1772, 1378, 1380, 1381, 1381] (by decide +kernel)
theorem ok_X12_isKept : zokM zTab kX12_isKept := ⟨by decide +kernel, by decide +kernel, by decide +kernel⟩
theorem gw_X12_isKept : (kX12_isKept.2.2.2.2.2.flatMap (zrq zTab kX12_isKept.1.cls)).all goodWord = true := by decide +kernel
theorem wd_X12_isKept : ∀ w ∈ kX12_isKept.2.2.2.2.2.flatMap (zrq zTab kX12_isKept.1.cls), w ∈ lw_tbl := zplaces [1366, 1734, 1733, 176, 1732, 1377] (by decide +kernel)
theorem ok_X12_sound : zokM zTab kX12_sound := ⟨by decide +kernel, by decide +kernel, by decide +kernel⟩
theorem gw_X12_sound : (kX12_sound.2.2.2.2.2.flatMap (zrq zTab kX12_sound.1.cls)).all goodWord = true := by decide +kernel
theorem wd_X12_sound : ∀ w ∈ kX12_sound.2.2.2.2.2.flatMap (zrq zTab kX12_sound.1.cls), w ∈ lw_tbl := zplaces [1343, 1630, 1629, 115, 176, 1627, 1366, 1515, 1514, 176, 1513, 1762, 1761, 138, 176, 1759, 1787, 1786, 141, 176, 1784] (by decide +kernel)
theorem ok_X12_like : zokM zTab kX12_like := ⟨by decide +kernel, by decide +kernel, by decide +kernel⟩
theorem gw_X12_like : (kX12_like.2.2.2.2.2.flatMap (zrq zTab kX12_like.1.cls)).all goodWord = true := by decide +kernel
theorem wd_X12_like : ∀ w ∈ kX12_like.2.2.2.2.2.flatMap (zrq zTab kX12_like.1.cls), w ∈ lw_tbl := zplaces [1343, 1630, 1629, 115, 176, 1627, 1663, 1662, 118, 176, 1660, 1663, 1662, 118, 176, 1660, 1762, 1761, 138, 176, 1759, 1377, 1377, 1377, 1377] (by decide +kernel)
