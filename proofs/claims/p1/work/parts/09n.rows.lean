theorem ok_X12_reach : zokM zTab kX12_reach := ⟨by decide +kernel, by decide +kernel, by decide +kernel⟩
theorem gw_X12_reach : (kX12_reach.2.2.2.2.2.flatMap (zrq zTab kX12_reach.1.cls)).all goodWord = true := by decide +kernel
theorem wd_X12_reach : ∀ w ∈ kX12_reach.2.2.2.2.2.flatMap (zrq zTab kX12_reach.1.cls), w ∈ lw_tbl := zplaces [1343, 1641, 1640, 176, 1639, 1758, 1757, 137, 176, 1755, 1378, 1378, 1380, 1381, 1381] (by decide +kernel)
theorem ok_X12_sound : zokM zTab kX12_sound := ⟨by decide +kernel, by decide +kernel, by decide +kernel⟩
theorem gw_X12_sound : (kX12_sound.2.2.2.2.2.flatMap (zrq zTab kX12_sound.1.cls)).all goodWord = true := by decide +kernel
theorem wd_X12_sound : ∀ w ∈ kX12_sound.2.2.2.2.2.flatMap (zrq zTab kX12_sound.1.cls), w ∈ lw_tbl := zplaces [1343, 1630, 1629, 115, 176, 1627, 1366, 1515, 1514, 176, 1513] (by decide +kernel)
theorem ok_X12_like : zokM zTab kX12_like := ⟨by decide +kernel, by decide +kernel, by decide +kernel⟩
theorem gw_X12_like : (kX12_like.2.2.2.2.2.flatMap (zrq zTab kX12_like.1.cls)).all goodWord = true := by decide +kernel
theorem wd_X12_like : ∀ w ∈ kX12_like.2.2.2.2.2.flatMap (zrq zTab kX12_like.1.cls), w ∈ lw_tbl := zplaces [1343, 1630, 1629, 115, 176, 1627, 1377, 1377, 1377, 1377] (by decide +kernel)
theorem ok_X12_orbits : zokM zTab kX12_orbits := ⟨by decide +kernel, by decide +kernel, by decide +kernel⟩
theorem gw_X12_orbits : (kX12_orbits.2.2.2.2.2.flatMap (zrq zTab kX12_orbits.1.cls)).all goodWord = true := by decide +kernel
theorem wd_X12_orbits : ∀ w ∈ kX12_orbits.2.2.2.2.2.flatMap (zrq zTab kX12_orbits.1.cls), w ∈ lw_tbl := zplaces [1343, 1630, 1629, 115, 176, 1627, 1515, 1514, 176, 1513] (by decide +kernel)
theorem ok_X12_rota : zokM zTab kX12_rota := ⟨by decide +kernel, by decide +kernel, by decide +kernel⟩
theorem gw_X12_rota : (kX12_rota.2.2.2.2.2.flatMap (zrq zTab kX12_rota.1.cls)).all goodWord = true := by decide +kernel
theorem wd_X12_rota : ∀ w ∈ kX12_rota.2.2.2.2.2.flatMap (zrq zTab kX12_rota.1.cls), w ∈ lw_tbl := zplaces [1343, 1515, 1514, 176, 1513, 1630, 1629, 115, 176, 1627, 1366, 1515, 1514, 176, 1513, 1515, 1514, 176, 1513, 1383, 1365] (by decide +kernel)
theorem ok_X12_mean : zokM zTab kX12_mean := ⟨by decide +kernel, by decide +kernel, by decide +kernel⟩
theorem gw_X12_mean : (kX12_mean.2.2.2.2.2.flatMap (zrq zTab kX12_mean.1.cls)).all goodWord = true := by decide +kernel
theorem wd_X12_mean : ∀ w ∈ kX12_mean.2.2.2.2.2.flatMap (zrq zTab kX12_mean.1.cls), w ∈ lw_tbl := zplaces [1343, 1515, 1514, 176, 1513, 1630, 1629, 115, 176, 1627, 1366, 1847, 1366, 1366, 1383, 1377, 1383, 1383, 1365] (by decide +kernel)
theorem ok_X12_elders : zokM zTab kX12_elders := ⟨by decide +kernel, by decide +kernel, by decide +kernel⟩
theorem gw_X12_elders : (kX12_elders.2.2.2.2.2.flatMap (zrq zTab kX12_elders.1.cls)).all goodWord = true := by decide +kernel
theorem wd_X12_elders : ∀ w ∈ kX12_elders.2.2.2.2.2.flatMap (zrq zTab kX12_elders.1.cls), w ∈ lw_tbl := zplaces [1343, 1515, 1514, 176, 1513, 1641, 1640, 176, 1639, 1758, 1757, 137, 176, 1755, 1378, 1379, 1366, 1379, 1378, 1377, 1378, 1379, 1378, 1378] (by decide +kernel)
theorem ok_X12_play_ : zokM zTab kX12_play_ := ⟨by decide +kernel, by decide +kernel, by decide +kernel⟩
theorem gw_X12_play_ : (kX12_play_.2.2.2.2.2.flatMap (zrq zTab kX12_play_.1.cls)).all goodWord = true := by decide +kernel
theorem wd_X12_play_ : ∀ w ∈ kX12_play_.2.2.2.2.2.flatMap (zrq zTab kX12_play_.1.cls), w ∈ lw_tbl := zplaces [1343, 1515, 1514, 176, 1513, 1515, 1514, 176, 1513, 1630, 1629, 115, 176, 1627, 1515, 1514, 176, 1513, 1515, 1514, 176, 1513, 1383, 1383, 1365, 1366, 1734, 1733, 176, 1732, 1383, 1377, 1365, 1383, 1365] (by decide +kernel)
