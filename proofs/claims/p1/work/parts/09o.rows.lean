theorem ok_X12_fact : zokM zTab kX12_fact := ⟨by decide +kernel, by decide +kernel, by decide +kernel⟩
theorem gw_X12_fact : (kX12_fact.2.2.2.2.2.flatMap (zrq zTab kX12_fact.1.cls)).all goodWord = true := by decide +kernel
theorem wd_X12_fact : ∀ w ∈ kX12_fact.2.2.2.2.2.flatMap (zrq zTab kX12_fact.1.cls), w ∈ lw_tbl := zplaces [1343, 1870, 1869, 153, 176, 1867, 1515, 1514, 176, 1513, 1515, 1514, 176, 1513] (by decide +kernel)
theorem ok_X12_fits : zokM zTab kX12_fits := ⟨by decide +kernel, by decide +kernel, by decide +kernel⟩
theorem gw_X12_fits : (kX12_fits.2.2.2.2.2.flatMap (zrq zTab kX12_fits.1.cls)).all goodWord = true := by decide +kernel
theorem wd_X12_fits : ∀ w ∈ kX12_fits.2.2.2.2.2.flatMap (zrq zTab kX12_fits.1.cls), w ∈ lw_tbl := zplaces [1343, 1515, 1514, 176, 1513, 1641, 1640, 176, 1639, 1870, 1869, 153, 176, 1867, 1758, 1757, 137, 176, 1755, 1385] (by decide +kernel)
theorem ok_X12_sure : zokM zTab kX12_sure := ⟨by decide +kernel, by decide +kernel, by decide +kernel⟩
theorem gw_X12_sure : (kX12_sure.2.2.2.2.2.flatMap (zrq zTab kX12_sure.1.cls)).all goodWord = true := by decide +kernel
theorem wd_X12_sure : ∀ w ∈ kX12_sure.2.2.2.2.2.flatMap (zrq zTab kX12_sure.1.cls), w ∈ lw_tbl := zplaces [1343, 1515, 1514, 176, 1513, 1515, 1514, 176, 1513, 1870, 1869, 153, 176, 1867, 1758, 1757, 137, 176, 1755, 1366] (by decide +kernel)
theorem ok_X12_drawn : zokM zTab kX12_drawn := ⟨by decide +kernel, by decide +kernel, by decide +kernel⟩
theorem gw_X12_drawn : (kX12_drawn.2.2.2.2.2.flatMap (zrq zTab kX12_drawn.1.cls)).all goodWord = true := by decide +kernel
theorem wd_X12_drawn : ∀ w ∈ kX12_drawn.2.2.2.2.2.flatMap (zrq zTab kX12_drawn.1.cls), w ∈ lw_tbl := zplaces [1343, 1515, 1514, 176, 1513, 1630, 1629, 115, 176, 1627, 1387] (by decide +kernel)
theorem ok_X12_kinship : zokM zTab kX12_kinship := ⟨by decide +kernel, by decide +kernel, by decide +kernel⟩
theorem gw_X12_kinship : (kX12_kinship.2.2.2.2.2.flatMap (zrq zTab kX12_kinship.1.cls)).all goodWord = true := by decide +kernel
theorem wd_X12_kinship : ∀ w ∈ kX12_kinship.2.2.2.2.2.flatMap (zrq zTab kX12_kinship.1.cls), w ∈ lw_tbl := zplaces [1343, 1630, 1629, 115, 176, 1627, 1515, 1514, 176, 1513] (by decide +kernel)
theorem ok_X12_shared : zokM zTab kX12_shared := ⟨by decide +kernel, by decide +kernel, by decide +kernel⟩
theorem gw_X12_shared : (kX12_shared.2.2.2.2.2.flatMap (zrq zTab kX12_shared.1.cls)).all goodWord = true := by decide +kernel
theorem wd_X12_shared : ∀ w ∈ kX12_shared.2.2.2.2.2.flatMap (zrq zTab kX12_shared.1.cls), w ∈ lw_tbl := zplaces [1343, 1641, 1640, 176, 1639, 1641, 1640, 176, 1639, 1644, 1643, 176, 1642, 1935, 1934, 164, 176, 1932, 1644, 1643, 176, 1642, 1644, 1643, 176, 1642, 1644, 1643, 176, 1642, 1644, 1643, 176, 1642, 1939, 1938, 165, 176, 1936, 1644, 1643, 176, 1642] (by decide +kernel)
theorem ok_X12_joined : zokM zTab kX12_joined := ⟨by decide +kernel, by decide +kernel, by decide +kernel⟩
theorem gw_X12_joined : (kX12_joined.2.2.2.2.2.flatMap (zrq zTab kX12_joined.1.cls)).all goodWord = true := by decide +kernel
theorem wd_X12_joined : ∀ w ∈ kX12_joined.2.2.2.2.2.flatMap (zrq zTab kX12_joined.1.cls), w ∈ lw_tbl := zplaces [1343, 1641, 1640, 176, 1639, 1641, 1640, 176, 1639, 1758, 1757, 137, 176, 1755, 1378, 1379, 1378, 1379, 1585, 1584, 176, 1583] (by decide +kernel)
theorem ok_X12_nearest : zokM zTab kX12_nearest := ⟨by decide +kernel, by decide +kernel, by decide +kernel⟩
theorem gw_X12_nearest : (kX12_nearest.2.2.2.2.2.flatMap (zrq zTab kX12_nearest.1.cls)).all goodWord = true := by decide +kernel
theorem wd_X12_nearest : ∀ w ∈ kX12_nearest.2.2.2.2.2.flatMap (zrq zTab kX12_nearest.1.cls), w ∈ lw_tbl := zplaces [1343, 1641, 1640, 176, 1639, 1641, 1640, 176, 1639, 1758, 1757, 137, 176, 1755, 1378, 1378, 1655, 1654, 117, 176, 1652, 1585, 1584, 176, 1583] (by decide +kernel)
theorem ok_X12_settles : zokM zTab kX12_settles := ⟨by decide +kernel, by decide +kernel, by decide +kernel⟩
theorem gw_X12_settles : (kX12_settles.2.2.2.2.2.flatMap (zrq zTab kX12_settles.1.cls)).all goodWord = true := by decide +kernel
theorem wd_X12_settles : ∀ w ∈ kX12_settles.2.2.2.2.2.flatMap (zrq zTab kX12_settles.1.cls), w ∈ lw_tbl := zplaces [1343, 1641, 1640, 176, 1639, 1758, 1757, 137, 176, 1755, 1378, 1378, 1378] (by decide +kernel)
theorem ok_X12_unmade : zokM zTab kX12_unmade := ⟨by decide +kernel, by decide +kernel, by decide +kernel⟩
theorem gw_X12_unmade : (kX12_unmade.2.2.2.2.2.flatMap (zrq zTab kX12_unmade.1.cls)).all goodWord = true := by decide +kernel
theorem wd_X12_unmade : ∀ w ∈ kX12_unmade.2.2.2.2.2.flatMap (zrq zTab kX12_unmade.1.cls), w ∈ lw_tbl := zplaces [1343, 1758, 1757, 137, 176, 1755, 1382, 1366, 1382, 1377, 1382, 1382] (by decide +kernel)
