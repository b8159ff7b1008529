theorem ok_X12_findCircles : zokM zTab kX12_findCircles := ⟨by decide +kernel, by decide +kernel, by decide +kernel⟩
theorem gw_X12_findCircles : (kX12_findCircles.2.2.2.2.2.flatMap (zrq zTab kX12_findCircles.1.cls)).all goodWord = true := by decide +kernel
theorem wd_X12_findCircles : ∀ w ∈ kX12_findCircles.2.2.2.2.2.flatMap (zrq zTab kX12_findCircles.1.cls), w ∈ lw_tbl := zplaces [1971, 1970, 167, 176, 1968, 1389, 1975, 1974, 168, 176, 1972, 1390, 1380, 1380, 1979, 1978, 169, 176, 1976] (by decide +kernel)
theorem ok_X12_circles : zokM zTab kX12_circles := ⟨by decide +kernel, by decide +kernel, by decide +kernel⟩
theorem gw_X12_circles : (kX12_circles.2.2.2.2.2.flatMap (zrq zTab kX12_circles.1.cls)).all goodWord = true := by decide +kernel
theorem wd_X12_circles : ∀ w ∈ kX12_circles.2.2.2.2.2.flatMap (zrq zTab kX12_circles.1.cls), w ∈ lw_tbl := zplaces [1343, 1515, 1514, 176, 1513, 1758, 1757, 137, 176, 1755, 1967, 1966, 166, 176, 1964, 1391, 1818, 1817, 176, 1816, 1391, 1390] (by decide +kernel)
theorem ok_X12_count : zokM zTab kX12_count := ⟨by decide +kernel, by decide +kernel, by decide +kernel⟩
theorem gw_X12_count : (kX12_count.2.2.2.2.2.flatMap (zrq zTab kX12_count.1.cls)).all goodWord = true := by decide +kernel
theorem wd_X12_count : ∀ w ∈ kX12_count.2.2.2.2.2.flatMap (zrq zTab kX12_count.1.cls), w ∈ lw_tbl := zplaces [1343, 1515, 1514, 176, 1513, 1348] (by decide +kernel)
theorem ok_X12_image : zokM zTab kX12_image := ⟨by decide +kernel, by decide +kernel, by decide +kernel⟩
theorem gw_X12_image : (kX12_image.2.2.2.2.2.flatMap (zrq zTab kX12_image.1.cls)).all goodWord = true := by decide +kernel
theorem wd_X12_image : ∀ w ∈ kX12_image.2.2.2.2.2.flatMap (zrq zTab kX12_image.1.cls), w ∈ lw_tbl := zplaces [1343, 1515, 1514, 176, 1513, 1991, 1990, 170, 176, 1988, 1394] (by decide +kernel)
theorem ok_X12_again : zokM zTab kX12_again := ⟨by decide +kernel, by decide +kernel, by decide +kernel⟩
theorem gw_X12_again : (kX12_again.2.2.2.2.2.flatMap (zrq zTab kX12_again.1.cls)).all goodWord = true := by decide +kernel
theorem wd_X12_again : ∀ w ∈ kX12_again.2.2.2.2.2.flatMap (zrq zTab kX12_again.1.cls), w ∈ lw_tbl := zplaces [1343, 1515, 1514, 176, 1513, 1394, 1991, 1990, 170, 176, 1988, 1364] (by decide +kernel)
theorem ok_J7_fill_53178 : zokM zTab kJ7_fill_53178 := ⟨by decide +kernel, by decide +kernel, by decide +kernel⟩
theorem gw_J7_fill_53178 : (kJ7_fill_53178.2.2.2.2.2.flatMap (zrq zTab kJ7_fill_53178.1.cls)).all goodWord = true := by decide +kernel
theorem wd_J7_fill_53178 : ∀ w ∈ kJ7_fill_53178.2.2.2.2.2.flatMap (zrq zTab kJ7_fill_53178.1.cls), w ∈ lw_tbl := zplaces [] (by decide +kernel)
theorem ok_J7_fill_031fb : zokM zTab kJ7_fill_031fb := ⟨by decide +kernel, by decide +kernel, by decide +kernel⟩
theorem gw_J7_fill_031fb : (kJ7_fill_031fb.2.2.2.2.2.flatMap (zrq zTab kJ7_fill_031fb.1.cls)).all goodWord = true := by decide +kernel
theorem wd_J7_fill_031fb : ∀ w ∈ kJ7_fill_031fb.2.2.2.2.2.flatMap (zrq zTab kJ7_fill_031fb.1.cls), w ∈ lw_tbl := zplaces [] (by decide +kernel)
theorem ok_J6_bitCount_0f7a4 : zokM zTab kJ6_bitCount_0f7a4 := ⟨by decide +kernel, by decide +kernel, by decide +kernel⟩
theorem gw_J6_bitCount_0f7a4 : (kJ6_bitCount_0f7a4.2.2.2.2.2.flatMap (zrq zTab kJ6_bitCount_0f7a4.1.cls)).all goodWord = true := by decide +kernel
theorem wd_J6_bitCount_0f7a4 : ∀ w ∈ kJ6_bitCount_0f7a4.2.2.2.2.2.flatMap (zrq zTab kJ6_bitCount_0f7a4.1.cls), w ∈ lw_tbl := zplaces [1284, 1285, 1285, 1286] (by decide +kernel)
theorem ok_J0_length_8abf5 : zokM zTab kJ0_length_8abf5 := ⟨by decide +kernel, by decide +kernel, by decide +kernel⟩
theorem gw_J0_length_8abf5 : (kJ0_length_8abf5.2.2.2.2.2.flatMap (zrq zTab kJ0_length_8abf5.1.cls)).all goodWord = true := by decide +kernel
theorem wd_J0_length_8abf5 : ∀ w ∈ kJ0_length_8abf5.2.2.2.2.2.flatMap (zrq zTab kJ0_length_8abf5.1.cls), w ∈ lw_tbl := zplaces [2001, 443, 441, 442, 179, 440] (by decide +kernel)
theorem ok_J0_coder_7d493 : zokM zTab kJ0_coder_7d493 := ⟨by decide +kernel, by decide +kernel, by decide +kernel⟩
theorem gw_J0_coder_7d493 : (kJ0_coder_7d493.2.2.2.2.2.flatMap (zrq zTab kJ0_coder_7d493.1.cls)).all goodWord = true := by decide +kernel
theorem wd_J0_coder_7d493 : ∀ w ∈ kJ0_coder_7d493.2.2.2.2.2.flatMap (zrq zTab kJ0_coder_7d493.1.cls), w ∈ lw_tbl := zplaces [444, 2002] (by decide +kernel)
theorem ok_J0_charAt_5068e : zokM zTab kJ0_charAt_5068e := ⟨by decide +kernel, by decide +kernel, by decide +kernel⟩
theorem gw_J0_charAt_5068e : (kJ0_charAt_5068e.2.2.2.2.2.flatMap (zrq zTab kJ0_charAt_5068e.1.cls)).all goodWord = true := by decide +kernel
theorem wd_J0_charAt_5068e : ∀ w ∈ kJ0_charAt_5068e.2.2.2.2.2.flatMap (zrq zTab kJ0_charAt_5068e.1.cls), w ∈ lw_tbl := zplaces [453, 451, 452, 179, 450, 2001, 456, 455, 180, 454, 2001] (by decide +kernel)
theorem ok_J0_isLatin1_aae02 : zokM zTab kJ0_isLatin1_aae02 := ⟨by decide +kernel, by decide +kernel, by decide +kernel⟩
theorem gw_J0_isLatin1_aae02 : (kJ0_isLatin1_aae02.2.2.2.2.2.flatMap (zrq zTab kJ0_isLatin1_aae02.1.cls)).all goodWord = true := by decide +kernel
theorem wd_J0_isLatin1_aae02 : ∀ w ∈ kJ0_isLatin1_aae02.2.2.2.2.2.flatMap (zrq zTab kJ0_isLatin1_aae02.1.cls), w ∈ lw_tbl := zplaces [444, 2002] (by decide +kernel)
theorem ok_J0_checkIndex_df160 : zokM zTab kJ0_checkIndex_df160 := ⟨by decide +kernel, by decide +kernel, by decide +kernel⟩
theorem gw_J0_checkIndex_df160 : (kJ0_checkIndex_df160.2.2.2.2.2.flatMap (zrq zTab kJ0_checkIndex_df160.1.cls)).all goodWord = true := by decide +kernel
theorem wd_J0_checkIndex_df160 : ∀ w ∈ kJ0_checkIndex_df160.2.2.2.2.2.flatMap (zrq zTab kJ0_checkIndex_df160.1.cls), w ∈ lw_tbl := zplaces [460, 464, 463, 181, 462] (by decide +kernel)
theorem ok_J1_charAt_3b067 : zokM zTab kJ1_charAt_3b067 := ⟨by decide +kernel, by decide +kernel, by decide +kernel⟩
theorem gw_J1_charAt_3b067 : (kJ1_charAt_3b067.2.2.2.2.2.flatMap (zrq zTab kJ1_charAt_3b067.1.cls)).all goodWord = true := by decide +kernel
theorem wd_J1_charAt_3b067 : ∀ w ∈ kJ1_charAt_3b067.2.2.2.2.2.flatMap (zrq zTab kJ1_charAt_3b067.1.cls), w ∈ lw_tbl := zplaces [459, 458, 179, 457] (by decide +kernel)
theorem ok_J3_checkIndex_8e157 : zokM zTab kJ3_checkIndex_8e157 := ⟨by decide +kernel, by decide +kernel, by decide +kernel⟩
theorem gw_J3_checkIndex_8e157 : (kJ3_checkIndex_8e157.2.2.2.2.2.flatMap (zrq zTab kJ3_checkIndex_8e157.1.cls)).all goodWord = true := by decide +kernel
theorem wd_J3_checkIndex_8e157 : ∀ w ∈ kJ3_checkIndex_8e157.2.2.2.2.2.flatMap (zrq zTab kJ3_checkIndex_8e157.1.cls), w ∈ lw_tbl := zplaces [] (by decide +kernel)
