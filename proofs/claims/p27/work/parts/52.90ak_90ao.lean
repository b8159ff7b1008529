theorem ok_X11_circles : zokM zTab kX11_circles := ⟨zwdf_ok rfl _ 0 (by decide +kernel) (by decide +kernel), by decide +kernel, by decide +kernel⟩
theorem gw_X11_circles : (kX11_circles.2.2.2.2.2.flatMap (zrq zTab kX11_circles.1.cls)).all goodWord = true := by decide +kernel
theorem wd_X11_circles : ∀ w ∈ kX11_circles.2.2.2.2.2.flatMap (zrq zTab kX11_circles.1.cls), w ∈ lw_tbl := zkin_wd (own := "ReadAloud") [47, 34, 60, 98, 99, 100, 101] (by decide +kernel) wK_1
theorem ok_X11_count : zokM zTab kX11_count := ⟨zwdf_ok rfl _ 0 (by decide +kernel) (by decide +kernel), by decide +kernel, by decide +kernel⟩
theorem gw_X11_count : (kX11_count.2.2.2.2.2.flatMap (zrq zTab kX11_count.1.cls)).all goodWord = true := by decide +kernel
theorem wd_X11_count : ∀ w ∈ kX11_count.2.2.2.2.2.flatMap (zrq zTab kX11_count.1.cls), w ∈ lw_tbl := zkin_wd (own := "ReadAloud") [18, 24] (by decide +kernel) wK_1
theorem ok_X11_image : zokM zTab kX11_image := ⟨zwdf_ok rfl _ 0 (by decide +kernel) (by decide +kernel), by decide +kernel, by decide +kernel⟩
theorem gw_X11_image : (kX11_image.2.2.2.2.2.flatMap (zrq zTab kX11_image.1.cls)).all goodWord = true := by decide +kernel
theorem wd_X11_image : ∀ w ∈ kX11_image.2.2.2.2.2.flatMap (zrq zTab kX11_image.1.cls), w ∈ lw_tbl := zkin_wd (own := "ReadAloud") [102, 102, 1, 2, 102, 18, 103] (by decide +kernel) wK_1
theorem ok_X11_again : zokM zTab kX11_again := ⟨zwdf_ok rfl _ 0 (by decide +kernel) (by decide +kernel), by decide +kernel, by decide +kernel⟩
theorem gw_X11_again : (kX11_again.2.2.2.2.2.flatMap (zrq zTab kX11_again.1.cls)).all goodWord = true := by decide +kernel
theorem wd_X11_again : ∀ w ∈ kX11_again.2.2.2.2.2.flatMap (zrq zTab kX11_again.1.cls), w ∈ lw_tbl := zkin_wd (own := "ReadAloud") [102, 18, 102, 103] (by decide +kernel) wK_1
theorem ok_X11_tellInto : zokM zTab kX11_tellInto := ⟨zwdf_ok rfl _ 0 (by decide +kernel) (by decide +kernel), by decide +kernel, by decide +kernel⟩
theorem gw_X11_tellInto : (kX11_tellInto.2.2.2.2.2.flatMap (zrq zTab kX11_tellInto.1.cls)).all goodWord = true := by decide +kernel
theorem wd_X11_tellInto : ∀ w ∈ kX11_tellInto.2.2.2.2.2.flatMap (zrq zTab kX11_tellInto.1.cls), w ∈ lw_tbl := zkin_wd (own := "ReadAloud") [104, 105, 26, 18, 106, 107, 18, 108, 109, 110, 26, 18, 106, 107, 18, 111, 112, 113, 26, 18, 106, 107, 18, 114] (by decide +kernel) wK_1
theorem ok_X11_bookAt : zokM zTab kX11_bookAt := ⟨zwdf_ok rfl _ 0 (by decide +kernel) (by decide +kernel), by decide +kernel, by decide +kernel⟩
theorem gw_X11_bookAt : (kX11_bookAt.2.2.2.2.2.flatMap (zrq zTab kX11_bookAt.1.cls)).all goodWord = true := by decide +kernel
theorem wd_X11_bookAt : ∀ w ∈ kX11_bookAt.2.2.2.2.2.flatMap (zrq zTab kX11_bookAt.1.cls), w ∈ lw_tbl := zkin_wd (own := "ReadAloud") [18, 24, 18, 108] (by decide +kernel) wK_1
theorem ok_X11_yearAt : zokM zTab kX11_yearAt := ⟨zwdf_ok rfl _ 0 (by decide +kernel) (by decide +kernel), by decide +kernel, by decide +kernel⟩
theorem gw_X11_yearAt : (kX11_yearAt.2.2.2.2.2.flatMap (zrq zTab kX11_yearAt.1.cls)).all goodWord = true := by decide +kernel
theorem wd_X11_yearAt : ∀ w ∈ kX11_yearAt.2.2.2.2.2.flatMap (zrq zTab kX11_yearAt.1.cls), w ∈ lw_tbl := zkin_wd (own := "ReadAloud") [18, 24, 18, 111] (by decide +kernel) wK_1
theorem ok_X11_sightAt : zokM zTab kX11_sightAt := ⟨zwdf_ok rfl _ 0 (by decide +kernel) (by decide +kernel), by decide +kernel, by decide +kernel⟩
theorem gw_X11_sightAt : (kX11_sightAt.2.2.2.2.2.flatMap (zrq zTab kX11_sightAt.1.cls)).all goodWord = true := by decide +kernel
theorem wd_X11_sightAt : ∀ w ∈ kX11_sightAt.2.2.2.2.2.flatMap (zrq zTab kX11_sightAt.1.cls), w ∈ lw_tbl := zkin_wd (own := "ReadAloud") [18, 24, 18, 114] (by decide +kernel) wK_1
theorem ok_X11_readingsAt : zokM zTab kX11_readingsAt := ⟨zwdf_ok rfl _ 0 (by decide +kernel) (by decide +kernel), by decide +kernel, by decide +kernel⟩
theorem gw_X11_readingsAt : (kX11_readingsAt.2.2.2.2.2.flatMap (zrq zTab kX11_readingsAt.1.cls)).all goodWord = true := by decide +kernel
theorem wd_X11_readingsAt : ∀ w ∈ kX11_readingsAt.2.2.2.2.2.flatMap (zrq zTab kX11_readingsAt.1.cls), w ∈ lw_tbl := zkin_wd (own := "ReadAloud") [32, 115, 115, 116, 117, 115, 118, 115] (by decide +kernel) wK_1
theorem ok_X11_walkAt : zokM zTab kX11_walkAt := ⟨zwdf_ok rfl _ 0 (by decide +kernel) (by decide +kernel), by decide +kernel, by decide +kernel⟩
theorem gw_X11_walkAt : (kX11_walkAt.2.2.2.2.2.flatMap (zrq zTab kX11_walkAt.1.cls)).all goodWord = true := by decide +kernel
theorem wd_X11_walkAt : ∀ w ∈ kX11_walkAt.2.2.2.2.2.flatMap (zrq zTab kX11_walkAt.1.cls), w ∈ lw_tbl := zkin_wd (own := "ReadAloud") [119, 119, 120, 121, 119] (by decide +kernel) wK_1
theorem ok_X11_levelsThere : zokM zTab kX11_levelsThere := ⟨zwdf_ok rfl _ 0 (by decide +kernel) (by decide +kernel), by decide +kernel, by decide +kernel⟩
theorem gw_X11_levelsThere : (kX11_levelsThere.2.2.2.2.2.flatMap (zrq zTab kX11_levelsThere.1.cls)).all goodWord = true := by decide +kernel
theorem wd_X11_levelsThere : ∀ w ∈ kX11_levelsThere.2.2.2.2.2.flatMap (zrq zTab kX11_levelsThere.1.cls), w ∈ lw_tbl := zkin_wd (own := "ReadAloud") [122, 123, 124, 16, 122] (by decide +kernel) wK_1
theorem ok_X11_ringsThere : zokM zTab kX11_ringsThere := ⟨zwdf_ok rfl _ 0 (by decide +kernel) (by decide +kernel), by decide +kernel, by decide +kernel⟩
theorem gw_X11_ringsThere : (kX11_ringsThere.2.2.2.2.2.flatMap (zrq zTab kX11_ringsThere.1.cls)).all goodWord = true := by decide +kernel
theorem wd_X11_ringsThere : ∀ w ∈ kX11_ringsThere.2.2.2.2.2.flatMap (zrq zTab kX11_ringsThere.1.cls), w ∈ lw_tbl := zkin_wd (own := "ReadAloud") [125, 126, 127, 17, 125] (by decide +kernel) wK_1
theorem ok_X11_isText : zokM zTab kX11_isText := ⟨zwdf_ok rfl _ 0 (by decide +kernel) (by decide +kernel), by decide +kernel, by decide +kernel⟩
theorem gw_X11_isText : (kX11_isText.2.2.2.2.2.flatMap (zrq zTab kX11_isText.1.cls)).all goodWord = true := by decide +kernel
theorem wd_X11_isText : ∀ w ∈ kX11_isText.2.2.2.2.2.flatMap (zrq zTab kX11_isText.1.cls), w ∈ lw_tbl := zkin_wd (own := "ReadAloud") [] (by decide +kernel) wK_1
theorem ok_X11_isWord : zokM zTab kX11_isWord := ⟨zwdf_ok rfl _ 0 (by decide +kernel) (by decide +kernel), by decide +kernel, by decide +kernel⟩
theorem gw_X11_isWord : (kX11_isWord.2.2.2.2.2.flatMap (zrq zTab kX11_isWord.1.cls)).all goodWord = true := by decide +kernel
theorem wd_X11_isWord : ∀ w ∈ kX11_isWord.2.2.2.2.2.flatMap (zrq zTab kX11_isWord.1.cls), w ∈ lw_tbl := zkin_wd (own := "ReadAloud") [] (by decide +kernel) wK_1
theorem ok_X11_isSpan : zokM zTab kX11_isSpan := ⟨zwdf_ok rfl _ 0 (by decide +kernel) (by decide +kernel), by decide +kernel, by decide +kernel⟩
theorem gw_X11_isSpan : (kX11_isSpan.2.2.2.2.2.flatMap (zrq zTab kX11_isSpan.1.cls)).all goodWord = true := by decide +kernel
theorem wd_X11_isSpan : ∀ w ∈ kX11_isSpan.2.2.2.2.2.flatMap (zrq zTab kX11_isSpan.1.cls), w ∈ lw_tbl := zkin_wd (own := "ReadAloud") [] (by decide +kernel) wK_1
theorem ok_X11_isIn : zokM zTab kX11_isIn := ⟨zwdf_ok rfl _ 0 (by decide +kernel) (by decide +kernel), by decide +kernel, by decide +kernel⟩
theorem gw_X11_isIn : (kX11_isIn.2.2.2.2.2.flatMap (zrq zTab kX11_isIn.1.cls)).all goodWord = true := by decide +kernel
theorem wd_X11_isIn : ∀ w ∈ kX11_isIn.2.2.2.2.2.flatMap (zrq zTab kX11_isIn.1.cls), w ∈ lw_tbl := zkin_wd (own := "ReadAloud") [] (by decide +kernel) wK_1
theorem ok_X11_common : zokM zTab kX11_common := ⟨zwdf_ok rfl _ 0 (by decide +kernel) (by decide +kernel), by decide +kernel, by decide +kernel⟩
theorem gw_X11_common : (kX11_common.2.2.2.2.2.flatMap (zrq zTab kX11_common.1.cls)).all goodWord = true := by decide +kernel
theorem wd_X11_common : ∀ w ∈ kX11_common.2.2.2.2.2.flatMap (zrq zTab kX11_common.1.cls), w ∈ lw_tbl := zkin_wd (own := "ReadAloud") [] (by decide +kernel) wK_1
theorem ok_X11_longer : zokM zTab kX11_longer := ⟨zwdf_ok rfl _ 0 (by decide +kernel) (by decide +kernel), by decide +kernel, by decide +kernel⟩
theorem gw_X11_longer : (kX11_longer.2.2.2.2.2.flatMap (zrq zTab kX11_longer.1.cls)).all goodWord = true := by decide +kernel
theorem wd_X11_longer : ∀ w ∈ kX11_longer.2.2.2.2.2.flatMap (zrq zTab kX11_longer.1.cls), w ∈ lw_tbl := zkin_wd (own := "ReadAloud") [] (by decide +kernel) wK_1
theorem ok_X11_lengthOf : zokM zTab kX11_lengthOf := ⟨zwdf_ok rfl _ 0 (by decide +kernel) (by decide +kernel), by decide +kernel, by decide +kernel⟩
theorem gw_X11_lengthOf : (kX11_lengthOf.2.2.2.2.2.flatMap (zrq zTab kX11_lengthOf.1.cls)).all goodWord = true := by decide +kernel
theorem wd_X11_lengthOf : ∀ w ∈ kX11_lengthOf.2.2.2.2.2.flatMap (zrq zTab kX11_lengthOf.1.cls), w ∈ lw_tbl := zkin_wd (own := "ReadAloud") [] (by decide +kernel) wK_1
theorem ok_X11_bitsOf : zokM zTab kX11_bitsOf := ⟨zwdf_ok rfl _ 0 (by decide +kernel) (by decide +kernel), by decide +kernel, by decide +kernel⟩
theorem gw_X11_bitsOf : (kX11_bitsOf.2.2.2.2.2.flatMap (zrq zTab kX11_bitsOf.1.cls)).all goodWord = true := by decide +kernel
theorem wd_X11_bitsOf : ∀ w ∈ kX11_bitsOf.2.2.2.2.2.flatMap (zrq zTab kX11_bitsOf.1.cls), w ∈ lw_tbl := zkin_wd (own := "ReadAloud") [35] (by decide +kernel) wK_1
theorem ok_X11_lengthOfBits : zokM zTab kX11_lengthOfBits := ⟨zwdf_ok rfl _ 0 (by decide +kernel) (by decide +kernel), by decide +kernel, by decide +kernel⟩
theorem gw_X11_lengthOfBits : (kX11_lengthOfBits.2.2.2.2.2.flatMap (zrq zTab kX11_lengthOfBits.1.cls)).all goodWord = true := by decide +kernel
theorem wd_X11_lengthOfBits : ∀ w ∈ kX11_lengthOfBits.2.2.2.2.2.flatMap (zrq zTab kX11_lengthOfBits.1.cls), w ∈ lw_tbl := zkin_wd (own := "ReadAloud") [] (by decide +kernel) wK_1
theorem ok_X11_numberOfBits : zokM zTab kX11_numberOfBits := ⟨zwdf_ok rfl _ 0 (by decide +kernel) (by decide +kernel), by decide +kernel, by decide +kernel⟩
theorem gw_X11_numberOfBits : (kX11_numberOfBits.2.2.2.2.2.flatMap (zrq zTab kX11_numberOfBits.1.cls)).all goodWord = true := by decide +kernel
theorem wd_X11_numberOfBits : ∀ w ∈ kX11_numberOfBits.2.2.2.2.2.flatMap (zrq zTab kX11_numberOfBits.1.cls), w ∈ lw_tbl := zkin_wd (own := "ReadAloud") [128] (by decide +kernel) wK_1
theorem ok_X11_wordAt : zokM zTab kX11_wordAt := ⟨zwdf_ok rfl _ 0 (by decide +kernel) (by decide +kernel), by decide +kernel, by decide +kernel⟩
theorem gw_X11_wordAt : (kX11_wordAt.2.2.2.2.2.flatMap (zrq zTab kX11_wordAt.1.cls)).all goodWord = true := by decide +kernel
theorem wd_X11_wordAt : ∀ w ∈ kX11_wordAt.2.2.2.2.2.flatMap (zrq zTab kX11_wordAt.1.cls), w ∈ lw_tbl := zkin_wd (own := "ReadAloud") [129, 35, 130] (by decide +kernel) wK_1
theorem ok_X11_wordOfBits : zokM zTab kX11_wordOfBits := ⟨zwdf_ok rfl _ 0 (by decide +kernel) (by decide +kernel), by decide +kernel, by decide +kernel⟩
theorem gw_X11_wordOfBits : (kX11_wordOfBits.2.2.2.2.2.flatMap (zrq zTab kX11_wordOfBits.1.cls)).all goodWord = true := by decide +kernel
theorem wd_X11_wordOfBits : ∀ w ∈ kX11_wordOfBits.2.2.2.2.2.flatMap (zrq zTab kX11_wordOfBits.1.cls), w ∈ lw_tbl := zkin_wd (own := "ReadAloud") [] (by decide +kernel) wK_1
theorem ok_X11_timesOf : zokM zTab kX11_timesOf := ⟨zwdf_ok rfl _ 0 (by decide +kernel) (by decide +kernel), by decide +kernel, by decide +kernel⟩
theorem gw_X11_timesOf : (kX11_timesOf.2.2.2.2.2.flatMap (zrq zTab kX11_timesOf.1.cls)).all goodWord = true := by decide +kernel
theorem wd_X11_timesOf : ∀ w ∈ kX11_timesOf.2.2.2.2.2.flatMap (zrq zTab kX11_timesOf.1.cls), w ∈ lw_tbl := zkin_wd (own := "ReadAloud") [129, 35, 130] (by decide +kernel) wK_1
theorem ok_X11_driftOf : zokM zTab kX11_driftOf := ⟨zwdf_ok rfl _ 0 (by decide +kernel) (by decide +kernel), by decide +kernel, by decide +kernel⟩
theorem gw_X11_driftOf : (kX11_driftOf.2.2.2.2.2.flatMap (zrq zTab kX11_driftOf.1.cls)).all goodWord = true := by decide +kernel
theorem wd_X11_driftOf : ∀ w ∈ kX11_driftOf.2.2.2.2.2.flatMap (zrq zTab kX11_driftOf.1.cls), w ∈ lw_tbl := zkin_wd (own := "ReadAloud") [129, 129, 35, 35, 130, 130, 131, 131] (by decide +kernel) wK_1
theorem ok_X11_mostShared : zokM zTab kX11_mostShared := ⟨zwdf_ok rfl _ 0 (by decide +kernel) (by decide +kernel), by decide +kernel, by decide +kernel⟩
theorem gw_X11_mostShared : (kX11_mostShared.2.2.2.2.2.flatMap (zrq zTab kX11_mostShared.1.cls)).all goodWord = true := by decide +kernel
theorem wd_X11_mostShared : ∀ w ∈ kX11_mostShared.2.2.2.2.2.flatMap (zrq zTab kX11_mostShared.1.cls), w ∈ lw_tbl := zkin_wd (own := "ReadAloud") [35, 132, 36, 133, 35, 35, 134] (by decide +kernel) wK_1
theorem ok_X11_isLeftOf : zokM zTab kX11_isLeftOf := ⟨zwdf_ok rfl _ 0 (by decide +kernel) (by decide +kernel), by decide +kernel, by decide +kernel⟩
theorem gw_X11_isLeftOf : (kX11_isLeftOf.2.2.2.2.2.flatMap (zrq zTab kX11_isLeftOf.1.cls)).all goodWord = true := by decide +kernel
theorem wd_X11_isLeftOf : ∀ w ∈ kX11_isLeftOf.2.2.2.2.2.flatMap (zrq zTab kX11_isLeftOf.1.cls), w ∈ lw_tbl := zkin_wd (own := "ReadAloud") [35, 35, 36, 36] (by decide +kernel) wK_1
theorem ok_X8_init : zokM zTab kX8_init := ⟨zwdf_ok rfl _ 0 (by decide +kernel) (by decide +kernel), by decide +kernel, by decide +kernel⟩
theorem gw_X8_init : (kX8_init.2.2.2.2.2.flatMap (zrq zTab kX8_init.1.cls)).all goodWord = true := by decide +kernel
theorem wd_X8_init : ∀ w ∈ kX8_init.2.2.2.2.2.flatMap (zrq zTab kX8_init.1.cls), w ∈ lw_tbl := zkin_wd (own := "ReadAloud$Told") [0, 1, 2, 3, 4, 5, 6, 7, 8, 9, 10, 11, 12, 13] (by decide +kernel) wK_2
theorem ok_X8_putBytes : zokM zTab kX8_putBytes := ⟨zwdf_ok rfl _ 0 (by decide +kernel) (by decide +kernel), by decide +kernel, by decide +kernel⟩
theorem gw_X8_putBytes : (kX8_putBytes.2.2.2.2.2.flatMap (zrq zTab kX8_putBytes.1.cls)).all goodWord = true := by decide +kernel
theorem wd_X8_putBytes : ∀ w ∈ kX8_putBytes.2.2.2.2.2.flatMap (zrq zTab kX8_putBytes.1.cls), w ∈ lw_tbl := zkin_wd (own := "ReadAloud$Told") [14, 15, 14, 14, 3] (by decide +kernel) wK_2
theorem ok_X8_becomes : zokM zTab kX8_becomes := ⟨zwdf_ok rfl _ 0 (by decide +kernel) (by decide +kernel), by decide +kernel, by decide +kernel⟩
theorem gw_X8_becomes : (kX8_becomes.2.2.2.2.2.flatMap (zrq zTab kX8_becomes.1.cls)).all goodWord = true := by decide +kernel
theorem wd_X8_becomes : ∀ w ∈ kX8_becomes.2.2.2.2.2.flatMap (zrq zTab kX8_becomes.1.cls), w ∈ lw_tbl := zkin_wd (own := "ReadAloud$Told") [15, 15, 16, 14, 3, 17, 4, 18, 5, 19, 19, 16, 20, 20, 21, 21, 22, 22] (by decide +kernel) wK_2
theorem ok_X7_init : zokM zTab kX7_init := ⟨zwdf_ok rfl _ 0 (by decide +kernel) (by decide +kernel), by decide +kernel, by decide +kernel⟩
theorem gw_X7_init : (kX7_init.2.2.2.2.2.flatMap (zrq zTab kX7_init.1.cls)).all goodWord = true := by decide +kernel
theorem wd_X7_init : ∀ w ∈ kX7_init.2.2.2.2.2.flatMap (zrq zTab kX7_init.1.cls), w ∈ lw_tbl := zkin_wd (own := "ReadAloud$Teller") [0, 1, 2, 3, 4, 5, 6, 7, 8] (by decide +kernel) wK_3
theorem ok_X7_tell : zokM zTab kX7_tell := ⟨zwdf_ok rfl _ 0 (by decide +kernel) (by decide +kernel), by decide +kernel, by decide +kernel⟩
theorem gw_X7_tell : (kX7_tell.2.2.2.2.2.flatMap (zrq zTab kX7_tell.1.cls)).all goodWord = true := by decide +kernel
theorem wd_X7_tell : ∀ w ∈ kX7_tell.2.2.2.2.2.flatMap (zrq zTab kX7_tell.1.cls), w ∈ lw_tbl := zkin_wd (own := "ReadAloud$Teller") [1, 2, 3, 7, 8, 9, 10, 11, 7, 12, 8, 13] (by decide +kernel) wK_3
theorem ok_X7_tellLine : zokM zTab kX7_tellLine := ⟨zwdf_ok rfl _ 0 (by decide +kernel) (by decide +kernel), by decide +kernel, by decide +kernel⟩
theorem gw_X7_tellLine : (kX7_tellLine.2.2.2.2.2.flatMap (zrq zTab kX7_tellLine.1.cls)).all goodWord = true := by decide +kernel
theorem wd_X7_tellLine : ∀ w ∈ kX7_tellLine.2.2.2.2.2.flatMap (zrq zTab kX7_tellLine.1.cls), w ∈ lw_tbl := zkin_wd (own := "ReadAloud$Teller") [10, 14, 15, 9, 16, 10, 17, 9, 18, 10, 9] (by decide +kernel) wK_3
theorem ok_X7_advance : zokM zTab kX7_advance := ⟨zwdf_ok rfl _ 0 (by decide +kernel) (by decide +kernel), by decide +kernel, by decide +kernel⟩
theorem gw_X7_advance : (kX7_advance.2.2.2.2.2.flatMap (zrq zTab kX7_advance.1.cls)).all goodWord = true := by decide +kernel
theorem wd_X7_advance : ∀ w ∈ kX7_advance.2.2.2.2.2.flatMap (zrq zTab kX7_advance.1.cls), w ∈ lw_tbl := zkin_wd (own := "ReadAloud$Teller") [19, 20, 21, 19, 21, 19, 19, 3, 19, 5, 19, 20, 4, 19, 22, 4, 19, 20, 19, 22, 19, 3, 19, 23, 24, 21, 19, 4, 19, 3] (by decide +kernel) wK_3
theorem ok_X7_advanceDigits : zokM zTab kX7_advanceDigits := ⟨zwdf_ok rfl _ 0 (by decide +kernel) (by decide +kernel), by decide +kernel, by decide +kernel⟩
theorem gw_X7_advanceDigits : (kX7_advanceDigits.2.2.2.2.2.flatMap (zrq zTab kX7_advanceDigits.1.cls)).all goodWord = true := by decide +kernel
theorem wd_X7_advanceDigits : ∀ w ∈ kX7_advanceDigits.2.2.2.2.2.flatMap (zrq zTab kX7_advanceDigits.1.cls), w ∈ lw_tbl := zkin_wd (own := "ReadAloud$Teller") [6, 19, 20, 19, 23, 19, 12, 25, 21, 19, 6, 19, 3, 19, 12, 4] (by decide +kernel) wK_3
theorem ok_X7_isLetter : zokM zTab kX7_isLetter := ⟨zwdf_ok rfl _ 0 (by decide +kernel) (by decide +kernel), by decide +kernel, by decide +kernel⟩
theorem gw_X7_isLetter : (kX7_isLetter.2.2.2.2.2.flatMap (zrq zTab kX7_isLetter.1.cls)).all goodWord = true := by decide +kernel
theorem wd_X7_isLetter : ∀ w ∈ kX7_isLetter.2.2.2.2.2.flatMap (zrq zTab kX7_isLetter.1.cls), w ∈ lw_tbl := zkin_wd (own := "ReadAloud$Teller") [21, 21] (by decide +kernel) wK_3
theorem ok_X7_isDigit : zokM zTab kX7_isDigit := ⟨zwdf_ok rfl _ 0 (by decide +kernel) (by decide +kernel), by decide +kernel, by decide +kernel⟩
theorem gw_X7_isDigit : (kX7_isDigit.2.2.2.2.2.flatMap (zrq zTab kX7_isDigit.1.cls)).all goodWord = true := by decide +kernel
theorem wd_X7_isDigit : ∀ w ∈ kX7_isDigit.2.2.2.2.2.flatMap (zrq zTab kX7_isDigit.1.cls), w ∈ lw_tbl := zkin_wd (own := "ReadAloud$Teller") [21, 21] (by decide +kernel) wK_3
theorem ok_X7_isAtHand : zokM zTab kX7_isAtHand := ⟨zwdf_ok rfl _ 0 (by decide +kernel) (by decide +kernel), by decide +kernel, by decide +kernel⟩
theorem gw_X7_isAtHand : (kX7_isAtHand.2.2.2.2.2.flatMap (zrq zTab kX7_isAtHand.1.cls)).all goodWord = true := by decide +kernel
theorem wd_X7_isAtHand : ∀ w ∈ kX7_isAtHand.2.2.2.2.2.flatMap (zrq zTab kX7_isAtHand.1.cls), w ∈ lw_tbl := zkin_wd (own := "ReadAloud$Teller") [19, 12, 26, 26, 21, 12, 27] (by decide +kernel) wK_3
theorem ok_X7_isWithin : zokM zTab kX7_isWithin := ⟨zwdf_ok rfl _ 0 (by decide +kernel) (by decide +kernel), by decide +kernel, by decide +kernel⟩
theorem gw_X7_isWithin : (kX7_isWithin.2.2.2.2.2.flatMap (zrq zTab kX7_isWithin.1.cls)).all goodWord = true := by decide +kernel
theorem wd_X7_isWithin : ∀ w ∈ kX7_isWithin.2.2.2.2.2.flatMap (zrq zTab kX7_isWithin.1.cls), w ∈ lw_tbl := zkin_wd (own := "ReadAloud$Teller") [25, 25, 28] (by decide +kernel) wK_3
theorem ok_X7_faultHere : zokM zTab kX7_faultHere := ⟨zwdf_ok rfl _ 0 (by decide +kernel) (by decide +kernel), by decide +kernel, by decide +kernel⟩
theorem gw_X7_faultHere : (kX7_faultHere.2.2.2.2.2.flatMap (zrq zTab kX7_faultHere.1.cls)).all goodWord = true := by decide +kernel
theorem wd_X7_faultHere : ∀ w ∈ kX7_faultHere.2.2.2.2.2.flatMap (zrq zTab kX7_faultHere.1.cls), w ∈ lw_tbl := zkin_wd (own := "ReadAloud$Teller") [13, 12, 29, 12, 29, 13, 7, 12, 8] (by decide +kernel) wK_3
theorem ok_X1_init : zokM zTab kX1_init := ⟨zwdf_ok rfl _ 0 (by decide +kernel) (by decide +kernel), by decide +kernel, by decide +kernel⟩
theorem gw_X1_init : (kX1_init.2.2.2.2.2.flatMap (zrq zTab kX1_init.1.cls)).all goodWord = true := by decide +kernel
theorem wd_X1_init : ∀ w ∈ kX1_init.2.2.2.2.2.flatMap (zrq zTab kX1_init.1.cls), w ∈ lw_tbl := zkin_wd (own := "ReadAloud$Course") [0, 1, 2, 3, 4, 5, 6, 7, 8, 9] (by decide +kernel) wK_4
theorem ok_X1_begin : zokM zTab kX1_begin := ⟨zwdf_ok rfl _ 0 (by decide +kernel) (by decide +kernel), by decide +kernel, by decide +kernel⟩
theorem gw_X1_begin : (kX1_begin.2.2.2.2.2.flatMap (zrq zTab kX1_begin.1.cls)).all goodWord = true := by decide +kernel
theorem wd_X1_begin : ∀ w ∈ kX1_begin.2.2.2.2.2.flatMap (zrq zTab kX1_begin.1.cls), w ∈ lw_tbl := zkin_wd (own := "ReadAloud$Course") [1, 2, 3, 4, 10, 11, 12, 13, 12] (by decide +kernel) wK_4
theorem ok_X1_doFirst : zokM zTab kX1_doFirst := ⟨zwdf_ok rfl _ 0 (by decide +kernel) (by decide +kernel), by decide +kernel, by decide +kernel⟩
theorem gw_X1_doFirst : (kX1_doFirst.2.2.2.2.2.flatMap (zrq zTab kX1_doFirst.1.cls)).all goodWord = true := by decide +kernel
theorem wd_X1_doFirst : ∀ w ∈ kX1_doFirst.2.2.2.2.2.flatMap (zrq zTab kX1_doFirst.1.cls), w ∈ lw_tbl := zkin_wd (own := "ReadAloud$Course") [14, 15, 16, 17, 18] (by decide +kernel) wK_4
theorem ok_X1_doDeed : zokM zTab kX1_doDeed := ⟨zwdf_ok rfl _ 0 (by decide +kernel) (by decide +kernel), by decide +kernel, by decide +kernel⟩
theorem gw_X1_doDeed : (kX1_doDeed.2.2.2.2.2.flatMap (zrq zTab kX1_doDeed.1.cls)).all goodWord = true := by decide +kernel
theorem wd_X1_doDeed : ∀ w ∈ kX1_doDeed.2.2.2.2.2.flatMap (zrq zTab kX1_doDeed.1.cls), w ∈ lw_tbl := zkin_wd (own := "ReadAloud$Course") [19, 20, 3, 21, 10, 22, 11, 23, 24, 23, 4, 25, 25, 2] (by decide +kernel) wK_4
theorem ok_X1_doRead : zokM zTab kX1_doRead := ⟨zwdf_ok rfl _ 0 (by decide +kernel) (by decide +kernel), by decide +kernel, by decide +kernel⟩
theorem gw_X1_doRead : (kX1_doRead.2.2.2.2.2.flatMap (zrq zTab kX1_doRead.1.cls)).all goodWord = true := by decide +kernel
theorem wd_X1_doRead : ∀ w ∈ kX1_doRead.2.2.2.2.2.flatMap (zrq zTab kX1_doRead.1.cls), w ∈ lw_tbl := zkin_wd (own := "ReadAloud$Course") [22, 26, 13, 23, 24, 23, 4, 10, 22, 10, 27] (by decide +kernel) wK_4
theorem ok_X1_doCopy : zokM zTab kX1_doCopy := ⟨zwdf_ok rfl _ 0 (by decide +kernel) (by decide +kernel), by decide +kernel, by decide +kernel⟩
theorem gw_X1_doCopy : (kX1_doCopy.2.2.2.2.2.flatMap (zrq zTab kX1_doCopy.1.cls)).all goodWord = true := by decide +kernel
theorem wd_X1_doCopy : ∀ w ∈ kX1_doCopy.2.2.2.2.2.flatMap (zrq zTab kX1_doCopy.1.cls), w ∈ lw_tbl := zkin_wd (own := "ReadAloud$Course") [10, 10] (by decide +kernel) wK_4
theorem ok_X1_draw : zokM zTab kX1_draw := ⟨zwdf_ok rfl _ 0 (by decide +kernel) (by decide +kernel), by decide +kernel, by decide +kernel⟩
theorem gw_X1_draw : (kX1_draw.2.2.2.2.2.flatMap (zrq zTab kX1_draw.1.cls)).all goodWord = true := by decide +kernel
theorem wd_X1_draw : ∀ w ∈ kX1_draw.2.2.2.2.2.flatMap (zrq zTab kX1_draw.1.cls), w ∈ lw_tbl := zkin_wd (own := "ReadAloud$Course") [5, 28, 28, 22, 29, 22, 29, 28, 18, 28, 18, 18] (by decide +kernel) wK_4
theorem ok_X1_drawBelow : zokM zTab kX1_drawBelow := ⟨zwdf_ok rfl _ 0 (by decide +kernel) (by decide +kernel), by decide +kernel, by decide +kernel⟩
theorem gw_X1_drawBelow : (kX1_drawBelow.2.2.2.2.2.flatMap (zrq zTab kX1_drawBelow.1.cls)).all goodWord = true := by decide +kernel
theorem wd_X1_drawBelow : ∀ w ∈ kX1_drawBelow.2.2.2.2.2.flatMap (zrq zTab kX1_drawBelow.1.cls), w ∈ lw_tbl := zkin_wd (own := "ReadAloud$Course") [30, 31, 5, 30] (by decide +kernel) wK_4
theorem ok_X1_tells : zokM zTab kX1_tells := ⟨zwdf_ok rfl _ 0 (by decide +kernel) (by decide +kernel), by decide +kernel, by decide +kernel⟩
theorem gw_X1_tells : (kX1_tells.2.2.2.2.2.flatMap (zrq zTab kX1_tells.1.cls)).all goodWord = true := by decide +kernel
theorem wd_X1_tells : ∀ w ∈ kX1_tells.2.2.2.2.2.flatMap (zrq zTab kX1_tells.1.cls), w ∈ lw_tbl := zkin_wd (own := "ReadAloud$Course") [25, 21, 32, 33, 33, 34, 23, 10, 22, 29, 13] (by decide +kernel) wK_4
theorem ok_X1_suits : zokM zTab kX1_suits := ⟨zwdf_ok rfl _ 0 (by decide +kernel) (by decide +kernel), by decide +kernel, by decide +kernel⟩
theorem gw_X1_suits : (kX1_suits.2.2.2.2.2.flatMap (zrq zTab kX1_suits.1.cls)).all goodWord = true := by decide +kernel
theorem wd_X1_suits : ∀ w ∈ kX1_suits.2.2.2.2.2.flatMap (zrq zTab kX1_suits.1.cls), w ∈ lw_tbl := zkin_wd (own := "ReadAloud$Course") [10, 10, 21] (by decide +kernel) wK_4
theorem ok_X1_against : zokM zTab kX1_against := ⟨zwdf_ok rfl _ 0 (by decide +kernel) (by decide +kernel), by decide +kernel, by decide +kernel⟩
theorem gw_X1_against : (kX1_against.2.2.2.2.2.flatMap (zrq zTab kX1_against.1.cls)).all goodWord = true := by decide +kernel
theorem wd_X1_against : ∀ w ∈ kX1_against.2.2.2.2.2.flatMap (zrq zTab kX1_against.1.cls), w ∈ lw_tbl := zkin_wd (own := "ReadAloud$Course") [34, 34] (by decide +kernel) wK_4
theorem ok_X1_driftOfCopy : zokM zTab kX1_driftOfCopy := ⟨zwdf_ok rfl _ 0 (by decide +kernel) (by decide +kernel), by decide +kernel, by decide +kernel⟩
theorem gw_X1_driftOfCopy : (kX1_driftOfCopy.2.2.2.2.2.flatMap (zrq zTab kX1_driftOfCopy.1.cls)).all goodWord = true := by decide +kernel
theorem wd_X1_driftOfCopy : ∀ w ∈ kX1_driftOfCopy.2.2.2.2.2.flatMap (zrq zTab kX1_driftOfCopy.1.cls), w ∈ lw_tbl := zkin_wd (own := "ReadAloud$Course") [10, 22, 11, 35] (by decide +kernel) wK_4
theorem ok_X3_init : zokM zTab kX3_init := ⟨zwdf_ok rfl _ 0 (by decide +kernel) (by decide +kernel), by decide +kernel, by decide +kernel⟩
theorem gw_X3_init : (kX3_init.2.2.2.2.2.flatMap (zrq zTab kX3_init.1.cls)).all goodWord = true := by decide +kernel
theorem wd_X3_init : ∀ w ∈ kX3_init.2.2.2.2.2.flatMap (zrq zTab kX3_init.1.cls), w ∈ lw_tbl := zkin_wd (own := "ReadAloud$Lines") [0] (by decide +kernel) wK_5
theorem ok_X0_init : zokM zTab kX0_init := ⟨zwdf_ok rfl _ 0 (by decide +kernel) (by decide +kernel), by decide +kernel, by decide +kernel⟩
theorem gw_X0_init : (kX0_init.2.2.2.2.2.flatMap (zrq zTab kX0_init.1.cls)).all goodWord = true := by decide +kernel
theorem wd_X0_init : ∀ w ∈ kX0_init.2.2.2.2.2.flatMap (zrq zTab kX0_init.1.cls), w ∈ lw_tbl := zkin_wd (own := "ReadAloud$Book") [0, 1, 2, 3, 4, 5, 6, 7, 8, 9, 8, 10] (by decide +kernel) wK_6
theorem ok_X0_lineOf : zokM zTab kX0_lineOf := ⟨zwdf_ok rfl _ 0 (by decide +kernel) (by decide +kernel), by decide +kernel, by decide +kernel⟩
theorem gw_X0_lineOf : (kX0_lineOf.2.2.2.2.2.flatMap (zrq zTab kX0_lineOf.1.cls)).all goodWord = true := by decide +kernel
theorem wd_X0_lineOf : ∀ w ∈ kX0_lineOf.2.2.2.2.2.flatMap (zrq zTab kX0_lineOf.1.cls), w ∈ lw_tbl := zkin_wd (own := "ReadAloud$Book") [11, 12, 13, 12, 14, 12, 15, 12, 16, 12, 17, 12, 18, 12, 19, 12] (by decide +kernel) wK_6
theorem ok_X0_fewestNumbers : zokM zTab kX0_fewestNumbers := ⟨zwdf_ok rfl _ 0 (by decide +kernel) (by decide +kernel), by decide +kernel, by decide +kernel⟩
theorem gw_X0_fewestNumbers : (kX0_fewestNumbers.2.2.2.2.2.flatMap (zrq zTab kX0_fewestNumbers.1.cls)).all goodWord = true := by decide +kernel
theorem wd_X0_fewestNumbers : ∀ w ∈ kX0_fewestNumbers.2.2.2.2.2.flatMap (zrq zTab kX0_fewestNumbers.1.cls), w ∈ lw_tbl := zkin_wd (own := "ReadAloud$Book") [20] (by decide +kernel) wK_6
theorem ok_X0_mostNumbers : zokM zTab kX0_mostNumbers := ⟨zwdf_ok rfl _ 0 (by decide +kernel) (by decide +kernel), by decide +kernel, by decide +kernel⟩
theorem gw_X0_mostNumbers : (kX0_mostNumbers.2.2.2.2.2.flatMap (zrq zTab kX0_mostNumbers.1.cls)).all goodWord = true := by decide +kernel
theorem wd_X0_mostNumbers : ∀ w ∈ kX0_mostNumbers.2.2.2.2.2.flatMap (zrq zTab kX0_mostNumbers.1.cls), w ∈ lw_tbl := zkin_wd (own := "ReadAloud$Book") [] (by decide +kernel) wK_6
theorem ok_X0_beginLine : zokM zTab kX0_beginLine := ⟨zwdf_ok rfl _ 0 (by decide +kernel) (by decide +kernel), by decide +kernel, by decide +kernel⟩
theorem gw_X0_beginLine : (kX0_beginLine.2.2.2.2.2.flatMap (zrq zTab kX0_beginLine.1.cls)).all goodWord = true := by decide +kernel
theorem wd_X0_beginLine : ∀ w ∈ kX0_beginLine.2.2.2.2.2.flatMap (zrq zTab kX0_beginLine.1.cls), w ∈ lw_tbl := zkin_wd (own := "ReadAloud$Book") [1, 21, 21, 2, 22, 23] (by decide +kernel) wK_6
theorem ok_X0_beginStep : zokM zTab kX0_beginStep := ⟨zwdf_ok rfl _ 0 (by decide +kernel) (by decide +kernel), by decide +kernel, by decide +kernel⟩
theorem gw_X0_beginStep : (kX0_beginStep.2.2.2.2.2.flatMap (zrq zTab kX0_beginStep.1.cls)).all goodWord = true := by decide +kernel
theorem wd_X0_beginStep : ∀ w ∈ kX0_beginStep.2.2.2.2.2.flatMap (zrq zTab kX0_beginStep.1.cls), w ∈ lw_tbl := zkin_wd (own := "ReadAloud$Book") [21, 22, 24, 22, 25, 24, 24] (by decide +kernel) wK_6
theorem ok_X0_takeNumber : zokM zTab kX0_takeNumber := ⟨zwdf_ok rfl _ 0 (by decide +kernel) (by decide +kernel), by decide +kernel, by decide +kernel⟩
theorem gw_X0_takeNumber : (kX0_takeNumber.2.2.2.2.2.flatMap (zrq zTab kX0_takeNumber.1.cls)).all goodWord = true := by decide +kernel
theorem wd_X0_takeNumber : ∀ w ∈ kX0_takeNumber.2.2.2.2.2.flatMap (zrq zTab kX0_takeNumber.1.cls), w ∈ lw_tbl := zkin_wd (own := "ReadAloud$Book") [26, 22, 27, 28] (by decide +kernel) wK_6
theorem ok_X0_keepNumber : zokM zTab kX0_keepNumber := ⟨zwdf_ok rfl _ 0 (by decide +kernel) (by decide +kernel), by decide +kernel, by decide +kernel⟩
theorem gw_X0_keepNumber : (kX0_keepNumber.2.2.2.2.2.flatMap (zrq zTab kX0_keepNumber.1.cls)).all goodWord = true := by decide +kernel
theorem wd_X0_keepNumber : ∀ w ∈ kX0_keepNumber.2.2.2.2.2.flatMap (zrq zTab kX0_keepNumber.1.cls), w ∈ lw_tbl := zkin_wd (own := "ReadAloud$Book") [21, 29, 30, 1, 3, 31, 32, 33, 31, 24, 34, 24] (by decide +kernel) wK_6
theorem ok_X0_hasReader : zokM zTab kX0_hasReader := ⟨zwdf_ok rfl _ 0 (by decide +kernel) (by decide +kernel), by decide +kernel, by decide +kernel⟩
theorem gw_X0_hasReader : (kX0_hasReader.2.2.2.2.2.flatMap (zrq zTab kX0_hasReader.1.cls)).all goodWord = true := by decide +kernel
theorem wd_X0_hasReader : ∀ w ∈ kX0_hasReader.2.2.2.2.2.flatMap (zrq zTab kX0_hasReader.1.cls), w ∈ lw_tbl := zkin_wd (own := "ReadAloud$Book") [21] (by decide +kernel) wK_6
theorem ok_X0_hasReaders : zokM zTab kX0_hasReaders := ⟨zwdf_ok rfl _ 0 (by decide +kernel) (by decide +kernel), by decide +kernel, by decide +kernel⟩
theorem gw_X0_hasReaders : (kX0_hasReaders.2.2.2.2.2.flatMap (zrq zTab kX0_hasReaders.1.cls)).all goodWord = true := by decide +kernel
theorem wd_X0_hasReaders : ∀ w ∈ kX0_hasReaders.2.2.2.2.2.flatMap (zrq zTab kX0_hasReaders.1.cls), w ∈ lw_tbl := zkin_wd (own := "ReadAloud$Book") [21] (by decide +kernel) wK_6
theorem ok_X0_tells : zokM zTab kX0_tells := ⟨zwdf_ok rfl _ 0 (by decide +kernel) (by decide +kernel), by decide +kernel, by decide +kernel⟩
theorem gw_X0_tells : (kX0_tells.2.2.2.2.2.flatMap (zrq zTab kX0_tells.1.cls)).all goodWord = true := by decide +kernel
theorem wd_X0_tells : ∀ w ∈ kX0_tells.2.2.2.2.2.flatMap (zrq zTab kX0_tells.1.cls), w ∈ lw_tbl := zkin_wd (own := "ReadAloud$Book") [29, 21, 33, 21, 24, 35] (by decide +kernel) wK_6
theorem ok_X0_tellsStep : zokM zTab kX0_tellsStep := ⟨zwdf_ok rfl _ 0 (by decide +kernel) (by decide +kernel), by decide +kernel, by decide +kernel⟩
theorem gw_X0_tellsStep : (kX0_tellsStep.2.2.2.2.2.flatMap (zrq zTab kX0_tellsStep.1.cls)).all goodWord = true := by decide +kernel
theorem wd_X0_tellsStep : ∀ w ∈ kX0_tellsStep.2.2.2.2.2.flatMap (zrq zTab kX0_tellsStep.1.cls), w ∈ lw_tbl := zkin_wd (own := "ReadAloud$Book") [36, 24, 25, 34] (by decide +kernel) wK_6
theorem ok_X0_readBy : zokM zTab kX0_readBy := ⟨zwdf_ok rfl _ 0 (by decide +kernel) (by decide +kernel), by decide +kernel, by decide +kernel⟩
theorem gw_X0_readBy : (kX0_readBy.2.2.2.2.2.flatMap (zrq zTab kX0_readBy.1.cls)).all goodWord = true := by decide +kernel
theorem wd_X0_readBy : ∀ w ∈ kX0_readBy.2.2.2.2.2.flatMap (zrq zTab kX0_readBy.1.cls), w ∈ lw_tbl := zkin_wd (own := "ReadAloud$Book") [37, 24, 25, 34, 38, 39] (by decide +kernel) wK_6
theorem ok_X0_stepOn : zokM zTab kX0_stepOn := ⟨zwdf_ok rfl _ 0 (by decide +kernel) (by decide +kernel), by decide +kernel, by decide +kernel⟩
theorem gw_X0_stepOn : (kX0_stepOn.2.2.2.2.2.flatMap (zrq zTab kX0_stepOn.1.cls)).all goodWord = true := by decide +kernel
theorem wd_X0_stepOn : ∀ w ∈ kX0_stepOn.2.2.2.2.2.flatMap (zrq zTab kX0_stepOn.1.cls), w ∈ lw_tbl := zkin_wd (own := "ReadAloud$Book") [40, 41, 42, 43, 44, 45] (by decide +kernel) wK_6
theorem ok_X0_shifted : zokM zTab kX0_shifted := ⟨zwdf_ok rfl _ 0 (by decide +kernel) (by decide +kernel), by decide +kernel, by decide +kernel⟩
theorem gw_X0_shifted : (kX0_shifted.2.2.2.2.2.flatMap (zrq zTab kX0_shifted.1.cls)).all goodWord = true := by decide +kernel
theorem wd_X0_shifted : ∀ w ∈ kX0_shifted.2.2.2.2.2.flatMap (zrq zTab kX0_shifted.1.cls), w ∈ lw_tbl := zkin_wd (own := "ReadAloud$Book") [33] (by decide +kernel) wK_6
theorem ok_X0_dropped : zokM zTab kX0_dropped := ⟨zwdf_ok rfl _ 0 (by decide +kernel) (by decide +kernel), by decide +kernel, by decide +kernel⟩
theorem gw_X0_dropped : (kX0_dropped.2.2.2.2.2.flatMap (zrq zTab kX0_dropped.1.cls)).all goodWord = true := by decide +kernel
theorem wd_X0_dropped : ∀ w ∈ kX0_dropped.2.2.2.2.2.flatMap (zrq zTab kX0_dropped.1.cls), w ∈ lw_tbl := zkin_wd (own := "ReadAloud$Book") [] (by decide +kernel) wK_6
theorem ok_X0_doubled : zokM zTab kX0_doubled := ⟨zwdf_ok rfl _ 0 (by decide +kernel) (by decide +kernel), by decide +kernel, by decide +kernel⟩
theorem gw_X0_doubled : (kX0_doubled.2.2.2.2.2.flatMap (zrq zTab kX0_doubled.1.cls)).all goodWord = true := by decide +kernel
theorem wd_X0_doubled : ∀ w ∈ kX0_doubled.2.2.2.2.2.flatMap (zrq zTab kX0_doubled.1.cls), w ∈ lw_tbl := zkin_wd (own := "ReadAloud$Book") [] (by decide +kernel) wK_6
theorem ok_X0_swapped : zokM zTab kX0_swapped := ⟨zwdf_ok rfl _ 0 (by decide +kernel) (by decide +kernel), by decide +kernel, by decide +kernel⟩
theorem gw_X0_swapped : (kX0_swapped.2.2.2.2.2.flatMap (zrq zTab kX0_swapped.1.cls)).all goodWord = true := by decide +kernel
theorem wd_X0_swapped : ∀ w ∈ kX0_swapped.2.2.2.2.2.flatMap (zrq zTab kX0_swapped.1.cls), w ∈ lw_tbl := zkin_wd (own := "ReadAloud$Book") [] (by decide +kernel) wK_6
theorem ok_X0_turned : zokM zTab kX0_turned := ⟨zwdf_ok rfl _ 0 (by decide +kernel) (by decide +kernel), by decide +kernel, by decide +kernel⟩
theorem gw_X0_turned : (kX0_turned.2.2.2.2.2.flatMap (zrq zTab kX0_turned.1.cls)).all goodWord = true := by decide +kernel
theorem wd_X0_turned : ∀ w ∈ kX0_turned.2.2.2.2.2.flatMap (zrq zTab kX0_turned.1.cls), w ∈ lw_tbl := zkin_wd (own := "ReadAloud$Book") [] (by decide +kernel) wK_6
theorem ok_X0_kinRing : zokM zTab kX0_kinRing := ⟨zwdf_ok rfl _ 0 (by decide +kernel) (by decide +kernel), by decide +kernel, by decide +kernel⟩
theorem gw_X0_kinRing : (kX0_kinRing.2.2.2.2.2.flatMap (zrq zTab kX0_kinRing.1.cls)).all goodWord = true := by decide +kernel
theorem wd_X0_kinRing : ∀ w ∈ kX0_kinRing.2.2.2.2.2.flatMap (zrq zTab kX0_kinRing.1.cls), w ∈ lw_tbl := zkin_wd (own := "ReadAloud$Book") [33, 33] (by decide +kernel) wK_6
theorem ok_X0_kinUntilRing : zokM zTab kX0_kinUntilRing := ⟨zwdf_ok rfl _ 0 (by decide +kernel) (by decide +kernel), by decide +kernel, by decide +kernel⟩
theorem gw_X0_kinUntilRing : (kX0_kinUntilRing.2.2.2.2.2.flatMap (zrq zTab kX0_kinUntilRing.1.cls)).all goodWord = true := by decide +kernel
theorem wd_X0_kinUntilRing : ∀ w ∈ kX0_kinUntilRing.2.2.2.2.2.flatMap (zrq zTab kX0_kinUntilRing.1.cls), w ∈ lw_tbl := zkin_wd (own := "ReadAloud$Book") [46, 33] (by decide +kernel) wK_6
theorem ok_X0_isInKinRing : zokM zTab kX0_isInKinRing := ⟨zwdf_ok rfl _ 0 (by decide +kernel) (by decide +kernel), by decide +kernel, by decide +kernel⟩
theorem gw_X0_isInKinRing : (kX0_isInKinRing.2.2.2.2.2.flatMap (zrq zTab kX0_isInKinRing.1.cls)).all goodWord = true := by decide +kernel
theorem wd_X0_isInKinRing : ∀ w ∈ kX0_isInKinRing.2.2.2.2.2.flatMap (zrq zTab kX0_isInKinRing.1.cls), w ∈ lw_tbl := zkin_wd (own := "ReadAloud$Book") [33] (by decide +kernel) wK_6
theorem ok_X10_init : zokM zTab kX10_init := ⟨zwdf_ok rfl _ 0 (by decide +kernel) (by decide +kernel), by decide +kernel, by decide +kernel⟩
theorem gw_X10_init : (kX10_init.2.2.2.2.2.flatMap (zrq zTab kX10_init.1.cls)).all goodWord = true := by decide +kernel
theorem wd_X10_init : ∀ w ∈ kX10_init.2.2.2.2.2.flatMap (zrq zTab kX10_init.1.cls), w ∈ lw_tbl := zkin_wd (own := "ReadAloud$Year") [0, 1, 2, 3, 2, 4, 2, 5] (by decide +kernel) wK_7
theorem ok_X10_lineOf : zokM zTab kX10_lineOf := ⟨zwdf_ok rfl _ 0 (by decide +kernel) (by decide +kernel), by decide +kernel, by decide +kernel⟩
theorem gw_X10_lineOf : (kX10_lineOf.2.2.2.2.2.flatMap (zrq zTab kX10_lineOf.1.cls)).all goodWord = true := by decide +kernel
theorem wd_X10_lineOf : ∀ w ∈ kX10_lineOf.2.2.2.2.2.flatMap (zrq zTab kX10_lineOf.1.cls), w ∈ lw_tbl := zkin_wd (own := "ReadAloud$Year") [6, 7, 8, 7, 9, 7, 10, 7, 11, 7, 12, 7] (by decide +kernel) wK_7
theorem ok_X10_fewestNumbers : zokM zTab kX10_fewestNumbers := ⟨zwdf_ok rfl _ 0 (by decide +kernel) (by decide +kernel), by decide +kernel, by decide +kernel⟩
theorem gw_X10_fewestNumbers : (kX10_fewestNumbers.2.2.2.2.2.flatMap (zrq zTab kX10_fewestNumbers.1.cls)).all goodWord = true := by decide +kernel
theorem wd_X10_fewestNumbers : ∀ w ∈ kX10_fewestNumbers.2.2.2.2.2.flatMap (zrq zTab kX10_fewestNumbers.1.cls), w ∈ lw_tbl := zkin_wd (own := "ReadAloud$Year") [13] (by decide +kernel) wK_7
theorem ok_X10_mostNumbers : zokM zTab kX10_mostNumbers := ⟨zwdf_ok rfl _ 0 (by decide +kernel) (by decide +kernel), by decide +kernel, by decide +kernel⟩
theorem gw_X10_mostNumbers : (kX10_mostNumbers.2.2.2.2.2.flatMap (zrq zTab kX10_mostNumbers.1.cls)).all goodWord = true := by decide +kernel
theorem wd_X10_mostNumbers : ∀ w ∈ kX10_mostNumbers.2.2.2.2.2.flatMap (zrq zTab kX10_mostNumbers.1.cls), w ∈ lw_tbl := zkin_wd (own := "ReadAloud$Year") [] (by decide +kernel) wK_7
theorem ok_X10_beginLine : zokM zTab kX10_beginLine := ⟨zwdf_ok rfl _ 0 (by decide +kernel) (by decide +kernel), by decide +kernel, by decide +kernel⟩
theorem gw_X10_beginLine : (kX10_beginLine.2.2.2.2.2.flatMap (zrq zTab kX10_beginLine.1.cls)).all goodWord = true := by decide +kernel
theorem wd_X10_beginLine : ∀ w ∈ kX10_beginLine.2.2.2.2.2.flatMap (zrq zTab kX10_beginLine.1.cls), w ∈ lw_tbl := zkin_wd (own := "ReadAloud$Year") [14, 15, 16, 14, 17, 14, 18, 14, 14, 1] (by decide +kernel) wK_7
theorem ok_X10_takeNumber : zokM zTab kX10_takeNumber := ⟨zwdf_ok rfl _ 0 (by decide +kernel) (by decide +kernel), by decide +kernel, by decide +kernel⟩
theorem gw_X10_takeNumber : (kX10_takeNumber.2.2.2.2.2.flatMap (zrq zTab kX10_takeNumber.1.cls)).all goodWord = true := by decide +kernel
theorem wd_X10_takeNumber : ∀ w ∈ kX10_takeNumber.2.2.2.2.2.flatMap (zrq zTab kX10_takeNumber.1.cls), w ∈ lw_tbl := zkin_wd (own := "ReadAloud$Year") [14, 19, 17, 20, 17, 20, 15, 18, 20] (by decide +kernel) wK_7
theorem ok_X10_tells : zokM zTab kX10_tells := ⟨zwdf_ok rfl _ 0 (by decide +kernel) (by decide +kernel), by decide +kernel, by decide +kernel⟩
theorem gw_X10_tells : (kX10_tells.2.2.2.2.2.flatMap (zrq zTab kX10_tells.1.cls)).all goodWord = true := by decide +kernel
theorem wd_X10_tells : ∀ w ∈ kX10_tells.2.2.2.2.2.flatMap (zrq zTab kX10_tells.1.cls), w ∈ lw_tbl := zkin_wd (own := "ReadAloud$Year") [14, 14, 16, 17, 18] (by decide +kernel) wK_7
theorem ok_X6_init : zokM zTab kX6_init := ⟨zwdf_ok rfl _ 0 (by decide +kernel) (by decide +kernel), by decide +kernel, by decide +kernel⟩
theorem gw_X6_init : (kX6_init.2.2.2.2.2.flatMap (zrq zTab kX6_init.1.cls)).all goodWord = true := by decide +kernel
theorem wd_X6_init : ∀ w ∈ kX6_init.2.2.2.2.2.flatMap (zrq zTab kX6_init.1.cls), w ∈ lw_tbl := zkin_wd (own := "ReadAloud$Sight") [0, 1, 2, 3, 2, 4] (by decide +kernel) wK_8
theorem ok_X6_lineOf : zokM zTab kX6_lineOf := ⟨zwdf_ok rfl _ 0 (by decide +kernel) (by decide +kernel), by decide +kernel, by decide +kernel⟩
theorem gw_X6_lineOf : (kX6_lineOf.2.2.2.2.2.flatMap (zrq zTab kX6_lineOf.1.cls)).all goodWord = true := by decide +kernel
theorem wd_X6_lineOf : ∀ w ∈ kX6_lineOf.2.2.2.2.2.flatMap (zrq zTab kX6_lineOf.1.cls), w ∈ lw_tbl := zkin_wd (own := "ReadAloud$Sight") [5, 6] (by decide +kernel) wK_8
theorem ok_X6_fewestNumbers : zokM zTab kX6_fewestNumbers := ⟨zwdf_ok rfl _ 0 (by decide +kernel) (by decide +kernel), by decide +kernel, by decide +kernel⟩
theorem gw_X6_fewestNumbers : (kX6_fewestNumbers.2.2.2.2.2.flatMap (zrq zTab kX6_fewestNumbers.1.cls)).all goodWord = true := by decide +kernel
theorem wd_X6_fewestNumbers : ∀ w ∈ kX6_fewestNumbers.2.2.2.2.2.flatMap (zrq zTab kX6_fewestNumbers.1.cls), w ∈ lw_tbl := zkin_wd (own := "ReadAloud$Sight") [] (by decide +kernel) wK_8
theorem ok_X6_mostNumbers : zokM zTab kX6_mostNumbers := ⟨zwdf_ok rfl _ 0 (by decide +kernel) (by decide +kernel), by decide +kernel, by decide +kernel⟩
theorem gw_X6_mostNumbers : (kX6_mostNumbers.2.2.2.2.2.flatMap (zrq zTab kX6_mostNumbers.1.cls)).all goodWord = true := by decide +kernel
theorem wd_X6_mostNumbers : ∀ w ∈ kX6_mostNumbers.2.2.2.2.2.flatMap (zrq zTab kX6_mostNumbers.1.cls), w ∈ lw_tbl := zkin_wd (own := "ReadAloud$Sight") [] (by decide +kernel) wK_8
theorem ok_X6_beginLine : zokM zTab kX6_beginLine := ⟨zwdf_ok rfl _ 0 (by decide +kernel) (by decide +kernel), by decide +kernel, by decide +kernel⟩
theorem gw_X6_beginLine : (kX6_beginLine.2.2.2.2.2.flatMap (zrq zTab kX6_beginLine.1.cls)).all goodWord = true := by decide +kernel
theorem wd_X6_beginLine : ∀ w ∈ kX6_beginLine.2.2.2.2.2.flatMap (zrq zTab kX6_beginLine.1.cls), w ∈ lw_tbl := zkin_wd (own := "ReadAloud$Sight") [7, 8, 9, 7, 7, 1] (by decide +kernel) wK_8
theorem ok_X6_takeNumber : zokM zTab kX6_takeNumber := ⟨zwdf_ok rfl _ 0 (by decide +kernel) (by decide +kernel), by decide +kernel, by decide +kernel⟩
theorem gw_X6_takeNumber : (kX6_takeNumber.2.2.2.2.2.flatMap (zrq zTab kX6_takeNumber.1.cls)).all goodWord = true := by decide +kernel
theorem wd_X6_takeNumber : ∀ w ∈ kX6_takeNumber.2.2.2.2.2.flatMap (zrq zTab kX6_takeNumber.1.cls), w ∈ lw_tbl := zkin_wd (own := "ReadAloud$Sight") [10, 7, 8, 11, 12, 9, 9, 12, 13] (by decide +kernel) wK_8
theorem ok_X6_tells : zokM zTab kX6_tells := ⟨zwdf_ok rfl _ 0 (by decide +kernel) (by decide +kernel), by decide +kernel, by decide +kernel⟩
theorem gw_X6_tells : (kX6_tells.2.2.2.2.2.flatMap (zrq zTab kX6_tells.1.cls)).all goodWord = true := by decide +kernel
theorem wd_X6_tells : ∀ w ∈ kX6_tells.2.2.2.2.2.flatMap (zrq zTab kX6_tells.1.cls), w ∈ lw_tbl := zkin_wd (own := "ReadAloud$Sight") [7, 7, 11, 9] (by decide +kernel) wK_8
theorem ok_X4_init : zokM zTab kX4_init := ⟨zwdf_ok rfl _ 0 (by decide +kernel) (by decide +kernel), by decide +kernel, by decide +kernel⟩
theorem gw_X4_init : (kX4_init.2.2.2.2.2.flatMap (zrq zTab kX4_init.1.cls)).all goodWord = true := by decide +kernel
theorem wd_X4_init : ∀ w ∈ kX4_init.2.2.2.2.2.flatMap (zrq zTab kX4_init.1.cls), w ∈ lw_tbl := zkin_wd (own := "ReadAloud$Readings") [0, 1, 2, 3, 4, 5, 4, 6] (by decide +kernel) wK_9
theorem ok_X4_takeUp : zokM zTab kX4_takeUp := ⟨zwdf_ok rfl _ 0 (by decide +kernel) (by decide +kernel), by decide +kernel, by decide +kernel⟩
theorem gw_X4_takeUp : (kX4_takeUp.2.2.2.2.2.flatMap (zrq zTab kX4_takeUp.1.cls)).all goodWord = true := by decide +kernel
theorem wd_X4_takeUp : ∀ w ∈ kX4_takeUp.2.2.2.2.2.flatMap (zrq zTab kX4_takeUp.1.cls), w ∈ lw_tbl := zkin_wd (own := "ReadAloud$Readings") [7, 1, 8, 9] (by decide +kernel) wK_9
