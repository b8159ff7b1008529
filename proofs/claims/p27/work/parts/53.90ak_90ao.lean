theorem kn_X11_circles : zkin zK_1 qX11_circles [47, 34, 60, 98, 99, 100, 101] = true := by decide +kernel
theorem ok_X11_circles : zokM zTab kX11_circles := ⟨zwdf_ok rfl _ 0 (by decide +kernel) (by decide +kernel), zrow_all (by decide +kernel) (zkin_lk (own := "ReadAloud") [47, 34, 60, 98, 99, 100, 101] kn_X11_circles lK_1 rfl), by decide +kernel⟩
theorem gw_X11_circles : (kX11_circles.2.2.2.2.2.flatMap (zrq zTab kX11_circles.1.cls)).all goodWord = true := zkin_gw (own := "ReadAloud") [47, 34, 60, 98, 99, 100, 101] kn_X11_circles gK_1
theorem wd_X11_circles : ∀ w ∈ kX11_circles.2.2.2.2.2.flatMap (zrq zTab kX11_circles.1.cls), w ∈ lw_tbl := zkin_wd (own := "ReadAloud") [47, 34, 60, 98, 99, 100, 101] kn_X11_circles wK_1
theorem kn_X11_count : zkin zK_1 qX11_count [18, 24] = true := by decide +kernel
theorem ok_X11_count : zokM zTab kX11_count := ⟨zwdf_ok rfl _ 0 (by decide +kernel) (by decide +kernel), zrow_all (by decide +kernel) (zkin_lk (own := "ReadAloud") [18, 24] kn_X11_count lK_1 rfl), by decide +kernel⟩
theorem gw_X11_count : (kX11_count.2.2.2.2.2.flatMap (zrq zTab kX11_count.1.cls)).all goodWord = true := zkin_gw (own := "ReadAloud") [18, 24] kn_X11_count gK_1
theorem wd_X11_count : ∀ w ∈ kX11_count.2.2.2.2.2.flatMap (zrq zTab kX11_count.1.cls), w ∈ lw_tbl := zkin_wd (own := "ReadAloud") [18, 24] kn_X11_count wK_1
theorem kn_X11_image : zkin zK_1 qX11_image [102, 102, 1, 2, 102, 18, 103] = true := by decide +kernel
theorem ok_X11_image : zokM zTab kX11_image := ⟨zwdf_ok rfl _ 0 (by decide +kernel) (by decide +kernel), zrow_all (by decide +kernel) (zkin_lk (own := "ReadAloud") [102, 102, 1, 2, 102, 18, 103] kn_X11_image lK_1 rfl), by decide +kernel⟩
theorem gw_X11_image : (kX11_image.2.2.2.2.2.flatMap (zrq zTab kX11_image.1.cls)).all goodWord = true := zkin_gw (own := "ReadAloud") [102, 102, 1, 2, 102, 18, 103] kn_X11_image gK_1
theorem wd_X11_image : ∀ w ∈ kX11_image.2.2.2.2.2.flatMap (zrq zTab kX11_image.1.cls), w ∈ lw_tbl := zkin_wd (own := "ReadAloud") [102, 102, 1, 2, 102, 18, 103] kn_X11_image wK_1
theorem kn_X11_again : zkin zK_1 qX11_again [102, 18, 102, 103] = true := by decide +kernel
theorem ok_X11_again : zokM zTab kX11_again := ⟨zwdf_ok rfl _ 0 (by decide +kernel) (by decide +kernel), zrow_all (by decide +kernel) (zkin_lk (own := "ReadAloud") [102, 18, 102, 103] kn_X11_again lK_1 rfl), by decide +kernel⟩
theorem gw_X11_again : (kX11_again.2.2.2.2.2.flatMap (zrq zTab kX11_again.1.cls)).all goodWord = true := zkin_gw (own := "ReadAloud") [102, 18, 102, 103] kn_X11_again gK_1
theorem wd_X11_again : ∀ w ∈ kX11_again.2.2.2.2.2.flatMap (zrq zTab kX11_again.1.cls), w ∈ lw_tbl := zkin_wd (own := "ReadAloud") [102, 18, 102, 103] kn_X11_again wK_1
theorem kn_X11_tellInto : zkin zK_1 qX11_tellInto [104, 105, 26, 18, 106, 107, 18, 108, 109, 110, 26, 18, 106, 107, 18, 111, 112, 113, 26, 18, 106, 107, 18, 114] = true := by decide +kernel
theorem ok_X11_tellInto : zokM zTab kX11_tellInto := ⟨zwdf_ok rfl _ 0 (by decide +kernel) (by decide +kernel), zrow_all (by decide +kernel) (zkin_lk (own := "ReadAloud") [104, 105, 26, 18, 106, 107, 18, 108, 109, 110, 26, 18, 106, 107, 18, 111, 112, 113, 26, 18, 106, 107, 18, 114] kn_X11_tellInto lK_1 rfl), by decide +kernel⟩
theorem gw_X11_tellInto : (kX11_tellInto.2.2.2.2.2.flatMap (zrq zTab kX11_tellInto.1.cls)).all goodWord = true := zkin_gw (own := "ReadAloud") [104, 105, 26, 18, 106, 107, 18, 108, 109, 110, 26, 18, 106, 107, 18, 111, 112, 113, 26, 18, 106, 107, 18, 114] kn_X11_tellInto gK_1
theorem wd_X11_tellInto : ∀ w ∈ kX11_tellInto.2.2.2.2.2.flatMap (zrq zTab kX11_tellInto.1.cls), w ∈ lw_tbl := zkin_wd (own := "ReadAloud") [104, 105, 26, 18, 106, 107, 18, 108, 109, 110, 26, 18, 106, 107, 18, 111, 112, 113, 26, 18, 106, 107, 18, 114] kn_X11_tellInto wK_1
theorem kn_X11_bookAt : zkin zK_1 qX11_bookAt [18, 24, 18, 108] = true := by decide +kernel
theorem ok_X11_bookAt : zokM zTab kX11_bookAt := ⟨zwdf_ok rfl _ 0 (by decide +kernel) (by decide +kernel), zrow_all (by decide +kernel) (zkin_lk (own := "ReadAloud") [18, 24, 18, 108] kn_X11_bookAt lK_1 rfl), by decide +kernel⟩
theorem gw_X11_bookAt : (kX11_bookAt.2.2.2.2.2.flatMap (zrq zTab kX11_bookAt.1.cls)).all goodWord = true := zkin_gw (own := "ReadAloud") [18, 24, 18, 108] kn_X11_bookAt gK_1
theorem wd_X11_bookAt : ∀ w ∈ kX11_bookAt.2.2.2.2.2.flatMap (zrq zTab kX11_bookAt.1.cls), w ∈ lw_tbl := zkin_wd (own := "ReadAloud") [18, 24, 18, 108] kn_X11_bookAt wK_1
theorem kn_X11_yearAt : zkin zK_1 qX11_yearAt [18, 24, 18, 111] = true := by decide +kernel
theorem ok_X11_yearAt : zokM zTab kX11_yearAt := ⟨zwdf_ok rfl _ 0 (by decide +kernel) (by decide +kernel), zrow_all (by decide +kernel) (zkin_lk (own := "ReadAloud") [18, 24, 18, 111] kn_X11_yearAt lK_1 rfl), by decide +kernel⟩
theorem gw_X11_yearAt : (kX11_yearAt.2.2.2.2.2.flatMap (zrq zTab kX11_yearAt.1.cls)).all goodWord = true := zkin_gw (own := "ReadAloud") [18, 24, 18, 111] kn_X11_yearAt gK_1
theorem wd_X11_yearAt : ∀ w ∈ kX11_yearAt.2.2.2.2.2.flatMap (zrq zTab kX11_yearAt.1.cls), w ∈ lw_tbl := zkin_wd (own := "ReadAloud") [18, 24, 18, 111] kn_X11_yearAt wK_1
theorem kn_X11_sightAt : zkin zK_1 qX11_sightAt [18, 24, 18, 114] = true := by decide +kernel
theorem ok_X11_sightAt : zokM zTab kX11_sightAt := ⟨zwdf_ok rfl _ 0 (by decide +kernel) (by decide +kernel), zrow_all (by decide +kernel) (zkin_lk (own := "ReadAloud") [18, 24, 18, 114] kn_X11_sightAt lK_1 rfl), by decide +kernel⟩
theorem gw_X11_sightAt : (kX11_sightAt.2.2.2.2.2.flatMap (zrq zTab kX11_sightAt.1.cls)).all goodWord = true := zkin_gw (own := "ReadAloud") [18, 24, 18, 114] kn_X11_sightAt gK_1
theorem wd_X11_sightAt : ∀ w ∈ kX11_sightAt.2.2.2.2.2.flatMap (zrq zTab kX11_sightAt.1.cls), w ∈ lw_tbl := zkin_wd (own := "ReadAloud") [18, 24, 18, 114] kn_X11_sightAt wK_1
theorem kn_X11_readingsAt : zkin zK_1 qX11_readingsAt [32, 115, 115, 116, 117, 115, 118, 115] = true := by decide +kernel
theorem ok_X11_readingsAt : zokM zTab kX11_readingsAt := ⟨zwdf_ok rfl _ 0 (by decide +kernel) (by decide +kernel), zrow_all (by decide +kernel) (zkin_lk (own := "ReadAloud") [32, 115, 115, 116, 117, 115, 118, 115] kn_X11_readingsAt lK_1 rfl), by decide +kernel⟩
theorem gw_X11_readingsAt : (kX11_readingsAt.2.2.2.2.2.flatMap (zrq zTab kX11_readingsAt.1.cls)).all goodWord = true := zkin_gw (own := "ReadAloud") [32, 115, 115, 116, 117, 115, 118, 115] kn_X11_readingsAt gK_1
theorem wd_X11_readingsAt : ∀ w ∈ kX11_readingsAt.2.2.2.2.2.flatMap (zrq zTab kX11_readingsAt.1.cls), w ∈ lw_tbl := zkin_wd (own := "ReadAloud") [32, 115, 115, 116, 117, 115, 118, 115] kn_X11_readingsAt wK_1
theorem kn_X11_walkAt : zkin zK_1 qX11_walkAt [119, 119, 120, 121, 119] = true := by decide +kernel
theorem ok_X11_walkAt : zokM zTab kX11_walkAt := ⟨zwdf_ok rfl _ 0 (by decide +kernel) (by decide +kernel), zrow_all (by decide +kernel) (zkin_lk (own := "ReadAloud") [119, 119, 120, 121, 119] kn_X11_walkAt lK_1 rfl), by decide +kernel⟩
theorem gw_X11_walkAt : (kX11_walkAt.2.2.2.2.2.flatMap (zrq zTab kX11_walkAt.1.cls)).all goodWord = true := zkin_gw (own := "ReadAloud") [119, 119, 120, 121, 119] kn_X11_walkAt gK_1
theorem wd_X11_walkAt : ∀ w ∈ kX11_walkAt.2.2.2.2.2.flatMap (zrq zTab kX11_walkAt.1.cls), w ∈ lw_tbl := zkin_wd (own := "ReadAloud") [119, 119, 120, 121, 119] kn_X11_walkAt wK_1
theorem kn_X11_levelsThere : zkin zK_1 qX11_levelsThere [122, 123, 124, 16, 122] = true := by decide +kernel
theorem ok_X11_levelsThere : zokM zTab kX11_levelsThere := ⟨zwdf_ok rfl _ 0 (by decide +kernel) (by decide +kernel), zrow_all (by decide +kernel) (zkin_lk (own := "ReadAloud") [122, 123, 124, 16, 122] kn_X11_levelsThere lK_1 rfl), by decide +kernel⟩
theorem gw_X11_levelsThere : (kX11_levelsThere.2.2.2.2.2.flatMap (zrq zTab kX11_levelsThere.1.cls)).all goodWord = true := zkin_gw (own := "ReadAloud") [122, 123, 124, 16, 122] kn_X11_levelsThere gK_1
theorem wd_X11_levelsThere : ∀ w ∈ kX11_levelsThere.2.2.2.2.2.flatMap (zrq zTab kX11_levelsThere.1.cls), w ∈ lw_tbl := zkin_wd (own := "ReadAloud") [122, 123, 124, 16, 122] kn_X11_levelsThere wK_1
theorem kn_X11_ringsThere : zkin zK_1 qX11_ringsThere [125, 126, 127, 17, 125] = true := by decide +kernel
theorem ok_X11_ringsThere : zokM zTab kX11_ringsThere := ⟨zwdf_ok rfl _ 0 (by decide +kernel) (by decide +kernel), zrow_all (by decide +kernel) (zkin_lk (own := "ReadAloud") [125, 126, 127, 17, 125] kn_X11_ringsThere lK_1 rfl), by decide +kernel⟩
theorem gw_X11_ringsThere : (kX11_ringsThere.2.2.2.2.2.flatMap (zrq zTab kX11_ringsThere.1.cls)).all goodWord = true := zkin_gw (own := "ReadAloud") [125, 126, 127, 17, 125] kn_X11_ringsThere gK_1
theorem wd_X11_ringsThere : ∀ w ∈ kX11_ringsThere.2.2.2.2.2.flatMap (zrq zTab kX11_ringsThere.1.cls), w ∈ lw_tbl := zkin_wd (own := "ReadAloud") [125, 126, 127, 17, 125] kn_X11_ringsThere wK_1
theorem kn_X11_isText : zkin zK_1 qX11_isText [] = true := by decide +kernel
theorem ok_X11_isText : zokM zTab kX11_isText := ⟨zwdf_ok rfl _ 0 (by decide +kernel) (by decide +kernel), zrow_all (by decide +kernel) (zkin_lk (own := "ReadAloud") [] kn_X11_isText lK_1 rfl), by decide +kernel⟩
theorem gw_X11_isText : (kX11_isText.2.2.2.2.2.flatMap (zrq zTab kX11_isText.1.cls)).all goodWord = true := zkin_gw (own := "ReadAloud") [] kn_X11_isText gK_1
theorem wd_X11_isText : ∀ w ∈ kX11_isText.2.2.2.2.2.flatMap (zrq zTab kX11_isText.1.cls), w ∈ lw_tbl := zkin_wd (own := "ReadAloud") [] kn_X11_isText wK_1
theorem kn_X11_isWord : zkin zK_1 qX11_isWord [] = true := by decide +kernel
theorem ok_X11_isWord : zokM zTab kX11_isWord := ⟨zwdf_ok rfl _ 0 (by decide +kernel) (by decide +kernel), zrow_all (by decide +kernel) (zkin_lk (own := "ReadAloud") [] kn_X11_isWord lK_1 rfl), by decide +kernel⟩
theorem gw_X11_isWord : (kX11_isWord.2.2.2.2.2.flatMap (zrq zTab kX11_isWord.1.cls)).all goodWord = true := zkin_gw (own := "ReadAloud") [] kn_X11_isWord gK_1
theorem wd_X11_isWord : ∀ w ∈ kX11_isWord.2.2.2.2.2.flatMap (zrq zTab kX11_isWord.1.cls), w ∈ lw_tbl := zkin_wd (own := "ReadAloud") [] kn_X11_isWord wK_1
theorem kn_X11_isSpan : zkin zK_1 qX11_isSpan [] = true := by decide +kernel
theorem ok_X11_isSpan : zokM zTab kX11_isSpan := ⟨zwdf_ok rfl _ 0 (by decide +kernel) (by decide +kernel), zrow_all (by decide +kernel) (zkin_lk (own := "ReadAloud") [] kn_X11_isSpan lK_1 rfl), by decide +kernel⟩
theorem gw_X11_isSpan : (kX11_isSpan.2.2.2.2.2.flatMap (zrq zTab kX11_isSpan.1.cls)).all goodWord = true := zkin_gw (own := "ReadAloud") [] kn_X11_isSpan gK_1
theorem wd_X11_isSpan : ∀ w ∈ kX11_isSpan.2.2.2.2.2.flatMap (zrq zTab kX11_isSpan.1.cls), w ∈ lw_tbl := zkin_wd (own := "ReadAloud") [] kn_X11_isSpan wK_1
theorem kn_X11_isIn : zkin zK_1 qX11_isIn [] = true := by decide +kernel
theorem ok_X11_isIn : zokM zTab kX11_isIn := ⟨zwdf_ok rfl _ 0 (by decide +kernel) (by decide +kernel), zrow_all (by decide +kernel) (zkin_lk (own := "ReadAloud") [] kn_X11_isIn lK_1 rfl), by decide +kernel⟩
theorem gw_X11_isIn : (kX11_isIn.2.2.2.2.2.flatMap (zrq zTab kX11_isIn.1.cls)).all goodWord = true := zkin_gw (own := "ReadAloud") [] kn_X11_isIn gK_1
theorem wd_X11_isIn : ∀ w ∈ kX11_isIn.2.2.2.2.2.flatMap (zrq zTab kX11_isIn.1.cls), w ∈ lw_tbl := zkin_wd (own := "ReadAloud") [] kn_X11_isIn wK_1
theorem kn_X11_common : zkin zK_1 qX11_common [] = true := by decide +kernel
theorem ok_X11_common : zokM zTab kX11_common := ⟨zwdf_ok rfl _ 0 (by decide +kernel) (by decide +kernel), zrow_all (by decide +kernel) (zkin_lk (own := "ReadAloud") [] kn_X11_common lK_1 rfl), by decide +kernel⟩
theorem gw_X11_common : (kX11_common.2.2.2.2.2.flatMap (zrq zTab kX11_common.1.cls)).all goodWord = true := zkin_gw (own := "ReadAloud") [] kn_X11_common gK_1
theorem wd_X11_common : ∀ w ∈ kX11_common.2.2.2.2.2.flatMap (zrq zTab kX11_common.1.cls), w ∈ lw_tbl := zkin_wd (own := "ReadAloud") [] kn_X11_common wK_1
theorem kn_X11_longer : zkin zK_1 qX11_longer [] = true := by decide +kernel
theorem ok_X11_longer : zokM zTab kX11_longer := ⟨zwdf_ok rfl _ 0 (by decide +kernel) (by decide +kernel), zrow_all (by decide +kernel) (zkin_lk (own := "ReadAloud") [] kn_X11_longer lK_1 rfl), by decide +kernel⟩
theorem gw_X11_longer : (kX11_longer.2.2.2.2.2.flatMap (zrq zTab kX11_longer.1.cls)).all goodWord = true := zkin_gw (own := "ReadAloud") [] kn_X11_longer gK_1
theorem wd_X11_longer : ∀ w ∈ kX11_longer.2.2.2.2.2.flatMap (zrq zTab kX11_longer.1.cls), w ∈ lw_tbl := zkin_wd (own := "ReadAloud") [] kn_X11_longer wK_1
theorem kn_X11_lengthOf : zkin zK_1 qX11_lengthOf [] = true := by decide +kernel
theorem ok_X11_lengthOf : zokM zTab kX11_lengthOf := ⟨zwdf_ok rfl _ 0 (by decide +kernel) (by decide +kernel), zrow_all (by decide +kernel) (zkin_lk (own := "ReadAloud") [] kn_X11_lengthOf lK_1 rfl), by decide +kernel⟩
theorem gw_X11_lengthOf : (kX11_lengthOf.2.2.2.2.2.flatMap (zrq zTab kX11_lengthOf.1.cls)).all goodWord = true := zkin_gw (own := "ReadAloud") [] kn_X11_lengthOf gK_1
theorem wd_X11_lengthOf : ∀ w ∈ kX11_lengthOf.2.2.2.2.2.flatMap (zrq zTab kX11_lengthOf.1.cls), w ∈ lw_tbl := zkin_wd (own := "ReadAloud") [] kn_X11_lengthOf wK_1
theorem kn_X11_bitsOf : zkin zK_1 qX11_bitsOf [35] = true := by decide +kernel
theorem ok_X11_bitsOf : zokM zTab kX11_bitsOf := ⟨zwdf_ok rfl _ 0 (by decide +kernel) (by decide +kernel), zrow_all (by decide +kernel) (zkin_lk (own := "ReadAloud") [35] kn_X11_bitsOf lK_1 rfl), by decide +kernel⟩
theorem gw_X11_bitsOf : (kX11_bitsOf.2.2.2.2.2.flatMap (zrq zTab kX11_bitsOf.1.cls)).all goodWord = true := zkin_gw (own := "ReadAloud") [35] kn_X11_bitsOf gK_1
theorem wd_X11_bitsOf : ∀ w ∈ kX11_bitsOf.2.2.2.2.2.flatMap (zrq zTab kX11_bitsOf.1.cls), w ∈ lw_tbl := zkin_wd (own := "ReadAloud") [35] kn_X11_bitsOf wK_1
theorem kn_X11_lengthOfBits : zkin zK_1 qX11_lengthOfBits [] = true := by decide +kernel
theorem ok_X11_lengthOfBits : zokM zTab kX11_lengthOfBits := ⟨zwdf_ok rfl _ 0 (by decide +kernel) (by decide +kernel), zrow_all (by decide +kernel) (zkin_lk (own := "ReadAloud") [] kn_X11_lengthOfBits lK_1 rfl), by decide +kernel⟩
theorem gw_X11_lengthOfBits : (kX11_lengthOfBits.2.2.2.2.2.flatMap (zrq zTab kX11_lengthOfBits.1.cls)).all goodWord = true := zkin_gw (own := "ReadAloud") [] kn_X11_lengthOfBits gK_1
theorem wd_X11_lengthOfBits : ∀ w ∈ kX11_lengthOfBits.2.2.2.2.2.flatMap (zrq zTab kX11_lengthOfBits.1.cls), w ∈ lw_tbl := zkin_wd (own := "ReadAloud") [] kn_X11_lengthOfBits wK_1
theorem kn_X11_numberOfBits : zkin zK_1 qX11_numberOfBits [128] = true := by decide +kernel
theorem ok_X11_numberOfBits : zokM zTab kX11_numberOfBits := ⟨zwdf_ok rfl _ 0 (by decide +kernel) (by decide +kernel), zrow_all (by decide +kernel) (zkin_lk (own := "ReadAloud") [128] kn_X11_numberOfBits lK_1 rfl), by decide +kernel⟩
theorem gw_X11_numberOfBits : (kX11_numberOfBits.2.2.2.2.2.flatMap (zrq zTab kX11_numberOfBits.1.cls)).all goodWord = true := zkin_gw (own := "ReadAloud") [128] kn_X11_numberOfBits gK_1
theorem wd_X11_numberOfBits : ∀ w ∈ kX11_numberOfBits.2.2.2.2.2.flatMap (zrq zTab kX11_numberOfBits.1.cls), w ∈ lw_tbl := zkin_wd (own := "ReadAloud") [128] kn_X11_numberOfBits wK_1
theorem kn_X11_wordAt : zkin zK_1 qX11_wordAt [129, 35, 130] = true := by decide +kernel
theorem ok_X11_wordAt : zokM zTab kX11_wordAt := ⟨zwdf_ok rfl _ 0 (by decide +kernel) (by decide +kernel), zrow_all (by decide +kernel) (zkin_lk (own := "ReadAloud") [129, 35, 130] kn_X11_wordAt lK_1 rfl), by decide +kernel⟩
theorem gw_X11_wordAt : (kX11_wordAt.2.2.2.2.2.flatMap (zrq zTab kX11_wordAt.1.cls)).all goodWord = true := zkin_gw (own := "ReadAloud") [129, 35, 130] kn_X11_wordAt gK_1
theorem wd_X11_wordAt : ∀ w ∈ kX11_wordAt.2.2.2.2.2.flatMap (zrq zTab kX11_wordAt.1.cls), w ∈ lw_tbl := zkin_wd (own := "ReadAloud") [129, 35, 130] kn_X11_wordAt wK_1
theorem kn_X11_wordOfBits : zkin zK_1 qX11_wordOfBits [] = true := by decide +kernel
theorem ok_X11_wordOfBits : zokM zTab kX11_wordOfBits := ⟨zwdf_ok rfl _ 0 (by decide +kernel) (by decide +kernel), zrow_all (by decide +kernel) (zkin_lk (own := "ReadAloud") [] kn_X11_wordOfBits lK_1 rfl), by decide +kernel⟩
theorem gw_X11_wordOfBits : (kX11_wordOfBits.2.2.2.2.2.flatMap (zrq zTab kX11_wordOfBits.1.cls)).all goodWord = true := zkin_gw (own := "ReadAloud") [] kn_X11_wordOfBits gK_1
theorem wd_X11_wordOfBits : ∀ w ∈ kX11_wordOfBits.2.2.2.2.2.flatMap (zrq zTab kX11_wordOfBits.1.cls), w ∈ lw_tbl := zkin_wd (own := "ReadAloud") [] kn_X11_wordOfBits wK_1
theorem kn_X11_timesOf : zkin zK_1 qX11_timesOf [129, 35, 130] = true := by decide +kernel
theorem ok_X11_timesOf : zokM zTab kX11_timesOf := ⟨zwdf_ok rfl _ 0 (by decide +kernel) (by decide +kernel), zrow_all (by decide +kernel) (zkin_lk (own := "ReadAloud") [129, 35, 130] kn_X11_timesOf lK_1 rfl), by decide +kernel⟩
theorem gw_X11_timesOf : (kX11_timesOf.2.2.2.2.2.flatMap (zrq zTab kX11_timesOf.1.cls)).all goodWord = true := zkin_gw (own := "ReadAloud") [129, 35, 130] kn_X11_timesOf gK_1
theorem wd_X11_timesOf : ∀ w ∈ kX11_timesOf.2.2.2.2.2.flatMap (zrq zTab kX11_timesOf.1.cls), w ∈ lw_tbl := zkin_wd (own := "ReadAloud") [129, 35, 130] kn_X11_timesOf wK_1
theorem kn_X11_driftOf : zkin zK_1 qX11_driftOf [129, 129, 35, 35, 130, 130, 131, 131] = true := by decide +kernel
theorem ok_X11_driftOf : zokM zTab kX11_driftOf := ⟨zwdf_ok rfl _ 0 (by decide +kernel) (by decide +kernel), zrow_all (by decide +kernel) (zkin_lk (own := "ReadAloud") [129, 129, 35, 35, 130, 130, 131, 131] kn_X11_driftOf lK_1 rfl), by decide +kernel⟩
theorem gw_X11_driftOf : (kX11_driftOf.2.2.2.2.2.flatMap (zrq zTab kX11_driftOf.1.cls)).all goodWord = true := zkin_gw (own := "ReadAloud") [129, 129, 35, 35, 130, 130, 131, 131] kn_X11_driftOf gK_1
theorem wd_X11_driftOf : ∀ w ∈ kX11_driftOf.2.2.2.2.2.flatMap (zrq zTab kX11_driftOf.1.cls), w ∈ lw_tbl := zkin_wd (own := "ReadAloud") [129, 129, 35, 35, 130, 130, 131, 131] kn_X11_driftOf wK_1
theorem kn_X11_mostShared : zkin zK_1 qX11_mostShared [35, 132, 36, 133, 35, 35, 134] = true := by decide +kernel
theorem ok_X11_mostShared : zokM zTab kX11_mostShared := ⟨zwdf_ok rfl _ 0 (by decide +kernel) (by decide +kernel), zrow_all (by decide +kernel) (zkin_lk (own := "ReadAloud") [35, 132, 36, 133, 35, 35, 134] kn_X11_mostShared lK_1 rfl), by decide +kernel⟩
theorem gw_X11_mostShared : (kX11_mostShared.2.2.2.2.2.flatMap (zrq zTab kX11_mostShared.1.cls)).all goodWord = true := zkin_gw (own := "ReadAloud") [35, 132, 36, 133, 35, 35, 134] kn_X11_mostShared gK_1
theorem wd_X11_mostShared : ∀ w ∈ kX11_mostShared.2.2.2.2.2.flatMap (zrq zTab kX11_mostShared.1.cls), w ∈ lw_tbl := zkin_wd (own := "ReadAloud") [35, 132, 36, 133, 35, 35, 134] kn_X11_mostShared wK_1
theorem kn_X11_isLeftOf : zkin zK_1 qX11_isLeftOf [35, 35, 36, 36] = true := by decide +kernel
theorem ok_X11_isLeftOf : zokM zTab kX11_isLeftOf := ⟨zwdf_ok rfl _ 0 (by decide +kernel) (by decide +kernel), zrow_all (by decide +kernel) (zkin_lk (own := "ReadAloud") [35, 35, 36, 36] kn_X11_isLeftOf lK_1 rfl), by decide +kernel⟩
theorem gw_X11_isLeftOf : (kX11_isLeftOf.2.2.2.2.2.flatMap (zrq zTab kX11_isLeftOf.1.cls)).all goodWord = true := zkin_gw (own := "ReadAloud") [35, 35, 36, 36] kn_X11_isLeftOf gK_1
theorem wd_X11_isLeftOf : ∀ w ∈ kX11_isLeftOf.2.2.2.2.2.flatMap (zrq zTab kX11_isLeftOf.1.cls), w ∈ lw_tbl := zkin_wd (own := "ReadAloud") [35, 35, 36, 36] kn_X11_isLeftOf wK_1
theorem kn_X8_init : zkin zK_2 qX8_init [0, 1, 2, 3, 4, 5, 6, 7, 8, 9, 10, 11, 12, 13] = true := by decide +kernel
theorem ok_X8_init : zokM zTab kX8_init := ⟨zwdf_ok rfl _ 0 (by decide +kernel) (by decide +kernel), zrow_all (by decide +kernel) (zkin_lk (own := "ReadAloud$Told") [0, 1, 2, 3, 4, 5, 6, 7, 8, 9, 10, 11, 12, 13] kn_X8_init lK_2 rfl), by decide +kernel⟩
theorem gw_X8_init : (kX8_init.2.2.2.2.2.flatMap (zrq zTab kX8_init.1.cls)).all goodWord = true := zkin_gw (own := "ReadAloud$Told") [0, 1, 2, 3, 4, 5, 6, 7, 8, 9, 10, 11, 12, 13] kn_X8_init gK_2
theorem wd_X8_init : ∀ w ∈ kX8_init.2.2.2.2.2.flatMap (zrq zTab kX8_init.1.cls), w ∈ lw_tbl := zkin_wd (own := "ReadAloud$Told") [0, 1, 2, 3, 4, 5, 6, 7, 8, 9, 10, 11, 12, 13] kn_X8_init wK_2
theorem kn_X8_putBytes : zkin zK_2 qX8_putBytes [14, 15, 14, 14, 3] = true := by decide +kernel
theorem ok_X8_putBytes : zokM zTab kX8_putBytes := ⟨zwdf_ok rfl _ 0 (by decide +kernel) (by decide +kernel), zrow_all (by decide +kernel) (zkin_lk (own := "ReadAloud$Told") [14, 15, 14, 14, 3] kn_X8_putBytes lK_2 rfl), by decide +kernel⟩
theorem gw_X8_putBytes : (kX8_putBytes.2.2.2.2.2.flatMap (zrq zTab kX8_putBytes.1.cls)).all goodWord = true := zkin_gw (own := "ReadAloud$Told") [14, 15, 14, 14, 3] kn_X8_putBytes gK_2
theorem wd_X8_putBytes : ∀ w ∈ kX8_putBytes.2.2.2.2.2.flatMap (zrq zTab kX8_putBytes.1.cls), w ∈ lw_tbl := zkin_wd (own := "ReadAloud$Told") [14, 15, 14, 14, 3] kn_X8_putBytes wK_2
theorem kn_X8_becomes : zkin zK_2 qX8_becomes [15, 15, 16, 14, 3, 17, 4, 18, 5, 19, 19, 16, 20, 20, 21, 21, 22, 22] = true := by decide +kernel
theorem ok_X8_becomes : zokM zTab kX8_becomes := ⟨zwdf_ok rfl _ 0 (by decide +kernel) (by decide +kernel), zrow_all (by decide +kernel) (zkin_lk (own := "ReadAloud$Told") [15, 15, 16, 14, 3, 17, 4, 18, 5, 19, 19, 16, 20, 20, 21, 21, 22, 22] kn_X8_becomes lK_2 rfl), by decide +kernel⟩
theorem gw_X8_becomes : (kX8_becomes.2.2.2.2.2.flatMap (zrq zTab kX8_becomes.1.cls)).all goodWord = true := zkin_gw (own := "ReadAloud$Told") [15, 15, 16, 14, 3, 17, 4, 18, 5, 19, 19, 16, 20, 20, 21, 21, 22, 22] kn_X8_becomes gK_2
theorem wd_X8_becomes : ∀ w ∈ kX8_becomes.2.2.2.2.2.flatMap (zrq zTab kX8_becomes.1.cls), w ∈ lw_tbl := zkin_wd (own := "ReadAloud$Told") [15, 15, 16, 14, 3, 17, 4, 18, 5, 19, 19, 16, 20, 20, 21, 21, 22, 22] kn_X8_becomes wK_2
theorem kn_X7_init : zkin zK_3 qX7_init [0, 1, 2, 3, 4, 5, 6, 7, 8] = true := by decide +kernel
theorem ok_X7_init : zokM zTab kX7_init := ⟨zwdf_ok rfl _ 0 (by decide +kernel) (by decide +kernel), zrow_all (by decide +kernel) (zkin_lk (own := "ReadAloud$Teller") [0, 1, 2, 3, 4, 5, 6, 7, 8] kn_X7_init lK_3 rfl), by decide +kernel⟩
theorem gw_X7_init : (kX7_init.2.2.2.2.2.flatMap (zrq zTab kX7_init.1.cls)).all goodWord = true := zkin_gw (own := "ReadAloud$Teller") [0, 1, 2, 3, 4, 5, 6, 7, 8] kn_X7_init gK_3
theorem wd_X7_init : ∀ w ∈ kX7_init.2.2.2.2.2.flatMap (zrq zTab kX7_init.1.cls), w ∈ lw_tbl := zkin_wd (own := "ReadAloud$Teller") [0, 1, 2, 3, 4, 5, 6, 7, 8] kn_X7_init wK_3
theorem kn_X7_tell : zkin zK_3 qX7_tell [1, 2, 3, 7, 8, 9, 10, 11, 7, 12, 8, 13] = true := by decide +kernel
theorem ok_X7_tell : zokM zTab kX7_tell := ⟨zwdf_ok rfl _ 0 (by decide +kernel) (by decide +kernel), zrow_all (by decide +kernel) (zkin_lk (own := "ReadAloud$Teller") [1, 2, 3, 7, 8, 9, 10, 11, 7, 12, 8, 13] kn_X7_tell lK_3 rfl), by decide +kernel⟩
theorem gw_X7_tell : (kX7_tell.2.2.2.2.2.flatMap (zrq zTab kX7_tell.1.cls)).all goodWord = true := zkin_gw (own := "ReadAloud$Teller") [1, 2, 3, 7, 8, 9, 10, 11, 7, 12, 8, 13] kn_X7_tell gK_3
theorem wd_X7_tell : ∀ w ∈ kX7_tell.2.2.2.2.2.flatMap (zrq zTab kX7_tell.1.cls), w ∈ lw_tbl := zkin_wd (own := "ReadAloud$Teller") [1, 2, 3, 7, 8, 9, 10, 11, 7, 12, 8, 13] kn_X7_tell wK_3
theorem kn_X7_tellLine : zkin zK_3 qX7_tellLine [10, 14, 15, 9, 16, 10, 17, 9, 18, 10, 9] = true := by decide +kernel
theorem ok_X7_tellLine : zokM zTab kX7_tellLine := ⟨zwdf_ok rfl _ 0 (by decide +kernel) (by decide +kernel), zrow_all (by decide +kernel) (zkin_lk (own := "ReadAloud$Teller") [10, 14, 15, 9, 16, 10, 17, 9, 18, 10, 9] kn_X7_tellLine lK_3 rfl), by decide +kernel⟩
theorem gw_X7_tellLine : (kX7_tellLine.2.2.2.2.2.flatMap (zrq zTab kX7_tellLine.1.cls)).all goodWord = true := zkin_gw (own := "ReadAloud$Teller") [10, 14, 15, 9, 16, 10, 17, 9, 18, 10, 9] kn_X7_tellLine gK_3
theorem wd_X7_tellLine : ∀ w ∈ kX7_tellLine.2.2.2.2.2.flatMap (zrq zTab kX7_tellLine.1.cls), w ∈ lw_tbl := zkin_wd (own := "ReadAloud$Teller") [10, 14, 15, 9, 16, 10, 17, 9, 18, 10, 9] kn_X7_tellLine wK_3
theorem kn_X7_advance : zkin zK_3 qX7_advance [19, 20, 21, 19, 21, 19, 19, 3, 19, 5, 19, 20, 4, 19, 22, 4, 19, 20, 19, 22, 19, 3, 19, 23, 24, 21, 19, 4, 19, 3] = true := by decide +kernel
theorem ok_X7_advance : zokM zTab kX7_advance := ⟨zwdf_ok rfl _ 0 (by decide +kernel) (by decide +kernel), zrow_all (by decide +kernel) (zkin_lk (own := "ReadAloud$Teller") [19, 20, 21, 19, 21, 19, 19, 3, 19, 5, 19, 20, 4, 19, 22, 4, 19, 20, 19, 22, 19, 3, 19, 23, 24, 21, 19, 4, 19, 3] kn_X7_advance lK_3 rfl), by decide +kernel⟩
theorem gw_X7_advance : (kX7_advance.2.2.2.2.2.flatMap (zrq zTab kX7_advance.1.cls)).all goodWord = true := zkin_gw (own := "ReadAloud$Teller") [19, 20, 21, 19, 21, 19, 19, 3, 19, 5, 19, 20, 4, 19, 22, 4, 19, 20, 19, 22, 19, 3, 19, 23, 24, 21, 19, 4, 19, 3] kn_X7_advance gK_3
theorem wd_X7_advance : ∀ w ∈ kX7_advance.2.2.2.2.2.flatMap (zrq zTab kX7_advance.1.cls), w ∈ lw_tbl := zkin_wd (own := "ReadAloud$Teller") [19, 20, 21, 19, 21, 19, 19, 3, 19, 5, 19, 20, 4, 19, 22, 4, 19, 20, 19, 22, 19, 3, 19, 23, 24, 21, 19, 4, 19, 3] kn_X7_advance wK_3
theorem kn_X7_advanceDigits : zkin zK_3 qX7_advanceDigits [6, 19, 20, 19, 23, 19, 12, 25, 21, 19, 6, 19, 3, 19, 12, 4] = true := by decide +kernel
theorem ok_X7_advanceDigits : zokM zTab kX7_advanceDigits := ⟨zwdf_ok rfl _ 0 (by decide +kernel) (by decide +kernel), zrow_all (by decide +kernel) (zkin_lk (own := "ReadAloud$Teller") [6, 19, 20, 19, 23, 19, 12, 25, 21, 19, 6, 19, 3, 19, 12, 4] kn_X7_advanceDigits lK_3 rfl), by decide +kernel⟩
theorem gw_X7_advanceDigits : (kX7_advanceDigits.2.2.2.2.2.flatMap (zrq zTab kX7_advanceDigits.1.cls)).all goodWord = true := zkin_gw (own := "ReadAloud$Teller") [6, 19, 20, 19, 23, 19, 12, 25, 21, 19, 6, 19, 3, 19, 12, 4] kn_X7_advanceDigits gK_3
theorem wd_X7_advanceDigits : ∀ w ∈ kX7_advanceDigits.2.2.2.2.2.flatMap (zrq zTab kX7_advanceDigits.1.cls), w ∈ lw_tbl := zkin_wd (own := "ReadAloud$Teller") [6, 19, 20, 19, 23, 19, 12, 25, 21, 19, 6, 19, 3, 19, 12, 4] kn_X7_advanceDigits wK_3
theorem kn_X7_isLetter : zkin zK_3 qX7_isLetter [21, 21] = true := by decide +kernel
theorem ok_X7_isLetter : zokM zTab kX7_isLetter := ⟨zwdf_ok rfl _ 0 (by decide +kernel) (by decide +kernel), zrow_all (by decide +kernel) (zkin_lk (own := "ReadAloud$Teller") [21, 21] kn_X7_isLetter lK_3 rfl), by decide +kernel⟩
theorem gw_X7_isLetter : (kX7_isLetter.2.2.2.2.2.flatMap (zrq zTab kX7_isLetter.1.cls)).all goodWord = true := zkin_gw (own := "ReadAloud$Teller") [21, 21] kn_X7_isLetter gK_3
theorem wd_X7_isLetter : ∀ w ∈ kX7_isLetter.2.2.2.2.2.flatMap (zrq zTab kX7_isLetter.1.cls), w ∈ lw_tbl := zkin_wd (own := "ReadAloud$Teller") [21, 21] kn_X7_isLetter wK_3
theorem kn_X7_isDigit : zkin zK_3 qX7_isDigit [21, 21] = true := by decide +kernel
theorem ok_X7_isDigit : zokM zTab kX7_isDigit := ⟨zwdf_ok rfl _ 0 (by decide +kernel) (by decide +kernel), zrow_all (by decide +kernel) (zkin_lk (own := "ReadAloud$Teller") [21, 21] kn_X7_isDigit lK_3 rfl), by decide +kernel⟩
theorem gw_X7_isDigit : (kX7_isDigit.2.2.2.2.2.flatMap (zrq zTab kX7_isDigit.1.cls)).all goodWord = true := zkin_gw (own := "ReadAloud$Teller") [21, 21] kn_X7_isDigit gK_3
theorem wd_X7_isDigit : ∀ w ∈ kX7_isDigit.2.2.2.2.2.flatMap (zrq zTab kX7_isDigit.1.cls), w ∈ lw_tbl := zkin_wd (own := "ReadAloud$Teller") [21, 21] kn_X7_isDigit wK_3
theorem kn_X7_isAtHand : zkin zK_3 qX7_isAtHand [19, 12, 26, 26, 21, 12, 27] = true := by decide +kernel
theorem ok_X7_isAtHand : zokM zTab kX7_isAtHand := ⟨zwdf_ok rfl _ 0 (by decide +kernel) (by decide +kernel), zrow_all (by decide +kernel) (zkin_lk (own := "ReadAloud$Teller") [19, 12, 26, 26, 21, 12, 27] kn_X7_isAtHand lK_3 rfl), by decide +kernel⟩
theorem gw_X7_isAtHand : (kX7_isAtHand.2.2.2.2.2.flatMap (zrq zTab kX7_isAtHand.1.cls)).all goodWord = true := zkin_gw (own := "ReadAloud$Teller") [19, 12, 26, 26, 21, 12, 27] kn_X7_isAtHand gK_3
theorem wd_X7_isAtHand : ∀ w ∈ kX7_isAtHand.2.2.2.2.2.flatMap (zrq zTab kX7_isAtHand.1.cls), w ∈ lw_tbl := zkin_wd (own := "ReadAloud$Teller") [19, 12, 26, 26, 21, 12, 27] kn_X7_isAtHand wK_3
theorem kn_X7_isWithin : zkin zK_3 qX7_isWithin [25, 25, 28] = true := by decide +kernel
theorem ok_X7_isWithin : zokM zTab kX7_isWithin := ⟨zwdf_ok rfl _ 0 (by decide +kernel) (by decide +kernel), zrow_all (by decide +kernel) (zkin_lk (own := "ReadAloud$Teller") [25, 25, 28] kn_X7_isWithin lK_3 rfl), by decide +kernel⟩
theorem gw_X7_isWithin : (kX7_isWithin.2.2.2.2.2.flatMap (zrq zTab kX7_isWithin.1.cls)).all goodWord = true := zkin_gw (own := "ReadAloud$Teller") [25, 25, 28] kn_X7_isWithin gK_3
theorem wd_X7_isWithin : ∀ w ∈ kX7_isWithin.2.2.2.2.2.flatMap (zrq zTab kX7_isWithin.1.cls), w ∈ lw_tbl := zkin_wd (own := "ReadAloud$Teller") [25, 25, 28] kn_X7_isWithin wK_3
theorem kn_X7_faultHere : zkin zK_3 qX7_faultHere [13, 12, 29, 12, 29, 13, 7, 12, 8] = true := by decide +kernel
theorem ok_X7_faultHere : zokM zTab kX7_faultHere := ⟨zwdf_ok rfl _ 0 (by decide +kernel) (by decide +kernel), zrow_all (by decide +kernel) (zkin_lk (own := "ReadAloud$Teller") [13, 12, 29, 12, 29, 13, 7, 12, 8] kn_X7_faultHere lK_3 rfl), by decide +kernel⟩
theorem gw_X7_faultHere : (kX7_faultHere.2.2.2.2.2.flatMap (zrq zTab kX7_faultHere.1.cls)).all goodWord = true := zkin_gw (own := "ReadAloud$Teller") [13, 12, 29, 12, 29, 13, 7, 12, 8] kn_X7_faultHere gK_3
theorem wd_X7_faultHere : ∀ w ∈ kX7_faultHere.2.2.2.2.2.flatMap (zrq zTab kX7_faultHere.1.cls), w ∈ lw_tbl := zkin_wd (own := "ReadAloud$Teller") [13, 12, 29, 12, 29, 13, 7, 12, 8] kn_X7_faultHere wK_3
theorem kn_X1_init : zkin zK_4 qX1_init [0, 1, 2, 3, 4, 5, 6, 7, 8, 9] = true := by decide +kernel
theorem ok_X1_init : zokM zTab kX1_init := ⟨zwdf_ok rfl _ 0 (by decide +kernel) (by decide +kernel), zrow_all (by decide +kernel) (zkin_lk (own := "ReadAloud$Course") [0, 1, 2, 3, 4, 5, 6, 7, 8, 9] kn_X1_init lK_4 rfl), by decide +kernel⟩
theorem gw_X1_init : (kX1_init.2.2.2.2.2.flatMap (zrq zTab kX1_init.1.cls)).all goodWord = true := zkin_gw (own := "ReadAloud$Course") [0, 1, 2, 3, 4, 5, 6, 7, 8, 9] kn_X1_init gK_4
theorem wd_X1_init : ∀ w ∈ kX1_init.2.2.2.2.2.flatMap (zrq zTab kX1_init.1.cls), w ∈ lw_tbl := zkin_wd (own := "ReadAloud$Course") [0, 1, 2, 3, 4, 5, 6, 7, 8, 9] kn_X1_init wK_4
theorem kn_X1_begin : zkin zK_4 qX1_begin [1, 2, 3, 4, 10, 11, 12, 13, 12] = true := by decide +kernel
theorem ok_X1_begin : zokM zTab kX1_begin := ⟨zwdf_ok rfl _ 0 (by decide +kernel) (by decide +kernel), zrow_all (by decide +kernel) (zkin_lk (own := "ReadAloud$Course") [1, 2, 3, 4, 10, 11, 12, 13, 12] kn_X1_begin lK_4 rfl), by decide +kernel⟩
theorem gw_X1_begin : (kX1_begin.2.2.2.2.2.flatMap (zrq zTab kX1_begin.1.cls)).all goodWord = true := zkin_gw (own := "ReadAloud$Course") [1, 2, 3, 4, 10, 11, 12, 13, 12] kn_X1_begin gK_4
theorem wd_X1_begin : ∀ w ∈ kX1_begin.2.2.2.2.2.flatMap (zrq zTab kX1_begin.1.cls), w ∈ lw_tbl := zkin_wd (own := "ReadAloud$Course") [1, 2, 3, 4, 10, 11, 12, 13, 12] kn_X1_begin wK_4
theorem kn_X1_doFirst : zkin zK_4 qX1_doFirst [14, 15, 16, 17, 18] = true := by decide +kernel
theorem ok_X1_doFirst : zokM zTab kX1_doFirst := ⟨zwdf_ok rfl _ 0 (by decide +kernel) (by decide +kernel), zrow_all (by decide +kernel) (zkin_lk (own := "ReadAloud$Course") [14, 15, 16, 17, 18] kn_X1_doFirst lK_4 rfl), by decide +kernel⟩
theorem gw_X1_doFirst : (kX1_doFirst.2.2.2.2.2.flatMap (zrq zTab kX1_doFirst.1.cls)).all goodWord = true := zkin_gw (own := "ReadAloud$Course") [14, 15, 16, 17, 18] kn_X1_doFirst gK_4
theorem wd_X1_doFirst : ∀ w ∈ kX1_doFirst.2.2.2.2.2.flatMap (zrq zTab kX1_doFirst.1.cls), w ∈ lw_tbl := zkin_wd (own := "ReadAloud$Course") [14, 15, 16, 17, 18] kn_X1_doFirst wK_4
theorem kn_X1_doDeed : zkin zK_4 qX1_doDeed [19, 20, 3, 21, 10, 22, 11, 23, 24, 23, 4, 25, 25, 2] = true := by decide +kernel
theorem ok_X1_doDeed : zokM zTab kX1_doDeed := ⟨zwdf_ok rfl _ 0 (by decide +kernel) (by decide +kernel), zrow_all (by decide +kernel) (zkin_lk (own := "ReadAloud$Course") [19, 20, 3, 21, 10, 22, 11, 23, 24, 23, 4, 25, 25, 2] kn_X1_doDeed lK_4 rfl), by decide +kernel⟩
theorem gw_X1_doDeed : (kX1_doDeed.2.2.2.2.2.flatMap (zrq zTab kX1_doDeed.1.cls)).all goodWord = true := zkin_gw (own := "ReadAloud$Course") [19, 20, 3, 21, 10, 22, 11, 23, 24, 23, 4, 25, 25, 2] kn_X1_doDeed gK_4
theorem wd_X1_doDeed : ∀ w ∈ kX1_doDeed.2.2.2.2.2.flatMap (zrq zTab kX1_doDeed.1.cls), w ∈ lw_tbl := zkin_wd (own := "ReadAloud$Course") [19, 20, 3, 21, 10, 22, 11, 23, 24, 23, 4, 25, 25, 2] kn_X1_doDeed wK_4
theorem kn_X1_doRead : zkin zK_4 qX1_doRead [22, 26, 13, 23, 24, 23, 4, 10, 22, 10, 27] = true := by decide +kernel
theorem ok_X1_doRead : zokM zTab kX1_doRead := ⟨zwdf_ok rfl _ 0 (by decide +kernel) (by decide +kernel), zrow_all (by decide +kernel) (zkin_lk (own := "ReadAloud$Course") [22, 26, 13, 23, 24, 23, 4, 10, 22, 10, 27] kn_X1_doRead lK_4 rfl), by decide +kernel⟩
theorem gw_X1_doRead : (kX1_doRead.2.2.2.2.2.flatMap (zrq zTab kX1_doRead.1.cls)).all goodWord = true := zkin_gw (own := "ReadAloud$Course") [22, 26, 13, 23, 24, 23, 4, 10, 22, 10, 27] kn_X1_doRead gK_4
theorem wd_X1_doRead : ∀ w ∈ kX1_doRead.2.2.2.2.2.flatMap (zrq zTab kX1_doRead.1.cls), w ∈ lw_tbl := zkin_wd (own := "ReadAloud$Course") [22, 26, 13, 23, 24, 23, 4, 10, 22, 10, 27] kn_X1_doRead wK_4
theorem kn_X1_doCopy : zkin zK_4 qX1_doCopy [10, 10] = true := by decide +kernel
theorem ok_X1_doCopy : zokM zTab kX1_doCopy := ⟨zwdf_ok rfl _ 0 (by decide +kernel) (by decide +kernel), zrow_all (by decide +kernel) (zkin_lk (own := "ReadAloud$Course") [10, 10] kn_X1_doCopy lK_4 rfl), by decide +kernel⟩
theorem gw_X1_doCopy : (kX1_doCopy.2.2.2.2.2.flatMap (zrq zTab kX1_doCopy.1.cls)).all goodWord = true := zkin_gw (own := "ReadAloud$Course") [10, 10] kn_X1_doCopy gK_4
theorem wd_X1_doCopy : ∀ w ∈ kX1_doCopy.2.2.2.2.2.flatMap (zrq zTab kX1_doCopy.1.cls), w ∈ lw_tbl := zkin_wd (own := "ReadAloud$Course") [10, 10] kn_X1_doCopy wK_4
theorem kn_X1_draw : zkin zK_4 qX1_draw [5, 28, 28, 22, 29, 22, 29, 28, 18, 28, 18, 18] = true := by decide +kernel
theorem ok_X1_draw : zokM zTab kX1_draw := ⟨zwdf_ok rfl _ 0 (by decide +kernel) (by decide +kernel), zrow_all (by decide +kernel) (zkin_lk (own := "ReadAloud$Course") [5, 28, 28, 22, 29, 22, 29, 28, 18, 28, 18, 18] kn_X1_draw lK_4 rfl), by decide +kernel⟩
theorem gw_X1_draw : (kX1_draw.2.2.2.2.2.flatMap (zrq zTab kX1_draw.1.cls)).all goodWord = true := zkin_gw (own := "ReadAloud$Course") [5, 28, 28, 22, 29, 22, 29, 28, 18, 28, 18, 18] kn_X1_draw gK_4
theorem wd_X1_draw : ∀ w ∈ kX1_draw.2.2.2.2.2.flatMap (zrq zTab kX1_draw.1.cls), w ∈ lw_tbl := zkin_wd (own := "ReadAloud$Course") [5, 28, 28, 22, 29, 22, 29, 28, 18, 28, 18, 18] kn_X1_draw wK_4
theorem kn_X1_drawBelow : zkin zK_4 qX1_drawBelow [30, 31, 5, 30] = true := by decide +kernel
theorem ok_X1_drawBelow : zokM zTab kX1_drawBelow := ⟨zwdf_ok rfl _ 0 (by decide +kernel) (by decide +kernel), zrow_all (by decide +kernel) (zkin_lk (own := "ReadAloud$Course") [30, 31, 5, 30] kn_X1_drawBelow lK_4 rfl), by decide +kernel⟩
theorem gw_X1_drawBelow : (kX1_drawBelow.2.2.2.2.2.flatMap (zrq zTab kX1_drawBelow.1.cls)).all goodWord = true := zkin_gw (own := "ReadAloud$Course") [30, 31, 5, 30] kn_X1_drawBelow gK_4
theorem wd_X1_drawBelow : ∀ w ∈ kX1_drawBelow.2.2.2.2.2.flatMap (zrq zTab kX1_drawBelow.1.cls), w ∈ lw_tbl := zkin_wd (own := "ReadAloud$Course") [30, 31, 5, 30] kn_X1_drawBelow wK_4
theorem kn_X1_tells : zkin zK_4 qX1_tells [25, 21, 32, 33, 33, 34, 23, 10, 22, 29, 13] = true := by decide +kernel
theorem ok_X1_tells : zokM zTab kX1_tells := ⟨zwdf_ok rfl _ 0 (by decide +kernel) (by decide +kernel), zrow_all (by decide +kernel) (zkin_lk (own := "ReadAloud$Course") [25, 21, 32, 33, 33, 34, 23, 10, 22, 29, 13] kn_X1_tells lK_4 rfl), by decide +kernel⟩
theorem gw_X1_tells : (kX1_tells.2.2.2.2.2.flatMap (zrq zTab kX1_tells.1.cls)).all goodWord = true := zkin_gw (own := "ReadAloud$Course") [25, 21, 32, 33, 33, 34, 23, 10, 22, 29, 13] kn_X1_tells gK_4
theorem wd_X1_tells : ∀ w ∈ kX1_tells.2.2.2.2.2.flatMap (zrq zTab kX1_tells.1.cls), w ∈ lw_tbl := zkin_wd (own := "ReadAloud$Course") [25, 21, 32, 33, 33, 34, 23, 10, 22, 29, 13] kn_X1_tells wK_4
theorem kn_X1_suits : zkin zK_4 qX1_suits [10, 10, 21] = true := by decide +kernel
theorem ok_X1_suits : zokM zTab kX1_suits := ⟨zwdf_ok rfl _ 0 (by decide +kernel) (by decide +kernel), zrow_all (by decide +kernel) (zkin_lk (own := "ReadAloud$Course") [10, 10, 21] kn_X1_suits lK_4 rfl), by decide +kernel⟩
theorem gw_X1_suits : (kX1_suits.2.2.2.2.2.flatMap (zrq zTab kX1_suits.1.cls)).all goodWord = true := zkin_gw (own := "ReadAloud$Course") [10, 10, 21] kn_X1_suits gK_4
theorem wd_X1_suits : ∀ w ∈ kX1_suits.2.2.2.2.2.flatMap (zrq zTab kX1_suits.1.cls), w ∈ lw_tbl := zkin_wd (own := "ReadAloud$Course") [10, 10, 21] kn_X1_suits wK_4
theorem kn_X1_against : zkin zK_4 qX1_against [34, 34] = true := by decide +kernel
theorem ok_X1_against : zokM zTab kX1_against := ⟨zwdf_ok rfl _ 0 (by decide +kernel) (by decide +kernel), zrow_all (by decide +kernel) (zkin_lk (own := "ReadAloud$Course") [34, 34] kn_X1_against lK_4 rfl), by decide +kernel⟩
theorem gw_X1_against : (kX1_against.2.2.2.2.2.flatMap (zrq zTab kX1_against.1.cls)).all goodWord = true := zkin_gw (own := "ReadAloud$Course") [34, 34] kn_X1_against gK_4
theorem wd_X1_against : ∀ w ∈ kX1_against.2.2.2.2.2.flatMap (zrq zTab kX1_against.1.cls), w ∈ lw_tbl := zkin_wd (own := "ReadAloud$Course") [34, 34] kn_X1_against wK_4
theorem kn_X1_driftOfCopy : zkin zK_4 qX1_driftOfCopy [10, 22, 11, 35] = true := by decide +kernel
theorem ok_X1_driftOfCopy : zokM zTab kX1_driftOfCopy := ⟨zwdf_ok rfl _ 0 (by decide +kernel) (by decide +kernel), zrow_all (by decide +kernel) (zkin_lk (own := "ReadAloud$Course") [10, 22, 11, 35] kn_X1_driftOfCopy lK_4 rfl), by decide +kernel⟩
theorem gw_X1_driftOfCopy : (kX1_driftOfCopy.2.2.2.2.2.flatMap (zrq zTab kX1_driftOfCopy.1.cls)).all goodWord = true := zkin_gw (own := "ReadAloud$Course") [10, 22, 11, 35] kn_X1_driftOfCopy gK_4
theorem wd_X1_driftOfCopy : ∀ w ∈ kX1_driftOfCopy.2.2.2.2.2.flatMap (zrq zTab kX1_driftOfCopy.1.cls), w ∈ lw_tbl := zkin_wd (own := "ReadAloud$Course") [10, 22, 11, 35] kn_X1_driftOfCopy wK_4
theorem kn_X3_init : zkin zK_5 qX3_init [0] = true := by decide +kernel
theorem ok_X3_init : zokM zTab kX3_init := ⟨zwdf_ok rfl _ 0 (by decide +kernel) (by decide +kernel), zrow_all (by decide +kernel) (zkin_lk (own := "ReadAloud$Lines") [0] kn_X3_init lK_5 rfl), by decide +kernel⟩
theorem gw_X3_init : (kX3_init.2.2.2.2.2.flatMap (zrq zTab kX3_init.1.cls)).all goodWord = true := zkin_gw (own := "ReadAloud$Lines") [0] kn_X3_init gK_5
theorem wd_X3_init : ∀ w ∈ kX3_init.2.2.2.2.2.flatMap (zrq zTab kX3_init.1.cls), w ∈ lw_tbl := zkin_wd (own := "ReadAloud$Lines") [0] kn_X3_init wK_5
theorem kn_X0_init : zkin zK_6 qX0_init [0, 1, 2, 3, 4, 5, 6, 7, 8, 9, 8, 10] = true := by decide +kernel
theorem ok_X0_init : zokM zTab kX0_init := ⟨zwdf_ok rfl _ 0 (by decide +kernel) (by decide +kernel), zrow_all (by decide +kernel) (zkin_lk (own := "ReadAloud$Book") [0, 1, 2, 3, 4, 5, 6, 7, 8, 9, 8, 10] kn_X0_init lK_6 rfl), by decide +kernel⟩
theorem gw_X0_init : (kX0_init.2.2.2.2.2.flatMap (zrq zTab kX0_init.1.cls)).all goodWord = true := zkin_gw (own := "ReadAloud$Book") [0, 1, 2, 3, 4, 5, 6, 7, 8, 9, 8, 10] kn_X0_init gK_6
theorem wd_X0_init : ∀ w ∈ kX0_init.2.2.2.2.2.flatMap (zrq zTab kX0_init.1.cls), w ∈ lw_tbl := zkin_wd (own := "ReadAloud$Book") [0, 1, 2, 3, 4, 5, 6, 7, 8, 9, 8, 10] kn_X0_init wK_6
theorem kn_X0_lineOf : zkin zK_6 qX0_lineOf [11, 12, 13, 12, 14, 12, 15, 12, 16, 12, 17, 12, 18, 12, 19, 12] = true := by decide +kernel
theorem ok_X0_lineOf : zokM zTab kX0_lineOf := ⟨zwdf_ok rfl _ 0 (by decide +kernel) (by decide +kernel), zrow_all (by decide +kernel) (zkin_lk (own := "ReadAloud$Book") [11, 12, 13, 12, 14, 12, 15, 12, 16, 12, 17, 12, 18, 12, 19, 12] kn_X0_lineOf lK_6 rfl), by decide +kernel⟩
theorem gw_X0_lineOf : (kX0_lineOf.2.2.2.2.2.flatMap (zrq zTab kX0_lineOf.1.cls)).all goodWord = true := zkin_gw (own := "ReadAloud$Book") [11, 12, 13, 12, 14, 12, 15, 12, 16, 12, 17, 12, 18, 12, 19, 12] kn_X0_lineOf gK_6
theorem wd_X0_lineOf : ∀ w ∈ kX0_lineOf.2.2.2.2.2.flatMap (zrq zTab kX0_lineOf.1.cls), w ∈ lw_tbl := zkin_wd (own := "ReadAloud$Book") [11, 12, 13, 12, 14, 12, 15, 12, 16, 12, 17, 12, 18, 12, 19, 12] kn_X0_lineOf wK_6
theorem kn_X0_fewestNumbers : zkin zK_6 qX0_fewestNumbers [20] = true := by decide +kernel
theorem ok_X0_fewestNumbers : zokM zTab kX0_fewestNumbers := ⟨zwdf_ok rfl _ 0 (by decide +kernel) (by decide +kernel), zrow_all (by decide +kernel) (zkin_lk (own := "ReadAloud$Book") [20] kn_X0_fewestNumbers lK_6 rfl), by decide +kernel⟩
theorem gw_X0_fewestNumbers : (kX0_fewestNumbers.2.2.2.2.2.flatMap (zrq zTab kX0_fewestNumbers.1.cls)).all goodWord = true := zkin_gw (own := "ReadAloud$Book") [20] kn_X0_fewestNumbers gK_6
theorem wd_X0_fewestNumbers : ∀ w ∈ kX0_fewestNumbers.2.2.2.2.2.flatMap (zrq zTab kX0_fewestNumbers.1.cls), w ∈ lw_tbl := zkin_wd (own := "ReadAloud$Book") [20] kn_X0_fewestNumbers wK_6
theorem kn_X0_mostNumbers : zkin zK_6 qX0_mostNumbers [] = true := by decide +kernel
theorem ok_X0_mostNumbers : zokM zTab kX0_mostNumbers := ⟨zwdf_ok rfl _ 0 (by decide +kernel) (by decide +kernel), zrow_all (by decide +kernel) (zkin_lk (own := "ReadAloud$Book") [] kn_X0_mostNumbers lK_6 rfl), by decide +kernel⟩
theorem gw_X0_mostNumbers : (kX0_mostNumbers.2.2.2.2.2.flatMap (zrq zTab kX0_mostNumbers.1.cls)).all goodWord = true := zkin_gw (own := "ReadAloud$Book") [] kn_X0_mostNumbers gK_6
theorem wd_X0_mostNumbers : ∀ w ∈ kX0_mostNumbers.2.2.2.2.2.flatMap (zrq zTab kX0_mostNumbers.1.cls), w ∈ lw_tbl := zkin_wd (own := "ReadAloud$Book") [] kn_X0_mostNumbers wK_6
theorem kn_X0_beginLine : zkin zK_6 qX0_beginLine [1, 21, 21, 2, 22, 23] = true := by decide +kernel
theorem ok_X0_beginLine : zokM zTab kX0_beginLine := ⟨zwdf_ok rfl _ 0 (by decide +kernel) (by decide +kernel), zrow_all (by decide +kernel) (zkin_lk (own := "ReadAloud$Book") [1, 21, 21, 2, 22, 23] kn_X0_beginLine lK_6 rfl), by decide +kernel⟩
theorem gw_X0_beginLine : (kX0_beginLine.2.2.2.2.2.flatMap (zrq zTab kX0_beginLine.1.cls)).all goodWord = true := zkin_gw (own := "ReadAloud$Book") [1, 21, 21, 2, 22, 23] kn_X0_beginLine gK_6
theorem wd_X0_beginLine : ∀ w ∈ kX0_beginLine.2.2.2.2.2.flatMap (zrq zTab kX0_beginLine.1.cls), w ∈ lw_tbl := zkin_wd (own := "ReadAloud$Book") [1, 21, 21, 2, 22, 23] kn_X0_beginLine wK_6
theorem kn_X0_beginStep : zkin zK_6 qX0_beginStep [21, 22, 24, 22, 25, 24, 24] = true := by decide +kernel
theorem ok_X0_beginStep : zokM zTab kX0_beginStep := ⟨zwdf_ok rfl _ 0 (by decide +kernel) (by decide +kernel), zrow_all (by decide +kernel) (zkin_lk (own := "ReadAloud$Book") [21, 22, 24, 22, 25, 24, 24] kn_X0_beginStep lK_6 rfl), by decide +kernel⟩
theorem gw_X0_beginStep : (kX0_beginStep.2.2.2.2.2.flatMap (zrq zTab kX0_beginStep.1.cls)).all goodWord = true := zkin_gw (own := "ReadAloud$Book") [21, 22, 24, 22, 25, 24, 24] kn_X0_beginStep gK_6
theorem wd_X0_beginStep : ∀ w ∈ kX0_beginStep.2.2.2.2.2.flatMap (zrq zTab kX0_beginStep.1.cls), w ∈ lw_tbl := zkin_wd (own := "ReadAloud$Book") [21, 22, 24, 22, 25, 24, 24] kn_X0_beginStep wK_6
theorem kn_X0_takeNumber : zkin zK_6 qX0_takeNumber [26, 22, 27, 28] = true := by decide +kernel
theorem ok_X0_takeNumber : zokM zTab kX0_takeNumber := ⟨zwdf_ok rfl _ 0 (by decide +kernel) (by decide +kernel), zrow_all (by decide +kernel) (zkin_lk (own := "ReadAloud$Book") [26, 22, 27, 28] kn_X0_takeNumber lK_6 rfl), by decide +kernel⟩
theorem gw_X0_takeNumber : (kX0_takeNumber.2.2.2.2.2.flatMap (zrq zTab kX0_takeNumber.1.cls)).all goodWord = true := zkin_gw (own := "ReadAloud$Book") [26, 22, 27, 28] kn_X0_takeNumber gK_6
theorem wd_X0_takeNumber : ∀ w ∈ kX0_takeNumber.2.2.2.2.2.flatMap (zrq zTab kX0_takeNumber.1.cls), w ∈ lw_tbl := zkin_wd (own := "ReadAloud$Book") [26, 22, 27, 28] kn_X0_takeNumber wK_6
theorem kn_X0_keepNumber : zkin zK_6 qX0_keepNumber [21, 29, 30, 1, 3, 31, 32, 33, 31, 24, 34, 24] = true := by decide +kernel
theorem ok_X0_keepNumber : zokM zTab kX0_keepNumber := ⟨zwdf_ok rfl _ 0 (by decide +kernel) (by decide +kernel), zrow_all (by decide +kernel) (zkin_lk (own := "ReadAloud$Book") [21, 29, 30, 1, 3, 31, 32, 33, 31, 24, 34, 24] kn_X0_keepNumber lK_6 rfl), by decide +kernel⟩
theorem gw_X0_keepNumber : (kX0_keepNumber.2.2.2.2.2.flatMap (zrq zTab kX0_keepNumber.1.cls)).all goodWord = true := zkin_gw (own := "ReadAloud$Book") [21, 29, 30, 1, 3, 31, 32, 33, 31, 24, 34, 24] kn_X0_keepNumber gK_6
theorem wd_X0_keepNumber : ∀ w ∈ kX0_keepNumber.2.2.2.2.2.flatMap (zrq zTab kX0_keepNumber.1.cls), w ∈ lw_tbl := zkin_wd (own := "ReadAloud$Book") [21, 29, 30, 1, 3, 31, 32, 33, 31, 24, 34, 24] kn_X0_keepNumber wK_6
theorem kn_X0_hasReader : zkin zK_6 qX0_hasReader [21] = true := by decide +kernel
theorem ok_X0_hasReader : zokM zTab kX0_hasReader := ⟨zwdf_ok rfl _ 0 (by decide +kernel) (by decide +kernel), zrow_all (by decide +kernel) (zkin_lk (own := "ReadAloud$Book") [21] kn_X0_hasReader lK_6 rfl), by decide +kernel⟩
theorem gw_X0_hasReader : (kX0_hasReader.2.2.2.2.2.flatMap (zrq zTab kX0_hasReader.1.cls)).all goodWord = true := zkin_gw (own := "ReadAloud$Book") [21] kn_X0_hasReader gK_6
theorem wd_X0_hasReader : ∀ w ∈ kX0_hasReader.2.2.2.2.2.flatMap (zrq zTab kX0_hasReader.1.cls), w ∈ lw_tbl := zkin_wd (own := "ReadAloud$Book") [21] kn_X0_hasReader wK_6
theorem kn_X0_hasReaders : zkin zK_6 qX0_hasReaders [21] = true := by decide +kernel
theorem ok_X0_hasReaders : zokM zTab kX0_hasReaders := ⟨zwdf_ok rfl _ 0 (by decide +kernel) (by decide +kernel), zrow_all (by decide +kernel) (zkin_lk (own := "ReadAloud$Book") [21] kn_X0_hasReaders lK_6 rfl), by decide +kernel⟩
theorem gw_X0_hasReaders : (kX0_hasReaders.2.2.2.2.2.flatMap (zrq zTab kX0_hasReaders.1.cls)).all goodWord = true := zkin_gw (own := "ReadAloud$Book") [21] kn_X0_hasReaders gK_6
theorem wd_X0_hasReaders : ∀ w ∈ kX0_hasReaders.2.2.2.2.2.flatMap (zrq zTab kX0_hasReaders.1.cls), w ∈ lw_tbl := zkin_wd (own := "ReadAloud$Book") [21] kn_X0_hasReaders wK_6
theorem kn_X0_tells : zkin zK_6 qX0_tells [29, 21, 33, 21, 24, 35] = true := by decide +kernel
theorem ok_X0_tells : zokM zTab kX0_tells := ⟨zwdf_ok rfl _ 0 (by decide +kernel) (by decide +kernel), zrow_all (by decide +kernel) (zkin_lk (own := "ReadAloud$Book") [29, 21, 33, 21, 24, 35] kn_X0_tells lK_6 rfl), by decide +kernel⟩
theorem gw_X0_tells : (kX0_tells.2.2.2.2.2.flatMap (zrq zTab kX0_tells.1.cls)).all goodWord = true := zkin_gw (own := "ReadAloud$Book") [29, 21, 33, 21, 24, 35] kn_X0_tells gK_6
theorem wd_X0_tells : ∀ w ∈ kX0_tells.2.2.2.2.2.flatMap (zrq zTab kX0_tells.1.cls), w ∈ lw_tbl := zkin_wd (own := "ReadAloud$Book") [29, 21, 33, 21, 24, 35] kn_X0_tells wK_6
theorem kn_X0_tellsStep : zkin zK_6 qX0_tellsStep [36, 24, 25, 34] = true := by decide +kernel
theorem ok_X0_tellsStep : zokM zTab kX0_tellsStep := ⟨zwdf_ok rfl _ 0 (by decide +kernel) (by decide +kernel), zrow_all (by decide +kernel) (zkin_lk (own := "ReadAloud$Book") [36, 24, 25, 34] kn_X0_tellsStep lK_6 rfl), by decide +kernel⟩
theorem gw_X0_tellsStep : (kX0_tellsStep.2.2.2.2.2.flatMap (zrq zTab kX0_tellsStep.1.cls)).all goodWord = true := zkin_gw (own := "ReadAloud$Book") [36, 24, 25, 34] kn_X0_tellsStep gK_6
theorem wd_X0_tellsStep : ∀ w ∈ kX0_tellsStep.2.2.2.2.2.flatMap (zrq zTab kX0_tellsStep.1.cls), w ∈ lw_tbl := zkin_wd (own := "ReadAloud$Book") [36, 24, 25, 34] kn_X0_tellsStep wK_6
theorem kn_X0_readBy : zkin zK_6 qX0_readBy [37, 24, 25, 34, 38, 39] = true := by decide +kernel
theorem ok_X0_readBy : zokM zTab kX0_readBy := ⟨zwdf_ok rfl _ 0 (by decide +kernel) (by decide +kernel), zrow_all (by decide +kernel) (zkin_lk (own := "ReadAloud$Book") [37, 24, 25, 34, 38, 39] kn_X0_readBy lK_6 rfl), by decide +kernel⟩
theorem gw_X0_readBy : (kX0_readBy.2.2.2.2.2.flatMap (zrq zTab kX0_readBy.1.cls)).all goodWord = true := zkin_gw (own := "ReadAloud$Book") [37, 24, 25, 34, 38, 39] kn_X0_readBy gK_6
theorem wd_X0_readBy : ∀ w ∈ kX0_readBy.2.2.2.2.2.flatMap (zrq zTab kX0_readBy.1.cls), w ∈ lw_tbl := zkin_wd (own := "ReadAloud$Book") [37, 24, 25, 34, 38, 39] kn_X0_readBy wK_6
theorem kn_X0_stepOn : zkin zK_6 qX0_stepOn [40, 41, 42, 43, 44, 45] = true := by decide +kernel
theorem ok_X0_stepOn : zokM zTab kX0_stepOn := ⟨zwdf_ok rfl _ 0 (by decide +kernel) (by decide +kernel), zrow_all (by decide +kernel) (zkin_lk (own := "ReadAloud$Book") [40, 41, 42, 43, 44, 45] kn_X0_stepOn lK_6 rfl), by decide +kernel⟩
theorem gw_X0_stepOn : (kX0_stepOn.2.2.2.2.2.flatMap (zrq zTab kX0_stepOn.1.cls)).all goodWord = true := zkin_gw (own := "ReadAloud$Book") [40, 41, 42, 43, 44, 45] kn_X0_stepOn gK_6
theorem wd_X0_stepOn : ∀ w ∈ kX0_stepOn.2.2.2.2.2.flatMap (zrq zTab kX0_stepOn.1.cls), w ∈ lw_tbl := zkin_wd (own := "ReadAloud$Book") [40, 41, 42, 43, 44, 45] kn_X0_stepOn wK_6
theorem kn_X0_shifted : zkin zK_6 qX0_shifted [33] = true := by decide +kernel
theorem ok_X0_shifted : zokM zTab kX0_shifted := ⟨zwdf_ok rfl _ 0 (by decide +kernel) (by decide +kernel), zrow_all (by decide +kernel) (zkin_lk (own := "ReadAloud$Book") [33] kn_X0_shifted lK_6 rfl), by decide +kernel⟩
theorem gw_X0_shifted : (kX0_shifted.2.2.2.2.2.flatMap (zrq zTab kX0_shifted.1.cls)).all goodWord = true := zkin_gw (own := "ReadAloud$Book") [33] kn_X0_shifted gK_6
theorem wd_X0_shifted : ∀ w ∈ kX0_shifted.2.2.2.2.2.flatMap (zrq zTab kX0_shifted.1.cls), w ∈ lw_tbl := zkin_wd (own := "ReadAloud$Book") [33] kn_X0_shifted wK_6
theorem kn_X0_dropped : zkin zK_6 qX0_dropped [] = true := by decide +kernel
theorem ok_X0_dropped : zokM zTab kX0_dropped := ⟨zwdf_ok rfl _ 0 (by decide +kernel) (by decide +kernel), zrow_all (by decide +kernel) (zkin_lk (own := "ReadAloud$Book") [] kn_X0_dropped lK_6 rfl), by decide +kernel⟩
theorem gw_X0_dropped : (kX0_dropped.2.2.2.2.2.flatMap (zrq zTab kX0_dropped.1.cls)).all goodWord = true := zkin_gw (own := "ReadAloud$Book") [] kn_X0_dropped gK_6
theorem wd_X0_dropped : ∀ w ∈ kX0_dropped.2.2.2.2.2.flatMap (zrq zTab kX0_dropped.1.cls), w ∈ lw_tbl := zkin_wd (own := "ReadAloud$Book") [] kn_X0_dropped wK_6
theorem kn_X0_doubled : zkin zK_6 qX0_doubled [] = true := by decide +kernel
theorem ok_X0_doubled : zokM zTab kX0_doubled := ⟨zwdf_ok rfl _ 0 (by decide +kernel) (by decide +kernel), zrow_all (by decide +kernel) (zkin_lk (own := "ReadAloud$Book") [] kn_X0_doubled lK_6 rfl), by decide +kernel⟩
theorem gw_X0_doubled : (kX0_doubled.2.2.2.2.2.flatMap (zrq zTab kX0_doubled.1.cls)).all goodWord = true := zkin_gw (own := "ReadAloud$Book") [] kn_X0_doubled gK_6
theorem wd_X0_doubled : ∀ w ∈ kX0_doubled.2.2.2.2.2.flatMap (zrq zTab kX0_doubled.1.cls), w ∈ lw_tbl := zkin_wd (own := "ReadAloud$Book") [] kn_X0_doubled wK_6
theorem kn_X0_swapped : zkin zK_6 qX0_swapped [] = true := by decide +kernel
theorem ok_X0_swapped : zokM zTab kX0_swapped := ⟨zwdf_ok rfl _ 0 (by decide +kernel) (by decide +kernel), zrow_all (by decide +kernel) (zkin_lk (own := "ReadAloud$Book") [] kn_X0_swapped lK_6 rfl), by decide +kernel⟩
theorem gw_X0_swapped : (kX0_swapped.2.2.2.2.2.flatMap (zrq zTab kX0_swapped.1.cls)).all goodWord = true := zkin_gw (own := "ReadAloud$Book") [] kn_X0_swapped gK_6
theorem wd_X0_swapped : ∀ w ∈ kX0_swapped.2.2.2.2.2.flatMap (zrq zTab kX0_swapped.1.cls), w ∈ lw_tbl := zkin_wd (own := "ReadAloud$Book") [] kn_X0_swapped wK_6
theorem kn_X0_turned : zkin zK_6 qX0_turned [] = true := by decide +kernel
theorem ok_X0_turned : zokM zTab kX0_turned := ⟨zwdf_ok rfl _ 0 (by decide +kernel) (by decide +kernel), zrow_all (by decide +kernel) (zkin_lk (own := "ReadAloud$Book") [] kn_X0_turned lK_6 rfl), by decide +kernel⟩
theorem gw_X0_turned : (kX0_turned.2.2.2.2.2.flatMap (zrq zTab kX0_turned.1.cls)).all goodWord = true := zkin_gw (own := "ReadAloud$Book") [] kn_X0_turned gK_6
theorem wd_X0_turned : ∀ w ∈ kX0_turned.2.2.2.2.2.flatMap (zrq zTab kX0_turned.1.cls), w ∈ lw_tbl := zkin_wd (own := "ReadAloud$Book") [] kn_X0_turned wK_6
theorem kn_X0_kinRing : zkin zK_6 qX0_kinRing [33, 33] = true := by decide +kernel
theorem ok_X0_kinRing : zokM zTab kX0_kinRing := ⟨zwdf_ok rfl _ 0 (by decide +kernel) (by decide +kernel), zrow_all (by decide +kernel) (zkin_lk (own := "ReadAloud$Book") [33, 33] kn_X0_kinRing lK_6 rfl), by decide +kernel⟩
theorem gw_X0_kinRing : (kX0_kinRing.2.2.2.2.2.flatMap (zrq zTab kX0_kinRing.1.cls)).all goodWord = true := zkin_gw (own := "ReadAloud$Book") [33, 33] kn_X0_kinRing gK_6
theorem wd_X0_kinRing : ∀ w ∈ kX0_kinRing.2.2.2.2.2.flatMap (zrq zTab kX0_kinRing.1.cls), w ∈ lw_tbl := zkin_wd (own := "ReadAloud$Book") [33, 33] kn_X0_kinRing wK_6
theorem kn_X0_kinUntilRing : zkin zK_6 qX0_kinUntilRing [46, 33] = true := by decide +kernel
theorem ok_X0_kinUntilRing : zokM zTab kX0_kinUntilRing := ⟨zwdf_ok rfl _ 0 (by decide +kernel) (by decide +kernel), zrow_all (by decide +kernel) (zkin_lk (own := "ReadAloud$Book") [46, 33] kn_X0_kinUntilRing lK_6 rfl), by decide +kernel⟩
theorem gw_X0_kinUntilRing : (kX0_kinUntilRing.2.2.2.2.2.flatMap (zrq zTab kX0_kinUntilRing.1.cls)).all goodWord = true := zkin_gw (own := "ReadAloud$Book") [46, 33] kn_X0_kinUntilRing gK_6
theorem wd_X0_kinUntilRing : ∀ w ∈ kX0_kinUntilRing.2.2.2.2.2.flatMap (zrq zTab kX0_kinUntilRing.1.cls), w ∈ lw_tbl := zkin_wd (own := "ReadAloud$Book") [46, 33] kn_X0_kinUntilRing wK_6
theorem kn_X0_isInKinRing : zkin zK_6 qX0_isInKinRing [33] = true := by decide +kernel
theorem ok_X0_isInKinRing : zokM zTab kX0_isInKinRing := ⟨zwdf_ok rfl _ 0 (by decide +kernel) (by decide +kernel), zrow_all (by decide +kernel) (zkin_lk (own := "ReadAloud$Book") [33] kn_X0_isInKinRing lK_6 rfl), by decide +kernel⟩
theorem gw_X0_isInKinRing : (kX0_isInKinRing.2.2.2.2.2.flatMap (zrq zTab kX0_isInKinRing.1.cls)).all goodWord = true := zkin_gw (own := "ReadAloud$Book") [33] kn_X0_isInKinRing gK_6
theorem wd_X0_isInKinRing : ∀ w ∈ kX0_isInKinRing.2.2.2.2.2.flatMap (zrq zTab kX0_isInKinRing.1.cls), w ∈ lw_tbl := zkin_wd (own := "ReadAloud$Book") [33] kn_X0_isInKinRing wK_6
theorem kn_X10_init : zkin zK_7 qX10_init [0, 1, 2, 3, 2, 4, 2, 5] = true := by decide +kernel
theorem ok_X10_init : zokM zTab kX10_init := ⟨zwdf_ok rfl _ 0 (by decide +kernel) (by decide +kernel), zrow_all (by decide +kernel) (zkin_lk (own := "ReadAloud$Year") [0, 1, 2, 3, 2, 4, 2, 5] kn_X10_init lK_7 rfl), by decide +kernel⟩
theorem gw_X10_init : (kX10_init.2.2.2.2.2.flatMap (zrq zTab kX10_init.1.cls)).all goodWord = true := zkin_gw (own := "ReadAloud$Year") [0, 1, 2, 3, 2, 4, 2, 5] kn_X10_init gK_7
theorem wd_X10_init : ∀ w ∈ kX10_init.2.2.2.2.2.flatMap (zrq zTab kX10_init.1.cls), w ∈ lw_tbl := zkin_wd (own := "ReadAloud$Year") [0, 1, 2, 3, 2, 4, 2, 5] kn_X10_init wK_7
theorem kn_X10_lineOf : zkin zK_7 qX10_lineOf [6, 7, 8, 7, 9, 7, 10, 7, 11, 7, 12, 7] = true := by decide +kernel
theorem ok_X10_lineOf : zokM zTab kX10_lineOf := ⟨zwdf_ok rfl _ 0 (by decide +kernel) (by decide +kernel), zrow_all (by decide +kernel) (zkin_lk (own := "ReadAloud$Year") [6, 7, 8, 7, 9, 7, 10, 7, 11, 7, 12, 7] kn_X10_lineOf lK_7 rfl), by decide +kernel⟩
theorem gw_X10_lineOf : (kX10_lineOf.2.2.2.2.2.flatMap (zrq zTab kX10_lineOf.1.cls)).all goodWord = true := zkin_gw (own := "ReadAloud$Year") [6, 7, 8, 7, 9, 7, 10, 7, 11, 7, 12, 7] kn_X10_lineOf gK_7
theorem wd_X10_lineOf : ∀ w ∈ kX10_lineOf.2.2.2.2.2.flatMap (zrq zTab kX10_lineOf.1.cls), w ∈ lw_tbl := zkin_wd (own := "ReadAloud$Year") [6, 7, 8, 7, 9, 7, 10, 7, 11, 7, 12, 7] kn_X10_lineOf wK_7
theorem kn_X10_fewestNumbers : zkin zK_7 qX10_fewestNumbers [13] = true := by decide +kernel
theorem ok_X10_fewestNumbers : zokM zTab kX10_fewestNumbers := ⟨zwdf_ok rfl _ 0 (by decide +kernel) (by decide +kernel), zrow_all (by decide +kernel) (zkin_lk (own := "ReadAloud$Year") [13] kn_X10_fewestNumbers lK_7 rfl), by decide +kernel⟩
theorem gw_X10_fewestNumbers : (kX10_fewestNumbers.2.2.2.2.2.flatMap (zrq zTab kX10_fewestNumbers.1.cls)).all goodWord = true := zkin_gw (own := "ReadAloud$Year") [13] kn_X10_fewestNumbers gK_7
theorem wd_X10_fewestNumbers : ∀ w ∈ kX10_fewestNumbers.2.2.2.2.2.flatMap (zrq zTab kX10_fewestNumbers.1.cls), w ∈ lw_tbl := zkin_wd (own := "ReadAloud$Year") [13] kn_X10_fewestNumbers wK_7
theorem kn_X10_mostNumbers : zkin zK_7 qX10_mostNumbers [] = true := by decide +kernel
theorem ok_X10_mostNumbers : zokM zTab kX10_mostNumbers := ⟨zwdf_ok rfl _ 0 (by decide +kernel) (by decide +kernel), zrow_all (by decide +kernel) (zkin_lk (own := "ReadAloud$Year") [] kn_X10_mostNumbers lK_7 rfl), by decide +kernel⟩
theorem gw_X10_mostNumbers : (kX10_mostNumbers.2.2.2.2.2.flatMap (zrq zTab kX10_mostNumbers.1.cls)).all goodWord = true := zkin_gw (own := "ReadAloud$Year") [] kn_X10_mostNumbers gK_7
theorem wd_X10_mostNumbers : ∀ w ∈ kX10_mostNumbers.2.2.2.2.2.flatMap (zrq zTab kX10_mostNumbers.1.cls), w ∈ lw_tbl := zkin_wd (own := "ReadAloud$Year") [] kn_X10_mostNumbers wK_7
theorem kn_X10_beginLine : zkin zK_7 qX10_beginLine [14, 15, 16, 14, 17, 14, 18, 14, 14, 1] = true := by decide +kernel
theorem ok_X10_beginLine : zokM zTab kX10_beginLine := ⟨zwdf_ok rfl _ 0 (by decide +kernel) (by decide +kernel), zrow_all (by decide +kernel) (zkin_lk (own := "ReadAloud$Year") [14, 15, 16, 14, 17, 14, 18, 14, 14, 1] kn_X10_beginLine lK_7 rfl), by decide +kernel⟩
theorem gw_X10_beginLine : (kX10_beginLine.2.2.2.2.2.flatMap (zrq zTab kX10_beginLine.1.cls)).all goodWord = true := zkin_gw (own := "ReadAloud$Year") [14, 15, 16, 14, 17, 14, 18, 14, 14, 1] kn_X10_beginLine gK_7
theorem wd_X10_beginLine : ∀ w ∈ kX10_beginLine.2.2.2.2.2.flatMap (zrq zTab kX10_beginLine.1.cls), w ∈ lw_tbl := zkin_wd (own := "ReadAloud$Year") [14, 15, 16, 14, 17, 14, 18, 14, 14, 1] kn_X10_beginLine wK_7
theorem kn_X10_takeNumber : zkin zK_7 qX10_takeNumber [14, 19, 17, 20, 17, 20, 15, 18, 20] = true := by decide +kernel
theorem ok_X10_takeNumber : zokM zTab kX10_takeNumber := ⟨zwdf_ok rfl _ 0 (by decide +kernel) (by decide +kernel), zrow_all (by decide +kernel) (zkin_lk (own := "ReadAloud$Year") [14, 19, 17, 20, 17, 20, 15, 18, 20] kn_X10_takeNumber lK_7 rfl), by decide +kernel⟩
theorem gw_X10_takeNumber : (kX10_takeNumber.2.2.2.2.2.flatMap (zrq zTab kX10_takeNumber.1.cls)).all goodWord = true := zkin_gw (own := "ReadAloud$Year") [14, 19, 17, 20, 17, 20, 15, 18, 20] kn_X10_takeNumber gK_7
theorem wd_X10_takeNumber : ∀ w ∈ kX10_takeNumber.2.2.2.2.2.flatMap (zrq zTab kX10_takeNumber.1.cls), w ∈ lw_tbl := zkin_wd (own := "ReadAloud$Year") [14, 19, 17, 20, 17, 20, 15, 18, 20] kn_X10_takeNumber wK_7
theorem kn_X10_tells : zkin zK_7 qX10_tells [14, 14, 16, 17, 18] = true := by decide +kernel
theorem ok_X10_tells : zokM zTab kX10_tells := ⟨zwdf_ok rfl _ 0 (by decide +kernel) (by decide +kernel), zrow_all (by decide +kernel) (zkin_lk (own := "ReadAloud$Year") [14, 14, 16, 17, 18] kn_X10_tells lK_7 rfl), by decide +kernel⟩
theorem gw_X10_tells : (kX10_tells.2.2.2.2.2.flatMap (zrq zTab kX10_tells.1.cls)).all goodWord = true := zkin_gw (own := "ReadAloud$Year") [14, 14, 16, 17, 18] kn_X10_tells gK_7
theorem wd_X10_tells : ∀ w ∈ kX10_tells.2.2.2.2.2.flatMap (zrq zTab kX10_tells.1.cls), w ∈ lw_tbl := zkin_wd (own := "ReadAloud$Year") [14, 14, 16, 17, 18] kn_X10_tells wK_7
theorem kn_X6_init : zkin zK_8 qX6_init [0, 1, 2, 3, 2, 4] = true := by decide +kernel
theorem ok_X6_init : zokM zTab kX6_init := ⟨zwdf_ok rfl _ 0 (by decide +kernel) (by decide +kernel), zrow_all (by decide +kernel) (zkin_lk (own := "ReadAloud$Sight") [0, 1, 2, 3, 2, 4] kn_X6_init lK_8 rfl), by decide +kernel⟩
theorem gw_X6_init : (kX6_init.2.2.2.2.2.flatMap (zrq zTab kX6_init.1.cls)).all goodWord = true := zkin_gw (own := "ReadAloud$Sight") [0, 1, 2, 3, 2, 4] kn_X6_init gK_8
theorem wd_X6_init : ∀ w ∈ kX6_init.2.2.2.2.2.flatMap (zrq zTab kX6_init.1.cls), w ∈ lw_tbl := zkin_wd (own := "ReadAloud$Sight") [0, 1, 2, 3, 2, 4] kn_X6_init wK_8
theorem kn_X6_lineOf : zkin zK_8 qX6_lineOf [5, 6] = true := by decide +kernel
theorem ok_X6_lineOf : zokM zTab kX6_lineOf := ⟨zwdf_ok rfl _ 0 (by decide +kernel) (by decide +kernel), zrow_all (by decide +kernel) (zkin_lk (own := "ReadAloud$Sight") [5, 6] kn_X6_lineOf lK_8 rfl), by decide +kernel⟩
theorem gw_X6_lineOf : (kX6_lineOf.2.2.2.2.2.flatMap (zrq zTab kX6_lineOf.1.cls)).all goodWord = true := zkin_gw (own := "ReadAloud$Sight") [5, 6] kn_X6_lineOf gK_8
theorem wd_X6_lineOf : ∀ w ∈ kX6_lineOf.2.2.2.2.2.flatMap (zrq zTab kX6_lineOf.1.cls), w ∈ lw_tbl := zkin_wd (own := "ReadAloud$Sight") [5, 6] kn_X6_lineOf wK_8
theorem kn_X6_fewestNumbers : zkin zK_8 qX6_fewestNumbers [] = true := by decide +kernel
theorem ok_X6_fewestNumbers : zokM zTab kX6_fewestNumbers := ⟨zwdf_ok rfl _ 0 (by decide +kernel) (by decide +kernel), zrow_all (by decide +kernel) (zkin_lk (own := "ReadAloud$Sight") [] kn_X6_fewestNumbers lK_8 rfl), by decide +kernel⟩
theorem gw_X6_fewestNumbers : (kX6_fewestNumbers.2.2.2.2.2.flatMap (zrq zTab kX6_fewestNumbers.1.cls)).all goodWord = true := zkin_gw (own := "ReadAloud$Sight") [] kn_X6_fewestNumbers gK_8
theorem wd_X6_fewestNumbers : ∀ w ∈ kX6_fewestNumbers.2.2.2.2.2.flatMap (zrq zTab kX6_fewestNumbers.1.cls), w ∈ lw_tbl := zkin_wd (own := "ReadAloud$Sight") [] kn_X6_fewestNumbers wK_8
theorem kn_X6_mostNumbers : zkin zK_8 qX6_mostNumbers [] = true := by decide +kernel
theorem ok_X6_mostNumbers : zokM zTab kX6_mostNumbers := ⟨zwdf_ok rfl _ 0 (by decide +kernel) (by decide +kernel), zrow_all (by decide +kernel) (zkin_lk (own := "ReadAloud$Sight") [] kn_X6_mostNumbers lK_8 rfl), by decide +kernel⟩
theorem gw_X6_mostNumbers : (kX6_mostNumbers.2.2.2.2.2.flatMap (zrq zTab kX6_mostNumbers.1.cls)).all goodWord = true := zkin_gw (own := "ReadAloud$Sight") [] kn_X6_mostNumbers gK_8
theorem wd_X6_mostNumbers : ∀ w ∈ kX6_mostNumbers.2.2.2.2.2.flatMap (zrq zTab kX6_mostNumbers.1.cls), w ∈ lw_tbl := zkin_wd (own := "ReadAloud$Sight") [] kn_X6_mostNumbers wK_8
theorem kn_X6_beginLine : zkin zK_8 qX6_beginLine [7, 8, 9, 7, 7, 1] = true := by decide +kernel
theorem ok_X6_beginLine : zokM zTab kX6_beginLine := ⟨zwdf_ok rfl _ 0 (by decide +kernel) (by decide +kernel), zrow_all (by decide +kernel) (zkin_lk (own := "ReadAloud$Sight") [7, 8, 9, 7, 7, 1] kn_X6_beginLine lK_8 rfl), by decide +kernel⟩
theorem gw_X6_beginLine : (kX6_beginLine.2.2.2.2.2.flatMap (zrq zTab kX6_beginLine.1.cls)).all goodWord = true := zkin_gw (own := "ReadAloud$Sight") [7, 8, 9, 7, 7, 1] kn_X6_beginLine gK_8
theorem wd_X6_beginLine : ∀ w ∈ kX6_beginLine.2.2.2.2.2.flatMap (zrq zTab kX6_beginLine.1.cls), w ∈ lw_tbl := zkin_wd (own := "ReadAloud$Sight") [7, 8, 9, 7, 7, 1] kn_X6_beginLine wK_8
theorem kn_X6_takeNumber : zkin zK_8 qX6_takeNumber [10, 7, 8, 11, 12, 9, 9, 12, 13] = true := by decide +kernel
theorem ok_X6_takeNumber : zokM zTab kX6_takeNumber := ⟨zwdf_ok rfl _ 0 (by decide +kernel) (by decide +kernel), zrow_all (by decide +kernel) (zkin_lk (own := "ReadAloud$Sight") [10, 7, 8, 11, 12, 9, 9, 12, 13] kn_X6_takeNumber lK_8 rfl), by decide +kernel⟩
theorem gw_X6_takeNumber : (kX6_takeNumber.2.2.2.2.2.flatMap (zrq zTab kX6_takeNumber.1.cls)).all goodWord = true := zkin_gw (own := "ReadAloud$Sight") [10, 7, 8, 11, 12, 9, 9, 12, 13] kn_X6_takeNumber gK_8
theorem wd_X6_takeNumber : ∀ w ∈ kX6_takeNumber.2.2.2.2.2.flatMap (zrq zTab kX6_takeNumber.1.cls), w ∈ lw_tbl := zkin_wd (own := "ReadAloud$Sight") [10, 7, 8, 11, 12, 9, 9, 12, 13] kn_X6_takeNumber wK_8
theorem kn_X6_tells : zkin zK_8 qX6_tells [7, 7, 11, 9] = true := by decide +kernel
theorem ok_X6_tells : zokM zTab kX6_tells := ⟨zwdf_ok rfl _ 0 (by decide +kernel) (by decide +kernel), zrow_all (by decide +kernel) (zkin_lk (own := "ReadAloud$Sight") [7, 7, 11, 9] kn_X6_tells lK_8 rfl), by decide +kernel⟩
theorem gw_X6_tells : (kX6_tells.2.2.2.2.2.flatMap (zrq zTab kX6_tells.1.cls)).all goodWord = true := zkin_gw (own := "ReadAloud$Sight") [7, 7, 11, 9] kn_X6_tells gK_8
theorem wd_X6_tells : ∀ w ∈ kX6_tells.2.2.2.2.2.flatMap (zrq zTab kX6_tells.1.cls), w ∈ lw_tbl := zkin_wd (own := "ReadAloud$Sight") [7, 7, 11, 9] kn_X6_tells wK_8
theorem kn_X4_init : zkin zK_9 qX4_init [0, 1, 2, 3, 4, 5, 4, 6] = true := by decide +kernel
theorem ok_X4_init : zokM zTab kX4_init := ⟨zwdf_ok rfl _ 0 (by decide +kernel) (by decide +kernel), zrow_all (by decide +kernel) (zkin_lk (own := "ReadAloud$Readings") [0, 1, 2, 3, 4, 5, 4, 6] kn_X4_init lK_9 rfl), by decide +kernel⟩
theorem gw_X4_init : (kX4_init.2.2.2.2.2.flatMap (zrq zTab kX4_init.1.cls)).all goodWord = true := zkin_gw (own := "ReadAloud$Readings") [0, 1, 2, 3, 4, 5, 4, 6] kn_X4_init gK_9
theorem wd_X4_init : ∀ w ∈ kX4_init.2.2.2.2.2.flatMap (zrq zTab kX4_init.1.cls), w ∈ lw_tbl := zkin_wd (own := "ReadAloud$Readings") [0, 1, 2, 3, 4, 5, 4, 6] kn_X4_init wK_9
theorem kn_X4_takeUp : zkin zK_9 qX4_takeUp [7, 1, 8, 9] = true := by decide +kernel
theorem ok_X4_takeUp : zokM zTab kX4_takeUp := ⟨zwdf_ok rfl _ 0 (by decide +kernel) (by decide +kernel), zrow_all (by decide +kernel) (zkin_lk (own := "ReadAloud$Readings") [7, 1, 8, 9] kn_X4_takeUp lK_9 rfl), by decide +kernel⟩
theorem gw_X4_takeUp : (kX4_takeUp.2.2.2.2.2.flatMap (zrq zTab kX4_takeUp.1.cls)).all goodWord = true := zkin_gw (own := "ReadAloud$Readings") [7, 1, 8, 9] kn_X4_takeUp gK_9
theorem wd_X4_takeUp : ∀ w ∈ kX4_takeUp.2.2.2.2.2.flatMap (zrq zTab kX4_takeUp.1.cls), w ∈ lw_tbl := zkin_wd (own := "ReadAloud$Readings") [7, 1, 8, 9] kn_X4_takeUp wK_9
