theorem ok_X11_circles : zokM zTab kX11_circles := ⟨by decide +kernel, by decide +kernel, by decide +kernel⟩
theorem gw_X11_circles : (kX11_circles.2.2.2.2.2.flatMap (zrq zTab kX11_circles.1.cls)).all goodWord = true := by decide +kernel
theorem wd_X11_circles : ∀ w ∈ kX11_circles.2.2.2.2.2.flatMap (zrq zTab kX11_circles.1.cls), w ∈ lw_tbl := zplaces [792, 791, 31, 172, 789, 660, 659, 172, 658, 919, 918, 45, 172, 916, 1294, 1293, 89, 189] (by decide +kernel)
theorem ok_X11_count : zokM zTab kX11_count := ⟨by decide +kernel, by decide +kernel, by decide +kernel⟩
theorem gw_X11_count : (kX11_count.2.2.2.2.2.flatMap (zrq zTab kX11_count.1.cls)).all goodWord = true := by decide +kernel
theorem wd_X11_count : ∀ w ∈ kX11_count.2.2.2.2.2.flatMap (zrq zTab kX11_count.1.cls), w ∈ lw_tbl := zplaces [317] (by decide +kernel)
theorem ok_X11_image : zokM zTab kX11_image := ⟨by decide +kernel, by decide +kernel, by decide +kernel⟩
theorem gw_X11_image : (kX11_image.2.2.2.2.2.flatMap (zrq zTab kX11_image.1.cls)).all goodWord = true := by decide +kernel
theorem wd_X11_image : ∀ w ∈ kX11_image.2.2.2.2.2.flatMap (zrq zTab kX11_image.1.cls), w ∈ lw_tbl := zplaces [318, 318, 201, 202, 173, 205, 204, 173, 318, 317, 1328, 1327, 95, 173] (by decide +kernel)
theorem ok_X11_again : zokM zTab kX11_again := ⟨by decide +kernel, by decide +kernel, by decide +kernel⟩
theorem gw_X11_again : (kX11_again.2.2.2.2.2.flatMap (zrq zTab kX11_again.1.cls)).all goodWord = true := by decide +kernel
theorem wd_X11_again : ∀ w ∈ kX11_again.2.2.2.2.2.flatMap (zrq zTab kX11_again.1.cls), w ∈ lw_tbl := zplaces [318, 317, 318, 1328, 1327, 95, 173] (by decide +kernel)
theorem ok_X11_tellInto : zokM zTab kX11_tellInto := ⟨by decide +kernel, by decide +kernel, by decide +kernel⟩
theorem gw_X11_tellInto : (kX11_tellInto.2.2.2.2.2.flatMap (zrq zTab kX11_tellInto.1.cls)).all goodWord = true := by decide +kernel
theorem wd_X11_tellInto : ∀ w ∈ kX11_tellInto.2.2.2.2.2.flatMap (zrq zTab kX11_tellInto.1.cls), w ∈ lw_tbl := zplaces [362, 363, 178, 366, 365, 178, 319, 317, 404, 403, 2, 174, 317, 584, 585, 183, 588, 587, 183, 319, 317, 404, 403, 2, 174, 317, 608, 609, 184, 612, 611, 184, 319, 317, 404, 403, 2, 174, 317] (by decide +kernel)
theorem ok_X11_bookAt : zokM zTab kX11_bookAt := ⟨by decide +kernel, by decide +kernel, by decide +kernel⟩
theorem gw_X11_bookAt : (kX11_bookAt.2.2.2.2.2.flatMap (zrq zTab kX11_bookAt.1.cls)).all goodWord = true := by decide +kernel
theorem wd_X11_bookAt : ∀ w ∈ kX11_bookAt.2.2.2.2.2.flatMap (zrq zTab kX11_bookAt.1.cls), w ∈ lw_tbl := zplaces [317, 317] (by decide +kernel)
theorem ok_X11_yearAt : zokM zTab kX11_yearAt := ⟨by decide +kernel, by decide +kernel, by decide +kernel⟩
theorem gw_X11_yearAt : (kX11_yearAt.2.2.2.2.2.flatMap (zrq zTab kX11_yearAt.1.cls)).all goodWord = true := by decide +kernel
theorem wd_X11_yearAt : ∀ w ∈ kX11_yearAt.2.2.2.2.2.flatMap (zrq zTab kX11_yearAt.1.cls), w ∈ lw_tbl := zplaces [317, 317] (by decide +kernel)
theorem ok_X11_sightAt : zokM zTab kX11_sightAt := ⟨by decide +kernel, by decide +kernel, by decide +kernel⟩
theorem gw_X11_sightAt : (kX11_sightAt.2.2.2.2.2.flatMap (zrq zTab kX11_sightAt.1.cls)).all goodWord = true := by decide +kernel
theorem wd_X11_sightAt : ∀ w ∈ kX11_sightAt.2.2.2.2.2.flatMap (zrq zTab kX11_sightAt.1.cls), w ∈ lw_tbl := zplaces [317, 317] (by decide +kernel)
theorem ok_X11_readingsAt : zokM zTab kX11_readingsAt := ⟨by decide +kernel, by decide +kernel, by decide +kernel⟩
theorem gw_X11_readingsAt : (kX11_readingsAt.2.2.2.2.2.flatMap (zrq zTab kX11_readingsAt.1.cls)).all goodWord = true := by decide +kernel
theorem wd_X11_readingsAt : ∀ w ∈ kX11_readingsAt.2.2.2.2.2.flatMap (zrq zTab kX11_readingsAt.1.cls), w ∈ lw_tbl := zplaces [641, 640, 13, 172, 638, 321, 321, 313, 793, 187, 796, 795, 187, 321, 818, 817, 32, 187, 321] (by decide +kernel)
theorem ok_X11_walkAt : zokM zTab kX11_walkAt := ⟨by decide +kernel, by decide +kernel, by decide +kernel⟩
theorem gw_X11_walkAt : (kX11_walkAt.2.2.2.2.2.flatMap (zrq zTab kX11_walkAt.1.cls)).all goodWord = true := by decide +kernel
theorem wd_X11_walkAt : ∀ w ∈ kX11_walkAt.2.2.2.2.2.flatMap (zrq zTab kX11_walkAt.1.cls), w ∈ lw_tbl := zplaces [322, 322, 315, 824, 188, 827, 826, 188, 322] (by decide +kernel)
theorem ok_X11_levelsThere : zokM zTab kX11_levelsThere := ⟨by decide +kernel, by decide +kernel, by decide +kernel⟩
theorem gw_X11_levelsThere : (kX11_levelsThere.2.2.2.2.2.flatMap (zrq zTab kX11_levelsThere.1.cls)).all goodWord = true := by decide +kernel
theorem wd_X11_levelsThere : ∀ w ∈ kX11_levelsThere.2.2.2.2.2.flatMap (zrq zTab kX11_levelsThere.1.cls), w ∈ lw_tbl := zplaces [323, 1006, 1007, 190, 1010, 1009, 190, 323, 323] (by decide +kernel)
theorem ok_X11_ringsThere : zokM zTab kX11_ringsThere := ⟨by decide +kernel, by decide +kernel, by decide +kernel⟩
theorem gw_X11_ringsThere : (kX11_ringsThere.2.2.2.2.2.flatMap (zrq zTab kX11_ringsThere.1.cls)).all goodWord = true := by decide +kernel
theorem wd_X11_ringsThere : ∀ w ∈ kX11_ringsThere.2.2.2.2.2.flatMap (zrq zTab kX11_ringsThere.1.cls), w ∈ lw_tbl := zplaces [324, 920, 921, 189, 924, 923, 189, 324, 324] (by decide +kernel)
theorem ok_X11_isText : zokM zTab kX11_isText := ⟨by decide +kernel, by decide +kernel, by decide +kernel⟩
theorem gw_X11_isText : (kX11_isText.2.2.2.2.2.flatMap (zrq zTab kX11_isText.1.cls)).all goodWord = true := by decide +kernel
theorem wd_X11_isText : ∀ w ∈ kX11_isText.2.2.2.2.2.flatMap (zrq zTab kX11_isText.1.cls), w ∈ lw_tbl := zplaces [] (by decide +kernel)
theorem ok_X11_isWord : zokM zTab kX11_isWord := ⟨by decide +kernel, by decide +kernel, by decide +kernel⟩
theorem gw_X11_isWord : (kX11_isWord.2.2.2.2.2.flatMap (zrq zTab kX11_isWord.1.cls)).all goodWord = true := by decide +kernel
theorem wd_X11_isWord : ∀ w ∈ kX11_isWord.2.2.2.2.2.flatMap (zrq zTab kX11_isWord.1.cls), w ∈ lw_tbl := zplaces [] (by decide +kernel)
theorem ok_X11_isSpan : zokM zTab kX11_isSpan := ⟨by decide +kernel, by decide +kernel, by decide +kernel⟩
theorem gw_X11_isSpan : (kX11_isSpan.2.2.2.2.2.flatMap (zrq zTab kX11_isSpan.1.cls)).all goodWord = true := by decide +kernel
theorem wd_X11_isSpan : ∀ w ∈ kX11_isSpan.2.2.2.2.2.flatMap (zrq zTab kX11_isSpan.1.cls), w ∈ lw_tbl := zplaces [] (by decide +kernel)
theorem ok_X11_isIn : zokM zTab kX11_isIn := ⟨by decide +kernel, by decide +kernel, by decide +kernel⟩
theorem gw_X11_isIn : (kX11_isIn.2.2.2.2.2.flatMap (zrq zTab kX11_isIn.1.cls)).all goodWord = true := by decide +kernel
theorem wd_X11_isIn : ∀ w ∈ kX11_isIn.2.2.2.2.2.flatMap (zrq zTab kX11_isIn.1.cls), w ∈ lw_tbl := zplaces [] (by decide +kernel)
theorem ok_X11_common : zokM zTab kX11_common := ⟨by decide +kernel, by decide +kernel, by decide +kernel⟩
theorem gw_X11_common : (kX11_common.2.2.2.2.2.flatMap (zrq zTab kX11_common.1.cls)).all goodWord = true := by decide +kernel
theorem wd_X11_common : ∀ w ∈ kX11_common.2.2.2.2.2.flatMap (zrq zTab kX11_common.1.cls), w ∈ lw_tbl := zplaces [] (by decide +kernel)
theorem ok_X11_longer : zokM zTab kX11_longer := ⟨by decide +kernel, by decide +kernel, by decide +kernel⟩
theorem gw_X11_longer : (kX11_longer.2.2.2.2.2.flatMap (zrq zTab kX11_longer.1.cls)).all goodWord = true := by decide +kernel
theorem wd_X11_longer : ∀ w ∈ kX11_longer.2.2.2.2.2.flatMap (zrq zTab kX11_longer.1.cls), w ∈ lw_tbl := zplaces [] (by decide +kernel)
theorem ok_X11_lengthOf : zokM zTab kX11_lengthOf := ⟨by decide +kernel, by decide +kernel, by decide +kernel⟩
theorem gw_X11_lengthOf : (kX11_lengthOf.2.2.2.2.2.flatMap (zrq zTab kX11_lengthOf.1.cls)).all goodWord = true := by decide +kernel
theorem wd_X11_lengthOf : ∀ w ∈ kX11_lengthOf.2.2.2.2.2.flatMap (zrq zTab kX11_lengthOf.1.cls), w ∈ lw_tbl := zplaces [] (by decide +kernel)
theorem ok_X11_bitsOf : zokM zTab kX11_bitsOf := ⟨by decide +kernel, by decide +kernel, by decide +kernel⟩
theorem gw_X11_bitsOf : (kX11_bitsOf.2.2.2.2.2.flatMap (zrq zTab kX11_bitsOf.1.cls)).all goodWord = true := by decide +kernel
theorem wd_X11_bitsOf : ∀ w ∈ kX11_bitsOf.2.2.2.2.2.flatMap (zrq zTab kX11_bitsOf.1.cls), w ∈ lw_tbl := zplaces [663, 662, 172, 661] (by decide +kernel)
theorem ok_X11_lengthOfBits : zokM zTab kX11_lengthOfBits := ⟨by decide +kernel, by decide +kernel, by decide +kernel⟩
theorem gw_X11_lengthOfBits : (kX11_lengthOfBits.2.2.2.2.2.flatMap (zrq zTab kX11_lengthOfBits.1.cls)).all goodWord = true := by decide +kernel
theorem wd_X11_lengthOfBits : ∀ w ∈ kX11_lengthOfBits.2.2.2.2.2.flatMap (zrq zTab kX11_lengthOfBits.1.cls), w ∈ lw_tbl := zplaces [] (by decide +kernel)
theorem ok_X11_numberOfBits : zokM zTab kX11_numberOfBits := ⟨by decide +kernel, by decide +kernel, by decide +kernel⟩
theorem gw_X11_numberOfBits : (kX11_numberOfBits.2.2.2.2.2.flatMap (zrq zTab kX11_numberOfBits.1.cls)).all goodWord = true := by decide +kernel
theorem wd_X11_numberOfBits : ∀ w ∈ kX11_numberOfBits.2.2.2.2.2.flatMap (zrq zTab kX11_numberOfBits.1.cls), w ∈ lw_tbl := zplaces [699, 698, 172, 719] (by decide +kernel)
theorem ok_X11_wordAt : zokM zTab kX11_wordAt := ⟨by decide +kernel, by decide +kernel, by decide +kernel⟩
theorem gw_X11_wordAt : (kX11_wordAt.2.2.2.2.2.flatMap (zrq zTab kX11_wordAt.1.cls)).all goodWord = true := by decide +kernel
theorem wd_X11_wordAt : ∀ w ∈ kX11_wordAt.2.2.2.2.2.flatMap (zrq zTab kX11_wordAt.1.cls), w ∈ lw_tbl := zplaces [669, 668, 172, 667, 663, 662, 172, 661, 672, 671, 172, 670] (by decide +kernel)
theorem ok_X11_wordOfBits : zokM zTab kX11_wordOfBits := ⟨by decide +kernel, by decide +kernel, by decide +kernel⟩
theorem gw_X11_wordOfBits : (kX11_wordOfBits.2.2.2.2.2.flatMap (zrq zTab kX11_wordOfBits.1.cls)).all goodWord = true := by decide +kernel
theorem wd_X11_wordOfBits : ∀ w ∈ kX11_wordOfBits.2.2.2.2.2.flatMap (zrq zTab kX11_wordOfBits.1.cls), w ∈ lw_tbl := zplaces [] (by decide +kernel)
theorem ok_X11_timesOf : zokM zTab kX11_timesOf := ⟨by decide +kernel, by decide +kernel, by decide +kernel⟩
theorem gw_X11_timesOf : (kX11_timesOf.2.2.2.2.2.flatMap (zrq zTab kX11_timesOf.1.cls)).all goodWord = true := by decide +kernel
theorem wd_X11_timesOf : ∀ w ∈ kX11_timesOf.2.2.2.2.2.flatMap (zrq zTab kX11_timesOf.1.cls), w ∈ lw_tbl := zplaces [669, 668, 172, 667, 663, 662, 172, 661, 672, 671, 172, 670] (by decide +kernel)
theorem ok_X11_driftOf : zokM zTab kX11_driftOf := ⟨by decide +kernel, by decide +kernel, by decide +kernel⟩
theorem gw_X11_driftOf : (kX11_driftOf.2.2.2.2.2.flatMap (zrq zTab kX11_driftOf.1.cls)).all goodWord = true := by decide +kernel
theorem wd_X11_driftOf : ∀ w ∈ kX11_driftOf.2.2.2.2.2.flatMap (zrq zTab kX11_driftOf.1.cls), w ∈ lw_tbl := zplaces [669, 668, 172, 667, 669, 668, 172, 667, 663, 662, 172, 661, 663, 662, 172, 661, 672, 671, 172, 670, 672, 671, 172, 670, 680, 681, 185, 682, 680, 681, 185, 682] (by decide +kernel)
