theorem ok_X11_mostShared : zokM zTab kX11_mostShared := ⟨by decide +kernel, by decide +kernel, by decide +kernel⟩
theorem gw_X11_mostShared : (kX11_mostShared.2.2.2.2.2.flatMap (zrq zTab kX11_mostShared.1.cls)).all goodWord = true := by decide +kernel
theorem wd_X11_mostShared : ∀ w ∈ kX11_mostShared.2.2.2.2.2.flatMap (zrq zTab kX11_mostShared.1.cls), w ∈ lw_tbl := zplaces [663, 662, 172, 661, 758, 757, 172, 1237, 666, 665, 172, 664, 557, 556, 172, 1238, 663, 662, 172, 661, 663, 662, 172, 661, 1241, 1240, 172, 1239] (by decide +kernel)
theorem ok_X11_isLeftOf : zokM zTab kX11_isLeftOf := ⟨by decide +kernel, by decide +kernel, by decide +kernel⟩
theorem gw_X11_isLeftOf : (kX11_isLeftOf.2.2.2.2.2.flatMap (zrq zTab kX11_isLeftOf.1.cls)).all goodWord = true := by decide +kernel
theorem wd_X11_isLeftOf : ∀ w ∈ kX11_isLeftOf.2.2.2.2.2.flatMap (zrq zTab kX11_isLeftOf.1.cls), w ∈ lw_tbl := zplaces [663, 662, 172, 661, 663, 662, 172, 661, 666, 665, 172, 664, 666, 665, 172, 664] (by decide +kernel)
theorem ok_X8_init : zokM zTab kX8_init := ⟨by decide +kernel, by decide +kernel, by decide +kernel⟩
theorem gw_X8_init : (kX8_init.2.2.2.2.2.flatMap (zrq zTab kX8_init.1.cls)).all goodWord = true := by decide +kernel
theorem wd_X8_init : ∀ w ∈ kX8_init.2.2.2.2.2.flatMap (zrq zTab kX8_init.1.cls), w ∈ lw_tbl := zplaces [206, 199, 200, 246, 213, 215, 217, 219, 247, 221, 207, 223, 209, 225, 211, 227] (by decide +kernel)
theorem ok_X8_putBytes : zokM zTab kX8_putBytes := ⟨by decide +kernel, by decide +kernel, by decide +kernel⟩
theorem gw_X8_putBytes : (kX8_putBytes.2.2.2.2.2.flatMap (zrq zTab kX8_putBytes.1.cls)).all goodWord = true := by decide +kernel
theorem wd_X8_putBytes : ∀ w ∈ kX8_putBytes.2.2.2.2.2.flatMap (zrq zTab kX8_putBytes.1.cls), w ∈ lw_tbl := zplaces [215, 213, 215, 215, 215] (by decide +kernel)
theorem ok_X8_becomes : zokM zTab kX8_becomes := ⟨by decide +kernel, by decide +kernel, by decide +kernel⟩
theorem gw_X8_becomes : (kX8_becomes.2.2.2.2.2.flatMap (zrq zTab kX8_becomes.1.cls)).all goodWord = true := by decide +kernel
theorem wd_X8_becomes : ∀ w ∈ kX8_becomes.2.2.2.2.2.flatMap (zrq zTab kX8_becomes.1.cls), w ∈ lw_tbl := zplaces [213, 213, 1329, 1331, 1330, 192, 215, 215, 217, 217, 219, 219, 221, 221, 1329, 1331, 1330, 192, 223, 223, 225, 225, 227, 227] (by decide +kernel)
theorem ok_X7_init : zokM zTab kX7_init := ⟨by decide +kernel, by decide +kernel, by decide +kernel⟩
theorem gw_X7_init : (kX7_init.2.2.2.2.2.flatMap (zrq zTab kX7_init.1.cls)).all goodWord = true := by decide +kernel
theorem wd_X7_init : ∀ w ∈ kX7_init.2.2.2.2.2.flatMap (zrq zTab kX7_init.1.cls), w ∈ lw_tbl := zplaces [254, 199, 200, 255, 256, 257, 258, 259, 260, 264, 266] (by decide +kernel)
theorem ok_X7_tell : zokM zTab kX7_tell := ⟨by decide +kernel, by decide +kernel, by decide +kernel⟩
theorem gw_X7_tell : (kX7_tell.2.2.2.2.2.flatMap (zrq zTab kX7_tell.1.cls)).all goodWord = true := by decide +kernel
theorem wd_X7_tell : ∀ w ∈ kX7_tell.2.2.2.2.2.flatMap (zrq zTab kX7_tell.1.cls), w ∈ lw_tbl := zplaces [255, 256, 257, 264, 266, 408, 407, 3, 174, 405, 258, 424, 423, 7, 174, 421, 264, 259, 266, 264] (by decide +kernel)
theorem ok_X7_tellLine : zokM zTab kX7_tellLine := ⟨by decide +kernel, by decide +kernel, by decide +kernel⟩
theorem gw_X7_tellLine : (kX7_tellLine.2.2.2.2.2.flatMap (zrq zTab kX7_tellLine.1.cls)).all goodWord = true := by decide +kernel
theorem wd_X7_tellLine : ∀ w ∈ kX7_tellLine.2.2.2.2.2.flatMap (zrq zTab kX7_tellLine.1.cls), w ∈ lw_tbl := zplaces [258, 425, 427, 428, 429, 178, 430, 425, 427, 496, 497, 183, 498, 425, 427, 491, 492, 184, 493, 506, 508, 509, 510, 178, 511, 506, 508, 524, 525, 183, 526, 506, 508, 520, 521, 184, 522, 408, 407, 3, 174, 405, 528, 530, 531, 532, 178, 533, 528, 530, 537, 538, 183, 539, 528, 530, 534, 535, 184, 536, 258, 540, 542, 543, 544, 178, 545, 540, 542, 566, 567, 183, 568, 540, 542, 561, 562, 184, 563, 408, 407, 3, 174, 405, 570, 572, 573, 574, 178, 575, 570, 572, 580, 581, 183, 582, 570, 572, 577, 578, 184, 579, 258, 408, 407, 3, 174, 405] (by decide +kernel)
theorem ok_X7_advance : zokM zTab kX7_advance := ⟨by decide +kernel, by decide +kernel, by decide +kernel⟩
theorem gw_X7_advance : (kX7_advance.2.2.2.2.2.flatMap (zrq zTab kX7_advance.1.cls)).all goodWord = true := by decide +kernel
theorem wd_X7_advance : ∀ w ∈ kX7_advance.2.2.2.2.2.flatMap (zrq zTab kX7_advance.1.cls), w ∈ lw_tbl := zplaces [257, 256, 255, 257, 255, 257, 257, 257, 257, 259, 257, 256, 258, 257, 412, 411, 4, 174, 409, 258, 257, 256, 257, 412, 411, 4, 174, 409, 257, 257, 257, 416, 415, 5, 174, 413, 420, 419, 6, 174, 417, 255, 257, 258, 257, 257] (by decide +kernel)
theorem ok_X7_advanceDigits : zokM zTab kX7_advanceDigits := ⟨by decide +kernel, by decide +kernel, by decide +kernel⟩
theorem gw_X7_advanceDigits : (kX7_advanceDigits.2.2.2.2.2.flatMap (zrq zTab kX7_advanceDigits.1.cls)).all goodWord = true := by decide +kernel
theorem wd_X7_advanceDigits : ∀ w ∈ kX7_advanceDigits.2.2.2.2.2.flatMap (zrq zTab kX7_advanceDigits.1.cls), w ∈ lw_tbl := zplaces [260, 257, 256, 257, 416, 415, 5, 174, 413, 257, 259, 260, 255, 257, 260, 257, 257, 257, 259, 258] (by decide +kernel)
theorem ok_X7_isLetter : zokM zTab kX7_isLetter := ⟨by decide +kernel, by decide +kernel, by decide +kernel⟩
theorem gw_X7_isLetter : (kX7_isLetter.2.2.2.2.2.flatMap (zrq zTab kX7_isLetter.1.cls)).all goodWord = true := by decide +kernel
theorem wd_X7_isLetter : ∀ w ∈ kX7_isLetter.2.2.2.2.2.flatMap (zrq zTab kX7_isLetter.1.cls), w ∈ lw_tbl := zplaces [255, 255] (by decide +kernel)
theorem ok_X7_isDigit : zokM zTab kX7_isDigit := ⟨by decide +kernel, by decide +kernel, by decide +kernel⟩
theorem gw_X7_isDigit : (kX7_isDigit.2.2.2.2.2.flatMap (zrq zTab kX7_isDigit.1.cls)).all goodWord = true := by decide +kernel
theorem wd_X7_isDigit : ∀ w ∈ kX7_isDigit.2.2.2.2.2.flatMap (zrq zTab kX7_isDigit.1.cls), w ∈ lw_tbl := zplaces [255, 255] (by decide +kernel)
