theorem ok_X11_mostShared : zokM zTab kX11_mostShared := ⟨zwdf_ok rfl _ 0 (by decide +kernel) (by decide +kernel), by decide +kernel, by decide +kernel⟩
theorem gw_X11_mostShared : (kX11_mostShared.2.2.2.2.2.flatMap (zrq zTab kX11_mostShared.1.cls)).all goodWord = true := by decide +kernel
set_option maxRecDepth 1000000 in
theorem wd_X11_mostShared : ∀ w ∈ kX11_mostShared.2.2.2.2.2.flatMap (zrq zTab kX11_mostShared.1.cls), w ∈ lw_tbl := zplaces [663, 662, 172, 661, 758, 757, 172, 1237, 666, 665, 172, 664, 557, 556, 172, 1238, 663, 662, 172, 661, 663, 662, 172, 661, 1241, 1240, 172, 1239] rfl
theorem ok_X11_isLeftOf : zokM zTab kX11_isLeftOf := ⟨zwdf_ok rfl _ 0 (by decide +kernel) (by decide +kernel), by decide +kernel, by decide +kernel⟩
theorem gw_X11_isLeftOf : (kX11_isLeftOf.2.2.2.2.2.flatMap (zrq zTab kX11_isLeftOf.1.cls)).all goodWord = true := by decide +kernel
set_option maxRecDepth 1000000 in
theorem wd_X11_isLeftOf : ∀ w ∈ kX11_isLeftOf.2.2.2.2.2.flatMap (zrq zTab kX11_isLeftOf.1.cls), w ∈ lw_tbl := zplaces [663, 662, 172, 661, 663, 662, 172, 661, 666, 665, 172, 664, 666, 665, 172, 664] rfl
theorem ok_X8_init : zokM zTab kX8_init := ⟨zwdf_ok rfl _ 0 (by decide +kernel) (by decide +kernel), by decide +kernel, by decide +kernel⟩
theorem gw_X8_init : (kX8_init.2.2.2.2.2.flatMap (zrq zTab kX8_init.1.cls)).all goodWord = true := by decide +kernel
set_option maxRecDepth 1000000 in
theorem wd_X8_init : ∀ w ∈ kX8_init.2.2.2.2.2.flatMap (zrq zTab kX8_init.1.cls), w ∈ lw_tbl := zplaces [206, 199, 200, 246, 213, 215, 217, 219, 247, 221, 207, 223, 209, 225, 211, 227] rfl
theorem ok_X8_putBytes : zokM zTab kX8_putBytes := ⟨zwdf_ok rfl _ 0 (by decide +kernel) (by decide +kernel), by decide +kernel, by decide +kernel⟩
theorem gw_X8_putBytes : (kX8_putBytes.2.2.2.2.2.flatMap (zrq zTab kX8_putBytes.1.cls)).all goodWord = true := by decide +kernel
set_option maxRecDepth 1000000 in
theorem wd_X8_putBytes : ∀ w ∈ kX8_putBytes.2.2.2.2.2.flatMap (zrq zTab kX8_putBytes.1.cls), w ∈ lw_tbl := zplaces [215, 213, 215, 215, 215] rfl
theorem ok_X8_becomes : zokM zTab kX8_becomes := ⟨zwdf_ok rfl _ 0 (by decide +kernel) (by decide +kernel), by decide +kernel, by decide +kernel⟩
theorem gw_X8_becomes : (kX8_becomes.2.2.2.2.2.flatMap (zrq zTab kX8_becomes.1.cls)).all goodWord = true := by decide +kernel
set_option maxRecDepth 1000000 in
theorem wd_X8_becomes : ∀ w ∈ kX8_becomes.2.2.2.2.2.flatMap (zrq zTab kX8_becomes.1.cls), w ∈ lw_tbl := zplaces [213, 213, 1329, 1331, 1330, 192, 215, 215, 217, 217, 219, 219, 221, 221, 1329, 1331, 1330, 192, 223, 223, 225, 225, 227, 227] rfl
theorem ok_X7_init : zokM zTab kX7_init := ⟨zwdf_ok rfl _ 0 (by decide +kernel) (by decide +kernel), by decide +kernel, by decide +kernel⟩
theorem gw_X7_init : (kX7_init.2.2.2.2.2.flatMap (zrq zTab kX7_init.1.cls)).all goodWord = true := by decide +kernel
set_option maxRecDepth 1000000 in
theorem wd_X7_init : ∀ w ∈ kX7_init.2.2.2.2.2.flatMap (zrq zTab kX7_init.1.cls), w ∈ lw_tbl := zplaces [254, 199, 200, 255, 256, 257, 258, 259, 260, 264, 266] rfl
theorem ok_X7_tell : zokM zTab kX7_tell := ⟨zwdf_ok rfl _ 0 (by decide +kernel) (by decide +kernel), by decide +kernel, by decide +kernel⟩
theorem gw_X7_tell : (kX7_tell.2.2.2.2.2.flatMap (zrq zTab kX7_tell.1.cls)).all goodWord = true := by decide +kernel
set_option maxRecDepth 1000000 in
theorem wd_X7_tell : ∀ w ∈ kX7_tell.2.2.2.2.2.flatMap (zrq zTab kX7_tell.1.cls), w ∈ lw_tbl := zplaces [255, 256, 257, 264, 266, 408, 407, 3, 174, 405, 258, 424, 423, 7, 174, 421, 264, 259, 266, 264] rfl
theorem ok_X7_tellLine : zokM zTab kX7_tellLine := ⟨zwdf_ok rfl _ 0 (by decide +kernel) (by decide +kernel), by decide +kernel, by decide +kernel⟩
theorem gw_X7_tellLine : (kX7_tellLine.2.2.2.2.2.flatMap (zrq zTab kX7_tellLine.1.cls)).all goodWord = true := by decide +kernel
set_option maxRecDepth 1000000 in
theorem wd_X7_tellLine : ∀ w ∈ kX7_tellLine.2.2.2.2.2.flatMap (zrq zTab kX7_tellLine.1.cls), w ∈ lw_tbl := zplaces [258, 425, 427, 428, 429, 178, 430, 425, 427, 496, 497, 183, 498, 425, 427, 491, 492, 184, 493, 506, 508, 509, 510, 178, 511, 506, 508, 524, 525, 183, 526, 506, 508, 520, 521, 184, 522, 408, 407, 3, 174, 405, 528, 530, 531, 532, 178, 533, 528, 530, 537, 538, 183, 539, 528, 530, 534, 535, 184, 536, 258, 540, 542, 543, 544, 178, 545, 540, 542, 566, 567, 183, 568, 540, 542, 561, 562, 184, 563, 408, 407, 3, 174, 405, 570, 572, 573, 574, 178, 575, 570, 572, 580, 581, 183, 582, 570, 572, 577, 578, 184, 579, 258, 408, 407, 3, 174, 405] rfl
theorem ok_X7_advance : zokM zTab kX7_advance := ⟨zwdf_ok rfl _ 0 (by decide +kernel) (by decide +kernel), by decide +kernel, by decide +kernel⟩
theorem gw_X7_advance : (kX7_advance.2.2.2.2.2.flatMap (zrq zTab kX7_advance.1.cls)).all goodWord = true := by decide +kernel
set_option maxRecDepth 1000000 in
theorem wd_X7_advance : ∀ w ∈ kX7_advance.2.2.2.2.2.flatMap (zrq zTab kX7_advance.1.cls), w ∈ lw_tbl := zplaces [257, 256, 255, 257, 255, 257, 257, 257, 257, 259, 257, 256, 258, 257, 412, 411, 4, 174, 409, 258, 257, 256, 257, 412, 411, 4, 174, 409, 257, 257, 257, 416, 415, 5, 174, 413, 420, 419, 6, 174, 417, 255, 257, 258, 257, 257] rfl
theorem ok_X7_advanceDigits : zokM zTab kX7_advanceDigits := ⟨zwdf_ok rfl _ 0 (by decide +kernel) (by decide +kernel), by decide +kernel, by decide +kernel⟩
theorem gw_X7_advanceDigits : (kX7_advanceDigits.2.2.2.2.2.flatMap (zrq zTab kX7_advanceDigits.1.cls)).all goodWord = true := by decide +kernel
set_option maxRecDepth 1000000 in
theorem wd_X7_advanceDigits : ∀ w ∈ kX7_advanceDigits.2.2.2.2.2.flatMap (zrq zTab kX7_advanceDigits.1.cls), w ∈ lw_tbl := zplaces [260, 257, 256, 257, 416, 415, 5, 174, 413, 257, 259, 260, 255, 257, 260, 257, 257, 257, 259, 258] rfl
theorem ok_X7_isLetter : zokM zTab kX7_isLetter := ⟨zwdf_ok rfl _ 0 (by decide +kernel) (by decide +kernel), by decide +kernel, by decide +kernel⟩
theorem gw_X7_isLetter : (kX7_isLetter.2.2.2.2.2.flatMap (zrq zTab kX7_isLetter.1.cls)).all goodWord = true := by decide +kernel
set_option maxRecDepth 1000000 in
theorem wd_X7_isLetter : ∀ w ∈ kX7_isLetter.2.2.2.2.2.flatMap (zrq zTab kX7_isLetter.1.cls), w ∈ lw_tbl := zplaces [255, 255] rfl
theorem ok_X7_isDigit : zokM zTab kX7_isDigit := ⟨zwdf_ok rfl _ 0 (by decide +kernel) (by decide +kernel), by decide +kernel, by decide +kernel⟩
theorem gw_X7_isDigit : (kX7_isDigit.2.2.2.2.2.flatMap (zrq zTab kX7_isDigit.1.cls)).all goodWord = true := by decide +kernel
set_option maxRecDepth 1000000 in
theorem wd_X7_isDigit : ∀ w ∈ kX7_isDigit.2.2.2.2.2.flatMap (zrq zTab kX7_isDigit.1.cls), w ∈ lw_tbl := zplaces [255, 255] rfl
theorem ok_X7_isAtHand : zokM zTab kX7_isAtHand := ⟨zwdf_ok rfl _ 0 (by decide +kernel) (by decide +kernel), by decide +kernel, by decide +kernel⟩
theorem gw_X7_isAtHand : (kX7_isAtHand.2.2.2.2.2.flatMap (zrq zTab kX7_isAtHand.1.cls)).all goodWord = true := by decide +kernel
set_option maxRecDepth 1000000 in
theorem wd_X7_isAtHand : ∀ w ∈ kX7_isAtHand.2.2.2.2.2.flatMap (zrq zTab kX7_isAtHand.1.cls), w ∈ lw_tbl := zplaces [257, 259, 439, 437, 438, 179, 436, 439, 437, 438, 179, 436, 255, 259, 449, 447, 448, 179, 446] rfl
theorem ok_X7_isWithin : zokM zTab kX7_isWithin := ⟨zwdf_ok rfl _ 0 (by decide +kernel) (by decide +kernel), by decide +kernel, by decide +kernel⟩
theorem gw_X7_isWithin : (kX7_isWithin.2.2.2.2.2.flatMap (zrq zTab kX7_isWithin.1.cls)).all goodWord = true := by decide +kernel
set_option maxRecDepth 1000000 in
theorem wd_X7_isWithin : ∀ w ∈ kX7_isWithin.2.2.2.2.2.flatMap (zrq zTab kX7_isWithin.1.cls), w ∈ lw_tbl := zplaces [260, 260, 515, 514, 9, 174, 550] rfl
theorem ok_X7_faultHere : zokM zTab kX7_faultHere := ⟨zwdf_ok rfl _ 0 (by decide +kernel) (by decide +kernel), by decide +kernel, by decide +kernel⟩
theorem gw_X7_faultHere : (kX7_faultHere.2.2.2.2.2.flatMap (zrq zTab kX7_faultHere.1.cls)).all goodWord = true := by decide +kernel
set_option maxRecDepth 1000000 in
theorem wd_X7_faultHere : ∀ w ∈ kX7_faultHere.2.2.2.2.2.flatMap (zrq zTab kX7_faultHere.1.cls), w ∈ lw_tbl := zplaces [264, 259, 266, 259, 266, 264, 264, 259, 266] rfl
theorem ok_X1_init : zokM zTab kX1_init := ⟨zwdf_ok rfl _ 0 (by decide +kernel) (by decide +kernel), by decide +kernel, by decide +kernel⟩
theorem gw_X1_init : (kX1_init.2.2.2.2.2.flatMap (zrq zTab kX1_init.1.cls)).all goodWord = true := by decide +kernel
set_option maxRecDepth 1000000 in
theorem wd_X1_init : ∀ w ∈ kX1_init.2.2.2.2.2.flatMap (zrq zTab kX1_init.1.cls), w ∈ lw_tbl := zplaces [290, 199, 200, 291, 292, 293, 294, 295, 247, 296, 247, 297] rfl
theorem ok_X1_begin : zokM zTab kX1_begin := ⟨zwdf_ok rfl _ 0 (by decide +kernel) (by decide +kernel), by decide +kernel, by decide +kernel⟩
theorem gw_X1_begin : (kX1_begin.2.2.2.2.2.flatMap (zrq zTab kX1_begin.1.cls)).all goodWord = true := by decide +kernel
set_option maxRecDepth 1000000 in
theorem wd_X1_begin : ∀ w ∈ kX1_begin.2.2.2.2.2.flatMap (zrq zTab kX1_begin.1.cls), w ∈ lw_tbl := zplaces [291, 292, 293, 294, 296, 742, 741, 186, 740, 297, 742, 741, 186, 740] rfl
theorem ok_X1_doFirst : zokM zTab kX1_doFirst := ⟨zwdf_ok rfl _ 0 (by decide +kernel) (by decide +kernel), by decide +kernel, by decide +kernel⟩
theorem gw_X1_doFirst : (kX1_doFirst.2.2.2.2.2.flatMap (zrq zTab kX1_doFirst.1.cls)).all goodWord = true := by decide +kernel
set_option maxRecDepth 1000000 in
theorem wd_X1_doFirst : ∀ w ∈ kX1_doFirst.2.2.2.2.2.flatMap (zrq zTab kX1_doFirst.1.cls), w ∈ lw_tbl := zplaces [750, 749, 24, 175, 747] rfl
theorem ok_X1_doDeed : zokM zTab kX1_doDeed := ⟨zwdf_ok rfl _ 0 (by decide +kernel) (by decide +kernel), by decide +kernel, by decide +kernel⟩
theorem gw_X1_doDeed : (kX1_doDeed.2.2.2.2.2.flatMap (zrq zTab kX1_doDeed.1.cls)).all goodWord = true := by decide +kernel
set_option maxRecDepth 1000000 in
theorem wd_X1_doDeed : ∀ w ∈ kX1_doDeed.2.2.2.2.2.flatMap (zrq zTab kX1_doDeed.1.cls), w ∈ lw_tbl := zplaces [754, 753, 25, 175, 751, 763, 762, 26, 175, 760, 293, 293, 296, 291, 294, 758, 757, 172, 294, 294, 292, 292, 292] rfl
theorem ok_X1_doRead : zokM zTab kX1_doRead := ⟨zwdf_ok rfl _ 0 (by decide +kernel) (by decide +kernel), by decide +kernel, by decide +kernel⟩
theorem gw_X1_doRead : (kX1_doRead.2.2.2.2.2.flatMap (zrq zTab kX1_doRead.1.cls)).all goodWord = true := by decide +kernel
set_option maxRecDepth 1000000 in
theorem wd_X1_doRead : ∀ w ∈ kX1_doRead.2.2.2.2.2.flatMap (zrq zTab kX1_doRead.1.cls), w ∈ lw_tbl := zplaces [291, 653, 652, 16, 178, 297, 294, 758, 757, 172, 294, 294, 296, 291, 296, 691, 690, 17, 178] rfl
theorem ok_X1_doCopy : zokM zTab kX1_doCopy := ⟨zwdf_ok rfl _ 0 (by decide +kernel) (by decide +kernel), by decide +kernel, by decide +kernel⟩
theorem gw_X1_doCopy : (kX1_doCopy.2.2.2.2.2.flatMap (zrq zTab kX1_doCopy.1.cls)).all goodWord = true := by decide +kernel
set_option maxRecDepth 1000000 in
theorem wd_X1_doCopy : ∀ w ∈ kX1_doCopy.2.2.2.2.2.flatMap (zrq zTab kX1_doCopy.1.cls), w ∈ lw_tbl := zplaces [296, 296] rfl
theorem ok_X1_draw : zokM zTab kX1_draw := ⟨zwdf_ok rfl _ 0 (by decide +kernel) (by decide +kernel), by decide +kernel, by decide +kernel⟩
theorem gw_X1_draw : (kX1_draw.2.2.2.2.2.flatMap (zrq zTab kX1_draw.1.cls)).all goodWord = true := by decide +kernel
set_option maxRecDepth 1000000 in
theorem wd_X1_draw : ∀ w ∈ kX1_draw.2.2.2.2.2.flatMap (zrq zTab kX1_draw.1.cls), w ∈ lw_tbl := zplaces [295, 1212, 1211, 81, 175, 1209, 1212, 1211, 81, 175, 1209, 291, 291, 1212, 1211, 81, 175, 1209, 750, 749, 24, 175, 747, 1212, 1211, 81, 175, 1209, 750, 749, 24, 175, 747, 750, 749, 24, 175, 747] rfl
theorem ok_X1_drawBelow : zokM zTab kX1_drawBelow := ⟨zwdf_ok rfl _ 0 (by decide +kernel) (by decide +kernel), by decide +kernel, by decide +kernel⟩
theorem gw_X1_drawBelow : (kX1_drawBelow.2.2.2.2.2.flatMap (zrq zTab kX1_drawBelow.1.cls)).all goodWord = true := by decide +kernel
set_option maxRecDepth 1000000 in
theorem wd_X1_drawBelow : ∀ w ∈ kX1_drawBelow.2.2.2.2.2.flatMap (zrq zTab kX1_drawBelow.1.cls), w ∈ lw_tbl := zplaces [295, 1213, 295, 295] rfl
theorem ok_X1_tells : zokM zTab kX1_tells := ⟨zwdf_ok rfl _ 0 (by decide +kernel) (by decide +kernel), by decide +kernel, by decide +kernel⟩
theorem gw_X1_tells : (kX1_tells.2.2.2.2.2.flatMap (zrq zTab kX1_tells.1.cls)).all goodWord = true := by decide +kernel
set_option maxRecDepth 1000000 in
theorem wd_X1_tells : ∀ w ∈ kX1_tells.2.2.2.2.2.flatMap (zrq zTab kX1_tells.1.cls), w ∈ lw_tbl := zplaces [292, 293, 775, 774, 28, 175, 772, 779, 778, 29, 175, 776, 779, 778, 29, 175, 776, 783, 782, 30, 175, 780, 294, 296, 291, 297] rfl
theorem ok_X1_suits : zokM zTab kX1_suits := ⟨zwdf_ok rfl _ 0 (by decide +kernel) (by decide +kernel), by decide +kernel, by decide +kernel⟩
theorem gw_X1_suits : (kX1_suits.2.2.2.2.2.flatMap (zrq zTab kX1_suits.1.cls)).all goodWord = true := by decide +kernel
set_option maxRecDepth 1000000 in
theorem wd_X1_suits : ∀ w ∈ kX1_suits.2.2.2.2.2.flatMap (zrq zTab kX1_suits.1.cls), w ∈ lw_tbl := zplaces [296, 296, 293] rfl
theorem ok_X1_against : zokM zTab kX1_against := ⟨zwdf_ok rfl _ 0 (by decide +kernel) (by decide +kernel), by decide +kernel, by decide +kernel⟩
theorem gw_X1_against : (kX1_against.2.2.2.2.2.flatMap (zrq zTab kX1_against.1.cls)).all goodWord = true := by decide +kernel
set_option maxRecDepth 1000000 in
theorem wd_X1_against : ∀ w ∈ kX1_against.2.2.2.2.2.flatMap (zrq zTab kX1_against.1.cls), w ∈ lw_tbl := zplaces [783, 782, 30, 175, 780, 783, 782, 30, 175, 780] rfl
theorem ok_X1_driftOfCopy : zokM zTab kX1_driftOfCopy := ⟨zwdf_ok rfl _ 0 (by decide +kernel) (by decide +kernel), by decide +kernel, by decide +kernel⟩
theorem gw_X1_driftOfCopy : (kX1_driftOfCopy.2.2.2.2.2.flatMap (zrq zTab kX1_driftOfCopy.1.cls)).all goodWord = true := by decide +kernel
set_option maxRecDepth 1000000 in
theorem wd_X1_driftOfCopy : ∀ w ∈ kX1_driftOfCopy.2.2.2.2.2.flatMap (zrq zTab kX1_driftOfCopy.1.cls), w ∈ lw_tbl := zplaces [296, 291, 679, 678, 172] rfl
theorem ok_X3_init : zokM zTab kX3_init := ⟨zwdf_ok rfl _ 0 (by decide +kernel) (by decide +kernel), by decide +kernel, by decide +kernel⟩
theorem gw_X3_init : (kX3_init.2.2.2.2.2.flatMap (zrq zTab kX3_init.1.cls)).all goodWord = true := by decide +kernel
set_option maxRecDepth 1000000 in
theorem wd_X3_init : ∀ w ∈ kX3_init.2.2.2.2.2.flatMap (zrq zTab kX3_init.1.cls), w ∈ lw_tbl := zplaces [370, 199, 200] rfl
theorem ok_X0_init : zokM zTab kX0_init := ⟨zwdf_ok rfl _ 0 (by decide +kernel) (by decide +kernel), by decide +kernel, by decide +kernel⟩
theorem gw_X0_init : (kX0_init.2.2.2.2.2.flatMap (zrq zTab kX0_init.1.cls)).all goodWord = true := by decide +kernel
set_option maxRecDepth 1000000 in
theorem wd_X0_init : ∀ w ∈ kX0_init.2.2.2.2.2.flatMap (zrq zTab kX0_init.1.cls), w ∈ lw_tbl := zplaces [369, 368, 177, 371, 374, 381, 247, 382, 247, 383, 247, 384, 247, 385] rfl
theorem ok_X0_lineOf : zokM zTab kX0_lineOf := ⟨zwdf_ok rfl _ 0 (by decide +kernel) (by decide +kernel), by decide +kernel, by decide +kernel⟩
theorem gw_X0_lineOf : (kX0_lineOf.2.2.2.2.2.flatMap (zrq zTab kX0_lineOf.1.cls)).all goodWord = true := by decide +kernel
set_option maxRecDepth 1000000 in
theorem wd_X0_lineOf : ∀ w ∈ kX0_lineOf.2.2.2.2.2.flatMap (zrq zTab kX0_lineOf.1.cls), w ∈ lw_tbl := zplaces [435, 434, 8, 174, 435, 434, 8, 174, 435, 434, 8, 174, 435, 434, 8, 174, 435, 434, 8, 174, 435, 434, 8, 174, 435, 434, 8, 174, 435, 434, 8, 174] rfl
theorem ok_X0_fewestNumbers : zokM zTab kX0_fewestNumbers := ⟨zwdf_ok rfl _ 0 (by decide +kernel) (by decide +kernel), by decide +kernel, by decide +kernel⟩
theorem gw_X0_fewestNumbers : (kX0_fewestNumbers.2.2.2.2.2.flatMap (zrq zTab kX0_fewestNumbers.1.cls)).all goodWord = true := by decide +kernel
set_option maxRecDepth 1000000 in
theorem wd_X0_fewestNumbers : ∀ w ∈ kX0_fewestNumbers.2.2.2.2.2.flatMap (zrq zTab kX0_fewestNumbers.1.cls), w ∈ lw_tbl := zplaces [533, 532, 1999, 178, 576] rfl
theorem ok_X0_mostNumbers : zokM zTab kX0_mostNumbers := ⟨zwdf_ok rfl _ 0 (by decide +kernel) (by decide +kernel), by decide +kernel, by decide +kernel⟩
theorem gw_X0_mostNumbers : (kX0_mostNumbers.2.2.2.2.2.flatMap (zrq zTab kX0_mostNumbers.1.cls)).all goodWord = true := by decide +kernel
set_option maxRecDepth 1000000 in
theorem wd_X0_mostNumbers : ∀ w ∈ kX0_mostNumbers.2.2.2.2.2.flatMap (zrq zTab kX0_mostNumbers.1.cls), w ∈ lw_tbl := zplaces [] rfl
theorem ok_X0_beginLine : zokM zTab kX0_beginLine := ⟨zwdf_ok rfl _ 0 (by decide +kernel) (by decide +kernel), by decide +kernel, by decide +kernel⟩
theorem gw_X0_beginLine : (kX0_beginLine.2.2.2.2.2.flatMap (zrq zTab kX0_beginLine.1.cls)).all goodWord = true := by decide +kernel
set_option maxRecDepth 1000000 in
theorem wd_X0_beginLine : ∀ w ∈ kX0_beginLine.2.2.2.2.2.flatMap (zrq zTab kX0_beginLine.1.cls), w ∈ lw_tbl := zplaces [371, 374, 374, 374, 515, 514, 9, 174, 519, 518, 10, 178, 516] rfl
theorem ok_X0_beginStep : zokM zTab kX0_beginStep := ⟨zwdf_ok rfl _ 0 (by decide +kernel) (by decide +kernel), by decide +kernel, by decide +kernel⟩
theorem gw_X0_beginStep : (kX0_beginStep.2.2.2.2.2.flatMap (zrq zTab kX0_beginStep.1.cls)).all goodWord = true := by decide +kernel
set_option maxRecDepth 1000000 in
theorem wd_X0_beginStep : ∀ w ∈ kX0_beginStep.2.2.2.2.2.flatMap (zrq zTab kX0_beginStep.1.cls), w ∈ lw_tbl := zplaces [374, 515, 514, 9, 174, 383, 515, 514, 9, 174, 384, 383, 383] rfl
theorem ok_X0_takeNumber : zokM zTab kX0_takeNumber := ⟨zwdf_ok rfl _ 0 (by decide +kernel) (by decide +kernel), by decide +kernel, by decide +kernel⟩
theorem gw_X0_takeNumber : (kX0_takeNumber.2.2.2.2.2.flatMap (zrq zTab kX0_takeNumber.1.cls)).all goodWord = true := by decide +kernel
set_option maxRecDepth 1000000 in
theorem wd_X0_takeNumber : ∀ w ∈ kX0_takeNumber.2.2.2.2.2.flatMap (zrq zTab kX0_takeNumber.1.cls), w ∈ lw_tbl := zplaces [549, 548, 11, 174, 515, 514, 9, 174, 554, 553, 12, 178, 551] rfl
theorem ok_X0_keepNumber : zokM zTab kX0_keepNumber := ⟨zwdf_ok rfl _ 0 (by decide +kernel) (by decide +kernel), by decide +kernel, by decide +kernel⟩
theorem gw_X0_keepNumber : (kX0_keepNumber.2.2.2.2.2.flatMap (zrq zTab kX0_keepNumber.1.cls)).all goodWord = true := by decide +kernel
set_option maxRecDepth 1000000 in
theorem wd_X0_keepNumber : ∀ w ∈ kX0_keepNumber.2.2.2.2.2.flatMap (zrq zTab kX0_keepNumber.1.cls), w ∈ lw_tbl := zplaces [374, 371, 557, 556, 172, 371, 381, 381, 560, 559, 172, 382, 381, 383, 385, 383] rfl
theorem ok_X0_hasReader : zokM zTab kX0_hasReader := ⟨zwdf_ok rfl _ 0 (by decide +kernel) (by decide +kernel), by decide +kernel, by decide +kernel⟩
theorem gw_X0_hasReader : (kX0_hasReader.2.2.2.2.2.flatMap (zrq zTab kX0_hasReader.1.cls)).all goodWord = true := by decide +kernel
set_option maxRecDepth 1000000 in
theorem wd_X0_hasReader : ∀ w ∈ kX0_hasReader.2.2.2.2.2.flatMap (zrq zTab kX0_hasReader.1.cls), w ∈ lw_tbl := zplaces [374] rfl
theorem ok_X0_hasReaders : zokM zTab kX0_hasReaders := ⟨zwdf_ok rfl _ 0 (by decide +kernel) (by decide +kernel), by decide +kernel, by decide +kernel⟩
theorem gw_X0_hasReaders : (kX0_hasReaders.2.2.2.2.2.flatMap (zrq zTab kX0_hasReaders.1.cls)).all goodWord = true := by decide +kernel
set_option maxRecDepth 1000000 in
theorem wd_X0_hasReaders : ∀ w ∈ kX0_hasReaders.2.2.2.2.2.flatMap (zrq zTab kX0_hasReaders.1.cls), w ∈ lw_tbl := zplaces [374] rfl
theorem ok_X0_tells : zokM zTab kX0_tells := ⟨zwdf_ok rfl _ 0 (by decide +kernel) (by decide +kernel), by decide +kernel, by decide +kernel⟩
theorem gw_X0_tells : (kX0_tells.2.2.2.2.2.flatMap (zrq zTab kX0_tells.1.cls)).all goodWord = true := by decide +kernel
set_option maxRecDepth 1000000 in
theorem wd_X0_tells : ∀ w ∈ kX0_tells.2.2.2.2.2.flatMap (zrq zTab kX0_tells.1.cls), w ∈ lw_tbl := zplaces [371, 374, 382, 374, 383, 649, 648, 15, 178, 646] rfl
theorem ok_X0_tellsStep : zokM zTab kX0_tellsStep := ⟨zwdf_ok rfl _ 0 (by decide +kernel) (by decide +kernel), by decide +kernel, by decide +kernel⟩
theorem gw_X0_tellsStep : (kX0_tellsStep.2.2.2.2.2.flatMap (zrq zTab kX0_tellsStep.1.cls)).all goodWord = true := by decide +kernel
set_option maxRecDepth 1000000 in
theorem wd_X0_tellsStep : ∀ w ∈ kX0_tellsStep.2.2.2.2.2.flatMap (zrq zTab kX0_tellsStep.1.cls), w ∈ lw_tbl := zplaces [653, 652, 16, 178, 650, 383, 384, 385] rfl
theorem ok_X0_readBy : zokM zTab kX0_readBy := ⟨zwdf_ok rfl _ 0 (by decide +kernel) (by decide +kernel), by decide +kernel, by decide +kernel⟩
theorem gw_X0_readBy : (kX0_readBy.2.2.2.2.2.flatMap (zrq zTab kX0_readBy.1.cls)).all goodWord = true := by decide +kernel
set_option maxRecDepth 1000000 in
theorem wd_X0_readBy : ∀ w ∈ kX0_readBy.2.2.2.2.2.flatMap (zrq zTab kX0_readBy.1.cls), w ∈ lw_tbl := zplaces [669, 668, 172, 383, 384, 385, 696, 695, 18, 178, 693, 718, 717, 172] rfl
theorem ok_X0_stepOn : zokM zTab kX0_stepOn := ⟨zwdf_ok rfl _ 0 (by decide +kernel) (by decide +kernel), by decide +kernel, by decide +kernel⟩
theorem gw_X0_stepOn : (kX0_stepOn.2.2.2.2.2.flatMap (zrq zTab kX0_stepOn.1.cls)).all goodWord = true := by decide +kernel
set_option maxRecDepth 1000000 in
theorem wd_X0_stepOn : ∀ w ∈ kX0_stepOn.2.2.2.2.2.flatMap (zrq zTab kX0_stepOn.1.cls), w ∈ lw_tbl := zplaces [699, 698, 172, 703, 702, 19, 178, 700, 706, 705, 178, 704, 709, 708, 178, 707, 712, 711, 178, 710, 715, 714, 178, 713] rfl
theorem ok_X0_shifted : zokM zTab kX0_shifted := ⟨zwdf_ok rfl _ 0 (by decide +kernel) (by decide +kernel), by decide +kernel, by decide +kernel⟩
theorem gw_X0_shifted : (kX0_shifted.2.2.2.2.2.flatMap (zrq zTab kX0_shifted.1.cls)).all goodWord = true := by decide +kernel
set_option maxRecDepth 1000000 in
theorem wd_X0_shifted : ∀ w ∈ kX0_shifted.2.2.2.2.2.flatMap (zrq zTab kX0_shifted.1.cls), w ∈ lw_tbl := zplaces [382] rfl
theorem ok_X0_dropped : zokM zTab kX0_dropped := ⟨zwdf_ok rfl _ 0 (by decide +kernel) (by decide +kernel), by decide +kernel, by decide +kernel⟩
theorem gw_X0_dropped : (kX0_dropped.2.2.2.2.2.flatMap (zrq zTab kX0_dropped.1.cls)).all goodWord = true := by decide +kernel
set_option maxRecDepth 1000000 in
theorem wd_X0_dropped : ∀ w ∈ kX0_dropped.2.2.2.2.2.flatMap (zrq zTab kX0_dropped.1.cls), w ∈ lw_tbl := zplaces [] rfl
theorem ok_X0_doubled : zokM zTab kX0_doubled := ⟨zwdf_ok rfl _ 0 (by decide +kernel) (by decide +kernel), by decide +kernel, by decide +kernel⟩
theorem gw_X0_doubled : (kX0_doubled.2.2.2.2.2.flatMap (zrq zTab kX0_doubled.1.cls)).all goodWord = true := by decide +kernel
set_option maxRecDepth 1000000 in
theorem wd_X0_doubled : ∀ w ∈ kX0_doubled.2.2.2.2.2.flatMap (zrq zTab kX0_doubled.1.cls), w ∈ lw_tbl := zplaces [] rfl
theorem ok_X0_swapped : zokM zTab kX0_swapped := ⟨zwdf_ok rfl _ 0 (by decide +kernel) (by decide +kernel), by decide +kernel, by decide +kernel⟩
theorem gw_X0_swapped : (kX0_swapped.2.2.2.2.2.flatMap (zrq zTab kX0_swapped.1.cls)).all goodWord = true := by decide +kernel
set_option maxRecDepth 1000000 in
theorem wd_X0_swapped : ∀ w ∈ kX0_swapped.2.2.2.2.2.flatMap (zrq zTab kX0_swapped.1.cls), w ∈ lw_tbl := zplaces [] rfl
theorem ok_X0_turned : zokM zTab kX0_turned := ⟨zwdf_ok rfl _ 0 (by decide +kernel) (by decide +kernel), by decide +kernel, by decide +kernel⟩
theorem gw_X0_turned : (kX0_turned.2.2.2.2.2.flatMap (zrq zTab kX0_turned.1.cls)).all goodWord = true := by decide +kernel
set_option maxRecDepth 1000000 in
theorem wd_X0_turned : ∀ w ∈ kX0_turned.2.2.2.2.2.flatMap (zrq zTab kX0_turned.1.cls), w ∈ lw_tbl := zplaces [] rfl
theorem ok_X0_kinRing : zokM zTab kX0_kinRing := ⟨zwdf_ok rfl _ 0 (by decide +kernel) (by decide +kernel), by decide +kernel, by decide +kernel⟩
theorem gw_X0_kinRing : (kX0_kinRing.2.2.2.2.2.flatMap (zrq zTab kX0_kinRing.1.cls)).all goodWord = true := by decide +kernel
set_option maxRecDepth 1000000 in
theorem wd_X0_kinRing : ∀ w ∈ kX0_kinRing.2.2.2.2.2.flatMap (zrq zTab kX0_kinRing.1.cls), w ∈ lw_tbl := zplaces [382, 382] rfl
theorem ok_X0_kinUntilRing : zokM zTab kX0_kinUntilRing := ⟨zwdf_ok rfl _ 0 (by decide +kernel) (by decide +kernel), by decide +kernel, by decide +kernel⟩
theorem gw_X0_kinUntilRing : (kX0_kinUntilRing.2.2.2.2.2.flatMap (zrq zTab kX0_kinUntilRing.1.cls)).all goodWord = true := by decide +kernel
set_option maxRecDepth 1000000 in
theorem wd_X0_kinUntilRing : ∀ w ∈ kX0_kinUntilRing.2.2.2.2.2.flatMap (zrq zTab kX0_kinUntilRing.1.cls), w ∈ lw_tbl := zplaces [1229, 1228, 84, 178, 1226, 382] rfl
theorem ok_X0_isInKinRing : zokM zTab kX0_isInKinRing := ⟨zwdf_ok rfl _ 0 (by decide +kernel) (by decide +kernel), by decide +kernel, by decide +kernel⟩
theorem gw_X0_isInKinRing : (kX0_isInKinRing.2.2.2.2.2.flatMap (zrq zTab kX0_isInKinRing.1.cls)).all goodWord = true := by decide +kernel
set_option maxRecDepth 1000000 in
theorem wd_X0_isInKinRing : ∀ w ∈ kX0_isInKinRing.2.2.2.2.2.flatMap (zrq zTab kX0_isInKinRing.1.cls), w ∈ lw_tbl := zplaces [382] rfl
theorem ok_X10_init : zokM zTab kX10_init := ⟨zwdf_ok rfl _ 0 (by decide +kernel) (by decide +kernel), by decide +kernel, by decide +kernel⟩
theorem gw_X10_init : (kX10_init.2.2.2.2.2.flatMap (zrq zTab kX10_init.1.cls)).all goodWord = true := by decide +kernel
set_option maxRecDepth 1000000 in
theorem wd_X10_init : ∀ w ∈ kX10_init.2.2.2.2.2.flatMap (zrq zTab kX10_init.1.cls), w ∈ lw_tbl := zplaces [369, 368, 177, 590, 247, 593, 247, 595, 247, 597] rfl
theorem ok_X10_lineOf : zokM zTab kX10_lineOf := ⟨zwdf_ok rfl _ 0 (by decide +kernel) (by decide +kernel), by decide +kernel, by decide +kernel⟩
theorem gw_X10_lineOf : (kX10_lineOf.2.2.2.2.2.flatMap (zrq zTab kX10_lineOf.1.cls)).all goodWord = true := by decide +kernel
set_option maxRecDepth 1000000 in
theorem wd_X10_lineOf : ∀ w ∈ kX10_lineOf.2.2.2.2.2.flatMap (zrq zTab kX10_lineOf.1.cls), w ∈ lw_tbl := zplaces [435, 434, 8, 174, 435, 434, 8, 174, 435, 434, 8, 174, 435, 434, 8, 174, 435, 434, 8, 174, 435, 434, 8, 174] rfl
theorem ok_X10_fewestNumbers : zokM zTab kX10_fewestNumbers := ⟨zwdf_ok rfl _ 0 (by decide +kernel) (by decide +kernel), by decide +kernel, by decide +kernel⟩
theorem gw_X10_fewestNumbers : (kX10_fewestNumbers.2.2.2.2.2.flatMap (zrq zTab kX10_fewestNumbers.1.cls)).all goodWord = true := by decide +kernel
set_option maxRecDepth 1000000 in
theorem wd_X10_fewestNumbers : ∀ w ∈ kX10_fewestNumbers.2.2.2.2.2.flatMap (zrq zTab kX10_fewestNumbers.1.cls), w ∈ lw_tbl := zplaces [539, 538, 2000, 183, 583] rfl
theorem ok_X10_mostNumbers : zokM zTab kX10_mostNumbers := ⟨zwdf_ok rfl _ 0 (by decide +kernel) (by decide +kernel), by decide +kernel, by decide +kernel⟩
theorem gw_X10_mostNumbers : (kX10_mostNumbers.2.2.2.2.2.flatMap (zrq zTab kX10_mostNumbers.1.cls)).all goodWord = true := by decide +kernel
set_option maxRecDepth 1000000 in
theorem wd_X10_mostNumbers : ∀ w ∈ kX10_mostNumbers.2.2.2.2.2.flatMap (zrq zTab kX10_mostNumbers.1.cls), w ∈ lw_tbl := zplaces [] rfl
theorem ok_X10_beginLine : zokM zTab kX10_beginLine := ⟨zwdf_ok rfl _ 0 (by decide +kernel) (by decide +kernel), by decide +kernel, by decide +kernel⟩
theorem gw_X10_beginLine : (kX10_beginLine.2.2.2.2.2.flatMap (zrq zTab kX10_beginLine.1.cls)).all goodWord = true := by decide +kernel
set_option maxRecDepth 1000000 in
theorem wd_X10_beginLine : ∀ w ∈ kX10_beginLine.2.2.2.2.2.flatMap (zrq zTab kX10_beginLine.1.cls), w ∈ lw_tbl := zplaces [590, 515, 514, 9, 174, 593, 590, 595, 590, 597, 590, 590, 590] rfl
theorem ok_X10_takeNumber : zokM zTab kX10_takeNumber := ⟨zwdf_ok rfl _ 0 (by decide +kernel) (by decide +kernel), by decide +kernel, by decide +kernel⟩
theorem gw_X10_takeNumber : (kX10_takeNumber.2.2.2.2.2.flatMap (zrq zTab kX10_takeNumber.1.cls)).all goodWord = true := by decide +kernel
set_option maxRecDepth 1000000 in
theorem wd_X10_takeNumber : ∀ w ∈ kX10_takeNumber.2.2.2.2.2.flatMap (zrq zTab kX10_takeNumber.1.cls), w ∈ lw_tbl := zplaces [590, 549, 548, 11, 174, 595, 595, 515, 514, 9, 174, 597] rfl
theorem ok_X10_tells : zokM zTab kX10_tells := ⟨zwdf_ok rfl _ 0 (by decide +kernel) (by decide +kernel), by decide +kernel, by decide +kernel⟩
theorem gw_X10_tells : (kX10_tells.2.2.2.2.2.flatMap (zrq zTab kX10_tells.1.cls)).all goodWord = true := by decide +kernel
set_option maxRecDepth 1000000 in
theorem wd_X10_tells : ∀ w ∈ kX10_tells.2.2.2.2.2.flatMap (zrq zTab kX10_tells.1.cls), w ∈ lw_tbl := zplaces [590, 590, 593, 595, 597] rfl
theorem ok_X6_init : zokM zTab kX6_init := ⟨zwdf_ok rfl _ 0 (by decide +kernel) (by decide +kernel), by decide +kernel, by decide +kernel⟩
theorem gw_X6_init : (kX6_init.2.2.2.2.2.flatMap (zrq zTab kX6_init.1.cls)).all goodWord = true := by decide +kernel
set_option maxRecDepth 1000000 in
theorem wd_X6_init : ∀ w ∈ kX6_init.2.2.2.2.2.flatMap (zrq zTab kX6_init.1.cls), w ∈ lw_tbl := zplaces [369, 368, 177, 614, 247, 616, 247, 618] rfl
theorem ok_X6_lineOf : zokM zTab kX6_lineOf := ⟨zwdf_ok rfl _ 0 (by decide +kernel) (by decide +kernel), by decide +kernel, by decide +kernel⟩
theorem gw_X6_lineOf : (kX6_lineOf.2.2.2.2.2.flatMap (zrq zTab kX6_lineOf.1.cls)).all goodWord = true := by decide +kernel
set_option maxRecDepth 1000000 in
theorem wd_X6_lineOf : ∀ w ∈ kX6_lineOf.2.2.2.2.2.flatMap (zrq zTab kX6_lineOf.1.cls), w ∈ lw_tbl := zplaces [435, 434, 8, 174] rfl
theorem ok_X6_fewestNumbers : zokM zTab kX6_fewestNumbers := ⟨zwdf_ok rfl _ 0 (by decide +kernel) (by decide +kernel), by decide +kernel, by decide +kernel⟩
theorem gw_X6_fewestNumbers : (kX6_fewestNumbers.2.2.2.2.2.flatMap (zrq zTab kX6_fewestNumbers.1.cls)).all goodWord = true := by decide +kernel
set_option maxRecDepth 1000000 in
theorem wd_X6_fewestNumbers : ∀ w ∈ kX6_fewestNumbers.2.2.2.2.2.flatMap (zrq zTab kX6_fewestNumbers.1.cls), w ∈ lw_tbl := zplaces [] rfl
theorem ok_X6_mostNumbers : zokM zTab kX6_mostNumbers := ⟨zwdf_ok rfl _ 0 (by decide +kernel) (by decide +kernel), by decide +kernel, by decide +kernel⟩
theorem gw_X6_mostNumbers : (kX6_mostNumbers.2.2.2.2.2.flatMap (zrq zTab kX6_mostNumbers.1.cls)).all goodWord = true := by decide +kernel
set_option maxRecDepth 1000000 in
theorem wd_X6_mostNumbers : ∀ w ∈ kX6_mostNumbers.2.2.2.2.2.flatMap (zrq zTab kX6_mostNumbers.1.cls), w ∈ lw_tbl := zplaces [] rfl
theorem ok_X6_beginLine : zokM zTab kX6_beginLine := ⟨zwdf_ok rfl _ 0 (by decide +kernel) (by decide +kernel), by decide +kernel, by decide +kernel⟩
theorem gw_X6_beginLine : (kX6_beginLine.2.2.2.2.2.flatMap (zrq zTab kX6_beginLine.1.cls)).all goodWord = true := by decide +kernel
set_option maxRecDepth 1000000 in
theorem wd_X6_beginLine : ∀ w ∈ kX6_beginLine.2.2.2.2.2.flatMap (zrq zTab kX6_beginLine.1.cls), w ∈ lw_tbl := zplaces [614, 515, 514, 9, 174, 618, 614, 614, 614] rfl
theorem ok_X6_takeNumber : zokM zTab kX6_takeNumber := ⟨zwdf_ok rfl _ 0 (by decide +kernel) (by decide +kernel), by decide +kernel, by decide +kernel⟩
theorem gw_X6_takeNumber : (kX6_takeNumber.2.2.2.2.2.flatMap (zrq zTab kX6_takeNumber.1.cls)).all goodWord = true := by decide +kernel
set_option maxRecDepth 1000000 in
theorem wd_X6_takeNumber : ∀ w ∈ kX6_takeNumber.2.2.2.2.2.flatMap (zrq zTab kX6_takeNumber.1.cls), w ∈ lw_tbl := zplaces [549, 548, 11, 174, 614, 515, 514, 9, 174, 616, 618, 618, 557, 556, 172] rfl
theorem ok_X6_tells : zokM zTab kX6_tells := ⟨zwdf_ok rfl _ 0 (by decide +kernel) (by decide +kernel), by decide +kernel, by decide +kernel⟩
theorem gw_X6_tells : (kX6_tells.2.2.2.2.2.flatMap (zrq zTab kX6_tells.1.cls)).all goodWord = true := by decide +kernel
set_option maxRecDepth 1000000 in
theorem wd_X6_tells : ∀ w ∈ kX6_tells.2.2.2.2.2.flatMap (zrq zTab kX6_tells.1.cls), w ∈ lw_tbl := zplaces [614, 614, 616, 618] rfl
theorem ok_X4_init : zokM zTab kX4_init := ⟨zwdf_ok rfl _ 0 (by decide +kernel) (by decide +kernel), by decide +kernel, by decide +kernel⟩
theorem gw_X4_init : (kX4_init.2.2.2.2.2.flatMap (zrq zTab kX4_init.1.cls)).all goodWord = true := by decide +kernel
set_option maxRecDepth 1000000 in
theorem wd_X4_init : ∀ w ∈ kX4_init.2.2.2.2.2.flatMap (zrq zTab kX4_init.1.cls), w ∈ lw_tbl := zplaces [797, 199, 200, 798, 247, 803, 246, 804, 246, 805] rfl
theorem ok_X4_takeUp : zokM zTab kX4_takeUp := ⟨zwdf_ok rfl _ 0 (by decide +kernel) (by decide +kernel), by decide +kernel, by decide +kernel⟩
theorem gw_X4_takeUp : (kX4_takeUp.2.2.2.2.2.flatMap (zrq zTab kX4_takeUp.1.cls)).all goodWord = true := by decide +kernel
set_option maxRecDepth 1000000 in
theorem wd_X4_takeUp : ∀ w ∈ kX4_takeUp.2.2.2.2.2.flatMap (zrq zTab kX4_takeUp.1.cls), w ∈ lw_tbl := zplaces [798, 798, 803, 742, 741, 186, 819] rfl
theorem ok_X4_all : zokM zTab kX4_all := ⟨zwdf_ok rfl _ 0 (by decide +kernel) (by decide +kernel), by decide +kernel, by decide +kernel⟩
theorem gw_X4_all : (kX4_all.2.2.2.2.2.flatMap (zrq zTab kX4_all.1.cls)).all goodWord = true := by decide +kernel
set_option maxRecDepth 1000000 in
theorem wd_X4_all : ∀ w ∈ kX4_all.2.2.2.2.2.flatMap (zrq zTab kX4_all.1.cls), w ∈ lw_tbl := zplaces [798] rfl
theorem ok_X4_after : zokM zTab kX4_after := ⟨zwdf_ok rfl _ 0 (by decide +kernel) (by decide +kernel), by decide +kernel, by decide +kernel⟩
theorem gw_X4_after : (kX4_after.2.2.2.2.2.flatMap (zrq zTab kX4_after.1.cls)).all goodWord = true := by decide +kernel
set_option maxRecDepth 1000000 in
theorem wd_X4_after : ∀ w ∈ kX4_after.2.2.2.2.2.flatMap (zrq zTab kX4_after.1.cls), w ∈ lw_tbl := zplaces [803, 803, 798, 691, 690, 17, 178, 803] rfl
theorem ok_X4_isChanged : zokM zTab kX4_isChanged := ⟨zwdf_ok rfl _ 0 (by decide +kernel) (by decide +kernel), by decide +kernel, by decide +kernel⟩
theorem gw_X4_isChanged : (kX4_isChanged.2.2.2.2.2.flatMap (zrq zTab kX4_isChanged.1.cls)).all goodWord = true := by decide +kernel
set_option maxRecDepth 1000000 in
theorem wd_X4_isChanged : ∀ w ∈ kX4_isChanged.2.2.2.2.2.flatMap (zrq zTab kX4_isChanged.1.cls), w ∈ lw_tbl := zplaces [798, 758, 757, 172, 864, 863, 37, 187, 903] rfl
theorem ok_X4_unchangedBy : zokM zTab kX4_unchangedBy := ⟨zwdf_ok rfl _ 0 (by decide +kernel) (by decide +kernel), by decide +kernel, by decide +kernel⟩
theorem gw_X4_unchangedBy : (kX4_unchangedBy.2.2.2.2.2.flatMap (zrq zTab kX4_unchangedBy.1.cls)).all goodWord = true := by decide +kernel
set_option maxRecDepth 1000000 in
theorem wd_X4_unchangedBy : ∀ w ∈ kX4_unchangedBy.2.2.2.2.2.flatMap (zrq zTab kX4_unchangedBy.1.cls), w ∈ lw_tbl := zplaces [901, 900, 43, 187, 898] rfl
theorem ok_X4_alikeEitherWay : zokM zTab kX4_alikeEitherWay := ⟨zwdf_ok rfl _ 0 (by decide +kernel) (by decide +kernel), by decide +kernel, by decide +kernel⟩
theorem gw_X4_alikeEitherWay : (kX4_alikeEitherWay.2.2.2.2.2.flatMap (zrq zTab kX4_alikeEitherWay.1.cls)).all goodWord = true := by decide +kernel
set_option maxRecDepth 1000000 in
theorem wd_X4_alikeEitherWay : ∀ w ∈ kX4_alikeEitherWay.2.2.2.2.2.flatMap (zrq zTab kX4_alikeEitherWay.1.cls), w ∈ lw_tbl := zplaces [864, 863, 37, 187, 903, 864, 863, 37, 187, 903, 864, 863, 37, 187, 903, 864, 863, 37, 187, 903] rfl
theorem ok_X4_goBack : zokM zTab kX4_goBack := ⟨zwdf_ok rfl _ 0 (by decide +kernel) (by decide +kernel), by decide +kernel, by decide +kernel⟩
theorem gw_X4_goBack : (kX4_goBack.2.2.2.2.2.flatMap (zrq zTab kX4_goBack.1.cls)).all goodWord = true := by decide +kernel
set_option maxRecDepth 1000000 in
theorem wd_X4_goBack : ∀ w ∈ kX4_goBack.2.2.2.2.2.flatMap (zrq zTab kX4_goBack.1.cls), w ∈ lw_tbl := zplaces [804, 1127, 1126, 186, 1125, 804, 805, 1131, 1130, 67, 187, 1128, 804, 805, 804, 805] rfl
theorem ok_X4_comesToMarked : zokM zTab kX4_comesToMarked := ⟨zwdf_ok rfl _ 0 (by decide +kernel) (by decide +kernel), by decide +kernel, by decide +kernel⟩
theorem gw_X4_comesToMarked : (kX4_comesToMarked.2.2.2.2.2.flatMap (zrq zTab kX4_comesToMarked.1.cls)).all goodWord = true := by decide +kernel
set_option maxRecDepth 1000000 in
theorem wd_X4_comesToMarked : ∀ w ∈ kX4_comesToMarked.2.2.2.2.2.flatMap (zrq zTab kX4_comesToMarked.1.cls), w ∈ lw_tbl := zplaces [798, 804, 864, 863, 37, 187, 903] rfl
theorem ok_X4_markUnmade : zokM zTab kX4_markUnmade := ⟨zwdf_ok rfl _ 0 (by decide +kernel) (by decide +kernel), by decide +kernel, by decide +kernel⟩
theorem gw_X4_markUnmade : (kX4_markUnmade.2.2.2.2.2.flatMap (zrq zTab kX4_markUnmade.1.cls)).all goodWord = true := by decide +kernel
set_option maxRecDepth 1000000 in
theorem wd_X4_markUnmade : ∀ w ∈ kX4_markUnmade.2.2.2.2.2.flatMap (zrq zTab kX4_markUnmade.1.cls), w ∈ lw_tbl := zplaces [804, 1127, 1126, 186, 1125, 798, 804, 864, 863, 37, 187, 903] rfl
theorem ok_X4_marked : zokM zTab kX4_marked := ⟨zwdf_ok rfl _ 0 (by decide +kernel) (by decide +kernel), by decide +kernel, by decide +kernel⟩
theorem gw_X4_marked : (kX4_marked.2.2.2.2.2.flatMap (zrq zTab kX4_marked.1.cls)).all goodWord = true := by decide +kernel
set_option maxRecDepth 1000000 in
theorem wd_X4_marked : ∀ w ∈ kX4_marked.2.2.2.2.2.flatMap (zrq zTab kX4_marked.1.cls), w ∈ lw_tbl := zplaces [804] rfl
theorem ok_X4_leastMarked : zokM zTab kX4_leastMarked := ⟨zwdf_ok rfl _ 0 (by decide +kernel) (by decide +kernel), by decide +kernel, by decide +kernel⟩
theorem gw_X4_leastMarked : (kX4_leastMarked.2.2.2.2.2.flatMap (zrq zTab kX4_leastMarked.1.cls)).all goodWord = true := by decide +kernel
set_option maxRecDepth 1000000 in
theorem wd_X4_leastMarked : ∀ w ∈ kX4_leastMarked.2.2.2.2.2.flatMap (zrq zTab kX4_leastMarked.1.cls), w ∈ lw_tbl := zplaces [804] rfl
theorem ok_X9_init : zokM zTab kX9_init := ⟨zwdf_ok rfl _ 0 (by decide +kernel) (by decide +kernel), by decide +kernel, by decide +kernel⟩
theorem gw_X9_init : (kX9_init.2.2.2.2.2.flatMap (zrq zTab kX9_init.1.cls)).all goodWord = true := by decide +kernel
set_option maxRecDepth 1000000 in
theorem wd_X9_init : ∀ w ∈ kX9_init.2.2.2.2.2.flatMap (zrq zTab kX9_init.1.cls), w ∈ lw_tbl := zplaces [828, 199, 200, 830, 247, 832, 247, 833, 247, 835, 247, 836, 833, 742, 741, 186, 829] rfl
theorem ok_X9_go : zokM zTab kX9_go := ⟨zwdf_ok rfl _ 0 (by decide +kernel) (by decide +kernel), by decide +kernel, by decide +kernel⟩
theorem gw_X9_go : (kX9_go.2.2.2.2.2.flatMap (zrq zTab kX9_go.1.cls)).all goodWord = true := by decide +kernel
set_option maxRecDepth 1000000 in
theorem wd_X9_go : ∀ w ∈ kX9_go.2.2.2.2.2.flatMap (zrq zTab kX9_go.1.cls), w ∈ lw_tbl := zplaces [830, 833, 832, 830, 859, 858, 36, 188, 856, 830, 832, 758, 757, 172, 864, 863, 37, 187, 833, 859, 858, 36, 188, 856] rfl
theorem ok_X9_comeTo : zokM zTab kX9_comeTo := ⟨zwdf_ok rfl _ 0 (by decide +kernel) (by decide +kernel), by decide +kernel, by decide +kernel⟩
theorem gw_X9_comeTo : (kX9_comeTo.2.2.2.2.2.flatMap (zrq zTab kX9_comeTo.1.cls)).all goodWord = true := by decide +kernel
set_option maxRecDepth 1000000 in
theorem wd_X9_comeTo : ∀ w ∈ kX9_comeTo.2.2.2.2.2.flatMap (zrq zTab kX9_comeTo.1.cls), w ∈ lw_tbl := zplaces [833, 830, 833, 835, 836, 832, 830, 830, 830] rfl
theorem ok_X9_readerOnWay : zokM zTab kX9_readerOnWay := ⟨zwdf_ok rfl _ 0 (by decide +kernel) (by decide +kernel), by decide +kernel, by decide +kernel⟩
theorem gw_X9_readerOnWay : (kX9_readerOnWay.2.2.2.2.2.flatMap (zrq zTab kX9_readerOnWay.1.cls)).all goodWord = true := by decide +kernel
set_option maxRecDepth 1000000 in
theorem wd_X9_readerOnWay : ∀ w ∈ kX9_readerOnWay.2.2.2.2.2.flatMap (zrq zTab kX9_readerOnWay.1.cls), w ∈ lw_tbl := zplaces [833, 835, 836] rfl
theorem ok_X9_wayBack : zokM zTab kX9_wayBack := ⟨zwdf_ok rfl _ 0 (by decide +kernel) (by decide +kernel), by decide +kernel, by decide +kernel⟩
theorem gw_X9_wayBack : (kX9_wayBack.2.2.2.2.2.flatMap (zrq zTab kX9_wayBack.1.cls)).all goodWord = true := by decide +kernel
set_option maxRecDepth 1000000 in
theorem wd_X9_wayBack : ∀ w ∈ kX9_wayBack.2.2.2.2.2.flatMap (zrq zTab kX9_wayBack.1.cls), w ∈ lw_tbl := zplaces [830, 832, 864, 863, 37, 187, 833, 832] rfl
theorem ok_X9_farthest : zokM zTab kX9_farthest := ⟨zwdf_ok rfl _ 0 (by decide +kernel) (by decide +kernel), by decide +kernel, by decide +kernel⟩
theorem gw_X9_farthest : (kX9_farthest.2.2.2.2.2.flatMap (zrq zTab kX9_farthest.1.cls)).all goodWord = true := by decide +kernel
set_option maxRecDepth 1000000 in
theorem wd_X9_farthest : ∀ w ∈ kX9_farthest.2.2.2.2.2.flatMap (zrq zTab kX9_farthest.1.cls), w ∈ lw_tbl := zplaces [830, 833, 832, 830] rfl
theorem ok_X9_meeting : zokM zTab kX9_meeting := ⟨zwdf_ok rfl _ 0 (by decide +kernel) (by decide +kernel), by decide +kernel, by decide +kernel⟩
theorem gw_X9_meeting : (kX9_meeting.2.2.2.2.2.flatMap (zrq zTab kX9_meeting.1.cls)).all goodWord = true := by decide +kernel
set_option maxRecDepth 1000000 in
theorem wd_X9_meeting : ∀ w ∈ kX9_meeting.2.2.2.2.2.flatMap (zrq zTab kX9_meeting.1.cls), w ∈ lw_tbl := zplaces [830, 832, 833, 833, 833] rfl
theorem ok_X9_nearestTo : zokM zTab kX9_nearestTo := ⟨zwdf_ok rfl _ 0 (by decide +kernel) (by decide +kernel), by decide +kernel, by decide +kernel⟩
theorem gw_X9_nearestTo : (kX9_nearestTo.2.2.2.2.2.flatMap (zrq zTab kX9_nearestTo.1.cls)).all goodWord = true := by decide +kernel
set_option maxRecDepth 1000000 in
theorem wd_X9_nearestTo : ∀ w ∈ kX9_nearestTo.2.2.2.2.2.flatMap (zrq zTab kX9_nearestTo.1.cls), w ∈ lw_tbl := zplaces [832, 679, 678, 172, 830, 832, 679, 678, 172, 832, 832] rfl
