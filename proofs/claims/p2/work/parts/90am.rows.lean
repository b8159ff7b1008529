theorem ok_X7_isAtHand : zokM zTab kX7_isAtHand := ⟨by decide +kernel, by decide +kernel, by decide +kernel⟩
theorem gw_X7_isAtHand : (kX7_isAtHand.2.2.2.2.2.flatMap (zrq zTab kX7_isAtHand.1.cls)).all goodWord = true := by decide +kernel
theorem wd_X7_isAtHand : ∀ w ∈ kX7_isAtHand.2.2.2.2.2.flatMap (zrq zTab kX7_isAtHand.1.cls), w ∈ lw_tbl := zplaces [257, 259, 439, 437, 438, 179, 436, 439, 437, 438, 179, 436, 255, 259, 449, 447, 448, 179, 446] (by decide +kernel)
theorem ok_X7_isWithin : zokM zTab kX7_isWithin := ⟨by decide +kernel, by decide +kernel, by decide +kernel⟩
theorem gw_X7_isWithin : (kX7_isWithin.2.2.2.2.2.flatMap (zrq zTab kX7_isWithin.1.cls)).all goodWord = true := by decide +kernel
theorem wd_X7_isWithin : ∀ w ∈ kX7_isWithin.2.2.2.2.2.flatMap (zrq zTab kX7_isWithin.1.cls), w ∈ lw_tbl := zplaces [260, 260, 515, 514, 9, 174, 550] (by decide +kernel)
theorem ok_X7_faultHere : zokM zTab kX7_faultHere := ⟨by decide +kernel, by decide +kernel, by decide +kernel⟩
theorem gw_X7_faultHere : (kX7_faultHere.2.2.2.2.2.flatMap (zrq zTab kX7_faultHere.1.cls)).all goodWord = true := by decide +kernel
theorem wd_X7_faultHere : ∀ w ∈ kX7_faultHere.2.2.2.2.2.flatMap (zrq zTab kX7_faultHere.1.cls), w ∈ lw_tbl := zplaces [264, 259, 266, 259, 266, 264, 264, 259, 266] (by decide +kernel)
theorem ok_X1_init : zokM zTab kX1_init := ⟨by decide +kernel, by decide +kernel, by decide +kernel⟩
theorem gw_X1_init : (kX1_init.2.2.2.2.2.flatMap (zrq zTab kX1_init.1.cls)).all goodWord = true := by decide +kernel
theorem wd_X1_init : ∀ w ∈ kX1_init.2.2.2.2.2.flatMap (zrq zTab kX1_init.1.cls), w ∈ lw_tbl := zplaces [290, 199, 200, 291, 292, 293, 294, 295, 247, 296, 247, 297] (by decide +kernel)
theorem ok_X1_begin : zokM zTab kX1_begin := ⟨by decide +kernel, by decide +kernel, by decide +kernel⟩
theorem gw_X1_begin : (kX1_begin.2.2.2.2.2.flatMap (zrq zTab kX1_begin.1.cls)).all goodWord = true := by decide +kernel
theorem wd_X1_begin : ∀ w ∈ kX1_begin.2.2.2.2.2.flatMap (zrq zTab kX1_begin.1.cls), w ∈ lw_tbl := zplaces [291, 292, 293, 294, 296, 742, 741, 186, 740, 297, 742, 741, 186, 740] (by decide +kernel)
theorem ok_X1_doFirst : zokM zTab kX1_doFirst := ⟨by decide +kernel, by decide +kernel, by decide +kernel⟩
theorem gw_X1_doFirst : (kX1_doFirst.2.2.2.2.2.flatMap (zrq zTab kX1_doFirst.1.cls)).all goodWord = true := by decide +kernel
theorem wd_X1_doFirst : ∀ w ∈ kX1_doFirst.2.2.2.2.2.flatMap (zrq zTab kX1_doFirst.1.cls), w ∈ lw_tbl := zplaces [750, 749, 24, 175, 747] (by decide +kernel)
theorem ok_X1_doDeed : zokM zTab kX1_doDeed := ⟨by decide +kernel, by decide +kernel, by decide +kernel⟩
theorem gw_X1_doDeed : (kX1_doDeed.2.2.2.2.2.flatMap (zrq zTab kX1_doDeed.1.cls)).all goodWord = true := by decide +kernel
theorem wd_X1_doDeed : ∀ w ∈ kX1_doDeed.2.2.2.2.2.flatMap (zrq zTab kX1_doDeed.1.cls), w ∈ lw_tbl := zplaces [754, 753, 25, 175, 751, 763, 762, 26, 175, 760, 293, 293, 296, 291, 294, 758, 757, 172, 294, 294, 292, 292, 292] (by decide +kernel)
theorem ok_X1_doRead : zokM zTab kX1_doRead := ⟨by decide +kernel, by decide +kernel, by decide +kernel⟩
theorem gw_X1_doRead : (kX1_doRead.2.2.2.2.2.flatMap (zrq zTab kX1_doRead.1.cls)).all goodWord = true := by decide +kernel
theorem wd_X1_doRead : ∀ w ∈ kX1_doRead.2.2.2.2.2.flatMap (zrq zTab kX1_doRead.1.cls), w ∈ lw_tbl := zplaces [291, 653, 652, 16, 178, 297, 294, 758, 757, 172, 294, 294, 296, 291, 296, 691, 690, 17, 178] (by decide +kernel)
theorem ok_X1_doCopy : zokM zTab kX1_doCopy := ⟨by decide +kernel, by decide +kernel, by decide +kernel⟩
theorem gw_X1_doCopy : (kX1_doCopy.2.2.2.2.2.flatMap (zrq zTab kX1_doCopy.1.cls)).all goodWord = true := by decide +kernel
theorem wd_X1_doCopy : ∀ w ∈ kX1_doCopy.2.2.2.2.2.flatMap (zrq zTab kX1_doCopy.1.cls), w ∈ lw_tbl := zplaces [296, 296] (by decide +kernel)
theorem ok_X1_draw : zokM zTab kX1_draw := ⟨by decide +kernel, by decide +kernel, by decide +kernel⟩
theorem gw_X1_draw : (kX1_draw.2.2.2.2.2.flatMap (zrq zTab kX1_draw.1.cls)).all goodWord = true := by decide +kernel
theorem wd_X1_draw : ∀ w ∈ kX1_draw.2.2.2.2.2.flatMap (zrq zTab kX1_draw.1.cls), w ∈ lw_tbl := zplaces [295, 1212, 1211, 81, 175, 1209, 1212, 1211, 81, 175, 1209, 291, 291, 1212, 1211, 81, 175, 1209, 750, 749, 24, 175, 747, 1212, 1211, 81, 175, 1209, 750, 749, 24, 175, 747, 750, 749, 24, 175, 747] (by decide +kernel)
theorem ok_X1_drawBelow : zokM zTab kX1_drawBelow := ⟨by decide +kernel, by decide +kernel, by decide +kernel⟩
theorem gw_X1_drawBelow : (kX1_drawBelow.2.2.2.2.2.flatMap (zrq zTab kX1_drawBelow.1.cls)).all goodWord = true := by decide +kernel
theorem wd_X1_drawBelow : ∀ w ∈ kX1_drawBelow.2.2.2.2.2.flatMap (zrq zTab kX1_drawBelow.1.cls), w ∈ lw_tbl := zplaces [295, 1213, 295, 295] (by decide +kernel)
theorem ok_X1_tells : zokM zTab kX1_tells := ⟨by decide +kernel, by decide +kernel, by decide +kernel⟩
theorem gw_X1_tells : (kX1_tells.2.2.2.2.2.flatMap (zrq zTab kX1_tells.1.cls)).all goodWord = true := by decide +kernel
theorem wd_X1_tells : ∀ w ∈ kX1_tells.2.2.2.2.2.flatMap (zrq zTab kX1_tells.1.cls), w ∈ lw_tbl := zplaces [292, 293, 775, 774, 28, 175, 772, 779, 778, 29, 175, 776, 779, 778, 29, 175, 776, 783, 782, 30, 175, 780, 294, 296, 291, 297] (by decide +kernel)
theorem ok_X1_suits : zokM zTab kX1_suits := ⟨by decide +kernel, by decide +kernel, by decide +kernel⟩
theorem gw_X1_suits : (kX1_suits.2.2.2.2.2.flatMap (zrq zTab kX1_suits.1.cls)).all goodWord = true := by decide +kernel
theorem wd_X1_suits : ∀ w ∈ kX1_suits.2.2.2.2.2.flatMap (zrq zTab kX1_suits.1.cls), w ∈ lw_tbl := zplaces [296, 296, 293] (by decide +kernel)
theorem ok_X1_against : zokM zTab kX1_against := ⟨by decide +kernel, by decide +kernel, by decide +kernel⟩
theorem gw_X1_against : (kX1_against.2.2.2.2.2.flatMap (zrq zTab kX1_against.1.cls)).all goodWord = true := by decide +kernel
theorem wd_X1_against : ∀ w ∈ kX1_against.2.2.2.2.2.flatMap (zrq zTab kX1_against.1.cls), w ∈ lw_tbl := zplaces [783, 782, 30, 175, 780, 783, 782, 30, 175, 780] (by decide +kernel)
theorem ok_X1_driftOfCopy : zokM zTab kX1_driftOfCopy := ⟨by decide +kernel, by decide +kernel, by decide +kernel⟩
theorem gw_X1_driftOfCopy : (kX1_driftOfCopy.2.2.2.2.2.flatMap (zrq zTab kX1_driftOfCopy.1.cls)).all goodWord = true := by decide +kernel
theorem wd_X1_driftOfCopy : ∀ w ∈ kX1_driftOfCopy.2.2.2.2.2.flatMap (zrq zTab kX1_driftOfCopy.1.cls), w ∈ lw_tbl := zplaces [296, 291, 679, 678, 172] (by decide +kernel)
theorem ok_X3_init : zokM zTab kX3_init := ⟨by decide +kernel, by decide +kernel, by decide +kernel⟩
theorem gw_X3_init : (kX3_init.2.2.2.2.2.flatMap (zrq zTab kX3_init.1.cls)).all goodWord = true := by decide +kernel
theorem wd_X3_init : ∀ w ∈ kX3_init.2.2.2.2.2.flatMap (zrq zTab kX3_init.1.cls), w ∈ lw_tbl := zplaces [370, 199, 200] (by decide +kernel)
theorem ok_X0_init : zokM zTab kX0_init := ⟨by decide +kernel, by decide +kernel, by decide +kernel⟩
theorem gw_X0_init : (kX0_init.2.2.2.2.2.flatMap (zrq zTab kX0_init.1.cls)).all goodWord = true := by decide +kernel
theorem wd_X0_init : ∀ w ∈ kX0_init.2.2.2.2.2.flatMap (zrq zTab kX0_init.1.cls), w ∈ lw_tbl := zplaces [369, 368, 177, 371, 374, 381, 247, 382, 247, 383, 247, 384, 247, 385] (by decide +kernel)
