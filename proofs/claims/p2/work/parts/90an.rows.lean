theorem ok_X0_lineOf : zokM zTab kX0_lineOf := ⟨by decide +kernel, by decide +kernel, by decide +kernel⟩
theorem gw_X0_lineOf : (kX0_lineOf.2.2.2.2.2.flatMap (zrq zTab kX0_lineOf.1.cls)).all goodWord = true := by decide +kernel
theorem wd_X0_lineOf : ∀ w ∈ kX0_lineOf.2.2.2.2.2.flatMap (zrq zTab kX0_lineOf.1.cls), w ∈ lw_tbl := zplaces [435, 434, 8, 174, 435, 434, 8, 174, 435, 434, 8, 174, 435, 434, 8, 174, 435, 434, 8, 174, 435, 434, 8, 174, 435, 434, 8, 174, 435, 434, 8, 174] (by decide +kernel)
theorem ok_X0_fewestNumbers : zokM zTab kX0_fewestNumbers := ⟨by decide +kernel, by decide +kernel, by decide +kernel⟩
theorem gw_X0_fewestNumbers : (kX0_fewestNumbers.2.2.2.2.2.flatMap (zrq zTab kX0_fewestNumbers.1.cls)).all goodWord = true := by decide +kernel
theorem wd_X0_fewestNumbers : ∀ w ∈ kX0_fewestNumbers.2.2.2.2.2.flatMap (zrq zTab kX0_fewestNumbers.1.cls), w ∈ lw_tbl := zplaces [533, 532, 1999, 178, 576] (by decide +kernel)
theorem ok_X0_mostNumbers : zokM zTab kX0_mostNumbers := ⟨by decide +kernel, by decide +kernel, by decide +kernel⟩
theorem gw_X0_mostNumbers : (kX0_mostNumbers.2.2.2.2.2.flatMap (zrq zTab kX0_mostNumbers.1.cls)).all goodWord = true := by decide +kernel
theorem wd_X0_mostNumbers : ∀ w ∈ kX0_mostNumbers.2.2.2.2.2.flatMap (zrq zTab kX0_mostNumbers.1.cls), w ∈ lw_tbl := zplaces [] (by decide +kernel)
theorem ok_X0_beginLine : zokM zTab kX0_beginLine := ⟨by decide +kernel, by decide +kernel, by decide +kernel⟩
theorem gw_X0_beginLine : (kX0_beginLine.2.2.2.2.2.flatMap (zrq zTab kX0_beginLine.1.cls)).all goodWord = true := by decide +kernel
theorem wd_X0_beginLine : ∀ w ∈ kX0_beginLine.2.2.2.2.2.flatMap (zrq zTab kX0_beginLine.1.cls), w ∈ lw_tbl := zplaces [371, 374, 374, 374, 515, 514, 9, 174, 519, 518, 10, 178, 516] (by decide +kernel)
theorem ok_X0_beginStep : zokM zTab kX0_beginStep := ⟨by decide +kernel, by decide +kernel, by decide +kernel⟩
theorem gw_X0_beginStep : (kX0_beginStep.2.2.2.2.2.flatMap (zrq zTab kX0_beginStep.1.cls)).all goodWord = true := by decide +kernel
theorem wd_X0_beginStep : ∀ w ∈ kX0_beginStep.2.2.2.2.2.flatMap (zrq zTab kX0_beginStep.1.cls), w ∈ lw_tbl := zplaces [374, 515, 514, 9, 174, 383, 515, 514, 9, 174, 384, 383, 383] (by decide +kernel)
theorem ok_X0_takeNumber : zokM zTab kX0_takeNumber := ⟨by decide +kernel, by decide +kernel, by decide +kernel⟩
theorem gw_X0_takeNumber : (kX0_takeNumber.2.2.2.2.2.flatMap (zrq zTab kX0_takeNumber.1.cls)).all goodWord = true := by decide +kernel
theorem wd_X0_takeNumber : ∀ w ∈ kX0_takeNumber.2.2.2.2.2.flatMap (zrq zTab kX0_takeNumber.1.cls), w ∈ lw_tbl := zplaces [549, 548, 11, 174, 515, 514, 9, 174, 554, 553, 12, 178, 551] (by decide +kernel)
theorem ok_X0_keepNumber : zokM zTab kX0_keepNumber := ⟨by decide +kernel, by decide +kernel, by decide +kernel⟩
theorem gw_X0_keepNumber : (kX0_keepNumber.2.2.2.2.2.flatMap (zrq zTab kX0_keepNumber.1.cls)).all goodWord = true := by decide +kernel
theorem wd_X0_keepNumber : ∀ w ∈ kX0_keepNumber.2.2.2.2.2.flatMap (zrq zTab kX0_keepNumber.1.cls), w ∈ lw_tbl := zplaces [374, 371, 557, 556, 172, 371, 381, 381, 560, 559, 172, 382, 381, 383, 385, 383] (by decide +kernel)
theorem ok_X0_hasReader : zokM zTab kX0_hasReader := ⟨by decide +kernel, by decide +kernel, by decide +kernel⟩
theorem gw_X0_hasReader : (kX0_hasReader.2.2.2.2.2.flatMap (zrq zTab kX0_hasReader.1.cls)).all goodWord = true := by decide +kernel
theorem wd_X0_hasReader : ∀ w ∈ kX0_hasReader.2.2.2.2.2.flatMap (zrq zTab kX0_hasReader.1.cls), w ∈ lw_tbl := zplaces [374] (by decide +kernel)
theorem ok_X0_hasReaders : zokM zTab kX0_hasReaders := ⟨by decide +kernel, by decide +kernel, by decide +kernel⟩
theorem gw_X0_hasReaders : (kX0_hasReaders.2.2.2.2.2.flatMap (zrq zTab kX0_hasReaders.1.cls)).all goodWord = true := by decide +kernel
theorem wd_X0_hasReaders : ∀ w ∈ kX0_hasReaders.2.2.2.2.2.flatMap (zrq zTab kX0_hasReaders.1.cls), w ∈ lw_tbl := zplaces [374] (by decide +kernel)
theorem ok_X0_tells : zokM zTab kX0_tells := ⟨by decide +kernel, by decide +kernel, by decide +kernel⟩
theorem gw_X0_tells : (kX0_tells.2.2.2.2.2.flatMap (zrq zTab kX0_tells.1.cls)).all goodWord = true := by decide +kernel
theorem wd_X0_tells : ∀ w ∈ kX0_tells.2.2.2.2.2.flatMap (zrq zTab kX0_tells.1.cls), w ∈ lw_tbl := zplaces [371, 374, 382, 374, 383, 649, 648, 15, 178, 646] (by decide +kernel)
theorem ok_X0_tellsStep : zokM zTab kX0_tellsStep := ⟨by decide +kernel, by decide +kernel, by decide +kernel⟩
theorem gw_X0_tellsStep : (kX0_tellsStep.2.2.2.2.2.flatMap (zrq zTab kX0_tellsStep.1.cls)).all goodWord = true := by decide +kernel
theorem wd_X0_tellsStep : ∀ w ∈ kX0_tellsStep.2.2.2.2.2.flatMap (zrq zTab kX0_tellsStep.1.cls), w ∈ lw_tbl := zplaces [653, 652, 16, 178, 650, 383, 384, 385] (by decide +kernel)
theorem ok_X0_readBy : zokM zTab kX0_readBy := ⟨by decide +kernel, by decide +kernel, by decide +kernel⟩
theorem gw_X0_readBy : (kX0_readBy.2.2.2.2.2.flatMap (zrq zTab kX0_readBy.1.cls)).all goodWord = true := by decide +kernel
theorem wd_X0_readBy : ∀ w ∈ kX0_readBy.2.2.2.2.2.flatMap (zrq zTab kX0_readBy.1.cls), w ∈ lw_tbl := zplaces [669, 668, 172, 383, 384, 385, 696, 695, 18, 178, 693, 718, 717, 172] (by decide +kernel)
theorem ok_X0_stepOn : zokM zTab kX0_stepOn := ⟨by decide +kernel, by decide +kernel, by decide +kernel⟩
theorem gw_X0_stepOn : (kX0_stepOn.2.2.2.2.2.flatMap (zrq zTab kX0_stepOn.1.cls)).all goodWord = true := by decide +kernel
theorem wd_X0_stepOn : ∀ w ∈ kX0_stepOn.2.2.2.2.2.flatMap (zrq zTab kX0_stepOn.1.cls), w ∈ lw_tbl := zplaces [699, 698, 172, 703, 702, 19, 178, 700, 706, 705, 178, 704, 709, 708, 178, 707, 712, 711, 178, 710, 715, 714, 178, 713] (by decide +kernel)
theorem ok_X0_shifted : zokM zTab kX0_shifted := ⟨by decide +kernel, by decide +kernel, by decide +kernel⟩
theorem gw_X0_shifted : (kX0_shifted.2.2.2.2.2.flatMap (zrq zTab kX0_shifted.1.cls)).all goodWord = true := by decide +kernel
theorem wd_X0_shifted : ∀ w ∈ kX0_shifted.2.2.2.2.2.flatMap (zrq zTab kX0_shifted.1.cls), w ∈ lw_tbl := zplaces [382] (by decide +kernel)
theorem ok_X0_dropped : zokM zTab kX0_dropped := ⟨by decide +kernel, by decide +kernel, by decide +kernel⟩
theorem gw_X0_dropped : (kX0_dropped.2.2.2.2.2.flatMap (zrq zTab kX0_dropped.1.cls)).all goodWord = true := by decide +kernel
theorem wd_X0_dropped : ∀ w ∈ kX0_dropped.2.2.2.2.2.flatMap (zrq zTab kX0_dropped.1.cls), w ∈ lw_tbl := zplaces [] (by decide +kernel)
