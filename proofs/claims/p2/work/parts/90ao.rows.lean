theorem ok_X0_doubled : zokM zTab kX0_doubled := ⟨by decide +kernel, by decide +kernel, by decide +kernel⟩
theorem gw_X0_doubled : (kX0_doubled.2.2.2.2.2.flatMap (zrq zTab kX0_doubled.1.cls)).all goodWord = true := by decide +kernel
theorem wd_X0_doubled : ∀ w ∈ kX0_doubled.2.2.2.2.2.flatMap (zrq zTab kX0_doubled.1.cls), w ∈ lw_tbl := zplaces [] (by decide +kernel)
theorem ok_X0_swapped : zokM zTab kX0_swapped := ⟨by decide +kernel, by decide +kernel, by decide +kernel⟩
theorem gw_X0_swapped : (kX0_swapped.2.2.2.2.2.flatMap (zrq zTab kX0_swapped.1.cls)).all goodWord = true := by decide +kernel
theorem wd_X0_swapped : ∀ w ∈ kX0_swapped.2.2.2.2.2.flatMap (zrq zTab kX0_swapped.1.cls), w ∈ lw_tbl := zplaces [] (by decide +kernel)
theorem ok_X0_turned : zokM zTab kX0_turned := ⟨by decide +kernel, by decide +kernel, by decide +kernel⟩
theorem gw_X0_turned : (kX0_turned.2.2.2.2.2.flatMap (zrq zTab kX0_turned.1.cls)).all goodWord = true := by decide +kernel
theorem wd_X0_turned : ∀ w ∈ kX0_turned.2.2.2.2.2.flatMap (zrq zTab kX0_turned.1.cls), w ∈ lw_tbl := zplaces [] (by decide +kernel)
theorem ok_X0_kinRing : zokM zTab kX0_kinRing := ⟨by decide +kernel, by decide +kernel, by decide +kernel⟩
theorem gw_X0_kinRing : (kX0_kinRing.2.2.2.2.2.flatMap (zrq zTab kX0_kinRing.1.cls)).all goodWord = true := by decide +kernel
theorem wd_X0_kinRing : ∀ w ∈ kX0_kinRing.2.2.2.2.2.flatMap (zrq zTab kX0_kinRing.1.cls), w ∈ lw_tbl := zplaces [382, 382] (by decide +kernel)
theorem ok_X0_kinUntilRing : zokM zTab kX0_kinUntilRing := ⟨by decide +kernel, by decide +kernel, by decide +kernel⟩
theorem gw_X0_kinUntilRing : (kX0_kinUntilRing.2.2.2.2.2.flatMap (zrq zTab kX0_kinUntilRing.1.cls)).all goodWord = true := by decide +kernel
theorem wd_X0_kinUntilRing : ∀ w ∈ kX0_kinUntilRing.2.2.2.2.2.flatMap (zrq zTab kX0_kinUntilRing.1.cls), w ∈ lw_tbl := zplaces [1229, 1228, 84, 178, 1226, 382] (by decide +kernel)
theorem ok_X0_isInKinRing : zokM zTab kX0_isInKinRing := ⟨by decide +kernel, by decide +kernel, by decide +kernel⟩
theorem gw_X0_isInKinRing : (kX0_isInKinRing.2.2.2.2.2.flatMap (zrq zTab kX0_isInKinRing.1.cls)).all goodWord = true := by decide +kernel
theorem wd_X0_isInKinRing : ∀ w ∈ kX0_isInKinRing.2.2.2.2.2.flatMap (zrq zTab kX0_isInKinRing.1.cls), w ∈ lw_tbl := zplaces [382] (by decide +kernel)
theorem ok_X10_init : zokM zTab kX10_init := ⟨by decide +kernel, by decide +kernel, by decide +kernel⟩
theorem gw_X10_init : (kX10_init.2.2.2.2.2.flatMap (zrq zTab kX10_init.1.cls)).all goodWord = true := by decide +kernel
theorem wd_X10_init : ∀ w ∈ kX10_init.2.2.2.2.2.flatMap (zrq zTab kX10_init.1.cls), w ∈ lw_tbl := zplaces [369, 368, 177, 590, 247, 593, 247, 595, 247, 597] (by decide +kernel)
theorem ok_X10_lineOf : zokM zTab kX10_lineOf := ⟨by decide +kernel, by decide +kernel, by decide +kernel⟩
theorem gw_X10_lineOf : (kX10_lineOf.2.2.2.2.2.flatMap (zrq zTab kX10_lineOf.1.cls)).all goodWord = true := by decide +kernel
theorem wd_X10_lineOf : ∀ w ∈ kX10_lineOf.2.2.2.2.2.flatMap (zrq zTab kX10_lineOf.1.cls), w ∈ lw_tbl := zplaces [435, 434, 8, 174, 435, 434, 8, 174, 435, 434, 8, 174, 435, 434, 8, 174, 435, 434, 8, 174, 435, 434, 8, 174] (by decide +kernel)
theorem ok_X10_fewestNumbers : zokM zTab kX10_fewestNumbers := ⟨by decide +kernel, by decide +kernel, by decide +kernel⟩
theorem gw_X10_fewestNumbers : (kX10_fewestNumbers.2.2.2.2.2.flatMap (zrq zTab kX10_fewestNumbers.1.cls)).all goodWord = true := by decide +kernel
theorem wd_X10_fewestNumbers : ∀ w ∈ kX10_fewestNumbers.2.2.2.2.2.flatMap (zrq zTab kX10_fewestNumbers.1.cls), w ∈ lw_tbl := zplaces [539, 538, 2000, 183, 583] (by decide +kernel)
theorem ok_X10_mostNumbers : zokM zTab kX10_mostNumbers := ⟨by decide +kernel, by decide +kernel, by decide +kernel⟩
theorem gw_X10_mostNumbers : (kX10_mostNumbers.2.2.2.2.2.flatMap (zrq zTab kX10_mostNumbers.1.cls)).all goodWord = true := by decide +kernel
theorem wd_X10_mostNumbers : ∀ w ∈ kX10_mostNumbers.2.2.2.2.2.flatMap (zrq zTab kX10_mostNumbers.1.cls), w ∈ lw_tbl := zplaces [] (by decide +kernel)
theorem ok_X10_beginLine : zokM zTab kX10_beginLine := ⟨by decide +kernel, by decide +kernel, by decide +kernel⟩
theorem gw_X10_beginLine : (kX10_beginLine.2.2.2.2.2.flatMap (zrq zTab kX10_beginLine.1.cls)).all goodWord = true := by decide +kernel
theorem wd_X10_beginLine : ∀ w ∈ kX10_beginLine.2.2.2.2.2.flatMap (zrq zTab kX10_beginLine.1.cls), w ∈ lw_tbl := zplaces [590, 515, 514, 9, 174, 593, 590, 595, 590, 597, 590, 590, 590] (by decide +kernel)
theorem ok_X10_takeNumber : zokM zTab kX10_takeNumber := ⟨by decide +kernel, by decide +kernel, by decide +kernel⟩
theorem gw_X10_takeNumber : (kX10_takeNumber.2.2.2.2.2.flatMap (zrq zTab kX10_takeNumber.1.cls)).all goodWord = true := by decide +kernel
theorem wd_X10_takeNumber : ∀ w ∈ kX10_takeNumber.2.2.2.2.2.flatMap (zrq zTab kX10_takeNumber.1.cls), w ∈ lw_tbl := zplaces [590, 549, 548, 11, 174, 595, 595, 515, 514, 9, 174, 597] (by decide +kernel)
theorem ok_X10_tells : zokM zTab kX10_tells := ⟨by decide +kernel, by decide +kernel, by decide +kernel⟩
theorem gw_X10_tells : (kX10_tells.2.2.2.2.2.flatMap (zrq zTab kX10_tells.1.cls)).all goodWord = true := by decide +kernel
theorem wd_X10_tells : ∀ w ∈ kX10_tells.2.2.2.2.2.flatMap (zrq zTab kX10_tells.1.cls), w ∈ lw_tbl := zplaces [590, 590, 593, 595, 597] (by decide +kernel)
theorem ok_X6_init : zokM zTab kX6_init := ⟨by decide +kernel, by decide +kernel, by decide +kernel⟩
theorem gw_X6_init : (kX6_init.2.2.2.2.2.flatMap (zrq zTab kX6_init.1.cls)).all goodWord = true := by decide +kernel
theorem wd_X6_init : ∀ w ∈ kX6_init.2.2.2.2.2.flatMap (zrq zTab kX6_init.1.cls), w ∈ lw_tbl := zplaces [369, 368, 177, 614, 247, 616, 247, 618] (by decide +kernel)
theorem ok_X6_lineOf : zokM zTab kX6_lineOf := ⟨by decide +kernel, by decide +kernel, by decide +kernel⟩
theorem gw_X6_lineOf : (kX6_lineOf.2.2.2.2.2.flatMap (zrq zTab kX6_lineOf.1.cls)).all goodWord = true := by decide +kernel
theorem wd_X6_lineOf : ∀ w ∈ kX6_lineOf.2.2.2.2.2.flatMap (zrq zTab kX6_lineOf.1.cls), w ∈ lw_tbl := zplaces [435, 434, 8, 174] (by decide +kernel)
theorem ok_X6_fewestNumbers : zokM zTab kX6_fewestNumbers := ⟨by decide +kernel, by decide +kernel, by decide +kernel⟩
theorem gw_X6_fewestNumbers : (kX6_fewestNumbers.2.2.2.2.2.flatMap (zrq zTab kX6_fewestNumbers.1.cls)).all goodWord = true := by decide +kernel
theorem wd_X6_fewestNumbers : ∀ w ∈ kX6_fewestNumbers.2.2.2.2.2.flatMap (zrq zTab kX6_fewestNumbers.1.cls), w ∈ lw_tbl := zplaces [] (by decide +kernel)
theorem ok_X6_mostNumbers : zokM zTab kX6_mostNumbers := ⟨by decide +kernel, by decide +kernel, by decide +kernel⟩
theorem gw_X6_mostNumbers : (kX6_mostNumbers.2.2.2.2.2.flatMap (zrq zTab kX6_mostNumbers.1.cls)).all goodWord = true := by decide +kernel
theorem wd_X6_mostNumbers : ∀ w ∈ kX6_mostNumbers.2.2.2.2.2.flatMap (zrq zTab kX6_mostNumbers.1.cls), w ∈ lw_tbl := zplaces [] (by decide +kernel)
theorem ok_X6_beginLine : zokM zTab kX6_beginLine := ⟨by decide +kernel, by decide +kernel, by decide +kernel⟩
theorem gw_X6_beginLine : (kX6_beginLine.2.2.2.2.2.flatMap (zrq zTab kX6_beginLine.1.cls)).all goodWord = true := by decide +kernel
theorem wd_X6_beginLine : ∀ w ∈ kX6_beginLine.2.2.2.2.2.flatMap (zrq zTab kX6_beginLine.1.cls), w ∈ lw_tbl := zplaces [614, 515, 514, 9, 174, 618, 614, 614, 614] (by decide +kernel)
theorem ok_X6_takeNumber : zokM zTab kX6_takeNumber := ⟨by decide +kernel, by decide +kernel, by decide +kernel⟩
theorem gw_X6_takeNumber : (kX6_takeNumber.2.2.2.2.2.flatMap (zrq zTab kX6_takeNumber.1.cls)).all goodWord = true := by decide +kernel
theorem wd_X6_takeNumber : ∀ w ∈ kX6_takeNumber.2.2.2.2.2.flatMap (zrq zTab kX6_takeNumber.1.cls), w ∈ lw_tbl := zplaces [549, 548, 11, 174, 614, 515, 514, 9, 174, 616, 618, 618, 557, 556, 172] (by decide +kernel)
theorem ok_X6_tells : zokM zTab kX6_tells := ⟨by decide +kernel, by decide +kernel, by decide +kernel⟩
theorem gw_X6_tells : (kX6_tells.2.2.2.2.2.flatMap (zrq zTab kX6_tells.1.cls)).all goodWord = true := by decide +kernel
theorem wd_X6_tells : ∀ w ∈ kX6_tells.2.2.2.2.2.flatMap (zrq zTab kX6_tells.1.cls), w ∈ lw_tbl := zplaces [614, 614, 616, 618] (by decide +kernel)
theorem ok_X4_init : zokM zTab kX4_init := ⟨by decide +kernel, by decide +kernel, by decide +kernel⟩
theorem gw_X4_init : (kX4_init.2.2.2.2.2.flatMap (zrq zTab kX4_init.1.cls)).all goodWord = true := by decide +kernel
theorem wd_X4_init : ∀ w ∈ kX4_init.2.2.2.2.2.flatMap (zrq zTab kX4_init.1.cls), w ∈ lw_tbl := zplaces [797, 199, 200, 798, 247, 803, 246, 804, 246, 805] (by decide +kernel)
theorem ok_X4_takeUp : zokM zTab kX4_takeUp := ⟨by decide +kernel, by decide +kernel, by decide +kernel⟩
theorem gw_X4_takeUp : (kX4_takeUp.2.2.2.2.2.flatMap (zrq zTab kX4_takeUp.1.cls)).all goodWord = true := by decide +kernel
theorem wd_X4_takeUp : ∀ w ∈ kX4_takeUp.2.2.2.2.2.flatMap (zrq zTab kX4_takeUp.1.cls), w ∈ lw_tbl := zplaces [798, 798, 803, 742, 741, 186, 819] (by decide +kernel)
