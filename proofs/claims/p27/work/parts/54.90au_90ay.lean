theorem ok_X12_stepBy : zokM zTab kX12_stepBy := ⟨zwdf_ok rfl _ 0 (by decide +kernel) (by decide +kernel), by decide +kernel, by decide +kernel⟩
theorem gw_X12_stepBy : (kX12_stepBy.2.2.2.2.2.flatMap (zrq zTab kX12_stepBy.1.cls)).all goodWord = true := by decide +kernel
theorem wd_X12_stepBy : ∀ w ∈ kX12_stepBy.2.2.2.2.2.flatMap (zrq zTab kX12_stepBy.1.cls), w ∈ lw_tbl := zkin_wd (own := "ReadAloudModel") [85, 86, 87, 88, 89] (by decide +kernel) wK_13
theorem ok_X12_stepLine : zokM zTab kX12_stepLine := ⟨zwdf_ok rfl _ 0 (by decide +kernel) (by decide +kernel), by decide +kernel, by decide +kernel⟩
theorem gw_X12_stepLine : (kX12_stepLine.2.2.2.2.2.flatMap (zrq zTab kX12_stepLine.1.cls)).all goodWord = true := by decide +kernel
theorem wd_X12_stepLine : ∀ w ∈ kX12_stepLine.2.2.2.2.2.flatMap (zrq zTab kX12_stepLine.1.cls), w ∈ lw_tbl := zkin_wd (own := "ReadAloudModel") [82, 79, 82, 79, 80, 78, 83, 82, 82, 82, 82, 78, 82] (by decide +kernel) wK_13
theorem ok_X12_bookLine : zokM zTab kX12_bookLine := ⟨zwdf_ok rfl _ 0 (by decide +kernel) (by decide +kernel), by decide +kernel, by decide +kernel⟩
theorem gw_X12_bookLine : (kX12_bookLine.2.2.2.2.2.flatMap (zrq zTab kX12_bookLine.1.cls)).all goodWord = true := by decide +kernel
theorem wd_X12_bookLine : ∀ w ∈ kX12_bookLine.2.2.2.2.2.flatMap (zrq zTab kX12_bookLine.1.cls), w ∈ lw_tbl := zkin_wd (own := "ReadAloudModel") [90, 91, 92, 93, 94, 77, 94, 95, 82, 82, 96, 80, 92, 97, 82, 78, 93, 83, 83, 78, 57, 82, 78, 78] (by decide +kernel) wK_13
theorem ok_X12_deedBy : zokM zTab kX12_deedBy := ⟨zwdf_ok rfl _ 0 (by decide +kernel) (by decide +kernel), by decide +kernel, by decide +kernel⟩
theorem gw_X12_deedBy : (kX12_deedBy.2.2.2.2.2.flatMap (zrq zTab kX12_deedBy.1.cls)).all goodWord = true := by decide +kernel
theorem wd_X12_deedBy : ∀ w ∈ kX12_deedBy.2.2.2.2.2.flatMap (zrq zTab kX12_deedBy.1.cls), w ∈ lw_tbl := zkin_wd (own := "ReadAloudModel") [98, 99, 100, 101, 102, 103] (by decide +kernel) wK_13
theorem ok_X12_keep : zokM zTab kX12_keep := ⟨zwdf_ok rfl _ 0 (by decide +kernel) (by decide +kernel), by decide +kernel, by decide +kernel⟩
theorem gw_X12_keep : (kX12_keep.2.2.2.2.2.flatMap (zrq zTab kX12_keep.1.cls)).all goodWord = true := by decide +kernel
theorem wd_X12_keep : ∀ w ∈ kX12_keep.2.2.2.2.2.flatMap (zrq zTab kX12_keep.1.cls), w ∈ lw_tbl := zkin_wd (own := "ReadAloudModel") [82, 82, 78, 82] (by decide +kernel) wK_13
theorem ok_X12_yearLine : zokM zTab kX12_yearLine := ⟨zwdf_ok rfl _ 0 (by decide +kernel) (by decide +kernel), by decide +kernel, by decide +kernel⟩
theorem gw_X12_yearLine : (kX12_yearLine.2.2.2.2.2.flatMap (zrq zTab kX12_yearLine.1.cls)).all goodWord = true := by decide +kernel
theorem wd_X12_yearLine : ∀ w ∈ kX12_yearLine.2.2.2.2.2.flatMap (zrq zTab kX12_yearLine.1.cls), w ∈ lw_tbl := zkin_wd (own := "ReadAloudModel") [104, 77, 95, 80, 78, 78, 83, 83, 78, 81, 78, 105] (by decide +kernel) wK_13
theorem ok_X12_sightLine : zokM zTab kX12_sightLine := ⟨zwdf_ok rfl _ 0 (by decide +kernel) (by decide +kernel), by decide +kernel, by decide +kernel⟩
theorem gw_X12_sightLine : (kX12_sightLine.2.2.2.2.2.flatMap (zrq zTab kX12_sightLine.1.cls)).all goodWord = true := by decide +kernel
theorem wd_X12_sightLine : ∀ w ∈ kX12_sightLine.2.2.2.2.2.flatMap (zrq zTab kX12_sightLine.1.cls), w ∈ lw_tbl := zkin_wd (own := "ReadAloudModel") [106, 77, 95, 80, 83, 97, 105] (by decide +kernel) wK_13
theorem ok_X12_lineOf : zokM zTab kX12_lineOf := ⟨zwdf_ok rfl _ 0 (by decide +kernel) (by decide +kernel), by decide +kernel, by decide +kernel⟩
theorem gw_X12_lineOf : (kX12_lineOf.2.2.2.2.2.flatMap (zrq zTab kX12_lineOf.1.cls)).all goodWord = true := by decide +kernel
theorem wd_X12_lineOf : ∀ w ∈ kX12_lineOf.2.2.2.2.2.flatMap (zrq zTab kX12_lineOf.1.cls), w ∈ lw_tbl := zkin_wd (own := "ReadAloudModel") [107, 108, 109] (by decide +kernel) wK_13
theorem ok_X12_lines : zokM zTab kX12_lines := ⟨zwdf_ok rfl _ 0 (by decide +kernel) (by decide +kernel), by decide +kernel, by decide +kernel⟩
theorem gw_X12_lines : (kX12_lines.2.2.2.2.2.flatMap (zrq zTab kX12_lines.1.cls)).all goodWord = true := by decide +kernel
theorem wd_X12_lines : ∀ w ∈ kX12_lines.2.2.2.2.2.flatMap (zrq zTab kX12_lines.1.cls), w ∈ lw_tbl := zkin_wd (own := "ReadAloudModel") [76, 76, 67, 70, 110, 76, 77, 80] (by decide +kernel) wK_13
theorem ok_X12_readText : zokM zTab kX12_readText := ⟨zwdf_ok rfl _ 0 (by decide +kernel) (by decide +kernel), by decide +kernel, by decide +kernel⟩
theorem gw_X12_readText : (kX12_readText.2.2.2.2.2.flatMap (zrq zTab kX12_readText.1.cls)).all goodWord = true := by decide +kernel
theorem wd_X12_readText : ∀ w ∈ kX12_readText.2.2.2.2.2.flatMap (zrq zTab kX12_readText.1.cls), w ∈ lw_tbl := zkin_wd (own := "ReadAloudModel") [82, 57, 63, 74, 80, 111, 52, 72, 48, 112, 72, 73, 52] (by decide +kernel) wK_13
theorem ok_X12_store : zokM zTab kX12_store := ⟨zwdf_ok rfl _ 0 (by decide +kernel) (by decide +kernel), by decide +kernel, by decide +kernel⟩
theorem gw_X12_store : (kX12_store.2.2.2.2.2.flatMap (zrq zTab kX12_store.1.cls)).all goodWord = true := by decide +kernel
theorem wd_X12_store : ∀ w ∈ kX12_store.2.2.2.2.2.flatMap (zrq zTab kX12_store.1.cls), w ∈ lw_tbl := zkin_wd (own := "ReadAloudModel") [82] (by decide +kernel) wK_13
theorem ok_X12_text : zokM zTab kX12_text := ⟨zwdf_ok rfl _ 0 (by decide +kernel) (by decide +kernel), by decide +kernel, by decide +kernel⟩
theorem gw_X12_text : (kX12_text.2.2.2.2.2.flatMap (zrq zTab kX12_text.1.cls)).all goodWord = true := by decide +kernel
theorem wd_X12_text : ∀ w ∈ kX12_text.2.2.2.2.2.flatMap (zrq zTab kX12_text.1.cls), w ∈ lw_tbl := zkin_wd (own := "ReadAloudModel") [58, 50, 113, 50, 52, 48, 57, 53, 114, 115, 53, 53, 54, 116, 19, 55, 116, 56, 116] (by decide +kernel) wK_13
theorem ok_X12_fault : zokM zTab kX12_fault := ⟨zwdf_ok rfl _ 0 (by decide +kernel) (by decide +kernel), by decide +kernel, by decide +kernel⟩
theorem gw_X12_fault : (kX12_fault.2.2.2.2.2.flatMap (zrq zTab kX12_fault.1.cls)).all goodWord = true := by decide +kernel
theorem wd_X12_fault : ∀ w ∈ kX12_fault.2.2.2.2.2.flatMap (zrq zTab kX12_fault.1.cls), w ∈ lw_tbl := zkin_wd (own := "ReadAloudModel") [58, 52, 48] (by decide +kernel) wK_13
theorem ok_X12_of : zokM zTab kX12_of := ⟨zwdf_ok rfl _ 0 (by decide +kernel) (by decide +kernel), by decide +kernel, by decide +kernel⟩
theorem gw_X12_of : (kX12_of.2.2.2.2.2.flatMap (zrq zTab kX12_of.1.cls)).all goodWord = true := by decide +kernel
theorem wd_X12_of : ∀ w ∈ kX12_of.2.2.2.2.2.flatMap (zrq zTab kX12_of.1.cls), w ∈ lw_tbl := zkin_wd (own := "ReadAloudModel") [54, 117] (by decide +kernel) wK_13
theorem ok_X12_hand : zokM zTab kX12_hand := ⟨zwdf_ok rfl _ 0 (by decide +kernel) (by decide +kernel), by decide +kernel, by decide +kernel⟩
theorem gw_X12_hand : (kX12_hand.2.2.2.2.2.flatMap (zrq zTab kX12_hand.1.cls)).all goodWord = true := by decide +kernel
theorem wd_X12_hand : ∀ w ∈ kX12_hand.2.2.2.2.2.flatMap (zrq zTab kX12_hand.1.cls), w ∈ lw_tbl := zkin_wd (own := "ReadAloudModel") [114, 118, 119, 120, 119, 121] (by decide +kernel) wK_13
theorem ok_X12_isText : zokM zTab kX12_isText := ⟨zwdf_ok rfl _ 0 (by decide +kernel) (by decide +kernel), by decide +kernel, by decide +kernel⟩
theorem gw_X12_isText : (kX12_isText.2.2.2.2.2.flatMap (zrq zTab kX12_isText.1.cls)).all goodWord = true := by decide +kernel
theorem wd_X12_isText : ∀ w ∈ kX12_isText.2.2.2.2.2.flatMap (zrq zTab kX12_isText.1.cls), w ∈ lw_tbl := zkin_wd (own := "ReadAloudModel") [57] (by decide +kernel) wK_13
theorem ok_X12_isReader : zokM zTab kX12_isReader := ⟨zwdf_ok rfl _ 0 (by decide +kernel) (by decide +kernel), by decide +kernel, by decide +kernel⟩
theorem gw_X12_isReader : (kX12_isReader.2.2.2.2.2.flatMap (zrq zTab kX12_isReader.1.cls)).all goodWord = true := by decide +kernel
theorem wd_X12_isReader : ∀ w ∈ kX12_isReader.2.2.2.2.2.flatMap (zrq zTab kX12_isReader.1.cls), w ∈ lw_tbl := zkin_wd (own := "ReadAloudModel") [122, 57] (by decide +kernel) wK_13
theorem ok_X12_sizeOf : zokM zTab kX12_sizeOf := ⟨zwdf_ok rfl _ 0 (by decide +kernel) (by decide +kernel), by decide +kernel, by decide +kernel⟩
theorem gw_X12_sizeOf : (kX12_sizeOf.2.2.2.2.2.flatMap (zrq zTab kX12_sizeOf.1.cls)).all goodWord = true := by decide +kernel
theorem wd_X12_sizeOf : ∀ w ∈ kX12_sizeOf.2.2.2.2.2.flatMap (zrq zTab kX12_sizeOf.1.cls), w ∈ lw_tbl := zkin_wd (own := "ReadAloudModel") [84] (by decide +kernel) wK_13
theorem ok_X12_spell : zokM zTab kX12_spell := ⟨zwdf_ok rfl _ 0 (by decide +kernel) (by decide +kernel), by decide +kernel, by decide +kernel⟩
theorem gw_X12_spell : (kX12_spell.2.2.2.2.2.flatMap (zrq zTab kX12_spell.1.cls)).all goodWord = true := by decide +kernel
theorem wd_X12_spell : ∀ w ∈ kX12_spell.2.2.2.2.2.flatMap (zrq zTab kX12_spell.1.cls), w ∈ lw_tbl := zkin_wd (own := "ReadAloudModel") [123, 84] (by decide +kernel) wK_13
theorem ok_X12_numberOf : zokM zTab kX12_numberOf := ⟨zwdf_ok rfl _ 0 (by decide +kernel) (by decide +kernel), by decide +kernel, by decide +kernel⟩
theorem gw_X12_numberOf : (kX12_numberOf.2.2.2.2.2.flatMap (zrq zTab kX12_numberOf.1.cls)).all goodWord = true := by decide +kernel
theorem wd_X12_numberOf : ∀ w ∈ kX12_numberOf.2.2.2.2.2.flatMap (zrq zTab kX12_numberOf.1.cls), w ∈ lw_tbl := zkin_wd (own := "ReadAloudModel") [124, 84] (by decide +kernel) wK_13
theorem ok_X12_shift : zokM zTab kX12_shift := ⟨zwdf_ok rfl _ 0 (by decide +kernel) (by decide +kernel), by decide +kernel, by decide +kernel⟩
theorem gw_X12_shift : (kX12_shift.2.2.2.2.2.flatMap (zrq zTab kX12_shift.1.cls)).all goodWord = true := by decide +kernel
theorem wd_X12_shift : ∀ w ∈ kX12_shift.2.2.2.2.2.flatMap (zrq zTab kX12_shift.1.cls), w ∈ lw_tbl := zkin_wd (own := "ReadAloudModel") [125, 124, 124, 119, 124] (by decide +kernel) wK_13
theorem ok_X12_drop : zokM zTab kX12_drop := ⟨zwdf_ok rfl _ 0 (by decide +kernel) (by decide +kernel), by decide +kernel, by decide +kernel⟩
theorem gw_X12_drop : (kX12_drop.2.2.2.2.2.flatMap (zrq zTab kX12_drop.1.cls)).all goodWord = true := by decide +kernel
theorem wd_X12_drop : ∀ w ∈ kX12_drop.2.2.2.2.2.flatMap (zrq zTab kX12_drop.1.cls), w ∈ lw_tbl := zkin_wd (own := "ReadAloudModel") [125, 125, 124, 124, 125, 126] (by decide +kernel) wK_13
theorem ok_X12_twice : zokM zTab kX12_twice := ⟨zwdf_ok rfl _ 0 (by decide +kernel) (by decide +kernel), by decide +kernel, by decide +kernel⟩
theorem gw_X12_twice : (kX12_twice.2.2.2.2.2.flatMap (zrq zTab kX12_twice.1.cls)).all goodWord = true := by decide +kernel
theorem wd_X12_twice : ∀ w ∈ kX12_twice.2.2.2.2.2.flatMap (zrq zTab kX12_twice.1.cls), w ∈ lw_tbl := zkin_wd (own := "ReadAloudModel") [125, 125, 125, 124, 124, 125, 126] (by decide +kernel) wK_13
theorem ok_X12_swap : zokM zTab kX12_swap := ⟨zwdf_ok rfl _ 0 (by decide +kernel) (by decide +kernel), by decide +kernel, by decide +kernel⟩
theorem gw_X12_swap : (kX12_swap.2.2.2.2.2.flatMap (zrq zTab kX12_swap.1.cls)).all goodWord = true := by decide +kernel
theorem wd_X12_swap : ∀ w ∈ kX12_swap.2.2.2.2.2.flatMap (zrq zTab kX12_swap.1.cls), w ∈ lw_tbl := zkin_wd (own := "ReadAloudModel") [124, 124, 124, 124] (by decide +kernel) wK_13
theorem ok_X12_step : zokM zTab kX12_step := ⟨zwdf_ok rfl _ 0 (by decide +kernel) (by decide +kernel), by decide +kernel, by decide +kernel⟩
theorem gw_X12_step : (kX12_step.2.2.2.2.2.flatMap (zrq zTab kX12_step.1.cls)).all goodWord = true := by decide +kernel
theorem wd_X12_step : ∀ w ∈ kX12_step.2.2.2.2.2.flatMap (zrq zTab kX12_step.1.cls), w ∈ lw_tbl := zkin_wd (own := "ReadAloudModel") [127, 128, 129, 125, 130, 125, 130] (by decide +kernel) wK_13
theorem ok_X12_readBy : zokM zTab kX12_readBy := ⟨zwdf_ok rfl _ 0 (by decide +kernel) (by decide +kernel), by decide +kernel, by decide +kernel⟩
theorem gw_X12_readBy : (kX12_readBy.2.2.2.2.2.flatMap (zrq zTab kX12_readBy.1.cls)).all goodWord = true := by decide +kernel
theorem wd_X12_readBy : ∀ w ∈ kX12_readBy.2.2.2.2.2.flatMap (zrq zTab kX12_readBy.1.cls), w ∈ lw_tbl := zkin_wd (own := "ReadAloudModel") [124, 131, 123, 126, 119, 119, 119, 132, 125, 133] (by decide +kernel) wK_13
theorem ok_X12_apart : zokM zTab kX12_apart := ⟨zwdf_ok rfl _ 0 (by decide +kernel) (by decide +kernel), by decide +kernel, by decide +kernel⟩
theorem gw_X12_apart : (kX12_apart.2.2.2.2.2.flatMap (zrq zTab kX12_apart.1.cls)).all goodWord = true := by decide +kernel
theorem wd_X12_apart : ∀ w ∈ kX12_apart.2.2.2.2.2.flatMap (zrq zTab kX12_apart.1.cls), w ∈ lw_tbl := zkin_wd (own := "ReadAloudModel") [123, 123, 124, 131, 134, 131, 135, 124, 134, 135, 135, 96, 96, 135, 135] (by decide +kernel) wK_13
theorem ok_X12_book : zokM zTab kX12_book := ⟨zwdf_ok rfl _ 0 (by decide +kernel) (by decide +kernel), by decide +kernel, by decide +kernel⟩
theorem gw_X12_book : (kX12_book.2.2.2.2.2.flatMap (zrq zTab kX12_book.1.cls)).all goodWord = true := by decide +kernel
theorem wd_X12_book : ∀ w ∈ kX12_book.2.2.2.2.2.flatMap (zrq zTab kX12_book.1.cls), w ∈ lw_tbl := zkin_wd (own := "ReadAloudModel") [58, 136, 57, 119, 122, 57, 119, 122, 57, 119, 119, 137, 122] (by decide +kernel) wK_13
theorem ok_X12_word : zokM zTab kX12_word := ⟨zwdf_ok rfl _ 0 (by decide +kernel) (by decide +kernel), by decide +kernel, by decide +kernel⟩
theorem gw_X12_word : (kX12_word.2.2.2.2.2.flatMap (zrq zTab kX12_word.1.cls)).all goodWord = true := by decide +kernel
theorem wd_X12_word : ∀ w ∈ kX12_word.2.2.2.2.2.flatMap (zrq zTab kX12_word.1.cls), w ∈ lw_tbl := zkin_wd (own := "ReadAloudModel") [58, 138, 123, 57, 124, 131, 123, 124] (by decide +kernel) wK_13
theorem ok_X12_drift : zokM zTab kX12_drift := ⟨zwdf_ok rfl _ 0 (by decide +kernel) (by decide +kernel), by decide +kernel, by decide +kernel⟩
theorem gw_X12_drift : (kX12_drift.2.2.2.2.2.flatMap (zrq zTab kX12_drift.1.cls)).all goodWord = true := by decide +kernel
theorem wd_X12_drift : ∀ w ∈ kX12_drift.2.2.2.2.2.flatMap (zrq zTab kX12_drift.1.cls), w ∈ lw_tbl := zkin_wd (own := "ReadAloudModel") [58, 138, 138, 139] (by decide +kernel) wK_13
theorem ok_X12_read : zokM zTab kX12_read := ⟨zwdf_ok rfl _ 0 (by decide +kernel) (by decide +kernel), by decide +kernel, by decide +kernel⟩
theorem gw_X12_read : (kX12_read.2.2.2.2.2.flatMap (zrq zTab kX12_read.1.cls)).all goodWord = true := by decide +kernel
theorem wd_X12_read : ∀ w ∈ kX12_read.2.2.2.2.2.flatMap (zrq zTab kX12_read.1.cls), w ∈ lw_tbl := zkin_wd (own := "ReadAloudModel") [58, 136, 138, 140, 141] (by decide +kernel) wK_13
theorem ok_X12_deeds : zokM zTab kX12_deeds := ⟨zwdf_ok rfl _ 0 (by decide +kernel) (by decide +kernel), by decide +kernel, by decide +kernel⟩
theorem gw_X12_deeds : (kX12_deeds.2.2.2.2.2.flatMap (zrq zTab kX12_deeds.1.cls)).all goodWord = true := by decide +kernel
theorem wd_X12_deeds : ∀ w ∈ kX12_deeds.2.2.2.2.2.flatMap (zrq zTab kX12_deeds.1.cls), w ∈ lw_tbl := zkin_wd (own := "ReadAloudModel") [55, 142] (by decide +kernel) wK_13
theorem ok_X12_deedOf : zokM zTab kX12_deedOf := ⟨zwdf_ok rfl _ 0 (by decide +kernel) (by decide +kernel), by decide +kernel, by decide +kernel⟩
theorem gw_X12_deedOf : (kX12_deedOf.2.2.2.2.2.flatMap (zrq zTab kX12_deedOf.1.cls)).all goodWord = true := by decide +kernel
theorem wd_X12_deedOf : ∀ w ∈ kX12_deedOf.2.2.2.2.2.flatMap (zrq zTab kX12_deedOf.1.cls), w ∈ lw_tbl := zkin_wd (own := "ReadAloudModel") [55, 142] (by decide +kernel) wK_13
theorem ok_X12_hasYear : zokM zTab kX12_hasYear := ⟨zwdf_ok rfl _ 0 (by decide +kernel) (by decide +kernel), by decide +kernel, by decide +kernel⟩
theorem gw_X12_hasYear : (kX12_hasYear.2.2.2.2.2.flatMap (zrq zTab kX12_hasYear.1.cls)).all goodWord = true := by decide +kernel
theorem wd_X12_hasYear : ∀ w ∈ kX12_hasYear.2.2.2.2.2.flatMap (zrq zTab kX12_hasYear.1.cls), w ∈ lw_tbl := zkin_wd (own := "ReadAloudModel") [143, 114] (by decide +kernel) wK_13
theorem ok_X12_deed : zokM zTab kX12_deed := ⟨zwdf_ok rfl _ 0 (by decide +kernel) (by decide +kernel), by decide +kernel, by decide +kernel⟩
theorem gw_X12_deed : (kX12_deed.2.2.2.2.2.flatMap (zrq zTab kX12_deed.1.cls)).all goodWord = true := by decide +kernel
theorem wd_X12_deed : ∀ w ∈ kX12_deed.2.2.2.2.2.flatMap (zrq zTab kX12_deed.1.cls), w ∈ lw_tbl := zkin_wd (own := "ReadAloudModel") [58, 144, 145, 145, 57, 57, 146] (by decide +kernel) wK_13
theorem ok_X12_begin : zokM zTab kX12_begin := ⟨zwdf_ok rfl _ 0 (by decide +kernel) (by decide +kernel), by decide +kernel, by decide +kernel⟩
theorem gw_X12_begin : (kX12_begin.2.2.2.2.2.flatMap (zrq zTab kX12_begin.1.cls)).all goodWord = true := by decide +kernel
theorem wd_X12_begin : ∀ w ∈ kX12_begin.2.2.2.2.2.flatMap (zrq zTab kX12_begin.1.cls), w ∈ lw_tbl := zkin_wd (own := "ReadAloudModel") [147, 137, 148, 149, 150, 151] (by decide +kernel) wK_13
theorem ok_X12_reads : zokM zTab kX12_reads := ⟨zwdf_ok rfl _ 0 (by decide +kernel) (by decide +kernel), by decide +kernel, by decide +kernel⟩
theorem gw_X12_reads : (kX12_reads.2.2.2.2.2.flatMap (zrq zTab kX12_reads.1.cls)).all goodWord = true := by decide +kernel
theorem wd_X12_reads : ∀ w ∈ kX12_reads.2.2.2.2.2.flatMap (zrq zTab kX12_reads.1.cls), w ∈ lw_tbl := zkin_wd (own := "ReadAloudModel") [140, 147, 152, 153, 147, 147, 141, 152, 151, 148] (by decide +kernel) wK_13
theorem ok_X12_hushes : zokM zTab kX12_hushes := ⟨zwdf_ok rfl _ 0 (by decide +kernel) (by decide +kernel), by decide +kernel, by decide +kernel⟩
theorem gw_X12_hushes : (kX12_hushes.2.2.2.2.2.flatMap (zrq zTab kX12_hushes.1.cls)).all goodWord = true := by decide +kernel
theorem wd_X12_hushes : ∀ w ∈ kX12_hushes.2.2.2.2.2.flatMap (zrq zTab kX12_hushes.1.cls), w ∈ lw_tbl := zkin_wd (own := "ReadAloudModel") [152, 153, 152, 151] (by decide +kernel) wK_13
theorem ok_X12_goesOn : zokM zTab kX12_goesOn := ⟨zwdf_ok rfl _ 0 (by decide +kernel) (by decide +kernel), by decide +kernel, by decide +kernel⟩
theorem gw_X12_goesOn : (kX12_goesOn.2.2.2.2.2.flatMap (zrq zTab kX12_goesOn.1.cls)).all goodWord = true := by decide +kernel
theorem wd_X12_goesOn : ∀ w ∈ kX12_goesOn.2.2.2.2.2.flatMap (zrq zTab kX12_goesOn.1.cls), w ∈ lw_tbl := zkin_wd (own := "ReadAloudModel") [154, 154, 149] (by decide +kernel) wK_13
theorem ok_X12_does : zokM zTab kX12_does := ⟨zwdf_ok rfl _ 0 (by decide +kernel) (by decide +kernel), by decide +kernel, by decide +kernel⟩
theorem gw_X12_does : (kX12_does.2.2.2.2.2.flatMap (zrq zTab kX12_does.1.cls)).all goodWord = true := by decide +kernel
theorem wd_X12_does : ∀ w ∈ kX12_does.2.2.2.2.2.flatMap (zrq zTab kX12_does.1.cls), w ∈ lw_tbl := zkin_wd (own := "ReadAloudModel") [146, 146, 146, 155, 147, 146, 147, 150, 147, 156, 147, 137, 156, 157, 158] (by decide +kernel) wK_13
theorem ok_X12_play : zokM zTab kX12_play := ⟨zwdf_ok rfl _ 0 (by decide +kernel) (by decide +kernel), by decide +kernel, by decide +kernel⟩
theorem gw_X12_play : (kX12_play.2.2.2.2.2.flatMap (zrq zTab kX12_play.1.cls)).all goodWord = true := by decide +kernel
theorem wd_X12_play : ∀ w ∈ kX12_play.2.2.2.2.2.flatMap (zrq zTab kX12_play.1.cls), w ∈ lw_tbl := zkin_wd (own := "ReadAloudModel") [159, 160] (by decide +kernel) wK_13
theorem ok_X12_layAll : zokM zTab kX12_layAll := ⟨zwdf_ok rfl _ 0 (by decide +kernel) (by decide +kernel), by decide +kernel, by decide +kernel⟩
theorem gw_X12_layAll : (kX12_layAll.2.2.2.2.2.flatMap (zrq zTab kX12_layAll.1.cls)).all goodWord = true := by decide +kernel
theorem wd_X12_layAll : ∀ w ∈ kX12_layAll.2.2.2.2.2.flatMap (zrq zTab kX12_layAll.1.cls), w ∈ lw_tbl := zkin_wd (own := "ReadAloudModel") [144, 136] (by decide +kernel) wK_13
theorem ok_X12_stop : zokM zTab kX12_stop := ⟨zwdf_ok rfl _ 0 (by decide +kernel) (by decide +kernel), by decide +kernel, by decide +kernel⟩
theorem gw_X12_stop : (kX12_stop.2.2.2.2.2.flatMap (zrq zTab kX12_stop.1.cls)).all goodWord = true := by decide +kernel
theorem wd_X12_stop : ∀ w ∈ kX12_stop.2.2.2.2.2.flatMap (zrq zTab kX12_stop.1.cls), w ∈ lw_tbl := zkin_wd (own := "ReadAloudModel") [58, 161, 145, 162] (by decide +kernel) wK_13
theorem ok_X12_ofState : zokM zTab kX12_ofState := ⟨zwdf_ok rfl _ 0 (by decide +kernel) (by decide +kernel), by decide +kernel, by decide +kernel⟩
theorem gw_X12_ofState : (kX12_ofState.2.2.2.2.2.flatMap (zrq zTab kX12_ofState.1.cls)).all goodWord = true := by decide +kernel
theorem wd_X12_ofState : ∀ w ∈ kX12_ofState.2.2.2.2.2.flatMap (zrq zTab kX12_ofState.1.cls), w ∈ lw_tbl := zkin_wd (own := "ReadAloudModel") [57, 147, 122, 57, 148, 147, 147, 156, 147, 137, 139, 147, 137, 139, 154, 156, 147, 137, 139, 152] (by decide +kernel) wK_13
theorem ok_X12_state : zokM zTab kX12_state := ⟨zwdf_ok rfl _ 0 (by decide +kernel) (by decide +kernel), by decide +kernel, by decide +kernel⟩
theorem gw_X12_state : (kX12_state.2.2.2.2.2.flatMap (zrq zTab kX12_state.1.cls)).all goodWord = true := by decide +kernel
theorem wd_X12_state : ∀ w ∈ kX12_state.2.2.2.2.2.flatMap (zrq zTab kX12_state.1.cls), w ∈ lw_tbl := zkin_wd (own := "ReadAloudModel") [58, 161, 145, 57, 162, 163] (by decide +kernel) wK_13
theorem ok_X12_layMade : zokM zTab kX12_layMade := ⟨zwdf_ok rfl _ 0 (by decide +kernel) (by decide +kernel), by decide +kernel, by decide +kernel⟩
theorem gw_X12_layMade : (kX12_layMade.2.2.2.2.2.flatMap (zrq zTab kX12_layMade.1.cls)).all goodWord = true := by decide +kernel
theorem wd_X12_layMade : ∀ w ∈ kX12_layMade.2.2.2.2.2.flatMap (zrq zTab kX12_layMade.1.cls), w ∈ lw_tbl := zkin_wd (own := "ReadAloudModel") [122, 164, 117, 165, 141, 117, 19] (by decide +kernel) wK_13
theorem ok_X12_handAll : zokM zTab kX12_handAll := ⟨zwdf_ok rfl _ 0 (by decide +kernel) (by decide +kernel), by decide +kernel, by decide +kernel⟩
theorem gw_X12_handAll : (kX12_handAll.2.2.2.2.2.flatMap (zrq zTab kX12_handAll.1.cls)).all goodWord = true := by decide +kernel
theorem wd_X12_handAll : ∀ w ∈ kX12_handAll.2.2.2.2.2.flatMap (zrq zTab kX12_handAll.1.cls), w ∈ lw_tbl := zkin_wd (own := "ReadAloudModel") [136, 166] (by decide +kernel) wK_13
theorem ok_X12_findFar : zokM zTab kX12_findFar := ⟨zwdf_ok rfl _ 0 (by decide +kernel) (by decide +kernel), by decide +kernel, by decide +kernel⟩
theorem gw_X12_findFar : (kX12_findFar.2.2.2.2.2.flatMap (zrq zTab kX12_findFar.1.cls)).all goodWord = true := by decide +kernel
theorem wd_X12_findFar : ∀ w ∈ kX12_findFar.2.2.2.2.2.flatMap (zrq zTab kX12_findFar.1.cls), w ∈ lw_tbl := zkin_wd (own := "ReadAloudModel") [167, 168, 169, 170, 122, 165, 168, 153, 167, 168, 168, 170, 170, 169] (by decide +kernel) wK_13
theorem ok_X12_findBack : zokM zTab kX12_findBack := ⟨zwdf_ok rfl _ 0 (by decide +kernel) (by decide +kernel), by decide +kernel, by decide +kernel⟩
theorem gw_X12_findBack : (kX12_findBack.2.2.2.2.2.flatMap (zrq zTab kX12_findBack.1.cls)).all goodWord = true := by decide +kernel
theorem wd_X12_findBack : ∀ w ∈ kX12_findBack.2.2.2.2.2.flatMap (zrq zTab kX12_findBack.1.cls), w ∈ lw_tbl := zkin_wd (own := "ReadAloudModel") [171, 167, 122, 171, 165, 171, 171] (by decide +kernel) wK_13
theorem ok_X12_making : zokM zTab kX12_making := ⟨zwdf_ok rfl _ 0 (by decide +kernel) (by decide +kernel), by decide +kernel, by decide +kernel⟩
theorem gw_X12_making : (kX12_making.2.2.2.2.2.flatMap (zrq zTab kX12_making.1.cls)).all goodWord = true := by decide +kernel
theorem wd_X12_making : ∀ w ∈ kX12_making.2.2.2.2.2.flatMap (zrq zTab kX12_making.1.cls), w ∈ lw_tbl := zkin_wd (own := "ReadAloudModel") [58, 138, 138, 172, 173, 171, 167, 57, 171, 165, 171, 165] (by decide +kernel) wK_13
theorem ok_X12_ring : zokM zTab kX12_ring := ⟨zwdf_ok rfl _ 0 (by decide +kernel) (by decide +kernel), by decide +kernel, by decide +kernel⟩
theorem gw_X12_ring : (kX12_ring.2.2.2.2.2.flatMap (zrq zTab kX12_ring.1.cls)).all goodWord = true := by decide +kernel
theorem wd_X12_ring : ∀ w ∈ kX12_ring.2.2.2.2.2.flatMap (zrq zTab kX12_ring.1.cls), w ∈ lw_tbl := zkin_wd (own := "ReadAloudModel") [58, 138, 172, 174, 175, 167, 122, 165, 174, 96, 167] (by decide +kernel) wK_13
theorem ok_X12_reach : zokM zTab kX12_reach := ⟨zwdf_ok rfl _ 0 (by decide +kernel) (by decide +kernel), by decide +kernel, by decide +kernel⟩
theorem gw_X12_reach : (kX12_reach.2.2.2.2.2.flatMap (zrq zTab kX12_reach.1.cls)).all goodWord = true := by decide +kernel
theorem wd_X12_reach : ∀ w ∈ kX12_reach.2.2.2.2.2.flatMap (zrq zTab kX12_reach.1.cls), w ∈ lw_tbl := zkin_wd (own := "ReadAloudModel") [58, 138, 172, 174, 175, 174, 168, 170, 170] (by decide +kernel) wK_13
theorem ok_X12_isKept : zokM zTab kX12_isKept := ⟨zwdf_ok rfl _ 0 (by decide +kernel) (by decide +kernel), by decide +kernel, by decide +kernel⟩
theorem gw_X12_isKept : (kX12_isKept.2.2.2.2.2.flatMap (zrq zTab kX12_isKept.1.cls)).all goodWord = true := by decide +kernel
theorem wd_X12_isKept : ∀ w ∈ kX12_isKept.2.2.2.2.2.flatMap (zrq zTab kX12_isKept.1.cls), w ∈ lw_tbl := zkin_wd (own := "ReadAloudModel") [122, 153, 165] (by decide +kernel) wK_13
theorem ok_X12_sound : zokM zTab kX12_sound := ⟨zwdf_ok rfl _ 0 (by decide +kernel) (by decide +kernel), by decide +kernel, by decide +kernel⟩
theorem gw_X12_sound : (kX12_sound.2.2.2.2.2.flatMap (zrq zTab kX12_sound.1.cls)).all goodWord = true := by decide +kernel
theorem wd_X12_sound : ∀ w ∈ kX12_sound.2.2.2.2.2.flatMap (zrq zTab kX12_sound.1.cls), w ∈ lw_tbl := zkin_wd (own := "ReadAloudModel") [58, 136, 122, 57, 166, 176] (by decide +kernel) wK_13
theorem ok_X12_like : zokM zTab kX12_like := ⟨zwdf_ok rfl _ 0 (by decide +kernel) (by decide +kernel), by decide +kernel, by decide +kernel⟩
theorem gw_X12_like : (kX12_like.2.2.2.2.2.flatMap (zrq zTab kX12_like.1.cls)).all goodWord = true := by decide +kernel
theorem wd_X12_like : ∀ w ∈ kX12_like.2.2.2.2.2.flatMap (zrq zTab kX12_like.1.cls), w ∈ lw_tbl := zkin_wd (own := "ReadAloudModel") [58, 136, 140, 140, 166, 165, 165, 165, 165] (by decide +kernel) wK_13
theorem ok_X12_findComes : zokM zTab kX12_findComes := ⟨zwdf_ok rfl _ 0 (by decide +kernel) (by decide +kernel), by decide +kernel, by decide +kernel⟩
theorem gw_X12_findComes : (kX12_findComes.2.2.2.2.2.flatMap (zrq zTab kX12_findComes.1.cls)).all goodWord = true := by decide +kernel
theorem wd_X12_findComes : ∀ w ∈ kX12_findComes.2.2.2.2.2.flatMap (zrq zTab kX12_findComes.1.cls), w ∈ lw_tbl := zkin_wd (own := "ReadAloudModel") [177, 177, 165] (by decide +kernel) wK_13
theorem ok_X12_unread : zokM zTab kX12_unread := ⟨zwdf_ok rfl _ 0 (by decide +kernel) (by decide +kernel), by decide +kernel, by decide +kernel⟩
theorem gw_X12_unread : (kX12_unread.2.2.2.2.2.flatMap (zrq zTab kX12_unread.1.cls)).all goodWord = true := by decide +kernel
theorem wd_X12_unread : ∀ w ∈ kX12_unread.2.2.2.2.2.flatMap (zrq zTab kX12_unread.1.cls), w ∈ lw_tbl := zkin_wd (own := "ReadAloudModel") [178, 177] (by decide +kernel) wK_13
theorem ok_X12_fallAway : zokM zTab kX12_fallAway := ⟨zwdf_ok rfl _ 0 (by decide +kernel) (by decide +kernel), by decide +kernel, by decide +kernel⟩
theorem gw_X12_fallAway : (kX12_fallAway.2.2.2.2.2.flatMap (zrq zTab kX12_fallAway.1.cls)).all goodWord = true := by decide +kernel
theorem wd_X12_fallAway : ∀ w ∈ kX12_fallAway.2.2.2.2.2.flatMap (zrq zTab kX12_fallAway.1.cls), w ∈ lw_tbl := zkin_wd (own := "ReadAloudModel") [178, 177, 168, 165, 168, 177, 177, 168] (by decide +kernel) wK_13
theorem ok_X12_tail : zokM zTab kX12_tail := ⟨zwdf_ok rfl _ 0 (by decide +kernel) (by decide +kernel), by decide +kernel, by decide +kernel⟩
theorem gw_X12_tail : (kX12_tail.2.2.2.2.2.flatMap (zrq zTab kX12_tail.1.cls)).all goodWord = true := by decide +kernel
theorem wd_X12_tail : ∀ w ∈ kX12_tail.2.2.2.2.2.flatMap (zrq zTab kX12_tail.1.cls), w ∈ lw_tbl := zkin_wd (own := "ReadAloudModel") [174, 174, 168, 174, 165, 168, 174, 168, 179] (by decide +kernel) wK_13
theorem ok_X12_longest : zokM zTab kX12_longest := ⟨zwdf_ok rfl _ 0 (by decide +kernel) (by decide +kernel), by decide +kernel, by decide +kernel⟩
theorem gw_X12_longest : (kX12_longest.2.2.2.2.2.flatMap (zrq zTab kX12_longest.1.cls)).all goodWord = true := by decide +kernel
theorem wd_X12_longest : ∀ w ∈ kX12_longest.2.2.2.2.2.flatMap (zrq zTab kX12_longest.1.cls), w ∈ lw_tbl := zkin_wd (own := "ReadAloudModel") [177, 177, 165, 179] (by decide +kernel) wK_13
theorem ok_X12_stays : zokM zTab kX12_stays := ⟨zwdf_ok rfl _ 0 (by decide +kernel) (by decide +kernel), by decide +kernel, by decide +kernel⟩
theorem gw_X12_stays : (kX12_stays.2.2.2.2.2.flatMap (zrq zTab kX12_stays.1.cls)).all goodWord = true := by decide +kernel
theorem wd_X12_stays : ∀ w ∈ kX12_stays.2.2.2.2.2.flatMap (zrq zTab kX12_stays.1.cls), w ∈ lw_tbl := zkin_wd (own := "ReadAloudModel") [165] (by decide +kernel) wK_13
theorem ok_X12_orbits : zokM zTab kX12_orbits := ⟨zwdf_ok rfl _ 0 (by decide +kernel) (by decide +kernel), by decide +kernel, by decide +kernel⟩
theorem gw_X12_orbits : (kX12_orbits.2.2.2.2.2.flatMap (zrq zTab kX12_orbits.1.cls)).all goodWord = true := by decide +kernel
theorem wd_X12_orbits : ∀ w ∈ kX12_orbits.2.2.2.2.2.flatMap (zrq zTab kX12_orbits.1.cls), w ∈ lw_tbl := zkin_wd (own := "ReadAloudModel") [58, 136, 140, 57, 166, 180, 181, 182, 183, 184] (by decide +kernel) wK_13
theorem ok_X12_layDrifts : zokM zTab kX12_layDrifts := ⟨zwdf_ok rfl _ 0 (by decide +kernel) (by decide +kernel), by decide +kernel, by decide +kernel⟩
theorem gw_X12_layDrifts : (kX12_layDrifts.2.2.2.2.2.flatMap (zrq zTab kX12_layDrifts.1.cls)).all goodWord = true := by decide +kernel
theorem wd_X12_layDrifts : ∀ w ∈ kX12_layDrifts.2.2.2.2.2.flatMap (zrq zTab kX12_layDrifts.1.cls), w ∈ lw_tbl := zkin_wd (own := "ReadAloudModel") [185, 137, 139] (by decide +kernel) wK_13
theorem ok_X12_best : zokM zTab kX12_best := ⟨zwdf_ok rfl _ 0 (by decide +kernel) (by decide +kernel), by decide +kernel, by decide +kernel⟩
theorem gw_X12_best : (kX12_best.2.2.2.2.2.flatMap (zrq zTab kX12_best.1.cls)).all goodWord = true := by decide +kernel
theorem wd_X12_best : ∀ w ∈ kX12_best.2.2.2.2.2.flatMap (zrq zTab kX12_best.1.cls), w ∈ lw_tbl := zkin_wd (own := "ReadAloudModel") [167, 122, 185, 165, 153, 179, 96, 185] (by decide +kernel) wK_13
theorem ok_X12_everybody : zokM zTab kX12_everybody := ⟨zwdf_ok rfl _ 0 (by decide +kernel) (by decide +kernel), by decide +kernel, by decide +kernel⟩
theorem gw_X12_everybody : (kX12_everybody.2.2.2.2.2.flatMap (zrq zTab kX12_everybody.1.cls)).all goodWord = true := by decide +kernel
theorem wd_X12_everybody : ∀ w ∈ kX12_everybody.2.2.2.2.2.flatMap (zrq zTab kX12_everybody.1.cls), w ∈ lw_tbl := zkin_wd (own := "ReadAloudModel") [122] (by decide +kernel) wK_13
theorem ok_X12_rotaAt : zokM zTab kX12_rotaAt := ⟨zwdf_ok rfl _ 0 (by decide +kernel) (by decide +kernel), by decide +kernel, by decide +kernel⟩
theorem gw_X12_rotaAt : (kX12_rotaAt.2.2.2.2.2.flatMap (zrq zTab kX12_rotaAt.1.cls)).all goodWord = true := by decide +kernel
theorem wd_X12_rotaAt : ∀ w ∈ kX12_rotaAt.2.2.2.2.2.flatMap (zrq zTab kX12_rotaAt.1.cls), w ∈ lw_tbl := zkin_wd (own := "ReadAloudModel") [137, 185, 165, 185, 165] (by decide +kernel) wK_13
theorem ok_X12_rota : zokM zTab kX12_rota := ⟨zwdf_ok rfl _ 0 (by decide +kernel) (by decide +kernel), by decide +kernel, by decide +kernel⟩
theorem gw_X12_rota : (kX12_rota.2.2.2.2.2.flatMap (zrq zTab kX12_rota.1.cls)).all goodWord = true := by decide +kernel
theorem wd_X12_rota : ∀ w ∈ kX12_rota.2.2.2.2.2.flatMap (zrq zTab kX12_rota.1.cls), w ∈ lw_tbl := zkin_wd (own := "ReadAloudModel") [58, 57, 136, 122, 57, 57, 166, 186, 187, 188, 185, 137, 189] (by decide +kernel) wK_13
