theorem kn_X12_stepBy : zkin zK_13 qX12_stepBy [85, 86, 87, 88, 89] = true := by decide +kernel
theorem ok_X12_stepBy : zokM zTab kX12_stepBy := ⟨zwdf_ok rfl _ 0 (by decide +kernel) (by decide +kernel), zrow_all (by decide +kernel) (zkin_lk (own := "ReadAloudModel") [85, 86, 87, 88, 89] kn_X12_stepBy lK_13 rfl), by decide +kernel⟩
theorem gw_X12_stepBy : (kX12_stepBy.2.2.2.2.2.flatMap (zrq zTab kX12_stepBy.1.cls)).all goodWord = true := zkin_gw (own := "ReadAloudModel") [85, 86, 87, 88, 89] kn_X12_stepBy gK_13
theorem wd_X12_stepBy : ∀ w ∈ kX12_stepBy.2.2.2.2.2.flatMap (zrq zTab kX12_stepBy.1.cls), w ∈ lw_tbl := zkin_wd (own := "ReadAloudModel") [85, 86, 87, 88, 89] kn_X12_stepBy wK_13
theorem kn_X12_stepLine : zkin zK_13 qX12_stepLine [82, 79, 82, 79, 80, 78, 83, 82, 82, 82, 82, 78, 82] = true := by decide +kernel
theorem ok_X12_stepLine : zokM zTab kX12_stepLine := ⟨zwdf_ok rfl _ 0 (by decide +kernel) (by decide +kernel), zrow_all (by decide +kernel) (zkin_lk (own := "ReadAloudModel") [82, 79, 82, 79, 80, 78, 83, 82, 82, 82, 82, 78, 82] kn_X12_stepLine lK_13 rfl), by decide +kernel⟩
theorem gw_X12_stepLine : (kX12_stepLine.2.2.2.2.2.flatMap (zrq zTab kX12_stepLine.1.cls)).all goodWord = true := zkin_gw (own := "ReadAloudModel") [82, 79, 82, 79, 80, 78, 83, 82, 82, 82, 82, 78, 82] kn_X12_stepLine gK_13
theorem wd_X12_stepLine : ∀ w ∈ kX12_stepLine.2.2.2.2.2.flatMap (zrq zTab kX12_stepLine.1.cls), w ∈ lw_tbl := zkin_wd (own := "ReadAloudModel") [82, 79, 82, 79, 80, 78, 83, 82, 82, 82, 82, 78, 82] kn_X12_stepLine wK_13
theorem kn_X12_bookLine : zkin zK_13 qX12_bookLine [90, 91, 92, 93, 94, 77, 94, 95, 82, 82, 96, 80, 92, 97, 82, 78, 93, 83, 83, 78, 57, 82, 78, 78] = true := by decide +kernel
theorem ok_X12_bookLine : zokM zTab kX12_bookLine := ⟨zwdf_ok rfl _ 0 (by decide +kernel) (by decide +kernel), zrow_all (by decide +kernel) (zkin_lk (own := "ReadAloudModel") [90, 91, 92, 93, 94, 77, 94, 95, 82, 82, 96, 80, 92, 97, 82, 78, 93, 83, 83, 78, 57, 82, 78, 78] kn_X12_bookLine lK_13 rfl), by decide +kernel⟩
theorem gw_X12_bookLine : (kX12_bookLine.2.2.2.2.2.flatMap (zrq zTab kX12_bookLine.1.cls)).all goodWord = true := zkin_gw (own := "ReadAloudModel") [90, 91, 92, 93, 94, 77, 94, 95, 82, 82, 96, 80, 92, 97, 82, 78, 93, 83, 83, 78, 57, 82, 78, 78] kn_X12_bookLine gK_13
theorem wd_X12_bookLine : ∀ w ∈ kX12_bookLine.2.2.2.2.2.flatMap (zrq zTab kX12_bookLine.1.cls), w ∈ lw_tbl := zkin_wd (own := "ReadAloudModel") [90, 91, 92, 93, 94, 77, 94, 95, 82, 82, 96, 80, 92, 97, 82, 78, 93, 83, 83, 78, 57, 82, 78, 78] kn_X12_bookLine wK_13
theorem kn_X12_deedBy : zkin zK_13 qX12_deedBy [98, 99, 100, 101, 102, 103] = true := by decide +kernel
theorem ok_X12_deedBy : zokM zTab kX12_deedBy := ⟨zwdf_ok rfl _ 0 (by decide +kernel) (by decide +kernel), zrow_all (by decide +kernel) (zkin_lk (own := "ReadAloudModel") [98, 99, 100, 101, 102, 103] kn_X12_deedBy lK_13 rfl), by decide +kernel⟩
theorem gw_X12_deedBy : (kX12_deedBy.2.2.2.2.2.flatMap (zrq zTab kX12_deedBy.1.cls)).all goodWord = true := zkin_gw (own := "ReadAloudModel") [98, 99, 100, 101, 102, 103] kn_X12_deedBy gK_13
theorem wd_X12_deedBy : ∀ w ∈ kX12_deedBy.2.2.2.2.2.flatMap (zrq zTab kX12_deedBy.1.cls), w ∈ lw_tbl := zkin_wd (own := "ReadAloudModel") [98, 99, 100, 101, 102, 103] kn_X12_deedBy wK_13
theorem kn_X12_keep : zkin zK_13 qX12_keep [82, 82, 78, 82] = true := by decide +kernel
theorem ok_X12_keep : zokM zTab kX12_keep := ⟨zwdf_ok rfl _ 0 (by decide +kernel) (by decide +kernel), zrow_all (by decide +kernel) (zkin_lk (own := "ReadAloudModel") [82, 82, 78, 82] kn_X12_keep lK_13 rfl), by decide +kernel⟩
theorem gw_X12_keep : (kX12_keep.2.2.2.2.2.flatMap (zrq zTab kX12_keep.1.cls)).all goodWord = true := zkin_gw (own := "ReadAloudModel") [82, 82, 78, 82] kn_X12_keep gK_13
theorem wd_X12_keep : ∀ w ∈ kX12_keep.2.2.2.2.2.flatMap (zrq zTab kX12_keep.1.cls), w ∈ lw_tbl := zkin_wd (own := "ReadAloudModel") [82, 82, 78, 82] kn_X12_keep wK_13
theorem kn_X12_yearLine : zkin zK_13 qX12_yearLine [104, 77, 95, 80, 78, 78, 83, 83, 78, 81, 78, 105] = true := by decide +kernel
theorem ok_X12_yearLine : zokM zTab kX12_yearLine := ⟨zwdf_ok rfl _ 0 (by decide +kernel) (by decide +kernel), zrow_all (by decide +kernel) (zkin_lk (own := "ReadAloudModel") [104, 77, 95, 80, 78, 78, 83, 83, 78, 81, 78, 105] kn_X12_yearLine lK_13 rfl), by decide +kernel⟩
theorem gw_X12_yearLine : (kX12_yearLine.2.2.2.2.2.flatMap (zrq zTab kX12_yearLine.1.cls)).all goodWord = true := zkin_gw (own := "ReadAloudModel") [104, 77, 95, 80, 78, 78, 83, 83, 78, 81, 78, 105] kn_X12_yearLine gK_13
theorem wd_X12_yearLine : ∀ w ∈ kX12_yearLine.2.2.2.2.2.flatMap (zrq zTab kX12_yearLine.1.cls), w ∈ lw_tbl := zkin_wd (own := "ReadAloudModel") [104, 77, 95, 80, 78, 78, 83, 83, 78, 81, 78, 105] kn_X12_yearLine wK_13
theorem kn_X12_sightLine : zkin zK_13 qX12_sightLine [106, 77, 95, 80, 83, 97, 105] = true := by decide +kernel
theorem ok_X12_sightLine : zokM zTab kX12_sightLine := ⟨zwdf_ok rfl _ 0 (by decide +kernel) (by decide +kernel), zrow_all (by decide +kernel) (zkin_lk (own := "ReadAloudModel") [106, 77, 95, 80, 83, 97, 105] kn_X12_sightLine lK_13 rfl), by decide +kernel⟩
theorem gw_X12_sightLine : (kX12_sightLine.2.2.2.2.2.flatMap (zrq zTab kX12_sightLine.1.cls)).all goodWord = true := zkin_gw (own := "ReadAloudModel") [106, 77, 95, 80, 83, 97, 105] kn_X12_sightLine gK_13
theorem wd_X12_sightLine : ∀ w ∈ kX12_sightLine.2.2.2.2.2.flatMap (zrq zTab kX12_sightLine.1.cls), w ∈ lw_tbl := zkin_wd (own := "ReadAloudModel") [106, 77, 95, 80, 83, 97, 105] kn_X12_sightLine wK_13
theorem kn_X12_lineOf : zkin zK_13 qX12_lineOf [107, 108, 109] = true := by decide +kernel
theorem ok_X12_lineOf : zokM zTab kX12_lineOf := ⟨zwdf_ok rfl _ 0 (by decide +kernel) (by decide +kernel), zrow_all (by decide +kernel) (zkin_lk (own := "ReadAloudModel") [107, 108, 109] kn_X12_lineOf lK_13 rfl), by decide +kernel⟩
theorem gw_X12_lineOf : (kX12_lineOf.2.2.2.2.2.flatMap (zrq zTab kX12_lineOf.1.cls)).all goodWord = true := zkin_gw (own := "ReadAloudModel") [107, 108, 109] kn_X12_lineOf gK_13
theorem wd_X12_lineOf : ∀ w ∈ kX12_lineOf.2.2.2.2.2.flatMap (zrq zTab kX12_lineOf.1.cls), w ∈ lw_tbl := zkin_wd (own := "ReadAloudModel") [107, 108, 109] kn_X12_lineOf wK_13
theorem kn_X12_lines : zkin zK_13 qX12_lines [76, 76, 67, 70, 110, 76, 77, 80] = true := by decide +kernel
theorem ok_X12_lines : zokM zTab kX12_lines := ⟨zwdf_ok rfl _ 0 (by decide +kernel) (by decide +kernel), zrow_all (by decide +kernel) (zkin_lk (own := "ReadAloudModel") [76, 76, 67, 70, 110, 76, 77, 80] kn_X12_lines lK_13 rfl), by decide +kernel⟩
theorem gw_X12_lines : (kX12_lines.2.2.2.2.2.flatMap (zrq zTab kX12_lines.1.cls)).all goodWord = true := zkin_gw (own := "ReadAloudModel") [76, 76, 67, 70, 110, 76, 77, 80] kn_X12_lines gK_13
theorem wd_X12_lines : ∀ w ∈ kX12_lines.2.2.2.2.2.flatMap (zrq zTab kX12_lines.1.cls), w ∈ lw_tbl := zkin_wd (own := "ReadAloudModel") [76, 76, 67, 70, 110, 76, 77, 80] kn_X12_lines wK_13
theorem kn_X12_readText : zkin zK_13 qX12_readText [82, 57, 63, 74, 80, 111, 52, 72, 48, 112, 72, 73, 52] = true := by decide +kernel
theorem ok_X12_readText : zokM zTab kX12_readText := ⟨zwdf_ok rfl _ 0 (by decide +kernel) (by decide +kernel), zrow_all (by decide +kernel) (zkin_lk (own := "ReadAloudModel") [82, 57, 63, 74, 80, 111, 52, 72, 48, 112, 72, 73, 52] kn_X12_readText lK_13 rfl), by decide +kernel⟩
theorem gw_X12_readText : (kX12_readText.2.2.2.2.2.flatMap (zrq zTab kX12_readText.1.cls)).all goodWord = true := zkin_gw (own := "ReadAloudModel") [82, 57, 63, 74, 80, 111, 52, 72, 48, 112, 72, 73, 52] kn_X12_readText gK_13
theorem wd_X12_readText : ∀ w ∈ kX12_readText.2.2.2.2.2.flatMap (zrq zTab kX12_readText.1.cls), w ∈ lw_tbl := zkin_wd (own := "ReadAloudModel") [82, 57, 63, 74, 80, 111, 52, 72, 48, 112, 72, 73, 52] kn_X12_readText wK_13
theorem kn_X12_store : zkin zK_13 qX12_store [82] = true := by decide +kernel
theorem ok_X12_store : zokM zTab kX12_store := ⟨zwdf_ok rfl _ 0 (by decide +kernel) (by decide +kernel), zrow_all (by decide +kernel) (zkin_lk (own := "ReadAloudModel") [82] kn_X12_store lK_13 rfl), by decide +kernel⟩
theorem gw_X12_store : (kX12_store.2.2.2.2.2.flatMap (zrq zTab kX12_store.1.cls)).all goodWord = true := zkin_gw (own := "ReadAloudModel") [82] kn_X12_store gK_13
theorem wd_X12_store : ∀ w ∈ kX12_store.2.2.2.2.2.flatMap (zrq zTab kX12_store.1.cls), w ∈ lw_tbl := zkin_wd (own := "ReadAloudModel") [82] kn_X12_store wK_13
theorem kn_X12_text : zkin zK_13 qX12_text [58, 50, 113, 50, 52, 48, 57, 53, 114, 115, 53, 53, 54, 116, 19, 55, 116, 56, 116] = true := by decide +kernel
theorem ok_X12_text : zokM zTab kX12_text := ⟨zwdf_ok rfl _ 0 (by decide +kernel) (by decide +kernel), zrow_all (by decide +kernel) (zkin_lk (own := "ReadAloudModel") [58, 50, 113, 50, 52, 48, 57, 53, 114, 115, 53, 53, 54, 116, 19, 55, 116, 56, 116] kn_X12_text lK_13 rfl), by decide +kernel⟩
theorem gw_X12_text : (kX12_text.2.2.2.2.2.flatMap (zrq zTab kX12_text.1.cls)).all goodWord = true := zkin_gw (own := "ReadAloudModel") [58, 50, 113, 50, 52, 48, 57, 53, 114, 115, 53, 53, 54, 116, 19, 55, 116, 56, 116] kn_X12_text gK_13
theorem wd_X12_text : ∀ w ∈ kX12_text.2.2.2.2.2.flatMap (zrq zTab kX12_text.1.cls), w ∈ lw_tbl := zkin_wd (own := "ReadAloudModel") [58, 50, 113, 50, 52, 48, 57, 53, 114, 115, 53, 53, 54, 116, 19, 55, 116, 56, 116] kn_X12_text wK_13
theorem kn_X12_fault : zkin zK_13 qX12_fault [58, 52, 48] = true := by decide +kernel
theorem ok_X12_fault : zokM zTab kX12_fault := ⟨zwdf_ok rfl _ 0 (by decide +kernel) (by decide +kernel), zrow_all (by decide +kernel) (zkin_lk (own := "ReadAloudModel") [58, 52, 48] kn_X12_fault lK_13 rfl), by decide +kernel⟩
theorem gw_X12_fault : (kX12_fault.2.2.2.2.2.flatMap (zrq zTab kX12_fault.1.cls)).all goodWord = true := zkin_gw (own := "ReadAloudModel") [58, 52, 48] kn_X12_fault gK_13
theorem wd_X12_fault : ∀ w ∈ kX12_fault.2.2.2.2.2.flatMap (zrq zTab kX12_fault.1.cls), w ∈ lw_tbl := zkin_wd (own := "ReadAloudModel") [58, 52, 48] kn_X12_fault wK_13
theorem kn_X12_of : zkin zK_13 qX12_of [54, 117] = true := by decide +kernel
theorem ok_X12_of : zokM zTab kX12_of := ⟨zwdf_ok rfl _ 0 (by decide +kernel) (by decide +kernel), zrow_all (by decide +kernel) (zkin_lk (own := "ReadAloudModel") [54, 117] kn_X12_of lK_13 rfl), by decide +kernel⟩
theorem gw_X12_of : (kX12_of.2.2.2.2.2.flatMap (zrq zTab kX12_of.1.cls)).all goodWord = true := zkin_gw (own := "ReadAloudModel") [54, 117] kn_X12_of gK_13
theorem wd_X12_of : ∀ w ∈ kX12_of.2.2.2.2.2.flatMap (zrq zTab kX12_of.1.cls), w ∈ lw_tbl := zkin_wd (own := "ReadAloudModel") [54, 117] kn_X12_of wK_13
theorem kn_X12_hand : zkin zK_13 qX12_hand [114, 118, 119, 120, 119, 121] = true := by decide +kernel
theorem ok_X12_hand : zokM zTab kX12_hand := ⟨zwdf_ok rfl _ 0 (by decide +kernel) (by decide +kernel), zrow_all (by decide +kernel) (zkin_lk (own := "ReadAloudModel") [114, 118, 119, 120, 119, 121] kn_X12_hand lK_13 rfl), by decide +kernel⟩
theorem gw_X12_hand : (kX12_hand.2.2.2.2.2.flatMap (zrq zTab kX12_hand.1.cls)).all goodWord = true := zkin_gw (own := "ReadAloudModel") [114, 118, 119, 120, 119, 121] kn_X12_hand gK_13
theorem wd_X12_hand : ∀ w ∈ kX12_hand.2.2.2.2.2.flatMap (zrq zTab kX12_hand.1.cls), w ∈ lw_tbl := zkin_wd (own := "ReadAloudModel") [114, 118, 119, 120, 119, 121] kn_X12_hand wK_13
theorem kn_X12_isText : zkin zK_13 qX12_isText [57] = true := by decide +kernel
theorem ok_X12_isText : zokM zTab kX12_isText := ⟨zwdf_ok rfl _ 0 (by decide +kernel) (by decide +kernel), zrow_all (by decide +kernel) (zkin_lk (own := "ReadAloudModel") [57] kn_X12_isText lK_13 rfl), by decide +kernel⟩
theorem gw_X12_isText : (kX12_isText.2.2.2.2.2.flatMap (zrq zTab kX12_isText.1.cls)).all goodWord = true := zkin_gw (own := "ReadAloudModel") [57] kn_X12_isText gK_13
theorem wd_X12_isText : ∀ w ∈ kX12_isText.2.2.2.2.2.flatMap (zrq zTab kX12_isText.1.cls), w ∈ lw_tbl := zkin_wd (own := "ReadAloudModel") [57] kn_X12_isText wK_13
theorem kn_X12_isReader : zkin zK_13 qX12_isReader [122, 57] = true := by decide +kernel
theorem ok_X12_isReader : zokM zTab kX12_isReader := ⟨zwdf_ok rfl _ 0 (by decide +kernel) (by decide +kernel), zrow_all (by decide +kernel) (zkin_lk (own := "ReadAloudModel") [122, 57] kn_X12_isReader lK_13 rfl), by decide +kernel⟩
theorem gw_X12_isReader : (kX12_isReader.2.2.2.2.2.flatMap (zrq zTab kX12_isReader.1.cls)).all goodWord = true := zkin_gw (own := "ReadAloudModel") [122, 57] kn_X12_isReader gK_13
theorem wd_X12_isReader : ∀ w ∈ kX12_isReader.2.2.2.2.2.flatMap (zrq zTab kX12_isReader.1.cls), w ∈ lw_tbl := zkin_wd (own := "ReadAloudModel") [122, 57] kn_X12_isReader wK_13
theorem kn_X12_sizeOf : zkin zK_13 qX12_sizeOf [84] = true := by decide +kernel
theorem ok_X12_sizeOf : zokM zTab kX12_sizeOf := ⟨zwdf_ok rfl _ 0 (by decide +kernel) (by decide +kernel), zrow_all (by decide +kernel) (zkin_lk (own := "ReadAloudModel") [84] kn_X12_sizeOf lK_13 rfl), by decide +kernel⟩
theorem gw_X12_sizeOf : (kX12_sizeOf.2.2.2.2.2.flatMap (zrq zTab kX12_sizeOf.1.cls)).all goodWord = true := zkin_gw (own := "ReadAloudModel") [84] kn_X12_sizeOf gK_13
theorem wd_X12_sizeOf : ∀ w ∈ kX12_sizeOf.2.2.2.2.2.flatMap (zrq zTab kX12_sizeOf.1.cls), w ∈ lw_tbl := zkin_wd (own := "ReadAloudModel") [84] kn_X12_sizeOf wK_13
theorem kn_X12_spell : zkin zK_13 qX12_spell [123, 84] = true := by decide +kernel
theorem ok_X12_spell : zokM zTab kX12_spell := ⟨zwdf_ok rfl _ 0 (by decide +kernel) (by decide +kernel), zrow_all (by decide +kernel) (zkin_lk (own := "ReadAloudModel") [123, 84] kn_X12_spell lK_13 rfl), by decide +kernel⟩
theorem gw_X12_spell : (kX12_spell.2.2.2.2.2.flatMap (zrq zTab kX12_spell.1.cls)).all goodWord = true := zkin_gw (own := "ReadAloudModel") [123, 84] kn_X12_spell gK_13
theorem wd_X12_spell : ∀ w ∈ kX12_spell.2.2.2.2.2.flatMap (zrq zTab kX12_spell.1.cls), w ∈ lw_tbl := zkin_wd (own := "ReadAloudModel") [123, 84] kn_X12_spell wK_13
theorem kn_X12_numberOf : zkin zK_13 qX12_numberOf [124, 84] = true := by decide +kernel
theorem ok_X12_numberOf : zokM zTab kX12_numberOf := ⟨zwdf_ok rfl _ 0 (by decide +kernel) (by decide +kernel), zrow_all (by decide +kernel) (zkin_lk (own := "ReadAloudModel") [124, 84] kn_X12_numberOf lK_13 rfl), by decide +kernel⟩
theorem gw_X12_numberOf : (kX12_numberOf.2.2.2.2.2.flatMap (zrq zTab kX12_numberOf.1.cls)).all goodWord = true := zkin_gw (own := "ReadAloudModel") [124, 84] kn_X12_numberOf gK_13
theorem wd_X12_numberOf : ∀ w ∈ kX12_numberOf.2.2.2.2.2.flatMap (zrq zTab kX12_numberOf.1.cls), w ∈ lw_tbl := zkin_wd (own := "ReadAloudModel") [124, 84] kn_X12_numberOf wK_13
theorem kn_X12_shift : zkin zK_13 qX12_shift [125, 124, 124, 119, 124] = true := by decide +kernel
theorem ok_X12_shift : zokM zTab kX12_shift := ⟨zwdf_ok rfl _ 0 (by decide +kernel) (by decide +kernel), zrow_all (by decide +kernel) (zkin_lk (own := "ReadAloudModel") [125, 124, 124, 119, 124] kn_X12_shift lK_13 rfl), by decide +kernel⟩
theorem gw_X12_shift : (kX12_shift.2.2.2.2.2.flatMap (zrq zTab kX12_shift.1.cls)).all goodWord = true := zkin_gw (own := "ReadAloudModel") [125, 124, 124, 119, 124] kn_X12_shift gK_13
theorem wd_X12_shift : ∀ w ∈ kX12_shift.2.2.2.2.2.flatMap (zrq zTab kX12_shift.1.cls), w ∈ lw_tbl := zkin_wd (own := "ReadAloudModel") [125, 124, 124, 119, 124] kn_X12_shift wK_13
theorem kn_X12_drop : zkin zK_13 qX12_drop [125, 125, 124, 124, 125, 126] = true := by decide +kernel
theorem ok_X12_drop : zokM zTab kX12_drop := ⟨zwdf_ok rfl _ 0 (by decide +kernel) (by decide +kernel), zrow_all (by decide +kernel) (zkin_lk (own := "ReadAloudModel") [125, 125, 124, 124, 125, 126] kn_X12_drop lK_13 rfl), by decide +kernel⟩
theorem gw_X12_drop : (kX12_drop.2.2.2.2.2.flatMap (zrq zTab kX12_drop.1.cls)).all goodWord = true := zkin_gw (own := "ReadAloudModel") [125, 125, 124, 124, 125, 126] kn_X12_drop gK_13
theorem wd_X12_drop : ∀ w ∈ kX12_drop.2.2.2.2.2.flatMap (zrq zTab kX12_drop.1.cls), w ∈ lw_tbl := zkin_wd (own := "ReadAloudModel") [125, 125, 124, 124, 125, 126] kn_X12_drop wK_13
theorem kn_X12_twice : zkin zK_13 qX12_twice [125, 125, 125, 124, 124, 125, 126] = true := by decide +kernel
theorem ok_X12_twice : zokM zTab kX12_twice := ⟨zwdf_ok rfl _ 0 (by decide +kernel) (by decide +kernel), zrow_all (by decide +kernel) (zkin_lk (own := "ReadAloudModel") [125, 125, 125, 124, 124, 125, 126] kn_X12_twice lK_13 rfl), by decide +kernel⟩
theorem gw_X12_twice : (kX12_twice.2.2.2.2.2.flatMap (zrq zTab kX12_twice.1.cls)).all goodWord = true := zkin_gw (own := "ReadAloudModel") [125, 125, 125, 124, 124, 125, 126] kn_X12_twice gK_13
theorem wd_X12_twice : ∀ w ∈ kX12_twice.2.2.2.2.2.flatMap (zrq zTab kX12_twice.1.cls), w ∈ lw_tbl := zkin_wd (own := "ReadAloudModel") [125, 125, 125, 124, 124, 125, 126] kn_X12_twice wK_13
theorem kn_X12_swap : zkin zK_13 qX12_swap [124, 124, 124, 124] = true := by decide +kernel
theorem ok_X12_swap : zokM zTab kX12_swap := ⟨zwdf_ok rfl _ 0 (by decide +kernel) (by decide +kernel), zrow_all (by decide +kernel) (zkin_lk (own := "ReadAloudModel") [124, 124, 124, 124] kn_X12_swap lK_13 rfl), by decide +kernel⟩
theorem gw_X12_swap : (kX12_swap.2.2.2.2.2.flatMap (zrq zTab kX12_swap.1.cls)).all goodWord = true := zkin_gw (own := "ReadAloudModel") [124, 124, 124, 124] kn_X12_swap gK_13
theorem wd_X12_swap : ∀ w ∈ kX12_swap.2.2.2.2.2.flatMap (zrq zTab kX12_swap.1.cls), w ∈ lw_tbl := zkin_wd (own := "ReadAloudModel") [124, 124, 124, 124] kn_X12_swap wK_13
theorem kn_X12_step : zkin zK_13 qX12_step [127, 128, 129, 125, 130, 125, 130] = true := by decide +kernel
theorem ok_X12_step : zokM zTab kX12_step := ⟨zwdf_ok rfl _ 0 (by decide +kernel) (by decide +kernel), zrow_all (by decide +kernel) (zkin_lk (own := "ReadAloudModel") [127, 128, 129, 125, 130, 125, 130] kn_X12_step lK_13 rfl), by decide +kernel⟩
theorem gw_X12_step : (kX12_step.2.2.2.2.2.flatMap (zrq zTab kX12_step.1.cls)).all goodWord = true := zkin_gw (own := "ReadAloudModel") [127, 128, 129, 125, 130, 125, 130] kn_X12_step gK_13
theorem wd_X12_step : ∀ w ∈ kX12_step.2.2.2.2.2.flatMap (zrq zTab kX12_step.1.cls), w ∈ lw_tbl := zkin_wd (own := "ReadAloudModel") [127, 128, 129, 125, 130, 125, 130] kn_X12_step wK_13
theorem kn_X12_readBy : zkin zK_13 qX12_readBy [124, 131, 123, 126, 119, 119, 119, 132, 125, 133] = true := by decide +kernel
theorem ok_X12_readBy : zokM zTab kX12_readBy := ⟨zwdf_ok rfl _ 0 (by decide +kernel) (by decide +kernel), zrow_all (by decide +kernel) (zkin_lk (own := "ReadAloudModel") [124, 131, 123, 126, 119, 119, 119, 132, 125, 133] kn_X12_readBy lK_13 rfl), by decide +kernel⟩
theorem gw_X12_readBy : (kX12_readBy.2.2.2.2.2.flatMap (zrq zTab kX12_readBy.1.cls)).all goodWord = true := zkin_gw (own := "ReadAloudModel") [124, 131, 123, 126, 119, 119, 119, 132, 125, 133] kn_X12_readBy gK_13
theorem wd_X12_readBy : ∀ w ∈ kX12_readBy.2.2.2.2.2.flatMap (zrq zTab kX12_readBy.1.cls), w ∈ lw_tbl := zkin_wd (own := "ReadAloudModel") [124, 131, 123, 126, 119, 119, 119, 132, 125, 133] kn_X12_readBy wK_13
theorem kn_X12_apart : zkin zK_13 qX12_apart [123, 123, 124, 131, 134, 131, 135, 124, 134, 135, 135, 96, 96, 135, 135] = true := by decide +kernel
theorem ok_X12_apart : zokM zTab kX12_apart := ⟨zwdf_ok rfl _ 0 (by decide +kernel) (by decide +kernel), zrow_all (by decide +kernel) (zkin_lk (own := "ReadAloudModel") [123, 123, 124, 131, 134, 131, 135, 124, 134, 135, 135, 96, 96, 135, 135] kn_X12_apart lK_13 rfl), by decide +kernel⟩
theorem gw_X12_apart : (kX12_apart.2.2.2.2.2.flatMap (zrq zTab kX12_apart.1.cls)).all goodWord = true := zkin_gw (own := "ReadAloudModel") [123, 123, 124, 131, 134, 131, 135, 124, 134, 135, 135, 96, 96, 135, 135] kn_X12_apart gK_13
theorem wd_X12_apart : ∀ w ∈ kX12_apart.2.2.2.2.2.flatMap (zrq zTab kX12_apart.1.cls), w ∈ lw_tbl := zkin_wd (own := "ReadAloudModel") [123, 123, 124, 131, 134, 131, 135, 124, 134, 135, 135, 96, 96, 135, 135] kn_X12_apart wK_13
theorem kn_X12_book : zkin zK_13 qX12_book [58, 136, 57, 119, 122, 57, 119, 122, 57, 119, 119, 137, 122] = true := by decide +kernel
theorem ok_X12_book : zokM zTab kX12_book := ⟨zwdf_ok rfl _ 0 (by decide +kernel) (by decide +kernel), zrow_all (by decide +kernel) (zkin_lk (own := "ReadAloudModel") [58, 136, 57, 119, 122, 57, 119, 122, 57, 119, 119, 137, 122] kn_X12_book lK_13 rfl), by decide +kernel⟩
theorem gw_X12_book : (kX12_book.2.2.2.2.2.flatMap (zrq zTab kX12_book.1.cls)).all goodWord = true := zkin_gw (own := "ReadAloudModel") [58, 136, 57, 119, 122, 57, 119, 122, 57, 119, 119, 137, 122] kn_X12_book gK_13
theorem wd_X12_book : ∀ w ∈ kX12_book.2.2.2.2.2.flatMap (zrq zTab kX12_book.1.cls), w ∈ lw_tbl := zkin_wd (own := "ReadAloudModel") [58, 136, 57, 119, 122, 57, 119, 122, 57, 119, 119, 137, 122] kn_X12_book wK_13
theorem kn_X12_word : zkin zK_13 qX12_word [58, 138, 123, 57, 124, 131, 123, 124] = true := by decide +kernel
theorem ok_X12_word : zokM zTab kX12_word := ⟨zwdf_ok rfl _ 0 (by decide +kernel) (by decide +kernel), zrow_all (by decide +kernel) (zkin_lk (own := "ReadAloudModel") [58, 138, 123, 57, 124, 131, 123, 124] kn_X12_word lK_13 rfl), by decide +kernel⟩
theorem gw_X12_word : (kX12_word.2.2.2.2.2.flatMap (zrq zTab kX12_word.1.cls)).all goodWord = true := zkin_gw (own := "ReadAloudModel") [58, 138, 123, 57, 124, 131, 123, 124] kn_X12_word gK_13
theorem wd_X12_word : ∀ w ∈ kX12_word.2.2.2.2.2.flatMap (zrq zTab kX12_word.1.cls), w ∈ lw_tbl := zkin_wd (own := "ReadAloudModel") [58, 138, 123, 57, 124, 131, 123, 124] kn_X12_word wK_13
theorem kn_X12_drift : zkin zK_13 qX12_drift [58, 138, 138, 139] = true := by decide +kernel
theorem ok_X12_drift : zokM zTab kX12_drift := ⟨zwdf_ok rfl _ 0 (by decide +kernel) (by decide +kernel), zrow_all (by decide +kernel) (zkin_lk (own := "ReadAloudModel") [58, 138, 138, 139] kn_X12_drift lK_13 rfl), by decide +kernel⟩
theorem gw_X12_drift : (kX12_drift.2.2.2.2.2.flatMap (zrq zTab kX12_drift.1.cls)).all goodWord = true := zkin_gw (own := "ReadAloudModel") [58, 138, 138, 139] kn_X12_drift gK_13
theorem wd_X12_drift : ∀ w ∈ kX12_drift.2.2.2.2.2.flatMap (zrq zTab kX12_drift.1.cls), w ∈ lw_tbl := zkin_wd (own := "ReadAloudModel") [58, 138, 138, 139] kn_X12_drift wK_13
theorem kn_X12_read : zkin zK_13 qX12_read [58, 136, 138, 140, 141] = true := by decide +kernel
theorem ok_X12_read : zokM zTab kX12_read := ⟨zwdf_ok rfl _ 0 (by decide +kernel) (by decide +kernel), zrow_all (by decide +kernel) (zkin_lk (own := "ReadAloudModel") [58, 136, 138, 140, 141] kn_X12_read lK_13 rfl), by decide +kernel⟩
theorem gw_X12_read : (kX12_read.2.2.2.2.2.flatMap (zrq zTab kX12_read.1.cls)).all goodWord = true := zkin_gw (own := "ReadAloudModel") [58, 136, 138, 140, 141] kn_X12_read gK_13
theorem wd_X12_read : ∀ w ∈ kX12_read.2.2.2.2.2.flatMap (zrq zTab kX12_read.1.cls), w ∈ lw_tbl := zkin_wd (own := "ReadAloudModel") [58, 136, 138, 140, 141] kn_X12_read wK_13
theorem kn_X12_deeds : zkin zK_13 qX12_deeds [55, 142] = true := by decide +kernel
theorem ok_X12_deeds : zokM zTab kX12_deeds := ⟨zwdf_ok rfl _ 0 (by decide +kernel) (by decide +kernel), zrow_all (by decide +kernel) (zkin_lk (own := "ReadAloudModel") [55, 142] kn_X12_deeds lK_13 rfl), by decide +kernel⟩
theorem gw_X12_deeds : (kX12_deeds.2.2.2.2.2.flatMap (zrq zTab kX12_deeds.1.cls)).all goodWord = true := zkin_gw (own := "ReadAloudModel") [55, 142] kn_X12_deeds gK_13
theorem wd_X12_deeds : ∀ w ∈ kX12_deeds.2.2.2.2.2.flatMap (zrq zTab kX12_deeds.1.cls), w ∈ lw_tbl := zkin_wd (own := "ReadAloudModel") [55, 142] kn_X12_deeds wK_13
theorem kn_X12_deedOf : zkin zK_13 qX12_deedOf [55, 142] = true := by decide +kernel
theorem ok_X12_deedOf : zokM zTab kX12_deedOf := ⟨zwdf_ok rfl _ 0 (by decide +kernel) (by decide +kernel), zrow_all (by decide +kernel) (zkin_lk (own := "ReadAloudModel") [55, 142] kn_X12_deedOf lK_13 rfl), by decide +kernel⟩
theorem gw_X12_deedOf : (kX12_deedOf.2.2.2.2.2.flatMap (zrq zTab kX12_deedOf.1.cls)).all goodWord = true := zkin_gw (own := "ReadAloudModel") [55, 142] kn_X12_deedOf gK_13
theorem wd_X12_deedOf : ∀ w ∈ kX12_deedOf.2.2.2.2.2.flatMap (zrq zTab kX12_deedOf.1.cls), w ∈ lw_tbl := zkin_wd (own := "ReadAloudModel") [55, 142] kn_X12_deedOf wK_13
theorem kn_X12_hasYear : zkin zK_13 qX12_hasYear [143, 114] = true := by decide +kernel
theorem ok_X12_hasYear : zokM zTab kX12_hasYear := ⟨zwdf_ok rfl _ 0 (by decide +kernel) (by decide +kernel), zrow_all (by decide +kernel) (zkin_lk (own := "ReadAloudModel") [143, 114] kn_X12_hasYear lK_13 rfl), by decide +kernel⟩
theorem gw_X12_hasYear : (kX12_hasYear.2.2.2.2.2.flatMap (zrq zTab kX12_hasYear.1.cls)).all goodWord = true := zkin_gw (own := "ReadAloudModel") [143, 114] kn_X12_hasYear gK_13
theorem wd_X12_hasYear : ∀ w ∈ kX12_hasYear.2.2.2.2.2.flatMap (zrq zTab kX12_hasYear.1.cls), w ∈ lw_tbl := zkin_wd (own := "ReadAloudModel") [143, 114] kn_X12_hasYear wK_13
theorem kn_X12_deed : zkin zK_13 qX12_deed [58, 144, 145, 145, 57, 57, 146] = true := by decide +kernel
theorem ok_X12_deed : zokM zTab kX12_deed := ⟨zwdf_ok rfl _ 0 (by decide +kernel) (by decide +kernel), zrow_all (by decide +kernel) (zkin_lk (own := "ReadAloudModel") [58, 144, 145, 145, 57, 57, 146] kn_X12_deed lK_13 rfl), by decide +kernel⟩
theorem gw_X12_deed : (kX12_deed.2.2.2.2.2.flatMap (zrq zTab kX12_deed.1.cls)).all goodWord = true := zkin_gw (own := "ReadAloudModel") [58, 144, 145, 145, 57, 57, 146] kn_X12_deed gK_13
theorem wd_X12_deed : ∀ w ∈ kX12_deed.2.2.2.2.2.flatMap (zrq zTab kX12_deed.1.cls), w ∈ lw_tbl := zkin_wd (own := "ReadAloudModel") [58, 144, 145, 145, 57, 57, 146] kn_X12_deed wK_13
theorem kn_X12_begin : zkin zK_13 qX12_begin [147, 137, 148, 149, 150, 151] = true := by decide +kernel
theorem ok_X12_begin : zokM zTab kX12_begin := ⟨zwdf_ok rfl _ 0 (by decide +kernel) (by decide +kernel), zrow_all (by decide +kernel) (zkin_lk (own := "ReadAloudModel") [147, 137, 148, 149, 150, 151] kn_X12_begin lK_13 rfl), by decide +kernel⟩
theorem gw_X12_begin : (kX12_begin.2.2.2.2.2.flatMap (zrq zTab kX12_begin.1.cls)).all goodWord = true := zkin_gw (own := "ReadAloudModel") [147, 137, 148, 149, 150, 151] kn_X12_begin gK_13
theorem wd_X12_begin : ∀ w ∈ kX12_begin.2.2.2.2.2.flatMap (zrq zTab kX12_begin.1.cls), w ∈ lw_tbl := zkin_wd (own := "ReadAloudModel") [147, 137, 148, 149, 150, 151] kn_X12_begin wK_13
theorem kn_X12_reads : zkin zK_13 qX12_reads [140, 147, 152, 153, 147, 147, 141, 152, 151, 148] = true := by decide +kernel
theorem ok_X12_reads : zokM zTab kX12_reads := ⟨zwdf_ok rfl _ 0 (by decide +kernel) (by decide +kernel), zrow_all (by decide +kernel) (zkin_lk (own := "ReadAloudModel") [140, 147, 152, 153, 147, 147, 141, 152, 151, 148] kn_X12_reads lK_13 rfl), by decide +kernel⟩
theorem gw_X12_reads : (kX12_reads.2.2.2.2.2.flatMap (zrq zTab kX12_reads.1.cls)).all goodWord = true := zkin_gw (own := "ReadAloudModel") [140, 147, 152, 153, 147, 147, 141, 152, 151, 148] kn_X12_reads gK_13
theorem wd_X12_reads : ∀ w ∈ kX12_reads.2.2.2.2.2.flatMap (zrq zTab kX12_reads.1.cls), w ∈ lw_tbl := zkin_wd (own := "ReadAloudModel") [140, 147, 152, 153, 147, 147, 141, 152, 151, 148] kn_X12_reads wK_13
theorem kn_X12_hushes : zkin zK_13 qX12_hushes [152, 153, 152, 151] = true := by decide +kernel
theorem ok_X12_hushes : zokM zTab kX12_hushes := ⟨zwdf_ok rfl _ 0 (by decide +kernel) (by decide +kernel), zrow_all (by decide +kernel) (zkin_lk (own := "ReadAloudModel") [152, 153, 152, 151] kn_X12_hushes lK_13 rfl), by decide +kernel⟩
theorem gw_X12_hushes : (kX12_hushes.2.2.2.2.2.flatMap (zrq zTab kX12_hushes.1.cls)).all goodWord = true := zkin_gw (own := "ReadAloudModel") [152, 153, 152, 151] kn_X12_hushes gK_13
theorem wd_X12_hushes : ∀ w ∈ kX12_hushes.2.2.2.2.2.flatMap (zrq zTab kX12_hushes.1.cls), w ∈ lw_tbl := zkin_wd (own := "ReadAloudModel") [152, 153, 152, 151] kn_X12_hushes wK_13
theorem kn_X12_goesOn : zkin zK_13 qX12_goesOn [154, 154, 149] = true := by decide +kernel
theorem ok_X12_goesOn : zokM zTab kX12_goesOn := ⟨zwdf_ok rfl _ 0 (by decide +kernel) (by decide +kernel), zrow_all (by decide +kernel) (zkin_lk (own := "ReadAloudModel") [154, 154, 149] kn_X12_goesOn lK_13 rfl), by decide +kernel⟩
theorem gw_X12_goesOn : (kX12_goesOn.2.2.2.2.2.flatMap (zrq zTab kX12_goesOn.1.cls)).all goodWord = true := zkin_gw (own := "ReadAloudModel") [154, 154, 149] kn_X12_goesOn gK_13
theorem wd_X12_goesOn : ∀ w ∈ kX12_goesOn.2.2.2.2.2.flatMap (zrq zTab kX12_goesOn.1.cls), w ∈ lw_tbl := zkin_wd (own := "ReadAloudModel") [154, 154, 149] kn_X12_goesOn wK_13
theorem kn_X12_does : zkin zK_13 qX12_does [146, 146, 146, 155, 147, 146, 147, 150, 147, 156, 147, 137, 156, 157, 158] = true := by decide +kernel
theorem ok_X12_does : zokM zTab kX12_does := ⟨zwdf_ok rfl _ 0 (by decide +kernel) (by decide +kernel), zrow_all (by decide +kernel) (zkin_lk (own := "ReadAloudModel") [146, 146, 146, 155, 147, 146, 147, 150, 147, 156, 147, 137, 156, 157, 158] kn_X12_does lK_13 rfl), by decide +kernel⟩
theorem gw_X12_does : (kX12_does.2.2.2.2.2.flatMap (zrq zTab kX12_does.1.cls)).all goodWord = true := zkin_gw (own := "ReadAloudModel") [146, 146, 146, 155, 147, 146, 147, 150, 147, 156, 147, 137, 156, 157, 158] kn_X12_does gK_13
theorem wd_X12_does : ∀ w ∈ kX12_does.2.2.2.2.2.flatMap (zrq zTab kX12_does.1.cls), w ∈ lw_tbl := zkin_wd (own := "ReadAloudModel") [146, 146, 146, 155, 147, 146, 147, 150, 147, 156, 147, 137, 156, 157, 158] kn_X12_does wK_13
theorem kn_X12_play : zkin zK_13 qX12_play [159, 160] = true := by decide +kernel
theorem ok_X12_play : zokM zTab kX12_play := ⟨zwdf_ok rfl _ 0 (by decide +kernel) (by decide +kernel), zrow_all (by decide +kernel) (zkin_lk (own := "ReadAloudModel") [159, 160] kn_X12_play lK_13 rfl), by decide +kernel⟩
theorem gw_X12_play : (kX12_play.2.2.2.2.2.flatMap (zrq zTab kX12_play.1.cls)).all goodWord = true := zkin_gw (own := "ReadAloudModel") [159, 160] kn_X12_play gK_13
theorem wd_X12_play : ∀ w ∈ kX12_play.2.2.2.2.2.flatMap (zrq zTab kX12_play.1.cls), w ∈ lw_tbl := zkin_wd (own := "ReadAloudModel") [159, 160] kn_X12_play wK_13
theorem kn_X12_layAll : zkin zK_13 qX12_layAll [144, 136] = true := by decide +kernel
theorem ok_X12_layAll : zokM zTab kX12_layAll := ⟨zwdf_ok rfl _ 0 (by decide +kernel) (by decide +kernel), zrow_all (by decide +kernel) (zkin_lk (own := "ReadAloudModel") [144, 136] kn_X12_layAll lK_13 rfl), by decide +kernel⟩
theorem gw_X12_layAll : (kX12_layAll.2.2.2.2.2.flatMap (zrq zTab kX12_layAll.1.cls)).all goodWord = true := zkin_gw (own := "ReadAloudModel") [144, 136] kn_X12_layAll gK_13
theorem wd_X12_layAll : ∀ w ∈ kX12_layAll.2.2.2.2.2.flatMap (zrq zTab kX12_layAll.1.cls), w ∈ lw_tbl := zkin_wd (own := "ReadAloudModel") [144, 136] kn_X12_layAll wK_13
theorem kn_X12_stop : zkin zK_13 qX12_stop [58, 161, 145, 162] = true := by decide +kernel
theorem ok_X12_stop : zokM zTab kX12_stop := ⟨zwdf_ok rfl _ 0 (by decide +kernel) (by decide +kernel), zrow_all (by decide +kernel) (zkin_lk (own := "ReadAloudModel") [58, 161, 145, 162] kn_X12_stop lK_13 rfl), by decide +kernel⟩
theorem gw_X12_stop : (kX12_stop.2.2.2.2.2.flatMap (zrq zTab kX12_stop.1.cls)).all goodWord = true := zkin_gw (own := "ReadAloudModel") [58, 161, 145, 162] kn_X12_stop gK_13
theorem wd_X12_stop : ∀ w ∈ kX12_stop.2.2.2.2.2.flatMap (zrq zTab kX12_stop.1.cls), w ∈ lw_tbl := zkin_wd (own := "ReadAloudModel") [58, 161, 145, 162] kn_X12_stop wK_13
theorem kn_X12_ofState : zkin zK_13 qX12_ofState [57, 147, 122, 57, 148, 147, 147, 156, 147, 137, 139, 147, 137, 139, 154, 156, 147, 137, 139, 152] = true := by decide +kernel
theorem ok_X12_ofState : zokM zTab kX12_ofState := ⟨zwdf_ok rfl _ 0 (by decide +kernel) (by decide +kernel), zrow_all (by decide +kernel) (zkin_lk (own := "ReadAloudModel") [57, 147, 122, 57, 148, 147, 147, 156, 147, 137, 139, 147, 137, 139, 154, 156, 147, 137, 139, 152] kn_X12_ofState lK_13 rfl), by decide +kernel⟩
theorem gw_X12_ofState : (kX12_ofState.2.2.2.2.2.flatMap (zrq zTab kX12_ofState.1.cls)).all goodWord = true := zkin_gw (own := "ReadAloudModel") [57, 147, 122, 57, 148, 147, 147, 156, 147, 137, 139, 147, 137, 139, 154, 156, 147, 137, 139, 152] kn_X12_ofState gK_13
theorem wd_X12_ofState : ∀ w ∈ kX12_ofState.2.2.2.2.2.flatMap (zrq zTab kX12_ofState.1.cls), w ∈ lw_tbl := zkin_wd (own := "ReadAloudModel") [57, 147, 122, 57, 148, 147, 147, 156, 147, 137, 139, 147, 137, 139, 154, 156, 147, 137, 139, 152] kn_X12_ofState wK_13
theorem kn_X12_state : zkin zK_13 qX12_state [58, 161, 145, 57, 162, 163] = true := by decide +kernel
theorem ok_X12_state : zokM zTab kX12_state := ⟨zwdf_ok rfl _ 0 (by decide +kernel) (by decide +kernel), zrow_all (by decide +kernel) (zkin_lk (own := "ReadAloudModel") [58, 161, 145, 57, 162, 163] kn_X12_state lK_13 rfl), by decide +kernel⟩
theorem gw_X12_state : (kX12_state.2.2.2.2.2.flatMap (zrq zTab kX12_state.1.cls)).all goodWord = true := zkin_gw (own := "ReadAloudModel") [58, 161, 145, 57, 162, 163] kn_X12_state gK_13
theorem wd_X12_state : ∀ w ∈ kX12_state.2.2.2.2.2.flatMap (zrq zTab kX12_state.1.cls), w ∈ lw_tbl := zkin_wd (own := "ReadAloudModel") [58, 161, 145, 57, 162, 163] kn_X12_state wK_13
theorem kn_X12_layMade : zkin zK_13 qX12_layMade [122, 164, 117, 165, 141, 117, 19] = true := by decide +kernel
theorem ok_X12_layMade : zokM zTab kX12_layMade := ⟨zwdf_ok rfl _ 0 (by decide +kernel) (by decide +kernel), zrow_all (by decide +kernel) (zkin_lk (own := "ReadAloudModel") [122, 164, 117, 165, 141, 117, 19] kn_X12_layMade lK_13 rfl), by decide +kernel⟩
theorem gw_X12_layMade : (kX12_layMade.2.2.2.2.2.flatMap (zrq zTab kX12_layMade.1.cls)).all goodWord = true := zkin_gw (own := "ReadAloudModel") [122, 164, 117, 165, 141, 117, 19] kn_X12_layMade gK_13
theorem wd_X12_layMade : ∀ w ∈ kX12_layMade.2.2.2.2.2.flatMap (zrq zTab kX12_layMade.1.cls), w ∈ lw_tbl := zkin_wd (own := "ReadAloudModel") [122, 164, 117, 165, 141, 117, 19] kn_X12_layMade wK_13
theorem kn_X12_handAll : zkin zK_13 qX12_handAll [136, 166] = true := by decide +kernel
theorem ok_X12_handAll : zokM zTab kX12_handAll := ⟨zwdf_ok rfl _ 0 (by decide +kernel) (by decide +kernel), zrow_all (by decide +kernel) (zkin_lk (own := "ReadAloudModel") [136, 166] kn_X12_handAll lK_13 rfl), by decide +kernel⟩
theorem gw_X12_handAll : (kX12_handAll.2.2.2.2.2.flatMap (zrq zTab kX12_handAll.1.cls)).all goodWord = true := zkin_gw (own := "ReadAloudModel") [136, 166] kn_X12_handAll gK_13
theorem wd_X12_handAll : ∀ w ∈ kX12_handAll.2.2.2.2.2.flatMap (zrq zTab kX12_handAll.1.cls), w ∈ lw_tbl := zkin_wd (own := "ReadAloudModel") [136, 166] kn_X12_handAll wK_13
theorem kn_X12_findFar : zkin zK_13 qX12_findFar [167, 168, 169, 170, 122, 165, 168, 153, 167, 168, 168, 170, 170, 169] = true := by decide +kernel
theorem ok_X12_findFar : zokM zTab kX12_findFar := ⟨zwdf_ok rfl _ 0 (by decide +kernel) (by decide +kernel), zrow_all (by decide +kernel) (zkin_lk (own := "ReadAloudModel") [167, 168, 169, 170, 122, 165, 168, 153, 167, 168, 168, 170, 170, 169] kn_X12_findFar lK_13 rfl), by decide +kernel⟩
theorem gw_X12_findFar : (kX12_findFar.2.2.2.2.2.flatMap (zrq zTab kX12_findFar.1.cls)).all goodWord = true := zkin_gw (own := "ReadAloudModel") [167, 168, 169, 170, 122, 165, 168, 153, 167, 168, 168, 170, 170, 169] kn_X12_findFar gK_13
theorem wd_X12_findFar : ∀ w ∈ kX12_findFar.2.2.2.2.2.flatMap (zrq zTab kX12_findFar.1.cls), w ∈ lw_tbl := zkin_wd (own := "ReadAloudModel") [167, 168, 169, 170, 122, 165, 168, 153, 167, 168, 168, 170, 170, 169] kn_X12_findFar wK_13
theorem kn_X12_findBack : zkin zK_13 qX12_findBack [171, 167, 122, 171, 165, 171, 171] = true := by decide +kernel
theorem ok_X12_findBack : zokM zTab kX12_findBack := ⟨zwdf_ok rfl _ 0 (by decide +kernel) (by decide +kernel), zrow_all (by decide +kernel) (zkin_lk (own := "ReadAloudModel") [171, 167, 122, 171, 165, 171, 171] kn_X12_findBack lK_13 rfl), by decide +kernel⟩
theorem gw_X12_findBack : (kX12_findBack.2.2.2.2.2.flatMap (zrq zTab kX12_findBack.1.cls)).all goodWord = true := zkin_gw (own := "ReadAloudModel") [171, 167, 122, 171, 165, 171, 171] kn_X12_findBack gK_13
theorem wd_X12_findBack : ∀ w ∈ kX12_findBack.2.2.2.2.2.flatMap (zrq zTab kX12_findBack.1.cls), w ∈ lw_tbl := zkin_wd (own := "ReadAloudModel") [171, 167, 122, 171, 165, 171, 171] kn_X12_findBack wK_13
theorem kn_X12_making : zkin zK_13 qX12_making [58, 138, 138, 172, 173, 171, 167, 57, 171, 165, 171, 165] = true := by decide +kernel
theorem ok_X12_making : zokM zTab kX12_making := ⟨zwdf_ok rfl _ 0 (by decide +kernel) (by decide +kernel), zrow_all (by decide +kernel) (zkin_lk (own := "ReadAloudModel") [58, 138, 138, 172, 173, 171, 167, 57, 171, 165, 171, 165] kn_X12_making lK_13 rfl), by decide +kernel⟩
theorem gw_X12_making : (kX12_making.2.2.2.2.2.flatMap (zrq zTab kX12_making.1.cls)).all goodWord = true := zkin_gw (own := "ReadAloudModel") [58, 138, 138, 172, 173, 171, 167, 57, 171, 165, 171, 165] kn_X12_making gK_13
theorem wd_X12_making : ∀ w ∈ kX12_making.2.2.2.2.2.flatMap (zrq zTab kX12_making.1.cls), w ∈ lw_tbl := zkin_wd (own := "ReadAloudModel") [58, 138, 138, 172, 173, 171, 167, 57, 171, 165, 171, 165] kn_X12_making wK_13
theorem kn_X12_ring : zkin zK_13 qX12_ring [58, 138, 172, 174, 175, 167, 122, 165, 174, 96, 167] = true := by decide +kernel
theorem ok_X12_ring : zokM zTab kX12_ring := ⟨zwdf_ok rfl _ 0 (by decide +kernel) (by decide +kernel), zrow_all (by decide +kernel) (zkin_lk (own := "ReadAloudModel") [58, 138, 172, 174, 175, 167, 122, 165, 174, 96, 167] kn_X12_ring lK_13 rfl), by decide +kernel⟩
theorem gw_X12_ring : (kX12_ring.2.2.2.2.2.flatMap (zrq zTab kX12_ring.1.cls)).all goodWord = true := zkin_gw (own := "ReadAloudModel") [58, 138, 172, 174, 175, 167, 122, 165, 174, 96, 167] kn_X12_ring gK_13
theorem wd_X12_ring : ∀ w ∈ kX12_ring.2.2.2.2.2.flatMap (zrq zTab kX12_ring.1.cls), w ∈ lw_tbl := zkin_wd (own := "ReadAloudModel") [58, 138, 172, 174, 175, 167, 122, 165, 174, 96, 167] kn_X12_ring wK_13
theorem kn_X12_reach : zkin zK_13 qX12_reach [58, 138, 172, 174, 175, 174, 168, 170, 170] = true := by decide +kernel
theorem ok_X12_reach : zokM zTab kX12_reach := ⟨zwdf_ok rfl _ 0 (by decide +kernel) (by decide +kernel), zrow_all (by decide +kernel) (zkin_lk (own := "ReadAloudModel") [58, 138, 172, 174, 175, 174, 168, 170, 170] kn_X12_reach lK_13 rfl), by decide +kernel⟩
theorem gw_X12_reach : (kX12_reach.2.2.2.2.2.flatMap (zrq zTab kX12_reach.1.cls)).all goodWord = true := zkin_gw (own := "ReadAloudModel") [58, 138, 172, 174, 175, 174, 168, 170, 170] kn_X12_reach gK_13
theorem wd_X12_reach : ∀ w ∈ kX12_reach.2.2.2.2.2.flatMap (zrq zTab kX12_reach.1.cls), w ∈ lw_tbl := zkin_wd (own := "ReadAloudModel") [58, 138, 172, 174, 175, 174, 168, 170, 170] kn_X12_reach wK_13
theorem kn_X12_isKept : zkin zK_13 qX12_isKept [122, 153, 165] = true := by decide +kernel
theorem ok_X12_isKept : zokM zTab kX12_isKept := ⟨zwdf_ok rfl _ 0 (by decide +kernel) (by decide +kernel), zrow_all (by decide +kernel) (zkin_lk (own := "ReadAloudModel") [122, 153, 165] kn_X12_isKept lK_13 rfl), by decide +kernel⟩
theorem gw_X12_isKept : (kX12_isKept.2.2.2.2.2.flatMap (zrq zTab kX12_isKept.1.cls)).all goodWord = true := zkin_gw (own := "ReadAloudModel") [122, 153, 165] kn_X12_isKept gK_13
theorem wd_X12_isKept : ∀ w ∈ kX12_isKept.2.2.2.2.2.flatMap (zrq zTab kX12_isKept.1.cls), w ∈ lw_tbl := zkin_wd (own := "ReadAloudModel") [122, 153, 165] kn_X12_isKept wK_13
theorem kn_X12_sound : zkin zK_13 qX12_sound [58, 136, 122, 57, 166, 176] = true := by decide +kernel
theorem ok_X12_sound : zokM zTab kX12_sound := ⟨zwdf_ok rfl _ 0 (by decide +kernel) (by decide +kernel), zrow_all (by decide +kernel) (zkin_lk (own := "ReadAloudModel") [58, 136, 122, 57, 166, 176] kn_X12_sound lK_13 rfl), by decide +kernel⟩
theorem gw_X12_sound : (kX12_sound.2.2.2.2.2.flatMap (zrq zTab kX12_sound.1.cls)).all goodWord = true := zkin_gw (own := "ReadAloudModel") [58, 136, 122, 57, 166, 176] kn_X12_sound gK_13
theorem wd_X12_sound : ∀ w ∈ kX12_sound.2.2.2.2.2.flatMap (zrq zTab kX12_sound.1.cls), w ∈ lw_tbl := zkin_wd (own := "ReadAloudModel") [58, 136, 122, 57, 166, 176] kn_X12_sound wK_13
theorem kn_X12_like : zkin zK_13 qX12_like [58, 136, 140, 140, 166, 165, 165, 165, 165] = true := by decide +kernel
theorem ok_X12_like : zokM zTab kX12_like := ⟨zwdf_ok rfl _ 0 (by decide +kernel) (by decide +kernel), zrow_all (by decide +kernel) (zkin_lk (own := "ReadAloudModel") [58, 136, 140, 140, 166, 165, 165, 165, 165] kn_X12_like lK_13 rfl), by decide +kernel⟩
theorem gw_X12_like : (kX12_like.2.2.2.2.2.flatMap (zrq zTab kX12_like.1.cls)).all goodWord = true := zkin_gw (own := "ReadAloudModel") [58, 136, 140, 140, 166, 165, 165, 165, 165] kn_X12_like gK_13
theorem wd_X12_like : ∀ w ∈ kX12_like.2.2.2.2.2.flatMap (zrq zTab kX12_like.1.cls), w ∈ lw_tbl := zkin_wd (own := "ReadAloudModel") [58, 136, 140, 140, 166, 165, 165, 165, 165] kn_X12_like wK_13
theorem kn_X12_findComes : zkin zK_13 qX12_findComes [177, 177, 165] = true := by decide +kernel
theorem ok_X12_findComes : zokM zTab kX12_findComes := ⟨zwdf_ok rfl _ 0 (by decide +kernel) (by decide +kernel), zrow_all (by decide +kernel) (zkin_lk (own := "ReadAloudModel") [177, 177, 165] kn_X12_findComes lK_13 rfl), by decide +kernel⟩
theorem gw_X12_findComes : (kX12_findComes.2.2.2.2.2.flatMap (zrq zTab kX12_findComes.1.cls)).all goodWord = true := zkin_gw (own := "ReadAloudModel") [177, 177, 165] kn_X12_findComes gK_13
theorem wd_X12_findComes : ∀ w ∈ kX12_findComes.2.2.2.2.2.flatMap (zrq zTab kX12_findComes.1.cls), w ∈ lw_tbl := zkin_wd (own := "ReadAloudModel") [177, 177, 165] kn_X12_findComes wK_13
theorem kn_X12_unread : zkin zK_13 qX12_unread [178, 177] = true := by decide +kernel
theorem ok_X12_unread : zokM zTab kX12_unread := ⟨zwdf_ok rfl _ 0 (by decide +kernel) (by decide +kernel), zrow_all (by decide +kernel) (zkin_lk (own := "ReadAloudModel") [178, 177] kn_X12_unread lK_13 rfl), by decide +kernel⟩
theorem gw_X12_unread : (kX12_unread.2.2.2.2.2.flatMap (zrq zTab kX12_unread.1.cls)).all goodWord = true := zkin_gw (own := "ReadAloudModel") [178, 177] kn_X12_unread gK_13
theorem wd_X12_unread : ∀ w ∈ kX12_unread.2.2.2.2.2.flatMap (zrq zTab kX12_unread.1.cls), w ∈ lw_tbl := zkin_wd (own := "ReadAloudModel") [178, 177] kn_X12_unread wK_13
theorem kn_X12_fallAway : zkin zK_13 qX12_fallAway [178, 177, 168, 165, 168, 177, 177, 168] = true := by decide +kernel
theorem ok_X12_fallAway : zokM zTab kX12_fallAway := ⟨zwdf_ok rfl _ 0 (by decide +kernel) (by decide +kernel), zrow_all (by decide +kernel) (zkin_lk (own := "ReadAloudModel") [178, 177, 168, 165, 168, 177, 177, 168] kn_X12_fallAway lK_13 rfl), by decide +kernel⟩
theorem gw_X12_fallAway : (kX12_fallAway.2.2.2.2.2.flatMap (zrq zTab kX12_fallAway.1.cls)).all goodWord = true := zkin_gw (own := "ReadAloudModel") [178, 177, 168, 165, 168, 177, 177, 168] kn_X12_fallAway gK_13
theorem wd_X12_fallAway : ∀ w ∈ kX12_fallAway.2.2.2.2.2.flatMap (zrq zTab kX12_fallAway.1.cls), w ∈ lw_tbl := zkin_wd (own := "ReadAloudModel") [178, 177, 168, 165, 168, 177, 177, 168] kn_X12_fallAway wK_13
theorem kn_X12_tail : zkin zK_13 qX12_tail [174, 174, 168, 174, 165, 168, 174, 168, 179] = true := by decide +kernel
theorem ok_X12_tail : zokM zTab kX12_tail := ⟨zwdf_ok rfl _ 0 (by decide +kernel) (by decide +kernel), zrow_all (by decide +kernel) (zkin_lk (own := "ReadAloudModel") [174, 174, 168, 174, 165, 168, 174, 168, 179] kn_X12_tail lK_13 rfl), by decide +kernel⟩
theorem gw_X12_tail : (kX12_tail.2.2.2.2.2.flatMap (zrq zTab kX12_tail.1.cls)).all goodWord = true := zkin_gw (own := "ReadAloudModel") [174, 174, 168, 174, 165, 168, 174, 168, 179] kn_X12_tail gK_13
theorem wd_X12_tail : ∀ w ∈ kX12_tail.2.2.2.2.2.flatMap (zrq zTab kX12_tail.1.cls), w ∈ lw_tbl := zkin_wd (own := "ReadAloudModel") [174, 174, 168, 174, 165, 168, 174, 168, 179] kn_X12_tail wK_13
theorem kn_X12_longest : zkin zK_13 qX12_longest [177, 177, 165, 179] = true := by decide +kernel
theorem ok_X12_longest : zokM zTab kX12_longest := ⟨zwdf_ok rfl _ 0 (by decide +kernel) (by decide +kernel), zrow_all (by decide +kernel) (zkin_lk (own := "ReadAloudModel") [177, 177, 165, 179] kn_X12_longest lK_13 rfl), by decide +kernel⟩
theorem gw_X12_longest : (kX12_longest.2.2.2.2.2.flatMap (zrq zTab kX12_longest.1.cls)).all goodWord = true := zkin_gw (own := "ReadAloudModel") [177, 177, 165, 179] kn_X12_longest gK_13
theorem wd_X12_longest : ∀ w ∈ kX12_longest.2.2.2.2.2.flatMap (zrq zTab kX12_longest.1.cls), w ∈ lw_tbl := zkin_wd (own := "ReadAloudModel") [177, 177, 165, 179] kn_X12_longest wK_13
theorem kn_X12_stays : zkin zK_13 qX12_stays [165] = true := by decide +kernel
theorem ok_X12_stays : zokM zTab kX12_stays := ⟨zwdf_ok rfl _ 0 (by decide +kernel) (by decide +kernel), zrow_all (by decide +kernel) (zkin_lk (own := "ReadAloudModel") [165] kn_X12_stays lK_13 rfl), by decide +kernel⟩
theorem gw_X12_stays : (kX12_stays.2.2.2.2.2.flatMap (zrq zTab kX12_stays.1.cls)).all goodWord = true := zkin_gw (own := "ReadAloudModel") [165] kn_X12_stays gK_13
theorem wd_X12_stays : ∀ w ∈ kX12_stays.2.2.2.2.2.flatMap (zrq zTab kX12_stays.1.cls), w ∈ lw_tbl := zkin_wd (own := "ReadAloudModel") [165] kn_X12_stays wK_13
theorem kn_X12_orbits : zkin zK_13 qX12_orbits [58, 136, 140, 57, 166, 180, 181, 182, 183, 184] = true := by decide +kernel
theorem ok_X12_orbits : zokM zTab kX12_orbits := ⟨zwdf_ok rfl _ 0 (by decide +kernel) (by decide +kernel), zrow_all (by decide +kernel) (zkin_lk (own := "ReadAloudModel") [58, 136, 140, 57, 166, 180, 181, 182, 183, 184] kn_X12_orbits lK_13 rfl), by decide +kernel⟩
theorem gw_X12_orbits : (kX12_orbits.2.2.2.2.2.flatMap (zrq zTab kX12_orbits.1.cls)).all goodWord = true := zkin_gw (own := "ReadAloudModel") [58, 136, 140, 57, 166, 180, 181, 182, 183, 184] kn_X12_orbits gK_13
theorem wd_X12_orbits : ∀ w ∈ kX12_orbits.2.2.2.2.2.flatMap (zrq zTab kX12_orbits.1.cls), w ∈ lw_tbl := zkin_wd (own := "ReadAloudModel") [58, 136, 140, 57, 166, 180, 181, 182, 183, 184] kn_X12_orbits wK_13
theorem kn_X12_layDrifts : zkin zK_13 qX12_layDrifts [185, 137, 139] = true := by decide +kernel
theorem ok_X12_layDrifts : zokM zTab kX12_layDrifts := ⟨zwdf_ok rfl _ 0 (by decide +kernel) (by decide +kernel), zrow_all (by decide +kernel) (zkin_lk (own := "ReadAloudModel") [185, 137, 139] kn_X12_layDrifts lK_13 rfl), by decide +kernel⟩
theorem gw_X12_layDrifts : (kX12_layDrifts.2.2.2.2.2.flatMap (zrq zTab kX12_layDrifts.1.cls)).all goodWord = true := zkin_gw (own := "ReadAloudModel") [185, 137, 139] kn_X12_layDrifts gK_13
theorem wd_X12_layDrifts : ∀ w ∈ kX12_layDrifts.2.2.2.2.2.flatMap (zrq zTab kX12_layDrifts.1.cls), w ∈ lw_tbl := zkin_wd (own := "ReadAloudModel") [185, 137, 139] kn_X12_layDrifts wK_13
theorem kn_X12_best : zkin zK_13 qX12_best [167, 122, 185, 165, 153, 179, 96, 185] = true := by decide +kernel
theorem ok_X12_best : zokM zTab kX12_best := ⟨zwdf_ok rfl _ 0 (by decide +kernel) (by decide +kernel), zrow_all (by decide +kernel) (zkin_lk (own := "ReadAloudModel") [167, 122, 185, 165, 153, 179, 96, 185] kn_X12_best lK_13 rfl), by decide +kernel⟩
theorem gw_X12_best : (kX12_best.2.2.2.2.2.flatMap (zrq zTab kX12_best.1.cls)).all goodWord = true := zkin_gw (own := "ReadAloudModel") [167, 122, 185, 165, 153, 179, 96, 185] kn_X12_best gK_13
theorem wd_X12_best : ∀ w ∈ kX12_best.2.2.2.2.2.flatMap (zrq zTab kX12_best.1.cls), w ∈ lw_tbl := zkin_wd (own := "ReadAloudModel") [167, 122, 185, 165, 153, 179, 96, 185] kn_X12_best wK_13
theorem kn_X12_everybody : zkin zK_13 qX12_everybody [122] = true := by decide +kernel
theorem ok_X12_everybody : zokM zTab kX12_everybody := ⟨zwdf_ok rfl _ 0 (by decide +kernel) (by decide +kernel), zrow_all (by decide +kernel) (zkin_lk (own := "ReadAloudModel") [122] kn_X12_everybody lK_13 rfl), by decide +kernel⟩
theorem gw_X12_everybody : (kX12_everybody.2.2.2.2.2.flatMap (zrq zTab kX12_everybody.1.cls)).all goodWord = true := zkin_gw (own := "ReadAloudModel") [122] kn_X12_everybody gK_13
theorem wd_X12_everybody : ∀ w ∈ kX12_everybody.2.2.2.2.2.flatMap (zrq zTab kX12_everybody.1.cls), w ∈ lw_tbl := zkin_wd (own := "ReadAloudModel") [122] kn_X12_everybody wK_13
theorem kn_X12_rotaAt : zkin zK_13 qX12_rotaAt [137, 185, 165, 185, 165] = true := by decide +kernel
theorem ok_X12_rotaAt : zokM zTab kX12_rotaAt := ⟨zwdf_ok rfl _ 0 (by decide +kernel) (by decide +kernel), zrow_all (by decide +kernel) (zkin_lk (own := "ReadAloudModel") [137, 185, 165, 185, 165] kn_X12_rotaAt lK_13 rfl), by decide +kernel⟩
theorem gw_X12_rotaAt : (kX12_rotaAt.2.2.2.2.2.flatMap (zrq zTab kX12_rotaAt.1.cls)).all goodWord = true := zkin_gw (own := "ReadAloudModel") [137, 185, 165, 185, 165] kn_X12_rotaAt gK_13
theorem wd_X12_rotaAt : ∀ w ∈ kX12_rotaAt.2.2.2.2.2.flatMap (zrq zTab kX12_rotaAt.1.cls), w ∈ lw_tbl := zkin_wd (own := "ReadAloudModel") [137, 185, 165, 185, 165] kn_X12_rotaAt wK_13
theorem kn_X12_rota : zkin zK_13 qX12_rota [58, 57, 136, 122, 57, 57, 166, 186, 187, 188, 185, 137, 189] = true := by decide +kernel
theorem ok_X12_rota : zokM zTab kX12_rota := ⟨zwdf_ok rfl _ 0 (by decide +kernel) (by decide +kernel), zrow_all (by decide +kernel) (zkin_lk (own := "ReadAloudModel") [58, 57, 136, 122, 57, 57, 166, 186, 187, 188, 185, 137, 189] kn_X12_rota lK_13 rfl), by decide +kernel⟩
theorem gw_X12_rota : (kX12_rota.2.2.2.2.2.flatMap (zrq zTab kX12_rota.1.cls)).all goodWord = true := zkin_gw (own := "ReadAloudModel") [58, 57, 136, 122, 57, 57, 166, 186, 187, 188, 185, 137, 189] kn_X12_rota gK_13
theorem wd_X12_rota : ∀ w ∈ kX12_rota.2.2.2.2.2.flatMap (zrq zTab kX12_rota.1.cls), w ∈ lw_tbl := zkin_wd (own := "ReadAloudModel") [58, 57, 136, 122, 57, 57, 166, 186, 187, 188, 185, 137, 189] kn_X12_rota wK_13
