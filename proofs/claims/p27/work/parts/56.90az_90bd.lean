theorem kn_X12_common : zkin zK_13 qX12_common [] = true := by decide +kernel
theorem ok_X12_common : zokM zTab kX12_common := ⟨zwdf_ok rfl _ 0 (by decide +kernel) (by decide +kernel), zrow_all (by decide +kernel) (zkin_lk (own := "ReadAloudModel") [] kn_X12_common lK_13 rfl), by decide +kernel⟩
theorem gw_X12_common : (kX12_common.2.2.2.2.2.flatMap (zrq zTab kX12_common.1.cls)).all goodWord = true := zkin_gw (own := "ReadAloudModel") [] kn_X12_common gK_13
theorem wd_X12_common : ∀ w ∈ kX12_common.2.2.2.2.2.flatMap (zrq zTab kX12_common.1.cls), w ∈ lw_tbl := zkin_wd (own := "ReadAloudModel") [] kn_X12_common wK_13
theorem kn_X12_mean : zkin zK_13 qX12_mean [58, 57, 136, 122, 190, 166, 186, 122, 122, 185, 165, 185, 185, 137, 191] = true := by decide +kernel
theorem ok_X12_mean : zokM zTab kX12_mean := ⟨zwdf_ok rfl _ 0 (by decide +kernel) (by decide +kernel), zrow_all (by decide +kernel) (zkin_lk (own := "ReadAloudModel") [58, 57, 136, 122, 190, 166, 186, 122, 122, 185, 165, 185, 185, 137, 191] kn_X12_mean lK_13 rfl), by decide +kernel⟩
theorem gw_X12_mean : (kX12_mean.2.2.2.2.2.flatMap (zrq zTab kX12_mean.1.cls)).all goodWord = true := zkin_gw (own := "ReadAloudModel") [58, 57, 136, 122, 190, 166, 186, 122, 122, 185, 165, 185, 185, 137, 191] kn_X12_mean gK_13
theorem wd_X12_mean : ∀ w ∈ kX12_mean.2.2.2.2.2.flatMap (zrq zTab kX12_mean.1.cls), w ∈ lw_tbl := zkin_wd (own := "ReadAloudModel") [58, 57, 136, 122, 190, 166, 186, 122, 122, 185, 165, 185, 185, 137, 191] kn_X12_mean wK_13
theorem kn_X12_elders : zkin zK_13 qX12_elders [58, 57, 138, 172, 174, 171, 122, 171, 174, 165, 174, 171, 174, 174] = true := by decide +kernel
theorem ok_X12_elders : zokM zTab kX12_elders := ⟨zwdf_ok rfl _ 0 (by decide +kernel) (by decide +kernel), zrow_all (by decide +kernel) (zkin_lk (own := "ReadAloudModel") [58, 57, 138, 172, 174, 171, 122, 171, 174, 165, 174, 171, 174, 174] kn_X12_elders lK_13 rfl), by decide +kernel⟩
theorem gw_X12_elders : (kX12_elders.2.2.2.2.2.flatMap (zrq zTab kX12_elders.1.cls)).all goodWord = true := zkin_gw (own := "ReadAloudModel") [58, 57, 138, 172, 174, 171, 122, 171, 174, 165, 174, 171, 174, 174] kn_X12_elders gK_13
theorem wd_X12_elders : ∀ w ∈ kX12_elders.2.2.2.2.2.flatMap (zrq zTab kX12_elders.1.cls), w ∈ lw_tbl := zkin_wd (own := "ReadAloudModel") [58, 57, 138, 172, 174, 171, 122, 171, 174, 165, 174, 171, 174, 174] kn_X12_elders wK_13
theorem kn_X12_wordsIn : zkin zK_13 qX12_wordsIn [124, 131, 123, 124] = true := by decide +kernel
theorem ok_X12_wordsIn : zokM zTab kX12_wordsIn := ⟨zwdf_ok rfl _ 0 (by decide +kernel) (by decide +kernel), zrow_all (by decide +kernel) (zkin_lk (own := "ReadAloudModel") [124, 131, 123, 124] kn_X12_wordsIn lK_13 rfl), by decide +kernel⟩
theorem gw_X12_wordsIn : (kX12_wordsIn.2.2.2.2.2.flatMap (zrq zTab kX12_wordsIn.1.cls)).all goodWord = true := zkin_gw (own := "ReadAloudModel") [124, 131, 123, 124] kn_X12_wordsIn gK_13
theorem wd_X12_wordsIn : ∀ w ∈ kX12_wordsIn.2.2.2.2.2.flatMap (zrq zTab kX12_wordsIn.1.cls), w ∈ lw_tbl := zkin_wd (own := "ReadAloudModel") [124, 131, 123, 124] kn_X12_wordsIn wK_13
theorem kn_X12_play_ : zkin zK_13 qX12_play_ [58, 57, 57, 136, 187, 57, 187, 57, 166, 185, 192, 188, 185, 137, 122, 153, 185, 165, 137, 185, 137] = true := by decide +kernel
theorem ok_X12_play_ : zokM zTab kX12_play_ := ⟨zwdf_ok rfl _ 0 (by decide +kernel) (by decide +kernel), zrow_all (by decide +kernel) (zkin_lk (own := "ReadAloudModel") [58, 57, 57, 136, 187, 57, 187, 57, 166, 185, 192, 188, 185, 137, 122, 153, 185, 165, 137, 185, 137] kn_X12_play_ lK_13 rfl), by decide +kernel⟩
theorem gw_X12_play_ : (kX12_play_.2.2.2.2.2.flatMap (zrq zTab kX12_play_.1.cls)).all goodWord = true := zkin_gw (own := "ReadAloudModel") [58, 57, 57, 136, 187, 57, 187, 57, 166, 185, 192, 188, 185, 137, 122, 153, 185, 165, 137, 185, 137] kn_X12_play_ gK_13
theorem wd_X12_play_ : ∀ w ∈ kX12_play_.2.2.2.2.2.flatMap (zrq zTab kX12_play_.1.cls), w ∈ lw_tbl := zkin_wd (own := "ReadAloudModel") [58, 57, 57, 136, 187, 57, 187, 57, 166, 185, 192, 188, 185, 137, 122, 153, 185, 165, 137, 185, 137] kn_X12_play_ wK_13
theorem kn_X12_facts : zkin zK_13 qX12_facts [56, 193] = true := by decide +kernel
theorem ok_X12_facts : zokM zTab kX12_facts := ⟨zwdf_ok rfl _ 0 (by decide +kernel) (by decide +kernel), zrow_all (by decide +kernel) (zkin_lk (own := "ReadAloudModel") [56, 193] kn_X12_facts lK_13 rfl), by decide +kernel⟩
theorem gw_X12_facts : (kX12_facts.2.2.2.2.2.flatMap (zrq zTab kX12_facts.1.cls)).all goodWord = true := zkin_gw (own := "ReadAloudModel") [56, 193] kn_X12_facts gK_13
theorem wd_X12_facts : ∀ w ∈ kX12_facts.2.2.2.2.2.flatMap (zrq zTab kX12_facts.1.cls), w ∈ lw_tbl := zkin_wd (own := "ReadAloudModel") [56, 193] kn_X12_facts wK_13
theorem kn_X12_factOf : zkin zK_13 qX12_factOf [56, 193] = true := by decide +kernel
theorem ok_X12_factOf : zokM zTab kX12_factOf := ⟨zwdf_ok rfl _ 0 (by decide +kernel) (by decide +kernel), zrow_all (by decide +kernel) (zkin_lk (own := "ReadAloudModel") [56, 193] kn_X12_factOf lK_13 rfl), by decide +kernel⟩
theorem gw_X12_factOf : (kX12_factOf.2.2.2.2.2.flatMap (zrq zTab kX12_factOf.1.cls)).all goodWord = true := zkin_gw (own := "ReadAloudModel") [56, 193] kn_X12_factOf gK_13
theorem wd_X12_factOf : ∀ w ∈ kX12_factOf.2.2.2.2.2.flatMap (zrq zTab kX12_factOf.1.cls), w ∈ lw_tbl := zkin_wd (own := "ReadAloudModel") [56, 193] kn_X12_factOf wK_13
theorem kn_X12_hasSight : zkin zK_13 qX12_hasSight [194, 114] = true := by decide +kernel
theorem ok_X12_hasSight : zokM zTab kX12_hasSight := ⟨zwdf_ok rfl _ 0 (by decide +kernel) (by decide +kernel), zrow_all (by decide +kernel) (zkin_lk (own := "ReadAloudModel") [194, 114] kn_X12_hasSight lK_13 rfl), by decide +kernel⟩
theorem gw_X12_hasSight : (kX12_hasSight.2.2.2.2.2.flatMap (zrq zTab kX12_hasSight.1.cls)).all goodWord = true := zkin_gw (own := "ReadAloudModel") [194, 114] kn_X12_hasSight gK_13
theorem wd_X12_hasSight : ∀ w ∈ kX12_hasSight.2.2.2.2.2.flatMap (zrq zTab kX12_hasSight.1.cls), w ∈ lw_tbl := zkin_wd (own := "ReadAloudModel") [194, 114] kn_X12_hasSight wK_13
theorem kn_X12_fact : zkin zK_13 qX12_fact [58, 195, 196, 196, 57, 57, 197] = true := by decide +kernel
theorem ok_X12_fact : zokM zTab kX12_fact := ⟨zwdf_ok rfl _ 0 (by decide +kernel) (by decide +kernel), zrow_all (by decide +kernel) (zkin_lk (own := "ReadAloudModel") [58, 195, 196, 196, 57, 57, 197] kn_X12_fact lK_13 rfl), by decide +kernel⟩
theorem gw_X12_fact : (kX12_fact.2.2.2.2.2.flatMap (zrq zTab kX12_fact.1.cls)).all goodWord = true := zkin_gw (own := "ReadAloudModel") [58, 195, 196, 196, 57, 57, 197] kn_X12_fact gK_13
theorem wd_X12_fact : ∀ w ∈ kX12_fact.2.2.2.2.2.flatMap (zrq zTab kX12_fact.1.cls), w ∈ lw_tbl := zkin_wd (own := "ReadAloudModel") [58, 195, 196, 196, 57, 57, 197] kn_X12_fact wK_13
theorem kn_X12_mayBe : zkin zK_13 qX12_mayBe [196, 197, 197] = true := by decide +kernel
theorem ok_X12_mayBe : zokM zTab kX12_mayBe := ⟨zwdf_ok rfl _ 0 (by decide +kernel) (by decide +kernel), zrow_all (by decide +kernel) (zkin_lk (own := "ReadAloudModel") [196, 197, 197] kn_X12_mayBe lK_13 rfl), by decide +kernel⟩
theorem gw_X12_mayBe : (kX12_mayBe.2.2.2.2.2.flatMap (zrq zTab kX12_mayBe.1.cls)).all goodWord = true := zkin_gw (own := "ReadAloudModel") [196, 197, 197] kn_X12_mayBe gK_13
theorem wd_X12_mayBe : ∀ w ∈ kX12_mayBe.2.2.2.2.2.flatMap (zrq zTab kX12_mayBe.1.cls), w ∈ lw_tbl := zkin_wd (own := "ReadAloudModel") [196, 197, 197] kn_X12_mayBe wK_13
theorem zd_X12_findRows_0 : qX12_findRows_0.all (zde kX12_findRows) = true := zwdf_ok rfl _ 0 (by decide +kernel) (by decide +kernel)
theorem kn_X12_findRows_0 : zkin zK_13 qX12_findRows_0 [198, 137, 199, 122] = true := by decide +kernel
theorem zr_X12_findRows_0 : qX12_findRows_0.all (zrow zTab kX12_findRows) = true := zrow_all (by decide +kernel) (zkin_lk (own := "ReadAloudModel") [198, 137, 199, 122] kn_X12_findRows_0 lK_13 rfl)
theorem gw_X12_findRows_0 : (qX12_findRows_0.flatMap (zrq zTab kX12_findRows.1.cls)).all goodWord = true := zkin_gw (own := "ReadAloudModel") [198, 137, 199, 122] kn_X12_findRows_0 gK_13
theorem wd_X12_findRows_0 : ∀ w ∈ qX12_findRows_0.flatMap (zrq zTab kX12_findRows.1.cls), w ∈ lw_tbl := zkin_wd (own := "ReadAloudModel") [198, 137, 199, 122] kn_X12_findRows_0 wK_13
theorem zd_X12_findRows_1 : qX12_findRows_1.all (zde kX12_findRows) = true := zwdf_ok rfl _ 88 (by decide +kernel) (by decide +kernel)
theorem kn_X12_findRows_1 : zkin zK_13 qX12_findRows_1 [198, 198, 165, 165, 199] = true := by decide +kernel
theorem zr_X12_findRows_1 : qX12_findRows_1.all (zrow zTab kX12_findRows) = true := zrow_all (by decide +kernel) (zkin_lk (own := "ReadAloudModel") [198, 198, 165, 165, 199] kn_X12_findRows_1 lK_13 rfl)
theorem gw_X12_findRows_1 : (qX12_findRows_1.flatMap (zrq zTab kX12_findRows.1.cls)).all goodWord = true := zkin_gw (own := "ReadAloudModel") [198, 198, 165, 165, 199] kn_X12_findRows_1 gK_13
theorem wd_X12_findRows_1 : ∀ w ∈ qX12_findRows_1.flatMap (zrq zTab kX12_findRows.1.cls), w ∈ lw_tbl := zkin_wd (own := "ReadAloudModel") [198, 198, 165, 165, 199] kn_X12_findRows_1 wK_13
theorem zd_X12_findRows_2 : qX12_findRows_2.all (zde kX12_findRows) = true := zwdf_ok rfl _ 173 (by decide +kernel) (by decide +kernel)
theorem kn_X12_findRows_2 : zkin zK_13 qX12_findRows_2 [122, 200, 165, 200] = true := by decide +kernel
theorem zr_X12_findRows_2 : qX12_findRows_2.all (zrow zTab kX12_findRows) = true := zrow_all (by decide +kernel) (zkin_lk (own := "ReadAloudModel") [122, 200, 165, 200] kn_X12_findRows_2 lK_13 rfl)
theorem gw_X12_findRows_2 : (qX12_findRows_2.flatMap (zrq zTab kX12_findRows.1.cls)).all goodWord = true := zkin_gw (own := "ReadAloudModel") [122, 200, 165, 200] kn_X12_findRows_2 gK_13
theorem wd_X12_findRows_2 : ∀ w ∈ qX12_findRows_2.flatMap (zrq zTab kX12_findRows.1.cls), w ∈ lw_tbl := zkin_wd (own := "ReadAloudModel") [122, 200, 165, 200] kn_X12_findRows_2 wK_13
theorem zd_X12_findRows_3 : qX12_findRows_3.all (zde kX12_findRows) = true := zwdf_ok rfl _ 259 (by decide +kernel) (by decide +kernel)
theorem kn_X12_findRows_3 : zkin zK_13 qX12_findRows_3 [199] = true := by decide +kernel
theorem zr_X12_findRows_3 : qX12_findRows_3.all (zrow zTab kX12_findRows) = true := zrow_all (by decide +kernel) (zkin_lk (own := "ReadAloudModel") [199] kn_X12_findRows_3 lK_13 rfl)
theorem gw_X12_findRows_3 : (qX12_findRows_3.flatMap (zrq zTab kX12_findRows.1.cls)).all goodWord = true := zkin_gw (own := "ReadAloudModel") [199] kn_X12_findRows_3 gK_13
theorem wd_X12_findRows_3 : ∀ w ∈ qX12_findRows_3.flatMap (zrq zTab kX12_findRows.1.cls), w ∈ lw_tbl := zkin_wd (own := "ReadAloudModel") [199] kn_X12_findRows_3 wK_13
theorem ok_X12_findRows : zokM zTab kX12_findRows := ⟨zall_app zd_X12_findRows_0 (zall_app zd_X12_findRows_1 (zall_app zd_X12_findRows_2 (zd_X12_findRows_3))), zall_app zr_X12_findRows_0 (zall_app zr_X12_findRows_1 (zall_app zr_X12_findRows_2 (zr_X12_findRows_3))), by decide +kernel⟩
theorem gw_X12_findRows : (kX12_findRows.2.2.2.2.2.flatMap (zrq zTab kX12_findRows.1.cls)).all goodWord = true := zfg_app gw_X12_findRows_0 (zfg_app gw_X12_findRows_1 (zfg_app gw_X12_findRows_2 (gw_X12_findRows_3)))
theorem wd_X12_findRows : ∀ w ∈ kX12_findRows.2.2.2.2.2.flatMap (zrq zTab kX12_findRows.1.cls), w ∈ lw_tbl := zfm_app wd_X12_findRows_0 (zfm_app wd_X12_findRows_1 (zfm_app wd_X12_findRows_2 (wd_X12_findRows_3)))
theorem kn_X12_allRows : zkin zK_13 qX12_allRows [200, 137] = true := by decide +kernel
theorem ok_X12_allRows : zokM zTab kX12_allRows := ⟨zwdf_ok rfl _ 0 (by decide +kernel) (by decide +kernel), zrow_all (by decide +kernel) (zkin_lk (own := "ReadAloudModel") [200, 137] kn_X12_allRows lK_13 rfl), by decide +kernel⟩
theorem gw_X12_allRows : (kX12_allRows.2.2.2.2.2.flatMap (zrq zTab kX12_allRows.1.cls)).all goodWord = true := zkin_gw (own := "ReadAloudModel") [200, 137] kn_X12_allRows gK_13
theorem wd_X12_allRows : ∀ w ∈ kX12_allRows.2.2.2.2.2.flatMap (zrq zTab kX12_allRows.1.cls), w ∈ lw_tbl := zkin_wd (own := "ReadAloudModel") [200, 137] kn_X12_allRows wK_13
theorem kn_X12_fits : zkin zK_13 qX12_fits [58, 57, 138, 195, 172, 201, 202, 198] = true := by decide +kernel
theorem ok_X12_fits : zokM zTab kX12_fits := ⟨zwdf_ok rfl _ 0 (by decide +kernel) (by decide +kernel), zrow_all (by decide +kernel) (zkin_lk (own := "ReadAloudModel") [58, 57, 138, 195, 172, 201, 202, 198] kn_X12_fits lK_13 rfl), by decide +kernel⟩
theorem gw_X12_fits : (kX12_fits.2.2.2.2.2.flatMap (zrq zTab kX12_fits.1.cls)).all goodWord = true := zkin_gw (own := "ReadAloudModel") [58, 57, 138, 195, 172, 201, 202, 198] kn_X12_fits gK_13
theorem wd_X12_fits : ∀ w ∈ kX12_fits.2.2.2.2.2.flatMap (zrq zTab kX12_fits.1.cls), w ∈ lw_tbl := zkin_wd (own := "ReadAloudModel") [58, 57, 138, 195, 172, 201, 202, 198] kn_X12_fits wK_13
theorem kn_X12_look : zkin zK_13 qX12_look [198, 198, 200, 179] = true := by decide +kernel
theorem ok_X12_look : zokM zTab kX12_look := ⟨zwdf_ok rfl _ 0 (by decide +kernel) (by decide +kernel), zrow_all (by decide +kernel) (zkin_lk (own := "ReadAloudModel") [198, 198, 200, 179] kn_X12_look lK_13 rfl), by decide +kernel⟩
theorem gw_X12_look : (kX12_look.2.2.2.2.2.flatMap (zrq zTab kX12_look.1.cls)).all goodWord = true := zkin_gw (own := "ReadAloudModel") [198, 198, 200, 179] kn_X12_look gK_13
theorem wd_X12_look : ∀ w ∈ kX12_look.2.2.2.2.2.flatMap (zrq zTab kX12_look.1.cls), w ∈ lw_tbl := zkin_wd (own := "ReadAloudModel") [198, 198, 200, 179] kn_X12_look wK_13
theorem kn_X12_rowsOf : zkin zK_13 qX12_rowsOf [198, 198, 200, 165] = true := by decide +kernel
theorem ok_X12_rowsOf : zokM zTab kX12_rowsOf := ⟨zwdf_ok rfl _ 0 (by decide +kernel) (by decide +kernel), zrow_all (by decide +kernel) (zkin_lk (own := "ReadAloudModel") [198, 198, 200, 165] kn_X12_rowsOf lK_13 rfl), by decide +kernel⟩
theorem gw_X12_rowsOf : (kX12_rowsOf.2.2.2.2.2.flatMap (zrq zTab kX12_rowsOf.1.cls)).all goodWord = true := zkin_gw (own := "ReadAloudModel") [198, 198, 200, 165] kn_X12_rowsOf gK_13
theorem wd_X12_rowsOf : ∀ w ∈ kX12_rowsOf.2.2.2.2.2.flatMap (zrq zTab kX12_rowsOf.1.cls), w ∈ lw_tbl := zkin_wd (own := "ReadAloudModel") [198, 198, 200, 165] kn_X12_rowsOf wK_13
theorem kn_X12_sure : zkin zK_13 qX12_sure [58, 57, 57, 195, 172, 201, 202, 203, 122, 204, 202] = true := by decide +kernel
theorem ok_X12_sure : zokM zTab kX12_sure := ⟨zwdf_ok rfl _ 0 (by decide +kernel) (by decide +kernel), zrow_all (by decide +kernel) (zkin_lk (own := "ReadAloudModel") [58, 57, 57, 195, 172, 201, 202, 203, 122, 204, 202] kn_X12_sure lK_13 rfl), by decide +kernel⟩
theorem gw_X12_sure : (kX12_sure.2.2.2.2.2.flatMap (zrq zTab kX12_sure.1.cls)).all goodWord = true := zkin_gw (own := "ReadAloudModel") [58, 57, 57, 195, 172, 201, 202, 203, 122, 204, 202] kn_X12_sure gK_13
theorem wd_X12_sure : ∀ w ∈ kX12_sure.2.2.2.2.2.flatMap (zrq zTab kX12_sure.1.cls), w ∈ lw_tbl := zkin_wd (own := "ReadAloudModel") [58, 57, 57, 195, 172, 201, 202, 203, 122, 204, 202] kn_X12_sure wK_13
theorem kn_X12_draw : zkin zK_13 qX12_draw [205, 206, 207, 205] = true := by decide +kernel
theorem ok_X12_draw : zokM zTab kX12_draw := ⟨zwdf_ok rfl _ 0 (by decide +kernel) (by decide +kernel), zrow_all (by decide +kernel) (zkin_lk (own := "ReadAloudModel") [205, 206, 207, 205] kn_X12_draw lK_13 rfl), by decide +kernel⟩
theorem gw_X12_draw : (kX12_draw.2.2.2.2.2.flatMap (zrq zTab kX12_draw.1.cls)).all goodWord = true := zkin_gw (own := "ReadAloudModel") [205, 206, 207, 205] kn_X12_draw gK_13
theorem wd_X12_draw : ∀ w ∈ kX12_draw.2.2.2.2.2.flatMap (zrq zTab kX12_draw.1.cls), w ∈ lw_tbl := zkin_wd (own := "ReadAloudModel") [205, 206, 207, 205] kn_X12_draw wK_13
theorem kn_X12_drawDeed : zkin zK_13 qX12_drawDeed [208, 208, 122, 122, 208, 155, 147, 208, 147, 157, 158] = true := by decide +kernel
theorem ok_X12_drawDeed : zokM zTab kX12_drawDeed := ⟨zwdf_ok rfl _ 0 (by decide +kernel) (by decide +kernel), zrow_all (by decide +kernel) (zkin_lk (own := "ReadAloudModel") [208, 208, 122, 122, 208, 155, 147, 208, 147, 157, 158] kn_X12_drawDeed lK_13 rfl), by decide +kernel⟩
theorem gw_X12_drawDeed : (kX12_drawDeed.2.2.2.2.2.flatMap (zrq zTab kX12_drawDeed.1.cls)).all goodWord = true := zkin_gw (own := "ReadAloudModel") [208, 208, 122, 122, 208, 155, 147, 208, 147, 157, 158] kn_X12_drawDeed gK_13
theorem wd_X12_drawDeed : ∀ w ∈ kX12_drawDeed.2.2.2.2.2.flatMap (zrq zTab kX12_drawDeed.1.cls), w ∈ lw_tbl := zkin_wd (own := "ReadAloudModel") [208, 208, 122, 122, 208, 155, 147, 208, 147, 157, 158] kn_X12_drawDeed wK_13
theorem kn_X12_drawn : zkin zK_13 qX12_drawn [58, 57, 136, 207, 159, 209, 163] = true := by decide +kernel
theorem ok_X12_drawn : zokM zTab kX12_drawn := ⟨zwdf_ok rfl _ 0 (by decide +kernel) (by decide +kernel), zrow_all (by decide +kernel) (zkin_lk (own := "ReadAloudModel") [58, 57, 136, 207, 159, 209, 163] kn_X12_drawn lK_13 rfl), by decide +kernel⟩
theorem gw_X12_drawn : (kX12_drawn.2.2.2.2.2.flatMap (zrq zTab kX12_drawn.1.cls)).all goodWord = true := zkin_gw (own := "ReadAloudModel") [58, 57, 136, 207, 159, 209, 163] kn_X12_drawn gK_13
theorem wd_X12_drawn : ∀ w ∈ kX12_drawn.2.2.2.2.2.flatMap (zrq zTab kX12_drawn.1.cls), w ∈ lw_tbl := zkin_wd (own := "ReadAloudModel") [58, 57, 136, 207, 159, 209, 163] kn_X12_drawn wK_13
theorem kn_X12_kinship : zkin zK_13 qX12_kinship [58, 136, 57, 210, 119, 210] = true := by decide +kernel
theorem ok_X12_kinship : zokM zTab kX12_kinship := ⟨zwdf_ok rfl _ 0 (by decide +kernel) (by decide +kernel), zrow_all (by decide +kernel) (zkin_lk (own := "ReadAloudModel") [58, 136, 57, 210, 119, 210] kn_X12_kinship lK_13 rfl), by decide +kernel⟩
theorem gw_X12_kinship : (kX12_kinship.2.2.2.2.2.flatMap (zrq zTab kX12_kinship.1.cls)).all goodWord = true := zkin_gw (own := "ReadAloudModel") [58, 136, 57, 210, 119, 210] kn_X12_kinship gK_13
theorem wd_X12_kinship : ∀ w ∈ kX12_kinship.2.2.2.2.2.flatMap (zrq zTab kX12_kinship.1.cls), w ∈ lw_tbl := zkin_wd (own := "ReadAloudModel") [58, 136, 57, 210, 119, 210] kn_X12_kinship wK_13
theorem kn_X12_kinRing : zkin zK_13 qX12_kinRing [119, 119] = true := by decide +kernel
theorem ok_X12_kinRing : zokM zTab kX12_kinRing := ⟨zwdf_ok rfl _ 0 (by decide +kernel) (by decide +kernel), zrow_all (by decide +kernel) (zkin_lk (own := "ReadAloudModel") [119, 119] kn_X12_kinRing lK_13 rfl), by decide +kernel⟩
theorem gw_X12_kinRing : (kX12_kinRing.2.2.2.2.2.flatMap (zrq zTab kX12_kinRing.1.cls)).all goodWord = true := zkin_gw (own := "ReadAloudModel") [119, 119] kn_X12_kinRing gK_13
theorem wd_X12_kinRing : ∀ w ∈ kX12_kinRing.2.2.2.2.2.flatMap (zrq zTab kX12_kinRing.1.cls), w ∈ lw_tbl := zkin_wd (own := "ReadAloudModel") [119, 119] kn_X12_kinRing wK_13
theorem kn_X12_someOf : zkin zK_13 qX12_someOf [124, 131, 123, 153, 124, 124, 133] = true := by decide +kernel
theorem ok_X12_someOf : zokM zTab kX12_someOf := ⟨zwdf_ok rfl _ 0 (by decide +kernel) (by decide +kernel), zrow_all (by decide +kernel) (zkin_lk (own := "ReadAloudModel") [124, 131, 123, 153, 124, 124, 133] kn_X12_someOf lK_13 rfl), by decide +kernel⟩
theorem gw_X12_someOf : (kX12_someOf.2.2.2.2.2.flatMap (zrq zTab kX12_someOf.1.cls)).all goodWord = true := zkin_gw (own := "ReadAloudModel") [124, 131, 123, 153, 124, 124, 133] kn_X12_someOf gK_13
theorem wd_X12_someOf : ∀ w ∈ kX12_someOf.2.2.2.2.2.flatMap (zrq zTab kX12_someOf.1.cls), w ∈ lw_tbl := zkin_wd (own := "ReadAloudModel") [124, 131, 123, 153, 124, 124, 133] kn_X12_someOf wK_13
theorem kn_X12_isLeft : zkin zK_13 qX12_isLeft [123, 211] = true := by decide +kernel
theorem ok_X12_isLeft : zokM zTab kX12_isLeft := ⟨zwdf_ok rfl _ 0 (by decide +kernel) (by decide +kernel), zrow_all (by decide +kernel) (zkin_lk (own := "ReadAloudModel") [123, 211] kn_X12_isLeft lK_13 rfl), by decide +kernel⟩
theorem gw_X12_isLeft : (kX12_isLeft.2.2.2.2.2.flatMap (zrq zTab kX12_isLeft.1.cls)).all goodWord = true := zkin_gw (own := "ReadAloudModel") [123, 211] kn_X12_isLeft gK_13
theorem wd_X12_isLeft : ∀ w ∈ kX12_isLeft.2.2.2.2.2.flatMap (zrq zTab kX12_isLeft.1.cls), w ∈ lw_tbl := zkin_wd (own := "ReadAloudModel") [123, 211] kn_X12_isLeft wK_13
theorem kn_X12_shared : zkin zK_13 qX12_shared [58, 138, 138, 123, 211, 123, 123, 123, 123, 212, 123] = true := by decide +kernel
theorem ok_X12_shared : zokM zTab kX12_shared := ⟨zwdf_ok rfl _ 0 (by decide +kernel) (by decide +kernel), zrow_all (by decide +kernel) (zkin_lk (own := "ReadAloudModel") [58, 138, 138, 123, 211, 123, 123, 123, 123, 212, 123] kn_X12_shared lK_13 rfl), by decide +kernel⟩
theorem gw_X12_shared : (kX12_shared.2.2.2.2.2.flatMap (zrq zTab kX12_shared.1.cls)).all goodWord = true := zkin_gw (own := "ReadAloudModel") [58, 138, 138, 123, 211, 123, 123, 123, 123, 212, 123] kn_X12_shared gK_13
theorem wd_X12_shared : ∀ w ∈ kX12_shared.2.2.2.2.2.flatMap (zrq zTab kX12_shared.1.cls), w ∈ lw_tbl := zkin_wd (own := "ReadAloudModel") [58, 138, 138, 123, 211, 123, 123, 123, 123, 212, 123] kn_X12_shared wK_13
theorem kn_X12_joined : zkin zK_13 qX12_joined [58, 138, 138, 172, 174, 175, 171, 175, 167, 174, 171, 96] = true := by decide +kernel
theorem ok_X12_joined : zokM zTab kX12_joined := ⟨zwdf_ok rfl _ 0 (by decide +kernel) (by decide +kernel), zrow_all (by decide +kernel) (zkin_lk (own := "ReadAloudModel") [58, 138, 138, 172, 174, 175, 171, 175, 167, 174, 171, 96] kn_X12_joined lK_13 rfl), by decide +kernel⟩
theorem gw_X12_joined : (kX12_joined.2.2.2.2.2.flatMap (zrq zTab kX12_joined.1.cls)).all goodWord = true := zkin_gw (own := "ReadAloudModel") [58, 138, 138, 172, 174, 175, 171, 175, 167, 174, 171, 96] kn_X12_joined gK_13
theorem wd_X12_joined : ∀ w ∈ kX12_joined.2.2.2.2.2.flatMap (zrq zTab kX12_joined.1.cls), w ∈ lw_tbl := zkin_wd (own := "ReadAloudModel") [58, 138, 138, 172, 174, 175, 171, 175, 167, 174, 171, 96] kn_X12_joined wK_13
theorem kn_X12_nearest : zkin zK_13 qX12_nearest [58, 138, 138, 172, 174, 175, 167, 174, 167, 139, 167, 96] = true := by decide +kernel
theorem ok_X12_nearest : zokM zTab kX12_nearest := ⟨zwdf_ok rfl _ 0 (by decide +kernel) (by decide +kernel), zrow_all (by decide +kernel) (zkin_lk (own := "ReadAloudModel") [58, 138, 138, 172, 174, 175, 167, 174, 167, 139, 167, 96] kn_X12_nearest lK_13 rfl), by decide +kernel⟩
theorem gw_X12_nearest : (kX12_nearest.2.2.2.2.2.flatMap (zrq zTab kX12_nearest.1.cls)).all goodWord = true := zkin_gw (own := "ReadAloudModel") [58, 138, 138, 172, 174, 175, 167, 174, 167, 139, 167, 96] kn_X12_nearest gK_13
theorem wd_X12_nearest : ∀ w ∈ kX12_nearest.2.2.2.2.2.flatMap (zrq zTab kX12_nearest.1.cls), w ∈ lw_tbl := zkin_wd (own := "ReadAloudModel") [58, 138, 138, 172, 174, 175, 167, 174, 167, 139, 167, 96] kn_X12_nearest wK_13
theorem kn_X12_settles : zkin zK_13 qX12_settles [58, 138, 172, 174, 175, 167, 174, 187, 176, 174] = true := by decide +kernel
theorem ok_X12_settles : zokM zTab kX12_settles := ⟨zwdf_ok rfl _ 0 (by decide +kernel) (by decide +kernel), zrow_all (by decide +kernel) (zkin_lk (own := "ReadAloudModel") [58, 138, 172, 174, 175, 167, 174, 187, 176, 174] kn_X12_settles lK_13 rfl), by decide +kernel⟩
theorem gw_X12_settles : (kX12_settles.2.2.2.2.2.flatMap (zrq zTab kX12_settles.1.cls)).all goodWord = true := zkin_gw (own := "ReadAloudModel") [58, 138, 172, 174, 175, 167, 174, 187, 176, 174] kn_X12_settles gK_13
theorem wd_X12_settles : ∀ w ∈ kX12_settles.2.2.2.2.2.flatMap (zrq zTab kX12_settles.1.cls), w ∈ lw_tbl := zkin_wd (own := "ReadAloudModel") [58, 138, 172, 174, 175, 167, 174, 187, 176, 174] kn_X12_settles wK_13
theorem kn_X12_unmade : zkin zK_13 qX12_unmade [58, 172, 177, 122, 177, 165, 177, 177] = true := by decide +kernel
theorem ok_X12_unmade : zokM zTab kX12_unmade := ⟨zwdf_ok rfl _ 0 (by decide +kernel) (by decide +kernel), zrow_all (by decide +kernel) (zkin_lk (own := "ReadAloudModel") [58, 172, 177, 122, 177, 165, 177, 177] kn_X12_unmade lK_13 rfl), by decide +kernel⟩
theorem gw_X12_unmade : (kX12_unmade.2.2.2.2.2.flatMap (zrq zTab kX12_unmade.1.cls)).all goodWord = true := zkin_gw (own := "ReadAloudModel") [58, 172, 177, 122, 177, 165, 177, 177] kn_X12_unmade gK_13
theorem wd_X12_unmade : ∀ w ∈ kX12_unmade.2.2.2.2.2.flatMap (zrq zTab kX12_unmade.1.cls), w ∈ lw_tbl := zkin_wd (own := "ReadAloudModel") [58, 172, 177, 122, 177, 165, 177, 177] kn_X12_unmade wK_13
theorem kn_X12_silenced : zkin zK_13 qX12_silenced [58, 138, 138, 172, 167, 187, 122, 153, 174, 175, 174, 167] = true := by decide +kernel
theorem ok_X12_silenced : zokM zTab kX12_silenced := ⟨zwdf_ok rfl _ 0 (by decide +kernel) (by decide +kernel), zrow_all (by decide +kernel) (zkin_lk (own := "ReadAloudModel") [58, 138, 138, 172, 167, 187, 122, 153, 174, 175, 174, 167] kn_X12_silenced lK_13 rfl), by decide +kernel⟩
theorem gw_X12_silenced : (kX12_silenced.2.2.2.2.2.flatMap (zrq zTab kX12_silenced.1.cls)).all goodWord = true := zkin_gw (own := "ReadAloudModel") [58, 138, 138, 172, 167, 187, 122, 153, 174, 175, 174, 167] kn_X12_silenced gK_13
theorem wd_X12_silenced : ∀ w ∈ kX12_silenced.2.2.2.2.2.flatMap (zrq zTab kX12_silenced.1.cls), w ∈ lw_tbl := zkin_wd (own := "ReadAloudModel") [58, 138, 138, 172, 167, 187, 122, 153, 174, 175, 174, 167] kn_X12_silenced wK_13
theorem kn_X12_goDeep : zkin zK_13 qX12_goDeep [213, 214, 213, 214, 122, 168, 165, 214, 214, 214, 214, 213] = true := by decide +kernel
theorem ok_X12_goDeep : zokM zTab kX12_goDeep := ⟨zwdf_ok rfl _ 0 (by decide +kernel) (by decide +kernel), zrow_all (by decide +kernel) (zkin_lk (own := "ReadAloudModel") [213, 214, 213, 214, 122, 168, 165, 214, 214, 214, 214, 213] kn_X12_goDeep lK_13 rfl), by decide +kernel⟩
theorem gw_X12_goDeep : (kX12_goDeep.2.2.2.2.2.flatMap (zrq zTab kX12_goDeep.1.cls)).all goodWord = true := zkin_gw (own := "ReadAloudModel") [213, 214, 213, 214, 122, 168, 165, 214, 214, 214, 214, 213] kn_X12_goDeep gK_13
theorem wd_X12_goDeep : ∀ w ∈ kX12_goDeep.2.2.2.2.2.flatMap (zrq zTab kX12_goDeep.1.cls), w ∈ lw_tbl := zkin_wd (own := "ReadAloudModel") [213, 214, 213, 214, 122, 168, 165, 214, 214, 214, 214, 213] kn_X12_goDeep wK_13
theorem kn_X12_layBack : zkin zK_13 qX12_layBack [215, 216, 214, 217, 122, 218, 215, 165, 215, 165] = true := by decide +kernel
theorem ok_X12_layBack : zokM zTab kX12_layBack := ⟨zwdf_ok rfl _ 0 (by decide +kernel) (by decide +kernel), zrow_all (by decide +kernel) (zkin_lk (own := "ReadAloudModel") [215, 216, 214, 217, 122, 218, 215, 165, 215, 165] kn_X12_layBack lK_13 rfl), by decide +kernel⟩
theorem gw_X12_layBack : (kX12_layBack.2.2.2.2.2.flatMap (zrq zTab kX12_layBack.1.cls)).all goodWord = true := zkin_gw (own := "ReadAloudModel") [215, 216, 214, 217, 122, 218, 215, 165, 215, 165] kn_X12_layBack gK_13
theorem wd_X12_layBack : ∀ w ∈ kX12_layBack.2.2.2.2.2.flatMap (zrq zTab kX12_layBack.1.cls), w ∈ lw_tbl := zkin_wd (own := "ReadAloudModel") [215, 216, 214, 217, 122, 218, 215, 165, 215, 165] kn_X12_layBack wK_13
theorem kn_X12_goBack : zkin zK_13 qX12_goBack [213, 216, 215, 213, 216, 216, 213, 218, 217] = true := by decide +kernel
theorem ok_X12_goBack : zokM zTab kX12_goBack := ⟨zwdf_ok rfl _ 0 (by decide +kernel) (by decide +kernel), zrow_all (by decide +kernel) (zkin_lk (own := "ReadAloudModel") [213, 216, 215, 213, 216, 216, 213, 218, 217] kn_X12_goBack lK_13 rfl), by decide +kernel⟩
theorem gw_X12_goBack : (kX12_goBack.2.2.2.2.2.flatMap (zrq zTab kX12_goBack.1.cls)).all goodWord = true := zkin_gw (own := "ReadAloudModel") [213, 216, 215, 213, 216, 216, 213, 218, 217] kn_X12_goBack gK_13
theorem wd_X12_goBack : ∀ w ∈ kX12_goBack.2.2.2.2.2.flatMap (zrq zTab kX12_goBack.1.cls), w ∈ lw_tbl := zkin_wd (own := "ReadAloudModel") [213, 216, 215, 213, 216, 216, 213, 218, 217] kn_X12_goBack wK_13
