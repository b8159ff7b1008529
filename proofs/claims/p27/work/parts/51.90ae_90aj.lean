theorem zd_L_law_16 : qL_law_16.all (zde kL_law) = true := zwdf_ok rfl _ 1128 (by decide +kernel) (by decide +kernel)
theorem zr_L_law_16 : qL_law_16.all (zrow zTab kL_law) = true := by decide +kernel
theorem gw_L_law_16 : (qL_law_16.flatMap (zrq zTab kL_law.1.cls)).all goodWord = true := by decide +kernel
theorem wd_L_law_16 : ∀ w ∈ qL_law_16.flatMap (zrq zTab kL_law.1.cls), w ∈ lw_tbl := zkin_wd (own := "ReadAloudLaw") [46, 47] (by decide +kernel) wK_0
theorem zd_L_law_17 : qL_law_17.all (zde kL_law) = true := zwdf_ok rfl _ 1186 (by decide +kernel) (by decide +kernel)
theorem zr_L_law_17 : qL_law_17.all (zrow zTab kL_law) = true := by decide +kernel
theorem gw_L_law_17 : (qL_law_17.flatMap (zrq zTab kL_law.1.cls)).all goodWord = true := by decide +kernel
theorem wd_L_law_17 : ∀ w ∈ qL_law_17.flatMap (zrq zTab kL_law.1.cls), w ∈ lw_tbl := zkin_wd (own := "ReadAloudLaw") [48, 49] (by decide +kernel) wK_0
theorem zd_L_law_18 : qL_law_18.all (zde kL_law) = true := zwdf_ok rfl _ 1242 (by decide +kernel) (by decide +kernel)
theorem zr_L_law_18 : qL_law_18.all (zrow zTab kL_law) = true := by decide +kernel
theorem gw_L_law_18 : (qL_law_18.flatMap (zrq zTab kL_law.1.cls)).all goodWord = true := by decide +kernel
theorem wd_L_law_18 : ∀ w ∈ qL_law_18.flatMap (zrq zTab kL_law.1.cls), w ∈ lw_tbl := zkin_wd (own := "ReadAloudLaw") [50, 51] (by decide +kernel) wK_0
theorem zd_L_law_19 : qL_law_19.all (zde kL_law) = true := zwdf_ok rfl _ 1298 (by decide +kernel) (by decide +kernel)
theorem zr_L_law_19 : qL_law_19.all (zrow zTab kL_law) = true := by decide +kernel
theorem gw_L_law_19 : (qL_law_19.flatMap (zrq zTab kL_law.1.cls)).all goodWord = true := by decide +kernel
theorem wd_L_law_19 : ∀ w ∈ qL_law_19.flatMap (zrq zTab kL_law.1.cls), w ∈ lw_tbl := zkin_wd (own := "ReadAloudLaw") [52, 53, 54] (by decide +kernel) wK_0
theorem zd_L_law_20 : qL_law_20.all (zde kL_law) = true := zwdf_ok rfl _ 1360 (by decide +kernel) (by decide +kernel)
theorem zr_L_law_20 : qL_law_20.all (zrow zTab kL_law) = true := by decide +kernel
theorem gw_L_law_20 : (qL_law_20.flatMap (zrq zTab kL_law.1.cls)).all goodWord = true := by decide +kernel
theorem wd_L_law_20 : ∀ w ∈ qL_law_20.flatMap (zrq zTab kL_law.1.cls), w ∈ lw_tbl := zkin_wd (own := "ReadAloudLaw") [55, 56] (by decide +kernel) wK_0
theorem zd_L_law_21 : qL_law_21.all (zde kL_law) = true := zwdf_ok rfl _ 1424 (by decide +kernel) (by decide +kernel)
theorem zr_L_law_21 : qL_law_21.all (zrow zTab kL_law) = true := by decide +kernel
theorem gw_L_law_21 : (qL_law_21.flatMap (zrq zTab kL_law.1.cls)).all goodWord = true := by decide +kernel
theorem wd_L_law_21 : ∀ w ∈ qL_law_21.flatMap (zrq zTab kL_law.1.cls), w ∈ lw_tbl := zkin_wd (own := "ReadAloudLaw") [57, 58] (by decide +kernel) wK_0
theorem zd_L_law_22 : qL_law_22.all (zde kL_law) = true := zwdf_ok rfl _ 1488 (by decide +kernel) (by decide +kernel)
theorem zr_L_law_22 : qL_law_22.all (zrow zTab kL_law) = true := by decide +kernel
theorem gw_L_law_22 : (qL_law_22.flatMap (zrq zTab kL_law.1.cls)).all goodWord = true := by decide +kernel
theorem wd_L_law_22 : ∀ w ∈ qL_law_22.flatMap (zrq zTab kL_law.1.cls), w ∈ lw_tbl := zkin_wd (own := "ReadAloudLaw") [59, 60] (by decide +kernel) wK_0
theorem zd_L_law_23 : qL_law_23.all (zde kL_law) = true := zwdf_ok rfl _ 1552 (by decide +kernel) (by decide +kernel)
theorem zr_L_law_23 : qL_law_23.all (zrow zTab kL_law) = true := by decide +kernel
theorem gw_L_law_23 : (qL_law_23.flatMap (zrq zTab kL_law.1.cls)).all goodWord = true := by decide +kernel
theorem wd_L_law_23 : ∀ w ∈ qL_law_23.flatMap (zrq zTab kL_law.1.cls), w ∈ lw_tbl := zkin_wd (own := "ReadAloudLaw") [61, 62] (by decide +kernel) wK_0
theorem zd_L_law_24 : qL_law_24.all (zde kL_law) = true := zwdf_ok rfl _ 1616 (by decide +kernel) (by decide +kernel)
theorem zr_L_law_24 : qL_law_24.all (zrow zTab kL_law) = true := by decide +kernel
theorem gw_L_law_24 : (qL_law_24.flatMap (zrq zTab kL_law.1.cls)).all goodWord = true := by decide +kernel
theorem wd_L_law_24 : ∀ w ∈ qL_law_24.flatMap (zrq zTab kL_law.1.cls), w ∈ lw_tbl := zkin_wd (own := "ReadAloudLaw") [63, 64] (by decide +kernel) wK_0
theorem zd_L_law_25 : qL_law_25.all (zde kL_law) = true := zwdf_ok rfl _ 1680 (by decide +kernel) (by decide +kernel)
theorem zr_L_law_25 : qL_law_25.all (zrow zTab kL_law) = true := by decide +kernel
theorem gw_L_law_25 : (qL_law_25.flatMap (zrq zTab kL_law.1.cls)).all goodWord = true := by decide +kernel
theorem wd_L_law_25 : ∀ w ∈ qL_law_25.flatMap (zrq zTab kL_law.1.cls), w ∈ lw_tbl := zkin_wd (own := "ReadAloudLaw") [65, 66, 67] (by decide +kernel) wK_0
theorem zd_L_law_26 : qL_law_26.all (zde kL_law) = true := zwdf_ok rfl _ 1744 (by decide +kernel) (by decide +kernel)
theorem zr_L_law_26 : qL_law_26.all (zrow zTab kL_law) = true := by decide +kernel
theorem gw_L_law_26 : (qL_law_26.flatMap (zrq zTab kL_law.1.cls)).all goodWord = true := by decide +kernel
theorem wd_L_law_26 : ∀ w ∈ qL_law_26.flatMap (zrq zTab kL_law.1.cls), w ∈ lw_tbl := zkin_wd (own := "ReadAloudLaw") [68, 69, 70, 71, 72] (by decide +kernel) wK_0
theorem zd_L_law_27 : qL_law_27.all (zde kL_law) = true := zwdf_ok rfl _ 1808 (by decide +kernel) (by decide +kernel)
theorem zr_L_law_27 : qL_law_27.all (zrow zTab kL_law) = true := by decide +kernel
theorem gw_L_law_27 : (qL_law_27.flatMap (zrq zTab kL_law.1.cls)).all goodWord = true := by decide +kernel
theorem wd_L_law_27 : ∀ w ∈ qL_law_27.flatMap (zrq zTab kL_law.1.cls), w ∈ lw_tbl := zkin_wd (own := "ReadAloudLaw") [73, 74, 75] (by decide +kernel) wK_0
theorem ok_L_law : zokM zTab kL_law := ⟨zall_app zd_L_law_0 (zall_app zd_L_law_1 (zall_app zd_L_law_2 (zall_app zd_L_law_3 (zall_app zd_L_law_4 (zall_app zd_L_law_5 (zall_app zd_L_law_6 (zall_app zd_L_law_7 (zall_app zd_L_law_8 (zall_app zd_L_law_9 (zall_app zd_L_law_10 (zall_app zd_L_law_11 (zall_app zd_L_law_12 (zall_app zd_L_law_13 (zall_app zd_L_law_14 (zall_app zd_L_law_15 (zall_app zd_L_law_16 (zall_app zd_L_law_17 (zall_app zd_L_law_18 (zall_app zd_L_law_19 (zall_app zd_L_law_20 (zall_app zd_L_law_21 (zall_app zd_L_law_22 (zall_app zd_L_law_23 (zall_app zd_L_law_24 (zall_app zd_L_law_25 (zall_app zd_L_law_26 (zd_L_law_27))))))))))))))))))))))))))), zall_app zr_L_law_0 (zall_app zr_L_law_1 (zall_app zr_L_law_2 (zall_app zr_L_law_3 (zall_app zr_L_law_4 (zall_app zr_L_law_5 (zall_app zr_L_law_6 (zall_app zr_L_law_7 (zall_app zr_L_law_8 (zall_app zr_L_law_9 (zall_app zr_L_law_10 (zall_app zr_L_law_11 (zall_app zr_L_law_12 (zall_app zr_L_law_13 (zall_app zr_L_law_14 (zall_app zr_L_law_15 (zall_app zr_L_law_16 (zall_app zr_L_law_17 (zall_app zr_L_law_18 (zall_app zr_L_law_19 (zall_app zr_L_law_20 (zall_app zr_L_law_21 (zall_app zr_L_law_22 (zall_app zr_L_law_23 (zall_app zr_L_law_24 (zall_app zr_L_law_25 (zall_app zr_L_law_26 (zr_L_law_27))))))))))))))))))))))))))), by decide +kernel⟩
theorem gw_L_law : (kL_law.2.2.2.2.2.flatMap (zrq zTab kL_law.1.cls)).all goodWord = true := zfg_app gw_L_law_0 (zfg_app gw_L_law_1 (zfg_app gw_L_law_2 (zfg_app gw_L_law_3 (zfg_app gw_L_law_4 (zfg_app gw_L_law_5 (zfg_app gw_L_law_6 (zfg_app gw_L_law_7 (zfg_app gw_L_law_8 (zfg_app gw_L_law_9 (zfg_app gw_L_law_10 (zfg_app gw_L_law_11 (zfg_app gw_L_law_12 (zfg_app gw_L_law_13 (zfg_app gw_L_law_14 (zfg_app gw_L_law_15 (zfg_app gw_L_law_16 (zfg_app gw_L_law_17 (zfg_app gw_L_law_18 (zfg_app gw_L_law_19 (zfg_app gw_L_law_20 (zfg_app gw_L_law_21 (zfg_app gw_L_law_22 (zfg_app gw_L_law_23 (zfg_app gw_L_law_24 (zfg_app gw_L_law_25 (zfg_app gw_L_law_26 (gw_L_law_27)))))))))))))))))))))))))))
theorem wd_L_law : ∀ w ∈ kL_law.2.2.2.2.2.flatMap (zrq zTab kL_law.1.cls), w ∈ lw_tbl := zfm_app wd_L_law_0 (zfm_app wd_L_law_1 (zfm_app wd_L_law_2 (zfm_app wd_L_law_3 (zfm_app wd_L_law_4 (zfm_app wd_L_law_5 (zfm_app wd_L_law_6 (zfm_app wd_L_law_7 (zfm_app wd_L_law_8 (zfm_app wd_L_law_9 (zfm_app wd_L_law_10 (zfm_app wd_L_law_11 (zfm_app wd_L_law_12 (zfm_app wd_L_law_13 (zfm_app wd_L_law_14 (zfm_app wd_L_law_15 (zfm_app wd_L_law_16 (zfm_app wd_L_law_17 (zfm_app wd_L_law_18 (zfm_app wd_L_law_19 (zfm_app wd_L_law_20 (zfm_app wd_L_law_21 (zfm_app wd_L_law_22 (zfm_app wd_L_law_23 (zfm_app wd_L_law_24 (zfm_app wd_L_law_25 (zfm_app wd_L_law_26 (wd_L_law_27)))))))))))))))))))))))))))
theorem ok_X11_init : zokM zTab kX11_init := ⟨zwdf_ok rfl _ 0 (by decide +kernel) (by decide +kernel), by decide +kernel, by decide +kernel⟩
theorem gw_X11_init : (kX11_init.2.2.2.2.2.flatMap (zrq zTab kX11_init.1.cls)).all goodWord = true := by decide +kernel
theorem wd_X11_init : ∀ w ∈ kX11_init.2.2.2.2.2.flatMap (zrq zTab kX11_init.1.cls), w ∈ lw_tbl := zkin_wd (own := "ReadAloud") [0, 1, 2, 3, 4, 5, 6, 7, 8, 9, 10, 11, 12, 13, 14, 15, 16, 17] (by decide +kernel) wK_1
theorem ok_X11_feed : zokM zTab kX11_feed := ⟨zwdf_ok rfl _ 0 (by decide +kernel) (by decide +kernel), by decide +kernel, by decide +kernel⟩
theorem gw_X11_feed : (kX11_feed.2.2.2.2.2.flatMap (zrq zTab kX11_feed.1.cls)).all goodWord = true := by decide +kernel
theorem wd_X11_feed : ∀ w ∈ kX11_feed.2.2.2.2.2.flatMap (zrq zTab kX11_feed.1.cls), w ∈ lw_tbl := zkin_wd (own := "ReadAloud") [18, 19, 18, 20, 18, 20, 18, 20, 18, 20, 18, 20, 18, 19] (by decide +kernel) wK_1
theorem ok_X11_end : zokM zTab kX11_end := ⟨zwdf_ok rfl _ 0 (by decide +kernel) (by decide +kernel), by decide +kernel, by decide +kernel⟩
theorem gw_X11_end : (kX11_end.2.2.2.2.2.flatMap (zrq zTab kX11_end.1.cls)).all goodWord = true := by decide +kernel
theorem wd_X11_end : ∀ w ∈ kX11_end.2.2.2.2.2.flatMap (zrq zTab kX11_end.1.cls), w ∈ lw_tbl := zkin_wd (own := "ReadAloud") [18, 19, 18, 21] (by decide +kernel) wK_1
theorem ok_X11_text : zokM zTab kX11_text := ⟨zwdf_ok rfl _ 0 (by decide +kernel) (by decide +kernel), by decide +kernel, by decide +kernel⟩
theorem gw_X11_text : (kX11_text.2.2.2.2.2.flatMap (zrq zTab kX11_text.1.cls)).all goodWord = true := by decide +kernel
theorem wd_X11_text : ∀ w ∈ kX11_text.2.2.2.2.2.flatMap (zrq zTab kX11_text.1.cls), w ∈ lw_tbl := zkin_wd (own := "ReadAloud") [18, 19, 18, 21, 18, 22, 18, 23, 18, 24, 25, 18, 26, 27, 22, 18, 26, 28, 23, 18, 24, 29] (by decide +kernel) wK_1
theorem ok_X11_fault : zokM zTab kX11_fault := ⟨zwdf_ok rfl _ 0 (by decide +kernel) (by decide +kernel), by decide +kernel, by decide +kernel⟩
theorem gw_X11_fault : (kX11_fault.2.2.2.2.2.flatMap (zrq zTab kX11_fault.1.cls)).all goodWord = true := by decide +kernel
theorem wd_X11_fault : ∀ w ∈ kX11_fault.2.2.2.2.2.flatMap (zrq zTab kX11_fault.1.cls), w ∈ lw_tbl := zkin_wd (own := "ReadAloud") [18, 30, 18, 31] (by decide +kernel) wK_1
theorem ok_X11_book : zokM zTab kX11_book := ⟨zwdf_ok rfl _ 0 (by decide +kernel) (by decide +kernel), by decide +kernel, by decide +kernel⟩
theorem gw_X11_book : (kX11_book.2.2.2.2.2.flatMap (zrq zTab kX11_book.1.cls)).all goodWord = true := by decide +kernel
theorem wd_X11_book : ∀ w ∈ kX11_book.2.2.2.2.2.flatMap (zrq zTab kX11_book.1.cls), w ∈ lw_tbl := zkin_wd (own := "ReadAloud") [32, 33] (by decide +kernel) wK_1
theorem ok_X11_word : zokM zTab kX11_word := ⟨zwdf_ok rfl _ 0 (by decide +kernel) (by decide +kernel), by decide +kernel, by decide +kernel⟩
theorem gw_X11_word : (kX11_word.2.2.2.2.2.flatMap (zrq zTab kX11_word.1.cls)).all goodWord = true := by decide +kernel
theorem wd_X11_word : ∀ w ∈ kX11_word.2.2.2.2.2.flatMap (zrq zTab kX11_word.1.cls), w ∈ lw_tbl := zkin_wd (own := "ReadAloud") [34, 35, 36] (by decide +kernel) wK_1
theorem ok_X11_drift : zokM zTab kX11_drift := ⟨zwdf_ok rfl _ 0 (by decide +kernel) (by decide +kernel), by decide +kernel, by decide +kernel⟩
theorem gw_X11_drift : (kX11_drift.2.2.2.2.2.flatMap (zrq zTab kX11_drift.1.cls)).all goodWord = true := by decide +kernel
theorem wd_X11_drift : ∀ w ∈ kX11_drift.2.2.2.2.2.flatMap (zrq zTab kX11_drift.1.cls), w ∈ lw_tbl := zkin_wd (own := "ReadAloud") [34, 34, 37] (by decide +kernel) wK_1
theorem ok_X11_read : zokM zTab kX11_read := ⟨zwdf_ok rfl _ 0 (by decide +kernel) (by decide +kernel), by decide +kernel, by decide +kernel⟩
theorem gw_X11_read : (kX11_read.2.2.2.2.2.flatMap (zrq zTab kX11_read.1.cls)).all goodWord = true := by decide +kernel
theorem wd_X11_read : ∀ w ∈ kX11_read.2.2.2.2.2.flatMap (zrq zTab kX11_read.1.cls), w ∈ lw_tbl := zkin_wd (own := "ReadAloud") [32, 34, 38, 39] (by decide +kernel) wK_1
theorem ok_X11_deed : zokM zTab kX11_deed := ⟨zwdf_ok rfl _ 0 (by decide +kernel) (by decide +kernel), by decide +kernel, by decide +kernel⟩
theorem gw_X11_deed : (kX11_deed.2.2.2.2.2.flatMap (zrq zTab kX11_deed.1.cls)).all goodWord = true := by decide +kernel
theorem wd_X11_deed : ∀ w ∈ kX11_deed.2.2.2.2.2.flatMap (zrq zTab kX11_deed.1.cls), w ∈ lw_tbl := zkin_wd (own := "ReadAloud") [40, 41] (by decide +kernel) wK_1
theorem ok_X11_stop : zokM zTab kX11_stop := ⟨zwdf_ok rfl _ 0 (by decide +kernel) (by decide +kernel), by decide +kernel, by decide +kernel⟩
theorem gw_X11_stop : (kX11_stop.2.2.2.2.2.flatMap (zrq zTab kX11_stop.1.cls)).all goodWord = true := by decide +kernel
theorem wd_X11_stop : ∀ w ∈ kX11_stop.2.2.2.2.2.flatMap (zrq zTab kX11_stop.1.cls), w ∈ lw_tbl := zkin_wd (own := "ReadAloud") [32, 40, 42, 43, 42, 44, 45] (by decide +kernel) wK_1
theorem ok_X11_state : zokM zTab kX11_state := ⟨zwdf_ok rfl _ 0 (by decide +kernel) (by decide +kernel), by decide +kernel, by decide +kernel⟩
theorem gw_X11_state : (kX11_state.2.2.2.2.2.flatMap (zrq zTab kX11_state.1.cls)).all goodWord = true := by decide +kernel
theorem wd_X11_state : ∀ w ∈ kX11_state.2.2.2.2.2.flatMap (zrq zTab kX11_state.1.cls), w ∈ lw_tbl := zkin_wd (own := "ReadAloud") [32, 40, 44, 42, 43, 42, 45, 42, 46] (by decide +kernel) wK_1
theorem ok_X11_making : zokM zTab kX11_making := ⟨zwdf_ok rfl _ 0 (by decide +kernel) (by decide +kernel), by decide +kernel, by decide +kernel⟩
theorem gw_X11_making : (kX11_making.2.2.2.2.2.flatMap (zrq zTab kX11_making.1.cls)).all goodWord = true := by decide +kernel
theorem wd_X11_making : ∀ w ∈ kX11_making.2.2.2.2.2.flatMap (zrq zTab kX11_making.1.cls), w ∈ lw_tbl := zkin_wd (own := "ReadAloud") [47, 34, 34, 48, 49, 50, 51, 52] (by decide +kernel) wK_1
theorem ok_X11_ring : zokM zTab kX11_ring := ⟨zwdf_ok rfl _ 0 (by decide +kernel) (by decide +kernel), by decide +kernel, by decide +kernel⟩
theorem gw_X11_ring : (kX11_ring.2.2.2.2.2.flatMap (zrq zTab kX11_ring.1.cls)).all goodWord = true := by decide +kernel
theorem wd_X11_ring : ∀ w ∈ kX11_ring.2.2.2.2.2.flatMap (zrq zTab kX11_ring.1.cls), w ∈ lw_tbl := zkin_wd (own := "ReadAloud") [47, 34, 48, 49, 50, 53] (by decide +kernel) wK_1
theorem ok_X11_reach : zokM zTab kX11_reach := ⟨zwdf_ok rfl _ 0 (by decide +kernel) (by decide +kernel), by decide +kernel, by decide +kernel⟩
theorem gw_X11_reach : (kX11_reach.2.2.2.2.2.flatMap (zrq zTab kX11_reach.1.cls)).all goodWord = true := by decide +kernel
theorem wd_X11_reach : ∀ w ∈ kX11_reach.2.2.2.2.2.flatMap (zrq zTab kX11_reach.1.cls), w ∈ lw_tbl := zkin_wd (own := "ReadAloud") [47, 34, 48, 49, 50, 54, 55] (by decide +kernel) wK_1
theorem ok_X11_sound : zokM zTab kX11_sound := ⟨zwdf_ok rfl _ 0 (by decide +kernel) (by decide +kernel), by decide +kernel, by decide +kernel⟩
theorem gw_X11_sound : (kX11_sound.2.2.2.2.2.flatMap (zrq zTab kX11_sound.1.cls)).all goodWord = true := by decide +kernel
theorem wd_X11_sound : ∀ w ∈ kX11_sound.2.2.2.2.2.flatMap (zrq zTab kX11_sound.1.cls), w ∈ lw_tbl := zkin_wd (own := "ReadAloud") [47, 56, 57, 58] (by decide +kernel) wK_1
theorem ok_X11_like : zokM zTab kX11_like := ⟨zwdf_ok rfl _ 0 (by decide +kernel) (by decide +kernel), by decide +kernel, by decide +kernel⟩
theorem gw_X11_like : (kX11_like.2.2.2.2.2.flatMap (zrq zTab kX11_like.1.cls)).all goodWord = true := by decide +kernel
theorem wd_X11_like : ∀ w ∈ kX11_like.2.2.2.2.2.flatMap (zrq zTab kX11_like.1.cls), w ∈ lw_tbl := zkin_wd (own := "ReadAloud") [47, 56, 38, 56, 38, 59] (by decide +kernel) wK_1
theorem ok_X11_orbits : zokM zTab kX11_orbits := ⟨zwdf_ok rfl _ 0 (by decide +kernel) (by decide +kernel), by decide +kernel, by decide +kernel⟩
theorem gw_X11_orbits : (kX11_orbits.2.2.2.2.2.flatMap (zrq zTab kX11_orbits.1.cls)).all goodWord = true := by decide +kernel
theorem wd_X11_orbits : ∀ w ∈ kX11_orbits.2.2.2.2.2.flatMap (zrq zTab kX11_orbits.1.cls), w ∈ lw_tbl := zkin_wd (own := "ReadAloud") [47, 56, 38, 60, 61, 62] (by decide +kernel) wK_1
theorem ok_X11_rota : zokM zTab kX11_rota := ⟨zwdf_ok rfl _ 0 (by decide +kernel) (by decide +kernel), by decide +kernel, by decide +kernel⟩
theorem gw_X11_rota : (kX11_rota.2.2.2.2.2.flatMap (zrq zTab kX11_rota.1.cls)).all goodWord = true := by decide +kernel
theorem wd_X11_rota : ∀ w ∈ kX11_rota.2.2.2.2.2.flatMap (zrq zTab kX11_rota.1.cls), w ∈ lw_tbl := zkin_wd (own := "ReadAloud") [47, 63, 49, 64, 65, 49, 49, 66, 67, 68, 69, 70] (by decide +kernel) wK_1
theorem ok_X11_mean : zokM zTab kX11_mean := ⟨zwdf_ok rfl _ 0 (by decide +kernel) (by decide +kernel), by decide +kernel, by decide +kernel⟩
theorem gw_X11_mean : (kX11_mean.2.2.2.2.2.flatMap (zrq zTab kX11_mean.1.cls)).all goodWord = true := by decide +kernel
theorem wd_X11_mean : ∀ w ∈ kX11_mean.2.2.2.2.2.flatMap (zrq zTab kX11_mean.1.cls), w ∈ lw_tbl := zkin_wd (own := "ReadAloud") [47, 63, 49, 71, 64, 65, 49, 49, 66, 67, 72, 73, 74, 71] (by decide +kernel) wK_1
theorem ok_X11_elders : zokM zTab kX11_elders := ⟨zwdf_ok rfl _ 0 (by decide +kernel) (by decide +kernel), by decide +kernel, by decide +kernel⟩
theorem gw_X11_elders : (kX11_elders.2.2.2.2.2.flatMap (zrq zTab kX11_elders.1.cls)).all goodWord = true := by decide +kernel
theorem wd_X11_elders : ∀ w ∈ kX11_elders.2.2.2.2.2.flatMap (zrq zTab kX11_elders.1.cls), w ∈ lw_tbl := zkin_wd (own := "ReadAloud") [47, 34, 63, 75, 76, 77] (by decide +kernel) wK_1
theorem ok_X11_play : zokM zTab kX11_play := ⟨zwdf_ok rfl _ 0 (by decide +kernel) (by decide +kernel), by decide +kernel, by decide +kernel⟩
theorem gw_X11_play : (kX11_play.2.2.2.2.2.flatMap (zrq zTab kX11_play.1.cls)).all goodWord = true := by decide +kernel
theorem wd_X11_play : ∀ w ∈ kX11_play.2.2.2.2.2.flatMap (zrq zTab kX11_play.1.cls), w ∈ lw_tbl := zkin_wd (own := "ReadAloud") [47, 63, 78, 56, 57, 56, 57, 64, 65, 66, 79, 69, 70, 80] (by decide +kernel) wK_1
theorem ok_X11_fact : zokM zTab kX11_fact := ⟨zwdf_ok rfl _ 0 (by decide +kernel) (by decide +kernel), by decide +kernel, by decide +kernel⟩
theorem gw_X11_fact : (kX11_fact.2.2.2.2.2.flatMap (zrq zTab kX11_fact.1.cls)).all goodWord = true := by decide +kernel
theorem wd_X11_fact : ∀ w ∈ kX11_fact.2.2.2.2.2.flatMap (zrq zTab kX11_fact.1.cls), w ∈ lw_tbl := zkin_wd (own := "ReadAloud") [81, 82] (by decide +kernel) wK_1
theorem ok_X11_fits : zokM zTab kX11_fits := ⟨zwdf_ok rfl _ 0 (by decide +kernel) (by decide +kernel), by decide +kernel, by decide +kernel⟩
theorem gw_X11_fits : (kX11_fits.2.2.2.2.2.flatMap (zrq zTab kX11_fits.1.cls)).all goodWord = true := by decide +kernel
theorem wd_X11_fits : ∀ w ∈ kX11_fits.2.2.2.2.2.flatMap (zrq zTab kX11_fits.1.cls), w ∈ lw_tbl := zkin_wd (own := "ReadAloud") [47, 81, 63, 34, 64, 83, 49, 49, 66, 73, 84] (by decide +kernel) wK_1
theorem ok_X11_sure : zokM zTab kX11_sure := ⟨zwdf_ok rfl _ 0 (by decide +kernel) (by decide +kernel), by decide +kernel, by decide +kernel⟩
theorem gw_X11_sure : (kX11_sure.2.2.2.2.2.flatMap (zrq zTab kX11_sure.1.cls)).all goodWord = true := by decide +kernel
theorem wd_X11_sure : ∀ w ∈ kX11_sure.2.2.2.2.2.flatMap (zrq zTab kX11_sure.1.cls), w ∈ lw_tbl := zkin_wd (own := "ReadAloud") [47, 81, 63, 64, 83, 49, 49, 66, 73, 85, 69, 86, 87] (by decide +kernel) wK_1
theorem ok_X11_drawn : zokM zTab kX11_drawn := ⟨zwdf_ok rfl _ 0 (by decide +kernel) (by decide +kernel), by decide +kernel, by decide +kernel⟩
theorem gw_X11_drawn : (kX11_drawn.2.2.2.2.2.flatMap (zrq zTab kX11_drawn.1.cls)).all goodWord = true := by decide +kernel
theorem wd_X11_drawn : ∀ w ∈ kX11_drawn.2.2.2.2.2.flatMap (zrq zTab kX11_drawn.1.cls), w ∈ lw_tbl := zkin_wd (own := "ReadAloud") [32, 42, 43, 42, 88, 42, 46] (by decide +kernel) wK_1
theorem ok_X11_kinship : zokM zTab kX11_kinship := ⟨zwdf_ok rfl _ 0 (by decide +kernel) (by decide +kernel), by decide +kernel, by decide +kernel⟩
theorem gw_X11_kinship : (kX11_kinship.2.2.2.2.2.flatMap (zrq zTab kX11_kinship.1.cls)).all goodWord = true := by decide +kernel
theorem wd_X11_kinship : ∀ w ∈ kX11_kinship.2.2.2.2.2.flatMap (zrq zTab kX11_kinship.1.cls), w ∈ lw_tbl := zkin_wd (own := "ReadAloud") [32, 78, 89, 90] (by decide +kernel) wK_1
theorem ok_X11_shared : zokM zTab kX11_shared := ⟨zwdf_ok rfl _ 0 (by decide +kernel) (by decide +kernel), by decide +kernel, by decide +kernel⟩
theorem gw_X11_shared : (kX11_shared.2.2.2.2.2.flatMap (zrq zTab kX11_shared.1.cls)).all goodWord = true := by decide +kernel
theorem wd_X11_shared : ∀ w ∈ kX11_shared.2.2.2.2.2.flatMap (zrq zTab kX11_shared.1.cls), w ∈ lw_tbl := zkin_wd (own := "ReadAloud") [34, 34, 91, 35] (by decide +kernel) wK_1
theorem ok_X11_joined : zokM zTab kX11_joined := ⟨zwdf_ok rfl _ 0 (by decide +kernel) (by decide +kernel), by decide +kernel, by decide +kernel⟩
theorem gw_X11_joined : (kX11_joined.2.2.2.2.2.flatMap (zrq zTab kX11_joined.1.cls)).all goodWord = true := by decide +kernel
theorem wd_X11_joined : ∀ w ∈ kX11_joined.2.2.2.2.2.flatMap (zrq zTab kX11_joined.1.cls), w ∈ lw_tbl := zkin_wd (own := "ReadAloud") [47, 34, 34, 48, 48, 49, 50, 49, 50, 92, 51, 51] (by decide +kernel) wK_1
theorem ok_X11_nearest : zokM zTab kX11_nearest := ⟨zwdf_ok rfl _ 0 (by decide +kernel) (by decide +kernel), by decide +kernel, by decide +kernel⟩
theorem gw_X11_nearest : (kX11_nearest.2.2.2.2.2.flatMap (zrq zTab kX11_nearest.1.cls)).all goodWord = true := by decide +kernel
theorem wd_X11_nearest : ∀ w ∈ kX11_nearest.2.2.2.2.2.flatMap (zrq zTab kX11_nearest.1.cls), w ∈ lw_tbl := zkin_wd (own := "ReadAloud") [47, 34, 34, 48, 49, 50, 93, 37] (by decide +kernel) wK_1
theorem ok_X11_settles : zokM zTab kX11_settles := ⟨zwdf_ok rfl _ 0 (by decide +kernel) (by decide +kernel), by decide +kernel, by decide +kernel⟩
theorem gw_X11_settles : (kX11_settles.2.2.2.2.2.flatMap (zrq zTab kX11_settles.1.cls)).all goodWord = true := by decide +kernel
theorem wd_X11_settles : ∀ w ∈ kX11_settles.2.2.2.2.2.flatMap (zrq zTab kX11_settles.1.cls), w ∈ lw_tbl := zkin_wd (own := "ReadAloud") [47, 34, 48, 49, 50, 94, 51] (by decide +kernel) wK_1
theorem ok_X11_unmade : zokM zTab kX11_unmade := ⟨zwdf_ok rfl _ 0 (by decide +kernel) (by decide +kernel), by decide +kernel, by decide +kernel⟩
theorem gw_X11_unmade : (kX11_unmade.2.2.2.2.2.flatMap (zrq zTab kX11_unmade.1.cls)).all goodWord = true := by decide +kernel
theorem wd_X11_unmade : ∀ w ∈ kX11_unmade.2.2.2.2.2.flatMap (zrq zTab kX11_unmade.1.cls), w ∈ lw_tbl := zkin_wd (own := "ReadAloud") [47, 95, 76, 77] (by decide +kernel) wK_1
theorem ok_X11_silenced : zokM zTab kX11_silenced := ⟨zwdf_ok rfl _ 0 (by decide +kernel) (by decide +kernel), by decide +kernel, by decide +kernel⟩
theorem gw_X11_silenced : (kX11_silenced.2.2.2.2.2.flatMap (zrq zTab kX11_silenced.1.cls)).all goodWord = true := by decide +kernel
theorem wd_X11_silenced : ∀ w ∈ kX11_silenced.2.2.2.2.2.flatMap (zrq zTab kX11_silenced.1.cls), w ∈ lw_tbl := zkin_wd (own := "ReadAloud") [47, 34, 34, 48, 56, 96, 49, 97, 49, 50, 51] (by decide +kernel) wK_1
