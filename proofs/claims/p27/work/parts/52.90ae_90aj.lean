theorem zd_L_law_16 : qL_law_16.all (zde kL_law) = true := zwdf_ok rfl _ 1128 (by decide +kernel) (by decide +kernel)
theorem kn_L_law_16 : zkin zK_0 qL_law_16 [46, 47] = true := by decide +kernel
theorem zr_L_law_16 : qL_law_16.all (zrow zTab kL_law) = true := zrow_all (by decide +kernel) (zkin_lk (own := "ReadAloudLaw") [46, 47] kn_L_law_16 lK_0 rfl)
theorem gw_L_law_16 : (qL_law_16.flatMap (zrq zTab kL_law.1.cls)).all goodWord = true := zkin_gw (own := "ReadAloudLaw") [46, 47] kn_L_law_16 gK_0
theorem wd_L_law_16 : ∀ w ∈ qL_law_16.flatMap (zrq zTab kL_law.1.cls), w ∈ lw_tbl := zkin_wd (own := "ReadAloudLaw") [46, 47] kn_L_law_16 wK_0
theorem zd_L_law_17 : qL_law_17.all (zde kL_law) = true := zwdf_ok rfl _ 1186 (by decide +kernel) (by decide +kernel)
theorem kn_L_law_17 : zkin zK_0 qL_law_17 [48, 49] = true := by decide +kernel
theorem zr_L_law_17 : qL_law_17.all (zrow zTab kL_law) = true := zrow_all (by decide +kernel) (zkin_lk (own := "ReadAloudLaw") [48, 49] kn_L_law_17 lK_0 rfl)
theorem gw_L_law_17 : (qL_law_17.flatMap (zrq zTab kL_law.1.cls)).all goodWord = true := zkin_gw (own := "ReadAloudLaw") [48, 49] kn_L_law_17 gK_0
theorem wd_L_law_17 : ∀ w ∈ qL_law_17.flatMap (zrq zTab kL_law.1.cls), w ∈ lw_tbl := zkin_wd (own := "ReadAloudLaw") [48, 49] kn_L_law_17 wK_0
theorem zd_L_law_18 : qL_law_18.all (zde kL_law) = true := zwdf_ok rfl _ 1242 (by decide +kernel) (by decide +kernel)
theorem kn_L_law_18 : zkin zK_0 qL_law_18 [50, 51] = true := by decide +kernel
theorem zr_L_law_18 : qL_law_18.all (zrow zTab kL_law) = true := zrow_all (by decide +kernel) (zkin_lk (own := "ReadAloudLaw") [50, 51] kn_L_law_18 lK_0 rfl)
theorem gw_L_law_18 : (qL_law_18.flatMap (zrq zTab kL_law.1.cls)).all goodWord = true := zkin_gw (own := "ReadAloudLaw") [50, 51] kn_L_law_18 gK_0
theorem wd_L_law_18 : ∀ w ∈ qL_law_18.flatMap (zrq zTab kL_law.1.cls), w ∈ lw_tbl := zkin_wd (own := "ReadAloudLaw") [50, 51] kn_L_law_18 wK_0
theorem zd_L_law_19 : qL_law_19.all (zde kL_law) = true := zwdf_ok rfl _ 1298 (by decide +kernel) (by decide +kernel)
theorem kn_L_law_19 : zkin zK_0 qL_law_19 [52, 53, 54] = true := by decide +kernel
theorem zr_L_law_19 : qL_law_19.all (zrow zTab kL_law) = true := zrow_all (by decide +kernel) (zkin_lk (own := "ReadAloudLaw") [52, 53, 54] kn_L_law_19 lK_0 rfl)
theorem gw_L_law_19 : (qL_law_19.flatMap (zrq zTab kL_law.1.cls)).all goodWord = true := zkin_gw (own := "ReadAloudLaw") [52, 53, 54] kn_L_law_19 gK_0
theorem wd_L_law_19 : ∀ w ∈ qL_law_19.flatMap (zrq zTab kL_law.1.cls), w ∈ lw_tbl := zkin_wd (own := "ReadAloudLaw") [52, 53, 54] kn_L_law_19 wK_0
theorem zd_L_law_20 : qL_law_20.all (zde kL_law) = true := zwdf_ok rfl _ 1360 (by decide +kernel) (by decide +kernel)
theorem kn_L_law_20 : zkin zK_0 qL_law_20 [55, 56] = true := by decide +kernel
theorem zr_L_law_20 : qL_law_20.all (zrow zTab kL_law) = true := zrow_all (by decide +kernel) (zkin_lk (own := "ReadAloudLaw") [55, 56] kn_L_law_20 lK_0 rfl)
theorem gw_L_law_20 : (qL_law_20.flatMap (zrq zTab kL_law.1.cls)).all goodWord = true := zkin_gw (own := "ReadAloudLaw") [55, 56] kn_L_law_20 gK_0
theorem wd_L_law_20 : ∀ w ∈ qL_law_20.flatMap (zrq zTab kL_law.1.cls), w ∈ lw_tbl := zkin_wd (own := "ReadAloudLaw") [55, 56] kn_L_law_20 wK_0
theorem zd_L_law_21 : qL_law_21.all (zde kL_law) = true := zwdf_ok rfl _ 1424 (by decide +kernel) (by decide +kernel)
theorem kn_L_law_21 : zkin zK_0 qL_law_21 [57, 58] = true := by decide +kernel
theorem zr_L_law_21 : qL_law_21.all (zrow zTab kL_law) = true := zrow_all (by decide +kernel) (zkin_lk (own := "ReadAloudLaw") [57, 58] kn_L_law_21 lK_0 rfl)
theorem gw_L_law_21 : (qL_law_21.flatMap (zrq zTab kL_law.1.cls)).all goodWord = true := zkin_gw (own := "ReadAloudLaw") [57, 58] kn_L_law_21 gK_0
theorem wd_L_law_21 : ∀ w ∈ qL_law_21.flatMap (zrq zTab kL_law.1.cls), w ∈ lw_tbl := zkin_wd (own := "ReadAloudLaw") [57, 58] kn_L_law_21 wK_0
theorem zd_L_law_22 : qL_law_22.all (zde kL_law) = true := zwdf_ok rfl _ 1488 (by decide +kernel) (by decide +kernel)
theorem kn_L_law_22 : zkin zK_0 qL_law_22 [59, 60] = true := by decide +kernel
theorem zr_L_law_22 : qL_law_22.all (zrow zTab kL_law) = true := zrow_all (by decide +kernel) (zkin_lk (own := "ReadAloudLaw") [59, 60] kn_L_law_22 lK_0 rfl)
theorem gw_L_law_22 : (qL_law_22.flatMap (zrq zTab kL_law.1.cls)).all goodWord = true := zkin_gw (own := "ReadAloudLaw") [59, 60] kn_L_law_22 gK_0
theorem wd_L_law_22 : ∀ w ∈ qL_law_22.flatMap (zrq zTab kL_law.1.cls), w ∈ lw_tbl := zkin_wd (own := "ReadAloudLaw") [59, 60] kn_L_law_22 wK_0
theorem zd_L_law_23 : qL_law_23.all (zde kL_law) = true := zwdf_ok rfl _ 1552 (by decide +kernel) (by decide +kernel)
theorem kn_L_law_23 : zkin zK_0 qL_law_23 [61, 62] = true := by decide +kernel
theorem zr_L_law_23 : qL_law_23.all (zrow zTab kL_law) = true := zrow_all (by decide +kernel) (zkin_lk (own := "ReadAloudLaw") [61, 62] kn_L_law_23 lK_0 rfl)
theorem gw_L_law_23 : (qL_law_23.flatMap (zrq zTab kL_law.1.cls)).all goodWord = true := zkin_gw (own := "ReadAloudLaw") [61, 62] kn_L_law_23 gK_0
theorem wd_L_law_23 : ∀ w ∈ qL_law_23.flatMap (zrq zTab kL_law.1.cls), w ∈ lw_tbl := zkin_wd (own := "ReadAloudLaw") [61, 62] kn_L_law_23 wK_0
theorem zd_L_law_24 : qL_law_24.all (zde kL_law) = true := zwdf_ok rfl _ 1616 (by decide +kernel) (by decide +kernel)
theorem kn_L_law_24 : zkin zK_0 qL_law_24 [63, 64] = true := by decide +kernel
theorem zr_L_law_24 : qL_law_24.all (zrow zTab kL_law) = true := zrow_all (by decide +kernel) (zkin_lk (own := "ReadAloudLaw") [63, 64] kn_L_law_24 lK_0 rfl)
theorem gw_L_law_24 : (qL_law_24.flatMap (zrq zTab kL_law.1.cls)).all goodWord = true := zkin_gw (own := "ReadAloudLaw") [63, 64] kn_L_law_24 gK_0
theorem wd_L_law_24 : ∀ w ∈ qL_law_24.flatMap (zrq zTab kL_law.1.cls), w ∈ lw_tbl := zkin_wd (own := "ReadAloudLaw") [63, 64] kn_L_law_24 wK_0
theorem zd_L_law_25 : qL_law_25.all (zde kL_law) = true := zwdf_ok rfl _ 1680 (by decide +kernel) (by decide +kernel)
theorem kn_L_law_25 : zkin zK_0 qL_law_25 [65, 66, 67] = true := by decide +kernel
theorem zr_L_law_25 : qL_law_25.all (zrow zTab kL_law) = true := zrow_all (by decide +kernel) (zkin_lk (own := "ReadAloudLaw") [65, 66, 67] kn_L_law_25 lK_0 rfl)
theorem gw_L_law_25 : (qL_law_25.flatMap (zrq zTab kL_law.1.cls)).all goodWord = true := zkin_gw (own := "ReadAloudLaw") [65, 66, 67] kn_L_law_25 gK_0
theorem wd_L_law_25 : ∀ w ∈ qL_law_25.flatMap (zrq zTab kL_law.1.cls), w ∈ lw_tbl := zkin_wd (own := "ReadAloudLaw") [65, 66, 67] kn_L_law_25 wK_0
theorem zd_L_law_26 : qL_law_26.all (zde kL_law) = true := zwdf_ok rfl _ 1744 (by decide +kernel) (by decide +kernel)
theorem kn_L_law_26 : zkin zK_0 qL_law_26 [68, 69, 70, 71, 72] = true := by decide +kernel
theorem zr_L_law_26 : qL_law_26.all (zrow zTab kL_law) = true := zrow_all (by decide +kernel) (zkin_lk (own := "ReadAloudLaw") [68, 69, 70, 71, 72] kn_L_law_26 lK_0 rfl)
theorem gw_L_law_26 : (qL_law_26.flatMap (zrq zTab kL_law.1.cls)).all goodWord = true := zkin_gw (own := "ReadAloudLaw") [68, 69, 70, 71, 72] kn_L_law_26 gK_0
theorem wd_L_law_26 : ∀ w ∈ qL_law_26.flatMap (zrq zTab kL_law.1.cls), w ∈ lw_tbl := zkin_wd (own := "ReadAloudLaw") [68, 69, 70, 71, 72] kn_L_law_26 wK_0
theorem zd_L_law_27 : qL_law_27.all (zde kL_law) = true := zwdf_ok rfl _ 1808 (by decide +kernel) (by decide +kernel)
theorem kn_L_law_27 : zkin zK_0 qL_law_27 [73, 74, 75] = true := by decide +kernel
theorem zr_L_law_27 : qL_law_27.all (zrow zTab kL_law) = true := zrow_all (by decide +kernel) (zkin_lk (own := "ReadAloudLaw") [73, 74, 75] kn_L_law_27 lK_0 rfl)
theorem gw_L_law_27 : (qL_law_27.flatMap (zrq zTab kL_law.1.cls)).all goodWord = true := zkin_gw (own := "ReadAloudLaw") [73, 74, 75] kn_L_law_27 gK_0
theorem wd_L_law_27 : ∀ w ∈ qL_law_27.flatMap (zrq zTab kL_law.1.cls), w ∈ lw_tbl := zkin_wd (own := "ReadAloudLaw") [73, 74, 75] kn_L_law_27 wK_0
theorem ok_L_law : zokM zTab kL_law := ⟨zall_app zd_L_law_0 (zall_app zd_L_law_1 (zall_app zd_L_law_2 (zall_app zd_L_law_3 (zall_app zd_L_law_4 (zall_app zd_L_law_5 (zall_app zd_L_law_6 (zall_app zd_L_law_7 (zall_app zd_L_law_8 (zall_app zd_L_law_9 (zall_app zd_L_law_10 (zall_app zd_L_law_11 (zall_app zd_L_law_12 (zall_app zd_L_law_13 (zall_app zd_L_law_14 (zall_app zd_L_law_15 (zall_app zd_L_law_16 (zall_app zd_L_law_17 (zall_app zd_L_law_18 (zall_app zd_L_law_19 (zall_app zd_L_law_20 (zall_app zd_L_law_21 (zall_app zd_L_law_22 (zall_app zd_L_law_23 (zall_app zd_L_law_24 (zall_app zd_L_law_25 (zall_app zd_L_law_26 (zd_L_law_27))))))))))))))))))))))))))), zall_app zr_L_law_0 (zall_app zr_L_law_1 (zall_app zr_L_law_2 (zall_app zr_L_law_3 (zall_app zr_L_law_4 (zall_app zr_L_law_5 (zall_app zr_L_law_6 (zall_app zr_L_law_7 (zall_app zr_L_law_8 (zall_app zr_L_law_9 (zall_app zr_L_law_10 (zall_app zr_L_law_11 (zall_app zr_L_law_12 (zall_app zr_L_law_13 (zall_app zr_L_law_14 (zall_app zr_L_law_15 (zall_app zr_L_law_16 (zall_app zr_L_law_17 (zall_app zr_L_law_18 (zall_app zr_L_law_19 (zall_app zr_L_law_20 (zall_app zr_L_law_21 (zall_app zr_L_law_22 (zall_app zr_L_law_23 (zall_app zr_L_law_24 (zall_app zr_L_law_25 (zall_app zr_L_law_26 (zr_L_law_27))))))))))))))))))))))))))), by decide +kernel⟩
theorem gw_L_law : (kL_law.2.2.2.2.2.flatMap (zrq zTab kL_law.1.cls)).all goodWord = true := zfg_app gw_L_law_0 (zfg_app gw_L_law_1 (zfg_app gw_L_law_2 (zfg_app gw_L_law_3 (zfg_app gw_L_law_4 (zfg_app gw_L_law_5 (zfg_app gw_L_law_6 (zfg_app gw_L_law_7 (zfg_app gw_L_law_8 (zfg_app gw_L_law_9 (zfg_app gw_L_law_10 (zfg_app gw_L_law_11 (zfg_app gw_L_law_12 (zfg_app gw_L_law_13 (zfg_app gw_L_law_14 (zfg_app gw_L_law_15 (zfg_app gw_L_law_16 (zfg_app gw_L_law_17 (zfg_app gw_L_law_18 (zfg_app gw_L_law_19 (zfg_app gw_L_law_20 (zfg_app gw_L_law_21 (zfg_app gw_L_law_22 (zfg_app gw_L_law_23 (zfg_app gw_L_law_24 (zfg_app gw_L_law_25 (zfg_app gw_L_law_26 (gw_L_law_27)))))))))))))))))))))))))))
theorem wd_L_law : ∀ w ∈ kL_law.2.2.2.2.2.flatMap (zrq zTab kL_law.1.cls), w ∈ lw_tbl := zfm_app wd_L_law_0 (zfm_app wd_L_law_1 (zfm_app wd_L_law_2 (zfm_app wd_L_law_3 (zfm_app wd_L_law_4 (zfm_app wd_L_law_5 (zfm_app wd_L_law_6 (zfm_app wd_L_law_7 (zfm_app wd_L_law_8 (zfm_app wd_L_law_9 (zfm_app wd_L_law_10 (zfm_app wd_L_law_11 (zfm_app wd_L_law_12 (zfm_app wd_L_law_13 (zfm_app wd_L_law_14 (zfm_app wd_L_law_15 (zfm_app wd_L_law_16 (zfm_app wd_L_law_17 (zfm_app wd_L_law_18 (zfm_app wd_L_law_19 (zfm_app wd_L_law_20 (zfm_app wd_L_law_21 (zfm_app wd_L_law_22 (zfm_app wd_L_law_23 (zfm_app wd_L_law_24 (zfm_app wd_L_law_25 (zfm_app wd_L_law_26 (wd_L_law_27)))))))))))))))))))))))))))
theorem kn_X11_init : zkin zK_1 qX11_init [0, 1, 2, 3, 4, 5, 6, 7, 8, 9, 10, 11, 12, 13, 14, 15, 16, 17] = true := by decide +kernel
theorem ok_X11_init : zokM zTab kX11_init := ⟨zwdf_ok rfl _ 0 (by decide +kernel) (by decide +kernel), zrow_all (by decide +kernel) (zkin_lk (own := "ReadAloud") [0, 1, 2, 3, 4, 5, 6, 7, 8, 9, 10, 11, 12, 13, 14, 15, 16, 17] kn_X11_init lK_1 rfl), by decide +kernel⟩
theorem gw_X11_init : (kX11_init.2.2.2.2.2.flatMap (zrq zTab kX11_init.1.cls)).all goodWord = true := zkin_gw (own := "ReadAloud") [0, 1, 2, 3, 4, 5, 6, 7, 8, 9, 10, 11, 12, 13, 14, 15, 16, 17] kn_X11_init gK_1
theorem wd_X11_init : ∀ w ∈ kX11_init.2.2.2.2.2.flatMap (zrq zTab kX11_init.1.cls), w ∈ lw_tbl := zkin_wd (own := "ReadAloud") [0, 1, 2, 3, 4, 5, 6, 7, 8, 9, 10, 11, 12, 13, 14, 15, 16, 17] kn_X11_init wK_1
theorem kn_X11_feed : zkin zK_1 qX11_feed [18, 19, 18, 20, 18, 20, 18, 20, 18, 20, 18, 20, 18, 19] = true := by decide +kernel
theorem ok_X11_feed : zokM zTab kX11_feed := ⟨zwdf_ok rfl _ 0 (by decide +kernel) (by decide +kernel), zrow_all (by decide +kernel) (zkin_lk (own := "ReadAloud") [18, 19, 18, 20, 18, 20, 18, 20, 18, 20, 18, 20, 18, 19] kn_X11_feed lK_1 rfl), by decide +kernel⟩
theorem gw_X11_feed : (kX11_feed.2.2.2.2.2.flatMap (zrq zTab kX11_feed.1.cls)).all goodWord = true := zkin_gw (own := "ReadAloud") [18, 19, 18, 20, 18, 20, 18, 20, 18, 20, 18, 20, 18, 19] kn_X11_feed gK_1
theorem wd_X11_feed : ∀ w ∈ kX11_feed.2.2.2.2.2.flatMap (zrq zTab kX11_feed.1.cls), w ∈ lw_tbl := zkin_wd (own := "ReadAloud") [18, 19, 18, 20, 18, 20, 18, 20, 18, 20, 18, 20, 18, 19] kn_X11_feed wK_1
theorem kn_X11_end : zkin zK_1 qX11_end [18, 19, 18, 21] = true := by decide +kernel
theorem ok_X11_end : zokM zTab kX11_end := ⟨zwdf_ok rfl _ 0 (by decide +kernel) (by decide +kernel), zrow_all (by decide +kernel) (zkin_lk (own := "ReadAloud") [18, 19, 18, 21] kn_X11_end lK_1 rfl), by decide +kernel⟩
theorem gw_X11_end : (kX11_end.2.2.2.2.2.flatMap (zrq zTab kX11_end.1.cls)).all goodWord = true := zkin_gw (own := "ReadAloud") [18, 19, 18, 21] kn_X11_end gK_1
theorem wd_X11_end : ∀ w ∈ kX11_end.2.2.2.2.2.flatMap (zrq zTab kX11_end.1.cls), w ∈ lw_tbl := zkin_wd (own := "ReadAloud") [18, 19, 18, 21] kn_X11_end wK_1
theorem kn_X11_text : zkin zK_1 qX11_text [18, 19, 18, 21, 18, 22, 18, 23, 18, 24, 25, 18, 26, 27, 22, 18, 26, 28, 23, 18, 24, 29] = true := by decide +kernel
theorem ok_X11_text : zokM zTab kX11_text := ⟨zwdf_ok rfl _ 0 (by decide +kernel) (by decide +kernel), zrow_all (by decide +kernel) (zkin_lk (own := "ReadAloud") [18, 19, 18, 21, 18, 22, 18, 23, 18, 24, 25, 18, 26, 27, 22, 18, 26, 28, 23, 18, 24, 29] kn_X11_text lK_1 rfl), by decide +kernel⟩
theorem gw_X11_text : (kX11_text.2.2.2.2.2.flatMap (zrq zTab kX11_text.1.cls)).all goodWord = true := zkin_gw (own := "ReadAloud") [18, 19, 18, 21, 18, 22, 18, 23, 18, 24, 25, 18, 26, 27, 22, 18, 26, 28, 23, 18, 24, 29] kn_X11_text gK_1
theorem wd_X11_text : ∀ w ∈ kX11_text.2.2.2.2.2.flatMap (zrq zTab kX11_text.1.cls), w ∈ lw_tbl := zkin_wd (own := "ReadAloud") [18, 19, 18, 21, 18, 22, 18, 23, 18, 24, 25, 18, 26, 27, 22, 18, 26, 28, 23, 18, 24, 29] kn_X11_text wK_1
theorem kn_X11_fault : zkin zK_1 qX11_fault [18, 30, 18, 31] = true := by decide +kernel
theorem ok_X11_fault : zokM zTab kX11_fault := ⟨zwdf_ok rfl _ 0 (by decide +kernel) (by decide +kernel), zrow_all (by decide +kernel) (zkin_lk (own := "ReadAloud") [18, 30, 18, 31] kn_X11_fault lK_1 rfl), by decide +kernel⟩
theorem gw_X11_fault : (kX11_fault.2.2.2.2.2.flatMap (zrq zTab kX11_fault.1.cls)).all goodWord = true := zkin_gw (own := "ReadAloud") [18, 30, 18, 31] kn_X11_fault gK_1
theorem wd_X11_fault : ∀ w ∈ kX11_fault.2.2.2.2.2.flatMap (zrq zTab kX11_fault.1.cls), w ∈ lw_tbl := zkin_wd (own := "ReadAloud") [18, 30, 18, 31] kn_X11_fault wK_1
theorem kn_X11_book : zkin zK_1 qX11_book [32, 33] = true := by decide +kernel
theorem ok_X11_book : zokM zTab kX11_book := ⟨zwdf_ok rfl _ 0 (by decide +kernel) (by decide +kernel), zrow_all (by decide +kernel) (zkin_lk (own := "ReadAloud") [32, 33] kn_X11_book lK_1 rfl), by decide +kernel⟩
theorem gw_X11_book : (kX11_book.2.2.2.2.2.flatMap (zrq zTab kX11_book.1.cls)).all goodWord = true := zkin_gw (own := "ReadAloud") [32, 33] kn_X11_book gK_1
theorem wd_X11_book : ∀ w ∈ kX11_book.2.2.2.2.2.flatMap (zrq zTab kX11_book.1.cls), w ∈ lw_tbl := zkin_wd (own := "ReadAloud") [32, 33] kn_X11_book wK_1
theorem kn_X11_word : zkin zK_1 qX11_word [34, 35, 36] = true := by decide +kernel
theorem ok_X11_word : zokM zTab kX11_word := ⟨zwdf_ok rfl _ 0 (by decide +kernel) (by decide +kernel), zrow_all (by decide +kernel) (zkin_lk (own := "ReadAloud") [34, 35, 36] kn_X11_word lK_1 rfl), by decide +kernel⟩
theorem gw_X11_word : (kX11_word.2.2.2.2.2.flatMap (zrq zTab kX11_word.1.cls)).all goodWord = true := zkin_gw (own := "ReadAloud") [34, 35, 36] kn_X11_word gK_1
theorem wd_X11_word : ∀ w ∈ kX11_word.2.2.2.2.2.flatMap (zrq zTab kX11_word.1.cls), w ∈ lw_tbl := zkin_wd (own := "ReadAloud") [34, 35, 36] kn_X11_word wK_1
theorem kn_X11_drift : zkin zK_1 qX11_drift [34, 34, 37] = true := by decide +kernel
theorem ok_X11_drift : zokM zTab kX11_drift := ⟨zwdf_ok rfl _ 0 (by decide +kernel) (by decide +kernel), zrow_all (by decide +kernel) (zkin_lk (own := "ReadAloud") [34, 34, 37] kn_X11_drift lK_1 rfl), by decide +kernel⟩
theorem gw_X11_drift : (kX11_drift.2.2.2.2.2.flatMap (zrq zTab kX11_drift.1.cls)).all goodWord = true := zkin_gw (own := "ReadAloud") [34, 34, 37] kn_X11_drift gK_1
theorem wd_X11_drift : ∀ w ∈ kX11_drift.2.2.2.2.2.flatMap (zrq zTab kX11_drift.1.cls), w ∈ lw_tbl := zkin_wd (own := "ReadAloud") [34, 34, 37] kn_X11_drift wK_1
theorem kn_X11_read : zkin zK_1 qX11_read [32, 34, 38, 39] = true := by decide +kernel
theorem ok_X11_read : zokM zTab kX11_read := ⟨zwdf_ok rfl _ 0 (by decide +kernel) (by decide +kernel), zrow_all (by decide +kernel) (zkin_lk (own := "ReadAloud") [32, 34, 38, 39] kn_X11_read lK_1 rfl), by decide +kernel⟩
theorem gw_X11_read : (kX11_read.2.2.2.2.2.flatMap (zrq zTab kX11_read.1.cls)).all goodWord = true := zkin_gw (own := "ReadAloud") [32, 34, 38, 39] kn_X11_read gK_1
theorem wd_X11_read : ∀ w ∈ kX11_read.2.2.2.2.2.flatMap (zrq zTab kX11_read.1.cls), w ∈ lw_tbl := zkin_wd (own := "ReadAloud") [32, 34, 38, 39] kn_X11_read wK_1
theorem kn_X11_deed : zkin zK_1 qX11_deed [40, 41] = true := by decide +kernel
theorem ok_X11_deed : zokM zTab kX11_deed := ⟨zwdf_ok rfl _ 0 (by decide +kernel) (by decide +kernel), zrow_all (by decide +kernel) (zkin_lk (own := "ReadAloud") [40, 41] kn_X11_deed lK_1 rfl), by decide +kernel⟩
theorem gw_X11_deed : (kX11_deed.2.2.2.2.2.flatMap (zrq zTab kX11_deed.1.cls)).all goodWord = true := zkin_gw (own := "ReadAloud") [40, 41] kn_X11_deed gK_1
theorem wd_X11_deed : ∀ w ∈ kX11_deed.2.2.2.2.2.flatMap (zrq zTab kX11_deed.1.cls), w ∈ lw_tbl := zkin_wd (own := "ReadAloud") [40, 41] kn_X11_deed wK_1
theorem kn_X11_stop : zkin zK_1 qX11_stop [32, 40, 42, 43, 42, 44, 45] = true := by decide +kernel
theorem ok_X11_stop : zokM zTab kX11_stop := ⟨zwdf_ok rfl _ 0 (by decide +kernel) (by decide +kernel), zrow_all (by decide +kernel) (zkin_lk (own := "ReadAloud") [32, 40, 42, 43, 42, 44, 45] kn_X11_stop lK_1 rfl), by decide +kernel⟩
theorem gw_X11_stop : (kX11_stop.2.2.2.2.2.flatMap (zrq zTab kX11_stop.1.cls)).all goodWord = true := zkin_gw (own := "ReadAloud") [32, 40, 42, 43, 42, 44, 45] kn_X11_stop gK_1
theorem wd_X11_stop : ∀ w ∈ kX11_stop.2.2.2.2.2.flatMap (zrq zTab kX11_stop.1.cls), w ∈ lw_tbl := zkin_wd (own := "ReadAloud") [32, 40, 42, 43, 42, 44, 45] kn_X11_stop wK_1
theorem kn_X11_state : zkin zK_1 qX11_state [32, 40, 44, 42, 43, 42, 45, 42, 46] = true := by decide +kernel
theorem ok_X11_state : zokM zTab kX11_state := ⟨zwdf_ok rfl _ 0 (by decide +kernel) (by decide +kernel), zrow_all (by decide +kernel) (zkin_lk (own := "ReadAloud") [32, 40, 44, 42, 43, 42, 45, 42, 46] kn_X11_state lK_1 rfl), by decide +kernel⟩
theorem gw_X11_state : (kX11_state.2.2.2.2.2.flatMap (zrq zTab kX11_state.1.cls)).all goodWord = true := zkin_gw (own := "ReadAloud") [32, 40, 44, 42, 43, 42, 45, 42, 46] kn_X11_state gK_1
theorem wd_X11_state : ∀ w ∈ kX11_state.2.2.2.2.2.flatMap (zrq zTab kX11_state.1.cls), w ∈ lw_tbl := zkin_wd (own := "ReadAloud") [32, 40, 44, 42, 43, 42, 45, 42, 46] kn_X11_state wK_1
theorem kn_X11_making : zkin zK_1 qX11_making [47, 34, 34, 48, 49, 50, 51, 52] = true := by decide +kernel
theorem ok_X11_making : zokM zTab kX11_making := ⟨zwdf_ok rfl _ 0 (by decide +kernel) (by decide +kernel), zrow_all (by decide +kernel) (zkin_lk (own := "ReadAloud") [47, 34, 34, 48, 49, 50, 51, 52] kn_X11_making lK_1 rfl), by decide +kernel⟩
theorem gw_X11_making : (kX11_making.2.2.2.2.2.flatMap (zrq zTab kX11_making.1.cls)).all goodWord = true := zkin_gw (own := "ReadAloud") [47, 34, 34, 48, 49, 50, 51, 52] kn_X11_making gK_1
theorem wd_X11_making : ∀ w ∈ kX11_making.2.2.2.2.2.flatMap (zrq zTab kX11_making.1.cls), w ∈ lw_tbl := zkin_wd (own := "ReadAloud") [47, 34, 34, 48, 49, 50, 51, 52] kn_X11_making wK_1
theorem kn_X11_ring : zkin zK_1 qX11_ring [47, 34, 48, 49, 50, 53] = true := by decide +kernel
theorem ok_X11_ring : zokM zTab kX11_ring := ⟨zwdf_ok rfl _ 0 (by decide +kernel) (by decide +kernel), zrow_all (by decide +kernel) (zkin_lk (own := "ReadAloud") [47, 34, 48, 49, 50, 53] kn_X11_ring lK_1 rfl), by decide +kernel⟩
theorem gw_X11_ring : (kX11_ring.2.2.2.2.2.flatMap (zrq zTab kX11_ring.1.cls)).all goodWord = true := zkin_gw (own := "ReadAloud") [47, 34, 48, 49, 50, 53] kn_X11_ring gK_1
theorem wd_X11_ring : ∀ w ∈ kX11_ring.2.2.2.2.2.flatMap (zrq zTab kX11_ring.1.cls), w ∈ lw_tbl := zkin_wd (own := "ReadAloud") [47, 34, 48, 49, 50, 53] kn_X11_ring wK_1
theorem kn_X11_reach : zkin zK_1 qX11_reach [47, 34, 48, 49, 50, 54, 55] = true := by decide +kernel
theorem ok_X11_reach : zokM zTab kX11_reach := ⟨zwdf_ok rfl _ 0 (by decide +kernel) (by decide +kernel), zrow_all (by decide +kernel) (zkin_lk (own := "ReadAloud") [47, 34, 48, 49, 50, 54, 55] kn_X11_reach lK_1 rfl), by decide +kernel⟩
theorem gw_X11_reach : (kX11_reach.2.2.2.2.2.flatMap (zrq zTab kX11_reach.1.cls)).all goodWord = true := zkin_gw (own := "ReadAloud") [47, 34, 48, 49, 50, 54, 55] kn_X11_reach gK_1
theorem wd_X11_reach : ∀ w ∈ kX11_reach.2.2.2.2.2.flatMap (zrq zTab kX11_reach.1.cls), w ∈ lw_tbl := zkin_wd (own := "ReadAloud") [47, 34, 48, 49, 50, 54, 55] kn_X11_reach wK_1
theorem kn_X11_sound : zkin zK_1 qX11_sound [47, 56, 57, 58] = true := by decide +kernel
theorem ok_X11_sound : zokM zTab kX11_sound := ⟨zwdf_ok rfl _ 0 (by decide +kernel) (by decide +kernel), zrow_all (by decide +kernel) (zkin_lk (own := "ReadAloud") [47, 56, 57, 58] kn_X11_sound lK_1 rfl), by decide +kernel⟩
theorem gw_X11_sound : (kX11_sound.2.2.2.2.2.flatMap (zrq zTab kX11_sound.1.cls)).all goodWord = true := zkin_gw (own := "ReadAloud") [47, 56, 57, 58] kn_X11_sound gK_1
theorem wd_X11_sound : ∀ w ∈ kX11_sound.2.2.2.2.2.flatMap (zrq zTab kX11_sound.1.cls), w ∈ lw_tbl := zkin_wd (own := "ReadAloud") [47, 56, 57, 58] kn_X11_sound wK_1
theorem kn_X11_like : zkin zK_1 qX11_like [47, 56, 38, 56, 38, 59] = true := by decide +kernel
theorem ok_X11_like : zokM zTab kX11_like := ⟨zwdf_ok rfl _ 0 (by decide +kernel) (by decide +kernel), zrow_all (by decide +kernel) (zkin_lk (own := "ReadAloud") [47, 56, 38, 56, 38, 59] kn_X11_like lK_1 rfl), by decide +kernel⟩
theorem gw_X11_like : (kX11_like.2.2.2.2.2.flatMap (zrq zTab kX11_like.1.cls)).all goodWord = true := zkin_gw (own := "ReadAloud") [47, 56, 38, 56, 38, 59] kn_X11_like gK_1
theorem wd_X11_like : ∀ w ∈ kX11_like.2.2.2.2.2.flatMap (zrq zTab kX11_like.1.cls), w ∈ lw_tbl := zkin_wd (own := "ReadAloud") [47, 56, 38, 56, 38, 59] kn_X11_like wK_1
theorem kn_X11_orbits : zkin zK_1 qX11_orbits [47, 56, 38, 60, 61, 62] = true := by decide +kernel
theorem ok_X11_orbits : zokM zTab kX11_orbits := ⟨zwdf_ok rfl _ 0 (by decide +kernel) (by decide +kernel), zrow_all (by decide +kernel) (zkin_lk (own := "ReadAloud") [47, 56, 38, 60, 61, 62] kn_X11_orbits lK_1 rfl), by decide +kernel⟩
theorem gw_X11_orbits : (kX11_orbits.2.2.2.2.2.flatMap (zrq zTab kX11_orbits.1.cls)).all goodWord = true := zkin_gw (own := "ReadAloud") [47, 56, 38, 60, 61, 62] kn_X11_orbits gK_1
theorem wd_X11_orbits : ∀ w ∈ kX11_orbits.2.2.2.2.2.flatMap (zrq zTab kX11_orbits.1.cls), w ∈ lw_tbl := zkin_wd (own := "ReadAloud") [47, 56, 38, 60, 61, 62] kn_X11_orbits wK_1
theorem kn_X11_rota : zkin zK_1 qX11_rota [47, 63, 49, 64, 65, 49, 49, 66, 67, 68, 69, 70] = true := by decide +kernel
theorem ok_X11_rota : zokM zTab kX11_rota := ⟨zwdf_ok rfl _ 0 (by decide +kernel) (by decide +kernel), zrow_all (by decide +kernel) (zkin_lk (own := "ReadAloud") [47, 63, 49, 64, 65, 49, 49, 66, 67, 68, 69, 70] kn_X11_rota lK_1 rfl), by decide +kernel⟩
theorem gw_X11_rota : (kX11_rota.2.2.2.2.2.flatMap (zrq zTab kX11_rota.1.cls)).all goodWord = true := zkin_gw (own := "ReadAloud") [47, 63, 49, 64, 65, 49, 49, 66, 67, 68, 69, 70] kn_X11_rota gK_1
theorem wd_X11_rota : ∀ w ∈ kX11_rota.2.2.2.2.2.flatMap (zrq zTab kX11_rota.1.cls), w ∈ lw_tbl := zkin_wd (own := "ReadAloud") [47, 63, 49, 64, 65, 49, 49, 66, 67, 68, 69, 70] kn_X11_rota wK_1
theorem kn_X11_mean : zkin zK_1 qX11_mean [47, 63, 49, 71, 64, 65, 49, 49, 66, 67, 72, 73, 74, 71] = true := by decide +kernel
theorem ok_X11_mean : zokM zTab kX11_mean := ⟨zwdf_ok rfl _ 0 (by decide +kernel) (by decide +kernel), zrow_all (by decide +kernel) (zkin_lk (own := "ReadAloud") [47, 63, 49, 71, 64, 65, 49, 49, 66, 67, 72, 73, 74, 71] kn_X11_mean lK_1 rfl), by decide +kernel⟩
theorem gw_X11_mean : (kX11_mean.2.2.2.2.2.flatMap (zrq zTab kX11_mean.1.cls)).all goodWord = true := zkin_gw (own := "ReadAloud") [47, 63, 49, 71, 64, 65, 49, 49, 66, 67, 72, 73, 74, 71] kn_X11_mean gK_1
theorem wd_X11_mean : ∀ w ∈ kX11_mean.2.2.2.2.2.flatMap (zrq zTab kX11_mean.1.cls), w ∈ lw_tbl := zkin_wd (own := "ReadAloud") [47, 63, 49, 71, 64, 65, 49, 49, 66, 67, 72, 73, 74, 71] kn_X11_mean wK_1
theorem kn_X11_elders : zkin zK_1 qX11_elders [47, 34, 63, 75, 76, 77] = true := by decide +kernel
theorem ok_X11_elders : zokM zTab kX11_elders := ⟨zwdf_ok rfl _ 0 (by decide +kernel) (by decide +kernel), zrow_all (by decide +kernel) (zkin_lk (own := "ReadAloud") [47, 34, 63, 75, 76, 77] kn_X11_elders lK_1 rfl), by decide +kernel⟩
theorem gw_X11_elders : (kX11_elders.2.2.2.2.2.flatMap (zrq zTab kX11_elders.1.cls)).all goodWord = true := zkin_gw (own := "ReadAloud") [47, 34, 63, 75, 76, 77] kn_X11_elders gK_1
theorem wd_X11_elders : ∀ w ∈ kX11_elders.2.2.2.2.2.flatMap (zrq zTab kX11_elders.1.cls), w ∈ lw_tbl := zkin_wd (own := "ReadAloud") [47, 34, 63, 75, 76, 77] kn_X11_elders wK_1
theorem kn_X11_play : zkin zK_1 qX11_play [47, 63, 78, 56, 57, 56, 57, 64, 65, 66, 79, 69, 70, 80] = true := by decide +kernel
theorem ok_X11_play : zokM zTab kX11_play := ⟨zwdf_ok rfl _ 0 (by decide +kernel) (by decide +kernel), zrow_all (by decide +kernel) (zkin_lk (own := "ReadAloud") [47, 63, 78, 56, 57, 56, 57, 64, 65, 66, 79, 69, 70, 80] kn_X11_play lK_1 rfl), by decide +kernel⟩
theorem gw_X11_play : (kX11_play.2.2.2.2.2.flatMap (zrq zTab kX11_play.1.cls)).all goodWord = true := zkin_gw (own := "ReadAloud") [47, 63, 78, 56, 57, 56, 57, 64, 65, 66, 79, 69, 70, 80] kn_X11_play gK_1
theorem wd_X11_play : ∀ w ∈ kX11_play.2.2.2.2.2.flatMap (zrq zTab kX11_play.1.cls), w ∈ lw_tbl := zkin_wd (own := "ReadAloud") [47, 63, 78, 56, 57, 56, 57, 64, 65, 66, 79, 69, 70, 80] kn_X11_play wK_1
theorem kn_X11_fact : zkin zK_1 qX11_fact [81, 82] = true := by decide +kernel
theorem ok_X11_fact : zokM zTab kX11_fact := ⟨zwdf_ok rfl _ 0 (by decide +kernel) (by decide +kernel), zrow_all (by decide +kernel) (zkin_lk (own := "ReadAloud") [81, 82] kn_X11_fact lK_1 rfl), by decide +kernel⟩
theorem gw_X11_fact : (kX11_fact.2.2.2.2.2.flatMap (zrq zTab kX11_fact.1.cls)).all goodWord = true := zkin_gw (own := "ReadAloud") [81, 82] kn_X11_fact gK_1
theorem wd_X11_fact : ∀ w ∈ kX11_fact.2.2.2.2.2.flatMap (zrq zTab kX11_fact.1.cls), w ∈ lw_tbl := zkin_wd (own := "ReadAloud") [81, 82] kn_X11_fact wK_1
theorem kn_X11_fits : zkin zK_1 qX11_fits [47, 81, 63, 34, 64, 83, 49, 49, 66, 73, 84] = true := by decide +kernel
theorem ok_X11_fits : zokM zTab kX11_fits := ⟨zwdf_ok rfl _ 0 (by decide +kernel) (by decide +kernel), zrow_all (by decide +kernel) (zkin_lk (own := "ReadAloud") [47, 81, 63, 34, 64, 83, 49, 49, 66, 73, 84] kn_X11_fits lK_1 rfl), by decide +kernel⟩
theorem gw_X11_fits : (kX11_fits.2.2.2.2.2.flatMap (zrq zTab kX11_fits.1.cls)).all goodWord = true := zkin_gw (own := "ReadAloud") [47, 81, 63, 34, 64, 83, 49, 49, 66, 73, 84] kn_X11_fits gK_1
theorem wd_X11_fits : ∀ w ∈ kX11_fits.2.2.2.2.2.flatMap (zrq zTab kX11_fits.1.cls), w ∈ lw_tbl := zkin_wd (own := "ReadAloud") [47, 81, 63, 34, 64, 83, 49, 49, 66, 73, 84] kn_X11_fits wK_1
theorem kn_X11_sure : zkin zK_1 qX11_sure [47, 81, 63, 64, 83, 49, 49, 66, 73, 85, 69, 86, 87] = true := by decide +kernel
theorem ok_X11_sure : zokM zTab kX11_sure := ⟨zwdf_ok rfl _ 0 (by decide +kernel) (by decide +kernel), zrow_all (by decide +kernel) (zkin_lk (own := "ReadAloud") [47, 81, 63, 64, 83, 49, 49, 66, 73, 85, 69, 86, 87] kn_X11_sure lK_1 rfl), by decide +kernel⟩
theorem gw_X11_sure : (kX11_sure.2.2.2.2.2.flatMap (zrq zTab kX11_sure.1.cls)).all goodWord = true := zkin_gw (own := "ReadAloud") [47, 81, 63, 64, 83, 49, 49, 66, 73, 85, 69, 86, 87] kn_X11_sure gK_1
theorem wd_X11_sure : ∀ w ∈ kX11_sure.2.2.2.2.2.flatMap (zrq zTab kX11_sure.1.cls), w ∈ lw_tbl := zkin_wd (own := "ReadAloud") [47, 81, 63, 64, 83, 49, 49, 66, 73, 85, 69, 86, 87] kn_X11_sure wK_1
theorem kn_X11_drawn : zkin zK_1 qX11_drawn [32, 42, 43, 42, 88, 42, 46] = true := by decide +kernel
theorem ok_X11_drawn : zokM zTab kX11_drawn := ⟨zwdf_ok rfl _ 0 (by decide +kernel) (by decide +kernel), zrow_all (by decide +kernel) (zkin_lk (own := "ReadAloud") [32, 42, 43, 42, 88, 42, 46] kn_X11_drawn lK_1 rfl), by decide +kernel⟩
theorem gw_X11_drawn : (kX11_drawn.2.2.2.2.2.flatMap (zrq zTab kX11_drawn.1.cls)).all goodWord = true := zkin_gw (own := "ReadAloud") [32, 42, 43, 42, 88, 42, 46] kn_X11_drawn gK_1
theorem wd_X11_drawn : ∀ w ∈ kX11_drawn.2.2.2.2.2.flatMap (zrq zTab kX11_drawn.1.cls), w ∈ lw_tbl := zkin_wd (own := "ReadAloud") [32, 42, 43, 42, 88, 42, 46] kn_X11_drawn wK_1
theorem kn_X11_kinship : zkin zK_1 qX11_kinship [32, 78, 89, 90] = true := by decide +kernel
theorem ok_X11_kinship : zokM zTab kX11_kinship := ⟨zwdf_ok rfl _ 0 (by decide +kernel) (by decide +kernel), zrow_all (by decide +kernel) (zkin_lk (own := "ReadAloud") [32, 78, 89, 90] kn_X11_kinship lK_1 rfl), by decide +kernel⟩
theorem gw_X11_kinship : (kX11_kinship.2.2.2.2.2.flatMap (zrq zTab kX11_kinship.1.cls)).all goodWord = true := zkin_gw (own := "ReadAloud") [32, 78, 89, 90] kn_X11_kinship gK_1
theorem wd_X11_kinship : ∀ w ∈ kX11_kinship.2.2.2.2.2.flatMap (zrq zTab kX11_kinship.1.cls), w ∈ lw_tbl := zkin_wd (own := "ReadAloud") [32, 78, 89, 90] kn_X11_kinship wK_1
theorem kn_X11_shared : zkin zK_1 qX11_shared [34, 34, 91, 35] = true := by decide +kernel
theorem ok_X11_shared : zokM zTab kX11_shared := ⟨zwdf_ok rfl _ 0 (by decide +kernel) (by decide +kernel), zrow_all (by decide +kernel) (zkin_lk (own := "ReadAloud") [34, 34, 91, 35] kn_X11_shared lK_1 rfl), by decide +kernel⟩
theorem gw_X11_shared : (kX11_shared.2.2.2.2.2.flatMap (zrq zTab kX11_shared.1.cls)).all goodWord = true := zkin_gw (own := "ReadAloud") [34, 34, 91, 35] kn_X11_shared gK_1
theorem wd_X11_shared : ∀ w ∈ kX11_shared.2.2.2.2.2.flatMap (zrq zTab kX11_shared.1.cls), w ∈ lw_tbl := zkin_wd (own := "ReadAloud") [34, 34, 91, 35] kn_X11_shared wK_1
theorem kn_X11_joined : zkin zK_1 qX11_joined [47, 34, 34, 48, 48, 49, 50, 49, 50, 92, 51, 51] = true := by decide +kernel
theorem ok_X11_joined : zokM zTab kX11_joined := ⟨zwdf_ok rfl _ 0 (by decide +kernel) (by decide +kernel), zrow_all (by decide +kernel) (zkin_lk (own := "ReadAloud") [47, 34, 34, 48, 48, 49, 50, 49, 50, 92, 51, 51] kn_X11_joined lK_1 rfl), by decide +kernel⟩
theorem gw_X11_joined : (kX11_joined.2.2.2.2.2.flatMap (zrq zTab kX11_joined.1.cls)).all goodWord = true := zkin_gw (own := "ReadAloud") [47, 34, 34, 48, 48, 49, 50, 49, 50, 92, 51, 51] kn_X11_joined gK_1
theorem wd_X11_joined : ∀ w ∈ kX11_joined.2.2.2.2.2.flatMap (zrq zTab kX11_joined.1.cls), w ∈ lw_tbl := zkin_wd (own := "ReadAloud") [47, 34, 34, 48, 48, 49, 50, 49, 50, 92, 51, 51] kn_X11_joined wK_1
theorem kn_X11_nearest : zkin zK_1 qX11_nearest [47, 34, 34, 48, 49, 50, 93, 37] = true := by decide +kernel
theorem ok_X11_nearest : zokM zTab kX11_nearest := ⟨zwdf_ok rfl _ 0 (by decide +kernel) (by decide +kernel), zrow_all (by decide +kernel) (zkin_lk (own := "ReadAloud") [47, 34, 34, 48, 49, 50, 93, 37] kn_X11_nearest lK_1 rfl), by decide +kernel⟩
theorem gw_X11_nearest : (kX11_nearest.2.2.2.2.2.flatMap (zrq zTab kX11_nearest.1.cls)).all goodWord = true := zkin_gw (own := "ReadAloud") [47, 34, 34, 48, 49, 50, 93, 37] kn_X11_nearest gK_1
theorem wd_X11_nearest : ∀ w ∈ kX11_nearest.2.2.2.2.2.flatMap (zrq zTab kX11_nearest.1.cls), w ∈ lw_tbl := zkin_wd (own := "ReadAloud") [47, 34, 34, 48, 49, 50, 93, 37] kn_X11_nearest wK_1
theorem kn_X11_settles : zkin zK_1 qX11_settles [47, 34, 48, 49, 50, 94, 51] = true := by decide +kernel
theorem ok_X11_settles : zokM zTab kX11_settles := ⟨zwdf_ok rfl _ 0 (by decide +kernel) (by decide +kernel), zrow_all (by decide +kernel) (zkin_lk (own := "ReadAloud") [47, 34, 48, 49, 50, 94, 51] kn_X11_settles lK_1 rfl), by decide +kernel⟩
theorem gw_X11_settles : (kX11_settles.2.2.2.2.2.flatMap (zrq zTab kX11_settles.1.cls)).all goodWord = true := zkin_gw (own := "ReadAloud") [47, 34, 48, 49, 50, 94, 51] kn_X11_settles gK_1
theorem wd_X11_settles : ∀ w ∈ kX11_settles.2.2.2.2.2.flatMap (zrq zTab kX11_settles.1.cls), w ∈ lw_tbl := zkin_wd (own := "ReadAloud") [47, 34, 48, 49, 50, 94, 51] kn_X11_settles wK_1
theorem kn_X11_unmade : zkin zK_1 qX11_unmade [47, 95, 76, 77] = true := by decide +kernel
theorem ok_X11_unmade : zokM zTab kX11_unmade := ⟨zwdf_ok rfl _ 0 (by decide +kernel) (by decide +kernel), zrow_all (by decide +kernel) (zkin_lk (own := "ReadAloud") [47, 95, 76, 77] kn_X11_unmade lK_1 rfl), by decide +kernel⟩
theorem gw_X11_unmade : (kX11_unmade.2.2.2.2.2.flatMap (zrq zTab kX11_unmade.1.cls)).all goodWord = true := zkin_gw (own := "ReadAloud") [47, 95, 76, 77] kn_X11_unmade gK_1
theorem wd_X11_unmade : ∀ w ∈ kX11_unmade.2.2.2.2.2.flatMap (zrq zTab kX11_unmade.1.cls), w ∈ lw_tbl := zkin_wd (own := "ReadAloud") [47, 95, 76, 77] kn_X11_unmade wK_1
theorem kn_X11_silenced : zkin zK_1 qX11_silenced [47, 34, 34, 48, 56, 96, 49, 97, 49, 50, 51] = true := by decide +kernel
theorem ok_X11_silenced : zokM zTab kX11_silenced := ⟨zwdf_ok rfl _ 0 (by decide +kernel) (by decide +kernel), zrow_all (by decide +kernel) (zkin_lk (own := "ReadAloud") [47, 34, 34, 48, 56, 96, 49, 97, 49, 50, 51] kn_X11_silenced lK_1 rfl), by decide +kernel⟩
theorem gw_X11_silenced : (kX11_silenced.2.2.2.2.2.flatMap (zrq zTab kX11_silenced.1.cls)).all goodWord = true := zkin_gw (own := "ReadAloud") [47, 34, 34, 48, 56, 96, 49, 97, 49, 50, 51] kn_X11_silenced gK_1
theorem wd_X11_silenced : ∀ w ∈ kX11_silenced.2.2.2.2.2.flatMap (zrq zTab kX11_silenced.1.cls), w ∈ lw_tbl := zkin_wd (own := "ReadAloud") [47, 34, 34, 48, 56, 96, 49, 97, 49, 50, 51] kn_X11_silenced wK_1
