theorem zd_L_law_24 : qL_law_24.all (zde kL_law) = true := zwdf_ok rfl _ 1616 (by decide +kernel) (by decide +kernel)
theorem zr_L_law_24 : qL_law_24.all (zrow zTab kL_law) = true := by decide +kernel
theorem gw_L_law_24 : (qL_law_24.flatMap (zrq zTab kL_law.1.cls)).all goodWord = true := by decide +kernel
set_option maxRecDepth 1000000 in
theorem wd_L_law_24 : ∀ w ∈ qL_law_24.flatMap (zrq zTab kL_law.1.cls), w ∈ lw_tbl := zplaces [1951, 1949, 1950, 176, 1948, 1272, 1270, 1271, 172, 1269] rfl
theorem zd_L_law_25 : qL_law_25.all (zde kL_law) = true := zwdf_ok rfl _ 1680 (by decide +kernel) (by decide +kernel)
theorem zr_L_law_25 : qL_law_25.all (zrow zTab kL_law) = true := by decide +kernel
theorem gw_L_law_25 : (qL_law_25.flatMap (zrq zTab kL_law.1.cls)).all goodWord = true := by decide +kernel
set_option maxRecDepth 1000000 in
theorem wd_L_law_25 : ∀ w ∈ qL_law_25.flatMap (zrq zTab kL_law.1.cls), w ∈ lw_tbl := zplaces [1955, 1953, 1954, 176, 1952, 1280, 1278, 1279, 172, 1277, 1959, 1957, 1958, 176, 1956] rfl
theorem zd_L_law_26 : qL_law_26.all (zde kL_law) = true := zwdf_ok rfl _ 1744 (by decide +kernel) (by decide +kernel)
theorem zr_L_law_26 : qL_law_26.all (zrow zTab kL_law) = true := by decide +kernel
theorem gw_L_law_26 : (qL_law_26.flatMap (zrq zTab kL_law.1.cls)).all goodWord = true := by decide +kernel
set_option maxRecDepth 1000000 in
theorem wd_L_law_26 : ∀ w ∈ qL_law_26.flatMap (zrq zTab kL_law.1.cls), w ∈ lw_tbl := zplaces [1290, 1288, 1289, 172, 1287, 1963, 1961, 1962, 176, 1960, 1320, 1318, 1319, 172, 1317, 1983, 1981, 1982, 176, 1980, 1324, 1322, 1323, 172, 1321] rfl
theorem zd_L_law_27 : qL_law_27.all (zde kL_law) = true := zwdf_ok rfl _ 1808 (by decide +kernel) (by decide +kernel)
theorem zr_L_law_27 : qL_law_27.all (zrow zTab kL_law) = true := by decide +kernel
theorem gw_L_law_27 : (qL_law_27.flatMap (zrq zTab kL_law.1.cls)).all goodWord = true := by decide +kernel
set_option maxRecDepth 1000000 in
theorem wd_L_law_27 : ∀ w ∈ qL_law_27.flatMap (zrq zTab kL_law.1.cls), w ∈ lw_tbl := zplaces [1987, 1985, 1986, 176, 1984, 1335, 1333, 1334, 172, 1332, 1998, 1996, 1997, 176, 1995] rfl
theorem ok_L_law : zokM zTab kL_law := ⟨zall_app zd_L_law_0 (zall_app zd_L_law_1 (zall_app zd_L_law_2 (zall_app zd_L_law_3 (zall_app zd_L_law_4 (zall_app zd_L_law_5 (zall_app zd_L_law_6 (zall_app zd_L_law_7 (zall_app zd_L_law_8 (zall_app zd_L_law_9 (zall_app zd_L_law_10 (zall_app zd_L_law_11 (zall_app zd_L_law_12 (zall_app zd_L_law_13 (zall_app zd_L_law_14 (zall_app zd_L_law_15 (zall_app zd_L_law_16 (zall_app zd_L_law_17 (zall_app zd_L_law_18 (zall_app zd_L_law_19 (zall_app zd_L_law_20 (zall_app zd_L_law_21 (zall_app zd_L_law_22 (zall_app zd_L_law_23 (zall_app zd_L_law_24 (zall_app zd_L_law_25 (zall_app zd_L_law_26 (zd_L_law_27))))))))))))))))))))))))))), zall_app zr_L_law_0 (zall_app zr_L_law_1 (zall_app zr_L_law_2 (zall_app zr_L_law_3 (zall_app zr_L_law_4 (zall_app zr_L_law_5 (zall_app zr_L_law_6 (zall_app zr_L_law_7 (zall_app zr_L_law_8 (zall_app zr_L_law_9 (zall_app zr_L_law_10 (zall_app zr_L_law_11 (zall_app zr_L_law_12 (zall_app zr_L_law_13 (zall_app zr_L_law_14 (zall_app zr_L_law_15 (zall_app zr_L_law_16 (zall_app zr_L_law_17 (zall_app zr_L_law_18 (zall_app zr_L_law_19 (zall_app zr_L_law_20 (zall_app zr_L_law_21 (zall_app zr_L_law_22 (zall_app zr_L_law_23 (zall_app zr_L_law_24 (zall_app zr_L_law_25 (zall_app zr_L_law_26 (zr_L_law_27))))))))))))))))))))))))))), by decide +kernel⟩
theorem gw_L_law : (kL_law.2.2.2.2.2.flatMap (zrq zTab kL_law.1.cls)).all goodWord = true := zfg_app gw_L_law_0 (zfg_app gw_L_law_1 (zfg_app gw_L_law_2 (zfg_app gw_L_law_3 (zfg_app gw_L_law_4 (zfg_app gw_L_law_5 (zfg_app gw_L_law_6 (zfg_app gw_L_law_7 (zfg_app gw_L_law_8 (zfg_app gw_L_law_9 (zfg_app gw_L_law_10 (zfg_app gw_L_law_11 (zfg_app gw_L_law_12 (zfg_app gw_L_law_13 (zfg_app gw_L_law_14 (zfg_app gw_L_law_15 (zfg_app gw_L_law_16 (zfg_app gw_L_law_17 (zfg_app gw_L_law_18 (zfg_app gw_L_law_19 (zfg_app gw_L_law_20 (zfg_app gw_L_law_21 (zfg_app gw_L_law_22 (zfg_app gw_L_law_23 (zfg_app gw_L_law_24 (zfg_app gw_L_law_25 (zfg_app gw_L_law_26 (gw_L_law_27)))))))))))))))))))))))))))
theorem wd_L_law : ∀ w ∈ kL_law.2.2.2.2.2.flatMap (zrq zTab kL_law.1.cls), w ∈ lw_tbl := zfm_app wd_L_law_0 (zfm_app wd_L_law_1 (zfm_app wd_L_law_2 (zfm_app wd_L_law_3 (zfm_app wd_L_law_4 (zfm_app wd_L_law_5 (zfm_app wd_L_law_6 (zfm_app wd_L_law_7 (zfm_app wd_L_law_8 (zfm_app wd_L_law_9 (zfm_app wd_L_law_10 (zfm_app wd_L_law_11 (zfm_app wd_L_law_12 (zfm_app wd_L_law_13 (zfm_app wd_L_law_14 (zfm_app wd_L_law_15 (zfm_app wd_L_law_16 (zfm_app wd_L_law_17 (zfm_app wd_L_law_18 (zfm_app wd_L_law_19 (zfm_app wd_L_law_20 (zfm_app wd_L_law_21 (zfm_app wd_L_law_22 (zfm_app wd_L_law_23 (zfm_app wd_L_law_24 (zfm_app wd_L_law_25 (zfm_app wd_L_law_26 (wd_L_law_27)))))))))))))))))))))))))))
theorem ok_X11_init : zokM zTab kX11_init := ⟨zwdf_ok rfl _ 0 (by decide +kernel) (by decide +kernel), by decide +kernel, by decide +kernel⟩
theorem gw_X11_init : (kX11_init.2.2.2.2.2.flatMap (zrq zTab kX11_init.1.cls)).all goodWord = true := by decide +kernel
set_option maxRecDepth 1000000 in
theorem wd_X11_init : ∀ w ∈ kX11_init.2.2.2.2.2.flatMap (zrq zTab kX11_init.1.cls), w ∈ lw_tbl := zplaces [198, 199, 200, 201, 202, 173, 205, 204, 173, 317, 201, 318, 249, 250, 174, 253, 252, 174, 319, 285, 286, 175, 289, 288, 175, 320, 313, 321, 315, 322, 323, 324] rfl
theorem ok_X11_feed : zokM zTab kX11_feed := ⟨zwdf_ok rfl _ 0 (by decide +kernel) (by decide +kernel), by decide +kernel, by decide +kernel⟩
theorem gw_X11_feed : (kX11_feed.2.2.2.2.2.flatMap (zrq zTab kX11_feed.1.cls)).all goodWord = true := by decide +kernel
set_option maxRecDepth 1000000 in
theorem wd_X11_feed : ∀ w ∈ kX11_feed.2.2.2.2.2.flatMap (zrq zTab kX11_feed.1.cls), w ∈ lw_tbl := zplaces [317, 317, 349, 348, 0, 173, 317, 349, 348, 0, 173, 317, 349, 348, 0, 173, 317, 349, 348, 0, 173, 317, 349, 348, 0, 173, 317] rfl
theorem ok_X11_end : zokM zTab kX11_end := ⟨zwdf_ok rfl _ 0 (by decide +kernel) (by decide +kernel), by decide +kernel, by decide +kernel⟩
theorem gw_X11_end : (kX11_end.2.2.2.2.2.flatMap (zrq zTab kX11_end.1.cls)).all goodWord = true := by decide +kernel
set_option maxRecDepth 1000000 in
theorem wd_X11_end : ∀ w ∈ kX11_end.2.2.2.2.2.flatMap (zrq zTab kX11_end.1.cls), w ∈ lw_tbl := zplaces [317, 317] rfl
theorem ok_X11_text : zokM zTab kX11_text := ⟨zwdf_ok rfl _ 0 (by decide +kernel) (by decide +kernel), by decide +kernel, by decide +kernel⟩
theorem gw_X11_text : (kX11_text.2.2.2.2.2.flatMap (zrq zTab kX11_text.1.cls)).all goodWord = true := by decide +kernel
set_option maxRecDepth 1000000 in
theorem wd_X11_text : ∀ w ∈ kX11_text.2.2.2.2.2.flatMap (zrq zTab kX11_text.1.cls), w ∈ lw_tbl := zplaces [317, 317, 317, 317, 317, 361, 360, 1, 172, 358, 317, 319, 317, 319, 317, 627, 628, 185, 629] rfl
theorem ok_X11_fault : zokM zTab kX11_fault := ⟨zwdf_ok rfl _ 0 (by decide +kernel) (by decide +kernel), by decide +kernel, by decide +kernel⟩
theorem gw_X11_fault : (kX11_fault.2.2.2.2.2.flatMap (zrq zTab kX11_fault.1.cls)).all goodWord = true := by decide +kernel
set_option maxRecDepth 1000000 in
theorem wd_X11_fault : ∀ w ∈ kX11_fault.2.2.2.2.2.flatMap (zrq zTab kX11_fault.1.cls), w ∈ lw_tbl := zplaces [317, 317] rfl
theorem ok_X11_book : zokM zTab kX11_book := ⟨zwdf_ok rfl _ 0 (by decide +kernel) (by decide +kernel), by decide +kernel, by decide +kernel⟩
theorem gw_X11_book : (kX11_book.2.2.2.2.2.flatMap (zrq zTab kX11_book.1.cls)).all goodWord = true := by decide +kernel
set_option maxRecDepth 1000000 in
theorem wd_X11_book : ∀ w ∈ kX11_book.2.2.2.2.2.flatMap (zrq zTab kX11_book.1.cls), w ∈ lw_tbl := zplaces [641, 640, 13, 172, 638, 645, 644, 14, 178] rfl
theorem ok_X11_word : zokM zTab kX11_word := ⟨zwdf_ok rfl _ 0 (by decide +kernel) (by decide +kernel), by decide +kernel, by decide +kernel⟩
theorem gw_X11_word : (kX11_word.2.2.2.2.2.flatMap (zrq zTab kX11_word.1.cls)).all goodWord = true := by decide +kernel
set_option maxRecDepth 1000000 in
theorem wd_X11_word : ∀ w ∈ kX11_word.2.2.2.2.2.flatMap (zrq zTab kX11_word.1.cls), w ∈ lw_tbl := zplaces [660, 659, 172, 658, 663, 662, 172, 661, 666, 665, 172, 664] rfl
theorem ok_X11_drift : zokM zTab kX11_drift := ⟨zwdf_ok rfl _ 0 (by decide +kernel) (by decide +kernel), by decide +kernel, by decide +kernel⟩
theorem gw_X11_drift : (kX11_drift.2.2.2.2.2.flatMap (zrq zTab kX11_drift.1.cls)).all goodWord = true := by decide +kernel
set_option maxRecDepth 1000000 in
theorem wd_X11_drift : ∀ w ∈ kX11_drift.2.2.2.2.2.flatMap (zrq zTab kX11_drift.1.cls), w ∈ lw_tbl := zplaces [660, 659, 172, 658, 660, 659, 172, 658, 679, 678, 172, 677] rfl
theorem ok_X11_read : zokM zTab kX11_read := ⟨zwdf_ok rfl _ 0 (by decide +kernel) (by decide +kernel), by decide +kernel, by decide +kernel⟩
theorem gw_X11_read : (kX11_read.2.2.2.2.2.flatMap (zrq zTab kX11_read.1.cls)).all goodWord = true := by decide +kernel
set_option maxRecDepth 1000000 in
theorem wd_X11_read : ∀ w ∈ kX11_read.2.2.2.2.2.flatMap (zrq zTab kX11_read.1.cls), w ∈ lw_tbl := zplaces [641, 640, 13, 172, 638, 660, 659, 172, 658, 653, 652, 16, 178, 691, 690, 17, 178] rfl
theorem ok_X11_deed : zokM zTab kX11_deed := ⟨zwdf_ok rfl _ 0 (by decide +kernel) (by decide +kernel), by decide +kernel, by decide +kernel⟩
theorem gw_X11_deed : (kX11_deed.2.2.2.2.2.flatMap (zrq zTab kX11_deed.1.cls)).all goodWord = true := by decide +kernel
set_option maxRecDepth 1000000 in
theorem wd_X11_deed : ∀ w ∈ kX11_deed.2.2.2.2.2.flatMap (zrq zTab kX11_deed.1.cls), w ∈ lw_tbl := zplaces [727, 726, 20, 172, 724, 731, 730, 21, 183] rfl
theorem ok_X11_stop : zokM zTab kX11_stop := ⟨zwdf_ok rfl _ 0 (by decide +kernel) (by decide +kernel), by decide +kernel, by decide +kernel⟩
theorem gw_X11_stop : (kX11_stop.2.2.2.2.2.flatMap (zrq zTab kX11_stop.1.cls)).all goodWord = true := by decide +kernel
set_option maxRecDepth 1000000 in
theorem wd_X11_stop : ∀ w ∈ kX11_stop.2.2.2.2.2.flatMap (zrq zTab kX11_stop.1.cls), w ∈ lw_tbl := zplaces [641, 640, 13, 172, 638, 727, 726, 20, 172, 724, 320, 739, 738, 22, 175, 320, 746, 745, 23, 175] rfl
theorem ok_X11_state : zokM zTab kX11_state := ⟨zwdf_ok rfl _ 0 (by decide +kernel) (by decide +kernel), by decide +kernel, by decide +kernel⟩
theorem gw_X11_state : (kX11_state.2.2.2.2.2.flatMap (zrq zTab kX11_state.1.cls)).all goodWord = true := by decide +kernel
set_option maxRecDepth 1000000 in
theorem wd_X11_state : ∀ w ∈ kX11_state.2.2.2.2.2.flatMap (zrq zTab kX11_state.1.cls), w ∈ lw_tbl := zplaces [641, 640, 13, 172, 638, 727, 726, 20, 172, 724, 320, 739, 738, 22, 175, 320, 746, 745, 23, 175, 320, 771, 770, 27, 175] rfl
theorem ok_X11_making : zokM zTab kX11_making := ⟨zwdf_ok rfl _ 0 (by decide +kernel) (by decide +kernel), by decide +kernel, by decide +kernel⟩
theorem gw_X11_making : (kX11_making.2.2.2.2.2.flatMap (zrq zTab kX11_making.1.cls)).all goodWord = true := by decide +kernel
set_option maxRecDepth 1000000 in
theorem wd_X11_making : ∀ w ∈ kX11_making.2.2.2.2.2.flatMap (zrq zTab kX11_making.1.cls), w ∈ lw_tbl := zplaces [792, 791, 31, 172, 789, 660, 659, 172, 658, 660, 659, 172, 658, 823, 822, 33, 172, 820, 851, 850, 34, 187, 855, 854, 35, 188, 869, 868, 38, 188] rfl
theorem ok_X11_ring : zokM zTab kX11_ring := ⟨zwdf_ok rfl _ 0 (by decide +kernel) (by decide +kernel), by decide +kernel, by decide +kernel⟩
theorem gw_X11_ring : (kX11_ring.2.2.2.2.2.flatMap (zrq zTab kX11_ring.1.cls)).all goodWord = true := by decide +kernel
set_option maxRecDepth 1000000 in
theorem wd_X11_ring : ∀ w ∈ kX11_ring.2.2.2.2.2.flatMap (zrq zTab kX11_ring.1.cls), w ∈ lw_tbl := zplaces [792, 791, 31, 172, 789, 660, 659, 172, 658, 823, 822, 33, 172, 820, 851, 850, 34, 187, 855, 854, 35, 188, 877, 876, 39, 188] rfl
theorem ok_X11_reach : zokM zTab kX11_reach := ⟨zwdf_ok rfl _ 0 (by decide +kernel) (by decide +kernel), by decide +kernel, by decide +kernel⟩
theorem gw_X11_reach : (kX11_reach.2.2.2.2.2.flatMap (zrq zTab kX11_reach.1.cls)).all goodWord = true := by decide +kernel
set_option maxRecDepth 1000000 in
theorem wd_X11_reach : ∀ w ∈ kX11_reach.2.2.2.2.2.flatMap (zrq zTab kX11_reach.1.cls), w ∈ lw_tbl := zplaces [792, 791, 31, 172, 789, 660, 659, 172, 658, 823, 822, 33, 172, 820, 851, 850, 34, 187, 855, 854, 35, 188, 885, 884, 40, 188] rfl
theorem ok_X11_sound : zokM zTab kX11_sound := ⟨zwdf_ok rfl _ 0 (by decide +kernel) (by decide +kernel), by decide +kernel, by decide +kernel⟩
theorem gw_X11_sound : (kX11_sound.2.2.2.2.2.flatMap (zrq zTab kX11_sound.1.cls)).all goodWord = true := by decide +kernel
set_option maxRecDepth 1000000 in
theorem wd_X11_sound : ∀ w ∈ kX11_sound.2.2.2.2.2.flatMap (zrq zTab kX11_sound.1.cls), w ∈ lw_tbl := zplaces [792, 791, 31, 172, 789, 893, 892, 41, 178, 897, 896, 42, 187] rfl
theorem ok_X11_like : zokM zTab kX11_like := ⟨zwdf_ok rfl _ 0 (by decide +kernel) (by decide +kernel), by decide +kernel, by decide +kernel⟩
theorem gw_X11_like : (kX11_like.2.2.2.2.2.flatMap (zrq zTab kX11_like.1.cls)).all goodWord = true := by decide +kernel
set_option maxRecDepth 1000000 in
theorem wd_X11_like : ∀ w ∈ kX11_like.2.2.2.2.2.flatMap (zrq zTab kX11_like.1.cls), w ∈ lw_tbl := zplaces [792, 791, 31, 172, 789, 653, 652, 16, 178, 653, 652, 16, 178, 911, 910, 44, 187] rfl
theorem ok_X11_orbits : zokM zTab kX11_orbits := ⟨zwdf_ok rfl _ 0 (by decide +kernel) (by decide +kernel), by decide +kernel, by decide +kernel⟩
theorem gw_X11_orbits : (kX11_orbits.2.2.2.2.2.flatMap (zrq zTab kX11_orbits.1.cls)).all goodWord = true := by decide +kernel
set_option maxRecDepth 1000000 in
theorem wd_X11_orbits : ∀ w ∈ kX11_orbits.2.2.2.2.2.flatMap (zrq zTab kX11_orbits.1.cls), w ∈ lw_tbl := zplaces [792, 791, 31, 172, 789, 653, 652, 16, 178, 919, 918, 45, 172, 916, 979, 978, 46, 189] rfl
theorem ok_X11_rota : zokM zTab kX11_rota := ⟨zwdf_ok rfl _ 0 (by decide +kernel) (by decide +kernel), by decide +kernel, by decide +kernel⟩
theorem gw_X11_rota : (kX11_rota.2.2.2.2.2.flatMap (zrq zTab kX11_rota.1.cls)).all goodWord = true := by decide +kernel
set_option maxRecDepth 1000000 in
theorem wd_X11_rota : ∀ w ∈ kX11_rota.2.2.2.2.2.flatMap (zrq zTab kX11_rota.1.cls), w ∈ lw_tbl := zplaces [792, 791, 31, 172, 789, 1001, 1000, 172, 999, 851, 850, 34, 187, 1005, 1004, 50, 172, 1002, 1047, 1046, 51, 190, 851, 850, 34, 187, 851, 850, 34, 187, 1051, 1050, 52, 190, 1073, 1072, 57, 190, 1078, 1077, 58, 190, 1084, 1083, 59, 190, 1096, 1095, 62, 190] rfl
theorem ok_X11_mean : zokM zTab kX11_mean := ⟨zwdf_ok rfl _ 0 (by decide +kernel) (by decide +kernel), by decide +kernel, by decide +kernel⟩
theorem gw_X11_mean : (kX11_mean.2.2.2.2.2.flatMap (zrq zTab kX11_mean.1.cls)).all goodWord = true := by decide +kernel
set_option maxRecDepth 1000000 in
theorem wd_X11_mean : ∀ w ∈ kX11_mean.2.2.2.2.2.flatMap (zrq zTab kX11_mean.1.cls), w ∈ lw_tbl := zplaces [792, 791, 31, 172, 789, 1001, 1000, 172, 999, 851, 850, 34, 187, 1105, 1005, 1004, 50, 172, 1002, 1047, 1046, 51, 190, 851, 850, 34, 187, 851, 850, 34, 187, 1051, 1050, 52, 190, 1073, 1072, 57, 190, 1109, 1108, 64, 190, 1113, 1112, 65, 190, 1116, 1115, 172, 1114, 1105] rfl
theorem ok_X11_elders : zokM zTab kX11_elders := ⟨zwdf_ok rfl _ 0 (by decide +kernel) (by decide +kernel), by decide +kernel, by decide +kernel⟩
theorem gw_X11_elders : (kX11_elders.2.2.2.2.2.flatMap (zrq zTab kX11_elders.1.cls)).all goodWord = true := by decide +kernel
set_option maxRecDepth 1000000 in
theorem wd_X11_elders : ∀ w ∈ kX11_elders.2.2.2.2.2.flatMap (zrq zTab kX11_elders.1.cls), w ∈ lw_tbl := zplaces [792, 791, 31, 172, 789, 660, 659, 172, 658, 1001, 1000, 172, 999, 1124, 1123, 66, 187, 1135, 1134, 68, 187, 1139, 1138, 69, 187] rfl
theorem ok_X11_play : zokM zTab kX11_play := ⟨zwdf_ok rfl _ 0 (by decide +kernel) (by decide +kernel), by decide +kernel, by decide +kernel⟩
theorem gw_X11_play : (kX11_play.2.2.2.2.2.flatMap (zrq zTab kX11_play.1.cls)).all goodWord = true := by decide +kernel
set_option maxRecDepth 1000000 in
theorem wd_X11_play : ∀ w ∈ kX11_play.2.2.2.2.2.flatMap (zrq zTab kX11_play.1.cls), w ∈ lw_tbl := zplaces [792, 791, 31, 172, 789, 1001, 1000, 172, 999, 560, 559, 172, 1144, 893, 892, 41, 178, 893, 892, 41, 178, 1005, 1004, 50, 172, 1002, 1047, 1046, 51, 190, 1051, 1050, 52, 190, 1148, 1147, 70, 190, 1084, 1083, 59, 190, 1096, 1095, 62, 190, 1155, 1154, 71, 190] rfl
theorem ok_X11_fact : zokM zTab kX11_fact := ⟨zwdf_ok rfl _ 0 (by decide +kernel) (by decide +kernel), by decide +kernel, by decide +kernel⟩
theorem gw_X11_fact : (kX11_fact.2.2.2.2.2.flatMap (zrq zTab kX11_fact.1.cls)).all goodWord = true := by decide +kernel
set_option maxRecDepth 1000000 in
theorem wd_X11_fact : ∀ w ∈ kX11_fact.2.2.2.2.2.flatMap (zrq zTab kX11_fact.1.cls), w ∈ lw_tbl := zplaces [1163, 1162, 72, 172, 1160, 1167, 1166, 73, 184] rfl
theorem ok_X11_fits : zokM zTab kX11_fits := ⟨zwdf_ok rfl _ 0 (by decide +kernel) (by decide +kernel), by decide +kernel, by decide +kernel⟩
theorem gw_X11_fits : (kX11_fits.2.2.2.2.2.flatMap (zrq zTab kX11_fits.1.cls)).all goodWord = true := by decide +kernel
set_option maxRecDepth 1000000 in
theorem wd_X11_fits : ∀ w ∈ kX11_fits.2.2.2.2.2.flatMap (zrq zTab kX11_fits.1.cls), w ∈ lw_tbl := zplaces [792, 791, 31, 172, 789, 1163, 1162, 72, 172, 1160, 1001, 1000, 172, 999, 660, 659, 172, 658, 1005, 1004, 50, 172, 1002, 1175, 1174, 74, 190, 851, 850, 34, 187, 851, 850, 34, 187, 1051, 1050, 52, 190, 1113, 1112, 65, 190, 1180, 1179, 75, 190] rfl
theorem ok_X11_sure : zokM zTab kX11_sure := ⟨zwdf_ok rfl _ 0 (by decide +kernel) (by decide +kernel), by decide +kernel, by decide +kernel⟩
theorem gw_X11_sure : (kX11_sure.2.2.2.2.2.flatMap (zrq zTab kX11_sure.1.cls)).all goodWord = true := by decide +kernel
set_option maxRecDepth 1000000 in
theorem wd_X11_sure : ∀ w ∈ kX11_sure.2.2.2.2.2.flatMap (zrq zTab kX11_sure.1.cls), w ∈ lw_tbl := zplaces [792, 791, 31, 172, 789, 1163, 1162, 72, 172, 1160, 1001, 1000, 172, 999, 1005, 1004, 50, 172, 1002, 1175, 1174, 74, 190, 851, 850, 34, 187, 851, 850, 34, 187, 1051, 1050, 52, 190, 1113, 1112, 65, 190, 1188, 1187, 76, 190, 1084, 1083, 59, 190, 1192, 1191, 77, 190, 1196, 1195, 78, 190] rfl
theorem ok_X11_drawn : zokM zTab kX11_drawn := ⟨zwdf_ok rfl _ 0 (by decide +kernel) (by decide +kernel), by decide +kernel, by decide +kernel⟩
theorem gw_X11_drawn : (kX11_drawn.2.2.2.2.2.flatMap (zrq zTab kX11_drawn.1.cls)).all goodWord = true := by decide +kernel
set_option maxRecDepth 1000000 in
theorem wd_X11_drawn : ∀ w ∈ kX11_drawn.2.2.2.2.2.flatMap (zrq zTab kX11_drawn.1.cls), w ∈ lw_tbl := zplaces [641, 640, 13, 172, 638, 320, 739, 738, 22, 175, 320, 1208, 1207, 80, 175, 320, 771, 770, 27, 175] rfl
theorem ok_X11_kinship : zokM zTab kX11_kinship := ⟨zwdf_ok rfl _ 0 (by decide +kernel) (by decide +kernel), by decide +kernel, by decide +kernel⟩
theorem gw_X11_kinship : (kX11_kinship.2.2.2.2.2.flatMap (zrq zTab kX11_kinship.1.cls)).all goodWord = true := by decide +kernel
set_option maxRecDepth 1000000 in
theorem wd_X11_kinship : ∀ w ∈ kX11_kinship.2.2.2.2.2.flatMap (zrq zTab kX11_kinship.1.cls), w ∈ lw_tbl := zplaces [641, 640, 13, 172, 638, 560, 559, 172, 1144, 1221, 1220, 82, 178, 1225, 1224, 83, 178] rfl
theorem ok_X11_shared : zokM zTab kX11_shared := ⟨zwdf_ok rfl _ 0 (by decide +kernel) (by decide +kernel), by decide +kernel, by decide +kernel⟩
theorem gw_X11_shared : (kX11_shared.2.2.2.2.2.flatMap (zrq zTab kX11_shared.1.cls)).all goodWord = true := by decide +kernel
set_option maxRecDepth 1000000 in
theorem wd_X11_shared : ∀ w ∈ kX11_shared.2.2.2.2.2.flatMap (zrq zTab kX11_shared.1.cls), w ∈ lw_tbl := zplaces [660, 659, 172, 658, 660, 659, 172, 658, 1236, 1235, 172, 1234, 663, 662, 172, 661] rfl
theorem ok_X11_joined : zokM zTab kX11_joined := ⟨zwdf_ok rfl _ 0 (by decide +kernel) (by decide +kernel), by decide +kernel, by decide +kernel⟩
theorem gw_X11_joined : (kX11_joined.2.2.2.2.2.flatMap (zrq zTab kX11_joined.1.cls)).all goodWord = true := by decide +kernel
set_option maxRecDepth 1000000 in
theorem wd_X11_joined : ∀ w ∈ kX11_joined.2.2.2.2.2.flatMap (zrq zTab kX11_joined.1.cls), w ∈ lw_tbl := zplaces [792, 791, 31, 172, 789, 660, 659, 172, 658, 660, 659, 172, 658, 823, 822, 33, 172, 820, 823, 822, 33, 172, 820, 851, 850, 34, 187, 855, 854, 35, 188, 851, 850, 34, 187, 855, 854, 35, 188, 1249, 1248, 85, 188] rfl
theorem ok_X11_nearest : zokM zTab kX11_nearest := ⟨zwdf_ok rfl _ 0 (by decide +kernel) (by decide +kernel), by decide +kernel, by decide +kernel⟩
theorem gw_X11_nearest : (kX11_nearest.2.2.2.2.2.flatMap (zrq zTab kX11_nearest.1.cls)).all goodWord = true := by decide +kernel
set_option maxRecDepth 1000000 in
theorem wd_X11_nearest : ∀ w ∈ kX11_nearest.2.2.2.2.2.flatMap (zrq zTab kX11_nearest.1.cls), w ∈ lw_tbl := zplaces [792, 791, 31, 172, 789, 660, 659, 172, 658, 660, 659, 172, 658, 823, 822, 33, 172, 820, 851, 850, 34, 187, 855, 854, 35, 188, 1257, 1256, 86, 188, 679, 678, 172, 677] rfl
theorem ok_X11_settles : zokM zTab kX11_settles := ⟨zwdf_ok rfl _ 0 (by decide +kernel) (by decide +kernel), by decide +kernel, by decide +kernel⟩
theorem gw_X11_settles : (kX11_settles.2.2.2.2.2.flatMap (zrq zTab kX11_settles.1.cls)).all goodWord = true := by decide +kernel
set_option maxRecDepth 1000000 in
theorem wd_X11_settles : ∀ w ∈ kX11_settles.2.2.2.2.2.flatMap (zrq zTab kX11_settles.1.cls), w ∈ lw_tbl := zplaces [792, 791, 31, 172, 789, 660, 659, 172, 658, 823, 822, 33, 172, 820, 851, 850, 34, 187, 855, 854, 35, 188, 1266, 1265, 87, 188] rfl
theorem ok_X11_unmade : zokM zTab kX11_unmade := ⟨zwdf_ok rfl _ 0 (by decide +kernel) (by decide +kernel), by decide +kernel, by decide +kernel⟩
theorem gw_X11_unmade : (kX11_unmade.2.2.2.2.2.flatMap (zrq zTab kX11_unmade.1.cls)).all goodWord = true := by decide +kernel
set_option maxRecDepth 1000000 in
theorem wd_X11_unmade : ∀ w ∈ kX11_unmade.2.2.2.2.2.flatMap (zrq zTab kX11_unmade.1.cls), w ∈ lw_tbl := zplaces [792, 791, 31, 172, 789, 1276, 1275, 88, 187, 1135, 1134, 68, 187, 1139, 1138, 69, 187] rfl
theorem ok_X11_silenced : zokM zTab kX11_silenced := ⟨zwdf_ok rfl _ 0 (by decide +kernel) (by decide +kernel), by decide +kernel, by decide +kernel⟩
theorem gw_X11_silenced : (kX11_silenced.2.2.2.2.2.flatMap (zrq zTab kX11_silenced.1.cls)).all goodWord = true := by decide +kernel
set_option maxRecDepth 1000000 in
theorem wd_X11_silenced : ∀ w ∈ kX11_silenced.2.2.2.2.2.flatMap (zrq zTab kX11_silenced.1.cls), w ∈ lw_tbl := zplaces [792, 791, 31, 172, 789, 660, 659, 172, 658, 660, 659, 172, 658, 823, 822, 33, 172, 820, 851, 850, 34, 187, 1283, 1282, 191, 1281, 851, 850, 34, 187, 855, 854, 35, 188] rfl
theorem ok_X11_circles : zokM zTab kX11_circles := ⟨zwdf_ok rfl _ 0 (by decide +kernel) (by decide +kernel), by decide +kernel, by decide +kernel⟩
theorem gw_X11_circles : (kX11_circles.2.2.2.2.2.flatMap (zrq zTab kX11_circles.1.cls)).all goodWord = true := by decide +kernel
set_option maxRecDepth 1000000 in
theorem wd_X11_circles : ∀ w ∈ kX11_circles.2.2.2.2.2.flatMap (zrq zTab kX11_circles.1.cls), w ∈ lw_tbl := zplaces [792, 791, 31, 172, 789, 660, 659, 172, 658, 919, 918, 45, 172, 916, 1294, 1293, 89, 189] rfl
theorem ok_X11_count : zokM zTab kX11_count := ⟨zwdf_ok rfl _ 0 (by decide +kernel) (by decide +kernel), by decide +kernel, by decide +kernel⟩
theorem gw_X11_count : (kX11_count.2.2.2.2.2.flatMap (zrq zTab kX11_count.1.cls)).all goodWord = true := by decide +kernel
set_option maxRecDepth 1000000 in
theorem wd_X11_count : ∀ w ∈ kX11_count.2.2.2.2.2.flatMap (zrq zTab kX11_count.1.cls), w ∈ lw_tbl := zplaces [317] rfl
theorem ok_X11_image : zokM zTab kX11_image := ⟨zwdf_ok rfl _ 0 (by decide +kernel) (by decide +kernel), by decide +kernel, by decide +kernel⟩
theorem gw_X11_image : (kX11_image.2.2.2.2.2.flatMap (zrq zTab kX11_image.1.cls)).all goodWord = true := by decide +kernel
set_option maxRecDepth 1000000 in
theorem wd_X11_image : ∀ w ∈ kX11_image.2.2.2.2.2.flatMap (zrq zTab kX11_image.1.cls), w ∈ lw_tbl := zplaces [318, 318, 201, 202, 173, 205, 204, 173, 318, 317, 1328, 1327, 95, 173] rfl
theorem ok_X11_again : zokM zTab kX11_again := ⟨zwdf_ok rfl _ 0 (by decide +kernel) (by decide +kernel), by decide +kernel, by decide +kernel⟩
theorem gw_X11_again : (kX11_again.2.2.2.2.2.flatMap (zrq zTab kX11_again.1.cls)).all goodWord = true := by decide +kernel
set_option maxRecDepth 1000000 in
theorem wd_X11_again : ∀ w ∈ kX11_again.2.2.2.2.2.flatMap (zrq zTab kX11_again.1.cls), w ∈ lw_tbl := zplaces [318, 317, 318, 1328, 1327, 95, 173] rfl
theorem ok_X11_tellInto : zokM zTab kX11_tellInto := ⟨zwdf_ok rfl _ 0 (by decide +kernel) (by decide +kernel), by decide +kernel, by decide +kernel⟩
theorem gw_X11_tellInto : (kX11_tellInto.2.2.2.2.2.flatMap (zrq zTab kX11_tellInto.1.cls)).all goodWord = true := by decide +kernel
set_option maxRecDepth 1000000 in
theorem wd_X11_tellInto : ∀ w ∈ kX11_tellInto.2.2.2.2.2.flatMap (zrq zTab kX11_tellInto.1.cls), w ∈ lw_tbl := zplaces [362, 363, 178, 366, 365, 178, 319, 317, 404, 403, 2, 174, 317, 584, 585, 183, 588, 587, 183, 319, 317, 404, 403, 2, 174, 317, 608, 609, 184, 612, 611, 184, 319, 317, 404, 403, 2, 174, 317] rfl
theorem ok_X11_bookAt : zokM zTab kX11_bookAt := ⟨zwdf_ok rfl _ 0 (by decide +kernel) (by decide +kernel), by decide +kernel, by decide +kernel⟩
theorem gw_X11_bookAt : (kX11_bookAt.2.2.2.2.2.flatMap (zrq zTab kX11_bookAt.1.cls)).all goodWord = true := by decide +kernel
set_option maxRecDepth 1000000 in
theorem wd_X11_bookAt : ∀ w ∈ kX11_bookAt.2.2.2.2.2.flatMap (zrq zTab kX11_bookAt.1.cls), w ∈ lw_tbl := zplaces [317, 317] rfl
theorem ok_X11_yearAt : zokM zTab kX11_yearAt := ⟨zwdf_ok rfl _ 0 (by decide +kernel) (by decide +kernel), by decide +kernel, by decide +kernel⟩
theorem gw_X11_yearAt : (kX11_yearAt.2.2.2.2.2.flatMap (zrq zTab kX11_yearAt.1.cls)).all goodWord = true := by decide +kernel
set_option maxRecDepth 1000000 in
theorem wd_X11_yearAt : ∀ w ∈ kX11_yearAt.2.2.2.2.2.flatMap (zrq zTab kX11_yearAt.1.cls), w ∈ lw_tbl := zplaces [317, 317] rfl
theorem ok_X11_sightAt : zokM zTab kX11_sightAt := ⟨zwdf_ok rfl _ 0 (by decide +kernel) (by decide +kernel), by decide +kernel, by decide +kernel⟩
theorem gw_X11_sightAt : (kX11_sightAt.2.2.2.2.2.flatMap (zrq zTab kX11_sightAt.1.cls)).all goodWord = true := by decide +kernel
set_option maxRecDepth 1000000 in
theorem wd_X11_sightAt : ∀ w ∈ kX11_sightAt.2.2.2.2.2.flatMap (zrq zTab kX11_sightAt.1.cls), w ∈ lw_tbl := zplaces [317, 317] rfl
theorem ok_X11_readingsAt : zokM zTab kX11_readingsAt := ⟨zwdf_ok rfl _ 0 (by decide +kernel) (by decide +kernel), by decide +kernel, by decide +kernel⟩
theorem gw_X11_readingsAt : (kX11_readingsAt.2.2.2.2.2.flatMap (zrq zTab kX11_readingsAt.1.cls)).all goodWord = true := by decide +kernel
set_option maxRecDepth 1000000 in
theorem wd_X11_readingsAt : ∀ w ∈ kX11_readingsAt.2.2.2.2.2.flatMap (zrq zTab kX11_readingsAt.1.cls), w ∈ lw_tbl := zplaces [641, 640, 13, 172, 638, 321, 321, 313, 793, 187, 796, 795, 187, 321, 818, 817, 32, 187, 321] rfl
theorem ok_X11_walkAt : zokM zTab kX11_walkAt := ⟨zwdf_ok rfl _ 0 (by decide +kernel) (by decide +kernel), by decide +kernel, by decide +kernel⟩
theorem gw_X11_walkAt : (kX11_walkAt.2.2.2.2.2.flatMap (zrq zTab kX11_walkAt.1.cls)).all goodWord = true := by decide +kernel
set_option maxRecDepth 1000000 in
theorem wd_X11_walkAt : ∀ w ∈ kX11_walkAt.2.2.2.2.2.flatMap (zrq zTab kX11_walkAt.1.cls), w ∈ lw_tbl := zplaces [322, 322, 315, 824, 188, 827, 826, 188, 322] rfl
theorem ok_X11_levelsThere : zokM zTab kX11_levelsThere := ⟨zwdf_ok rfl _ 0 (by decide +kernel) (by decide +kernel), by decide +kernel, by decide +kernel⟩
theorem gw_X11_levelsThere : (kX11_levelsThere.2.2.2.2.2.flatMap (zrq zTab kX11_levelsThere.1.cls)).all goodWord = true := by decide +kernel
set_option maxRecDepth 1000000 in
theorem wd_X11_levelsThere : ∀ w ∈ kX11_levelsThere.2.2.2.2.2.flatMap (zrq zTab kX11_levelsThere.1.cls), w ∈ lw_tbl := zplaces [323, 1006, 1007, 190, 1010, 1009, 190, 323, 323] rfl
theorem ok_X11_ringsThere : zokM zTab kX11_ringsThere := ⟨zwdf_ok rfl _ 0 (by decide +kernel) (by decide +kernel), by decide +kernel, by decide +kernel⟩
theorem gw_X11_ringsThere : (kX11_ringsThere.2.2.2.2.2.flatMap (zrq zTab kX11_ringsThere.1.cls)).all goodWord = true := by decide +kernel
set_option maxRecDepth 1000000 in
theorem wd_X11_ringsThere : ∀ w ∈ kX11_ringsThere.2.2.2.2.2.flatMap (zrq zTab kX11_ringsThere.1.cls), w ∈ lw_tbl := zplaces [324, 920, 921, 189, 924, 923, 189, 324, 324] rfl
theorem ok_X11_isText : zokM zTab kX11_isText := ⟨zwdf_ok rfl _ 0 (by decide +kernel) (by decide +kernel), by decide +kernel, by decide +kernel⟩
theorem gw_X11_isText : (kX11_isText.2.2.2.2.2.flatMap (zrq zTab kX11_isText.1.cls)).all goodWord = true := by decide +kernel
set_option maxRecDepth 1000000 in
theorem wd_X11_isText : ∀ w ∈ kX11_isText.2.2.2.2.2.flatMap (zrq zTab kX11_isText.1.cls), w ∈ lw_tbl := zplaces [] rfl
theorem ok_X11_isWord : zokM zTab kX11_isWord := ⟨zwdf_ok rfl _ 0 (by decide +kernel) (by decide +kernel), by decide +kernel, by decide +kernel⟩
theorem gw_X11_isWord : (kX11_isWord.2.2.2.2.2.flatMap (zrq zTab kX11_isWord.1.cls)).all goodWord = true := by decide +kernel
set_option maxRecDepth 1000000 in
theorem wd_X11_isWord : ∀ w ∈ kX11_isWord.2.2.2.2.2.flatMap (zrq zTab kX11_isWord.1.cls), w ∈ lw_tbl := zplaces [] rfl
theorem ok_X11_isSpan : zokM zTab kX11_isSpan := ⟨zwdf_ok rfl _ 0 (by decide +kernel) (by decide +kernel), by decide +kernel, by decide +kernel⟩
theorem gw_X11_isSpan : (kX11_isSpan.2.2.2.2.2.flatMap (zrq zTab kX11_isSpan.1.cls)).all goodWord = true := by decide +kernel
set_option maxRecDepth 1000000 in
theorem wd_X11_isSpan : ∀ w ∈ kX11_isSpan.2.2.2.2.2.flatMap (zrq zTab kX11_isSpan.1.cls), w ∈ lw_tbl := zplaces [] rfl
theorem ok_X11_isIn : zokM zTab kX11_isIn := ⟨zwdf_ok rfl _ 0 (by decide +kernel) (by decide +kernel), by decide +kernel, by decide +kernel⟩
theorem gw_X11_isIn : (kX11_isIn.2.2.2.2.2.flatMap (zrq zTab kX11_isIn.1.cls)).all goodWord = true := by decide +kernel
set_option maxRecDepth 1000000 in
theorem wd_X11_isIn : ∀ w ∈ kX11_isIn.2.2.2.2.2.flatMap (zrq zTab kX11_isIn.1.cls), w ∈ lw_tbl := zplaces [] rfl
theorem ok_X11_common : zokM zTab kX11_common := ⟨zwdf_ok rfl _ 0 (by decide +kernel) (by decide +kernel), by decide +kernel, by decide +kernel⟩
theorem gw_X11_common : (kX11_common.2.2.2.2.2.flatMap (zrq zTab kX11_common.1.cls)).all goodWord = true := by decide +kernel
set_option maxRecDepth 1000000 in
theorem wd_X11_common : ∀ w ∈ kX11_common.2.2.2.2.2.flatMap (zrq zTab kX11_common.1.cls), w ∈ lw_tbl := zplaces [] rfl
theorem ok_X11_longer : zokM zTab kX11_longer := ⟨zwdf_ok rfl _ 0 (by decide +kernel) (by decide +kernel), by decide +kernel, by decide +kernel⟩
theorem gw_X11_longer : (kX11_longer.2.2.2.2.2.flatMap (zrq zTab kX11_longer.1.cls)).all goodWord = true := by decide +kernel
set_option maxRecDepth 1000000 in
theorem wd_X11_longer : ∀ w ∈ kX11_longer.2.2.2.2.2.flatMap (zrq zTab kX11_longer.1.cls), w ∈ lw_tbl := zplaces [] rfl
theorem ok_X11_lengthOf : zokM zTab kX11_lengthOf := ⟨zwdf_ok rfl _ 0 (by decide +kernel) (by decide +kernel), by decide +kernel, by decide +kernel⟩
theorem gw_X11_lengthOf : (kX11_lengthOf.2.2.2.2.2.flatMap (zrq zTab kX11_lengthOf.1.cls)).all goodWord = true := by decide +kernel
set_option maxRecDepth 1000000 in
theorem wd_X11_lengthOf : ∀ w ∈ kX11_lengthOf.2.2.2.2.2.flatMap (zrq zTab kX11_lengthOf.1.cls), w ∈ lw_tbl := zplaces [] rfl
theorem ok_X11_bitsOf : zokM zTab kX11_bitsOf := ⟨zwdf_ok rfl _ 0 (by decide +kernel) (by decide +kernel), by decide +kernel, by decide +kernel⟩
theorem gw_X11_bitsOf : (kX11_bitsOf.2.2.2.2.2.flatMap (zrq zTab kX11_bitsOf.1.cls)).all goodWord = true := by decide +kernel
set_option maxRecDepth 1000000 in
theorem wd_X11_bitsOf : ∀ w ∈ kX11_bitsOf.2.2.2.2.2.flatMap (zrq zTab kX11_bitsOf.1.cls), w ∈ lw_tbl := zplaces [663, 662, 172, 661] rfl
theorem ok_X11_lengthOfBits : zokM zTab kX11_lengthOfBits := ⟨zwdf_ok rfl _ 0 (by decide +kernel) (by decide +kernel), by decide +kernel, by decide +kernel⟩
theorem gw_X11_lengthOfBits : (kX11_lengthOfBits.2.2.2.2.2.flatMap (zrq zTab kX11_lengthOfBits.1.cls)).all goodWord = true := by decide +kernel
set_option maxRecDepth 1000000 in
theorem wd_X11_lengthOfBits : ∀ w ∈ kX11_lengthOfBits.2.2.2.2.2.flatMap (zrq zTab kX11_lengthOfBits.1.cls), w ∈ lw_tbl := zplaces [] rfl
theorem ok_X11_numberOfBits : zokM zTab kX11_numberOfBits := ⟨zwdf_ok rfl _ 0 (by decide +kernel) (by decide +kernel), by decide +kernel, by decide +kernel⟩
theorem gw_X11_numberOfBits : (kX11_numberOfBits.2.2.2.2.2.flatMap (zrq zTab kX11_numberOfBits.1.cls)).all goodWord = true := by decide +kernel
set_option maxRecDepth 1000000 in
theorem wd_X11_numberOfBits : ∀ w ∈ kX11_numberOfBits.2.2.2.2.2.flatMap (zrq zTab kX11_numberOfBits.1.cls), w ∈ lw_tbl := zplaces [699, 698, 172, 719] rfl
theorem ok_X11_wordAt : zokM zTab kX11_wordAt := ⟨zwdf_ok rfl _ 0 (by decide +kernel) (by decide +kernel), by decide +kernel, by decide +kernel⟩
theorem gw_X11_wordAt : (kX11_wordAt.2.2.2.2.2.flatMap (zrq zTab kX11_wordAt.1.cls)).all goodWord = true := by decide +kernel
set_option maxRecDepth 1000000 in
theorem wd_X11_wordAt : ∀ w ∈ kX11_wordAt.2.2.2.2.2.flatMap (zrq zTab kX11_wordAt.1.cls), w ∈ lw_tbl := zplaces [669, 668, 172, 667, 663, 662, 172, 661, 672, 671, 172, 670] rfl
theorem ok_X11_wordOfBits : zokM zTab kX11_wordOfBits := ⟨zwdf_ok rfl _ 0 (by decide +kernel) (by decide +kernel), by decide +kernel, by decide +kernel⟩
theorem gw_X11_wordOfBits : (kX11_wordOfBits.2.2.2.2.2.flatMap (zrq zTab kX11_wordOfBits.1.cls)).all goodWord = true := by decide +kernel
set_option maxRecDepth 1000000 in
theorem wd_X11_wordOfBits : ∀ w ∈ kX11_wordOfBits.2.2.2.2.2.flatMap (zrq zTab kX11_wordOfBits.1.cls), w ∈ lw_tbl := zplaces [] rfl
theorem ok_X11_timesOf : zokM zTab kX11_timesOf := ⟨zwdf_ok rfl _ 0 (by decide +kernel) (by decide +kernel), by decide +kernel, by decide +kernel⟩
theorem gw_X11_timesOf : (kX11_timesOf.2.2.2.2.2.flatMap (zrq zTab kX11_timesOf.1.cls)).all goodWord = true := by decide +kernel
set_option maxRecDepth 1000000 in
theorem wd_X11_timesOf : ∀ w ∈ kX11_timesOf.2.2.2.2.2.flatMap (zrq zTab kX11_timesOf.1.cls), w ∈ lw_tbl := zplaces [669, 668, 172, 667, 663, 662, 172, 661, 672, 671, 172, 670] rfl
theorem ok_X11_driftOf : zokM zTab kX11_driftOf := ⟨zwdf_ok rfl _ 0 (by decide +kernel) (by decide +kernel), by decide +kernel, by decide +kernel⟩
theorem gw_X11_driftOf : (kX11_driftOf.2.2.2.2.2.flatMap (zrq zTab kX11_driftOf.1.cls)).all goodWord = true := by decide +kernel
set_option maxRecDepth 1000000 in
theorem wd_X11_driftOf : ∀ w ∈ kX11_driftOf.2.2.2.2.2.flatMap (zrq zTab kX11_driftOf.1.cls), w ∈ lw_tbl := zplaces [669, 668, 172, 667, 669, 668, 172, 667, 663, 662, 172, 661, 663, 662, 172, 661, 672, 671, 172, 670, 672, 671, 172, 670, 680, 681, 185, 682, 680, 681, 185, 682] rfl
