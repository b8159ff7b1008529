theorem zd_L_law_12 : qL_law_12.all (zde kL_law) = true := by decide +kernel
theorem zr_L_law_12 : qL_law_12.all (zrow zTab kL_law) = true := by decide +kernel
theorem gw_L_law_12 : (qL_law_12.flatMap (zrq zTab kL_law.1.cls)).all goodWord = true := by decide +kernel
set_option maxRecDepth 1000000 in
theorem wd_L_law_12 : ∀ w ∈ qL_law_12.flatMap (zrq zTab kL_law.1.cls), w ∈ lw_tbl := zplaces [998, 996, 997, 172, 995, 1826, 1824, 1825, 176, 1823, 1104, 1102, 1103, 172, 1101] rfl
theorem zd_L_law_13 : qL_law_13.all (zde kL_law) = true := by decide +kernel
theorem zr_L_law_13 : qL_law_13.all (zrow zTab kL_law) = true := by decide +kernel
theorem gw_L_law_13 : (qL_law_13.flatMap (zrq zTab kL_law.1.cls)).all goodWord = true := by decide +kernel
set_option maxRecDepth 1000000 in
theorem wd_L_law_13 : ∀ w ∈ qL_law_13.flatMap (zrq zTab kL_law.1.cls), w ∈ lw_tbl := zplaces [1846, 1844, 1845, 176, 1843, 1120, 1118, 1119, 172, 1117] rfl
theorem zd_L_law_14 : qL_law_14.all (zde kL_law) = true := by decide +kernel
theorem zr_L_law_14 : qL_law_14.all (zrow zTab kL_law) = true := by decide +kernel
theorem gw_L_law_14 : (qL_law_14.flatMap (zrq zTab kL_law.1.cls)).all goodWord = true := by decide +kernel
set_option maxRecDepth 1000000 in
theorem wd_L_law_14 : ∀ w ∈ qL_law_14.flatMap (zrq zTab kL_law.1.cls), w ∈ lw_tbl := zplaces [1854, 1852, 1853, 176, 1851] rfl
theorem zd_L_law_15 : qL_law_15.all (zde kL_law) = true := by decide +kernel
theorem zr_L_law_15 : qL_law_15.all (zrow zTab kL_law) = true := by decide +kernel
theorem gw_L_law_15 : (qL_law_15.flatMap (zrq zTab kL_law.1.cls)).all goodWord = true := by decide +kernel
set_option maxRecDepth 1000000 in
theorem wd_L_law_15 : ∀ w ∈ qL_law_15.flatMap (zrq zTab kL_law.1.cls), w ∈ lw_tbl := zplaces [1143, 1141, 1142, 172, 1140, 1858, 1856, 1857, 176, 1855] rfl
theorem zd_L_law_16 : qL_law_16.all (zde kL_law) = true := by decide +kernel
theorem zr_L_law_16 : qL_law_16.all (zrow zTab kL_law) = true := by decide +kernel
theorem gw_L_law_16 : (qL_law_16.flatMap (zrq zTab kL_law.1.cls)).all goodWord = true := by decide +kernel
set_option maxRecDepth 1000000 in
theorem wd_L_law_16 : ∀ w ∈ qL_law_16.flatMap (zrq zTab kL_law.1.cls), w ∈ lw_tbl := zplaces [1159, 1157, 1158, 172, 1156, 1866, 1864, 1865, 176, 1863] rfl
theorem zd_L_law_17 : qL_law_17.all (zde kL_law) = true := by decide +kernel
theorem zr_L_law_17 : qL_law_17.all (zrow zTab kL_law) = true := by decide +kernel
theorem gw_L_law_17 : (qL_law_17.flatMap (zrq zTab kL_law.1.cls)).all goodWord = true := by decide +kernel
set_option maxRecDepth 1000000 in
theorem wd_L_law_17 : ∀ w ∈ qL_law_17.flatMap (zrq zTab kL_law.1.cls), w ∈ lw_tbl := zplaces [1171, 1169, 1170, 172, 1168, 1882, 1880, 1881, 176, 1879] rfl
theorem zd_L_law_18 : qL_law_18.all (zde kL_law) = true := by decide +kernel
theorem zr_L_law_18 : qL_law_18.all (zrow zTab kL_law) = true := by decide +kernel
theorem gw_L_law_18 : (qL_law_18.flatMap (zrq zTab kL_law.1.cls)).all goodWord = true := by decide +kernel
set_option maxRecDepth 1000000 in
theorem wd_L_law_18 : ∀ w ∈ qL_law_18.flatMap (zrq zTab kL_law.1.cls), w ∈ lw_tbl := zplaces [1184, 1182, 1183, 172, 1181, 1898, 1896, 1897, 176, 1895] rfl
theorem zd_L_law_19 : qL_law_19.all (zde kL_law) = true := by decide +kernel
theorem zr_L_law_19 : qL_law_19.all (zrow zTab kL_law) = true := by decide +kernel
theorem gw_L_law_19 : (qL_law_19.flatMap (zrq zTab kL_law.1.cls)).all goodWord = true := by decide +kernel
set_option maxRecDepth 1000000 in
theorem wd_L_law_19 : ∀ w ∈ qL_law_19.flatMap (zrq zTab kL_law.1.cls), w ∈ lw_tbl := zplaces [1204, 1202, 1203, 172, 1201, 1910, 1908, 1909, 176, 1907, 1217, 1215, 1216, 172, 1214] rfl
theorem zd_L_law_20 : qL_law_20.all (zde kL_law) = true := by decide +kernel
theorem zr_L_law_20 : qL_law_20.all (zrow zTab kL_law) = true := by decide +kernel
theorem gw_L_law_20 : (qL_law_20.flatMap (zrq zTab kL_law.1.cls)).all goodWord = true := by decide +kernel
set_option maxRecDepth 1000000 in
theorem wd_L_law_20 : ∀ w ∈ qL_law_20.flatMap (zrq zTab kL_law.1.cls), w ∈ lw_tbl := zplaces [1923, 1921, 1922, 176, 1920, 1233, 1231, 1232, 172, 1230] rfl
theorem zd_L_law_21 : qL_law_21.all (zde kL_law) = true := by decide +kernel
theorem zr_L_law_21 : qL_law_21.all (zrow zTab kL_law) = true := by decide +kernel
theorem gw_L_law_21 : (qL_law_21.flatMap (zrq zTab kL_law.1.cls)).all goodWord = true := by decide +kernel
set_option maxRecDepth 1000000 in
theorem wd_L_law_21 : ∀ w ∈ qL_law_21.flatMap (zrq zTab kL_law.1.cls), w ∈ lw_tbl := zplaces [1931, 1929, 1930, 176, 1928, 1245, 1243, 1244, 172, 1242] rfl
theorem zd_L_law_22 : qL_law_22.all (zde kL_law) = true := by decide +kernel
theorem zr_L_law_22 : qL_law_22.all (zrow zTab kL_law) = true := by decide +kernel
theorem gw_L_law_22 : (qL_law_22.flatMap (zrq zTab kL_law.1.cls)).all goodWord = true := by decide +kernel
set_option maxRecDepth 1000000 in
theorem wd_L_law_22 : ∀ w ∈ qL_law_22.flatMap (zrq zTab kL_law.1.cls), w ∈ lw_tbl := zplaces [1943, 1941, 1942, 176, 1940, 1253, 1251, 1252, 172, 1250] rfl
theorem zd_L_law_23 : qL_law_23.all (zde kL_law) = true := by decide +kernel
theorem zr_L_law_23 : qL_law_23.all (zrow zTab kL_law) = true := by decide +kernel
theorem gw_L_law_23 : (qL_law_23.flatMap (zrq zTab kL_law.1.cls)).all goodWord = true := by decide +kernel
set_option maxRecDepth 1000000 in
theorem wd_L_law_23 : ∀ w ∈ qL_law_23.flatMap (zrq zTab kL_law.1.cls), w ∈ lw_tbl := zplaces [1947, 1945, 1946, 176, 1944, 1262, 1260, 1261, 172, 1259] rfl
theorem zd_L_law_24 : qL_law_24.all (zde kL_law) = true := by decide +kernel
theorem zr_L_law_24 : qL_law_24.all (zrow zTab kL_law) = true := by decide +kernel
theorem gw_L_law_24 : (qL_law_24.flatMap (zrq zTab kL_law.1.cls)).all goodWord = true := by decide +kernel
set_option maxRecDepth 1000000 in
theorem wd_L_law_24 : ∀ w ∈ qL_law_24.flatMap (zrq zTab kL_law.1.cls), w ∈ lw_tbl := zplaces [1951, 1949, 1950, 176, 1948, 1272, 1270, 1271, 172, 1269] rfl
theorem zd_L_law_25 : qL_law_25.all (zde kL_law) = true := by decide +kernel
theorem zr_L_law_25 : qL_law_25.all (zrow zTab kL_law) = true := by decide +kernel
theorem gw_L_law_25 : (qL_law_25.flatMap (zrq zTab kL_law.1.cls)).all goodWord = true := by decide +kernel
set_option maxRecDepth 1000000 in
theorem wd_L_law_25 : ∀ w ∈ qL_law_25.flatMap (zrq zTab kL_law.1.cls), w ∈ lw_tbl := zplaces [1955, 1953, 1954, 176, 1952, 1280, 1278, 1279, 172, 1277, 1959, 1957, 1958, 176, 1956] rfl
theorem zd_L_law_26 : qL_law_26.all (zde kL_law) = true := by decide +kernel
theorem zr_L_law_26 : qL_law_26.all (zrow zTab kL_law) = true := by decide +kernel
theorem gw_L_law_26 : (qL_law_26.flatMap (zrq zTab kL_law.1.cls)).all goodWord = true := by decide +kernel
set_option maxRecDepth 1000000 in
theorem wd_L_law_26 : ∀ w ∈ qL_law_26.flatMap (zrq zTab kL_law.1.cls), w ∈ lw_tbl := zplaces [1290, 1288, 1289, 172, 1287, 1963, 1961, 1962, 176, 1960, 1320, 1318, 1319, 172, 1317, 1983, 1981, 1982, 176, 1980, 1324, 1322, 1323, 172, 1321] rfl
theorem zd_L_law_27 : qL_law_27.all (zde kL_law) = true := by decide +kernel
theorem zr_L_law_27 : qL_law_27.all (zrow zTab kL_law) = true := by decide +kernel
theorem gw_L_law_27 : (qL_law_27.flatMap (zrq zTab kL_law.1.cls)).all goodWord = true := by decide +kernel
set_option maxRecDepth 1000000 in
theorem wd_L_law_27 : ∀ w ∈ qL_law_27.flatMap (zrq zTab kL_law.1.cls), w ∈ lw_tbl := zplaces [1987, 1985, 1986, 176, 1984, 1335, 1333, 1334, 172, 1332, 1998, 1996, 1997, 176, 1995] rfl
theorem ok_L_law : zokM zTab kL_law := ⟨zall_app zd_L_law_0 (zall_app zd_L_law_1 (zall_app zd_L_law_2 (zall_app zd_L_law_3 (zall_app zd_L_law_4 (zall_app zd_L_law_5 (zall_app zd_L_law_6 (zall_app zd_L_law_7 (zall_app zd_L_law_8 (zall_app zd_L_law_9 (zall_app zd_L_law_10 (zall_app zd_L_law_11 (zall_app zd_L_law_12 (zall_app zd_L_law_13 (zall_app zd_L_law_14 (zall_app zd_L_law_15 (zall_app zd_L_law_16 (zall_app zd_L_law_17 (zall_app zd_L_law_18 (zall_app zd_L_law_19 (zall_app zd_L_law_20 (zall_app zd_L_law_21 (zall_app zd_L_law_22 (zall_app zd_L_law_23 (zall_app zd_L_law_24 (zall_app zd_L_law_25 (zall_app zd_L_law_26 (zd_L_law_27))))))))))))))))))))))))))), zall_app zr_L_law_0 (zall_app zr_L_law_1 (zall_app zr_L_law_2 (zall_app zr_L_law_3 (zall_app zr_L_law_4 (zall_app zr_L_law_5 (zall_app zr_L_law_6 (zall_app zr_L_law_7 (zall_app zr_L_law_8 (zall_app zr_L_law_9 (zall_app zr_L_law_10 (zall_app zr_L_law_11 (zall_app zr_L_law_12 (zall_app zr_L_law_13 (zall_app zr_L_law_14 (zall_app zr_L_law_15 (zall_app zr_L_law_16 (zall_app zr_L_law_17 (zall_app zr_L_law_18 (zall_app zr_L_law_19 (zall_app zr_L_law_20 (zall_app zr_L_law_21 (zall_app zr_L_law_22 (zall_app zr_L_law_23 (zall_app zr_L_law_24 (zall_app zr_L_law_25 (zall_app zr_L_law_26 (zr_L_law_27))))))))))))))))))))))))))), by decide +kernel⟩
theorem gw_L_law : (kL_law.2.2.2.2.2.flatMap (zrq zTab kL_law.1.cls)).all goodWord = true := zfg_app gw_L_law_0 (zfg_app gw_L_law_1 (zfg_app gw_L_law_2 (zfg_app gw_L_law_3 (zfg_app gw_L_law_4 (zfg_app gw_L_law_5 (zfg_app gw_L_law_6 (zfg_app gw_L_law_7 (zfg_app gw_L_law_8 (zfg_app gw_L_law_9 (zfg_app gw_L_law_10 (zfg_app gw_L_law_11 (zfg_app gw_L_law_12 (zfg_app gw_L_law_13 (zfg_app gw_L_law_14 (zfg_app gw_L_law_15 (zfg_app gw_L_law_16 (zfg_app gw_L_law_17 (zfg_app gw_L_law_18 (zfg_app gw_L_law_19 (zfg_app gw_L_law_20 (zfg_app gw_L_law_21 (zfg_app gw_L_law_22 (zfg_app gw_L_law_23 (zfg_app gw_L_law_24 (zfg_app gw_L_law_25 (zfg_app gw_L_law_26 (gw_L_law_27)))))))))))))))))))))))))))
theorem wd_L_law : ∀ w ∈ kL_law.2.2.2.2.2.flatMap (zrq zTab kL_law.1.cls), w ∈ lw_tbl := zfm_app wd_L_law_0 (zfm_app wd_L_law_1 (zfm_app wd_L_law_2 (zfm_app wd_L_law_3 (zfm_app wd_L_law_4 (zfm_app wd_L_law_5 (zfm_app wd_L_law_6 (zfm_app wd_L_law_7 (zfm_app wd_L_law_8 (zfm_app wd_L_law_9 (zfm_app wd_L_law_10 (zfm_app wd_L_law_11 (zfm_app wd_L_law_12 (zfm_app wd_L_law_13 (zfm_app wd_L_law_14 (zfm_app wd_L_law_15 (zfm_app wd_L_law_16 (zfm_app wd_L_law_17 (zfm_app wd_L_law_18 (zfm_app wd_L_law_19 (zfm_app wd_L_law_20 (zfm_app wd_L_law_21 (zfm_app wd_L_law_22 (zfm_app wd_L_law_23 (zfm_app wd_L_law_24 (zfm_app wd_L_law_25 (zfm_app wd_L_law_26 (wd_L_law_27)))))))))))))))))))))))))))
theorem ok_X11_init : zokM zTab kX11_init := ⟨by decide +kernel, by decide +kernel, by decide +kernel⟩
theorem gw_X11_init : (kX11_init.2.2.2.2.2.flatMap (zrq zTab kX11_init.1.cls)).all goodWord = true := by decide +kernel
set_option maxRecDepth 1000000 in
theorem wd_X11_init : ∀ w ∈ kX11_init.2.2.2.2.2.flatMap (zrq zTab kX11_init.1.cls), w ∈ lw_tbl := zplaces [198, 199, 200, 201, 202, 173, 205, 204, 173, 317, 201, 318, 249, 250, 174, 253, 252, 174, 319, 285, 286, 175, 289, 288, 175, 320, 313, 321, 315, 322, 323, 324] rfl
theorem ok_X11_feed : zokM zTab kX11_feed := ⟨by decide +kernel, by decide +kernel, by decide +kernel⟩
theorem gw_X11_feed : (kX11_feed.2.2.2.2.2.flatMap (zrq zTab kX11_feed.1.cls)).all goodWord = true := by decide +kernel
set_option maxRecDepth 1000000 in
theorem wd_X11_feed : ∀ w ∈ kX11_feed.2.2.2.2.2.flatMap (zrq zTab kX11_feed.1.cls), w ∈ lw_tbl := zplaces [317, 317, 349, 348, 0, 173, 317, 349, 348, 0, 173, 317, 349, 348, 0, 173, 317, 349, 348, 0, 173, 317, 349, 348, 0, 173, 317] rfl
theorem ok_X11_end : zokM zTab kX11_end := ⟨by decide +kernel, by decide +kernel, by decide +kernel⟩
theorem gw_X11_end : (kX11_end.2.2.2.2.2.flatMap (zrq zTab kX11_end.1.cls)).all goodWord = true := by decide +kernel
set_option maxRecDepth 1000000 in
theorem wd_X11_end : ∀ w ∈ kX11_end.2.2.2.2.2.flatMap (zrq zTab kX11_end.1.cls), w ∈ lw_tbl := zplaces [317, 317] rfl
theorem ok_X11_text : zokM zTab kX11_text := ⟨by decide +kernel, by decide +kernel, by decide +kernel⟩
theorem gw_X11_text : (kX11_text.2.2.2.2.2.flatMap (zrq zTab kX11_text.1.cls)).all goodWord = true := by decide +kernel
set_option maxRecDepth 1000000 in
theorem wd_X11_text : ∀ w ∈ kX11_text.2.2.2.2.2.flatMap (zrq zTab kX11_text.1.cls), w ∈ lw_tbl := zplaces [317, 317, 317, 317, 317, 361, 360, 1, 172, 358, 317, 319, 317, 319, 317, 627, 628, 185, 629] rfl
theorem ok_X11_fault : zokM zTab kX11_fault := ⟨by decide +kernel, by decide +kernel, by decide +kernel⟩
theorem gw_X11_fault : (kX11_fault.2.2.2.2.2.flatMap (zrq zTab kX11_fault.1.cls)).all goodWord = true := by decide +kernel
set_option maxRecDepth 1000000 in
theorem wd_X11_fault : ∀ w ∈ kX11_fault.2.2.2.2.2.flatMap (zrq zTab kX11_fault.1.cls), w ∈ lw_tbl := zplaces [317, 317] rfl
theorem ok_X11_book : zokM zTab kX11_book := ⟨by decide +kernel, by decide +kernel, by decide +kernel⟩
theorem gw_X11_book : (kX11_book.2.2.2.2.2.flatMap (zrq zTab kX11_book.1.cls)).all goodWord = true := by decide +kernel
set_option maxRecDepth 1000000 in
theorem wd_X11_book : ∀ w ∈ kX11_book.2.2.2.2.2.flatMap (zrq zTab kX11_book.1.cls), w ∈ lw_tbl := zplaces [641, 640, 13, 172, 638, 645, 644, 14, 178] rfl
theorem ok_X11_word : zokM zTab kX11_word := ⟨by decide +kernel, by decide +kernel, by decide +kernel⟩
theorem gw_X11_word : (kX11_word.2.2.2.2.2.flatMap (zrq zTab kX11_word.1.cls)).all goodWord = true := by decide +kernel
set_option maxRecDepth 1000000 in
theorem wd_X11_word : ∀ w ∈ kX11_word.2.2.2.2.2.flatMap (zrq zTab kX11_word.1.cls), w ∈ lw_tbl := zplaces [660, 659, 172, 658, 663, 662, 172, 661, 666, 665, 172, 664] rfl
theorem ok_X11_drift : zokM zTab kX11_drift := ⟨by decide +kernel, by decide +kernel, by decide +kernel⟩
theorem gw_X11_drift : (kX11_drift.2.2.2.2.2.flatMap (zrq zTab kX11_drift.1.cls)).all goodWord = true := by decide +kernel
set_option maxRecDepth 1000000 in
theorem wd_X11_drift : ∀ w ∈ kX11_drift.2.2.2.2.2.flatMap (zrq zTab kX11_drift.1.cls), w ∈ lw_tbl := zplaces [660, 659, 172, 658, 660, 659, 172, 658, 679, 678, 172, 677] rfl
theorem ok_X11_read : zokM zTab kX11_read := ⟨by decide +kernel, by decide +kernel, by decide +kernel⟩
theorem gw_X11_read : (kX11_read.2.2.2.2.2.flatMap (zrq zTab kX11_read.1.cls)).all goodWord = true := by decide +kernel
set_option maxRecDepth 1000000 in
theorem wd_X11_read : ∀ w ∈ kX11_read.2.2.2.2.2.flatMap (zrq zTab kX11_read.1.cls), w ∈ lw_tbl := zplaces [641, 640, 13, 172, 638, 660, 659, 172, 658, 653, 652, 16, 178, 691, 690, 17, 178] rfl
theorem ok_X11_deed : zokM zTab kX11_deed := ⟨by decide +kernel, by decide +kernel, by decide +kernel⟩
theorem gw_X11_deed : (kX11_deed.2.2.2.2.2.flatMap (zrq zTab kX11_deed.1.cls)).all goodWord = true := by decide +kernel
set_option maxRecDepth 1000000 in
theorem wd_X11_deed : ∀ w ∈ kX11_deed.2.2.2.2.2.flatMap (zrq zTab kX11_deed.1.cls), w ∈ lw_tbl := zplaces [727, 726, 20, 172, 724, 731, 730, 21, 183] rfl
theorem ok_X11_stop : zokM zTab kX11_stop := ⟨by decide +kernel, by decide +kernel, by decide +kernel⟩
theorem gw_X11_stop : (kX11_stop.2.2.2.2.2.flatMap (zrq zTab kX11_stop.1.cls)).all goodWord = true := by decide +kernel
set_option maxRecDepth 1000000 in
theorem wd_X11_stop : ∀ w ∈ kX11_stop.2.2.2.2.2.flatMap (zrq zTab kX11_stop.1.cls), w ∈ lw_tbl := zplaces [641, 640, 13, 172, 638, 727, 726, 20, 172, 724, 320, 739, 738, 22, 175, 320, 746, 745, 23, 175] rfl
theorem ok_X11_state : zokM zTab kX11_state := ⟨by decide +kernel, by decide +kernel, by decide +kernel⟩
theorem gw_X11_state : (kX11_state.2.2.2.2.2.flatMap (zrq zTab kX11_state.1.cls)).all goodWord = true := by decide +kernel
set_option maxRecDepth 1000000 in
theorem wd_X11_state : ∀ w ∈ kX11_state.2.2.2.2.2.flatMap (zrq zTab kX11_state.1.cls), w ∈ lw_tbl := zplaces [641, 640, 13, 172, 638, 727, 726, 20, 172, 724, 320, 739, 738, 22, 175, 320, 746, 745, 23, 175, 320, 771, 770, 27, 175] rfl
theorem ok_X11_making : zokM zTab kX11_making := ⟨by decide +kernel, by decide +kernel, by decide +kernel⟩
theorem gw_X11_making : (kX11_making.2.2.2.2.2.flatMap (zrq zTab kX11_making.1.cls)).all goodWord = true := by decide +kernel
set_option maxRecDepth 1000000 in
theorem wd_X11_making : ∀ w ∈ kX11_making.2.2.2.2.2.flatMap (zrq zTab kX11_making.1.cls), w ∈ lw_tbl := zplaces [792, 791, 31, 172, 789, 660, 659, 172, 658, 660, 659, 172, 658, 823, 822, 33, 172, 820, 851, 850, 34, 187, 855, 854, 35, 188, 869, 868, 38, 188] rfl
theorem ok_X11_ring : zokM zTab kX11_ring := ⟨by decide +kernel, by decide +kernel, by decide +kernel⟩
theorem gw_X11_ring : (kX11_ring.2.2.2.2.2.flatMap (zrq zTab kX11_ring.1.cls)).all goodWord = true := by decide +kernel
set_option maxRecDepth 1000000 in
theorem wd_X11_ring : ∀ w ∈ kX11_ring.2.2.2.2.2.flatMap (zrq zTab kX11_ring.1.cls), w ∈ lw_tbl := zplaces [792, 791, 31, 172, 789, 660, 659, 172, 658, 823, 822, 33, 172, 820, 851, 850, 34, 187, 855, 854, 35, 188, 877, 876, 39, 188] rfl
theorem ok_X11_reach : zokM zTab kX11_reach := ⟨by decide +kernel, by decide +kernel, by decide +kernel⟩
theorem gw_X11_reach : (kX11_reach.2.2.2.2.2.flatMap (zrq zTab kX11_reach.1.cls)).all goodWord = true := by decide +kernel
set_option maxRecDepth 1000000 in
theorem wd_X11_reach : ∀ w ∈ kX11_reach.2.2.2.2.2.flatMap (zrq zTab kX11_reach.1.cls), w ∈ lw_tbl := zplaces [792, 791, 31, 172, 789, 660, 659, 172, 658, 823, 822, 33, 172, 820, 851, 850, 34, 187, 855, 854, 35, 188, 885, 884, 40, 188] rfl
theorem ok_X11_sound : zokM zTab kX11_sound := ⟨by decide +kernel, by decide +kernel, by decide +kernel⟩
theorem gw_X11_sound : (kX11_sound.2.2.2.2.2.flatMap (zrq zTab kX11_sound.1.cls)).all goodWord = true := by decide +kernel
set_option maxRecDepth 1000000 in
theorem wd_X11_sound : ∀ w ∈ kX11_sound.2.2.2.2.2.flatMap (zrq zTab kX11_sound.1.cls), w ∈ lw_tbl := zplaces [792, 791, 31, 172, 789, 893, 892, 41, 178, 897, 896, 42, 187] rfl
theorem ok_X11_like : zokM zTab kX11_like := ⟨by decide +kernel, by decide +kernel, by decide +kernel⟩
theorem gw_X11_like : (kX11_like.2.2.2.2.2.flatMap (zrq zTab kX11_like.1.cls)).all goodWord = true := by decide +kernel
set_option maxRecDepth 1000000 in
theorem wd_X11_like : ∀ w ∈ kX11_like.2.2.2.2.2.flatMap (zrq zTab kX11_like.1.cls), w ∈ lw_tbl := zplaces [792, 791, 31, 172, 789, 653, 652, 16, 178, 653, 652, 16, 178, 911, 910, 44, 187] rfl
theorem ok_X11_orbits : zokM zTab kX11_orbits := ⟨by decide +kernel, by decide +kernel, by decide +kernel⟩
theorem gw_X11_orbits : (kX11_orbits.2.2.2.2.2.flatMap (zrq zTab kX11_orbits.1.cls)).all goodWord = true := by decide +kernel
set_option maxRecDepth 1000000 in
theorem wd_X11_orbits : ∀ w ∈ kX11_orbits.2.2.2.2.2.flatMap (zrq zTab kX11_orbits.1.cls), w ∈ lw_tbl := zplaces [792, 791, 31, 172, 789, 653, 652, 16, 178, 919, 918, 45, 172, 916, 979, 978, 46, 189] rfl
theorem ok_X11_rota : zokM zTab kX11_rota := ⟨by decide +kernel, by decide +kernel, by decide +kernel⟩
theorem gw_X11_rota : (kX11_rota.2.2.2.2.2.flatMap (zrq zTab kX11_rota.1.cls)).all goodWord = true := by decide +kernel
set_option maxRecDepth 1000000 in
theorem wd_X11_rota : ∀ w ∈ kX11_rota.2.2.2.2.2.flatMap (zrq zTab kX11_rota.1.cls), w ∈ lw_tbl := zplaces [792, 791, 31, 172, 789, 1001, 1000, 172, 999, 851, 850, 34, 187, 1005, 1004, 50, 172, 1002, 1047, 1046, 51, 190, 851, 850, 34, 187, 851, 850, 34, 187, 1051, 1050, 52, 190, 1073, 1072, 57, 190, 1078, 1077, 58, 190, 1084, 1083, 59, 190, 1096, 1095, 62, 190] rfl
