theorem zd_L_law_24 : qL_law_24.all (zde kL_law) = true := by decide +kernel
theorem zr_L_law_24 : qL_law_24.all (zrow zTab kL_law) = true := by decide +kernel
theorem gw_L_law_24 : (qL_law_24.flatMap (zrq zTab kL_law.1.cls)).all goodWord = true := by decide +kernel
theorem wd_L_law_24 : ∀ w ∈ qL_law_24.flatMap (zrq zTab kL_law.1.cls), w ∈ lw_tbl := zplaces [1951, 1949, 1950, 176, 1948, 1272, 1270, 1271, 172, 1269] (by decide +kernel)
theorem zd_L_law_25 : qL_law_25.all (zde kL_law) = true := by decide +kernel
theorem zr_L_law_25 : qL_law_25.all (zrow zTab kL_law) = true := by decide +kernel
theorem gw_L_law_25 : (qL_law_25.flatMap (zrq zTab kL_law.1.cls)).all goodWord = true := by decide +kernel
theorem wd_L_law_25 : ∀ w ∈ qL_law_25.flatMap (zrq zTab kL_law.1.cls), w ∈ lw_tbl := zplaces [1955, 1953, 1954, 176, 1952, 1280, 1278, 1279, 172, 1277, 1959, 1957, 1958, 176, 1956] (by decide +kernel)
theorem zd_L_law_26 : qL_law_26.all (zde kL_law) = true := by decide +kernel
theorem zr_L_law_26 : qL_law_26.all (zrow zTab kL_law) = true := by decide +kernel
theorem gw_L_law_26 : (qL_law_26.flatMap (zrq zTab kL_law.1.cls)).all goodWord = true := by decide +kernel
theorem wd_L_law_26 : ∀ w ∈ qL_law_26.flatMap (zrq zTab kL_law.1.cls), w ∈ lw_tbl := zplaces [1290, 1288, 1289, 172, 1287, 1963, 1961, 1962, 176, 1960, 1320, 1318, 1319, 172, 1317, 1983, 1981, 1982, 176, 1980, 1324, 1322, 1323, 172, 1321] (by decide +kernel)
theorem zd_L_law_27 : qL_law_27.all (zde kL_law) = true := by decide +kernel
theorem zr_L_law_27 : qL_law_27.all (zrow zTab kL_law) = true := by decide +kernel
theorem gw_L_law_27 : (qL_law_27.flatMap (zrq zTab kL_law.1.cls)).all goodWord = true := by decide +kernel
theorem wd_L_law_27 : ∀ w ∈ qL_law_27.flatMap (zrq zTab kL_law.1.cls), w ∈ lw_tbl := zplaces [1987, 1985, 1986, 176, 1984, 1335, 1333, 1334, 172, 1332, 1998, 1996, 1997, 176, 1995] (by decide +kernel)
