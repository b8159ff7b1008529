theorem zd_L_law_20 : qL_law_20.all (zde kL_law) = true := by decide +kernel
theorem zr_L_law_20 : qL_law_20.all (zrow zTab kL_law) = true := by decide +kernel
theorem gw_L_law_20 : (qL_law_20.flatMap (zrq zTab kL_law.1.cls)).all goodWord = true := by decide +kernel
theorem wd_L_law_20 : ∀ w ∈ qL_law_20.flatMap (zrq zTab kL_law.1.cls), w ∈ lw_tbl := zplaces [1923, 1921, 1922, 176, 1920, 1233, 1231, 1232, 172, 1230] (by decide +kernel)
theorem zd_L_law_21 : qL_law_21.all (zde kL_law) = true := by decide +kernel
theorem zr_L_law_21 : qL_law_21.all (zrow zTab kL_law) = true := by decide +kernel
theorem gw_L_law_21 : (qL_law_21.flatMap (zrq zTab kL_law.1.cls)).all goodWord = true := by decide +kernel
theorem wd_L_law_21 : ∀ w ∈ qL_law_21.flatMap (zrq zTab kL_law.1.cls), w ∈ lw_tbl := zplaces [1931, 1929, 1930, 176, 1928, 1245, 1243, 1244, 172, 1242] (by decide +kernel)
theorem zd_L_law_22 : qL_law_22.all (zde kL_law) = true := by decide +kernel
theorem zr_L_law_22 : qL_law_22.all (zrow zTab kL_law) = true := by decide +kernel
theorem gw_L_law_22 : (qL_law_22.flatMap (zrq zTab kL_law.1.cls)).all goodWord = true := by decide +kernel
theorem wd_L_law_22 : ∀ w ∈ qL_law_22.flatMap (zrq zTab kL_law.1.cls), w ∈ lw_tbl := zplaces [1943, 1941, 1942, 176, 1940, 1253, 1251, 1252, 172, 1250] (by decide +kernel)
theorem zd_L_law_23 : qL_law_23.all (zde kL_law) = true := by decide +kernel
theorem zr_L_law_23 : qL_law_23.all (zrow zTab kL_law) = true := by decide +kernel
theorem gw_L_law_23 : (qL_law_23.flatMap (zrq zTab kL_law.1.cls)).all goodWord = true := by decide +kernel
theorem wd_L_law_23 : ∀ w ∈ qL_law_23.flatMap (zrq zTab kL_law.1.cls), w ∈ lw_tbl := zplaces [1947, 1945, 1946, 176, 1944, 1262, 1260, 1261, 172, 1259] (by decide +kernel)
