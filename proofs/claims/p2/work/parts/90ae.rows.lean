theorem zd_L_law_16 : qL_law_16.all (zde kL_law) = true := by decide +kernel
theorem zr_L_law_16 : qL_law_16.all (zrow zTab kL_law) = true := by decide +kernel
theorem gw_L_law_16 : (qL_law_16.flatMap (zrq zTab kL_law.1.cls)).all goodWord = true := by decide +kernel
theorem wd_L_law_16 : ∀ w ∈ qL_law_16.flatMap (zrq zTab kL_law.1.cls), w ∈ lw_tbl := zplaces [1159, 1157, 1158, 172, 1156, 1866, 1864, 1865, 176, 1863] (by decide +kernel)
theorem zd_L_law_17 : qL_law_17.all (zde kL_law) = true := by decide +kernel
theorem zr_L_law_17 : qL_law_17.all (zrow zTab kL_law) = true := by decide +kernel
theorem gw_L_law_17 : (qL_law_17.flatMap (zrq zTab kL_law.1.cls)).all goodWord = true := by decide +kernel
theorem wd_L_law_17 : ∀ w ∈ qL_law_17.flatMap (zrq zTab kL_law.1.cls), w ∈ lw_tbl := zplaces [1171, 1169, 1170, 172, 1168, 1882, 1880, 1881, 176, 1879] (by decide +kernel)
theorem zd_L_law_18 : qL_law_18.all (zde kL_law) = true := by decide +kernel
theorem zr_L_law_18 : qL_law_18.all (zrow zTab kL_law) = true := by decide +kernel
theorem gw_L_law_18 : (qL_law_18.flatMap (zrq zTab kL_law.1.cls)).all goodWord = true := by decide +kernel
theorem wd_L_law_18 : ∀ w ∈ qL_law_18.flatMap (zrq zTab kL_law.1.cls), w ∈ lw_tbl := zplaces [1184, 1182, 1183, 172, 1181, 1898, 1896, 1897, 176, 1895] (by decide +kernel)
theorem zd_L_law_19 : qL_law_19.all (zde kL_law) = true := by decide +kernel
theorem zr_L_law_19 : qL_law_19.all (zrow zTab kL_law) = true := by decide +kernel
theorem gw_L_law_19 : (qL_law_19.flatMap (zrq zTab kL_law.1.cls)).all goodWord = true := by decide +kernel
theorem wd_L_law_19 : ∀ w ∈ qL_law_19.flatMap (zrq zTab kL_law.1.cls), w ∈ lw_tbl := zplaces [1204, 1202, 1203, 172, 1201, 1910, 1908, 1909, 176, 1907, 1217, 1215, 1216, 172, 1214] (by decide +kernel)
