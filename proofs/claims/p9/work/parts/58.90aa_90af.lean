theorem zd_L_law_0 : qL_law_0.all (zde kL_law) = true := zwdf_ok rfl _ 0 (by decide +kernel) (by decide +kernel)
theorem zr_L_law_0 : qL_law_0.all (zrow zTab kL_law) = true := by decide +kernel
theorem gw_L_law_0 : (qL_law_0.flatMap (zrq zTab kL_law.1.cls)).all goodWord = true := by decide +kernel
set_option maxRecDepth 1000000 in
theorem wd_L_law_0 : ∀ w ∈ qL_law_0.flatMap (zrq zTab kL_law.1.cls), w ∈ lw_tbl := zplaces [193, 194, 172, 197, 196, 172, 195, 1336, 1337, 176, 1340, 1339, 176, 1338, 345, 343, 344, 172, 342] rfl
theorem zd_L_law_1 : qL_law_1.all (zde kL_law) = true := zwdf_ok rfl _ 222 (by decide +kernel) (by decide +kernel)
theorem zr_L_law_1 : qL_law_1.all (zrow zTab kL_law) = true := by decide +kernel
theorem gw_L_law_1 : (qL_law_1.flatMap (zrq zTab kL_law.1.cls)).all goodWord = true := by decide +kernel
set_option maxRecDepth 1000000 in
theorem wd_L_law_1 : ∀ w ∈ qL_law_1.flatMap (zrq zTab kL_law.1.cls), w ∈ lw_tbl := zplaces [1504, 1502, 1503, 176, 1501, 353, 351, 352, 172, 350, 1512, 1510, 1511, 176, 1509] rfl
theorem zd_L_law_2 : qL_law_2.all (zde kL_law) = true := zwdf_ok rfl _ 282 (by decide +kernel) (by decide +kernel)
theorem zr_L_law_2 : qL_law_2.all (zrow zTab kL_law) = true := by decide +kernel
theorem gw_L_law_2 : (qL_law_2.flatMap (zrq zTab kL_law.1.cls)).all goodWord = true := by decide +kernel
set_option maxRecDepth 1000000 in
theorem wd_L_law_2 : ∀ w ∈ qL_law_2.flatMap (zrq zTab kL_law.1.cls), w ∈ lw_tbl := zplaces [357, 355, 356, 172, 354, 1519, 1517, 1518, 176, 1516, 633, 631, 632, 172, 630, 1622, 1620, 1621, 176, 1619] rfl
theorem zd_L_law_3 : qL_law_3.all (zde kL_law) = true := zwdf_ok rfl _ 344 (by decide +kernel) (by decide +kernel)
theorem zr_L_law_3 : qL_law_3.all (zrow zTab kL_law) = true := by decide +kernel
theorem gw_L_law_3 : (qL_law_3.flatMap (zrq zTab kL_law.1.cls)).all goodWord = true := by decide +kernel
set_option maxRecDepth 1000000 in
theorem wd_L_law_3 : ∀ w ∈ qL_law_3.flatMap (zrq zTab kL_law.1.cls), w ∈ lw_tbl := zplaces [637, 635, 636, 172, 634, 1626, 1624, 1625, 176, 1623, 657, 655, 656, 172, 654, 1638, 1636, 1637, 176, 1635] rfl
theorem zd_L_law_4 : qL_law_4.all (zde kL_law) = true := zwdf_ok rfl _ 406 (by decide +kernel) (by decide +kernel)
theorem zr_L_law_4 : qL_law_4.all (zrow zTab kL_law) = true := by decide +kernel
theorem gw_L_law_4 : (qL_law_4.flatMap (zrq zTab kL_law.1.cls)).all goodWord = true := by decide +kernel
set_option maxRecDepth 1000000 in
theorem wd_L_law_4 : ∀ w ∈ qL_law_4.flatMap (zrq zTab kL_law.1.cls), w ∈ lw_tbl := zplaces [676, 674, 675, 172, 673, 1651, 1649, 1650, 176, 1648, 686, 684, 685, 172, 683] rfl
theorem zd_L_law_5 : qL_law_5.all (zde kL_law) = true := zwdf_ok rfl _ 464 (by decide +kernel) (by decide +kernel)
theorem zr_L_law_5 : qL_law_5.all (zrow zTab kL_law) = true := by decide +kernel
theorem gw_L_law_5 : (qL_law_5.flatMap (zrq zTab kL_law.1.cls)).all goodWord = true := by decide +kernel
set_option maxRecDepth 1000000 in
theorem wd_L_law_5 : ∀ w ∈ qL_law_5.flatMap (zrq zTab kL_law.1.cls), w ∈ lw_tbl := zplaces [1659, 1657, 1658, 176, 1656, 723, 721, 722, 172, 720, 1695, 1693, 1694, 176, 1692] rfl
theorem zd_L_law_6 : qL_law_6.all (zde kL_law) = true := zwdf_ok rfl _ 524 (by decide +kernel) (by decide +kernel)
theorem zr_L_law_6 : qL_law_6.all (zrow zTab kL_law) = true := by decide +kernel
theorem gw_L_law_6 : (qL_law_6.flatMap (zrq zTab kL_law.1.cls)).all goodWord = true := by decide +kernel
set_option maxRecDepth 1000000 in
theorem wd_L_law_6 : ∀ w ∈ qL_law_6.flatMap (zrq zTab kL_law.1.cls), w ∈ lw_tbl := zplaces [735, 733, 734, 172, 732, 1711, 1709, 1710, 176, 1708, 767, 765, 766, 172, 764] rfl
theorem zd_L_law_7 : qL_law_7.all (zde kL_law) = true := zwdf_ok rfl _ 582 (by decide +kernel) (by decide +kernel)
theorem zr_L_law_7 : qL_law_7.all (zrow zTab kL_law) = true := by decide +kernel
theorem gw_L_law_7 : (qL_law_7.flatMap (zrq zTab kL_law.1.cls)).all goodWord = true := by decide +kernel
set_option maxRecDepth 1000000 in
theorem wd_L_law_7 : ∀ w ∈ qL_law_7.flatMap (zrq zTab kL_law.1.cls), w ∈ lw_tbl := zplaces [1746, 1744, 1745, 176, 1743, 788, 786, 787, 172, 785] rfl
theorem zd_L_law_8 : qL_law_8.all (zde kL_law) = true := zwdf_ok rfl _ 638 (by decide +kernel) (by decide +kernel)
theorem zr_L_law_8 : qL_law_8.all (zrow zTab kL_law) = true := by decide +kernel
theorem gw_L_law_8 : (qL_law_8.flatMap (zrq zTab kL_law.1.cls)).all goodWord = true := by decide +kernel
set_option maxRecDepth 1000000 in
theorem wd_L_law_8 : ∀ w ∈ qL_law_8.flatMap (zrq zTab kL_law.1.cls), w ∈ lw_tbl := zplaces [1754, 1752, 1753, 176, 1751, 873, 871, 872, 172, 870, 1771, 1769, 1770, 176, 1768] rfl
theorem zd_L_law_9 : qL_law_9.all (zde kL_law) = true := zwdf_ok rfl _ 698 (by decide +kernel) (by decide +kernel)
theorem zr_L_law_9 : qL_law_9.all (zrow zTab kL_law) = true := by decide +kernel
theorem gw_L_law_9 : (qL_law_9.flatMap (zrq zTab kL_law.1.cls)).all goodWord = true := by decide +kernel
set_option maxRecDepth 1000000 in
theorem wd_L_law_9 : ∀ w ∈ qL_law_9.flatMap (zrq zTab kL_law.1.cls), w ∈ lw_tbl := zplaces [881, 879, 880, 172, 878, 1779, 1777, 1778, 176, 1776, 889, 887, 888, 172, 886] rfl
theorem zd_L_law_10 : qL_law_10.all (zde kL_law) = true := zwdf_ok rfl _ 764 (by decide +kernel) (by decide +kernel)
theorem zr_L_law_10 : qL_law_10.all (zrow zTab kL_law) = true := by decide +kernel
theorem gw_L_law_10 : (qL_law_10.flatMap (zrq zTab kL_law.1.cls)).all goodWord = true := by decide +kernel
set_option maxRecDepth 1000000 in
theorem wd_L_law_10 : ∀ w ∈ qL_law_10.flatMap (zrq zTab kL_law.1.cls), w ∈ lw_tbl := zplaces [1783, 1781, 1782, 176, 1780, 907, 905, 906, 172, 904, 1791, 1789, 1790, 176, 1788] rfl
theorem zd_L_law_11 : qL_law_11.all (zde kL_law) = true := zwdf_ok rfl _ 822 (by decide +kernel) (by decide +kernel)
theorem zr_L_law_11 : qL_law_11.all (zrow zTab kL_law) = true := by decide +kernel
theorem gw_L_law_11 : (qL_law_11.flatMap (zrq zTab kL_law.1.cls)).all goodWord = true := by decide +kernel
set_option maxRecDepth 1000000 in
theorem wd_L_law_11 : ∀ w ∈ qL_law_11.flatMap (zrq zTab kL_law.1.cls), w ∈ lw_tbl := zplaces [915, 913, 914, 172, 912, 1795, 1793, 1794, 176, 1792] rfl
theorem zd_L_law_12 : qL_law_12.all (zde kL_law) = true := zwdf_ok rfl _ 880 (by decide +kernel) (by decide +kernel)
theorem zr_L_law_12 : qL_law_12.all (zrow zTab kL_law) = true := by decide +kernel
theorem gw_L_law_12 : (qL_law_12.flatMap (zrq zTab kL_law.1.cls)).all goodWord = true := by decide +kernel
set_option maxRecDepth 1000000 in
theorem wd_L_law_12 : ∀ w ∈ qL_law_12.flatMap (zrq zTab kL_law.1.cls), w ∈ lw_tbl := zplaces [998, 996, 997, 172, 995, 1826, 1824, 1825, 176, 1823, 1104, 1102, 1103, 172, 1101] rfl
theorem zd_L_law_13 : qL_law_13.all (zde kL_law) = true := zwdf_ok rfl _ 942 (by decide +kernel) (by decide +kernel)
theorem zr_L_law_13 : qL_law_13.all (zrow zTab kL_law) = true := by decide +kernel
theorem gw_L_law_13 : (qL_law_13.flatMap (zrq zTab kL_law.1.cls)).all goodWord = true := by decide +kernel
set_option maxRecDepth 1000000 in
theorem wd_L_law_13 : ∀ w ∈ qL_law_13.flatMap (zrq zTab kL_law.1.cls), w ∈ lw_tbl := zplaces [1846, 1844, 1845, 176, 1843, 1120, 1118, 1119, 172, 1117] rfl
theorem zd_L_law_14 : qL_law_14.all (zde kL_law) = true := zwdf_ok rfl _ 1006 (by decide +kernel) (by decide +kernel)
theorem zr_L_law_14 : qL_law_14.all (zrow zTab kL_law) = true := by decide +kernel
theorem gw_L_law_14 : (qL_law_14.flatMap (zrq zTab kL_law.1.cls)).all goodWord = true := by decide +kernel
set_option maxRecDepth 1000000 in
theorem wd_L_law_14 : ∀ w ∈ qL_law_14.flatMap (zrq zTab kL_law.1.cls), w ∈ lw_tbl := zplaces [1854, 1852, 1853, 176, 1851] rfl
theorem zd_L_law_15 : qL_law_15.all (zde kL_law) = true := zwdf_ok rfl _ 1064 (by decide +kernel) (by decide +kernel)
theorem zr_L_law_15 : qL_law_15.all (zrow zTab kL_law) = true := by decide +kernel
theorem gw_L_law_15 : (qL_law_15.flatMap (zrq zTab kL_law.1.cls)).all goodWord = true := by decide +kernel
set_option maxRecDepth 1000000 in
theorem wd_L_law_15 : ∀ w ∈ qL_law_15.flatMap (zrq zTab kL_law.1.cls), w ∈ lw_tbl := zplaces [1143, 1141, 1142, 172, 1140, 1858, 1856, 1857, 176, 1855] rfl
theorem zd_L_law_16 : qL_law_16.all (zde kL_law) = true := zwdf_ok rfl _ 1128 (by decide +kernel) (by decide +kernel)
theorem zr_L_law_16 : qL_law_16.all (zrow zTab kL_law) = true := by decide +kernel
theorem gw_L_law_16 : (qL_law_16.flatMap (zrq zTab kL_law.1.cls)).all goodWord = true := by decide +kernel
set_option maxRecDepth 1000000 in
theorem wd_L_law_16 : ∀ w ∈ qL_law_16.flatMap (zrq zTab kL_law.1.cls), w ∈ lw_tbl := zplaces [1159, 1157, 1158, 172, 1156, 1866, 1864, 1865, 176, 1863] rfl
theorem zd_L_law_17 : qL_law_17.all (zde kL_law) = true := zwdf_ok rfl _ 1186 (by decide +kernel) (by decide +kernel)
theorem zr_L_law_17 : qL_law_17.all (zrow zTab kL_law) = true := by decide +kernel
theorem gw_L_law_17 : (qL_law_17.flatMap (zrq zTab kL_law.1.cls)).all goodWord = true := by decide +kernel
set_option maxRecDepth 1000000 in
theorem wd_L_law_17 : ∀ w ∈ qL_law_17.flatMap (zrq zTab kL_law.1.cls), w ∈ lw_tbl := zplaces [1171, 1169, 1170, 172, 1168, 1882, 1880, 1881, 176, 1879] rfl
theorem zd_L_law_18 : qL_law_18.all (zde kL_law) = true := zwdf_ok rfl _ 1242 (by decide +kernel) (by decide +kernel)
theorem zr_L_law_18 : qL_law_18.all (zrow zTab kL_law) = true := by decide +kernel
theorem gw_L_law_18 : (qL_law_18.flatMap (zrq zTab kL_law.1.cls)).all goodWord = true := by decide +kernel
set_option maxRecDepth 1000000 in
theorem wd_L_law_18 : ∀ w ∈ qL_law_18.flatMap (zrq zTab kL_law.1.cls), w ∈ lw_tbl := zplaces [1184, 1182, 1183, 172, 1181, 1898, 1896, 1897, 176, 1895] rfl
theorem zd_L_law_19 : qL_law_19.all (zde kL_law) = true := zwdf_ok rfl _ 1298 (by decide +kernel) (by decide +kernel)
theorem zr_L_law_19 : qL_law_19.all (zrow zTab kL_law) = true := by decide +kernel
theorem gw_L_law_19 : (qL_law_19.flatMap (zrq zTab kL_law.1.cls)).all goodWord = true := by decide +kernel
set_option maxRecDepth 1000000 in
theorem wd_L_law_19 : ∀ w ∈ qL_law_19.flatMap (zrq zTab kL_law.1.cls), w ∈ lw_tbl := zplaces [1204, 1202, 1203, 172, 1201, 1910, 1908, 1909, 176, 1907, 1217, 1215, 1216, 172, 1214] rfl
theorem zd_L_law_20 : qL_law_20.all (zde kL_law) = true := zwdf_ok rfl _ 1360 (by decide +kernel) (by decide +kernel)
theorem zr_L_law_20 : qL_law_20.all (zrow zTab kL_law) = true := by decide +kernel
theorem gw_L_law_20 : (qL_law_20.flatMap (zrq zTab kL_law.1.cls)).all goodWord = true := by decide +kernel
set_option maxRecDepth 1000000 in
theorem wd_L_law_20 : ∀ w ∈ qL_law_20.flatMap (zrq zTab kL_law.1.cls), w ∈ lw_tbl := zplaces [1923, 1921, 1922, 176, 1920, 1233, 1231, 1232, 172, 1230] rfl
theorem zd_L_law_21 : qL_law_21.all (zde kL_law) = true := zwdf_ok rfl _ 1424 (by decide +kernel) (by decide +kernel)
theorem zr_L_law_21 : qL_law_21.all (zrow zTab kL_law) = true := by decide +kernel
theorem gw_L_law_21 : (qL_law_21.flatMap (zrq zTab kL_law.1.cls)).all goodWord = true := by decide +kernel
set_option maxRecDepth 1000000 in
theorem wd_L_law_21 : ∀ w ∈ qL_law_21.flatMap (zrq zTab kL_law.1.cls), w ∈ lw_tbl := zplaces [1931, 1929, 1930, 176, 1928, 1245, 1243, 1244, 172, 1242] rfl
theorem zd_L_law_22 : qL_law_22.all (zde kL_law) = true := zwdf_ok rfl _ 1488 (by decide +kernel) (by decide +kernel)
theorem zr_L_law_22 : qL_law_22.all (zrow zTab kL_law) = true := by decide +kernel
theorem gw_L_law_22 : (qL_law_22.flatMap (zrq zTab kL_law.1.cls)).all goodWord = true := by decide +kernel
set_option maxRecDepth 1000000 in
theorem wd_L_law_22 : ∀ w ∈ qL_law_22.flatMap (zrq zTab kL_law.1.cls), w ∈ lw_tbl := zplaces [1943, 1941, 1942, 176, 1940, 1253, 1251, 1252, 172, 1250] rfl
theorem zd_L_law_23 : qL_law_23.all (zde kL_law) = true := zwdf_ok rfl _ 1552 (by decide +kernel) (by decide +kernel)
theorem zr_L_law_23 : qL_law_23.all (zrow zTab kL_law) = true := by decide +kernel
theorem gw_L_law_23 : (qL_law_23.flatMap (zrq zTab kL_law.1.cls)).all goodWord = true := by decide +kernel
set_option maxRecDepth 1000000 in
theorem wd_L_law_23 : ∀ w ∈ qL_law_23.flatMap (zrq zTab kL_law.1.cls), w ∈ lw_tbl := zplaces [1947, 1945, 1946, 176, 1944, 1262, 1260, 1261, 172, 1259] rfl
