theorem zd_X12_findRows_0 : qX12_findRows_0.all (zde kX12_findRows) = true := by decide +kernel
theorem zr_X12_findRows_0 : qX12_findRows_0.all (zrow zTab kX12_findRows) = true := by decide +kernel
theorem gw_X12_findRows_0 : (qX12_findRows_0.flatMap (zrq zTab kX12_findRows.1.cls)).all goodWord = true := by decide +kernel
theorem wd_X12_findRows_0 : ∀ w ∈ qX12_findRows_0.flatMap (zrq zTab kX12_findRows.1.cls), w ∈ lw_tbl := zplaces [1385, 1365, 1890, 1889, 157, 176, 1887, 1366] (by decide +kernel)
theorem zd_X12_findRows_1 : qX12_findRows_1.all (zde kX12_findRows) = true := by decide +kernel
theorem zr_X12_findRows_1 : qX12_findRows_1.all (zrow zTab kX12_findRows) = true := by decide +kernel
theorem gw_X12_findRows_1 : (qX12_findRows_1.flatMap (zrq zTab kX12_findRows.1.cls)).all goodWord = true := by decide +kernel
theorem wd_X12_findRows_1 : ∀ w ∈ qX12_findRows_1.flatMap (zrq zTab kX12_findRows.1.cls), w ∈ lw_tbl := zplaces [1385, 1385, 1377, 1377, 1890, 1889, 157, 176, 1887] (by decide +kernel)
theorem zd_X12_findRows_2 : qX12_findRows_2.all (zde kX12_findRows) = true := by decide +kernel
theorem zr_X12_findRows_2 : qX12_findRows_2.all (zrow zTab kX12_findRows) = true := by decide +kernel
theorem gw_X12_findRows_2 : (qX12_findRows_2.flatMap (zrq zTab kX12_findRows.1.cls)).all goodWord = true := by decide +kernel
theorem wd_X12_findRows_2 : ∀ w ∈ qX12_findRows_2.flatMap (zrq zTab kX12_findRows.1.cls), w ∈ lw_tbl := zplaces [1366, 1386, 1377, 1386] (by decide +kernel)
theorem zd_X12_findRows_3 : qX12_findRows_3.all (zde kX12_findRows) = true := by decide +kernel
theorem zr_X12_findRows_3 : qX12_findRows_3.all (zrow zTab kX12_findRows) = true := by decide +kernel
theorem gw_X12_findRows_3 : (qX12_findRows_3.flatMap (zrq zTab kX12_findRows.1.cls)).all goodWord = true := by decide +kernel
theorem wd_X12_findRows_3 : ∀ w ∈ qX12_findRows_3.flatMap (zrq zTab kX12_findRows.1.cls), w ∈ lw_tbl := zplaces [1890, 1889, 157, 176, 1887] (by decide +kernel)
