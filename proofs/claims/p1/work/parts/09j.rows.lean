theorem ok_X11_mean : zokM zTab kX11_mean := ⟨by decide +kernel, by decide +kernel, by decide +kernel⟩
theorem gw_X11_mean : (kX11_mean.2.2.2.2.2.flatMap (zrq zTab kX11_mean.1.cls)).all goodWord = true := by decide +kernel
theorem wd_X11_mean : ∀ w ∈ kX11_mean.2.2.2.2.2.flatMap (zrq zTab kX11_mean.1.cls), w ∈ lw_tbl := zplaces [792, 791, 31, 172, 789, 1001, 1000, 172, 999, 1105, 1105] (by decide +kernel)
theorem ok_X11_elders : zokM zTab kX11_elders := ⟨by decide +kernel, by decide +kernel, by decide +kernel⟩
theorem gw_X11_elders : (kX11_elders.2.2.2.2.2.flatMap (zrq zTab kX11_elders.1.cls)).all goodWord = true := by decide +kernel
theorem wd_X11_elders : ∀ w ∈ kX11_elders.2.2.2.2.2.flatMap (zrq zTab kX11_elders.1.cls), w ∈ lw_tbl := zplaces [792, 791, 31, 172, 789, 660, 659, 172, 658, 1001, 1000, 172, 999] (by decide +kernel)
theorem ok_X11_play : zokM zTab kX11_play := ⟨by decide +kernel, by decide +kernel, by decide +kernel⟩
theorem gw_X11_play : (kX11_play.2.2.2.2.2.flatMap (zrq zTab kX11_play.1.cls)).all goodWord = true := by decide +kernel
theorem wd_X11_play : ∀ w ∈ kX11_play.2.2.2.2.2.flatMap (zrq zTab kX11_play.1.cls), w ∈ lw_tbl := zplaces [792, 791, 31, 172, 789, 1001, 1000, 172, 999, 560, 559, 172, 1144] (by decide +kernel)
theorem ok_X11_fact : zokM zTab kX11_fact := ⟨by decide +kernel, by decide +kernel, by decide +kernel⟩
theorem gw_X11_fact : (kX11_fact.2.2.2.2.2.flatMap (zrq zTab kX11_fact.1.cls)).all goodWord = true := by decide +kernel
theorem wd_X11_fact : ∀ w ∈ kX11_fact.2.2.2.2.2.flatMap (zrq zTab kX11_fact.1.cls), w ∈ lw_tbl := zplaces [1163, 1162, 72, 172, 1160] (by decide +kernel)
theorem ok_X11_fits : zokM zTab kX11_fits := ⟨by decide +kernel, by decide +kernel, by decide +kernel⟩
theorem gw_X11_fits : (kX11_fits.2.2.2.2.2.flatMap (zrq zTab kX11_fits.1.cls)).all goodWord = true := by decide +kernel
theorem wd_X11_fits : ∀ w ∈ kX11_fits.2.2.2.2.2.flatMap (zrq zTab kX11_fits.1.cls), w ∈ lw_tbl := zplaces [792, 791, 31, 172, 789, 1163, 1162, 72, 172, 1160, 1001, 1000, 172, 999, 660, 659, 172, 658] (by decide +kernel)
theorem ok_X11_sure : zokM zTab kX11_sure := ⟨by decide +kernel, by decide +kernel, by decide +kernel⟩
theorem gw_X11_sure : (kX11_sure.2.2.2.2.2.flatMap (zrq zTab kX11_sure.1.cls)).all goodWord = true := by decide +kernel
theorem wd_X11_sure : ∀ w ∈ kX11_sure.2.2.2.2.2.flatMap (zrq zTab kX11_sure.1.cls), w ∈ lw_tbl := zplaces [792, 791, 31, 172, 789, 1163, 1162, 72, 172, 1160, 1001, 1000, 172, 999] (by decide +kernel)
theorem ok_X11_drawn : zokM zTab kX11_drawn := ⟨by decide +kernel, by decide +kernel, by decide +kernel⟩
theorem gw_X11_drawn : (kX11_drawn.2.2.2.2.2.flatMap (zrq zTab kX11_drawn.1.cls)).all goodWord = true := by decide +kernel
theorem wd_X11_drawn : ∀ w ∈ kX11_drawn.2.2.2.2.2.flatMap (zrq zTab kX11_drawn.1.cls), w ∈ lw_tbl := zplaces [641, 640, 13, 172, 638, 320, 320, 320] (by decide +kernel)
theorem ok_X11_kinship : zokM zTab kX11_kinship := ⟨by decide +kernel, by decide +kernel, by decide +kernel⟩
theorem gw_X11_kinship : (kX11_kinship.2.2.2.2.2.flatMap (zrq zTab kX11_kinship.1.cls)).all goodWord = true := by decide +kernel
theorem wd_X11_kinship : ∀ w ∈ kX11_kinship.2.2.2.2.2.flatMap (zrq zTab kX11_kinship.1.cls), w ∈ lw_tbl := zplaces [641, 640, 13, 172, 638, 560, 559, 172, 1144] (by decide +kernel)
theorem ok_X11_shared : zokM zTab kX11_shared := ⟨by decide +kernel, by decide +kernel, by decide +kernel⟩
theorem gw_X11_shared : (kX11_shared.2.2.2.2.2.flatMap (zrq zTab kX11_shared.1.cls)).all goodWord = true := by decide +kernel
theorem wd_X11_shared : ∀ w ∈ kX11_shared.2.2.2.2.2.flatMap (zrq zTab kX11_shared.1.cls), w ∈ lw_tbl := zplaces [660, 659, 172, 658, 660, 659, 172, 658, 1236, 1235, 172, 1234, 663, 662, 172, 661] (by decide +kernel)
theorem ok_X11_joined : zokM zTab kX11_joined := ⟨by decide +kernel, by decide +kernel, by decide +kernel⟩
theorem gw_X11_joined : (kX11_joined.2.2.2.2.2.flatMap (zrq zTab kX11_joined.1.cls)).all goodWord = true := by decide +kernel
theorem wd_X11_joined : ∀ w ∈ kX11_joined.2.2.2.2.2.flatMap (zrq zTab kX11_joined.1.cls), w ∈ lw_tbl := zplaces [792, 791, 31, 172, 789, 660, 659, 172, 658, 660, 659, 172, 658] (by decide +kernel)
theorem ok_X11_nearest : zokM zTab kX11_nearest := ⟨by decide +kernel, by decide +kernel, by decide +kernel⟩
theorem gw_X11_nearest : (kX11_nearest.2.2.2.2.2.flatMap (zrq zTab kX11_nearest.1.cls)).all goodWord = true := by decide +kernel
theorem wd_X11_nearest : ∀ w ∈ kX11_nearest.2.2.2.2.2.flatMap (zrq zTab kX11_nearest.1.cls), w ∈ lw_tbl := zplaces [792, 791, 31, 172, 789, 660, 659, 172, 658, 660, 659, 172, 658, 679, 678, 172, 677] (by decide +kernel)
theorem ok_X11_settles : zokM zTab kX11_settles := ⟨by decide +kernel, by decide +kernel, by decide +kernel⟩
theorem gw_X11_settles : (kX11_settles.2.2.2.2.2.flatMap (zrq zTab kX11_settles.1.cls)).all goodWord = true := by decide +kernel
theorem wd_X11_settles : ∀ w ∈ kX11_settles.2.2.2.2.2.flatMap (zrq zTab kX11_settles.1.cls), w ∈ lw_tbl := zplaces [792, 791, 31, 172, 789, 660, 659, 172, 658] (by decide +kernel)
theorem ok_X11_unmade : zokM zTab kX11_unmade := ⟨by decide +kernel, by decide +kernel, by decide +kernel⟩
theorem gw_X11_unmade : (kX11_unmade.2.2.2.2.2.flatMap (zrq zTab kX11_unmade.1.cls)).all goodWord = true := by decide +kernel
theorem wd_X11_unmade : ∀ w ∈ kX11_unmade.2.2.2.2.2.flatMap (zrq zTab kX11_unmade.1.cls), w ∈ lw_tbl := zplaces [792, 791, 31, 172, 789] (by decide +kernel)
theorem ok_X11_silenced : zokM zTab kX11_silenced := ⟨by decide +kernel, by decide +kernel, by decide +kernel⟩
theorem gw_X11_silenced : (kX11_silenced.2.2.2.2.2.flatMap (zrq zTab kX11_silenced.1.cls)).all goodWord = true := by decide +kernel
theorem wd_X11_silenced : ∀ w ∈ kX11_silenced.2.2.2.2.2.flatMap (zrq zTab kX11_silenced.1.cls), w ∈ lw_tbl := zplaces [792, 791, 31, 172, 789, 660, 659, 172, 658, 660, 659, 172, 658] (by decide +kernel)
theorem ok_X11_circles : zokM zTab kX11_circles := ⟨by decide +kernel, by decide +kernel, by decide +kernel⟩
theorem gw_X11_circles : (kX11_circles.2.2.2.2.2.flatMap (zrq zTab kX11_circles.1.cls)).all goodWord = true := by decide +kernel
theorem wd_X11_circles : ∀ w ∈ kX11_circles.2.2.2.2.2.flatMap (zrq zTab kX11_circles.1.cls), w ∈ lw_tbl := zplaces [792, 791, 31, 172, 789, 660, 659, 172, 658] (by decide +kernel)
