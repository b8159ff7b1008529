theorem ok_X11_init : zokM zTab kX11_init := ⟨by decide +kernel, by decide +kernel, by decide +kernel⟩
theorem gw_X11_init : (kX11_init.2.2.2.2.2.flatMap (zrq zTab kX11_init.1.cls)).all goodWord = true := by decide +kernel
theorem wd_X11_init : ∀ w ∈ kX11_init.2.2.2.2.2.flatMap (zrq zTab kX11_init.1.cls), w ∈ lw_tbl := zplaces [198, 199, 200, 201, 202, 173, 205, 204, 173, 317, 201, 318, 249, 250, 174, 253, 252, 174, 319, 285, 286, 175, 289, 288, 175, 320, 313, 321, 315, 322, 323, 324] (by decide +kernel)
theorem ok_X11_feed : zokM zTab kX11_feed := ⟨by decide +kernel, by decide +kernel, by decide +kernel⟩
theorem gw_X11_feed : (kX11_feed.2.2.2.2.2.flatMap (zrq zTab kX11_feed.1.cls)).all goodWord = true := by decide +kernel
theorem wd_X11_feed : ∀ w ∈ kX11_feed.2.2.2.2.2.flatMap (zrq zTab kX11_feed.1.cls), w ∈ lw_tbl := zplaces [317, 317, 349, 348, 0, 173, 317, 349, 348, 0, 173, 317, 349, 348, 0, 173, 317, 349, 348, 0, 173, 317, 349, 348, 0, 173, 317] (by decide +kernel)
theorem ok_X11_end : zokM zTab kX11_end := ⟨by decide +kernel, by decide +kernel, by decide +kernel⟩
theorem gw_X11_end : (kX11_end.2.2.2.2.2.flatMap (zrq zTab kX11_end.1.cls)).all goodWord = true := by decide +kernel
theorem wd_X11_end : ∀ w ∈ kX11_end.2.2.2.2.2.flatMap (zrq zTab kX11_end.1.cls), w ∈ lw_tbl := zplaces [317, 317] (by decide +kernel)
theorem ok_X11_text : zokM zTab kX11_text := ⟨by decide +kernel, by decide +kernel, by decide +kernel⟩
theorem gw_X11_text : (kX11_text.2.2.2.2.2.flatMap (zrq zTab kX11_text.1.cls)).all goodWord = true := by decide +kernel
theorem wd_X11_text : ∀ w ∈ kX11_text.2.2.2.2.2.flatMap (zrq zTab kX11_text.1.cls), w ∈ lw_tbl := zplaces [317, 317, 317, 317, 317, 361, 360, 1, 172, 358, 317, 319, 317, 319, 317, 627, 628, 185, 629] (by decide +kernel)
theorem ok_X11_fault : zokM zTab kX11_fault := ⟨by decide +kernel, by decide +kernel, by decide +kernel⟩
theorem gw_X11_fault : (kX11_fault.2.2.2.2.2.flatMap (zrq zTab kX11_fault.1.cls)).all goodWord = true := by decide +kernel
theorem wd_X11_fault : ∀ w ∈ kX11_fault.2.2.2.2.2.flatMap (zrq zTab kX11_fault.1.cls), w ∈ lw_tbl := zplaces [317, 317] (by decide +kernel)
theorem ok_X11_book : zokM zTab kX11_book := ⟨by decide +kernel, by decide +kernel, by decide +kernel⟩
theorem gw_X11_book : (kX11_book.2.2.2.2.2.flatMap (zrq zTab kX11_book.1.cls)).all goodWord = true := by decide +kernel
theorem wd_X11_book : ∀ w ∈ kX11_book.2.2.2.2.2.flatMap (zrq zTab kX11_book.1.cls), w ∈ lw_tbl := zplaces [641, 640, 13, 172, 638, 645, 644, 14, 178] (by decide +kernel)
theorem ok_X11_word : zokM zTab kX11_word := ⟨by decide +kernel, by decide +kernel, by decide +kernel⟩
theorem gw_X11_word : (kX11_word.2.2.2.2.2.flatMap (zrq zTab kX11_word.1.cls)).all goodWord = true := by decide +kernel
theorem wd_X11_word : ∀ w ∈ kX11_word.2.2.2.2.2.flatMap (zrq zTab kX11_word.1.cls), w ∈ lw_tbl := zplaces [660, 659, 172, 658, 663, 662, 172, 661, 666, 665, 172, 664] (by decide +kernel)
theorem ok_X11_drift : zokM zTab kX11_drift := ⟨by decide +kernel, by decide +kernel, by decide +kernel⟩
theorem gw_X11_drift : (kX11_drift.2.2.2.2.2.flatMap (zrq zTab kX11_drift.1.cls)).all goodWord = true := by decide +kernel
theorem wd_X11_drift : ∀ w ∈ kX11_drift.2.2.2.2.2.flatMap (zrq zTab kX11_drift.1.cls), w ∈ lw_tbl := zplaces [660, 659, 172, 658, 660, 659, 172, 658, 679, 678, 172, 677] (by decide +kernel)
theorem ok_X11_read : zokM zTab kX11_read := ⟨by decide +kernel, by decide +kernel, by decide +kernel⟩
theorem gw_X11_read : (kX11_read.2.2.2.2.2.flatMap (zrq zTab kX11_read.1.cls)).all goodWord = true := by decide +kernel
theorem wd_X11_read : ∀ w ∈ kX11_read.2.2.2.2.2.flatMap (zrq zTab kX11_read.1.cls), w ∈ lw_tbl := zplaces [641, 640, 13, 172, 638, 660, 659, 172, 658, 653, 652, 16, 178, 691, 690, 17, 178] (by decide +kernel)
theorem ok_X11_deed : zokM zTab kX11_deed := ⟨by decide +kernel, by decide +kernel, by decide +kernel⟩
theorem gw_X11_deed : (kX11_deed.2.2.2.2.2.flatMap (zrq zTab kX11_deed.1.cls)).all goodWord = true := by decide +kernel
theorem wd_X11_deed : ∀ w ∈ kX11_deed.2.2.2.2.2.flatMap (zrq zTab kX11_deed.1.cls), w ∈ lw_tbl := zplaces [727, 726, 20, 172, 724, 731, 730, 21, 183] (by decide +kernel)
theorem ok_X11_stop : zokM zTab kX11_stop := ⟨by decide +kernel, by decide +kernel, by decide +kernel⟩
theorem gw_X11_stop : (kX11_stop.2.2.2.2.2.flatMap (zrq zTab kX11_stop.1.cls)).all goodWord = true := by decide +kernel
theorem wd_X11_stop : ∀ w ∈ kX11_stop.2.2.2.2.2.flatMap (zrq zTab kX11_stop.1.cls), w ∈ lw_tbl := zplaces [641, 640, 13, 172, 638, 727, 726, 20, 172, 724, 320, 739, 738, 22, 175, 320, 746, 745, 23, 175] (by decide +kernel)
theorem ok_X11_state : zokM zTab kX11_state := ⟨by decide +kernel, by decide +kernel, by decide +kernel⟩
theorem gw_X11_state : (kX11_state.2.2.2.2.2.flatMap (zrq zTab kX11_state.1.cls)).all goodWord = true := by decide +kernel
theorem wd_X11_state : ∀ w ∈ kX11_state.2.2.2.2.2.flatMap (zrq zTab kX11_state.1.cls), w ∈ lw_tbl := zplaces [641, 640, 13, 172, 638, 727, 726, 20, 172, 724, 320, 739, 738, 22, 175, 320, 746, 745, 23, 175, 320, 771, 770, 27, 175] (by decide +kernel)
theorem ok_X11_making : zokM zTab kX11_making := ⟨by decide +kernel, by decide +kernel, by decide +kernel⟩
theorem gw_X11_making : (kX11_making.2.2.2.2.2.flatMap (zrq zTab kX11_making.1.cls)).all goodWord = true := by decide +kernel
theorem wd_X11_making : ∀ w ∈ kX11_making.2.2.2.2.2.flatMap (zrq zTab kX11_making.1.cls), w ∈ lw_tbl := zplaces [792, 791, 31, 172, 789, 660, 659, 172, 658, 660, 659, 172, 658, 823, 822, 33, 172, 820, 851, 850, 34, 187, 855, 854, 35, 188, 869, 868, 38, 188] (by decide +kernel)
theorem ok_X11_ring : zokM zTab kX11_ring := ⟨by decide +kernel, by decide +kernel, by decide +kernel⟩
theorem gw_X11_ring : (kX11_ring.2.2.2.2.2.flatMap (zrq zTab kX11_ring.1.cls)).all goodWord = true := by decide +kernel
theorem wd_X11_ring : ∀ w ∈ kX11_ring.2.2.2.2.2.flatMap (zrq zTab kX11_ring.1.cls), w ∈ lw_tbl := zplaces [792, 791, 31, 172, 789, 660, 659, 172, 658, 823, 822, 33, 172, 820, 851, 850, 34, 187, 855, 854, 35, 188, 877, 876, 39, 188] (by decide +kernel)
theorem ok_X11_reach : zokM zTab kX11_reach := ⟨by decide +kernel, by decide +kernel, by decide +kernel⟩
theorem gw_X11_reach : (kX11_reach.2.2.2.2.2.flatMap (zrq zTab kX11_reach.1.cls)).all goodWord = true := by decide +kernel
theorem wd_X11_reach : ∀ w ∈ kX11_reach.2.2.2.2.2.flatMap (zrq zTab kX11_reach.1.cls), w ∈ lw_tbl := zplaces [792, 791, 31, 172, 789, 660, 659, 172, 658, 823, 822, 33, 172, 820, 851, 850, 34, 187, 855, 854, 35, 188, 885, 884, 40, 188] (by decide +kernel)
theorem ok_X11_sound : zokM zTab kX11_sound := ⟨by decide +kernel, by decide +kernel, by decide +kernel⟩
theorem gw_X11_sound : (kX11_sound.2.2.2.2.2.flatMap (zrq zTab kX11_sound.1.cls)).all goodWord = true := by decide +kernel
theorem wd_X11_sound : ∀ w ∈ kX11_sound.2.2.2.2.2.flatMap (zrq zTab kX11_sound.1.cls), w ∈ lw_tbl := zplaces [792, 791, 31, 172, 789, 893, 892, 41, 178, 897, 896, 42, 187] (by decide +kernel)
theorem ok_X11_like : zokM zTab kX11_like := ⟨by decide +kernel, by decide +kernel, by decide +kernel⟩
theorem gw_X11_like : (kX11_like.2.2.2.2.2.flatMap (zrq zTab kX11_like.1.cls)).all goodWord = true := by decide +kernel
theorem wd_X11_like : ∀ w ∈ kX11_like.2.2.2.2.2.flatMap (zrq zTab kX11_like.1.cls), w ∈ lw_tbl := zplaces [792, 791, 31, 172, 789, 653, 652, 16, 178, 653, 652, 16, 178, 911, 910, 44, 187] (by decide +kernel)
theorem ok_X11_orbits : zokM zTab kX11_orbits := ⟨by decide +kernel, by decide +kernel, by decide +kernel⟩
theorem gw_X11_orbits : (kX11_orbits.2.2.2.2.2.flatMap (zrq zTab kX11_orbits.1.cls)).all goodWord = true := by decide +kernel
theorem wd_X11_orbits : ∀ w ∈ kX11_orbits.2.2.2.2.2.flatMap (zrq zTab kX11_orbits.1.cls), w ∈ lw_tbl := zplaces [792, 791, 31, 172, 789, 653, 652, 16, 178, 919, 918, 45, 172, 916, 979, 978, 46, 189] (by decide +kernel)
theorem ok_X11_rota : zokM zTab kX11_rota := ⟨by decide +kernel, by decide +kernel, by decide +kernel⟩
theorem gw_X11_rota : (kX11_rota.2.2.2.2.2.flatMap (zrq zTab kX11_rota.1.cls)).all goodWord = true := by decide +kernel
theorem wd_X11_rota : ∀ w ∈ kX11_rota.2.2.2.2.2.flatMap (zrq zTab kX11_rota.1.cls), w ∈ lw_tbl := zplaces [792, 791, 31, 172, 789, 1001, 1000, 172, 999, 851, 850, 34, 187, 1005, 1004, 50, 172, 1002, 1047, 1046, 51, 190, 851, 850, 34, 187, 851, 850, 34, 187, 1051, 1050, 52, 190, 1073, 1072, 57, 190, 1078, 1077, 58, 190, 1084, 1083, 59, 190, 1096, 1095, 62, 190] (by decide +kernel)
