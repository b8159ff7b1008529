/-! THE CLAIM OUT OF ONE WALK OF THE LAW'S BODY. Your part is whole_start (and what it stands on); all else here is the same for every law, but numbers. -/
def R_law : String := "ReadAloudLaw"
def lw_P (b : Addr) (xs : List Int32) (args : Array Value) (s : State) : Prop := args = #[.ref b] ∧ s.IntsAt b xs ∧ xs.length ≤ 7 ∧ (Jvm.Cond.and given_1 narrow_1).before args s = true
def lw_Q (_ : Array Value) (s : State) (o : Outcome) (t : State) : Prop := o = .returned (some (.int 1)) ∧ Framed s o t [] 600000 7302250
def lw_Z (below : List Frame) (a : Array Value) (s : State) : State → Prop := fun t => ∃ o, t.status = .running ∧ Ended t below o ∧ lw_Q a s o t
/-- the law's own end, with 1 on the stack, nothing written that was there before, its room as the claim has it -/
theorem lw_ret {p : Program} {l : Launch} {e : Env} {s : State} {m : MethodId} {below : List Frame} {meth : Method} {c : Code} {b : Nat} (hx : p.tables.exec = Jvm.exec) (hb : c.code = code) (hr : meth.sig.returnType = ret) (hlocks : meth.locks = false) {pc : Nat} {H : Heap} {ls : Array Slot} (hdg : decode code pc = .ok (.ireturn, 1)) : W p l e room_1 s m #[Value.ref b] below meth c H [] 600000 7302250 (lw_Z below #[Value.ref b] s) (F0 m pc ls [.int 1]) := by
  intro T hT X
  obtain ⟨fs, hret, hrun, hended, hW, hframe⟩ := X.leave (v := some (.int 1)) (hlocks := hlocks) (fun h => by rw [hr] at h; cases h)
  have hmeth' : T.vm.method? m = some meth := X.method'
  refine ⟨T.setFrames fs, ?_, .returned (some (.int 1)), hrun, hended, rfl, ⟨_, rfl⟩, hW, hframe⟩
  jvm_step X.here [X.here.top, hx, hb, hdg, hmeth', hr, ret, narrow_b1]
  (try refine ⟨rfl, ?_⟩); (try refine ⟨rfl, ?_⟩)
  first | (intro acts; rw [hret _ acts rfl rfl rfl]) | rw [hret _ _ rfl rfl rfl]
  exact Steps.refl _
/-- what holds at the law's entry: the machine, the code, the tables' words (any of lw_tbl by 'hts w (by decide +kernel)'), the script of L ints xs at the cell b, what the Statement gives of the start (any of its parts by flat_of_before) -/
def lw_At (p : Program) (s : State) (m : MethodId) (meth : Method) (c : Code) (b L : Nat) (xs : Nat → Int32) : Prop :=
  p.tables.exec = Jvm.exec ∧ c.code = code ∧ meth.sig.returnType = ret ∧ c.maxLocals = 4 ∧ s.vm.findClass R_law = some m.cls ∧ (∀ w ∈ lw_tbl, w.before #[Value.ref b] s = true) ∧ va_X b L xs s s.heap ∧ b < s.heap.size ∧ meth.locks = false ∧ (Jvm.Cond.and given_1 narrow_1).before #[Value.ref b] s = true

theorem w_nf : ∀ w ∈ zNF.map (fun t => Cond.fieldLinkNest t.1 t.2.1 t.2.2.1 t.2.2.2.1 t.2.2.2.2 "ReadAloud"), w ∈ lw_tbl := zplaces [214, 216, 218, 220, 222, 224, 226, 228, 261, 262, 263, 265, 267, 372, 373, 375, 376, 377, 378, 379, 380, 591, 592, 594, 596, 598, 615, 617, 619, 799, 800, 801, 802, 831, 834, 927, 929, 931, 944] (by decide +kernel)
theorem w_nm : ∀ w ∈ zNM.map (fun t => Cond.methodLinkNest t.1 t.2.1 t.2.2 "ReadAloud"), w ∈ lw_tbl := zplaces [203, 251, 287, 346, 364, 367, 401, 432, 495, 500, 512, 523, 527, 546, 555, 558, 564, 565, 569, 586, 589, 610, 613, 642, 687, 688, 692, 697, 716, 728, 736, 743, 755, 756, 759, 768, 784, 794, 815, 825, 848, 852, 860, 861, 865, 866, 874, 882, 890, 894, 902, 908, 922, 976, 981, 1008, 1044, 1048, 1064, 1065, 1070, 1074, 1075, 1081, 1093, 1106, 1110, 1121, 1132, 1136, 1145, 1149, 1152, 1164, 1172, 1177, 1185, 1189, 1193, 1205, 1218, 1222, 1246, 1254, 1258, 1263, 1267, 1268, 1273, 1291, 1325] (by decide +kernel)
theorem w_ao : ∀ w ∈ zAO.map (fun C => Cond.arrayOver (.object C)), w ∈ lw_tbl := zplaces [208, 210, 212, 248, 314, 316] (by decide +kernel)
theorem w_pr : ∀ w ∈ [Cond.arrayClass .byte, .arrayClass .int, .arrayClass .boolean], w ∈ lw_tbl := zplaces [246, 247, 1500] (by decide +kernel)
theorem w_prim {s : State} {args : Array Value} {ty : FieldType} (hp : refKind ty = false) (h : (Cond.arrayClass ty).before args s = true) : ∃ cA : ClassId, ArrOfT s cA ty ∧ s.vm.findClass ("[" ++ ty.toString) = some cA := by
  obtain ⟨c, k, comp, h1, h2, h3⟩ := Cond.arrayClass_spec h
  exact ⟨c, fun n z => ⟨fun k h => (by cases h), k, h2, comp, h3⟩, h1⟩
theorem w_obj {s : State} {C : String} (h : va_AO C s) : ∃ cA : ClassId, ArrOfT s cA (.object C) ∧ va_RA s cA (.object C) := by
  obtain ⟨comp, c, k, h1, h2, h3, h4, h5⟩ := Cond.arrayOver_spec h
  exact ⟨c, fun n z => ⟨fun k h => (by cases h), k, h3, comp, h4⟩, k, comp, h3, h4, h1, h5⟩
theorem w_arr {s : State} {args : Array Value} (hts : ∀ w ∈ lw_tbl, w.before args s = true) (hao : ∀ C ∈ zAO, va_AO C s) : ∃ dA : Nat → Nat, ∀ (k : Nat) (q : ClassId × FieldType), (ztys dA)[k]? = some q → ArrOfT s q.1 q.2 ∧ va_RA s q.1 q.2 := by
  obtain ⟨a0, p0, q0⟩ := w_prim (ty := .byte) rfl (hts _ (w_pr _ List.mem_cons_self))
  obtain ⟨a1, p1, q1⟩ := w_prim (ty := .int) rfl (hts _ (w_pr _ (List.mem_cons_of_mem _ List.mem_cons_self)))
  obtain ⟨a2, p2, q2⟩ := w_prim (ty := .boolean) rfl (hts _ (w_pr _ (List.mem_cons_of_mem _ (List.mem_cons_of_mem _ List.mem_cons_self))))
  obtain ⟨a3, p3, q3⟩ := w_obj (hao "ReadAloud$Book" (by decide))
  obtain ⟨a4, p4, q4⟩ := w_obj (hao "ReadAloud$Year" (by decide))
  obtain ⟨a5, p5, q5⟩ := w_obj (hao "ReadAloud$Sight" (by decide))
  obtain ⟨a6, p6, q6⟩ := w_obj (hao "ReadAloud$Told" (by decide))
  obtain ⟨a7, p7, q7⟩ := w_obj (hao "ReadAloud$Readings" (by decide))
  obtain ⟨a8, p8, q8⟩ := w_obj (hao "ReadAloud$Walk" (by decide))
  refine ⟨fun k => match k with
    | 0 => a0
    | 1 => a1
    | 2 => a2
    | 3 => a3
    | 4 => a4
    | 5 => a5
    | 6 => a6
    | 7 => a7
    | _ => a8, ?_⟩
  intro k q hq
  match k, hq with
  | 0, hq => cases hq; exact ⟨p0, q0⟩
  | 1, hq => cases hq; exact ⟨p1, q1⟩
  | 2, hq => cases hq; exact ⟨p2, q2⟩
  | 3, hq => cases hq; exact ⟨p3, q3⟩
  | 4, hq => cases hq; exact ⟨p4, q4⟩
  | 5, hq => cases hq; exact ⟨p5, q5⟩
  | 6, hq => cases hq; exact ⟨p6, q6⟩
  | 7, hq => cases hq; exact ⟨p7, q7⟩
  | 8, hq => cases hq; exact ⟨p8, q8⟩
  | n + 9, hq => simp [ztys] at hq
theorem w_cls {s : State} {args : Array Value} (hts : ∀ w ∈ lw_tbl, w.before args s = true) : ∃ D : va_G, ∀ (k : Nat) (q : vw_C), zcls[k]? = some q → u_Kn s q.1 q.2.1 q.2.2 (D.1 k) (D.2 k) := by
  have h : ∀ k : Nat, ∃ ci : ClassId × (Nat → Nat), ∀ q : vw_C, zcls[k]? = some q → u_Kn s q.1 q.2.1 q.2.2 ci.1 ci.2 := by
    intro k
    have h2 : ∀ q : vw_C, zcls[k]? = some q → ∃ (cC : ClassId) (iS : Nat → Nat), u_Kn s q.1 q.2.1 q.2.2 cC iS := by
      intro q hq
      match k, hq with
      | 0, hq => cases hq; exact u_known (n := 7) hts (fun w hw => zuw_wd w (zuw_at (a := 0) (by decide) w hw)) (hts (.instantiable "ReadAloud$Book" 7) (List.mem_of_getElem? (i := 363) (by decide +kernel)))
      | 1, hq => cases hq; exact u_known (n := 7) hts (fun w hw => zuw_wd w (zuw_at (a := 1) (by decide) w hw)) (hts (.instantiable "ReadAloud$Course" 7) (List.mem_of_getElem? (i := 286) (by decide +kernel)))
      | 2, hq => cases hq; exact u_known (n := 10) hts (fun w hw => zuw_wd w (zuw_at (a := 2) (by decide) w hw)) (hts (.instantiable "ReadAloud$Levels" 10) (List.mem_of_getElem? (i := 1007) (by decide +kernel)))
      | 3, hq => cases hq; exact u_known (n := 4) hts (fun w hw => zuw_wd w (zuw_at (a := 3) (by decide) w hw)) (hts (.instantiable "ReadAloud$Readings" 4) (List.mem_of_getElem? (i := 793) (by decide +kernel)))
      | 4, hq => cases hq; exact u_known (n := 15) hts (fun w hw => zuw_wd w (zuw_at (a := 4) (by decide) w hw)) (hts (.instantiable "ReadAloud$Rings" 15) (List.mem_of_getElem? (i := 921) (by decide +kernel)))
      | 5, hq => cases hq; exact u_known (n := 3) hts (fun w hw => zuw_wd w (zuw_at (a := 5) (by decide) w hw)) (hts (.instantiable "ReadAloud$Sight" 3) (List.mem_of_getElem? (i := 609) (by decide +kernel)))
      | 6, hq => cases hq; exact u_known (n := 8) hts (fun w hw => zuw_wd w (zuw_at (a := 6) (by decide) w hw)) (hts (.instantiable "ReadAloud$Teller" 8) (List.mem_of_getElem? (i := 250) (by decide +kernel)))
      | 7, hq => cases hq; exact u_known (n := 8) hts (fun w hw => zuw_wd w (zuw_at (a := 7) (by decide) w hw)) (hts (.instantiable "ReadAloud$Told" 8) (List.mem_of_getElem? (i := 202) (by decide +kernel)))
      | 8, hq => cases hq; exact u_known (n := 5) hts (fun w hw => zuw_wd w (zuw_at (a := 8) (by decide) w hw)) (hts (.instantiable "ReadAloud$Walk" 5) (List.mem_of_getElem? (i := 824) (by decide +kernel)))
      | 9, hq => cases hq; exact u_known (n := 4) hts (fun w hw => zuw_wd w (zuw_at (a := 9) (by decide) w hw)) (hts (.instantiable "ReadAloud$Year" 4) (List.mem_of_getElem? (i := 585) (by decide +kernel)))
      | 10, hq => cases hq; exact u_known (n := 8) hts (fun w hw => zuw_wd w (zuw_at (a := 10) (by decide) w hw)) (hts (.instantiable "ReadAloud" 8) (List.mem_of_getElem? (i := 194) (by decide +kernel)))
      | 11, hq => cases hq; exact u_known (n := 52) hts (fun w hw => zuw_wd w (zuw_at (a := 11) (by decide) w hw)) (hts (.instantiable "ReadAloudModel" 52) (List.mem_of_getElem? (i := 1337) (by decide +kernel)))
      | n + 12, hq => simp [zcls] at hq
    cases hz : zcls[k]? with
    | none => exact ⟨(0, fun _ => 0), fun q hq => by cases hq⟩
    | some q =>
      obtain ⟨cC, iS, hu⟩ := h2 q hz
      exact ⟨(cC, iS), fun q' hq' => by cases hq'; exact hu⟩
  obtain ⟨f, hf⟩ := Classical.skolem.mp h
  exact ⟨(fun k => (f k).1, fun k => (f k).2), fun k q hq => hf k q hq⟩
set_option maxHeartbeats 4000000 in
theorem whole_start {p : Program} {e : Env} {s : State} {m : MethodId} {below : List Frame} {meth : Method} {c : Code} (l : Launch) (hflags : l.flags = flags0) {b L : Nat} {xs : Nat → Int32} (hL : L ≤ 7) (C0 : lw_At p s m meth c b L xs) : W p l e room_1 s m #[Value.ref b] below meth c s.heap [] 0 0 (lw_Z below #[Value.ref b] s) (entryFrame m ([Value.ref b] : List Value).toArray 4) := by
  obtain ⟨hx, hb, hr, hml, hown, hts, hX, hbl, hlocks, hgv⟩ := C0
  have hN : zN s := by
    refine ⟨fun t ht => va_Nw.of rfl (hts _ (w_nf _ (List.mem_map.mpr ⟨t, ht, rfl⟩))), fun t ht => va_Nw.of rfl (hts _ (w_nm _ (List.mem_map.mpr ⟨t, ht, rfl⟩))), fun C hC => va_AO.of (hts _ (w_ao _ (List.mem_map.mpr ⟨C, hC, rfl⟩)))⟩
  obtain ⟨D, hDk⟩ := w_cls hts
  obtain ⟨dA, hAk⟩ := w_arr hts hN.2.2
  have hK : va_K D zcls (ztys dA) s := ⟨hDk, hAk⟩
  have hwp : zwp (zCl zTab 12) 12 kL_law (some (L, xs)) zTab 600000 7302250 zLQ (0, zent 4 [.retAddr 0], [], [], 0, 0) := by
    intro R hR
    by_cases h7 : L = 7
    · subst h7
      exact l_head7 (zR hR)
    · exact l_headS (by omega) (zR hR)
  have hl := zentry (b := s.heap.size) (sc := b) (As := [.retAddr 0]) (lv_entry ([Value.ref b]) (n := 4) (Nat.le_of_ble_eq_true rfl))
  rw [lg_entry_eq]
  have key := hwp (zOK p l e room_1 s m #[Value.ref b] below meth c (lw_Z below #[Value.ref b] s) s.heap.size b D dA 4 0) ?_
  · exact key s.heap [] _ (fun k q h => by simp [zco] at h) va_S.rf hl rfl
  · rintro y ⟨P, hPR, hstep⟩
    have hM : kL_law ∈ zTab := List.mem_cons_self
    refine z_step (R := room_1) (M := kL_law) (tab := zTab) (d := 12) (mc := 600000) (ms := 7302250) (z0 := 0) hb hx hml hown (fun w hw => hts w (zt_wd w hw)) zt_gw hM zTab_ok hK hN (Nat.add_zero _).symm (fun h => absurd h (by decide)) ⟨Nat.le_of_ble_eq_true rfl, Nat.le_of_ble_eq_true rfl, Nat.le_refl _, Nat.le_refl _⟩ (z_snd zt_gw zTab_ok 12) (fun q h => ?_) ?_ hPR hstep
    · cases h
      exact ⟨hbl, hbl, hX⟩
    · intro i pc v w' H locs ls k n hd hzr hq hfin hP1 hS1 hlen1
      have hv : v = some (.int 1) := hq
      subst hv
      cases i with
      | ireturn =>
        refine va_forget (fun q hq => hS1.2.2 q hq) ?_
        refine W.widen hfin.1 hfin.2 ?_
        exact lw_ret hx hb hr hlocks hd
      | lreturn => obtain ⟨x, hx2, -⟩ := hzr; cases hx2
      | areturn => rcases hzr with ⟨hx2, -⟩ | ⟨q, hx2, -⟩ <;> cases hx2
      | return_ => cases hzr.1
      | _ => exact hzr.elim
-- ===== YOUR PART ENDS =====
set_option maxHeartbeats 4000000 in
theorem lw_walk (l : Launch) (hflags : l.flags = flags0) (b : Addr) (xs : List Int32) : MetFree l x (headSpec (Jvm.Cond.code x code maxLocals ret :: tables_1) room_1) (lw_P b xs) (fun _ _ _ _ _ => True) lw_Q := by
  refine MetFree.of_bodyS (code := code) (maxLocals := maxLocals) (ret := ret) (by decide) ?_ ?_
  · intro args s m h hn
    obtain ⟨meth, c, h1, h2, h3, h4, h5, h6, -, -⟩ := Cond.code_spec hn (atoms_spec (ws := Jvm.Cond.code x code maxLocals ret :: tables_1) h _ List.mem_cons_self)
    exact ⟨meth, c, h1, h2, h3, h4, h5, h6⟩
  · intro p e s m args below meth c s₁ B hml0 hP _
    obtain ⟨rfl, hx, hbd, hgv⟩ := hP
    obtain ⟨scr, harrAt, hlist, hof, hsmall⟩ := hx
    obtain ⟨hcb, hkn, -, -⟩ := State.arrayAt?_spec harrAt
    have hown : s.vm.findClass R_law = some m.cls := findClass_of_methodNamed B.named
    have hts0 : ∀ c ∈ (Jvm.Cond.code x code maxLocals ret :: tables_1), c.before #[Value.ref b] s = true := atoms_spec (ws := Jvm.Cond.code x code maxLocals ret :: tables_1) B.pre
    have hts : ∀ w ∈ lw_tbl, w.before #[Value.ref b] s = true := k2_hts_sels lw_privs (fun w hw => hts0 w (List.mem_cons_of_mem _ hw)) lw_privs_ok
    have hml : c.maxLocals = 4 := B.maxLocals_eq (hts0 _ List.mem_cons_self)
    have X₀ : Stand p l e room_1 s m #[Value.ref b] below meth c s₁ [] 0 0 := Stand.of_body B
    have hh0 : s₁.heap = s.heap := by rw [B.state]; rfl
    have hsz : scr.slots.size = xs.length := by rw [← Array.length_toList, hlist, List.length_map]
    have hval : ∀ j : Nat, j < xs.length → scr.slots[j]? = some (.int (xs.getD j 0)) := fun j hj => by
      rw [← Array.getElem?_toList, hlist]
      simp [hj]
    have hbl : b < s.heap.size := (Array.getElem?_eq_some_iff.mp hcb).1
    have hX : va_X b xs.length (fun j => xs.getD j 0) s s.heap := ⟨scr, hcb, hof, hkn, hsz, hval⟩
    have K : W p l e room_1 s m #[Value.ref b] below meth c s₁.heap [] 0 0 (lw_Z below #[Value.ref b] s) (entryFrame m ([Value.ref b] : List Value).toArray 4) := by
      rw [hh0]
      exact whole_start l hflags hbd ⟨B.exec, B.bytes, B.returns, hml, hown, hts, hX, hbl, B.notSynchronized, hgv⟩
    obtain ⟨t, a1, o, b1, b2, b3⟩ := K s₁ rfl X₀
    exact ⟨t, o, a1, b1, b2, b3⟩
theorem lw_pre_spec {args : Array Value} {s : State} (h : (Jvm.Cond.and given_1 narrow_1).before args s = true) (hr : rest_1_c.before args s = true) : ∃ (b : Addr) (xs : List Int32), lw_P b xs args s := by
  have hs := flat_of_before _ h
  have hq := flat_of_before _ hr
  have hc : (Cond.count 1).before args s = true := hs _ (by decide +kernel)
  have harr : (Cond.arrayOf (.arg 0) .int).before args s = true := hs _ (by decide +kernel)
  have hle : (Cond.le (.length (.arg 0)) (.int 7)).before args s = true := hs _ (by decide +kernel)
  have hlen : (Cond.isInt (.length (.arg 0))).before args s = true := hq _ (by decide +kernel)
  have hall : (Cond.all (.arg 0) (.isInt (.elem (.arg 0) (.index 0)))).before args s = true := hq _ (by decide +kernel)
  obtain ⟨b, xs, hb, hx⟩ := State.ints_of_pre rfl harr hlen hall
  have hsm : xs.length < 2 ^ 31 := hx.choose_spec.2.2.2
  have hev : (Term.length (.arg 0)).eval args s none [] s = some (.int xs.length.toInt32) := hx.length_eval hb
  have hv := Cond.le_ints hev (show (Term.int 7).eval args s none [] s = some (.int 7) from rfl)
  have hd : xs.length.toInt32 ≤ 7 := by
    simpa [Cond.before, Cond.holds, hv] using hle
  have hN : xs.length ≤ 7 := (Int32.ofNat_le_ofNat hsm (by decide)).mp (show Int32.ofNat xs.length ≤ Int32.ofNat 7 from hd)
  exact ⟨b, xs, Cond.one_arg hc (show args[0]? = some (.ref b) from hb), hx, hN, h⟩
theorem lw_comes (l : Launch) (hflags : l.flags = flags0) : Comes l x (Jvm.Cond.code x code maxLocals ret :: tables_1) room_1 (fun tb e args s => Calls_1 tb e args s ∧ rest_1 tb e args s ∧ Pre_1 tb e args s)
    (fun _ _ args s o t => lw_Q args s o t) := by
  intro p e ha hc hk s m args below hf hfit hheap happ hpre
  obtain ⟨b, xs, hP⟩ := lw_pre_spec hpre.2.2 hpre.2.1
  obtain ⟨k, o, h1, h2, h3, hQ⟩ := lw_walk l hflags b xs p e ha hc hk s m args below hf ((Spec.applies_iff_loose hf).mp happ).1 hP trivial
  exact ⟨k, o, h1, h2, h3, hQ⟩
theorem lw_frame {s t : State} {o : Outcome} {args : Array Value} (h : Framed s o t [] 600000 7302250) :
    Framed s o t (fieldLocs frame_1_writes args s ++ arrayLocs frame_1_arrays args s ++ staticLocs frame_1_statics s) 600000 7302250 := h
theorem lw_limb (L : Cond) (hL : ∀ (args : Array Value) (s t : State), L.after args s (.returned (some (.int 1))) t = true) :
    ArmFor flags0 classFile x code maxLocals ret World_1 tables_1 room_1 Calls_1 rest_1 Pre_1
      (fun tb e a s o t => postC L tb e a s o t ∧ Framed s o t (fieldLocs frame_1_writes a s ++ arrayLocs frame_1_arrays a s ++ staticLocs frame_1_statics s) 600000 7302250) := by
  intro l hflags _ _ p e ha hc hk s m args below hf hfit hheap happ hpre
  obtain ⟨k, o, h1, h2, h3, rfl, hF⟩ := lw_comes l hflags p e ha hc hk s m args below hf hfit hheap happ hpre
  exact ⟨k, _, h1, h2, h3, hL args s _, lw_frame hF⟩
theorem i_vc : Claimed_1_1 ∧ Claimed_1_2 := ⟨lw_limb limb_1_1 (fun args s t => by simp [limb_1_1, Cond.after, Cond.holds, Cond.value]), lw_limb limb_1_2 (fun args s t => Cond.after_iff.mpr (by
  first | (rw [show limb_1_2 = Cond.eq .result (.int 1) from rfl, Cond.eq_ints (x := 1) (y := 1) rfl rfl]; simp; done) | (simp [limb_1_2, Cond.value, Term.eval]; done)))⟩

