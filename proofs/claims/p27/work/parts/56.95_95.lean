/-! THE CLAIM OUT OF ONE WALK OF THE LAW'S BODY. Your part is whole_start (and what it stands on); all else here is the same for every law, but numbers. -/
noncomputable def R_law : String := "ReadAloudLaw"
noncomputable def lw_P (b : Addr) (xs : List Int32) (args : Array Value) (s : State) : Prop := args = #[.ref b] ∧ s.IntsAt b xs ∧ xs.length ≤ 3584 ∧ (Jvm.Cond.and given_1 narrow_1).before args s = true
noncomputable def lw_Q (_ : Array Value) (s : State) (o : Outcome) (t : State) : Prop := o = .returned (some (.int 1)) ∧ Framed s o t [] 600000 7302250
noncomputable def lw_Z (below : List Frame) (a : Array Value) (s : State) : State → Prop := fun t => ∃ o, t.status = .running ∧ Ended t below o ∧ lw_Q a s o t
/-- the law's own end, with 1 on the stack, nothing written that was there before, its room as the claim has it -/
theorem lw_ret {p : Program} {l : Launch} {e : Env} {s : State} {m : MethodId} {below : List Frame} {meth : Method} {c : Code} {b : Nat} (hx : p.tables.exec = Jvm.exec) (hb : c.code = code) (hr : meth.sig.returnType = ret) (hlocks : meth.locks = false) {pc : Nat} {H : Heap} {ls : Array Slot} (hdg : decode code pc = .ok (.ireturn, 1)) : W p l e room_1 s m #[Value.ref b] below meth c H [] 600000 7302250 (lw_Z below #[Value.ref b] s) (F0 m pc ls [.int 1]) := by
  intro T hT X
  obtain ⟨fs, hret, hrun, hended, hW, hframe⟩ := X.leave (v := some (.int 1)) (hlocks := hlocks) (fun h => by rw [hr] at h; cases h)
  have hmeth' : T.vm.method? m = some meth := X.method'
  refine ⟨T.setFrames fs, ?_, .returned (some (.int 1)), hrun, hended, rfl, ⟨_, rfl⟩, hW, hframe⟩
  jvm_step X.here [X.here.top, hx, hb, hdg, hmeth', hr, ret, narrow_b1]
  (try refine ⟨rfl, ?_⟩); (try refine ⟨rfl, ?_⟩)
  first | (intro acts; rw [hret _ acts rfl rfl rfl]) | rw [hret _ _ rfl rfl rfl]
  exact Steps.refl _
/-- what holds at the law's entry: the machine, the code, the tables' words (any of lw_tbl by 'hts w (by decide +kernel)'), the script of L ints xs at the cell b, what the Statement gives of the start (any of its parts by flat_of_before) -/
noncomputable def lw_At (p : Program) (s : State) (m : MethodId) (meth : Method) (c : Code) (b L : Nat) (xs : Nat → Int32) : Prop :=
  p.tables.exec = Jvm.exec ∧ c.code = code ∧ meth.sig.returnType = ret ∧ c.maxLocals = 4 ∧ s.vm.findClass R_law = some m.cls ∧ (∀ w ∈ lw_tbl, w.before #[Value.ref b] s = true) ∧ va_X b L xs s s.heap ∧ b < s.heap.size ∧ meth.locks = false ∧ (Jvm.Cond.and given_1 narrow_1).before #[Value.ref b] s = true

theorem w_nf : ∀ w ∈ zNF.map (fun t => Cond.fieldLinkNest t.1 t.2.1 t.2.2.1 t.2.2.2.1 t.2.2.2.2 "ReadAloud"), w ∈ lw_tbl := zplaces [214, 216, 218, 220, 222, 224, 226, 228, 261, 262, 263, 265, 267, 372, 373, 375, 376, 377, 378, 379, 380, 591, 592, 594, 596, 598, 615, 617, 619, 799, 800, 801, 802, 831, 834, 927, 929, 931, 944] (by decide +kernel)
theorem w_nm : ∀ w ∈ zNM.map (fun t => Cond.methodLinkNest t.1 t.2.1 t.2.2 "ReadAloud"), w ∈ lw_tbl := zplaces [203, 251, 287, 346, 364, 367, 401, 432, 495, 500, 512, 523, 527, 546, 555, 558, 564, 565, 569, 586, 589, 610, 613, 642, 687, 688, 692, 697, 716, 728, 736, 743, 755, 756, 759, 768, 784, 794, 815, 825, 848, 852, 860, 861, 865, 866, 874, 882, 890, 894, 902, 908, 922, 976, 981, 1008, 1044, 1048, 1064, 1065, 1070, 1074, 1075, 1081, 1093, 1106, 1110, 1121, 1132, 1136, 1145, 1149, 1152, 1164, 1172, 1177, 1185, 1189, 1193, 1205, 1218, 1222, 1246, 1254, 1258, 1263, 1267, 1268, 1273, 1291, 1325] (by decide +kernel)
theorem w_ao : ∀ w ∈ zAO.map (fun C => Cond.arrayOver (.object C)), w ∈ lw_tbl := zplaces [208, 210, 212, 248, 314, 316] (by decide +kernel)
theorem w_pr : ∀ w ∈ [Cond.arrayClass .byte, .arrayClass .int, .arrayClass .boolean], w ∈ lw_tbl := zplaces [246, 247, 1500] (by decide +kernel)
theorem w_dl : ∀ w ∈ zDL.map Cond.declares, w ∈ lw_tbl := zplaces [426, 507, 529, 541, 571] (by decide +kernel)
theorem w_sr : ∀ w ∈ zSR.map (fun t => Cond.stringRef t.1 t.2.1 t.2.2.1), w ∈ lw_tbl := zplaces [431, 484, 485, 486, 487, 488, 489, 490, 494, 499, 501, 502, 503, 504, 505] (by decide +kernel)
theorem w_st : ∀ w ∈ [Cond.laysStatic "java/lang/String" "COMPACT_STRINGS" "Z", .initialized "java/lang/String", .laysStatic "jdk/internal/util/Preconditions" "SIOOBE_FORMATTER" "Ljava/util/function/BiFunction;", .initialized "jdk/internal/util/Preconditions"], w ∈ lw_tbl := zplaces [445, 179, 461, 181] (by decide +kernel)
theorem w_prim {s : State} {args : Array Value} {ty : FieldType} (hp : refKind ty = false) (h : (Cond.arrayClass ty).before args s = true) : ∃ cA : ClassId, ArrOfT s cA ty ∧ s.vm.findClass ("[" ++ ty.toString) = some cA := by
  obtain ⟨c, k, comp, h1, h2, h3⟩ := Cond.arrayClass_spec h
  exact ⟨c, fun n z => ⟨fun k h => (by cases h), k, h2, comp, h3⟩, h1⟩
theorem w_obj {s : State} {C : String} (h : va_AO C s) : ∃ cA : ClassId, ArrOfT s cA (.object C) ∧ va_RA s cA (.object C) := by
  obtain ⟨comp, c, k, h1, h2, h3, h4, h5⟩ := Cond.arrayOver_spec h
  exact ⟨c, fun n z => ⟨fun k h => (by cases h), k, h3, comp, h4⟩, k, comp, h3, h4, h1, h5⟩
theorem w_arr {s : State} {args : Array Value} (hts : ∀ w ∈ lw_tbl, w.before args s = true) (hao : ∀ C ∈ zAO, va_AO C s) : ∃ dA : Nat → Nat, ∀ (k : Nat) (q : ClassId × FieldType), (ztys dA)[k]? = some q → ArrOfT s q.1 q.2 ∧ va_RA s q.1 q.2 := by
  obtain ⟨a0, p0, q0⟩ := w_prim (ty := .byte) rfl (hts _ (w_pr _ List.mem_cons_self))
  obtain ⟨a1, p1, q1⟩ := w_prim (ty := .int) rfl (hts _ (w_pr _ (List.mem_cons_of_mem _ List.mem_cons_self)))
  obtain ⟨a2, p2, q2⟩ := w_prim (ty := .boolean) rfl (hts _ (w_pr _ (List.mem_cons_of_mem _ (List.mem_cons_of_mem _ List.mem_cons_self))))
  obtain ⟨a3, p3, q3⟩ := w_obj (hao "ReadAloud$Book" (by decide))
  obtain ⟨a4, p4, q4⟩ := w_obj (hao "ReadAloud$Year" (by decide))
  obtain ⟨a5, p5, q5⟩ := w_obj (hao "ReadAloud$Sight" (by decide))
  obtain ⟨a6, p6, q6⟩ := w_obj (hao "ReadAloud$Told" (by decide))
  obtain ⟨a7, p7, q7⟩ := w_obj (hao "ReadAloud$Readings" (by decide))
  obtain ⟨a8, p8, q8⟩ := w_obj (hao "ReadAloud$Walk" (by decide))
  refine ⟨fun k => match k with
    | 0 => a0
    | 1 => a1
    | 2 => a2
    | 3 => a3
    | 4 => a4
    | 5 => a5
    | 6 => a6
    | 7 => a7
    | _ => a8, ?_⟩
  intro k q hq
  match k, hq with
  | 0, hq => cases hq; exact ⟨p0, q0⟩
  | 1, hq => cases hq; exact ⟨p1, q1⟩
  | 2, hq => cases hq; exact ⟨p2, q2⟩
  | 3, hq => cases hq; exact ⟨p3, q3⟩
  | 4, hq => cases hq; exact ⟨p4, q4⟩
  | 5, hq => cases hq; exact ⟨p5, q5⟩
  | 6, hq => cases hq; exact ⟨p6, q6⟩
  | 7, hq => cases hq; exact ⟨p7, q7⟩
  | 8, hq => cases hq; exact ⟨p8, q8⟩
  | n + 9, hq => simp [ztys] at hq
theorem w_cls {s : State} {args : Array Value} (hts : ∀ w ∈ lw_tbl, w.before args s = true) : ∃ D : va_G, ∀ (k : Nat) (q : vw_C), zcls[k]? = some q → u_Kn s q.1 q.2.1 q.2.2 (D.1 k) (D.2 k) := by
  have h : ∀ k : Nat, ∃ ci : ClassId × (Nat → Nat), ∀ q : vw_C, zcls[k]? = some q → u_Kn s q.1 q.2.1 q.2.2 ci.1 ci.2 := by
    intro k
    have h2 : ∀ q : vw_C, zcls[k]? = some q → ∃ (cC : ClassId) (iS : Nat → Nat), u_Kn s q.1 q.2.1 q.2.2 cC iS := by
      intro q hq
      match k, hq with
      | 0, hq => cases hq; exact u_known (n := 7) hts (fun w hw => zuw_wd w (zuw_at (a := 0) (by decide) w hw)) (hts (.instantiable "ReadAloud$Book" 7) (List.mem_of_getElem? (i := 363) (by decide +kernel)))
      | 1, hq => cases hq; exact u_known (n := 7) hts (fun w hw => zuw_wd w (zuw_at (a := 1) (by decide) w hw)) (hts (.instantiable "ReadAloud$Course" 7) (List.mem_of_getElem? (i := 286) (by decide +kernel)))
      | 2, hq => cases hq; exact u_known (n := 10) hts (fun w hw => zuw_wd w (zuw_at (a := 2) (by decide) w hw)) (hts (.instantiable "ReadAloud$Levels" 10) (List.mem_of_getElem? (i := 1007) (by decide +kernel)))
      | 3, hq => cases hq; exact u_known (n := 4) hts (fun w hw => zuw_wd w (zuw_at (a := 3) (by decide) w hw)) (hts (.instantiable "ReadAloud$Readings" 4) (List.mem_of_getElem? (i := 793) (by decide +kernel)))
      | 4, hq => cases hq; exact u_known (n := 15) hts (fun w hw => zuw_wd w (zuw_at (a := 4) (by decide) w hw)) (hts (.instantiable "ReadAloud$Rings" 15) (List.mem_of_getElem? (i := 921) (by decide +kernel)))
      | 5, hq => cases hq; exact u_known (n := 3) hts (fun w hw => zuw_wd w (zuw_at (a := 5) (by decide) w hw)) (hts (.instantiable "ReadAloud$Sight" 3) (List.mem_of_getElem? (i := 609) (by decide +kernel)))
      | 6, hq => cases hq; exact u_known (n := 8) hts (fun w hw => zuw_wd w (zuw_at (a := 6) (by decide) w hw)) (hts (.instantiable "ReadAloud$Teller" 8) (List.mem_of_getElem? (i := 250) (by decide +kernel)))
      | 7, hq => cases hq; exact u_known (n := 8) hts (fun w hw => zuw_wd w (zuw_at (a := 7) (by decide) w hw)) (hts (.instantiable "ReadAloud$Told" 8) (List.mem_of_getElem? (i := 202) (by decide +kernel)))
      | 8, hq => cases hq; exact u_known (n := 5) hts (fun w hw => zuw_wd w (zuw_at (a := 8) (by decide) w hw)) (hts (.instantiable "ReadAloud$Walk" 5) (List.mem_of_getElem? (i := 824) (by decide +kernel)))
      | 9, hq => cases hq; exact u_known (n := 4) hts (fun w hw => zuw_wd w (zuw_at (a := 9) (by decide) w hw)) (hts (.instantiable "ReadAloud$Year" 4) (List.mem_of_getElem? (i := 585) (by decide +kernel)))
      | 10, hq => cases hq; exact u_known (n := 8) hts (fun w hw => zuw_wd w (zuw_at (a := 10) (by decide) w hw)) (hts (.instantiable "ReadAloud" 8) (List.mem_of_getElem? (i := 194) (by decide +kernel)))
      | 11, hq => cases hq; exact u_known (n := 52) hts (fun w hw => zuw_wd w (zuw_at (a := 11) (by decide) w hw)) (hts (.instantiable "ReadAloudModel" 52) (List.mem_of_getElem? (i := 1337) (by decide +kernel)))
      | n + 12, hq => simp [zcls] at hq
    cases hz : zcls[k]? with
    | none => exact ⟨(0, fun _ => 0), fun q hq => by cases hq⟩
    | some q =>
      obtain ⟨cC, iS, hu⟩ := h2 q hz
      exact ⟨(cC, iS), fun q' hq' => by cases hq'; exact hu⟩
  obtain ⟨f, hf⟩ := Classical.skolem.mp h
  exact ⟨(fun k => (f k).1, fun k => (f k).2), fun k q hq => hf k q hq⟩
/-! THE STRINGS AT THE START. -/
noncomputable def wTm (i : Nat) : Term := [Term.string "ReadAloud$Book" 34, Term.string "ReadAloud$Book" 42, Term.string "ReadAloud$Book" 44, Term.string "ReadAloud$Book" 46, Term.string "ReadAloud$Book" 48, Term.string "ReadAloud$Book" 50, Term.string "ReadAloud$Book" 52, Term.string "ReadAloud$Book" 53, Term.string "ReadAloud$Sight" 22, Term.string "ReadAloud$Year" 25, Term.string "ReadAloud$Year" 33, Term.string "ReadAloud$Year" 35, Term.string "ReadAloud$Year" 37, Term.string "ReadAloud$Year" 39, Term.string "ReadAloud$Year" 41].getD i (.int 0)
noncomputable def wF : List Cond := flatC (Jvm.Cond.and given_1 narrow_1)
theorem wplaces {l : List Cond} (ps : List Nat) (h : l = ps.filterMap (fun i => wF[i]?)) : ∀ w ∈ l, w ∈ wF := by
  intro w hw
  rw [h] at hw
  obtain ⟨i, -, hi⟩ := List.mem_filterMap.mp hw
  exact List.mem_of_getElem? hi
theorem wf_ex : ∀ w ∈ (List.range 15).map (fun i => Cond.exactly (wTm i) "java/lang/String"), w ∈ wF := wplaces [81, 90, 99, 111, 122, 134, 147, 160, 177, 193, 210, 228, 247, 270, 291] (by decide +kernel)
theorem wf_co : ∀ w ∈ (List.range 15).map (fun i => Cond.eq (.field (wTm i) "java/lang/String" "coder" "B") (.int 0)), w ∈ wF := wplaces [82, 91, 100, 112, 123, 135, 148, 161, 178, 194, 211, 229, 248, 271, 292] (by decide +kernel)
theorem wf_ar : ∀ w ∈ (List.range 15).map (fun i => Cond.arrayOf (.field (wTm i) "java/lang/String" "value" "[B") .byte), w ∈ wF := wplaces [83, 92, 101, 113, 124, 136, 149, 162, 179, 195, 212, 230, 249, 272, 293] (by decide +kernel)
theorem wf_le : ∀ w ∈ (List.range 15).map (fun i => Cond.eq (.length (.field (wTm i) "java/lang/String" "value" "[B")) (.int (Int32.ofNat (zslens.getD i 0)))), w ∈ wF := wplaces [84, 93, 102, 114, 125, 137, 150, 163, 180, 196, 213, 231, 250, 273, 294] (by decide +kernel)
theorem wf_el : ∀ w ∈ (List.range 15).flatMap (fun i => (List.range (zslens.getD i 0)).map (fun j => Cond.eq (.elem (.field (wTm i) "java/lang/String" "value" "[B") (.int (Int32.ofNat j))) (.int ((zsbyts.getD i []).getD j 0)))), w ∈ wF := wplaces [85, 86, 87, 88, 89, 94, 95, 96, 97, 103, 104, 105, 106, 107, 108, 115, 116, 117, 118, 126, 127, 128, 129, 138, 139, 140, 141, 151, 152, 153, 164, 165, 166, 167, 168, 169, 181, 182, 183, 184, 197, 198, 199, 200, 214, 215, 216, 217, 232, 233, 234, 235, 251, 252, 253, 254, 255, 256, 257, 274, 275, 276, 277, 295, 296, 297] (by decide +kernel)
theorem wf_ne : ∀ w ∈ (List.range 15).flatMap (fun i => ((List.range 15).filter (fun j => decide (i < j))).map (fun j => Cond.not (Cond.eq (wTm i) (wTm j)))), w ∈ wF := wplaces [98, 109, 119, 130, 142, 154, 170, 185, 201, 218, 236, 258, 278, 298, 110, 120, 131, 143, 155, 171, 186, 202, 219, 237, 259, 279, 299, 121, 132, 144, 156, 172, 187, 203, 220, 238, 260, 280, 300, 133, 145, 157, 173, 188, 204, 221, 239, 261, 281, 301, 146, 158, 174, 189, 205, 222, 240, 262, 282, 302, 159, 175, 190, 206, 223, 241, 263, 283, 303, 176, 191, 207, 224, 242, 264, 284, 304, 192, 208, 225, 243, 265, 285, 305, 209, 226, 244, 266, 286, 306, 227, 245, 267, 287, 307, 246, 268, 288, 308, 269, 289, 309, 290, 310, 311] (by decide +kernel)
theorem wf_st : ∀ w ∈ [Cond.eq (Term.static "java/lang/String" "COMPACT_STRINGS" "Z") (.int 1), Cond.isRef (Term.static "jdk/internal/util/Preconditions" "SIOOBE_FORMATTER" "Ljava/util/function/BiFunction;")], w ∈ wF := wplaces [4, 5] (by decide +kernel)
theorem wr {i : Nat} {P : Nat → Bool} {n : Nat} (h : (List.range n).all P = true) (hi : i < n) : P i = true := List.all_eq_true.mp h i (List.mem_range.mpr hi)
noncomputable def wsc (b : Nat) (a9 : Option Nat) (adK adV : Nat → Nat) : Nat → Option Nat := fun j => if j = 0 then some b else if j = 99 then a9 else if j ≤ 15 then some (adK (j - 1)) else some (adV (j - 101))
theorem w_isRef {t : Term} {args : Array Value} {s : State} (h : (Cond.isRef t).before args s = true) : ∃ o : Option Nat, t.eval args s none [] s = some (va_rf o) := by
  obtain ⟨v, hv, hr⟩ := Cond.isRef_spec h
  cases v with
  | ref a => exact ⟨some a, hv⟩
  | null => exact ⟨none, hv⟩
  | _ => cases hr
theorem w_xs {args : Array Value} {s : State} {b : Nat} (hts : ∀ w ∈ lw_tbl, w.before args s = true) (hgv : (Jvm.Cond.and given_1 narrow_1).before args s = true) : ∃ sc : Nat → Option Nat, sc 0 = some b ∧ zXs s.heap.size sc s s.heap := by
  have hs : ∀ c ∈ wF, c.before args s = true := flat_of_before _ hgv
  have hA : ∀ a : Nat, a < s.heap.size → ¬ (fun q => s.heap.size ≤ q) a := fun a ha h => by have h : s.heap.size ≤ a := h; omega
  obtain ⟨adK, adV, hS, hev⟩ := vk_Sof (args := args) (s := s) (N := 15) (tm := wTm) (len := zslens) (byt := zsbyts) (A := fun q => s.heap.size ≤ q)
    (fun i hi => by
      have h : ((List.range 15).all fun i => decide (zslens.getD i 0 < 2 ^ 31)) = true := by decide
      exact of_decide_eq_true (wr (P := fun i => decide (zslens.getD i 0 < 2 ^ 31)) h hi))
    (fun i hi => hs _ (wf_ex _ (List.mem_map.mpr ⟨i, List.mem_range.mpr hi, rfl⟩)))
    (fun i hi => hs _ (wf_co _ (List.mem_map.mpr ⟨i, List.mem_range.mpr hi, rfl⟩)))
    (fun i hi => hs _ (wf_ar _ (List.mem_map.mpr ⟨i, List.mem_range.mpr hi, rfl⟩)))
    (fun i hi => hs _ (wf_le _ (List.mem_map.mpr ⟨i, List.mem_range.mpr hi, rfl⟩)))
    (fun i hi j hj => hs _ (wf_el _ (List.mem_flatMap.mpr ⟨i, List.mem_range.mpr hi, List.mem_map.mpr ⟨j, List.mem_range.mpr hj, rfl⟩⟩)))
    (fun i j hi hj hne => by
      have key : ∀ i j, i < j → j < 15 → (Cond.not (Cond.eq (wTm i) (wTm j))).before args s = true := fun i j h1 h2 => hs _ (wf_ne _ (List.mem_flatMap.mpr ⟨i, List.mem_range.mpr (by omega), List.mem_map.mpr ⟨j, List.mem_filter.mpr ⟨List.mem_range.mpr h2, decide_eq_true h1⟩, rfl⟩⟩))
      by_cases h : i < j
      · exact Or.inl (key i j h hj)
      · exact Or.inr (key j i (by omega) hi)) hA
  obtain ⟨a9, h9⟩ := w_isRef (hs _ (wf_st _ (List.mem_cons_of_mem _ List.mem_cons_self)))
  refine ⟨wsc b a9 adK adV, rfl, ⟨adK, adV, hS, fun i hi => ?_, fun t ht => ?_⟩, ?_, ?_⟩
  · unfold wsc
    refine ⟨?_, ?_⟩
    · rw [if_neg (by omega), if_neg (by omega), if_pos (by omega), show i + 1 - 1 = i by omega]
    · rw [if_neg (by omega), if_neg (by omega), if_neg (by omega), show i + 101 - 101 = i by omega]
  · refine vk_R.of (hts _ (w_sr _ (List.mem_map.mpr ⟨t, ht, rfl⟩))) ?_
    have h : (zSR.all fun t => decide (t.2.2.2 < 15) && decide (wTm t.2.2.2 = Term.string t.1 t.2.1)) = true := by decide +kernel
    have h2 := List.all_eq_true.mp h t ht
    simp only [Bool.and_eq_true, decide_eq_true_eq] at h2
    rw [← h2.2]
    exact hev _ h2.1
  · exact va_Zof (hts _ (w_st _ List.mem_cons_self)) (hts _ (w_st _ (List.mem_cons_of_mem _ List.mem_cons_self))) (va_eqt (hs _ (wf_st _ List.mem_cons_self))) hA
  · exact va_Zof (hts _ (w_st _ (List.mem_cons_of_mem _ (List.mem_cons_of_mem _ List.mem_cons_self)))) (hts _ (w_st _ (List.mem_cons_of_mem _ (List.mem_cons_of_mem _ (List.mem_cons_of_mem _ List.mem_cons_self))))) h9 hA
set_option maxHeartbeats 4000000 in
theorem whole_start {p : Program} {e : Env} {s : State} {m : MethodId} {below : List Frame} {meth : Method} {c : Code} (l : Launch) (hflags : l.flags = flags0) {b L : Nat} {xs : Nat → Int32} (hL : L ≤ 3584) (C0 : lw_At p s m meth c b L xs) : W p l e room_1 s m #[Value.ref b] below meth c s.heap [] 0 0 (lw_Z below #[Value.ref b] s) (entryFrame m ([Value.ref b] : List Value).toArray 4) := by
  obtain ⟨hx, hb, hr, hml, hown, hts, hX, hbl, hlocks, hgv⟩ := C0
  have hN : zN s := by
    refine ⟨fun t ht => va_Nw.of rfl (hts _ (w_nf _ (List.mem_map.mpr ⟨t, ht, rfl⟩))), fun t ht => va_Nw.of rfl (hts _ (w_nm _ (List.mem_map.mpr ⟨t, ht, rfl⟩))), fun C hC => va_AO.of (hts _ (w_ao _ (List.mem_map.mpr ⟨C, hC, rfl⟩))), fun x hx => va_Nw.of rfl (hts _ (w_dl _ (List.mem_map.mpr ⟨x, hx, rfl⟩)))⟩
  obtain ⟨D, hDk⟩ := w_cls hts
  obtain ⟨dA, hAk⟩ := w_arr hts hN.2.2.1
  have hK : va_K D zcls (ztys dA) s := ⟨hDk, hAk⟩
  obtain ⟨sc, hsc, hXs⟩ := w_xs (b := b) hts hgv
  have hwp : zwp (zCl zTab 12) 12 kL_law (some (L, xs)) zTab 600000 7302250 zLQ (0, zent 4 [.retAddr 0], [], [], 0, 0) := by
    intro R hR
    exact l_head (zR hR) hL
  have hv0 : ([Value.retAddr 0] : List Value).map (zv s.heap.size sc) = [Value.ref b] := by
    show [va_rf (sc 0)] = _
    rw [hsc]
    rfl
  have hl := zentry (b := s.heap.size) (sc := sc) (As := [.retAddr 0]) (by rw [hv0]; exact lv_entry ([Value.ref b]) (n := 4) (Nat.le_of_ble_eq_true rfl))
  rw [lg_entry_eq]
  have key := hwp (zOK p l e room_1 s m #[Value.ref b] below meth c (lw_Z below #[Value.ref b] s) s.heap.size sc D dA 4 0) ?_
  · exact key s.heap [] _ (fun k q h => by simp [zco] at h) va_S.rf hl rfl
  · rintro y ⟨P, hPR, hstep⟩
    have hM : kL_law ∈ zTab := List.mem_cons_self
    refine z_step (R := room_1) (M := kL_law) (tab := zTab) (d := 12) (mc := 600000) (ms := 7302250) (z0 := 0) hb hx hml hown (fun w hw => hts w (zt_wd w hw)) zt_gw hM zTab_ok hK hN hXs (Nat.add_zero _).symm (fun h => absurd h (by decide)) ⟨Nat.le_of_ble_eq_true rfl, Nat.le_of_ble_eq_true rfl, Nat.le_refl _, Nat.le_refl _⟩ (z_snd zt_gw zTab_ok 12) (fun q h => ?_) ?_ hPR hstep
    · cases h
      exact ⟨b, hsc, hbl, hbl, hX⟩
    · intro i pc v w' H locs ls k n hd hzr hq hfin hP1 hS1 hlen1
      have hv : v = some (.int 1) := hq
      subst hv
      cases i with
      | ireturn =>
        refine va_forget (fun q hq => hS1.2.2 q hq) ?_
        refine W.widen hfin.1 hfin.2 ?_
        exact lw_ret hx hb hr hlocks hd
      | lreturn => obtain ⟨x, hx2, -⟩ := hzr; cases hx2
      | areturn => rcases hzr with ⟨hx2, -⟩ | ⟨q, hx2, -⟩ <;> cases hx2
      | return_ => cases hzr.1
      | _ => exact hzr.elim
-- ===== YOUR PART ENDS =====
set_option maxHeartbeats 4000000 in
theorem lw_walk (l : Launch) (hflags : l.flags = flags0) (b : Addr) (xs : List Int32) : MetFree l x (headSpec (Jvm.Cond.code x code maxLocals ret :: tables_1) room_1) (lw_P b xs) (fun _ _ _ _ _ => True) lw_Q := by
  refine MetFree.of_bodyS (code := code) (maxLocals := maxLocals) (ret := ret) (by decide) ?_ ?_
  · intro args s m h hn
    obtain ⟨meth, c, h1, h2, h3, h4, h5, h6, -, -⟩ := Cond.code_spec hn (atoms_spec (ws := Jvm.Cond.code x code maxLocals ret :: tables_1) h _ List.mem_cons_self)
    exact ⟨meth, c, h1, h2, h3, h4, h5, h6⟩
  · intro p e s m args below meth c s₁ B hml0 hP _
    obtain ⟨rfl, hx, hbd, hgv⟩ := hP
    obtain ⟨scr, harrAt, hlist, hof, hsmall⟩ := hx
    obtain ⟨hcb, hkn, -, -⟩ := State.arrayAt?_spec harrAt
    have hown : s.vm.findClass R_law = some m.cls := findClass_of_methodNamed B.named
    have hts0 : ∀ c ∈ (Jvm.Cond.code x code maxLocals ret :: tables_1), c.before #[Value.ref b] s = true := atoms_spec (ws := Jvm.Cond.code x code maxLocals ret :: tables_1) B.pre
    have hts : ∀ w ∈ lw_tbl, w.before #[Value.ref b] s = true := k2_hts_sels lw_privs (fun w hw => hts0 w (List.mem_cons_of_mem _ hw)) lw_privs_ok
    have hml : c.maxLocals = 4 := B.maxLocals_eq (hts0 _ List.mem_cons_self)
    have X₀ : Stand p l e room_1 s m #[Value.ref b] below meth c s₁ [] 0 0 := Stand.of_body B
    have hh0 : s₁.heap = s.heap := by rw [B.state]; rfl
    have hsz : scr.slots.size = xs.length := by rw [← Array.length_toList, hlist, List.length_map]
    have hval : ∀ j : Nat, j < xs.length → scr.slots[j]? = some (.int (xs.getD j 0)) := fun j hj => by
      rw [← Array.getElem?_toList, hlist]
      simp [hj]
    have hbl : b < s.heap.size := (Array.getElem?_eq_some_iff.mp hcb).1
    have hX : va_X b xs.length (fun j => xs.getD j 0) s s.heap := ⟨scr, hcb, hof, hkn, hsz, hval⟩
    have K : W p l e room_1 s m #[Value.ref b] below meth c s₁.heap [] 0 0 (lw_Z below #[Value.ref b] s) (entryFrame m ([Value.ref b] : List Value).toArray 4) := by
      rw [hh0]
      exact whole_start l hflags hbd ⟨B.exec, B.bytes, B.returns, hml, hown, hts, hX, hbl, B.notSynchronized, hgv⟩
    obtain ⟨t, a1, o, b1, b2, b3⟩ := K s₁ rfl X₀
    exact ⟨t, o, a1, b1, b2, b3⟩
theorem lw_pre_spec {args : Array Value} {s : State} (h : (Jvm.Cond.and given_1 narrow_1).before args s = true) (hr : rest_1_c.before args s = true) : ∃ (b : Addr) (xs : List Int32), lw_P b xs args s := by
  have hs := flat_of_before _ h
  have hq := flat_of_before _ hr
  have hc : (Cond.count 1).before args s = true := hs _ (by decide +kernel)
  have harr : (Cond.arrayOf (.arg 0) .int).before args s = true := hs _ (by decide +kernel)
  have hle : (Cond.le (.length (.arg 0)) (.int 3584)).before args s = true := hs _ (by decide +kernel)
  have hlen : (Cond.isInt (.length (.arg 0))).before args s = true := hq _ (by decide +kernel)
  have hall : (Cond.all (.arg 0) (.isInt (.elem (.arg 0) (.index 0)))).before args s = true := hq _ (by decide +kernel)
  obtain ⟨b, xs, hb, hx⟩ := State.ints_of_pre rfl harr hlen hall
  have hsm : xs.length < 2 ^ 31 := hx.choose_spec.2.2.2
  have hev : (Term.length (.arg 0)).eval args s none [] s = some (.int xs.length.toInt32) := hx.length_eval hb
  have hv := Cond.le_ints hev (show (Term.int 3584).eval args s none [] s = some (.int 3584) from rfl)
  have hd : xs.length.toInt32 ≤ 3584 := by
    simpa [Cond.before, Cond.holds, hv] using hle
  have hN : xs.length ≤ 3584 := (Int32.ofNat_le_ofNat hsm (by decide)).mp (show Int32.ofNat xs.length ≤ Int32.ofNat 3584 from hd)
  exact ⟨b, xs, Cond.one_arg hc (show args[0]? = some (.ref b) from hb), hx, hN, h⟩
theorem lw_comes (l : Launch) (hflags : l.flags = flags0) : Comes l x (Jvm.Cond.code x code maxLocals ret :: tables_1) room_1 (fun tb e args s => Calls_1 tb e args s ∧ rest_1 tb e args s ∧ Pre_1 tb e args s)
    (fun _ _ args s o t => lw_Q args s o t) := by
  intro p e ha hc hk s m args below hf hfit hheap happ hpre
  obtain ⟨b, xs, hP⟩ := lw_pre_spec hpre.2.2 hpre.2.1
  obtain ⟨k, o, h1, h2, h3, hQ⟩ := lw_walk l hflags b xs p e ha hc hk s m args below hf ((Spec.applies_iff_loose hf).mp happ).1 hP trivial
  exact ⟨k, o, h1, h2, h3, hQ⟩
theorem lw_frame {s t : State} {o : Outcome} {args : Array Value} (h : Framed s o t [] 600000 7302250) :
    Framed s o t (fieldLocs frame_1_writes args s ++ arrayLocs frame_1_arrays args s ++ staticLocs frame_1_statics s) 600000 7302250 := h
theorem lw_limb (L : Cond) (hL : ∀ (args : Array Value) (s t : State), L.after args s (.returned (some (.int 1))) t = true) :
    ArmFor flags0 classFile x code maxLocals ret World_1 tables_1 room_1 Calls_1 rest_1 Pre_1
      (fun tb e a s o t => postC L tb e a s o t ∧ Framed s o t (fieldLocs frame_1_writes a s ++ arrayLocs frame_1_arrays a s ++ staticLocs frame_1_statics s) 600000 7302250) := by
  intro l hflags _ _ p e ha hc hk s m args below hf hfit hheap happ hpre
  obtain ⟨k, o, h1, h2, h3, rfl, hF⟩ := lw_comes l hflags p e ha hc hk s m args below hf hfit hheap happ hpre
  exact ⟨k, _, h1, h2, h3, hL args s _, lw_frame hF⟩
theorem i_vc : Claimed_1_1 ∧ Claimed_1_2 := ⟨lw_limb limb_1_1 (fun args s t => by simp [limb_1_1, Cond.after, Cond.holds, Cond.value]), lw_limb limb_1_2 (fun args s t => Cond.after_iff.mpr (by
  first | (rw [show limb_1_2 = Cond.eq .result (.int 1) from rfl, Cond.eq_ints (x := 1) (y := 1) rfl rfl]; simp; done) | (simp [limb_1_2, Cond.value, Term.eval]; done)))⟩

