section ZU
variable {p : Program} {l : Launch} {e : Env} {R : Room} {s : State} {m : MethodId} {args : Array Value} {below : List Frame} {meth : Method} {c : Code} {QW : State → Prop}
theorem zlook_nn {pc : Nat} {df : Int} {x : Int} (h0 : 0 ≤ (pc : Int) + df) : ∀ (ps : List (Int × Int)), (ps.all fun o => decide (0 ≤ (pc : Int) + o.2)) = true → 0 ≤ (pc : Int) + Op.lookupswitch.offset ps df x
  | [], _ => by rw [show Op.lookupswitch.offset [] df x = df from rfl]; exact h0
  | (a, o) :: r, h => by
    simp only [List.all_cons, Bool.and_eq_true, decide_eq_true_eq] at h
    rw [Op.lookupswitch.offset_cons]
    split
    · exact h.1
    · exact zlook_nn h0 r h.2
set_option maxHeartbeats 8000000 in
theorem z_step {tab : List zM} {d : Nat} {M : zM} {E : zX} {mc ms b z0 : Nat} {sc : Nat → Option Nat} {D : va_G} {dA : Nat → Nat} {Q : zQ} {P : zS → Prop}
    (hb : c.code = M.2.1) (hx : p.tables.exec = Jvm.exec) (hml : c.maxLocals = M.2.2.1) (hown : s.vm.findClass M.1.cls = some m.cls) (hts : ∀ w ∈ zt tab, w.before args s = true) (hgood : ∀ w ∈ zt tab, goodWord w = true) (hM : M ∈ tab) (htab : ∀ M' ∈ tab, zokM tab M') (hK : va_K D zcls (ztys dA) s) (hN : zN s) (hXs : zXs b sc s s.heap) (hsz : s.heap.size = b + z0)
    (hin : M.1.name = "<init>" → meth.name = "<init>") (hR : d ≤ R.frames ∧ 35 * d ≤ R.locals ∧ mc ≤ R.cells ∧ ms ≤ R.slots) (hsnd : zSnd tab l d) (hE : ∀ q, E = some q → ∃ a0, sc 0 = some a0 ∧ a0 < b ∧ a0 < s.heap.size ∧ va_X a0 q.1 q.2 s s.heap)
    (hret : ∀ (i : Instr) (pc : Nat) (v : Option Value) (w : zW) (H : Heap) (locs : List Loc) (ls : Array Slot) (k n : Nat), decode M.2.1 pc = .ok (i, 1) → zrti i M.2.2.2.1 v → Q v w → zfin E k n mc ms → va_P D zcls (zco b sc dA b w) H → va_S (fun q => b ≤ q) s.heap H locs → w.length = z0 + k → W p l e R s m args below meth c H locs k n QW (F0 m pc ls (v.toList.map (zv b sc))))
    (hP : ∀ y, P y → zOK p l e R s m args below meth c QW b sc D dA M.2.2.1 z0 y) {y0 : zS} (hs : zstep (zCl tab d) d M E tab mc ms Q y0 P) : zOK p l e R s m args below meth c QW b sc D dA M.2.2.1 z0 y0 := by
  obtain ⟨pc, L, S, w, k, n⟩ := y0
  unfold zstep zsc at hs
  dsimp only at hs
  split at hs
  · exact hs.elim
  rename_i r hr
  obtain ⟨i, np, a, bb⟩ := r
  dsimp only at hs
  have hmem := zat_mem hr
  have hde := List.all_eq_true.mp (htab M hM).1 _ hmem
  obtain ⟨hoff, hslot, hsw, hlk⟩ := zrow_s (List.all_eq_true.mp (htab M hM).2.1 _ hmem)
  have hwd : ∀ w ∈ zrq tab M.1.cls (pc, i, np, a, bb), w.before args s = true := fun w hw => hts w (zt_rq hM hmem hw)
  have hwz : ∀ w ∈ zrq tab M.1.cls (pc, i, np, a, bb), w ∈ zt tab := fun w hw => zt_rq hM hmem hw
  have hD := zco_D b sc dA w
  have hA : ∀ q : Nat, s.heap.size ≤ q → (fun q => b ≤ q) q := fun q hq => by show b ≤ q; omega
  intro H locs ls hPw hS hl hlen
  dsimp only at hPw hl hlen hoff hslot hsw ⊢
  cases i with
  | iconst v =>
    obtain ⟨rfl, hd⟩ := zde_s hde (fun h => absurd h (Nat.succ_ne_zero _))
    exact lv_iconst hx hb hd rfl (hP _ hs H locs ls hPw hS hl hlen)
  | bipush v =>
    obtain ⟨rfl, hd⟩ := zde_s hde (fun h => absurd h (Nat.succ_ne_zero _))
    exact lv_bipush hx hb hd rfl (hP _ hs H locs ls hPw hS hl hlen)
  | sipush v =>
    obtain ⟨rfl, hd⟩ := zde_s hde (fun h => absurd h (Nat.succ_ne_zero _))
    exact lv_sipush hx hb hd rfl (hP _ hs H locs ls hPw hS hl hlen)
  | ldc ix =>
    obtain ⟨rfl, hd⟩ := zde_s hde (fun h => absurd h (Nat.succ_ne_zero _))
    simp only [zins] at hs
    rcases zor_s hs with ⟨h1, hs1⟩ | ⟨h1, hs1⟩
    · simp only [zlk, Bool.or_eq_true, Bool.and_eq_true, List.any_eq_true, decide_eq_true_eq] at hlk
      have hz : bb = 1 := Nat.eq_of_beq_eq_true h1
      rcases hlk with q | ⟨-, t, ht, e1, e2, e3⟩
      · have := Nat.eq_of_beq_eq_true q; omega
      · obtain ⟨⟨adK, adV, g1, g2, g3⟩, -, -⟩ := hXs
        have hr := g3 t ht
        rw [e1, e2, e3] at hr
        have ha : a < 15 := by
          rw [← e3]
          have : ∀ t ∈ zSR, t.2.2.2 < 15 := by decide
          exact this t ht
        have hz2 := hP _ hs1 H locs ls hPw hS hl hlen
        dsimp only at hz2
        rw [List.map_cons, show zv b sc (.retAddr (a + 1)) = .ref (adK a) from by show va_rf (sc (a + 1)) = _; rw [(g2 a ha).1]; rfl] at hz2
        exact va_ldcS hx hb hown hr hd hz2
    · simp only [zrq, h1] at hwd
      exact lv_ldc hx hb hown (hwd _ List.mem_cons_self) hd (hP _ hs1 H locs ls hPw hS hl hlen)
  | ldc2_w ix =>
    obtain ⟨rfl, hd⟩ := zde_s hde (fun h => absurd h (Nat.succ_ne_zero _))
    exact lv_ldc2 hx hb hown (hwd _ List.mem_cons_self) hd (hP _ hs H locs ls hPw hS hl hlen)
  | lconst v =>
    obtain ⟨rfl, hd⟩ := zde_s hde (fun h => absurd h (Nat.succ_ne_zero _))
    exact lv_lconst hx hb hd rfl (hP _ hs H locs ls hPw hS hl hlen)
  | aconst_null =>
    obtain ⟨rfl, hd⟩ := zde_s hde (fun h => absurd h (Nat.succ_ne_zero _))
    exact lv_null hx hb hd (hP _ hs H locs ls hPw hS hl hlen)
  | iload_n j =>
    obtain ⟨rfl, hd⟩ := zde_s hde (fun h => absurd h (Nat.succ_ne_zero _))
    obtain ⟨x, hj, hs⟩ := zli_s hs
    exact lv_iload_n hx hb hd rfl (zpr_at hl hj) (hP _ hs H locs ls hPw hS hl hlen)
  | iload j =>
    obtain ⟨rfl, hd⟩ := zde_s hde (fun h => absurd h (Nat.succ_ne_zero _))
    obtain ⟨x, hj, hs⟩ := zli_s hs
    exact lv_iload hx hb hd (zpr_at hl hj) (hP _ hs H locs ls hPw hS hl hlen)
  | lload_n j =>
    obtain ⟨rfl, hd⟩ := zde_s hde (fun h => absurd h (Nat.succ_ne_zero _))
    obtain ⟨x, hj, hs⟩ := zll_s hs
    exact lv_lload_n hx hb hd rfl (zpr_at hl hj) (hP _ hs H locs ls hPw hS hl hlen)
  | lload j =>
    obtain ⟨rfl, hd⟩ := zde_s hde (fun h => absurd h (Nat.succ_ne_zero _))
    obtain ⟨x, hj, hs⟩ := zll_s hs
    exact lv_lload hx hb hd (zpr_at hl hj) (hP _ hs H locs ls hPw hS hl hlen)
  | aload_n j =>
    simp only [zins] at hs
    obtain ⟨rfl, hd⟩ := zde_s hde (fun h => absurd h (Nat.succ_ne_zero _))
    obtain ⟨v, hj, hv, hs⟩ := zla_s hs
    rcases hv with ⟨q, rfl⟩ | rfl | ⟨q, rfl⟩
    · exact lv_aload_n hx hb hd rfl (zpr_at hl hj) (hP _ hs H locs ls hPw hS hl hlen)
    · exact lv_aload_nN hx hb hd rfl (zpr_at hl hj) (hP _ hs H locs ls hPw hS hl hlen)
    · have h9 := zpr_at hl hj
      have hz2 := hP _ hs H locs ls hPw hS hl hlen
      dsimp only at hz2
      rw [List.map_cons] at hz2
      cases hsq : sc q with
      | none =>
        have ez : zv b sc (.retAddr q) = .null := by show va_rf (sc q) = _; rw [hsq]; rfl
        rw [ez] at h9 hz2
        exact lv_aload_nN hx hb hd rfl h9 hz2
      | some a0 =>
        have ez : zv b sc (.retAddr q) = .ref a0 := by show va_rf (sc q) = _; rw [hsq]; rfl
        rw [ez] at h9 hz2
        exact lv_aload_n hx hb hd rfl h9 hz2
  | aload j =>
    simp only [zins] at hs
    obtain ⟨rfl, hd⟩ := zde_s hde (fun h => absurd h (Nat.succ_ne_zero _))
    obtain ⟨v, hj, hv, hs⟩ := zla_s hs
    rcases hv with ⟨q, rfl⟩ | rfl | ⟨q, rfl⟩
    · exact lv_aload hx hb hd (zpr_at hl hj) (hP _ hs H locs ls hPw hS hl hlen)
    · exact lv_aloadN hx hb hd (zpr_at hl hj) (hP _ hs H locs ls hPw hS hl hlen)
    · have h9 := zpr_at hl hj
      have hz2 := hP _ hs H locs ls hPw hS hl hlen
      dsimp only at hz2
      rw [List.map_cons] at hz2
      cases hsq : sc q with
      | none =>
        have ez : zv b sc (.retAddr q) = .null := by show va_rf (sc q) = _; rw [hsq]; rfl
        rw [ez] at h9 hz2
        exact lv_aloadN hx hb hd h9 hz2
      | some a0 =>
        have ez : zv b sc (.retAddr q) = .ref a0 := by show va_rf (sc q) = _; rw [hsq]; rfl
        rw [ez] at h9 hz2
        exact lv_aload hx hb hd h9 hz2
  | istore_n j =>
    obtain ⟨rfl, hd⟩ := zde_s hde (fun h => absurd h (Nat.succ_ne_zero _))
    obtain ⟨x, t, rfl, hs⟩ := z1i_s hs
    obtain ⟨hf, hs⟩ := zif_s hs
    have hj : j.val < M.2.2.1 := Nat.le_of_ble_eq_true hslot
    exact lv_istore_n hx hb hd rfl hl hj rfl (fun ls1 hl1 => hP _ hs H locs ls1 hPw hS (zpr_store1 (v := .int x) hf hl1) hlen)
  | istore j =>
    obtain ⟨rfl, hd⟩ := zde_s hde (fun h => absurd h (Nat.succ_ne_zero _))
    obtain ⟨x, t, rfl, hs⟩ := z1i_s hs
    obtain ⟨hf, hs⟩ := zif_s hs
    have hj : j < M.2.2.1 := Nat.le_of_ble_eq_true hslot
    exact lv_istore hx hb hd hl hj rfl (fun ls1 hl1 => hP _ hs H locs ls1 hPw hS (zpr_store1 (v := .int x) hf hl1) hlen)
  | lstore_n j =>
    obtain ⟨rfl, hd⟩ := zde_s hde (fun h => absurd h (Nat.succ_ne_zero _))
    obtain ⟨x, t, rfl, hs⟩ := z1l_s hs
    obtain ⟨hf, hs⟩ := zif_s hs
    have hj : j.val + 1 < M.2.2.1 := Nat.le_of_ble_eq_true hslot
    exact lv_lstore_n hx hb hd rfl hl hj rfl (fun ls1 hl1 => hP _ hs H locs ls1 hPw hS (zpr_store2 (v := .long x) hf hl1) hlen)
  | lstore j =>
    obtain ⟨rfl, hd⟩ := zde_s hde (fun h => absurd h (Nat.succ_ne_zero _))
    obtain ⟨x, t, rfl, hs⟩ := z1l_s hs
    obtain ⟨hf, hs⟩ := zif_s hs
    have hj : j + 1 < M.2.2.1 := Nat.le_of_ble_eq_true hslot
    exact lv_lstore hx hb hd hl hj rfl (fun ls1 hl1 => hP _ hs H locs ls1 hPw hS (zpr_store2 (v := .long x) hf hl1) hlen)
  | astore_n j =>
    simp only [zins] at hs
    obtain ⟨rfl, hd⟩ := zde_s hde (fun h => absurd h (Nat.succ_ne_zero _))
    have hj : j.val < M.2.2.1 := Nat.le_of_ble_eq_true hslot
    rcases zasv_s hs with ⟨q, t, rfl, hs⟩ | ⟨t, rfl, hs⟩
    · obtain ⟨hf, hs⟩ := zif_s hs
      exact lv_astore_n hx hb hd rfl hl hj rfl (fun ls1 hl1 => hP _ hs H locs ls1 hPw hS (zpr_store1 (v := .ref q) hf hl1) hlen)
    · obtain ⟨hf, hs⟩ := zif_s hs
      exact lv_astore_nN hx hb hd rfl hl hj rfl (fun ls1 hl1 => hP _ hs H locs ls1 hPw hS (zpr_store1 (v := .null) hf hl1) hlen)
  | astore j =>
    simp only [zins] at hs
    obtain ⟨rfl, hd⟩ := zde_s hde (fun h => absurd h (Nat.succ_ne_zero _))
    have hj : j < M.2.2.1 := Nat.le_of_ble_eq_true hslot
    rcases zasv_s hs with ⟨q, t, rfl, hs⟩ | ⟨t, rfl, hs⟩
    · obtain ⟨hf, hs⟩ := zif_s hs
      exact lv_astore hx hb hd hl hj rfl (fun ls1 hl1 => hP _ hs H locs ls1 hPw hS (zpr_store1 (v := .ref q) hf hl1) hlen)
    · obtain ⟨hf, hs⟩ := zif_s hs
      exact lv_astoreN hx hb hd hl hj rfl (fun ls1 hl1 => hP _ hs H locs ls1 hPw hS (zpr_store1 (v := .null) hf hl1) hlen)
  | iinc j v =>
    obtain ⟨rfl, hd⟩ := zde_s hde (fun h => absurd h (Nat.succ_ne_zero _))
    obtain ⟨x, hg, hs⟩ := zli_s hs
    obtain ⟨hf, hs⟩ := zif_s hs
    have hj : j < M.2.2.1 := Nat.le_of_ble_eq_true hslot
    obtain ⟨kk, hkk⟩ := List.getElem?_of_mem (zpr_mem.mpr ⟨.int x, hg, rfl⟩ : ((j, .int x) : Nat × Value) ∈ zpr b sc L)
    exact lv_iinc hx hb hd hl hkk rfl hj rfl (fun ls1 hl1 => hP _ hs H locs ls1 hPw hS (zpr_store1 (v := .int (x + Int32.ofInt v)) hf hl1) hlen)
  | iadd =>
    obtain ⟨rfl, hd⟩ := zde_s hde (fun h => absurd h (Nat.succ_ne_zero _))
    obtain ⟨x, y, t, rfl, hs⟩ := z2i_s hs
    exact lv_iadd hx hb hd (hP _ hs H locs ls hPw hS hl hlen)
  | isub =>
    obtain ⟨rfl, hd⟩ := zde_s hde (fun h => absurd h (Nat.succ_ne_zero _))
    obtain ⟨x, y, t, rfl, hs⟩ := z2i_s hs
    exact lv_isub hx hb hd (hP _ hs H locs ls hPw hS hl hlen)
  | imul =>
    obtain ⟨rfl, hd⟩ := zde_s hde (fun h => absurd h (Nat.succ_ne_zero _))
    obtain ⟨x, y, t, rfl, hs⟩ := z2i_s hs
    exact lv_imul hx hb hd (hP _ hs H locs ls hPw hS hl hlen)
  | iand =>
    obtain ⟨rfl, hd⟩ := zde_s hde (fun h => absurd h (Nat.succ_ne_zero _))
    obtain ⟨x, y, t, rfl, hs⟩ := z2i_s hs
    exact lv_iand hx hb hd (hP _ hs H locs ls hPw hS hl hlen)
  | ior =>
    obtain ⟨rfl, hd⟩ := zde_s hde (fun h => absurd h (Nat.succ_ne_zero _))
    obtain ⟨x, y, t, rfl, hs⟩ := z2i_s hs
    exact lv_ior hx hb hd (hP _ hs H locs ls hPw hS hl hlen)
  | ixor =>
    obtain ⟨rfl, hd⟩ := zde_s hde (fun h => absurd h (Nat.succ_ne_zero _))
    obtain ⟨x, y, t, rfl, hs⟩ := z2i_s hs
    exact lv_ixor hx hb hd (hP _ hs H locs ls hPw hS hl hlen)
  | idiv =>
    obtain ⟨rfl, hd⟩ := zde_s hde (fun h => absurd h (Nat.succ_ne_zero _))
    obtain ⟨x, y, t, rfl, hne, hs⟩ := z2i_s hs
    exact lv_idiv hx hb hd hne (hP _ hs H locs ls hPw hS hl hlen)
  | irem =>
    obtain ⟨rfl, hd⟩ := zde_s hde (fun h => absurd h (Nat.succ_ne_zero _))
    obtain ⟨x, y, t, rfl, hne, hs⟩ := z2i_s hs
    exact lv_irem hx hb hd hne (hP _ hs H locs ls hPw hS hl hlen)
  | ishl =>
    obtain ⟨rfl, hd⟩ := zde_s hde (fun h => absurd h (Nat.succ_ne_zero _))
    obtain ⟨x, y, t, rfl, hs⟩ := z2i_s hs
    exact lv_ishl hx hb hd (hP _ hs H locs ls hPw hS hl hlen)
  | ishr =>
    obtain ⟨rfl, hd⟩ := zde_s hde (fun h => absurd h (Nat.succ_ne_zero _))
    obtain ⟨x, y, t, rfl, hs⟩ := z2i_s hs
    exact lv_ishr hx hb hd (hP _ hs H locs ls hPw hS hl hlen)
  | iushr =>
    obtain ⟨rfl, hd⟩ := zde_s hde (fun h => absurd h (Nat.succ_ne_zero _))
    obtain ⟨x, y, t, rfl, hs⟩ := z2i_s hs
    exact lv_iushr hx hb hd rfl (hP _ hs H locs ls hPw hS hl hlen)
  | i2b =>
    obtain ⟨rfl, hd⟩ := zde_s hde (fun h => absurd h (Nat.succ_ne_zero _))
    obtain ⟨x, t, rfl, hs⟩ := z1i_s hs
    exact lv_i2b hx hb hd rfl (hP _ hs H locs ls hPw hS hl hlen)
  | i2c =>
    obtain ⟨rfl, hd⟩ := zde_s hde (fun h => absurd h (Nat.succ_ne_zero _))
    obtain ⟨x, t, rfl, hs⟩ := z1i_s hs
    exact lv_i2c hx hb hd rfl (hP _ hs H locs ls hPw hS hl hlen)
  | i2l =>
    obtain ⟨rfl, hd⟩ := zde_s hde (fun h => absurd h (Nat.succ_ne_zero _))
    obtain ⟨x, t, rfl, hs⟩ := z1i_s hs
    exact lv_i2l hx hb hd rfl (hP _ hs H locs ls hPw hS hl hlen)
  | ladd =>
    obtain ⟨rfl, hd⟩ := zde_s hde (fun h => absurd h (Nat.succ_ne_zero _))
    obtain ⟨x, y, t, rfl, hs⟩ := z2l_s hs
    exact lv_ladd hx hb hd (hP _ hs H locs ls hPw hS hl hlen)
  | lsub =>
    obtain ⟨rfl, hd⟩ := zde_s hde (fun h => absurd h (Nat.succ_ne_zero _))
    obtain ⟨x, y, t, rfl, hs⟩ := z2l_s hs
    exact lv_lsub hx hb hd (hP _ hs H locs ls hPw hS hl hlen)
  | lmul =>
    obtain ⟨rfl, hd⟩ := zde_s hde (fun h => absurd h (Nat.succ_ne_zero _))
    obtain ⟨x, y, t, rfl, hs⟩ := z2l_s hs
    exact lv_lmul hx hb hd (hP _ hs H locs ls hPw hS hl hlen)
  | lor =>
    obtain ⟨rfl, hd⟩ := zde_s hde (fun h => absurd h (Nat.succ_ne_zero _))
    obtain ⟨x, y, t, rfl, hs⟩ := z2l_s hs
    exact lv_lor hx hb hd (hP _ hs H locs ls hPw hS hl hlen)
  | ldiv =>
    obtain ⟨rfl, hd⟩ := zde_s hde (fun h => absurd h (Nat.succ_ne_zero _))
    obtain ⟨x, y, t, rfl, hne, hs⟩ := z2l_s hs
    exact lv_ldiv hx hb hd hne (hP _ hs H locs ls hPw hS hl hlen)
  | lrem =>
    obtain ⟨rfl, hd⟩ := zde_s hde (fun h => absurd h (Nat.succ_ne_zero _))
    obtain ⟨x, y, t, rfl, hne, hs⟩ := z2l_s hs
    exact lv_lrem hx hb hd hne (hP _ hs H locs ls hPw hS hl hlen)
  | lshl =>
    simp only [zins] at hs
    obtain ⟨rfl, hd⟩ := zde_s hde (fun h => absurd h (Nat.succ_ne_zero _))
    obtain ⟨x, y, t, rfl, hs⟩ := zil_s hs
    exact lv_lshl hx hb hd rfl (hP _ hs H locs ls hPw hS hl hlen)
  | ldc_w ix =>
    obtain ⟨rfl, hd⟩ := zde_s hde (fun h => absurd h (Nat.succ_ne_zero _))
    exact lv_ldcw hx hb hown (hwd _ List.mem_cons_self) hd (hP _ hs H locs ls hPw hS hl hlen)
  | if_acmp cd off =>
    simp only [zins] at hs
    obtain ⟨rfl, hd⟩ := zde_s hde (fun h => absurd h (Nat.succ_ne_zero _))
    obtain ⟨rx, ry, t, hst, hs1⟩ := z2r_s hs
    clear hs
    subst hst
    have ht := hoff off rfl
    rw [List.map_cons, List.map_cons, zv_map, zv_map]
    cases cd
    · exact lv_acmp_eq hx hb hd ht (fun q => hP _ (hs1.1 (zmap_inj.mp q)) H locs ls hPw hS hl hlen) (fun q => hP _ (hs1.2 (fun z => q (zmap_inj.mpr z))) H locs ls hPw hS hl hlen)
    · exact lv_acmp_ne hx hb hd ht (fun q => hP _ (hs1.1 (fun z => q (zmap_inj.mpr z))) H locs ls hPw hS hl hlen) (fun q => hP _ (hs1.2 (zmap_inj.mp q)) H locs ls hPw hS hl hlen)
  | lcmp =>
    obtain ⟨rfl, hd⟩ := zde_s hde (fun h => absurd h (Nat.succ_ne_zero _))
    obtain ⟨x, y, t, rfl, hs⟩ := z2l_s hs
    exact W.lcmp hx hb hd (hP _ hs H locs ls hPw hS hl hlen)
  | dup =>
    obtain ⟨rfl, hd⟩ := zde_s hde (fun h => absurd h (Nat.succ_ne_zero _))
    obtain ⟨v, t, rfl, hs⟩ := z1v_s hs
    obtain ⟨hc, hs⟩ := zif_s hs
    exact lv_dup hx hb hd ((zv_cat b sc v).trans (Nat.eq_of_beq_eq_true hc)) (hP _ hs H locs ls hPw hS hl hlen)
  | pop =>
    obtain ⟨rfl, hd⟩ := zde_s hde (fun h => absurd h (Nat.succ_ne_zero _))
    obtain ⟨v, t, rfl, hs⟩ := z1v_s hs
    obtain ⟨hc, hs⟩ := zif_s hs
    exact lv_pop hx hb hd ((zv_cat b sc v).trans (Nat.eq_of_beq_eq_true hc)) (hP _ hs H locs ls hPw hS hl hlen)
  | pop2 =>
    obtain ⟨rfl, hd⟩ := zde_s hde (fun h => absurd h (Nat.succ_ne_zero _))
    obtain ⟨v, t, rfl, hs⟩ := z1v_s hs
    obtain ⟨hc, hs⟩ := zif_s hs
    exact lv_pop2_2 hx hb hd ((zv_cat b sc v).trans (Nat.eq_of_beq_eq_true hc)) (hP _ hs H locs ls hPw hS hl hlen)
  | dup2 =>
    obtain ⟨rfl, hd⟩ := zde_s hde (fun h => absurd h (Nat.succ_ne_zero _))
    obtain ⟨v, u, t, rfl, hs⟩ := zvr2_s hs
    obtain ⟨hc, hs⟩ := zif_s hs
    obtain ⟨hc2, hs⟩ := zif_s hs
    exact lv_dup2_11 hx hb hd ((zv_cat b sc v).trans (Nat.eq_of_beq_eq_true hc)) ((zv_cat b sc u).trans (Nat.eq_of_beq_eq_true hc2)) (hP _ hs H locs ls hPw hS hl hlen)
  | if_icmp cd off =>
    obtain ⟨rfl, hd⟩ := zde_s hde (fun h => absurd h (Nat.succ_ne_zero _))
    obtain ⟨x, y, t, rfl, hs⟩ := z2i_s hs
    have ht := hoff off rfl
    cases cd
    · exact lv_icmp_eq hx hb hd ht (fun q => hP _ (hs.1 q) H locs ls hPw hS hl hlen) (fun q => hP _ (hs.2 q) H locs ls hPw hS hl hlen)
    · exact lv_icmp_ne hx hb hd ht (fun q => hP _ (hs.1 q) H locs ls hPw hS hl hlen) (fun q => hP _ (hs.2 q) H locs ls hPw hS hl hlen)
    · exact lv_icmp_lt hx hb hd ht (fun q => hP _ (hs.1 q) H locs ls hPw hS hl hlen) (fun q => hP _ (hs.2 q) H locs ls hPw hS hl hlen)
    · exact lv_icmp_ge hx hb hd ht (fun q => hP _ (hs.1 q) H locs ls hPw hS hl hlen) (fun q => hP _ (hs.2 q) H locs ls hPw hS hl hlen)
    · exact lv_icmp_gt hx hb hd ht (fun q => hP _ (hs.1 q) H locs ls hPw hS hl hlen) (fun q => hP _ (hs.2 q) H locs ls hPw hS hl hlen)
    · exact lv_icmp_le hx hb hd ht (fun q => hP _ (hs.1 q) H locs ls hPw hS hl hlen) (fun q => hP _ (hs.2 q) H locs ls hPw hS hl hlen)
  | ifCond cd off =>
    obtain ⟨rfl, hd⟩ := zde_s hde (fun h => absurd h (Nat.succ_ne_zero _))
    obtain ⟨x, t, rfl, hs⟩ := z1i_s hs
    have ht := hoff off rfl
    cases cd
    · exact lv_if_eq hx hb hd ht (fun q => hP _ (hs.1 q) H locs ls hPw hS hl hlen) (fun q => hP _ (hs.2 q) H locs ls hPw hS hl hlen)
    · exact lv_if_ne hx hb hd ht (fun q => hP _ (hs.1 q) H locs ls hPw hS hl hlen) (fun q => hP _ (hs.2 q) H locs ls hPw hS hl hlen)
    · exact lv_if_lt hx hb hd ht (fun q => hP _ (hs.1 q) H locs ls hPw hS hl hlen) (fun q => hP _ (hs.2 q) H locs ls hPw hS hl hlen)
    · exact lv_if_ge hx hb hd ht (fun q => hP _ (hs.1 q) H locs ls hPw hS hl hlen) (fun q => hP _ (hs.2 q) H locs ls hPw hS hl hlen)
    · exact lv_if_gt hx hb hd ht (fun q => hP _ (hs.1 q) H locs ls hPw hS hl hlen) (fun q => hP _ (hs.2 q) H locs ls hPw hS hl hlen)
    · exact lv_if_le hx hb hd ht (fun q => hP _ (hs.1 q) H locs ls hPw hS hl hlen) (fun q => hP _ (hs.2 q) H locs ls hPw hS hl hlen)
  | goto off =>
    obtain ⟨rfl, hd⟩ := zde_s hde (fun h => absurd h (Nat.succ_ne_zero _))
    exact lv_goto hx hb hd (hoff off rfl) (hP _ hs H locs ls hPw hS hl hlen)
  | ifnull off =>
    simp only [zins] at hs
    obtain ⟨rfl, hd⟩ := zde_s hde (fun h => absurd h (Nat.succ_ne_zero _))
    rcases zrn_s hs with ⟨q, t, rfl, hs⟩ | ⟨t, rfl, hs⟩
    · exact lv_ifnull hx hb hd (hP _ hs H locs ls hPw hS hl hlen)
    · exact lv_ifnullN hx hb hd (hoff off rfl) (hP _ hs H locs ls hPw hS hl hlen)
  | ifnonnull off =>
    simp only [zins] at hs
    obtain ⟨rfl, hd⟩ := zde_s hde (fun h => absurd h (Nat.succ_ne_zero _))
    rcases zrn_s hs with ⟨q, t, rfl, hs⟩ | ⟨t, rfl, hs⟩
    · exact lv_ifnonnull hx hb hd (hoff off rfl) (hP _ hs H locs ls hPw hS hl hlen)
    · exact lv_ifnonnullN hx hb hd (hP _ hs H locs ls hPw hS hl hlen)
  | tableswitch df lo hi offs =>
    unfold zde at hde
    simp only [Bool.and_eq_true, decide_eq_true_eq] at hde
    obtain ⟨hd, -⟩ := hde
    simp only [zsw, Bool.and_eq_true, decide_eq_true_eq] at hsw
    obtain ⟨x, t, rfl, hs⟩ := z1i_s hs
    by_cases hq : x.toInt < lo ∨ hi < x.toInt
    · exact lv_tableOut hx hb hd hq (by omega) (hP _ (hs.1 hq) H locs ls hPw hS hl hlen)
    · obtain ⟨off, ho, hs⟩ := hs.2 hq
      have hnn : 0 ≤ (pc : Int) + off := by
        have h1 : off ∈ offs.toList := by rw [← Array.getElem?_toList] at ho; exact List.mem_of_getElem? ho
        have h2 := List.all_eq_true.mp hsw.2 off h1
        simpa using h2
      exact lv_tableIn hx hb hd (fun z => hq (Or.inl z)) (fun z => hq (Or.inr z)) ho (by omega) (hP _ hs H locs ls hPw hS hl hlen)
  | lookupswitch df ps =>
    unfold zde at hde
    simp only [Bool.and_eq_true, decide_eq_true_eq] at hde
    obtain ⟨hd, -⟩ := hde
    simp only [zsw, Bool.and_eq_true, decide_eq_true_eq] at hsw
    obtain ⟨x, t, rfl, hs⟩ := z1i_s hs
    have hnn := zlook_nn (x := x.toInt) hsw.1.1 ps.toList hsw.1.2
    exact lv_lookup hx hb hd hsw.2 rfl (by omega) (hP _ hs H locs ls hPw hS hl hlen)
  | getstatic ix =>
    simp only [zins] at hs
    obtain ⟨rfl, hd⟩ := zde_s hde (fun h => absurd h (Nat.succ_ne_zero _))
    rcases zor_s hs with ⟨h1, hs1⟩ | ⟨h1, hs1⟩
    · simp only [zrq, h1] at hwd
      exact va_gets (ref := "java/lang/String") hx hb hXs.2.1 hS hown (hwd _ List.mem_cons_self) (fun _ h9 => h9) hd (hP _ hs1 H locs ls hPw hS hl hlen)
    · simp only [zrq, h1] at hwd
      exact va_gets (ref := "jdk/internal/util/Preconditions") hx hb hXs.2.2 hS hown (hwd _ List.mem_cons_self) (fun _ h9 => h9) hd (hP _ hs1 H locs ls hPw hS hl hlen)
  | getfield ix =>
    simp only [zins] at hs
    obtain ⟨rfl, hd⟩ := zde_s hde (fun h => absurd h (Nat.succ_ne_zero _))
    rcases zgf_s hs with ⟨q, t, hst, hs1⟩ | ⟨j, t, hst, hs1⟩
    rotate_left
    · obtain ⟨hc, hs2⟩ := zif_s hs1
      simp only [Bool.and_eq_true] at hc
      obtain ⟨i, hi, rfl⟩ := zstr_s hc.1
      have ha := Nat.eq_of_beq_eq_true hc.2
      obtain ⟨⟨adK, adV, g1, g2, g3⟩, -, -⟩ := hXs
      obtain ⟨-, o1, o2, -⟩ := g1.1 i hi
      clear hs hs1
      subst hst ha
      have ez : zv b sc (.retAddr (i + 1)) = .ref (adK i) := by show va_rf (sc (i + 1)) = _; rw [(g2 i hi).1]; rfl
      rw [List.map_cons, ez]
      rcases zor_s hs2 with ⟨h1, hs3⟩ | ⟨h1, hs3⟩
      · have hz2 := hP _ hs3 H locs ls hPw hS hl hlen
        dsimp only at hz2
        rw [List.map_cons, show zv b sc (.retAddr (i + 1 + 100)) = .ref (adV i) from by show va_rf (sc (i + 101)) = _; rw [(g2 i hi).2]; rfl] at hz2
        simp only [zrq, h1] at hwd
        exact vk_getf (ref := "java/lang/String") hx hb o2 hS hown (hwd _ List.mem_cons_self) (fun _ h9 => h9) hd hz2
      · have hz2 := hP _ hs3 H locs ls hPw hS hl hlen
        simp only [zrq, h1] at hwd
        exact vk_getf (ref := "java/lang/String") hx hb o1 hS hown (hwd _ List.mem_cons_self) (fun _ h9 => h9) hd hz2
    obtain ⟨fs, hq, hs2⟩ := zob_s hs1
    obtain ⟨v, hv, hs9⟩ := zfld_s hs2
    clear hs hs1 hs2
    subst hst
    have ha50 : Nat.beq a 50 = false := by
      cases h5 : Nat.beq a 50 with
      | false => rfl
      | true =>
        exfalso
        have h6 := Nat.eq_of_beq_eq_true h5
        subst h6
        have h7 := (hPw _ _ (zco_at (b := b) (sc := sc) (dA := dA) hq))
        obtain ⟨r9, h8, -⟩ := h7
        cases h8
    simp only [zlk, ha50, Bool.false_and, Bool.false_or, Bool.and_eq_true, Bool.or_eq_true, decide_eq_true_eq] at hlk
    simp only [zrq, ha50] at hwd
    have hbb : bb < zcN a := Nat.le_of_ble_eq_true hlk.1
    have ha11 := zcN_le (Nat.lt_of_le_of_lt (Nat.zero_le _) hbb)
    have hfv : (fs.map (zv b sc))[bb]? = some (zv b sc v) := by rw [List.getElem?_map, ← zix_eq, hv]; rfl
    by_cases ho : M.1.cls = (zcf a bb).1
    · exact va_get (ref := (zcf a bb).1) hx hb hts (fun w hw => zt_uw (zuw_at ha11 w hw)) hown hK hPw q (zco_at hq) (zcls_at (Or.inr ha11)) bb hbb (hwd _ (by rw [if_pos ho]; exact List.mem_cons_self)) (fun _ h9 => h9) hfv hd (hP _ hs9 H locs ls hPw hS hl hlen)
    · have hn := hN.1 _ (hlk.2.resolve_left ho)
      exact va_getN (ref := (zcf a bb).1) hx hb hts (fun w hw => zt_uw (zuw_at ha11 w hw)) hown hK hPw q (zco_at hq) (zcls_at (Or.inr ha11)) bb hbb (hn.use rfl) (fun _ h9 => h9) hfv hd (hP _ hs9 H locs ls hPw hS hl hlen)
  | putfield ix =>
    obtain ⟨rfl, hd⟩ := zde_s hde (fun h => absurd h (Nat.succ_ne_zero _))
    obtain ⟨v, q, t, rfl, hs⟩ := zvr_s hs
    obtain ⟨fs, hq, hs⟩ := zob_s hs
    obtain ⟨hfit, hs⟩ := zif_s hs
    obtain ⟨hlt, hs⟩ := zif_s hs
    have hlt : bb < (fs.map (zv b sc)).length := by rw [List.length_map]; exact Nat.le_of_ble_eq_true hlt
    simp only [zlk, Bool.and_eq_true, Bool.or_eq_true, decide_eq_true_eq] at hlk
    have hbb : bb < zcN a := Nat.le_of_ble_eq_true hlk.1.1
    have ha11 := zcN_le (Nat.lt_of_le_of_lt (Nat.zero_le _) hbb)
    obtain ⟨hty, hnm⟩ := zcls_ty ha11
    obtain ⟨hnw, hft⟩ := zfit_s (b := b) (sc := sc) hfit
    have hkk : ∀ (H1 : Heap) (locs1 : List Loc), va_P D zcls ((zco b sc dA b w).set q (b + q, .inr (a, (fs.map (zv b sc)).set bb (zv b sc v)))) H1 → va_D (fun q => b ≤ q) ((zco b sc dA b w).set q (b + q, .inr (a, (fs.map (zv b sc)).set bb (zv b sc v)))) → va_S (fun q => b ≤ q) s.heap H1 locs1 → W p l e R s m args below meth c H1 locs1 k n QW (F0 m (pc + 3) ls (t.map (zv b sc))) := by
      intro H1 locs1 hP1 _ hS1
      refine hP _ hs H1 locs1 ls ?_ hS1 hl (by dsimp only; rw [zst_eq, List.length_set]; exact hlen)
      dsimp only
      rw [zst_eq, zco_set]
      have he : zcc b sc dA (.inr (a, zst fs bb v)) = .inr (a, (fs.map (zv b sc)).set bb (zv b sc v)) := by
        show (Sum.inr (a, (zst fs bb v).map (zv b sc)) : va_E) = _
        rw [zst_eq, List.map_set]
      rw [he]
      exact hP1
    by_cases ho : M.1.cls = (zcf a bb).1
    · by_cases hfn : (zcf a bb).2.2.2 = false
      · exact va_put (ref := (zcf a bb).1) hx hb hts (fun w hw => zt_uw (zuw_at ha11 w hw)) (ztyf a) hty hnm hown hK hPw hD hS q (zco_at hq) (zcls_at (Or.inr ha11)) bb hbb (hwd _ (by simp only [zrq]; rw [if_pos ho]; exact List.mem_cons_self)) (fun _ h9 => h9) hfn (hty bb hbb) hnw hft hlt hd hkk
      · exact va_putF (ref := (zcf a bb).1) hx hb hts (fun w hw => zt_uw (zuw_at ha11 w hw)) (ztyf a) hty hnm hown hK hPw hD hS q (zco_at hq) (zcls_at (Or.inr ha11)) bb hbb (hwd _ (by simp only [zrq]; rw [if_pos ho]; exact List.mem_cons_self)) (fun _ h9 => h9) (by simpa using hfn) (hin (hlk.2.resolve_left hfn).1) ho.symm (hty bb hbb) hnw hft hlt hd hkk
    · have hfn : (zcf a bb).2.2.2 = false := by
        rcases hlk.2 with z | z
        · exact z
        · exact absurd z.2 ho
      have hn := hN.1 _ (hlk.1.2.resolve_left ho)
      exact va_putN (ref := (zcf a bb).1) hx hb hts (fun w hw => zt_uw (zuw_at ha11 w hw)) (ztyf a) hty hnm hown hK hPw hD hS q (zco_at hq) (zcls_at (Or.inr ha11)) bb hbb (hn.use rfl) (fun _ h9 => h9) hfn (hty bb hbb) hnw hft hlt hd hkk
  | iaload =>
    simp only [zins] at hs
    obtain ⟨rfl, hd⟩ := zde_s hde (fun h => absurd h (Nat.succ_ne_zero _))
    rcases zia_s hs with ⟨i, q, t, hst, hs1⟩ | ⟨i, j, t, hst, hs1⟩
    · obtain ⟨ti, len, g, hq, hs2⟩ := zai_s hs1
      obtain ⟨hti, hi, hs3⟩ := zif_s hs2
      have hti := Nat.eq_of_beq_eq_true hti
      clear hs hs1 hs2
      subst hti hst
      exact va_iald hx hb hK hPw q 1 (zco_at hq) rfl hi hd (hP _ hs3 H locs ls hPw hS hl hlen)
    · obtain ⟨hj, hs2⟩ := zif_s hs1
      have hj := Nat.eq_of_beq_eq_true hj
      obtain ⟨r, hr1, hi, hs3⟩ := zext_s hs2
      obtain ⟨a0, e0, e1, e2, e3⟩ := hE r hr1
      clear hs hs1 hs2
      subst hst hj
      rw [List.map_cons, List.map_cons, show zv b sc (.retAddr 0) = .ref a0 from by show va_rf (sc 0) = _; rw [e0]; rfl]
      exact va_sld hx hb e3 e2 (by show ¬ b ≤ a0; omega) hS hi hd (hP _ hs3 H locs ls hPw hS hl hlen)
  | baload =>
    simp only [zins] at hs
    obtain ⟨rfl, hd⟩ := zde_s hde (fun h => absurd h (Nat.succ_ne_zero _))
    rcases zia_s hs with ⟨i, q, t, hst, hs1⟩ | ⟨i, j, t, hst, hs1⟩
    · obtain ⟨ti, len, g, hq, hs2⟩ := zai_s hs1
      obtain ⟨hti, hi, hs3⟩ := zif_s hs2
      simp only [Bool.or_eq_true] at hti
      clear hs hs1 hs2
      subst hst
      rcases hti with z | z
      · have z := Nat.eq_of_beq_eq_true z
        subst z
        exact va_bald hx hb hK hPw q 0 (zco_at hq) rfl hi hd (hP _ hs3 H locs ls hPw hS hl hlen)
      · have z := Nat.eq_of_beq_eq_true z
        subst z
        exact va_zald hx hb hK hPw q 2 (zco_at hq) rfl hi hd (hP _ hs3 H locs ls hPw hS hl hlen)
    · obtain ⟨hj, hi, hs3⟩ := zif_s hs1
      obtain ⟨i0, hi0, rfl⟩ := zsby_s hj
      obtain ⟨⟨adK, adV, g1, g2, g3⟩, -, -⟩ := hXs
      obtain ⟨-, -, -, o3⟩ := g1.1 i0 hi0
      clear hs hs1
      subst hst
      rw [List.map_cons, List.map_cons, show zv b sc (.retAddr (i0 + 101)) = .ref (adV i0) from by show va_rf (sc (i0 + 101)) = _; rw [(g2 i0 hi0).2]; rfl]
      rw [show i0 + 101 - 101 = i0 by omega] at hi hs3
      exact va_tb hx hb o3 hS hi rfl hd (hP _ hs3 H locs ls hPw hS hl hlen)
  | iastore =>
    obtain ⟨rfl, hd⟩ := zde_s hde (fun h => absurd h (Nat.succ_ne_zero _))
    obtain ⟨v, i, q, t, rfl, hs⟩ := zvia_s hs
    obtain ⟨x, t', he, hs⟩ := z1i_s hs
    cases he
    obtain ⟨ti, len, g, hq, hs⟩ := zai_s hs
    obtain ⟨hti, hi, hs⟩ := zif_s hs
    have := Nat.eq_of_beq_eq_true hti
    subst this
    exact va_iast hx hb hK hPw hD hS q 1 (zco_at hq) rfl hi hd (fun H1 locs1 hP1 _ hS1 => hP _ hs H1 locs1 ls (by dsimp only; rw [zst_eq, zco_set]; exact hP1) hS1 hl (by dsimp only; rw [zst_eq, List.length_set]; exact hlen))
  | bastore =>
    simp only [zins] at hs
    obtain ⟨rfl, hd⟩ := zde_s hde (fun h => absurd h (Nat.succ_ne_zero _))
    obtain ⟨v, i, q, t, rfl, hs⟩ := zvia_s hs
    obtain ⟨x, t', he, hs⟩ := z1i_s hs
    cases he
    obtain ⟨ti, len, g, hq, hs⟩ := zai_s hs
    rcases zor_s hs with ⟨hti, hi, hs⟩ | ⟨-, hs⟩
    · have := Nat.eq_of_beq_eq_true hti
      subst this
      exact va_bast hx hb hK hPw hD hS q 0 (zco_at hq) rfl hi hd (fun H1 locs1 hP1 _ hS1 => hP _ hs H1 locs1 ls (by dsimp only; rw [zst_eq, zco_set]; exact hP1) hS1 hl (by dsimp only; rw [zst_eq, List.length_set]; exact hlen))
    · obtain ⟨hti, hi, hs⟩ := zif_s hs
      have := Nat.eq_of_beq_eq_true hti
      subst this
      exact va_zast hx hb hK hPw hD hS q 2 (zco_at hq) rfl hi hd (fun H1 locs1 hP1 _ hS1 => hP _ hs H1 locs1 ls (by dsimp only; rw [zst_eq, zco_set]; exact hP1) hS1 hl (by dsimp only; rw [zst_eq, List.length_set]; exact hlen))
  | arraylength =>
    simp only [zins] at hs
    obtain ⟨rfl, hd⟩ := zde_s hde (fun h => absurd h (Nat.succ_ne_zero _))
    rcases zlen1_s hs with ⟨j, t, hst, hs1⟩ | ⟨q, t, hst, hs1⟩
    · rcases zor_s hs1 with ⟨hj, hs2⟩ | ⟨-, hs2⟩
      · have hj := Nat.eq_of_beq_eq_true hj
        obtain ⟨r, hr1, hs3⟩ := zext_s hs2
        obtain ⟨a0, e0, e1, e2, e3⟩ := hE r hr1
        clear hs hs1 hs2
        subst hst hj
        rw [List.map_cons, show zv b sc (.retAddr 0) = .ref a0 from by show va_rf (sc 0) = _; rw [e0]; rfl]
        exact va_slen hx hb e3 e2 (by show ¬ b ≤ a0; omega) hS hd (hP _ hs3 H locs ls hPw hS hl hlen)
      · obtain ⟨hj, hs3⟩ := zif_s hs2
        obtain ⟨i0, hi0, rfl⟩ := zsby_s hj
        obtain ⟨⟨adK, adV, g1, g2, g3⟩, -, -⟩ := hXs
        obtain ⟨-, -, -, o3⟩ := g1.1 i0 hi0
        clear hs hs1 hs2
        subst hst
        rw [List.map_cons, show zv b sc (.retAddr (i0 + 101)) = .ref (adV i0) from by show va_rf (sc (i0 + 101)) = _; rw [(g2 i0 hi0).2]; rfl]
        rw [show i0 + 101 - 101 = i0 by omega] at hs3
        exact va_tlen hx hb o3 hS rfl hd (hP _ hs3 H locs ls hPw hS hl hlen)
    · obtain ⟨ti, len, g, hq, hs2⟩ := zai_s hs1
      obtain ⟨hti, hs3⟩ := zif_s hs2
      have hti := Nat.le_of_ble_eq_true hti
      clear hs hs1 hs2
      subst hst
      have hty : ∃ ty, (ztys dA)[ti]? = some (dA ti, ty) := by
        match ti, hti with
        | 0, _ => exact ⟨_, rfl⟩
        | 1, _ => exact ⟨_, rfl⟩
        | 2, _ => exact ⟨_, rfl⟩
        | n + 3, h => omega
      obtain ⟨ty, hty⟩ := hty
      exact va_alen hx hb hK hPw q ti (zco_at hq) hty rfl hd (hP _ hs3 H locs ls hPw hS hl hlen)
  | ireturn =>
    obtain ⟨rfl, hd⟩ := zde_s hde (fun h => absurd h (Nat.succ_ne_zero _))
    obtain ⟨v, rfl, hs⟩ := zin1_s hs
    obtain ⟨x, t, he, hn, hr2, hq⟩ := z1i_s hs
    cases he
    exact hret .ireturn pc _ w H locs ls k n hd ⟨x, rfl, hr2⟩ hq hn hPw hS hlen
  | lreturn =>
    obtain ⟨rfl, hd⟩ := zde_s hde (fun h => absurd h (Nat.succ_ne_zero _))
    obtain ⟨v, rfl, hs⟩ := zin1_s hs
    obtain ⟨x, t, he, hn, hr2, hq⟩ := z1l_s hs
    cases he
    exact hret .lreturn pc _ w H locs ls k n hd ⟨x, rfl, hr2⟩ hq hn hPw hS hlen
  | areturn =>
    simp only [zins] at hs
    obtain ⟨rfl, hd⟩ := zde_s hde (fun h => absurd h (Nat.succ_ne_zero _))
    obtain ⟨v, rfl, hs⟩ := zin1_s hs
    rcases zrn2_s hs with ⟨q, rfl, hn, hr2, hq⟩ | ⟨rfl, hn, hr2, hq⟩
    · exact hret .areturn pc _ w H locs ls k n hd (Or.inr ⟨q, rfl, hr2⟩) hq hn hPw hS hlen
    · exact hret .areturn pc _ w H locs ls k n hd (Or.inl ⟨rfl, hr2⟩) hq hn hPw hS hlen
  | return_ =>
    simp only [zins] at hs
    obtain ⟨rfl, hd⟩ := zde_s hde (fun h => absurd h (Nat.succ_ne_zero _))
    obtain ⟨rfl, hn, hr2, hq⟩ := znil_s hs
    exact hret .return_ pc none w H locs ls k n hd ⟨rfl, hr2⟩ hq hn hPw hS hlen
  | new ix =>
    simp only [zins] at hs
    obtain ⟨rfl, hd⟩ := zde_s hde (fun h => absurd h (Nat.succ_ne_zero _))
    obtain ⟨h1, hs1⟩ := zif_s hs
    obtain ⟨h2, hs2⟩ := zif_s hs1
    have h1 := Nat.le_of_ble_eq_true h1
    have h2 := Nat.le_of_ble_eq_true h2
    have ha11 : a ≤ 11 := Nat.le_of_ble_eq_true hlk
    obtain ⟨hty, hnm⟩ := zcls_ty ha11
    refine va_new (fs := (zdf a).map (zv b sc)) hx hb hts (fun w hw => zt_uw (zuw_at ha11 w hw)) (ztyf a) hty hown (hwd _ List.mem_cons_self) (hwd _ (List.mem_cons_of_mem _ List.mem_cons_self)) (hwd _ (List.mem_cons_of_mem _ (List.mem_cons_of_mem _ List.mem_cons_self))) hK hPw hD hS hA (zcls_at (Or.inr ha11)) (fun j hj => ?_) (Nat.le_trans h1 hR.2.2.1) (Nat.le_trans h2 hR.2.2.2) hd (fun q H1 hP1 hD1 hS1 => ?_)
    · unfold vp_V zdf
      rw [List.getD_eq_getElem?_getD, List.getElem?_map, zdl_get _ _ _ _ hj]
      simp [zv_dv]
    · refine zsz fun hle => ?_
      have hq := z_fresh hsz hlen hP1 hD1 hle
      subst hq
      exact hP _ hs2 H1 locs ls (by dsimp only; rw [zco_app]; exact hP1) hS1 hl (by dsimp only; rw [List.length_append, List.length_singleton]; omega)
  | newarray t =>
    simp only [zins] at hs
    obtain ⟨rfl, hd⟩ := zde_s hde (fun h => absurd h (Nat.succ_ne_zero _))
    obtain ⟨x, t', hst, hs0⟩ := z1i_s hs
    obtain ⟨h0, hs1⟩ := zif_s hs0
    obtain ⟨h1, hs2⟩ := zif_s hs1
    obtain ⟨h2, hs3⟩ := zif_s hs2
    have h0 := of_decide_eq_true h0
    have h1 := Nat.le_of_ble_eq_true h1
    have h2 := Nat.le_of_ble_eq_true h2
    clear hs hs0 hs1 hs2
    subst hst
    simp only [zlk, Bool.and_eq_true, decide_eq_true_eq] at hlk
    obtain ⟨⟨ha2, hat⟩, hbig⟩ := hlk
    have hbig := Nat.le_of_ble_eq_true hbig
    have hxn : x.toNatClampNeg = bb := by
      rw [h0]
      show (Int32.ofNat bb).toInt.toNat = bb
      rw [Int32.toInt_ofNat_of_lt (by omega)]
      omega
    have hx0 : ¬ x < 0 := by
      rw [h0, Int32.not_lt, Int32.le_iff_toInt_le, Int32.toInt_ofNat_of_lt (by omega)]
      show (0 : Int) ≤ _
      omega
    have hzd : zda a bb = (bb, .inl (fun _ => 0)) := by unfold zda; rw [ha2]
    have hdv : ∀ cA : ClassId, vp_cell cA (bb, .inl (fun _ => 0)) = arrV cA bb (fun _ => defaultValue (newarray.typeOf t)) := by
      intro cA
      have ha2 := Nat.le_of_ble_eq_true ha2
      match a, hat, ha2 with
      | 0, hat, _ => rw [← Option.some.inj hat]; rfl
      | 1, hat, _ => rw [← Option.some.inj hat]; rfl
      | 2, hat, _ => rw [← Option.some.inj hat]; rfl
      | a + 3, _, h => omega
    refine va_newa (atype := t) hx hb (hwd _ List.mem_cons_self) rfl hK hPw hD hS hA hdv hx0 hxn ?_ (Nat.le_trans h1 hR.2.2.1) (Nat.le_trans h2 hR.2.2.2) hd (fun q cA H1 hK1 hP1 hD1 hS1 => ?_)
    · cases t <;> simp only [newarray.typeOf, componentBytes] <;> omega
    · refine zsz fun hle => ?_
      have hq := z_fresh hsz hlen hP1 hD1 hle
      subst hq
      have hcA : cA = dA a := by
        have r1 := (hK1.2 9 (cA, newarray.typeOf t) rfl).2
        have r2 := (hK.2 a _ (ztys_at hat)).2
        have ha2 := Nat.le_of_ble_eq_true ha2
        match a, hat, ha2 with
        | 0, hat, _ => dsimp only at r1 r2; rw [← Option.some.inj hat] at r1 r2; exact Option.some.inj (r1.symm.trans r2)
        | 1, hat, _ => dsimp only at r1 r2; rw [← Option.some.inj hat] at r1 r2; exact Option.some.inj (r1.symm.trans r2)
        | 2, hat, _ => dsimp only at r1 r2; rw [← Option.some.inj hat] at r1 r2; exact Option.some.inj (r1.symm.trans r2)
        | a + 3, _, h => omega
      subst hcA
      exact hP _ hs3 H1 locs ls (by dsimp only; rw [zco_app, hzd]; exact hP1) hS1 hl (by dsimp only; rw [List.length_append, List.length_singleton]; omega)
  | anewarray ix =>
    simp only [zins] at hs
    obtain ⟨rfl, hd⟩ := zde_s hde (fun h => absurd h (Nat.succ_ne_zero _))
    obtain ⟨x, t', hst, hs0⟩ := z1i_s hs
    obtain ⟨h0, hs1⟩ := zif_s hs0
    obtain ⟨h1, hs2⟩ := zif_s hs1
    obtain ⟨h2, hs3⟩ := zif_s hs2
    have h0 := of_decide_eq_true h0
    have h1 := Nat.le_of_ble_eq_true h1
    have h2 := Nat.le_of_ble_eq_true h2
    clear hs hs0 hs1 hs2
    subst hst
    simp only [zlk, Bool.and_eq_true, decide_eq_true_eq] at hlk
    obtain ⟨⟨⟨ha3, hat⟩, hao⟩, hbig⟩ := hlk
    have hbig := Nat.le_of_ble_eq_true hbig
    have ha3 := Nat.le_of_ble_eq_true ha3
    have hxn : x.toNatClampNeg = bb := by
      rw [h0]
      show (Int32.ofNat bb).toInt.toNat = bb
      rw [Int32.toInt_ofNat_of_lt (by omega)]
      omega
    have hx0 : ¬ x < 0 := by
      rw [h0, Int32.not_lt, Int32.le_iff_toInt_le, Int32.toInt_ofNat_of_lt (by omega)]
      show (0 : Int) ≤ _
      omega
    have hzd : zda a bb = (bb, .inr (.inr (.inr (.inr (fun _ => none))))) := by
      unfold zda
      rw [show Nat.ble a 2 = false from Bool.eq_false_iff.mpr (fun h => by have := Nat.le_of_ble_eq_true h; omega)]
    refine va_newq hx hb hown (hwd _ List.mem_cons_self) (hN.2.2.1 _ hao) hK hPw hD hS hA hx0 hxn (by omega) (Nat.le_trans h1 hR.2.2.1) (Nat.le_trans h2 hR.2.2.2) hd (fun q cA H1 hK1 hP1 hD1 hS1 => ?_)
    refine zsz fun hle => ?_
    have hq := z_fresh hsz hlen hP1 hD1 hle
    subst hq
    have hcA : cA = dA a := by
      obtain ⟨_, _, _, _, _, r1⟩ := (hK1.2 9 (cA, .object (zcn (zec a))) rfl).2
      obtain ⟨_, _, _, _, _, r2⟩ := (hK.2 a _ (ztys_at hat)).2
      exact Option.some.inj (r1.symm.trans r2)
    subst hcA
    exact hP _ hs3 H1 locs ls (by dsimp only; rw [zco_app, hzd]; exact hP1) hS1 hl (by dsimp only; rw [List.length_append, List.length_singleton]; omega)
  | aaload =>
    simp only [zins] at hs
    obtain ⟨rfl, hd⟩ := zde_s hde (fun h => absurd h (Nat.succ_ne_zero _))
    rcases zia_s hs with ⟨i, q, t, hst, hs1⟩ | ⟨i, j, t, hst, hs1⟩
    · obtain ⟨ti, len, g, hq, hs2⟩ := zaq_s hs1
      obtain ⟨hti, hi, hs3⟩ := zif_s hs2
      clear hs hs1 hs2
      subst hst
      simp only [Bool.and_eq_true] at hti
      obtain ⟨ht1, ht2⟩ := hti
      have ht1 := Nat.le_of_ble_eq_true ht1
      have ht2 := Nat.le_of_ble_eq_true ht2
      obtain ⟨C, hC⟩ : ∃ C, (ztys dA)[ti]? = some (dA ti, .object C) := by
        match ti, ht1, ht2 with
        | 3, _, _ => exact ⟨_, rfl⟩
        | 4, _, _ => exact ⟨_, rfl⟩
        | 5, _, _ => exact ⟨_, rfl⟩
        | 6, _, _ => exact ⟨_, rfl⟩
        | 7, _, _ => exact ⟨_, rfl⟩
        | 8, _, _ => exact ⟨_, rfl⟩
        | n + 9, _, h => omega
      refine va_aldq hx hb hK hPw q ti (zco_at hq) hC hi hd ?_
      rw [zv_rf b sc]
      exact hP _ hs3 H locs ls hPw hS hl hlen
    · exact hs1.elim
  | aastore =>
    simp only [zins] at hs
    obtain ⟨rfl, hd⟩ := zde_s hde (fun h => absurd h (Nat.succ_ne_zero _))
    obtain ⟨v, i, q, t, hst, hs1⟩ := zvia_s hs
    obtain ⟨ti, len, g, hq, hs2⟩ := zaq_s hs1
    obtain ⟨hti, hs3⟩ := zif_s hs2
    clear hs hs1 hs2
    subst hst
    simp only [Bool.and_eq_true] at hti
    obtain ⟨ht1, ht2⟩ := hti
    have ht1 := Nat.le_of_ble_eq_true ht1
    have ht2 := Nat.le_of_ble_eq_true ht2
    have hup : ∀ o : Option Nat, (fun j => (va_up g i.toNatClampNeg o j).map (b + ·)) = va_up (fun j => (g j).map (b + ·)) i.toNatClampNeg (o.map (b + ·)) := by
      intro o
      funext j
      unfold va_up
      split <;> rfl
    rcases zrn2_s hs3 with ⟨q2, hv, hs4⟩ | ⟨hv, hi, hs4⟩
    · obtain ⟨fs, hq2, hi, hs5⟩ := zob_s hs4
      clear hs3 hs4
      subst hv
      obtain ⟨r, hr1, hr2⟩ : ∃ r : vw_C, zcls[zec ti]? = some r ∧ (ztys dA)[ti]? = some (dA ti, .object r.1) := by
        match ti, ht1, ht2 with
        | 3, _, _ => exact ⟨_, rfl, rfl⟩
        | 4, _, _ => exact ⟨_, rfl, rfl⟩
        | 5, _, _ => exact ⟨_, rfl, rfl⟩
        | 6, _, _ => exact ⟨_, rfl, rfl⟩
        | 7, _, _ => exact ⟨_, rfl, rfl⟩
        | 8, _, _ => exact ⟨_, rfl, rfl⟩
        | n + 9, _, h => omega
      refine va_astq hx hb hK hPw hD hS q ti q2 (zec ti) (zco_at hq) hr2 (zco_at hq2) hr1 hi hd (fun H1 locs1 hP1 _ hS1 => hP _ hs5 H1 locs1 ls ?_ hS1 hl (by dsimp only; rw [zst_eq, List.length_set]; exact hlen))
      dsimp only
      rw [zst_eq, zco_set]
      have he : zcc b sc dA (.inl (ti, len, .inr (.inr (.inr (.inr (va_up g i.toNatClampNeg (some q2))))))) = .inl (dA ti, len, .inr (.inr (.inr (.inr (va_up (fun j => (g j).map (b + ·)) i.toNatClampNeg (some (b + q2))))))) := by
        have := hup (some q2)
        show (Sum.inl (dA ti, len, Sum.inr (Sum.inr (Sum.inr (Sum.inr (fun j => (va_up g i.toNatClampNeg (some q2) j).map (b + ·)))))) : va_E) = _
        rw [this]
        rfl
      rw [he]
      exact hP1
    · clear hs3
      subst hv
      obtain ⟨C, hC⟩ : ∃ C, (ztys dA)[ti]? = some (dA ti, .object C) := by
        match ti, ht1, ht2 with
        | 3, _, _ => exact ⟨_, rfl⟩
        | 4, _, _ => exact ⟨_, rfl⟩
        | 5, _, _ => exact ⟨_, rfl⟩
        | 6, _, _ => exact ⟨_, rfl⟩
        | 7, _, _ => exact ⟨_, rfl⟩
        | 8, _, _ => exact ⟨_, rfl⟩
        | n + 9, _, h => omega
      refine va_astqN hx hb hK hPw hD hS q ti (zco_at hq) hC hi hd (fun H1 locs1 hP1 _ hS1 => hP _ hs4 H1 locs1 ls ?_ hS1 hl (by dsimp only; rw [zst_eq, List.length_set]; exact hlen))
      dsimp only
      rw [zst_eq, zco_set]
      have he : zcc b sc dA (.inl (ti, len, .inr (.inr (.inr (.inr (va_up g i.toNatClampNeg none)))))) = .inl (dA ti, len, .inr (.inr (.inr (.inr (va_up (fun j => (g j).map (b + ·)) i.toNatClampNeg none))))) := by
        have := hup none
        show (Sum.inl (dA ti, len, Sum.inr (Sum.inr (Sum.inr (Sum.inr (fun j => (va_up g i.toNatClampNeg none j).map (b + ·)))))) : va_E) = _
        rw [this]
        rfl
      rw [he]
      exact hP1
  | invokestatic ix =>
    simp only [zins] at hs
    obtain ⟨rfl, hd⟩ := zde_s hde (fun h => absurd h (Nat.succ_ne_zero _))
    rcases zor_s hs with ⟨h100, hs1⟩ | ⟨h100, hs1⟩
    · obtain ⟨x, y, t, hst, hs2⟩ := z2i_s hs1
      obtain ⟨hc, hs3⟩ := zif_s hs2
      simp only [Bool.and_eq_true] at hc
      obtain ⟨⟨h1, h2⟩, h3, h4⟩ := hc
      have h1 := Nat.le_of_ble_eq_true h1
      have h2 := zrm_s (b := b) (sc := sc) h2
      have h3 := Nat.le_of_ble_eq_true h3
      have h4 := Nat.le_of_ble_eq_true h4
      have hwd : ∀ w ∈ [Cond.methodLink M.1.cls ix Lib.Math.max.name, .static Lib.Math.max.name, .initialized "java/lang/Math", .code Lib.Math.max.name Lib.Math.max.code 2 (some .int)], w.before args s = true := by
        simp only [zrq, h100] at hwd
        exact hwd
      clear hs hs1 hs2
      subst hst
      exact va_mmax hx hb (hml.trans hl.1.symm) hown (hwd _ List.mem_cons_self) (hwd _ (List.mem_cons_of_mem _ List.mem_cons_self)) (hwd _ (List.mem_cons_of_mem _ (List.mem_cons_of_mem _ List.mem_cons_self))) (hwd _ (List.mem_cons_of_mem _ (List.mem_cons_of_mem _ (List.mem_cons_of_mem _ List.mem_cons_self)))) (by omega) (by omega) (Nat.le_trans h3 hR.2.2.1) (Nat.le_trans h4 hR.2.2.2) hd (hP _ hs3 H locs ls hPw hS hl hlen)
    rcases zor_s hs1 with ⟨h101, hs1⟩ | ⟨h101, hs1⟩
    · obtain ⟨x, y, t, hst, hs2⟩ := z2i_s hs1
      obtain ⟨hc, hs3⟩ := zif_s hs2
      simp only [Bool.and_eq_true] at hc
      obtain ⟨⟨h1, h2⟩, h3, h4⟩ := hc
      have h1 := Nat.le_of_ble_eq_true h1
      have h2 := zrm_s (b := b) (sc := sc) h2
      have h3 := Nat.le_of_ble_eq_true h3
      have h4 := Nat.le_of_ble_eq_true h4
      have hwd : ∀ w ∈ [Cond.methodLink M.1.cls ix Lib.Math.min.name, .static Lib.Math.min.name, .initialized "java/lang/Math", .code Lib.Math.min.name Lib.Math.min.code 2 (some .int)], w.before args s = true := by
        simp only [zrq, h100, h101] at hwd
        exact hwd
      clear hs hs1 hs2
      subst hst
      exact va_mmin hx hb (hml.trans hl.1.symm) hown (hwd _ List.mem_cons_self) (hwd _ (List.mem_cons_of_mem _ List.mem_cons_self)) (hwd _ (List.mem_cons_of_mem _ (List.mem_cons_of_mem _ List.mem_cons_self))) (hwd _ (List.mem_cons_of_mem _ (List.mem_cons_of_mem _ (List.mem_cons_of_mem _ List.mem_cons_self)))) (by omega) (by omega) (Nat.le_trans h3 hR.2.2.1) (Nat.le_trans h4 hR.2.2.2) hd (hP _ hs3 H locs ls hPw hS hl hlen)
    rcases zor_s hs1 with ⟨h102, hs1⟩ | ⟨h102, hs1⟩
    · obtain ⟨q0, sp, q1, dp, mm, t, hst, hs2⟩ := zcpy_s hs1
      obtain ⟨hc, hs3⟩ := zif_s hs2
      obtain ⟨t0, n0, f, hq0, hs4⟩ := zai_s hs3
      obtain ⟨t1, n1, g, hq1, hs5⟩ := zai_s hs4
      obtain ⟨ht, ⟨⟨c1, c2, c3⟩, ⟨c4, c5⟩, c6⟩, hs6⟩ := zif_s hs5
      simp only [Bool.and_eq_true] at hc ht
      obtain ⟨h1, h2⟩ := hc
      have h1 := Nat.le_of_ble_eq_true h1
      have h2 := zrm_s (b := b) (sc := sc) h2
      obtain ⟨ht, ht0⟩ := ht
      have ht := Nat.eq_of_beq_eq_true ht
      have ht0 := Nat.le_of_ble_eq_true ht0
      have hwd : ∀ w ∈ [Cond.methodLink M.1.cls ix arraycopyName, .native arraycopyName, .static arraycopyName, .initialized "java/lang/System"], w.before args s = true := by
        simp only [zrq, h100, h101, h102] at hwd
        exact hwd
      clear hs hs1 hs2 hs3 hs4 hs5
      subst hst ht
      have hnw : nativeFrameWords "java/lang/System" "arraycopy" 5 = 7 := by decide +kernel
      have hty : (ztys dA)[t0]? = some (dA t0, zaty t0) ∧ refKind (zaty t0) = false := by
        match t0, ht0 with
        | 0, _ => exact ⟨rfl, rfl⟩
        | 1, _ => exact ⟨rfl, rfl⟩
        | n + 2, h => omega
      refine va_copyi hx hb (hml.trans hl.1.symm) hown (hwd _ List.mem_cons_self) (hwd _ (List.mem_cons_of_mem _ List.mem_cons_self)) (hwd _ (List.mem_cons_of_mem _ (List.mem_cons_of_mem _ List.mem_cons_self))) (hwd _ (List.mem_cons_of_mem _ (List.mem_cons_of_mem _ (List.mem_cons_of_mem _ List.mem_cons_self)))) hK hPw hD hS q0 q1 t0 t0 (zco_at hq0) (zco_at hq1) hty.1 hty.1 hty.2 c1 c2 c3 c4 c5 c6 (by omega) (by rw [hnw]; omega) hd (fun H1 locs1 hP1 _ hS1 => hP _ hs6 H1 locs1 ls ?_ hS1 hl (by dsimp only; rw [zst_eq, List.length_set]; exact hlen))
      dsimp only
      rw [zst_eq, zco_set]
      exact hP1
    obtain ⟨hc, hs2⟩ := zif_s hs1
    simp only [Bool.and_eq_true] at hc
    have hle := Nat.le_of_ble_eq_true hc.1
    have hrm := zrm_s (b := b) (sc := sc) hc.2
    simp only [zrq, h100, h101, h102] at hwd hwz
    simp only [zlk, h100, h101, h102, Bool.false_or] at hlk
    simp only [zcallok, Bool.and_eq_true, decide_eq_true_eq] at hlk
    obtain ⟨⟨⟨⟨hhas, hy1⟩, hy2⟩, hpd⟩, hnest⟩ := hlk
    have hcode : zcode (zmat tab a) ∈ zt tab := hwz _ (List.mem_append_left _ List.mem_cons_self)
    refine z_inv hb hx hml hown hts hgood htab hK hN hXs hsz hR hsnd hP rfl hcode hPw hS hl hlen hhas hs2 ?_
    intro mc' ms' Pc Qc h16 hd1 hMet hbl hpre hf
    have hn : (((S.take bb).reverse).map (zv b sc)).length = bb := by simp [Nat.min_eq_left hle]
    have hstk : S.map (zv b sc) = (((S.take bb).reverse).map (zv b sc)).reverse ++ (S.drop bb).map (zv b sc) := by
      rw [List.map_reverse, List.reverse_reverse, ← List.map_append, List.take_append_drop]
    have hroom : (zroom (d - 1) mc' ms').frames + 1 ≤ R.frames ∧ 8 + ((zmat tab a).2.2.1 + 11) + (zroom (d - 1) mc' ms').locals ≤ R.locals := by
      simp only [zroom]
      constructor <;> omega
    cases hpb : zpub M.1.cls (zmat tab a).1 with
    | true =>
      simp only [zlw, hpb] at hwd
      exact va_runS ⟨hx, hb, hml, hown, hts⟩ hMet ⟨callB_of bb hts (zgood_in hgood hcode) rfl rfl rfl (hwd _ (List.mem_append_left _ (List.mem_cons_of_mem _ (List.mem_cons_of_mem _ List.mem_cons_self)))) (hwd _ (List.mem_append_right _ List.mem_cons_self)) ⟨hy1, hy2, hpd⟩ hroom, hwd _ (List.mem_append_left _ (List.mem_cons_of_mem _ List.mem_cons_self))⟩ ⟨hbl, hpre⟩ rfl hn hl.1 hstk (lv_room hrm) hd hf
    | false =>
      rw [hpb, Bool.false_or] at hnest
      have hnest := of_decide_eq_true hnest
      exact va_runSN ⟨hx, hb, hml, hown, hts⟩ hMet ⟨va_cnB bb hts (zgood_in hgood hcode) rfl rfl rfl (hN.2.1 _ hnest) (hwd _ (List.mem_append_left _ (List.mem_cons_of_mem _ (List.mem_cons_of_mem _ List.mem_cons_self)))) ⟨hy1, hy2, hpd⟩ hroom, hwd _ (List.mem_append_left _ (List.mem_cons_of_mem _ List.mem_cons_self)), trivial⟩ ⟨hbl, hpre⟩ rfl hn hl.1 hstk (lv_room hrm) hd hf
  | invokevirtual ix =>
    simp only [zins] at hs
    obtain ⟨rfl, hd⟩ := zde_s hde (fun h => absurd h (Nat.succ_ne_zero _))
    rcases zor_s hs with ⟨h10, hs0⟩ | ⟨h10, hs0⟩
    · -- a method of Lines
      obtain ⟨hc, hs1⟩ := zif_s hs0
      have hle := Nat.le_of_ble_eq_true hc
      obtain ⟨q, t, hst, hs2⟩ := z1r_s hs1
      obtain ⟨fs, ci, a', hq, hcase, hs3⟩ := zvt_s hs2
      obtain ⟨hrm, hs4⟩ := zif_s hs3
      have hrm := zrm_s (b := b) (sc := sc) hrm
      simp only [zrq, h10] at hwd hwz
      simp only [zlk, h10, Bool.and_eq_true] at hlk
      have hall : (∀ w ∈ zaq3 tab M.1.cls ix ci a', w.before args s = true) ∧ (∀ w ∈ zaq3 tab M.1.cls ix ci a', w ∈ zt tab) ∧ zabok tab ci a' (bb - 10) = true ∧ ci ≤ 11 := by
        rcases hcase with ⟨rfl, rfl⟩ | ⟨rfl, rfl⟩ | ⟨rfl, rfl⟩
        · exact ⟨fun w hw => hwd w (List.mem_append_left _ hw), fun w hw => hwz w (List.mem_append_left _ hw), hlk.1, by decide⟩
        · exact ⟨fun w hw => hwd w (List.mem_append_right _ (List.mem_append_left _ hw)), fun w hw => hwz w (List.mem_append_right _ (List.mem_append_left _ hw)), hlk.2.1, by decide⟩
        · exact ⟨fun w hw => hwd w (List.mem_append_right _ (List.mem_append_right _ hw)), fun w hw => hwz w (List.mem_append_right _ (List.mem_append_right _ hw)), hlk.2.2, by decide⟩
      clear hcase hwd hwz hlk hs hs0 hs1 hs2 hs3
      obtain ⟨hwd, hwz, hok, h11⟩ := hall
      simp only [zabok, Bool.and_eq_true, decide_eq_true_eq] at hok
      obtain ⟨hhas, hpd, hdl⟩ := hok
      have hcode : zcode (zmat tab a') ∈ zt tab := hwz _ (by unfold zaq3; simp)
      refine z_inv hb hx hml hown hts hgood htab hK hN hXs hsz hR hsnd hP rfl hcode hPw hS hl hlen hhas hs4 ?_
      intro mc' ms' Pc Qc h16 hd1 hMet hbl hpre hf
      have hn : (((S.take (bb - 10)).reverse).map (zv b sc)).length = bb - 10 := by simp [Nat.min_eq_left hle]
      have hstk : S.map (zv b sc) = (((S.take (bb - 10)).reverse).map (zv b sc)).reverse ++ .ref (b + q) :: t.map (zv b sc) := by
        have h0 : S.map (zv b sc) = (S.take (bb - 10)).map (zv b sc) ++ (S.drop (bb - 10)).map (zv b sc) := by rw [← List.map_append, List.take_append_drop]
        rw [List.map_reverse, List.reverse_reverse, h0, hst]
        rfl
      have hroom : (zroom (d - 1) mc' ms').frames + 1 ≤ R.frames ∧ 8 + ((zmat tab a').2.2.1 + 11) + (zroom (d - 1) mc' ms').locals ≤ R.locals := by
        simp only [zroom]
        constructor <;> omega
      have hrec : ∃ cell : Cell, H[b + q]? = some cell ∧ cell.vm.isStatics = false ∧ s.vm.findClass (zcn ci) = some cell.cls := va_recv hK hPw (zcls_at (Or.inr h11)) (zco_at hq)
      have hGi : GoodIn (zt tab) (va_wsU M.1.cls ix (zcn ci) "ReadAloud$Lines" (zabs (zmat tab a').1) (zmat tab a').1 (zws tab (zmat tab a'))) := by
        intro w hw
        unfold va_wsU at hw
        rcases List.mem_append.mp hw with h | h
        · have hm : w ∈ zaq3 tab M.1.cls ix ci a' := by
            unfold zaq3
            simp only [List.mem_cons, List.not_mem_nil, or_false] at h ⊢
            rcases h with h | h | h | h | h
            · exact Or.inl h
            · exact Or.inr (Or.inl h)
            · exact Or.inr (Or.inr (Or.inl h))
            · exact Or.inr (Or.inr (Or.inr (Or.inl h)))
            · exact Or.inr (Or.inr (Or.inr (Or.inr (Or.inl h))))
          exact ⟨hwz w hm, good_of_word (hgood _ (hwz w hm))⟩
        · exact zgood_in hgood hcode w h
      exact va_runU (C := zcn ci) (owner := "ReadAloud$Lines") ⟨hx, hb, hml, hown, hts⟩ hMet (va_cwA (bb - 10) hts hGi rfl rfl rfl (hN.2.2.2 _ hdl) ⟨by decide, by decide, hpd⟩ hroom) ⟨hbl, hrec, hpre⟩ rfl hn hl.1 hstk (lv_room hrm) hd hf
    obtain ⟨hc, hs1⟩ := zif_s hs0
    have hle := Nat.le_of_ble_eq_true hc
    rcases zgf_s hs1 with ⟨q, t, hst, hs2⟩ | ⟨j, t, hst, hs2⟩
    rotate_left
    · -- a String's method
      obtain ⟨hc2, hs3⟩ := zif_s hs2
      simp only [Bool.and_eq_true] at hc2
      obtain ⟨i0, hi0, rfl⟩ := zstr_s hc2.1
      obtain ⟨hrm, hs4⟩ := zif_s hs3
      have hrm := zrm_s (b := b) (sc := sc) hrm
      simp only [zrq, h10] at hwd hwz
      simp only [zlk, h10, zcallok, Bool.and_eq_true, Bool.or_eq_true, decide_eq_true_eq] at hlk
      obtain ⟨⟨⟨⟨⟨hhas, hy1⟩, hy2⟩, hpd⟩, hnest⟩, hcls⟩ := hlk
      have hmc : zmc tab a = (zmat tab a).2.2.2.2.1 := by unfold zmc; rw [zmat_s hhas]
      have h50 := Nat.eq_of_beq_eq_true hc2.2
      have hcls : (zmat tab a).1.cls = "java/lang/String" := by
        rcases hcls with h | h
        · exact h.2
        · have := Nat.le_of_ble_eq_true h.2
          omega
      have hcode : zcode (zmat tab a) ∈ zt tab := hwz _ (List.mem_append_left _ List.mem_cons_self)
      have hXs2 := hXs
      obtain ⟨⟨adK, adV, g1, g2, g3⟩, -, -⟩ := hXs2
      clear hs hs0 hs1 hs2 hs3
      refine z_inv hb hx hml hown hts hgood htab hK hN hXs hsz hR hsnd hP rfl hcode hPw hS hl hlen hhas hs4 ?_
      intro mc' ms' Pc Qc h16 hd1 hMet hbl hpre hf
      have hn : (((S.take bb).reverse).map (zv b sc)).length = bb := by simp [Nat.min_eq_left hle]
      have ez : zv b sc (.retAddr (i0 + 1)) = .ref (adK i0) := by show va_rf (sc (i0 + 1)) = _; rw [(g2 i0 hi0).1]; rfl
      rw [List.map_cons, ez] at hpre
      have hstk : S.map (zv b sc) = (((S.take bb).reverse).map (zv b sc)).reverse ++ .ref (adK i0) :: t.map (zv b sc) := by
        have h0 : S.map (zv b sc) = (S.take bb).map (zv b sc) ++ (S.drop bb).map (zv b sc) := by rw [← List.map_append, List.take_append_drop]
        rw [List.map_reverse, List.reverse_reverse, h0, hst, List.map_cons, ez]
      have hroom : (zroom (d - 1) mc' ms').frames + 1 ≤ R.frames ∧ 8 + ((zmat tab a).2.2.1 + 11) + (zroom (d - 1) mc' ms').locals ≤ R.locals := by
        simp only [zroom]
        constructor <;> omega
      have hrec : ∃ cell : Cell, H[adK i0]? = some cell ∧ cell.vm.isStatics = false ∧ s.vm.findClass (zmat tab a).1.cls = some cell.cls := by
        rw [hcls]
        exact vk_recv g1 hi0 hS
      have hpb : zpub M.1.cls (zmat tab a).1 = true := by
        unfold zpub
        rw [hcls]
        simp [zjdk]
      simp only [zlw, hpb] at hwd
      rw [List.map_cons, ez]
      exact va_runV (C := (zmat tab a).1.cls) ⟨hx, hb, hml, hown, hts⟩ hMet ⟨callB_of bb hts (zgood_in hgood hcode) rfl rfl rfl (hwd _ (List.mem_append_left _ (List.mem_cons_of_mem _ (List.mem_cons_of_mem _ (List.mem_cons_of_mem _ List.mem_cons_self))))) (hwd _ (List.mem_append_right _ List.mem_cons_self)) ⟨hy1, hy2, hpd⟩ hroom, hwd _ (List.mem_append_left _ (List.mem_cons_of_mem _ List.mem_cons_self)), hwd _ (List.mem_append_left _ (List.mem_cons_of_mem _ (List.mem_cons_of_mem _ List.mem_cons_self)))⟩ ⟨hbl, hrec, hpre⟩ rfl hn hl.1 hstk (lv_room hrm) hd hf
    obtain ⟨fs, hq, hs3⟩ := zob_s hs2
    obtain ⟨hrm, hs4⟩ := zif_s hs3
    have hrm := zrm_s (b := b) (sc := sc) hrm
    simp only [zrq, h10] at hwd hwz
    simp only [zlk, h10, zcallok, Bool.and_eq_true, Bool.or_eq_true, decide_eq_true_eq] at hlk
    obtain ⟨⟨⟨⟨⟨hhas, hy1⟩, hy2⟩, hpd⟩, hnest⟩, hcl2⟩ := hlk
    have hmc : zmc tab a = (zmat tab a).2.2.2.2.1 := by unfold zmc; rw [zmat_s hhas]
    have hcl3 : zcn (zmat tab a).2.2.2.2.1 = (zmat tab a).1.cls ∧ (zmat tab a).2.2.2.2.1 ≤ 11 := by
      rcases hcl2 with h | h
      · exfalso
        have h6 := Nat.eq_of_beq_eq_true h.1
        rw [hmc, h6] at hq
        have h7 := (hPw _ _ (zco_at (b := b) (sc := sc) (dA := dA) hq))
        obtain ⟨r9, h8, -⟩ := h7
        cases h8
      · exact ⟨h.1, Nat.le_of_ble_eq_true h.2⟩
    obtain ⟨hcls, h11⟩ := hcl3
    have hcode : zcode (zmat tab a) ∈ zt tab := hwz _ (List.mem_append_left _ List.mem_cons_self)
    rw [hmc] at hq
    refine z_inv hb hx hml hown hts hgood htab hK hN hXs hsz hR hsnd hP rfl hcode hPw hS hl hlen hhas hs4 ?_
    intro mc' ms' Pc Qc h16 hd1 hMet hbl hpre hf
    have hn : (((S.take bb).reverse).map (zv b sc)).length = bb := by simp [Nat.min_eq_left hle]
    have hstk : S.map (zv b sc) = (((S.take bb).reverse).map (zv b sc)).reverse ++ .ref (b + q) :: t.map (zv b sc) := by
      have h0 : S.map (zv b sc) = (S.take bb).map (zv b sc) ++ (S.drop bb).map (zv b sc) := by rw [← List.map_append, List.take_append_drop]
      rw [List.map_reverse, List.reverse_reverse, h0, hst]
      rfl
    have hroom : (zroom (d - 1) mc' ms').frames + 1 ≤ R.frames ∧ 8 + ((zmat tab a).2.2.1 + 11) + (zroom (d - 1) mc' ms').locals ≤ R.locals := by
      simp only [zroom]
      constructor <;> omega
    have hrec : ∃ cell : Cell, H[b + q]? = some cell ∧ cell.vm.isStatics = false ∧ s.vm.findClass (zmat tab a).1.cls = some cell.cls := by
      have h := va_recv hK hPw (zcls_at (Or.inr h11)) (zco_at hq)
      rw [← hcls]
      exact h
    cases hpb : zpub M.1.cls (zmat tab a).1 with
    | true =>
      simp only [zlw, hpb] at hwd
      exact va_runV (C := (zmat tab a).1.cls) ⟨hx, hb, hml, hown, hts⟩ hMet ⟨callB_of bb hts (zgood_in hgood hcode) rfl rfl rfl (hwd _ (List.mem_append_left _ (List.mem_cons_of_mem _ (List.mem_cons_of_mem _ (List.mem_cons_of_mem _ List.mem_cons_self))))) (hwd _ (List.mem_append_right _ List.mem_cons_self)) ⟨hy1, hy2, hpd⟩ hroom, hwd _ (List.mem_append_left _ (List.mem_cons_of_mem _ List.mem_cons_self)), hwd _ (List.mem_append_left _ (List.mem_cons_of_mem _ (List.mem_cons_of_mem _ List.mem_cons_self)))⟩ ⟨hbl, hrec, hpre⟩ rfl hn hl.1 hstk (lv_room hrm) hd hf
    | false =>
      have hnest := hnest.resolve_left (by rw [hpb]; exact Bool.false_ne_true)
      exact va_runVN (C := (zmat tab a).1.cls) ⟨hx, hb, hml, hown, hts⟩ hMet ⟨va_cnB bb hts (zgood_in hgood hcode) rfl rfl rfl (hN.2.1 _ hnest) (hwd _ (List.mem_append_left _ (List.mem_cons_of_mem _ (List.mem_cons_of_mem _ (List.mem_cons_of_mem _ List.mem_cons_self))))) ⟨hy1, hy2, hpd⟩ hroom, hwd _ (List.mem_append_left _ (List.mem_cons_of_mem _ List.mem_cons_self)), hwd _ (List.mem_append_left _ (List.mem_cons_of_mem _ (List.mem_cons_of_mem _ List.mem_cons_self)))⟩ ⟨hbl, hrec, hpre⟩ rfl hn hl.1 hstk (lv_room hrm) hd hf
  | invokespecial ix =>
    simp only [zins] at hs
    obtain ⟨rfl, hd⟩ := zde_s hde (fun h => absurd h (Nat.succ_ne_zero _))
    rcases zor_s hs with ⟨h99, hs1⟩ | ⟨h99, hs1⟩
    · obtain ⟨q, t, hst, hs2⟩ := z1r_s hs1
      obtain ⟨hc, hs3⟩ := zif_s hs2
      simp only [Bool.and_eq_true] at hc
      have h1 := Nat.le_of_ble_eq_true hc.1
      have h2 := zrm_s (b := b) (sc := sc) hc.2
      simp only [zrq, h99] at hwd
      clear hs hs1 hs2
      subst hst
      exact W.objInit (g := F0 m pc ls ((Value.ref q :: t).map (zv b sc))) (rest := t.map (zv b sc)) hx hb hown (hwd _ List.mem_cons_self) (hwd _ (List.mem_cons_of_mem _ List.mem_cons_self)) (hwd _ (List.mem_cons_of_mem _ (List.mem_cons_of_mem _ List.mem_cons_self))) rfl (hl.1.trans hml.symm) rfl hd (by omega) (by show 2 * 0 + _ + 12 ≤ _; omega) (hP _ hs3 H locs ls hPw hS hl hlen)
    obtain ⟨hc, hs1⟩ := zif_s hs1
    have hle := Nat.le_of_ble_eq_true hc
    obtain ⟨q, t, hst, hs2⟩ := z1r_s hs1
    obtain ⟨hrm, hs4⟩ := zif_s hs2
    have hrm := zrm_s (b := b) (sc := sc) hrm
    simp only [zrq, h99] at hwd hwz
    simp only [zlk, h99, Bool.false_or, zcallok, Bool.and_eq_true, decide_eq_true_eq] at hlk
    obtain ⟨⟨⟨⟨⟨⟨hhas, hy1⟩, hy2⟩, hpd⟩, hnest⟩, hini⟩, hrn⟩ := hlk
    have hcode : zcode (zmat tab a) ∈ zt tab := hwz _ (List.mem_append_left _ List.mem_cons_self)
    refine z_inv hb hx hml hown hts hgood htab hK hN hXs hsz hR hsnd hP rfl hcode hPw hS hl hlen hhas hs4 ?_
    intro mc' ms' Pc Qc h16 hd1 hMet hbl hpre hf
    have hn : (((S.take bb).reverse).map (zv b sc)).length = bb := by simp [Nat.min_eq_left hle]
    have hstk : S.map (zv b sc) = (((S.take bb).reverse).map (zv b sc)).reverse ++ .ref (b + q) :: t.map (zv b sc) := by
      have h0 : S.map (zv b sc) = (S.take bb).map (zv b sc) ++ (S.drop bb).map (zv b sc) := by rw [← List.map_append, List.take_append_drop]
      rw [List.map_reverse, List.reverse_reverse, h0, hst]
      rfl
    have hroom : (zroom (d - 1) mc' ms').frames + 1 ≤ R.frames ∧ 8 + ((zmat tab a).2.2.1 + 11) + (zroom (d - 1) mc' ms').locals ≤ R.locals := by
      simp only [zroom]
      constructor <;> omega
    have hwr : zws tab (zmat tab a) = Cond.code (zmat tab a).1 (zmat tab a).2.1 (zmat tab a).2.2.1 none :: zt tab := by
      show zcode (zmat tab a) :: zt tab = _
      unfold zcode
      rw [hrn]
    cases hpb : zpub M.1.cls (zmat tab a).1 with
    | true =>
      simp only [zlw, hpb] at hwd
      exact va_runI ⟨hx, hb, hml, hown, hts⟩ hMet ⟨callB_of bb hts (zgood_in hgood hcode) hwr rfl rfl (hwd _ (List.mem_append_left _ (List.mem_cons_of_mem _ (List.mem_cons_of_mem _ List.mem_cons_self)))) (hwd _ (List.mem_append_right _ List.mem_cons_self)) ⟨hy1, hy2, hpd⟩ hroom, hini, hwd _ (List.mem_append_left _ (List.mem_cons_of_mem _ List.mem_cons_self))⟩ ⟨hbl, hpre⟩ rfl hn hl.1 hstk (lv_room hrm) hd hf
    | false =>
      rw [hpb, Bool.false_or] at hnest
      have hnest := of_decide_eq_true hnest
      exact va_runIN ⟨hx, hb, hml, hown, hts⟩ hMet ⟨va_cnB bb hts (zgood_in hgood hcode) hwr rfl rfl (hN.2.1 _ hnest) (hwd _ (List.mem_append_left _ (List.mem_cons_of_mem _ (List.mem_cons_of_mem _ List.mem_cons_self)))) ⟨hy1, hy2, hpd⟩ hroom, hini, hwd _ (List.mem_append_left _ (List.mem_cons_of_mem _ List.mem_cons_self))⟩ ⟨hbl, hpre⟩ rfl hn hl.1 hstk (lv_room hrm) hd hf
  | _ => exact hs.elim
end ZU
