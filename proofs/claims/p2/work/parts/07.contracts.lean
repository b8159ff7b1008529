/-! THE PURE MACHINE'S CALLS ARE CONTRACTS OF THE MACHINE. -/
theorem zsl_len (b : Nat) (sc : Nat → Option Nat) : ∀ As : List Value, (lg_sl (As.map (zv b sc))).length = (lg_sl As).length
  | [] => rfl
  | v :: t => by
    have h1 := zsl_len b sc t
    unfold lg_sl at h1 ⊢
    rw [List.map_cons, List.flatMap_cons, List.flatMap_cons, List.length_append, List.length_append, h1, zv_cat]
    split <;> rfl
theorem zcall_mem {tab : List zM} {a : Nat} {M : zM} (h : zix tab a = some M) : M ∈ tab := by
  rw [zix_eq] at h
  exact List.mem_of_getElem? h
theorem zentry {b n : Nat} {sc : Nat → Option Nat} {As : List Value} {ls : Array Slot} (h : lv_has ls n (lv_args 0 (As.map (zv b sc)))) : lv_has ls n (zpr b sc (zent n As)) := by
  refine ⟨h.1, h.2.1, fun q hq => h.2.2 q ?_⟩
  obtain ⟨u, h1, h2⟩ := zpr_mem.mp hq
  have h3 := zent_mem b sc As n 0 q.1 u h1
  rw [Nat.zero_add, ← h2] at h3
  exact h3
set_option maxHeartbeats 2000000 in
theorem z_snd {tab : List zM} {l : Launch} (hgood : ∀ w ∈ zt tab, goodWord w = true) (htab : ∀ M' ∈ tab, zokM tab M') : ∀ d, zSnd tab l d := by
  intro d
  induction d with
  | zero => exact fun a As w mc ms Q M _ h => h.elim
  | succ d ih =>
    intro a As w mc ms Q M hM hC
    refine ⟨Nat.succ_le_succ (Nat.zero_le _), fun b sc D dA => ?_⟩
    have hMem := zcall_mem hM
    have hC : (lg_sl As).length ≤ M.2.2.1 ∧ zwp (zCl tab d) d M none tab mc ms Q (0, zent M.2.2.1 As, [], w, 0, 0) := by
      unfold zCl at hC
      rw [hM] at hC
      exact hC
    obtain ⟨hlen, hwp⟩ := hC
    have hpl : plainName M.1.cls = true := by
      have h := (htab _ hMem).2.2
      simp only [Bool.and_eq_true] at h
      exact h.2
    refine Met.ofW (cc := M.2.1) (maxL := M.2.2.1) (ret := M.2.2.2.1) hpl rfl ?_
    intro p e s m args below meth c s₁ B hml hv
    obtain ⟨rfl, hsz, hP, hK, hN, hXs⟩ := hv
    have hx := B.exec
    have hb := B.bytes
    have hr := B.returns
    have hts0 := atoms_spec (ws := zws tab M) B.pre
    have hts : ∀ w ∈ zt tab, w.before (As.map (zv b sc)).toArray s = true := fun w hw => hts0 w (List.mem_cons_of_mem _ hw)
    have hown : s.vm.findClass M.1.cls = some m.cls := findClass_of_methodNamed B.named
    have hlocks := B.notSynchronized
    have hnm : meth.name = M.1.name := (name_of_methodNamed B.named B.method).1
    have hl := zentry (lv_entry (As.map (zv b sc)) (n := M.2.2.1) (by rw [zsl_len]; exact hlen))
    rw [lg_entry_eq]
    have key := hwp (zOK p l e (zroom d mc ms) s m (As.map (zv b sc)).toArray below meth c (MQ below (zQc b sc D dA w.length mc Q) (As.map (zv b sc)).toArray s mc ms (fun q => b ≤ q)) b sc D dA M.2.2.1 w.length) ?_
    · exact key s.heap [] _ hP va_S.rf hl rfl
    · rintro y ⟨P, hPR, hstep⟩
      refine z_step (R := zroom d mc ms) hb hx hml hown hts hgood hMem htab hK hN hXs hsz (fun h => hnm.trans h) ⟨Nat.le_refl _, Nat.le_refl _, Nat.le_refl _, Nat.le_refl _⟩ ih (fun q h => by cases h) ?_ hPR hstep
      intro i pc v w' H locs ls k n hd hzr hq hfin hP1 hS1 hlen1
      obtain ⟨rfl, hn⟩ := hfin
      refine W.widen (Nat.le_refl _) hn ?_
      have hF : ∀ t : State, t.heap = H → va_F (fun q => b ≤ q) s t := fun t ht => hS1.F ht
      cases i with
      | ireturn =>
        obtain ⟨x, rfl, hz⟩ := hzr
        have hq2 : ∀ t : State, t.heap = H → s.WarmedH t.vm → zQc b sc D dA w.length k Q (As.map (zv b sc)).toArray s (.returned (some (.int x))) t := fun t ht _ => ⟨⟨some (.int x), w', hq, hlen1, rfl, by rw [ht]; exact hP1⟩, hF t ht⟩
        unfold zret at hz
        simp only at hz
        split at hz
        · rename_i hret
          exact W.iret hx hb (by rw [hr]; exact hret) hq2 hS1.2.2 hd
        · rename_i hret
          refine W.zret (ty := .boolean) hx hb (by rw [hr]; exact hret) ?_ hq2 hS1.2.2 hd
          rcases hz with rfl | rfl <;> rfl
        · rename_i hret
          exact W.zret (ty := .byte) hx hb (by rw [hr]; exact hret) hz hq2 hS1.2.2 hd
        · rename_i hret
          exact W.zret (ty := .char) hx hb (by rw [hr]; exact hret) hz hq2 hS1.2.2 hd
        · exact hz.elim
      | lreturn =>
        obtain ⟨x, rfl, hz⟩ := hzr
        have hq2 : ∀ t : State, t.heap = H → s.WarmedH t.vm → zQc b sc D dA w.length k Q (As.map (zv b sc)).toArray s (.returned (some (.long x))) t := fun t ht _ => ⟨⟨some (.long x), w', hq, hlen1, rfl, by rw [ht]; exact hP1⟩, hF t ht⟩
        unfold zret at hz
        simp only at hz
        split at hz
        · rename_i hret
          exact W.lret hx hb (by rw [hr]; exact hret) hq2 hS1.2.2 hd
        · exact hz.elim
      | areturn =>
        rcases hzr with ⟨rfl, hz⟩ | ⟨q, rfl, hz⟩
        · have hq2 : ∀ t : State, t.heap = H → s.WarmedH t.vm → zQc b sc D dA w.length k Q (As.map (zv b sc)).toArray s (.returned (some .null)) t := fun t ht _ => ⟨⟨some .null, w', hq, hlen1, rfl, by rw [ht]; exact hP1⟩, hF t ht⟩
          unfold zret at hz
          simp only at hz
          split at hz
          · rename_i hret
            exact W.aret hx hb (by rw [hr]; exact hret) (Or.inl ⟨_, rfl⟩) (Or.inl rfl) hq2 hS1.2.2 hd
          · exact hz.elim
        · have hq2 : ∀ t : State, t.heap = H → s.WarmedH t.vm → zQc b sc D dA w.length k Q (As.map (zv b sc)).toArray s (.returned (some (.ref (b + q)))) t := fun t ht _ => ⟨⟨some (.ref q), w', hq, hlen1, rfl, by rw [ht]; exact hP1⟩, hF t ht⟩
          unfold zret at hz
          simp only at hz
          split at hz
          · rename_i hret
            exact W.aret hx hb (by rw [hr]; exact hret) (Or.inl ⟨_, rfl⟩) (Or.inr ⟨_, rfl⟩) hq2 hS1.2.2 hd
          · exact hz.elim
      | return_ =>
        obtain ⟨rfl, hz⟩ := hzr
        exact W.vret hx hb (by rw [hr]; exact hz) (fun t ht _ => ⟨⟨none, w', hq, hlen1, rfl, by rw [ht]; exact hP1⟩, hF t ht⟩) hS1.2.2 hd
      | _ => exact hzr.elim
