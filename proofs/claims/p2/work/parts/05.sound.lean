section ZT
variable {p : Program} {l : Launch} {e : Env} {R : Room} {s : State} {m : MethodId} {args : Array Value} {below : List Frame} {meth : Method} {c : Code} {QW : State → Prop}
theorem zgood_in {tab : List zM} (hgood : ∀ w ∈ zt tab, goodWord w = true) {M : zM} (h : zcode M ∈ zt tab) : GoodIn (zt tab) (zws tab M) := by
  intro w hw
  rcases List.mem_cons.mp hw with rfl | hw
  · exact ⟨h, good_of_word (hgood _ h)⟩
  · exact ⟨hw, good_of_word (hgood _ hw)⟩
theorem zmat_s {tab : List zM} {a : Nat} (h : zhas tab a = true) : zix tab a = some (zmat tab a) := by
  unfold zhas at h
  unfold zmat
  split at h
  next hz => rw [hz]
  · cases h
theorem zpub_s {own : String} {y : MethodName} (h : zpub own y = false) {X : Prop} {A : Prop} [Decidable A] (h2 : (zpub own y || decide A) = true) : A := by
  rw [h, Bool.false_or] at h2
  exact of_decide_eq_true h2
/-- a call by what the callee's contract says, of whichever kind -/
theorem z_inv {tab : List zM} {d : Nat} {M : zM} {mc ms b z0 : Nat} {sc : Nat → Option Nat} {D : va_G} {dA : Nat → Nat} {P : zS → Prop}
    (hb : c.code = M.2.1) (hx : p.tables.exec = Jvm.exec) (hml : c.maxLocals = M.2.2.1) (hown : s.vm.findClass M.1.cls = some m.cls) (hts : ∀ w ∈ zt tab, w.before args s = true) (hgood : ∀ w ∈ zt tab, goodWord w = true) (htab : ∀ M' ∈ tab, zokM tab M') (hK : va_K D zcls (ztys dA) s) (hN : zN s) (hXs : zXs b sc s s.heap) (hsz : s.heap.size = b + z0)
    (hR : d ≤ R.frames ∧ 35 * d ≤ R.locals ∧ mc ≤ R.cells ∧ ms ≤ R.slots) (hsnd : zSnd tab l d) (hP : ∀ y, P y → zOK p l e R s m args below meth c QW b sc D dA M.2.2.1 z0 y)
    {pc a np : Nat} {L : zL} {As St0 St : List Value} {w : zW} {k n : Nat} {H : Heap} {locs : List Loc} {ls : Array Slot} (hnp : np = pc + 3) (hcc : zcode (zmat tab a) ∈ zt tab)
    (hPw : va_P D zcls (zco b sc dA b w) H) (hS : va_S (fun q => b ≤ q) s.heap H locs) (hl : lv_has ls M.2.2.1 (zpr b sc L)) (hlen : w.length = z0 + k) (hhas : zhas tab a = true)
    (hcall : zcall (zCl tab d) a As St w k n mc ms np L P)
    (hrun : ∀ (mc' ms' : Nat) (Pc : Array Value → State → Prop) (Qc : Array Value → State → Outcome → State → Prop), (zmat tab a).2.2.1 ≤ 16 → 1 ≤ d → Met l (zmat tab a).1 (zws tab (zmat tab a)) (zroom (d - 1) mc' ms') Pc Qc mc' ms' (fun q => b ≤ q) → FrameBlind Pc → (∀ U : State, U.heap = H → s.WarmedH U.vm → Pc (As.map (zv b sc)).toArray U) → (k + mc' ≤ R.cells ∧ n + ms' ≤ R.slots) → va_Run p l e R s m args below meth c H locs k n mc' ms' (F0 m pc ls St0) (St.map (zv b sc)) (Qc (As.map (zv b sc)).toArray) (fun q => b ≤ q)) :
    W p l e R s m args below meth c H locs k n QW (F0 m pc ls St0) := by
  refine zsz fun hle => ?_
  have hHs := z_size hsz hPw hS hlen hle
  obtain ⟨mc', ms', ⟨h1, h2⟩, hC⟩ := hcall
  have hM' := zmat_s hhas
  obtain ⟨hd, hMet⟩ := hsnd a As w mc' ms' _ _ hM' hC
  have hmem : zmat tab a ∈ tab := by rw [zix_eq] at hM'; exact List.mem_of_getElem? hM'
  have h16 : (zmat tab a).2.2.1 ≤ 16 := by
    have h := (htab _ hmem).2.2
    simp only [Bool.and_eq_true] at h
    exact Nat.le_of_ble_eq_true h.1
  refine z_call (hrun mc' ms' _ _ h16 hd (hMet b sc D dA) zPc_blind (fun U hU hW => ⟨rfl, by rw [hU]; exact hHs, by rw [hU]; exact hPw, va_K.moved hW.alike hK, hN.warm hW, hXs.next hS hU hW⟩) ⟨Nat.le_trans h1 hR.2.2.1, Nat.le_trans h2 hR.2.2.2⟩) hS ?_
  intro r w' H1 locs1 hq hw' hP1 hS1
  have hz := hP _ hq H1 locs1 ls hP1 hS1 hl (by dsimp only; omega)
  subst hnp
  refine W.eq (g2 := F0 m (pc + 3) ls ((r.toList ++ St).map (zv b sc))) ?_ hz
  congr 1
  cases r <;> simp
end ZT
