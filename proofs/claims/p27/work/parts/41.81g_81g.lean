/-! KINSHIP: both sides, exactly. -/
noncomputable def krP (F : Int → Int) (w : Int) : Int := if F (F (F (F (F w)))) = F (F (F (F w))) then 1 else if F (F (F (F (F (F w))))) = F (F (F (F w))) then 2 else if F (F (F (F (F (F (F w)))))) = F (F (F (F w))) then 3 else 4
noncomputable def inP (F : Int → Int) (w : Int) : Int := if F w = w then 1 else if F (F w) = w then 1 else if F (F (F w)) = w then 1 else if F (F (F (F w))) = w then 1 else 0
theorem inP_r (F : Int → Int) (w : Int) : 0 ≤ inP F w ∧ inP F w ≤ 1 := by
  unfold inP
  (repeat' split) <;> omega
noncomputable def kuP (F : Int → Int) (w : Int) : Int := if inP F w ≠ 0 then 0 else if inP F (F w) ≠ 0 then 1 else if inP F (F (F w)) ≠ 0 then 2 else if inP F (F (F (F w))) ≠ 0 then 3 else 4
noncomputable def krQ (F : Int → Int) (w : Int) : Int := if F w = w then 1 else if F (F w) = w then 2 else if F (F (F w)) = w then 3 else if F (F (F (F w))) = w then 4 else if F (F (F (F (F w)))) = w then 5 else 0
theorem krQ_r (F : Int → Int) (w : Int) : 0 ≤ krQ F w ∧ krQ F w ≤ 5 := by
  unfold krQ
  (repeat' split) <;> omega
noncomputable def kuQ (F : Int → Int) (w : Int) : Int := if krQ F w ≠ 0 then 0 else if krQ F (F w) ≠ 0 then 1 else if krQ F (F (F w)) ≠ 0 then 2 else 3
noncomputable def krZ (F : Int → Int) (w : Int) : Int := if krQ F w ≠ 0 then krQ F w else if krQ F (F w) ≠ 0 then krQ F (F w) else if krQ F (F (F w)) ≠ 0 then krQ F (F (F w)) else krQ F (F (F (F w)))
noncomputable def fT (a b c d : Nat) (x : Int) : Int := if x = 0 then (a : Int) else if x = 1 then (b : Int) else if x = 2 then (c : Int) else (d : Int)
theorem kin_all : ∀ a b c d w : Fin 4, kuP (fT a.val b.val c.val d.val) (w.val : Int) = kuQ (fT a.val b.val c.val d.val) (w.val : Int) ∧ krP (fT a.val b.val c.val d.val) (w.val : Int) = krZ (fT a.val b.val c.val d.val) (w.val : Int) ∧ krQ (fT a.val b.val c.val d.val) (fT a.val b.val c.val d.val (fT a.val b.val c.val d.val (fT a.val b.val c.val d.val (w.val : Int)))) ≠ 0 := by decide +kernel
section KC
variable {F G : Int → Int}
theorem it_1 (hG : ∀ x : Int, 0 ≤ x → x ≤ 3 → F x = G x ∧ 0 ≤ G x ∧ G x ≤ 3) {w : Int} (h0 : 0 ≤ w) (h1 : w ≤ 3) : F w = G w ∧ 0 ≤ G w ∧ G w ≤ 3 := hG w h0 h1
theorem it_2 (hG : ∀ x : Int, 0 ≤ x → x ≤ 3 → F x = G x ∧ 0 ≤ G x ∧ G x ≤ 3) {w : Int} (h0 : 0 ≤ w) (h1 : w ≤ 3) : F (F w) = G (G w) ∧ 0 ≤ G (G w) ∧ G (G w) ≤ 3 := by
  have e := it_1 hG h0 h1
  rw [e.1]
  exact hG _ e.2.1 e.2.2
theorem it_3 (hG : ∀ x : Int, 0 ≤ x → x ≤ 3 → F x = G x ∧ 0 ≤ G x ∧ G x ≤ 3) {w : Int} (h0 : 0 ≤ w) (h1 : w ≤ 3) : F (F (F w)) = G (G (G w)) ∧ 0 ≤ G (G (G w)) ∧ G (G (G w)) ≤ 3 := by
  have e := it_2 hG h0 h1
  rw [e.1]
  exact hG _ e.2.1 e.2.2
theorem it_4 (hG : ∀ x : Int, 0 ≤ x → x ≤ 3 → F x = G x ∧ 0 ≤ G x ∧ G x ≤ 3) {w : Int} (h0 : 0 ≤ w) (h1 : w ≤ 3) : F (F (F (F w))) = G (G (G (G w))) ∧ 0 ≤ G (G (G (G w))) ∧ G (G (G (G w))) ≤ 3 := by
  have e := it_3 hG h0 h1
  rw [e.1]
  exact hG _ e.2.1 e.2.2
theorem it_5 (hG : ∀ x : Int, 0 ≤ x → x ≤ 3 → F x = G x ∧ 0 ≤ G x ∧ G x ≤ 3) {w : Int} (h0 : 0 ≤ w) (h1 : w ≤ 3) : F (F (F (F (F w)))) = G (G (G (G (G w)))) ∧ 0 ≤ G (G (G (G (G w)))) ∧ G (G (G (G (G w)))) ≤ 3 := by
  have e := it_4 hG h0 h1
  rw [e.1]
  exact hG _ e.2.1 e.2.2
theorem it_6 (hG : ∀ x : Int, 0 ≤ x → x ≤ 3 → F x = G x ∧ 0 ≤ G x ∧ G x ≤ 3) {w : Int} (h0 : 0 ≤ w) (h1 : w ≤ 3) : F (F (F (F (F (F w))))) = G (G (G (G (G (G w))))) ∧ 0 ≤ G (G (G (G (G (G w))))) ∧ G (G (G (G (G (G w))))) ≤ 3 := by
  have e := it_5 hG h0 h1
  rw [e.1]
  exact hG _ e.2.1 e.2.2
theorem it_7 (hG : ∀ x : Int, 0 ≤ x → x ≤ 3 → F x = G x ∧ 0 ≤ G x ∧ G x ≤ 3) {w : Int} (h0 : 0 ≤ w) (h1 : w ≤ 3) : F (F (F (F (F (F (F w)))))) = G (G (G (G (G (G (G w)))))) := by
  have e := it_6 hG h0 h1
  rw [e.1]
  exact (hG _ e.2.1 e.2.2).1
theorem krP_c (hG : ∀ x : Int, 0 ≤ x → x ≤ 3 → F x = G x ∧ 0 ≤ G x ∧ G x ≤ 3) {w : Int} (h0 : 0 ≤ w) (h1 : w ≤ 3) : krP F w = krP G w := by
  unfold krP
  rw [it_7 hG h0 h1, (it_6 hG h0 h1).1, (it_5 hG h0 h1).1, (it_4 hG h0 h1).1]
theorem inP_c (hG : ∀ x : Int, 0 ≤ x → x ≤ 3 → F x = G x ∧ 0 ≤ G x ∧ G x ≤ 3) {w : Int} (h0 : 0 ≤ w) (h1 : w ≤ 3) : inP F w = inP G w := by
  unfold inP
  rw [(it_4 hG h0 h1).1, (it_3 hG h0 h1).1, (it_2 hG h0 h1).1, (it_1 hG h0 h1).1]
theorem krQ_c (hG : ∀ x : Int, 0 ≤ x → x ≤ 3 → F x = G x ∧ 0 ≤ G x ∧ G x ≤ 3) {w : Int} (h0 : 0 ≤ w) (h1 : w ≤ 3) : krQ F w = krQ G w := by
  unfold krQ
  rw [(it_5 hG h0 h1).1, (it_4 hG h0 h1).1, (it_3 hG h0 h1).1, (it_2 hG h0 h1).1, (it_1 hG h0 h1).1]
theorem kuP_c (hG : ∀ x : Int, 0 ≤ x → x ≤ 3 → F x = G x ∧ 0 ≤ G x ∧ G x ≤ 3) {w : Int} (h0 : 0 ≤ w) (h1 : w ≤ 3) : kuP F w = kuP G w := by
  have e1 := it_1 hG h0 h1
  have e2 := it_2 hG h0 h1
  have e3 := it_3 hG h0 h1
  unfold kuP
  rw [e3.1, e2.1, e1.1, inP_c hG h0 h1, inP_c hG e1.2.1 e1.2.2, inP_c hG e2.2.1 e2.2.2, inP_c hG e3.2.1 e3.2.2]
theorem kuQ_c (hG : ∀ x : Int, 0 ≤ x → x ≤ 3 → F x = G x ∧ 0 ≤ G x ∧ G x ≤ 3) {w : Int} (h0 : 0 ≤ w) (h1 : w ≤ 3) : kuQ F w = kuQ G w := by
  have e1 := it_1 hG h0 h1
  have e2 := it_2 hG h0 h1
  unfold kuQ
  rw [e2.1, e1.1, krQ_c hG h0 h1, krQ_c hG e1.2.1 e1.2.2, krQ_c hG e2.2.1 e2.2.2]
theorem krZ_c (hG : ∀ x : Int, 0 ≤ x → x ≤ 3 → F x = G x ∧ 0 ≤ G x ∧ G x ≤ 3) {w : Int} (h0 : 0 ≤ w) (h1 : w ≤ 3) : krZ F w = krZ G w := by
  have e1 := it_1 hG h0 h1
  have e2 := it_2 hG h0 h1
  have e3 := it_3 hG h0 h1
  unfold krZ
  rw [e3.1, e2.1, e1.1, krQ_c hG h0 h1, krQ_c hG e1.2.1 e1.2.2, krQ_c hG e2.2.1 e2.2.2, krQ_c hG e3.2.1 e3.2.2]
end KC
theorem kin_eq {F : Int → Int} (hF : ∀ x : Int, 0 ≤ x → x ≤ 3 → 0 ≤ F x ∧ F x ≤ 3) {w : Int} (h0 : 0 ≤ w) (h1 : w ≤ 3) : kuP F w = kuQ F w ∧ krP F w = krZ F w ∧ krQ F (F (F (F w))) ≠ 0 := by
  have f0 := hF 0 (by omega) (by omega)
  have f1 := hF 1 (by omega) (by omega)
  have f2 := hF 2 (by omega) (by omega)
  have f3 := hF 3 (by omega) (by omega)
  have hG : ∀ x : Int, 0 ≤ x → x ≤ 3 → F x = fT (F 0).toNat (F 1).toNat (F 2).toNat (F 3).toNat x ∧ 0 ≤ fT (F 0).toNat (F 1).toNat (F 2).toNat (F 3).toNat x ∧ fT (F 0).toNat (F 1).toNat (F 2).toNat (F 3).toNat x ≤ 3 := by
    intro x x0 x1
    have hx : x = 0 ∨ x = 1 ∨ x = 2 ∨ x = 3 := by omega
    have e0 : ∀ a b c d : Nat, fT a b c d 0 = a := fun _ _ _ _ => rfl
    have e1 : ∀ a b c d : Nat, fT a b c d 1 = b := fun _ _ _ _ => rfl
    have e2 : ∀ a b c d : Nat, fT a b c d 2 = c := fun _ _ _ _ => rfl
    have e3 : ∀ a b c d : Nat, fT a b c d 3 = d := fun _ _ _ _ => rfl
    rcases hx with rfl | rfl | rfl | rfl
    · rw [e0]; omega
    · rw [e1]; omega
    · rw [e2]; omega
    · rw [e3]; omega
  have hk := kin_all ⟨(F 0).toNat, by omega⟩ ⟨(F 1).toNat, by omega⟩ ⟨(F 2).toNat, by omega⟩ ⟨(F 3).toNat, by omega⟩ ⟨w.toNat, by omega⟩
  dsimp only at hk
  rw [show ((w.toNat : Nat) : Int) = w by omega] at hk
  have e3 := it_3 hG h0 h1
  rw [kuP_c hG h0 h1, kuQ_c hG h0 h1, krP_c hG h0 h1, krZ_c hG h0 h1, e3.1, krQ_c hG e3.2.1 e3.2.2]
  exact hk
set_option maxHeartbeats 2000000 in
theorem x_kinRing (w : zW) (d : Nat) (q : Nat) (a1 : Int) (x0 x1 x2 : Int) (g1 : Nat → Int32) (hK0 : zix w q = some (.inr (0, [.int (Int32.ofInt x0), .int (Int32.ofInt x1), .int (Int32.ofInt x2), .ref (q + 1), .ref (q + 2), .ref (q + 3), .ref (q + 4)]))) (hK1 : zix w (q + 1) = some (.inl (1, 4, .inl g1))) (hr0 : 0 ≤ a1 ∧ a1 ≤ 3) (hr1 : ∀ i : Int, 0 ≤ i → i ≤ 3 → 0 ≤ tBy g1 i ∧ tBy g1 i ≤ 3) (Q : zQ) (h : ∀ (v : Int), (v = krP (tBy g1) a1) → Q (some (.int (Int32.ofInt v))) w) : zCl zTab (d + 1) iX0_kinRing [.ref q, .int (Int32.ofInt a1)] w 0 0 Q := by
  refine zCl_i (M := kX0_kinRing) rfl (Nat.le_of_ble_eq_true rfl) fun R hR => ?_
  iterate 6 refine hR (?_ : R (_, _, _, _, _, _))
  refine hR (j_ge (by omega) (by omega) (fun hc => by omega) (fun _ => ?_))
  refine hR (?_ : R (_, _, _, _, _, _))
  refine hR (c_get hK0 rfl ?_)
  refine hR (?_ : R (_, _, _, _, _, _))
  refine hR (c_aldE hK1 (by omega) (by omega) (Nat.le_of_ble_eq_true rfl) fun v1 ev1 rv1 => ?_)
  replace ev1 : v1 = tBy g1 a1 := ev1
  have hk2 : 0 ≤ v1 ∧ v1 ≤ 3 := by rw [ev1]; exact hr1 (a1) (by omega) (by omega)
  refine hR (?_ : R (_, _, _, _, _, _))
  refine hR (t_inc ?_)
  refine hR (?_ : R (_, _, _, _, _, _))
  refine (?_ : R (4, [some (.ref q), some (.int (Int32.ofInt a1)), some (.int (Int32.ofInt v1)), some (.int (Int32.ofInt (0 + 1))), none], [], w, 0, 0))
  iterate 2 refine hR (?_ : R (_, _, _, _, _, _))
  refine hR (j_ge (by omega) (by omega) (fun hc => by omega) (fun _ => ?_))
  refine hR (?_ : R (_, _, _, _, _, _))
  refine hR (c_get hK0 rfl ?_)
  refine hR (?_ : R (_, _, _, _, _, _))
  refine hR (c_aldE hK1 (by omega) (by omega) (Nat.le_of_ble_eq_true rfl) fun v3 ev3 rv3 => ?_)
  replace ev3 : v3 = tBy g1 v1 := ev3
  have hk4 : 0 ≤ v3 ∧ v3 ≤ 3 := by rw [ev3]; exact hr1 (v1) (by omega) (by omega)
  refine hR (?_ : R (_, _, _, _, _, _))
  refine hR (t_inc ?_)
  refine hR (?_ : R (_, _, _, _, _, _))
  refine (?_ : R (4, [some (.ref q), some (.int (Int32.ofInt a1)), some (.int (Int32.ofInt v3)), some (.int (Int32.ofInt ((0 + 1) + 1))), none], [], w, 0, 0))
  iterate 2 refine hR (?_ : R (_, _, _, _, _, _))
  refine hR (j_ge (by omega) (by omega) (fun hc => by omega) (fun _ => ?_))
  refine hR (?_ : R (_, _, _, _, _, _))
  refine hR (c_get hK0 rfl ?_)
  refine hR (?_ : R (_, _, _, _, _, _))
  refine hR (c_aldE hK1 (by omega) (by omega) (Nat.le_of_ble_eq_true rfl) fun v5 ev5 rv5 => ?_)
  replace ev5 : v5 = tBy g1 v3 := ev5
  have hk6 : 0 ≤ v5 ∧ v5 ≤ 3 := by rw [ev5]; exact hr1 (v3) (by omega) (by omega)
  refine hR (?_ : R (_, _, _, _, _, _))
  refine hR (t_inc ?_)
  refine hR (?_ : R (_, _, _, _, _, _))
  refine (?_ : R (4, [some (.ref q), some (.int (Int32.ofInt a1)), some (.int (Int32.ofInt v5)), some (.int (Int32.ofInt (((0 + 1) + 1) + 1))), none], [], w, 0, 0))
  iterate 2 refine hR (?_ : R (_, _, _, _, _, _))
  refine hR (j_ge (by omega) (by omega) (fun hc => by omega) (fun _ => ?_))
  refine hR (?_ : R (_, _, _, _, _, _))
  refine hR (c_get hK0 rfl ?_)
  refine hR (?_ : R (_, _, _, _, _, _))
  refine hR (c_aldE hK1 (by omega) (by omega) (Nat.le_of_ble_eq_true rfl) fun v7 ev7 rv7 => ?_)
  replace ev7 : v7 = tBy g1 v5 := ev7
  have hk8 : 0 ≤ v7 ∧ v7 ≤ 3 := by rw [ev7]; exact hr1 (v5) (by omega) (by omega)
  refine hR (?_ : R (_, _, _, _, _, _))
  refine hR (t_inc ?_)
  refine hR (?_ : R (_, _, _, _, _, _))
  refine (?_ : R (4, [some (.ref q), some (.int (Int32.ofInt a1)), some (.int (Int32.ofInt v7)), some (.int (Int32.ofInt ((((0 + 1) + 1) + 1) + 1))), none], [], w, 0, 0))
  iterate 2 refine hR (?_ : R (_, _, _, _, _, _))
  refine hR (j_ge (by omega) (by omega) (fun _ => ?_) (fun hc => by omega))
  iterate 5 refine hR (?_ : R (_, _, _, _, _, _))
  refine hR (c_get hK0 rfl ?_)
  refine hR (?_ : R (_, _, _, _, _, _))
  refine hR (c_aldE hK1 (by omega) (by omega) (Nat.le_of_ble_eq_true rfl) fun v9 ev9 rv9 => ?_)
  replace ev9 : v9 = tBy g1 v7 := ev9
  have hk10 : 0 ≤ v9 ∧ v9 ≤ 3 := by rw [ev9]; exact hr1 (v7) (by omega) (by omega)
  refine hR (?_ : R (_, _, _, _, _, _))
  refine hR (t_inc ?_)
  iterate 2 refine hR (?_ : R (_, _, _, _, _, _))
  refine hR (j_eq (by omega) (by omega) (fun hc11 => ?_) (fun hc11 => ?_))
  · skip
    refine hR (?_ : R (_, _, _, _, _, _))
    exact hR (zret_i rfl (Nat.le_refl _) trivial (h _ (by unfold krP; (try rw [← ev1]); (try rw [← ev3]); (try rw [← ev5]); (try rw [← ev7]); (try rw [← ev9]); (repeat' split) <;> first | rfl | omega | contradiction)))
  iterate 2 refine hR (?_ : R (_, _, _, _, _, _))
  refine hR (j_lt (by omega) (by omega) (fun _ => ?_) (fun hc => by omega))
  refine (?_ : R (27, [some (.ref q), some (.int (Int32.ofInt a1)), some (.int (Int32.ofInt v9)), some (.int (Int32.ofInt v7)), some (.int (Int32.ofInt (0 + 1)))], [], w, 0, 0))
  refine hR (?_ : R (_, _, _, _, _, _))
  refine hR (c_get hK0 rfl ?_)
  refine hR (?_ : R (_, _, _, _, _, _))
  refine hR (c_aldE hK1 (by omega) (by omega) (Nat.le_of_ble_eq_true rfl) fun v12 ev12 rv12 => ?_)
  replace ev12 : v12 = tBy g1 v9 := ev12
  have hk13 : 0 ≤ v12 ∧ v12 ≤ 3 := by rw [ev12]; exact hr1 (v9) (by omega) (by omega)
  refine hR (?_ : R (_, _, _, _, _, _))
  refine hR (t_inc ?_)
  iterate 2 refine hR (?_ : R (_, _, _, _, _, _))
  refine hR (j_eq (by omega) (by omega) (fun hc14 => ?_) (fun hc14 => ?_))
  · skip
    refine hR (?_ : R (_, _, _, _, _, _))
    exact hR (zret_i rfl (Nat.le_refl _) trivial (h _ (by unfold krP; (try rw [← ev1]); (try rw [← ev3]); (try rw [← ev5]); (try rw [← ev7]); (try rw [← ev9]); (try rw [← ev12]); (repeat' split) <;> first | rfl | omega | contradiction)))
  iterate 2 refine hR (?_ : R (_, _, _, _, _, _))
  refine hR (j_lt (by omega) (by omega) (fun _ => ?_) (fun hc => by omega))
  refine (?_ : R (27, [some (.ref q), some (.int (Int32.ofInt a1)), some (.int (Int32.ofInt v12)), some (.int (Int32.ofInt v7)), some (.int (Int32.ofInt ((0 + 1) + 1)))], [], w, 0, 0))
  refine hR (?_ : R (_, _, _, _, _, _))
  refine hR (c_get hK0 rfl ?_)
  refine hR (?_ : R (_, _, _, _, _, _))
  refine hR (c_aldE hK1 (by omega) (by omega) (Nat.le_of_ble_eq_true rfl) fun v15 ev15 rv15 => ?_)
  replace ev15 : v15 = tBy g1 v12 := ev15
  have hk16 : 0 ≤ v15 ∧ v15 ≤ 3 := by rw [ev15]; exact hr1 (v12) (by omega) (by omega)
  refine hR (?_ : R (_, _, _, _, _, _))
  refine hR (t_inc ?_)
  iterate 2 refine hR (?_ : R (_, _, _, _, _, _))
  refine hR (j_eq (by omega) (by omega) (fun hc17 => ?_) (fun hc17 => ?_))
  · skip
    refine hR (?_ : R (_, _, _, _, _, _))
    exact hR (zret_i rfl (Nat.le_refl _) trivial (h _ (by unfold krP; (try rw [← ev1]); (try rw [← ev3]); (try rw [← ev5]); (try rw [← ev7]); (try rw [← ev9]); (try rw [← ev12]); (try rw [← ev15]); (repeat' split) <;> first | rfl | omega | contradiction)))
  iterate 2 refine hR (?_ : R (_, _, _, _, _, _))
  refine hR (j_lt (by omega) (by omega) (fun _ => ?_) (fun hc => by omega))
  refine (?_ : R (27, [some (.ref q), some (.int (Int32.ofInt a1)), some (.int (Int32.ofInt v15)), some (.int (Int32.ofInt v7)), some (.int (Int32.ofInt (((0 + 1) + 1) + 1)))], [], w, 0, 0))
  refine hR (?_ : R (_, _, _, _, _, _))
  refine hR (c_get hK0 rfl ?_)
  refine hR (?_ : R (_, _, _, _, _, _))
  refine hR (c_aldE hK1 (by omega) (by omega) (Nat.le_of_ble_eq_true rfl) fun v18 ev18 rv18 => ?_)
  replace ev18 : v18 = tBy g1 v15 := ev18
  have hk19 : 0 ≤ v18 ∧ v18 ≤ 3 := by rw [ev18]; exact hr1 (v15) (by omega) (by omega)
  refine hR (?_ : R (_, _, _, _, _, _))
  refine hR (t_inc ?_)
  iterate 2 refine hR (?_ : R (_, _, _, _, _, _))
  refine hR (j_eq (by omega) (by omega) (fun hc20 => ?_) (fun hc20 => ?_))
  · skip
    refine hR (?_ : R (_, _, _, _, _, _))
    exact hR (zret_i rfl (Nat.le_refl _) trivial (h _ (by unfold krP; (try rw [← ev1]); (try rw [← ev3]); (try rw [← ev5]); (try rw [← ev7]); (try rw [← ev9]); (try rw [← ev12]); (try rw [← ev15]); (try rw [← ev18]); (repeat' split) <;> first | rfl | omega | contradiction)))
  iterate 2 refine hR (?_ : R (_, _, _, _, _, _))
  refine hR (j_lt (by omega) (by omega) (fun hc => by omega) (fun _ => ?_))
  refine hR (?_ : R (_, _, _, _, _, _))
  exact hR (zret_i rfl (Nat.le_refl _) trivial (h _ (by unfold krP; (try rw [← ev1]); (try rw [← ev3]); (try rw [← ev5]); (try rw [← ev7]); (try rw [← ev9]); (try rw [← ev12]); (try rw [← ev15]); (try rw [← ev18]); (repeat' split) <;> first | rfl | omega | contradiction)))
set_option maxHeartbeats 2000000 in
theorem x_isInKin (w : zW) (d : Nat) (q : Nat) (a1 : Int) (x0 x1 x2 : Int) (g1 : Nat → Int32) (hK0 : zix w q = some (.inr (0, [.int (Int32.ofInt x0), .int (Int32.ofInt x1), .int (Int32.ofInt x2), .ref (q + 1), .ref (q + 2), .ref (q + 3), .ref (q + 4)]))) (hK1 : zix w (q + 1) = some (.inl (1, 4, .inl g1))) (hr0 : 0 ≤ a1 ∧ a1 ≤ 3) (hr1 : ∀ i : Int, 0 ≤ i → i ≤ 3 → 0 ≤ tBy g1 i ∧ tBy g1 i ≤ 3) (Q : zQ) (h : ∀ (v : Int), (v = inP (tBy g1) a1) → Q (some (.int (Int32.ofInt v))) w) : zCl zTab (d + 1) iX0_isInKinRing [.ref q, .int (Int32.ofInt a1)] w 0 0 Q := by
  refine zCl_i (M := kX0_isInKinRing) rfl (Nat.le_of_ble_eq_true rfl) fun R hR => ?_
  iterate 6 refine hR (?_ : R (_, _, _, _, _, _))
  refine hR (j_ge (by omega) (by omega) (fun hc => by omega) (fun _ => ?_))
  refine hR (?_ : R (_, _, _, _, _, _))
  refine hR (c_get hK0 rfl ?_)
  refine hR (?_ : R (_, _, _, _, _, _))
  refine hR (c_aldE hK1 (by omega) (by omega) (Nat.le_of_ble_eq_true rfl) fun v1 ev1 rv1 => ?_)
  replace ev1 : v1 = tBy g1 a1 := ev1
  have hk2 : 0 ≤ v1 ∧ v1 ≤ 3 := by rw [ev1]; exact hr1 (a1) (by omega) (by omega)
  iterate 3 refine hR (?_ : R (_, _, _, _, _, _))
  refine hR (j_ne (by omega) (by omega) (fun hc3 => ?_) (fun hc3 => ?_))
  rotate_left
  · skip
    refine hR (?_ : R (_, _, _, _, _, _))
    exact hR (zret_i rfl (Nat.le_refl _) (zbo (by omega)) (h _ (by unfold inP; (try rw [← ev1]); (repeat' split) <;> first | rfl | omega | contradiction)))
  refine hR (t_inc ?_)
  refine hR (?_ : R (_, _, _, _, _, _))
  refine (?_ : R (4, [some (.ref q), some (.int (Int32.ofInt a1)), some (.int (Int32.ofInt v1)), some (.int (Int32.ofInt (0 + 1)))], [], w, 0, 0))
  iterate 2 refine hR (?_ : R (_, _, _, _, _, _))
  refine hR (j_ge (by omega) (by omega) (fun hc => by omega) (fun _ => ?_))
  refine hR (?_ : R (_, _, _, _, _, _))
  refine hR (c_get hK0 rfl ?_)
  refine hR (?_ : R (_, _, _, _, _, _))
  refine hR (c_aldE hK1 (by omega) (by omega) (Nat.le_of_ble_eq_true rfl) fun v4 ev4 rv4 => ?_)
  replace ev4 : v4 = tBy g1 v1 := ev4
  have hk5 : 0 ≤ v4 ∧ v4 ≤ 3 := by rw [ev4]; exact hr1 (v1) (by omega) (by omega)
  iterate 3 refine hR (?_ : R (_, _, _, _, _, _))
  refine hR (j_ne (by omega) (by omega) (fun hc6 => ?_) (fun hc6 => ?_))
  rotate_left
  · skip
    refine hR (?_ : R (_, _, _, _, _, _))
    exact hR (zret_i rfl (Nat.le_refl _) (zbo (by omega)) (h _ (by unfold inP; (try rw [← ev1]); (try rw [← ev4]); (repeat' split) <;> first | rfl | omega | contradiction)))
  refine hR (t_inc ?_)
  refine hR (?_ : R (_, _, _, _, _, _))
  refine (?_ : R (4, [some (.ref q), some (.int (Int32.ofInt a1)), some (.int (Int32.ofInt v4)), some (.int (Int32.ofInt ((0 + 1) + 1)))], [], w, 0, 0))
  iterate 2 refine hR (?_ : R (_, _, _, _, _, _))
  refine hR (j_ge (by omega) (by omega) (fun hc => by omega) (fun _ => ?_))
  refine hR (?_ : R (_, _, _, _, _, _))
  refine hR (c_get hK0 rfl ?_)
  refine hR (?_ : R (_, _, _, _, _, _))
  refine hR (c_aldE hK1 (by omega) (by omega) (Nat.le_of_ble_eq_true rfl) fun v7 ev7 rv7 => ?_)
  replace ev7 : v7 = tBy g1 v4 := ev7
  have hk8 : 0 ≤ v7 ∧ v7 ≤ 3 := by rw [ev7]; exact hr1 (v4) (by omega) (by omega)
  iterate 3 refine hR (?_ : R (_, _, _, _, _, _))
  refine hR (j_ne (by omega) (by omega) (fun hc9 => ?_) (fun hc9 => ?_))
  rotate_left
  · skip
    refine hR (?_ : R (_, _, _, _, _, _))
    exact hR (zret_i rfl (Nat.le_refl _) (zbo (by omega)) (h _ (by unfold inP; (try rw [← ev1]); (try rw [← ev4]); (try rw [← ev7]); (repeat' split) <;> first | rfl | omega | contradiction)))
  refine hR (t_inc ?_)
  refine hR (?_ : R (_, _, _, _, _, _))
  refine (?_ : R (4, [some (.ref q), some (.int (Int32.ofInt a1)), some (.int (Int32.ofInt v7)), some (.int (Int32.ofInt (((0 + 1) + 1) + 1)))], [], w, 0, 0))
  iterate 2 refine hR (?_ : R (_, _, _, _, _, _))
  refine hR (j_ge (by omega) (by omega) (fun hc => by omega) (fun _ => ?_))
  refine hR (?_ : R (_, _, _, _, _, _))
  refine hR (c_get hK0 rfl ?_)
  refine hR (?_ : R (_, _, _, _, _, _))
  refine hR (c_aldE hK1 (by omega) (by omega) (Nat.le_of_ble_eq_true rfl) fun v10 ev10 rv10 => ?_)
  replace ev10 : v10 = tBy g1 v7 := ev10
  have hk11 : 0 ≤ v10 ∧ v10 ≤ 3 := by rw [ev10]; exact hr1 (v7) (by omega) (by omega)
  iterate 3 refine hR (?_ : R (_, _, _, _, _, _))
  refine hR (j_ne (by omega) (by omega) (fun hc12 => ?_) (fun hc12 => ?_))
  rotate_left
  · skip
    refine hR (?_ : R (_, _, _, _, _, _))
    exact hR (zret_i rfl (Nat.le_refl _) (zbo (by omega)) (h _ (by unfold inP; (try rw [← ev1]); (try rw [← ev4]); (try rw [← ev7]); (try rw [← ev10]); (repeat' split) <;> first | rfl | omega | contradiction)))
  refine hR (t_inc ?_)
  refine hR (?_ : R (_, _, _, _, _, _))
  refine (?_ : R (4, [some (.ref q), some (.int (Int32.ofInt a1)), some (.int (Int32.ofInt v10)), some (.int (Int32.ofInt ((((0 + 1) + 1) + 1) + 1)))], [], w, 0, 0))
  iterate 2 refine hR (?_ : R (_, _, _, _, _, _))
  refine hR (j_ge (by omega) (by omega) (fun _ => ?_) (fun hc => by omega))
  refine hR (?_ : R (_, _, _, _, _, _))
  exact hR (zret_i rfl (Nat.le_refl _) (zbo (by omega)) (h _ (by unfold inP; (try rw [← ev1]); (try rw [← ev4]); (try rw [← ev7]); (try rw [← ev10]); (repeat' split) <;> first | rfl | omega | contradiction)))
set_option maxHeartbeats 2000000 in
theorem x_kinUntil (w : zW) (d : Nat) (q : Nat) (a1 : Int) (x0 x1 x2 : Int) (g1 : Nat → Int32) (hK0 : zix w q = some (.inr (0, [.int (Int32.ofInt x0), .int (Int32.ofInt x1), .int (Int32.ofInt x2), .ref (q + 1), .ref (q + 2), .ref (q + 3), .ref (q + 4)]))) (hK1 : zix w (q + 1) = some (.inl (1, 4, .inl g1))) (hr0 : 0 ≤ a1 ∧ a1 ≤ 3) (hr1 : ∀ i : Int, 0 ≤ i → i ≤ 3 → 0 ≤ tBy g1 i ∧ tBy g1 i ≤ 3) (Q : zQ) (h : ∀ (v : Int), (v = kuP (tBy g1) a1) → Q (some (.int (Int32.ofInt v))) w) : zCl zTab (d + 2) iX0_kinUntilRing [.ref q, .int (Int32.ofInt a1)] w 0 0 Q := by
  refine zCl_i (M := kX0_kinUntilRing) rfl (Nat.le_of_ble_eq_true rfl) fun R hR => ?_
  iterate 6 refine hR (?_ : R (_, _, _, _, _, _))
  refine hR (j_ge (by omega) (by omega) (fun hc => by omega) (fun _ => ?_))
  iterate 2 refine hR (?_ : R (_, _, _, _, _, _))
  refine hR (c_obj hK0 (zcall_i 0 0 (Nat.le_of_ble_eq_true rfl) (Nat.le_of_ble_eq_true rfl) (x_isInKin _ _ _ _ _ _ _ _ hK0 hK1 (by omega) hr1 _ fun v1 hp2 => ?_)))
  subst hp2
  refine (?_ : R (_, _, .int (Int32.ofInt (inP (tBy g1) a1)) :: [], w, 0, 0))
  have hi3 := inP_r (tBy g1) (a1)
  refine hR (k_eq (by omega) (fun hc4 => ?_) (fun hc4 => ?_))
  rotate_left
  · skip
    refine hR (?_ : R (_, _, _, _, _, _))
    exact hR (zret_i rfl (Nat.le_refl _) trivial (h _ (by unfold kuP; (repeat' split) <;> first | rfl | omega | contradiction)))
  refine hR (?_ : R (_, _, _, _, _, _))
  refine hR (c_get hK0 rfl ?_)
  refine hR (?_ : R (_, _, _, _, _, _))
  refine hR (c_aldE hK1 (by omega) (by omega) (Nat.le_of_ble_eq_true rfl) fun v5 ev5 rv5 => ?_)
  replace ev5 : v5 = tBy g1 a1 := ev5
  have hk6 : 0 ≤ v5 ∧ v5 ≤ 3 := by rw [ev5]; exact hr1 (a1) (by omega) (by omega)
  refine hR (?_ : R (_, _, _, _, _, _))
  refine hR (t_inc ?_)
  refine hR (?_ : R (_, _, _, _, _, _))
  refine (?_ : R (4, [some (.ref q), some (.int (Int32.ofInt a1)), some (.int (Int32.ofInt v5)), some (.int (Int32.ofInt (0 + 1)))], [], w, 0, 0))
  iterate 2 refine hR (?_ : R (_, _, _, _, _, _))
  refine hR (j_ge (by omega) (by omega) (fun hc => by omega) (fun _ => ?_))
  iterate 2 refine hR (?_ : R (_, _, _, _, _, _))
  refine hR (c_obj hK0 (zcall_i 0 0 (Nat.le_of_ble_eq_true rfl) (Nat.le_of_ble_eq_true rfl) (x_isInKin _ _ _ _ _ _ _ _ hK0 hK1 (by omega) hr1 _ fun v7 hp8 => ?_)))
  subst hp8
  refine (?_ : R (_, _, .int (Int32.ofInt (inP (tBy g1) v5)) :: [], w, 0, 0))
  have hi9 := inP_r (tBy g1) (v5)
  refine hR (k_eq (by omega) (fun hc10 => ?_) (fun hc10 => ?_))
  rotate_left
  · skip
    refine hR (?_ : R (_, _, _, _, _, _))
    exact hR (zret_i rfl (Nat.le_refl _) trivial (h _ (by unfold kuP; (try rw [← ev5]); (repeat' split) <;> first | rfl | omega | contradiction)))
  refine hR (?_ : R (_, _, _, _, _, _))
  refine hR (c_get hK0 rfl ?_)
  refine hR (?_ : R (_, _, _, _, _, _))
  refine hR (c_aldE hK1 (by omega) (by omega) (Nat.le_of_ble_eq_true rfl) fun v11 ev11 rv11 => ?_)
  replace ev11 : v11 = tBy g1 v5 := ev11
  have hk12 : 0 ≤ v11 ∧ v11 ≤ 3 := by rw [ev11]; exact hr1 (v5) (by omega) (by omega)
  refine hR (?_ : R (_, _, _, _, _, _))
  refine hR (t_inc ?_)
  refine hR (?_ : R (_, _, _, _, _, _))
  refine (?_ : R (4, [some (.ref q), some (.int (Int32.ofInt a1)), some (.int (Int32.ofInt v11)), some (.int (Int32.ofInt ((0 + 1) + 1)))], [], w, 0, 0))
  iterate 2 refine hR (?_ : R (_, _, _, _, _, _))
  refine hR (j_ge (by omega) (by omega) (fun hc => by omega) (fun _ => ?_))
  iterate 2 refine hR (?_ : R (_, _, _, _, _, _))
  refine hR (c_obj hK0 (zcall_i 0 0 (Nat.le_of_ble_eq_true rfl) (Nat.le_of_ble_eq_true rfl) (x_isInKin _ _ _ _ _ _ _ _ hK0 hK1 (by omega) hr1 _ fun v13 hp14 => ?_)))
  subst hp14
  refine (?_ : R (_, _, .int (Int32.ofInt (inP (tBy g1) v11)) :: [], w, 0, 0))
  have hi15 := inP_r (tBy g1) (v11)
  refine hR (k_eq (by omega) (fun hc16 => ?_) (fun hc16 => ?_))
  rotate_left
  · skip
    refine hR (?_ : R (_, _, _, _, _, _))
    exact hR (zret_i rfl (Nat.le_refl _) trivial (h _ (by unfold kuP; (try rw [← ev5]); (try rw [← ev11]); (repeat' split) <;> first | rfl | omega | contradiction)))
  refine hR (?_ : R (_, _, _, _, _, _))
  refine hR (c_get hK0 rfl ?_)
  refine hR (?_ : R (_, _, _, _, _, _))
  refine hR (c_aldE hK1 (by omega) (by omega) (Nat.le_of_ble_eq_true rfl) fun v17 ev17 rv17 => ?_)
  replace ev17 : v17 = tBy g1 v11 := ev17
  have hk18 : 0 ≤ v17 ∧ v17 ≤ 3 := by rw [ev17]; exact hr1 (v11) (by omega) (by omega)
  refine hR (?_ : R (_, _, _, _, _, _))
  refine hR (t_inc ?_)
  refine hR (?_ : R (_, _, _, _, _, _))
  refine (?_ : R (4, [some (.ref q), some (.int (Int32.ofInt a1)), some (.int (Int32.ofInt v17)), some (.int (Int32.ofInt (((0 + 1) + 1) + 1)))], [], w, 0, 0))
  iterate 2 refine hR (?_ : R (_, _, _, _, _, _))
  refine hR (j_ge (by omega) (by omega) (fun hc => by omega) (fun _ => ?_))
  iterate 2 refine hR (?_ : R (_, _, _, _, _, _))
  refine hR (c_obj hK0 (zcall_i 0 0 (Nat.le_of_ble_eq_true rfl) (Nat.le_of_ble_eq_true rfl) (x_isInKin _ _ _ _ _ _ _ _ hK0 hK1 (by omega) hr1 _ fun v19 hp20 => ?_)))
  subst hp20
  refine (?_ : R (_, _, .int (Int32.ofInt (inP (tBy g1) v17)) :: [], w, 0, 0))
  have hi21 := inP_r (tBy g1) (v17)
  refine hR (k_eq (by omega) (fun hc22 => ?_) (fun hc22 => ?_))
  rotate_left
  · skip
    refine hR (?_ : R (_, _, _, _, _, _))
    exact hR (zret_i rfl (Nat.le_refl _) trivial (h _ (by unfold kuP; (try rw [← ev5]); (try rw [← ev11]); (try rw [← ev17]); (repeat' split) <;> first | rfl | omega | contradiction)))
  refine hR (?_ : R (_, _, _, _, _, _))
  refine hR (c_get hK0 rfl ?_)
  refine hR (?_ : R (_, _, _, _, _, _))
  refine hR (c_aldE hK1 (by omega) (by omega) (Nat.le_of_ble_eq_true rfl) fun v23 ev23 rv23 => ?_)
  replace ev23 : v23 = tBy g1 v17 := ev23
  have hk24 : 0 ≤ v23 ∧ v23 ≤ 3 := by rw [ev23]; exact hr1 (v17) (by omega) (by omega)
  refine hR (?_ : R (_, _, _, _, _, _))
  refine hR (t_inc ?_)
  refine hR (?_ : R (_, _, _, _, _, _))
  refine (?_ : R (4, [some (.ref q), some (.int (Int32.ofInt a1)), some (.int (Int32.ofInt v23)), some (.int (Int32.ofInt ((((0 + 1) + 1) + 1) + 1)))], [], w, 0, 0))
  iterate 2 refine hR (?_ : R (_, _, _, _, _, _))
  refine hR (j_ge (by omega) (by omega) (fun _ => ?_) (fun hc => by omega))
  refine hR (?_ : R (_, _, _, _, _, _))
  exact hR (zret_i rfl (Nat.le_refl _) trivial (h _ (by unfold kuP; (try rw [← ev5]); (try rw [← ev11]); (try rw [← ev17]); (try rw [← ev23]); (repeat' split) <;> first | rfl | omega | contradiction)))
