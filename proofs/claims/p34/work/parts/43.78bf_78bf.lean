noncomputable def seeV (g : Nat → Int32) (p l : Int) : Int := if p < l then (g p.toNat &&& Int32.ofInt 255).toInt else -1
theorem see_n {g : Nat → Int32} {p l : Int} (h : l ≤ p) : -1 = seeV g p l := by
  unfold seeV; rw [if_neg (by omega)]
theorem see_v {g : Nat → Int32} {p l x v : Int} (h : p < l) (e : x = (g p.toNat).toInt) (q : Int32.ofInt x &&& Int32.ofInt 255 = Int32.ofInt v) (hv : 0 ≤ v ∧ v ≤ 255) : v = seeV g p l := by
  unfold seeV
  rw [if_pos h]
  rw [e, zoi] at q
  rw [q, zti (by omega) (by omega)]
theorem t_stV {R : zS → Prop} {np : Nat} {L : zL} {S : List Value} {w : zW} {k n : Nat} {q ti : Nat} {i e : Int} {len : Nat} {g : Nat → Int32} (m : Nat) (hm : i.toNat = m) (he1 : -2147483648 ≤ e) (he2 : e ≤ 2147483647) (h0 : 0 ≤ i) (h1 : i < len) (hl : len ≤ 60000) (h : ∀ g' : Nat → Int32, (g' m).toInt = e → (∀ j, j ≠ m → g' j = g j) → R (np, L, S, zst w q (.inl (ti, len, .inl g')), k, n)) : vp_in (Int32.ofInt i) len ∧ R (np, L, S, zst w q (.inl (ti, len, .inl (upd g (Int32.ofInt i).toNatClampNeg (Int32.ofInt e)))), k, n) := by
  refine ⟨zvin h0 h1 hl, ?_⟩
  rw [zcl h0 (by omega), hm]
  exact h _ (by rw [pk_us]; exact zti he1 he2) (fun j hj => pk_un hj)
theorem tt_s {f16 fg w n : Int} (_h : f16 = 0) (h : fg < 4 ^ n.toNat) (hn : 0 ≤ n ∧ 0 ≤ w) (hw : w ≤ 3) : f16 = 0 ∧ 4 * fg + w < 4 ^ (n + 1).toNat := ⟨_h, zp4_s hn.1 h hw⟩
theorem tt_b {fg w n : Int} (hn : 0 ≤ n) (h : fg ≤ 33 * (4 ^ n.toNat - 1)) (hw : w ≤ 99) : 4 * fg + w ≤ 33 * (4 ^ (n + 1).toNat - 1) := by
  rw [show (n + 1).toNat = n.toNat + 1 by omega, Int.pow_succ]
  omega
section MZ
variable {c0 c1 c2 c3 c4 c5 c6 c7 c8 c9 c10 c11 c12 c13 : va_E} {f0 f9 f10 f11 f12 f13 f15 f16 f17 f20 f21 f22 f23 f26 f28 f31 f32 f33 f38 f41 f44 : Int} {x14 : Int64} {g15 g16 g17 g18 g19 g20 g21 g22 g23 g24 g25 g26 g27 g28 g29 g30 g31 g32 g33 g34 g35 g36 g37 g38 g39 g40 g41 g42 g43 g44 : Nat → Int32} {t : zW}
theorem m_see (d : Nat) (hr0 : 0 ≤ f9 ∧ f9 ≤ f10 ∧ f10 ≤ 600) (Q : zQ) (h : ∀ (v : Int), ((v = -1 ∧ f10 ≤ f9) ∨ (0 ≤ v ∧ v ≤ 255 ∧ f9 < f10)) → (v = seeV g15 f9 f10) → Q (some (.int (Int32.ofInt v))) (zMi c0 c1 c2 c3 c4 c5 c6 c7 c8 c9 c10 c11 c12 c13 f0 f9 f10 f11 f12 f13 f15 f16 f17 f20 f21 f22 f23 f26 f28 f31 f32 f33 f38 f41 f44 x14 g15 g16 g17 g18 g19 g20 g21 g22 g23 g24 g25 g26 g27 g28 g29 g30 g31 g32 g33 g34 g35 g36 g37 g38 g39 g40 g41 g42 g43 g44 t)) : zCl zTab (d + 1) iX12_see [.ref 14] (zMi c0 c1 c2 c3 c4 c5 c6 c7 c8 c9 c10 c11 c12 c13 f0 f9 f10 f11 f12 f13 f15 f16 f17 f20 f21 f22 f23 f26 f28 f31 f32 f33 f38 f41 f44 x14 g15 g16 g17 g18 g19 g20 g21 g22 g23 g24 g25 g26 g27 g28 g29 g30 g31 g32 g33 g34 g35 g36 g37 g38 g39 g40 g41 g42 g43 g44 t) 0 0 Q := by
  refine zCl_i (M := kX12_see) rfl (Nat.le_of_ble_eq_true rfl) fun R hR => ?_
  iterate 4 refine hR (?_ : R (_, _, _, _, _, _))
  refine hR (j_ge (by omega) (by omega) (fun hc1 => ?_) (fun hc1 => ?_))
  · skip
    refine hR (?_ : R (_, _, _, _, _, _))
    exact hR (zret_i rfl (Nat.le_refl _) trivial (h _ (by omega) (see_n (by omega))))
  iterate 4 refine hR (?_ : R (_, _, _, _, _, _))
  refine hR (t_ldE (by omega) (by omega) (Nat.le_of_ble_eq_true rfl) fun v2 ev2 rv2 => ?_)
  refine hR (t_c 255 (by decide) ?_)
  obtain ⟨v3, lv3, uv3, qv3⟩ := zand_r (Int32.ofInt v2) (m := Int32.ofInt 255) 8 (by decide) (by decide)
  refine hR (t_c v3 qv3 ?_)
  refine hR (?_ : R (_, _, _, _, _, _))
  exact hR (zret_i rfl (Nat.le_refl _) trivial (h _ (by omega) (see_v (by omega) ev2 qv3 (by omega))))
theorem m_token (d : Nat) (hr0 : 0 ≤ f9 ∧ f9 ≤ f10 ∧ f10 ≤ 600) (Q : zQ) (h : ∀ (y9 : Int) (y11 : Int) (y12 : Int) (y13 : Int) (y14 : Int64), (f9 ≤ y9 ∧ y9 ≤ f10) → (0 ≤ y12 ∧ y12 ≤ 4) → (y12 = 3 → 0 ≤ y13 ∧ y13 ≤ 99) → (y12 = 0 ∨ f9 < y9) → Q (none) (zMi c0 c1 c2 c3 c4 c5 c6 c7 c8 c9 c10 c11 c12 c13 f0 y9 f10 y11 y12 y13 f15 f16 f17 f20 f21 f22 f23 f26 f28 f31 f32 f33 f38 f41 f44 y14 g15 g16 g17 g18 g19 g20 g21 g22 g23 g24 g25 g26 g27 g28 g29 g30 g31 g32 g33 g34 g35 g36 g37 g38 g39 g40 g41 g42 g43 g44 t)) : zCl zTab (d + 2) iX12_token [.ref 14] (zMi c0 c1 c2 c3 c4 c5 c6 c7 c8 c9 c10 c11 c12 c13 f0 f9 f10 f11 f12 f13 f15 f16 f17 f20 f21 f22 f23 f26 f28 f31 f32 f33 f38 f41 f44 x14 g15 g16 g17 g18 g19 g20 g21 g22 g23 g24 g25 g26 g27 g28 g29 g30 g31 g32 g33 g34 g35 g36 g37 g38 g39 g40 g41 g42 g43 g44 t) 0 0 Q := by
  refine zCl_i (M := kX12_token) rfl (Nat.le_of_ble_eq_true rfl) fun R hR => ?_
  have lp0 : ∀ (N : Nat) (e9_0 : Int), (f9 ≤ e9_0 ∧ e9_0 ≤ f10) → (f10 - e9_0 < N) → R (0, [some (.ref 14), none, none], [], (zMi c0 c1 c2 c3 c4 c5 c6 c7 c8 c9 c10 c11 c12 c13 f0 e9_0 f10 f11 f12 f13 f15 f16 f17 f20 f21 f22 f23 f26 f28 f31 f32 f33 f38 f41 f44 x14 g15 g16 g17 g18 g19 g20 g21 g22 g23 g24 g25 g26 g27 g28 g29 g30 g31 g32 g33 g34 g35 g36 g37 g38 g39 g40 g41 g42 g43 g44 t), 0, 0) := by
    intro N
    induction N with
    | zero => intros; omega
    | succ N ih0 =>
      intro e9_0 hp0_0 hN0
      refine hR (?_ : R (_, _, _, _, _, _))
      refine hR (zcall_i 0 0 (Nat.le_of_ble_eq_true rfl) (Nat.le_of_ble_eq_true rfl) (m_see _ (by omega) _ fun v1 hp2 hp3 => ?_))
      refine (?_ : R (_, _, (.int (Int32.ofInt v1)) :: [], (zMi c0 c1 c2 c3 c4 c5 c6 c7 c8 c9 c10 c11 c12 c13 f0 e9_0 f10 f11 f12 f13 f15 f16 f17 f20 f21 f22 f23 f26 f28 f31 f32 f33 f38 f41 f44 x14 g15 g16 g17 g18 g19 g20 g21 g22 g23 g24 g25 g26 g27 g28 g29 g30 g31 g32 g33 g34 g35 g36 g37 g38 g39 g40 g41 g42 g43 g44 t), 0, 0))
      refine hR (t_c 10 (by decide) ?_)
      refine hR (j_eq (by omega) (by omega) (fun hc4 => ?_) (fun hc4 => ?_))
      · skip
        iterate 4 refine hR (?_ : R (_, _, _, _, _, _))
        refine hR (t_add ?_)
        refine hR (?_ : R (_, _, _, (zMi c0 c1 c2 c3 c4 c5 c6 c7 c8 c9 c10 c11 c12 c13 f0 (e9_0 + 1) f10 f11 f12 f13 f15 f16 f17 f20 f21 f22 f23 f26 f28 f31 f32 f33 f38 f41 f44 x14 g15 g16 g17 g18 g19 g20 g21 g22 g23 g24 g25 g26 g27 g28 g29 g30 g31 g32 g33 g34 g35 g36 g37 g38 g39 g40 g41 g42 g43 g44 t), _, _))
        refine hR (?_ : R (_, _, _, _, _, _))
        exact ih0 _ (by omega) (by omega)
      refine hR (?_ : R (_, _, _, _, _, _))
      refine hR (zcall_i 0 0 (Nat.le_of_ble_eq_true rfl) (Nat.le_of_ble_eq_true rfl) (m_see _ (by omega) _ fun v5 hp6 hp7 => ?_))
      refine (?_ : R (_, _, (.int (Int32.ofInt v5)) :: [], (zMi c0 c1 c2 c3 c4 c5 c6 c7 c8 c9 c10 c11 c12 c13 f0 e9_0 f10 f11 f12 f13 f15 f16 f17 f20 f21 f22 f23 f26 f28 f31 f32 f33 f38 f41 f44 x14 g15 g16 g17 g18 g19 g20 g21 g22 g23 g24 g25 g26 g27 g28 g29 g30 g31 g32 g33 g34 g35 g36 g37 g38 g39 g40 g41 g42 g43 g44 t), 0, 0))
      refine hR (t_c 32 (by decide) ?_)
      refine hR (j_ne (by omega) (by omega) (fun hc8 => ?_) (fun hc8 => ?_))
      rotate_left
      · skip
        iterate 4 refine hR (?_ : R (_, _, _, _, _, _))
        refine hR (t_add ?_)
        refine hR (?_ : R (_, _, _, (zMi c0 c1 c2 c3 c4 c5 c6 c7 c8 c9 c10 c11 c12 c13 f0 (e9_0 + 1) f10 f11 f12 f13 f15 f16 f17 f20 f21 f22 f23 f26 f28 f31 f32 f33 f38 f41 f44 x14 g15 g16 g17 g18 g19 g20 g21 g22 g23 g24 g25 g26 g27 g28 g29 g30 g31 g32 g33 g34 g35 g36 g37 g38 g39 g40 g41 g42 g43 g44 t), _, _))
        refine hR (?_ : R (_, _, _, _, _, _))
        exact ih0 _ (by omega) (by omega)
      iterate 3 refine hR (?_ : R (_, _, _, _, _, _))
      refine hR (?_ : R (_, _, _, (zMi c0 c1 c2 c3 c4 c5 c6 c7 c8 c9 c10 c11 c12 c13 f0 e9_0 f10 e9_0 f12 f13 f15 f16 f17 f20 f21 f22 f23 f26 f28 f31 f32 f33 f38 f41 f44 x14 g15 g16 g17 g18 g19 g20 g21 g22 g23 g24 g25 g26 g27 g28 g29 g30 g31 g32 g33 g34 g35 g36 g37 g38 g39 g40 g41 g42 g43 g44 t), _, _))
      refine hR (?_ : R (_, _, _, _, _, _))
      refine hR (zcall_i 0 0 (Nat.le_of_ble_eq_true rfl) (Nat.le_of_ble_eq_true rfl) (m_see _ (by omega) _ fun v9 hp10 hp11 => ?_))
      refine (?_ : R (_, _, (.int (Int32.ofInt v9)) :: [], (zMi c0 c1 c2 c3 c4 c5 c6 c7 c8 c9 c10 c11 c12 c13 f0 e9_0 f10 e9_0 f12 f13 f15 f16 f17 f20 f21 f22 f23 f26 f28 f31 f32 f33 f38 f41 f44 x14 g15 g16 g17 g18 g19 g20 g21 g22 g23 g24 g25 g26 g27 g28 g29 g30 g31 g32 g33 g34 g35 g36 g37 g38 g39 g40 g41 g42 g43 g44 t), 0, 0))
      iterate 3 refine hR (?_ : R (_, _, _, _, _, _))
      refine hR (?_ : R (_, _, _, (zMi c0 c1 c2 c3 c4 c5 c6 c7 c8 c9 c10 c11 c12 c13 f0 e9_0 f10 e9_0 f12 f13 f15 f16 f17 f20 f21 f22 f23 f26 f28 f31 f32 f33 f38 f41 f44 (Int64.ofNat 0) g15 g16 g17 g18 g19 g20 g21 g22 g23 g24 g25 g26 g27 g28 g29 g30 g31 g32 g33 g34 g35 g36 g37 g38 g39 g40 g41 g42 g43 g44 t), _, _))
      iterate 3 refine hR (?_ : R (_, _, _, _, _, _))
      refine hR (k_ge (by omega) (fun hc12 => ?_) (fun hc12 => ?_))
      rotate_left
      · skip
        iterate 2 refine hR (?_ : R (_, _, _, _, _, _))
        refine hR (?_ : R (_, _, _, (zMi c0 c1 c2 c3 c4 c5 c6 c7 c8 c9 c10 c11 c12 c13 f0 e9_0 f10 e9_0 0 f13 f15 f16 f17 f20 f21 f22 f23 f26 f28 f31 f32 f33 f38 f41 f44 (Int64.ofNat 0) g15 g16 g17 g18 g19 g20 g21 g22 g23 g24 g25 g26 g27 g28 g29 g30 g31 g32 g33 g34 g35 g36 g37 g38 g39 g40 g41 g42 g43 g44 t), _, _))
        refine hR (?_ : R (_, _, _, _, _, _))
        exact hR (zret_i rfl (Nat.le_refl _) rfl (h _ _ _ _ _ (by omega) (by omega) (by omega) (by omega)))
      refine hR (?_ : R (_, _, _, _, _, _))
      refine hR (t_c 97 (by decide) ?_)
      refine hR (t_c 122 (by decide) ?_)
      refine hR (zcall_i 0 0 (Nat.le_of_ble_eq_true rfl) (Nat.le_of_ble_eq_true rfl) (m_in _ v9 97 122 _ (by omega) (by omega) (by omega) _ fun v13 hp14 => ?_))
      refine (?_ : R (_, _, (.int (Int32.ofInt v13)) :: [], (zMi c0 c1 c2 c3 c4 c5 c6 c7 c8 c9 c10 c11 c12 c13 f0 e9_0 f10 e9_0 f12 f13 f15 f16 f17 f20 f21 f22 f23 f26 f28 f31 f32 f33 f38 f41 f44 (Int64.ofNat 0) g15 g16 g17 g18 g19 g20 g21 g22 g23 g24 g25 g26 g27 g28 g29 g30 g31 g32 g33 g34 g35 g36 g37 g38 g39 g40 g41 g42 g43 g44 t), 0, 0))
      refine hR (k_eq (by omega) (fun hc15 => ?_) (fun hc15 => ?_))
      rotate_left
      · skip
        have lp74 : ∀ (N : Nat) (n : Int) (e9_74 : Int) (e14_74 : Int64), (0 ≤ n ∧ n ≤ 600) → (e9_0 ≤ e9_74 ∧ e9_74 ≤ f10 ∧ n ≤ e9_74) → (e9_74 = e9_0 → seeV g15 e9_74 f10 = v9) → (f10 - e9_74 < N) → R (74, [some (.ref 14), some (.int (Int32.ofInt v9)), some (.int (Int32.ofInt n))], [], (zMi c0 c1 c2 c3 c4 c5 c6 c7 c8 c9 c10 c11 c12 c13 f0 e9_74 f10 e9_0 f12 f13 f15 f16 f17 f20 f21 f22 f23 f26 f28 f31 f32 f33 f38 f41 f44 e14_74 g15 g16 g17 g18 g19 g20 g21 g22 g23 g24 g25 g26 g27 g28 g29 g30 g31 g32 g33 g34 g35 g36 g37 g38 g39 g40 g41 g42 g43 g44 t), 0, 0) := by
          intro N
          induction N with
          | zero => intros; omega
          | succ N ih74 =>
            intro n e9_74 e14_74 hf0_74 hp0_74 hp1_74 hN74
            refine hR (?_ : R (_, _, _, _, _, _))
            refine hR (zcall_i 0 0 (Nat.le_of_ble_eq_true rfl) (Nat.le_of_ble_eq_true rfl) (m_see _ (by omega) _ fun v31 hp32 hp33 => ?_))
            refine (?_ : R (_, _, (.int (Int32.ofInt v31)) :: [], (zMi c0 c1 c2 c3 c4 c5 c6 c7 c8 c9 c10 c11 c12 c13 f0 e9_74 f10 e9_0 f12 f13 f15 f16 f17 f20 f21 f22 f23 f26 f28 f31 f32 f33 f38 f41 f44 e14_74 g15 g16 g17 g18 g19 g20 g21 g22 g23 g24 g25 g26 g27 g28 g29 g30 g31 g32 g33 g34 g35 g36 g37 g38 g39 g40 g41 g42 g43 g44 t), 0, 0))
            refine hR (t_c 97 (by decide) ?_)
            refine hR (t_c 122 (by decide) ?_)
            refine hR (zcall_i 0 0 (Nat.le_of_ble_eq_true rfl) (Nat.le_of_ble_eq_true rfl) (m_in _ v31 97 122 _ (by omega) (by omega) (by omega) _ fun v34 hp35 => ?_))
            refine (?_ : R (_, _, (.int (Int32.ofInt v34)) :: [], (zMi c0 c1 c2 c3 c4 c5 c6 c7 c8 c9 c10 c11 c12 c13 f0 e9_74 f10 e9_0 f12 f13 f15 f16 f17 f20 f21 f22 f23 f26 f28 f31 f32 f33 f38 f41 f44 e14_74 g15 g16 g17 g18 g19 g20 g21 g22 g23 g24 g25 g26 g27 g28 g29 g30 g31 g32 g33 g34 g35 g36 g37 g38 g39 g40 g41 g42 g43 g44 t), 0, 0))
            refine hR (k_eq (by omega) (fun hc36 => ?_) (fun hc36 => ?_))
            rotate_left
            · skip
              iterate 3 refine hR (?_ : R (_, _, _, _, _, _))
              refine hR (t_c 8 (by decide) ?_)
              refine hR (t_xl fun w38 => ?_)
              refine hR (?_ : R (_, _, _, _, _, _))
              refine hR (zcall_i 0 0 (Nat.le_of_ble_eq_true rfl) (Nat.le_of_ble_eq_true rfl) (m_see _ (by omega) _ fun v39 hp40 hp41 => ?_))
              refine (?_ : R (_, _, (.int (Int32.ofInt v39)) :: (.long w38) :: (.ref 14) :: [], (zMi c0 c1 c2 c3 c4 c5 c6 c7 c8 c9 c10 c11 c12 c13 f0 e9_74 f10 e9_0 f12 f13 f15 f16 f17 f20 f21 f22 f23 f26 f28 f31 f32 f33 f38 f41 f44 e14_74 g15 g16 g17 g18 g19 g20 g21 g22 g23 g24 g25 g26 g27 g28 g29 g30 g31 g32 g33 g34 g35 g36 g37 g38 g39 g40 g41 g42 g43 g44 t), 0, 0))
              refine hR (t_xl fun w42 => ?_)
              refine hR (t_xl fun w43 => ?_)
              refine hR (?_ : R (_, _, _, (zMi c0 c1 c2 c3 c4 c5 c6 c7 c8 c9 c10 c11 c12 c13 f0 e9_74 f10 e9_0 f12 f13 f15 f16 f17 f20 f21 f22 f23 f26 f28 f31 f32 f33 f38 f41 f44 w43 g15 g16 g17 g18 g19 g20 g21 g22 g23 g24 g25 g26 g27 g28 g29 g30 g31 g32 g33 g34 g35 g36 g37 g38 g39 g40 g41 g42 g43 g44 t), _, _))
              iterate 4 refine hR (?_ : R (_, _, _, _, _, _))
              refine hR (t_add ?_)
              refine hR (?_ : R (_, _, _, (zMi c0 c1 c2 c3 c4 c5 c6 c7 c8 c9 c10 c11 c12 c13 f0 (e9_74 + 1) f10 e9_0 f12 f13 f15 f16 f17 f20 f21 f22 f23 f26 f28 f31 f32 f33 f38 f41 f44 w43 g15 g16 g17 g18 g19 g20 g21 g22 g23 g24 g25 g26 g27 g28 g29 g30 g31 g32 g33 g34 g35 g36 g37 g38 g39 g40 g41 g42 g43 g44 t), _, _))
              refine hR (t_inc ?_)
              refine hR (?_ : R (_, _, _, _, _, _))
              exact ih74 _ _ _ (by omega) (by omega) (by omega) (by omega)
            iterate 2 refine hR (?_ : R (_, _, _, _, _, _))
            refine hR (t_c 8 (by decide) ?_)
            refine hR (j_le (by omega) (by omega) (fun hc37 => ?_) (fun hc37 => ?_))
            · skip
              iterate 2 refine hR (?_ : R (_, _, _, _, _, _))
              refine hR (?_ : R (_, _, _, (zMi c0 c1 c2 c3 c4 c5 c6 c7 c8 c9 c10 c11 c12 c13 f0 e9_74 f10 e9_0 f12 f13 f15 f16 f17 f20 f21 f22 f23 f26 f28 f31 f32 f33 f38 f41 f44 e14_74 g15 g16 g17 g18 g19 g20 g21 g22 g23 g24 g25 g26 g27 g28 g29 g30 g31 g32 g33 g34 g35 g36 g37 g38 g39 g40 g41 g42 g43 g44 t), _, _))
              iterate 2 refine hR (?_ : R (_, _, _, _, _, _))
              refine hR (?_ : R (_, _, _, (zMi c0 c1 c2 c3 c4 c5 c6 c7 c8 c9 c10 c11 c12 c13 f0 e9_74 f10 e9_0 2 f13 f15 f16 f17 f20 f21 f22 f23 f26 f28 f31 f32 f33 f38 f41 f44 e14_74 g15 g16 g17 g18 g19 g20 g21 g22 g23 g24 g25 g26 g27 g28 g29 g30 g31 g32 g33 g34 g35 g36 g37 g38 g39 g40 g41 g42 g43 g44 t), _, _))
              refine hR (?_ : R (_, _, _, _, _, _))
              exact hR (zret_i rfl (Nat.le_refl _) rfl (h _ _ _ _ _ (by omega) (by omega) (by omega) (by omega)))
            iterate 2 refine hR (?_ : R (_, _, _, _, _, _))
            refine hR (?_ : R (_, _, _, (zMi c0 c1 c2 c3 c4 c5 c6 c7 c8 c9 c10 c11 c12 c13 f0 e9_74 f10 e9_0 f12 f13 f15 f16 f17 f20 f21 f22 f23 f26 f28 f31 f32 f33 f38 f41 f44 (Int64.ofNat 0) g15 g16 g17 g18 g19 g20 g21 g22 g23 g24 g25 g26 g27 g28 g29 g30 g31 g32 g33 g34 g35 g36 g37 g38 g39 g40 g41 g42 g43 g44 t), _, _))
            iterate 2 refine hR (?_ : R (_, _, _, _, _, _))
            refine hR (?_ : R (_, _, _, (zMi c0 c1 c2 c3 c4 c5 c6 c7 c8 c9 c10 c11 c12 c13 f0 e9_74 f10 e9_0 2 f13 f15 f16 f17 f20 f21 f22 f23 f26 f28 f31 f32 f33 f38 f41 f44 (Int64.ofNat 0) g15 g16 g17 g18 g19 g20 g21 g22 g23 g24 g25 g26 g27 g28 g29 g30 g31 g32 g33 g34 g35 g36 g37 g38 g39 g40 g41 g42 g43 g44 t), _, _))
            refine hR (?_ : R (_, _, _, _, _, _))
            exact hR (zret_i rfl (Nat.le_refl _) rfl (h _ _ _ _ _ (by omega) (by omega) (by omega) (by omega)))
        exact lp74 400000000 _ _ _ (by omega) (by omega) (by omega) (by omega)
      refine hR (?_ : R (_, _, _, _, _, _))
      refine hR (t_c 48 (by decide) ?_)
      refine hR (t_c 57 (by decide) ?_)
      refine hR (zcall_i 0 0 (Nat.le_of_ble_eq_true rfl) (Nat.le_of_ble_eq_true rfl) (m_in _ v9 48 57 _ (by omega) (by omega) (by omega) _ fun v16 hp17 => ?_))
      refine (?_ : R (_, _, (.int (Int32.ofInt v16)) :: [], (zMi c0 c1 c2 c3 c4 c5 c6 c7 c8 c9 c10 c11 c12 c13 f0 e9_0 f10 e9_0 f12 f13 f15 f16 f17 f20 f21 f22 f23 f26 f28 f31 f32 f33 f38 f41 f44 (Int64.ofNat 0) g15 g16 g17 g18 g19 g20 g21 g22 g23 g24 g25 g26 g27 g28 g29 g30 g31 g32 g33 g34 g35 g36 g37 g38 g39 g40 g41 g42 g43 g44 t), 0, 0))
      refine hR (k_eq (by omega) (fun hc18 => ?_) (fun hc18 => ?_))
      · skip
        iterate 4 refine hR (?_ : R (_, _, _, _, _, _))
        refine hR (t_add ?_)
        refine hR (?_ : R (_, _, _, (zMi c0 c1 c2 c3 c4 c5 c6 c7 c8 c9 c10 c11 c12 c13 f0 (e9_0 + 1) f10 e9_0 f12 f13 f15 f16 f17 f20 f21 f22 f23 f26 f28 f31 f32 f33 f38 f41 f44 (Int64.ofNat 0) g15 g16 g17 g18 g19 g20 g21 g22 g23 g24 g25 g26 g27 g28 g29 g30 g31 g32 g33 g34 g35 g36 g37 g38 g39 g40 g41 g42 g43 g44 t), _, _))
        iterate 2 refine hR (?_ : R (_, _, _, _, _, _))
        refine hR (t_c 59 (by decide) ?_)
        refine hR (j_ne (by omega) (by omega) (fun hc19 => ?_) (fun hc19 => ?_))
        · skip
          refine hR (?_ : R (_, _, _, _, _, _))
          refine hR (?_ : R (_, _, _, (zMi c0 c1 c2 c3 c4 c5 c6 c7 c8 c9 c10 c11 c12 c13 f0 (e9_0 + 1) f10 e9_0 1 f13 f15 f16 f17 f20 f21 f22 f23 f26 f28 f31 f32 f33 f38 f41 f44 (Int64.ofNat 0) g15 g16 g17 g18 g19 g20 g21 g22 g23 g24 g25 g26 g27 g28 g29 g30 g31 g32 g33 g34 g35 g36 g37 g38 g39 g40 g41 g42 g43 g44 t), _, _))
          exact hR (zret_i rfl (Nat.le_refl _) rfl (h _ _ _ _ _ (by omega) (by omega) (by omega) (by omega)))
        iterate 2 refine hR (?_ : R (_, _, _, _, _, _))
        refine hR (?_ : R (_, _, _, (zMi c0 c1 c2 c3 c4 c5 c6 c7 c8 c9 c10 c11 c12 c13 f0 (e9_0 + 1) f10 e9_0 4 f13 f15 f16 f17 f20 f21 f22 f23 f26 f28 f31 f32 f33 f38 f41 f44 (Int64.ofNat 0) g15 g16 g17 g18 g19 g20 g21 g22 g23 g24 g25 g26 g27 g28 g29 g30 g31 g32 g33 g34 g35 g36 g37 g38 g39 g40 g41 g42 g43 g44 t), _, _))
        exact hR (zret_i rfl (Nat.le_refl _) rfl (h _ _ _ _ _ (by omega) (by omega) (by omega) (by omega)))
      iterate 2 refine hR (?_ : R (_, _, _, _, _, _))
      refine hR (?_ : R (_, _, _, (zMi c0 c1 c2 c3 c4 c5 c6 c7 c8 c9 c10 c11 c12 c13 f0 e9_0 f10 e9_0 f12 0 f15 f16 f17 f20 f21 f22 f23 f26 f28 f31 f32 f33 f38 f41 f44 (Int64.ofNat 0) g15 g16 g17 g18 g19 g20 g21 g22 g23 g24 g25 g26 g27 g28 g29 g30 g31 g32 g33 g34 g35 g36 g37 g38 g39 g40 g41 g42 g43 g44 t), _, _))
      have lp163 : ∀ (N : Nat) (n : Int) (e9_163 : Int) (e13_163 : Int), (0 ≤ n ∧ n ≤ 600) → (e9_0 ≤ e9_163 ∧ e9_163 ≤ f10 ∧ n ≤ e9_163) → (e9_163 = e9_0 → seeV g15 e9_163 f10 = v9) → (0 ≤ e13_163 ∧ e13_163 ≤ 99 ∧ (n = 0 → e13_163 = 0) ∧ (n = 1 → e13_163 ≤ 9)) → (f10 - e9_163 < N) → R (163, [some (.ref 14), some (.int (Int32.ofInt v9)), some (.int (Int32.ofInt n))], [], (zMi c0 c1 c2 c3 c4 c5 c6 c7 c8 c9 c10 c11 c12 c13 f0 e9_163 f10 e9_0 f12 e13_163 f15 f16 f17 f20 f21 f22 f23 f26 f28 f31 f32 f33 f38 f41 f44 (Int64.ofNat 0) g15 g16 g17 g18 g19 g20 g21 g22 g23 g24 g25 g26 g27 g28 g29 g30 g31 g32 g33 g34 g35 g36 g37 g38 g39 g40 g41 g42 g43 g44 t), 0, 0) := by
        intro N
        induction N with
        | zero => intros; omega
        | succ N ih163 =>
          intro n e9_163 e13_163 hf0_163 hp0_163 hp1_163 hp2_163 hN163
          refine hR (?_ : R (_, _, _, _, _, _))
          refine hR (zcall_i 0 0 (Nat.le_of_ble_eq_true rfl) (Nat.le_of_ble_eq_true rfl) (m_see _ (by omega) _ fun v20 hp21 hp22 => ?_))
          refine (?_ : R (_, _, (.int (Int32.ofInt v20)) :: [], (zMi c0 c1 c2 c3 c4 c5 c6 c7 c8 c9 c10 c11 c12 c13 f0 e9_163 f10 e9_0 f12 e13_163 f15 f16 f17 f20 f21 f22 f23 f26 f28 f31 f32 f33 f38 f41 f44 (Int64.ofNat 0) g15 g16 g17 g18 g19 g20 g21 g22 g23 g24 g25 g26 g27 g28 g29 g30 g31 g32 g33 g34 g35 g36 g37 g38 g39 g40 g41 g42 g43 g44 t), 0, 0))
          refine hR (t_c 48 (by decide) ?_)
          refine hR (t_c 57 (by decide) ?_)
          refine hR (zcall_i 0 0 (Nat.le_of_ble_eq_true rfl) (Nat.le_of_ble_eq_true rfl) (m_in _ v20 48 57 _ (by omega) (by omega) (by omega) _ fun v23 hp24 => ?_))
          refine (?_ : R (_, _, (.int (Int32.ofInt v23)) :: [], (zMi c0 c1 c2 c3 c4 c5 c6 c7 c8 c9 c10 c11 c12 c13 f0 e9_163 f10 e9_0 f12 e13_163 f15 f16 f17 f20 f21 f22 f23 f26 f28 f31 f32 f33 f38 f41 f44 (Int64.ofNat 0) g15 g16 g17 g18 g19 g20 g21 g22 g23 g24 g25 g26 g27 g28 g29 g30 g31 g32 g33 g34 g35 g36 g37 g38 g39 g40 g41 g42 g43 g44 t), 0, 0))
          refine hR (k_eq (by omega) (fun hc25 => ?_) (fun hc25 => ?_))
          · skip
            iterate 3 refine hR (?_ : R (_, _, _, _, _, _))
            refine hR (j_le (by omega) (by omega) (fun hc26 => ?_) (fun hc26 => ?_))
            · skip
              refine hR (?_ : R (_, _, _, _, _, _))
              refine hR (?_ : R (_, _, _, (zMi c0 c1 c2 c3 c4 c5 c6 c7 c8 c9 c10 c11 c12 c13 f0 e9_163 f10 e9_0 3 e13_163 f15 f16 f17 f20 f21 f22 f23 f26 f28 f31 f32 f33 f38 f41 f44 (Int64.ofNat 0) g15 g16 g17 g18 g19 g20 g21 g22 g23 g24 g25 g26 g27 g28 g29 g30 g31 g32 g33 g34 g35 g36 g37 g38 g39 g40 g41 g42 g43 g44 t), _, _))
              refine hR (?_ : R (_, _, _, _, _, _))
              exact hR (zret_i rfl (Nat.le_refl _) rfl (h _ _ _ _ _ (by omega) (by omega) (by omega) (by omega)))
            iterate 2 refine hR (?_ : R (_, _, _, _, _, _))
            refine hR (?_ : R (_, _, _, (zMi c0 c1 c2 c3 c4 c5 c6 c7 c8 c9 c10 c11 c12 c13 f0 e9_163 f10 e9_0 1 e13_163 f15 f16 f17 f20 f21 f22 f23 f26 f28 f31 f32 f33 f38 f41 f44 (Int64.ofNat 0) g15 g16 g17 g18 g19 g20 g21 g22 g23 g24 g25 g26 g27 g28 g29 g30 g31 g32 g33 g34 g35 g36 g37 g38 g39 g40 g41 g42 g43 g44 t), _, _))
            refine hR (?_ : R (_, _, _, _, _, _))
            exact hR (zret_i rfl (Nat.le_refl _) rfl (h _ _ _ _ _ (by omega) (by omega) (by omega) (by omega)))
          iterate 3 refine hR (?_ : R (_, _, _, _, _, _))
          refine hR (j_ge (by omega) (by omega) (fun hc27 => ?_) (fun hc27 => ?_))
          · skip
            iterate 2 refine hR (?_ : R (_, _, _, _, _, _))
            refine hR (?_ : R (_, _, _, (zMi c0 c1 c2 c3 c4 c5 c6 c7 c8 c9 c10 c11 c12 c13 f0 e9_163 f10 e9_0 f12 e13_163 f15 f16 f17 f20 f21 f22 f23 f26 f28 f31 f32 f33 f38 f41 f44 (Int64.ofNat 0) g15 g16 g17 g18 g19 g20 g21 g22 g23 g24 g25 g26 g27 g28 g29 g30 g31 g32 g33 g34 g35 g36 g37 g38 g39 g40 g41 g42 g43 g44 t), _, _))
            iterate 4 refine hR (?_ : R (_, _, _, _, _, _))
            refine hR (t_add ?_)
            refine hR (?_ : R (_, _, _, (zMi c0 c1 c2 c3 c4 c5 c6 c7 c8 c9 c10 c11 c12 c13 f0 (e9_163 + 1) f10 e9_0 f12 e13_163 f15 f16 f17 f20 f21 f22 f23 f26 f28 f31 f32 f33 f38 f41 f44 (Int64.ofNat 0) g15 g16 g17 g18 g19 g20 g21 g22 g23 g24 g25 g26 g27 g28 g29 g30 g31 g32 g33 g34 g35 g36 g37 g38 g39 g40 g41 g42 g43 g44 t), _, _))
            refine hR (t_inc ?_)
            refine hR (?_ : R (_, _, _, _, _, _))
            exact ih163 _ _ _ (by omega) (by omega) (by omega) (by omega) (by omega)
          refine hR (t_c 10 (by decide) ?_)
          iterate 2 refine hR (?_ : R (_, _, _, _, _, _))
          refine hR (t_mul ?_)
          refine hR (?_ : R (_, _, _, _, _, _))
          refine hR (zcall_i 0 0 (Nat.le_of_ble_eq_true rfl) (Nat.le_of_ble_eq_true rfl) (m_see _ (by omega) _ fun v28 hp29 hp30 => ?_))
          refine (?_ : R (_, _, (.int (Int32.ofInt v28)) :: (.int (Int32.ofInt (10 * e13_163))) :: (.ref 14) :: [], (zMi c0 c1 c2 c3 c4 c5 c6 c7 c8 c9 c10 c11 c12 c13 f0 e9_163 f10 e9_0 f12 e13_163 f15 f16 f17 f20 f21 f22 f23 f26 f28 f31 f32 f33 f38 f41 f44 (Int64.ofNat 0) g15 g16 g17 g18 g19 g20 g21 g22 g23 g24 g25 g26 g27 g28 g29 g30 g31 g32 g33 g34 g35 g36 g37 g38 g39 g40 g41 g42 g43 g44 t), 0, 0))
          refine hR (t_add ?_)
          refine hR (t_c 48 (by decide) ?_)
          refine hR (t_sub ?_)
          refine hR (?_ : R (_, _, _, _, _, _))
          refine hR (?_ : R (_, _, _, (zMi c0 c1 c2 c3 c4 c5 c6 c7 c8 c9 c10 c11 c12 c13 f0 e9_163 f10 e9_0 f12 (((10 * e13_163) + v28) - 48) f15 f16 f17 f20 f21 f22 f23 f26 f28 f31 f32 f33 f38 f41 f44 (Int64.ofNat 0) g15 g16 g17 g18 g19 g20 g21 g22 g23 g24 g25 g26 g27 g28 g29 g30 g31 g32 g33 g34 g35 g36 g37 g38 g39 g40 g41 g42 g43 g44 t), _, _))
          iterate 4 refine hR (?_ : R (_, _, _, _, _, _))
          refine hR (t_add ?_)
          refine hR (?_ : R (_, _, _, (zMi c0 c1 c2 c3 c4 c5 c6 c7 c8 c9 c10 c11 c12 c13 f0 (e9_163 + 1) f10 e9_0 f12 (((10 * e13_163) + v28) - 48) f15 f16 f17 f20 f21 f22 f23 f26 f28 f31 f32 f33 f38 f41 f44 (Int64.ofNat 0) g15 g16 g17 g18 g19 g20 g21 g22 g23 g24 g25 g26 g27 g28 g29 g30 g31 g32 g33 g34 g35 g36 g37 g38 g39 g40 g41 g42 g43 g44 t), _, _))
          refine hR (t_inc ?_)
          refine hR (?_ : R (_, _, _, _, _, _))
          exact ih163 _ _ _ (by omega) (by omega) (by omega) (by omega) (by omega)
      exact lp163 400000000 _ _ _ (by omega) (by omega) (by omega) (by omega) (by omega)
  exact lp0 400000000 _ (by omega) (by omega)
theorem m_fails (d : Nat)  (Q : zQ) (h : ∀ (v : Int) (y15 : Int), (v = 0) → Q (some (.int (Int32.ofInt v))) (zMi c0 c1 c2 c3 c4 c5 c6 c7 c8 c9 c10 c11 c12 c13 f0 f9 f10 f11 f12 f13 y15 f16 f17 f20 f21 f22 f23 f26 f28 f31 f32 f33 f38 f41 f44 x14 g15 g16 g17 g18 g19 g20 g21 g22 g23 g24 g25 g26 g27 g28 g29 g30 g31 g32 g33 g34 g35 g36 g37 g38 g39 g40 g41 g42 g43 g44 t)) : zCl zTab (d + 1) iX12_fails [.ref 14] (zMi c0 c1 c2 c3 c4 c5 c6 c7 c8 c9 c10 c11 c12 c13 f0 f9 f10 f11 f12 f13 f15 f16 f17 f20 f21 f22 f23 f26 f28 f31 f32 f33 f38 f41 f44 x14 g15 g16 g17 g18 g19 g20 g21 g22 g23 g24 g25 g26 g27 g28 g29 g30 g31 g32 g33 g34 g35 g36 g37 g38 g39 g40 g41 g42 g43 g44 t) 0 0 Q := by
  refine zCl_i (M := kX12_fails) rfl (Nat.le_of_ble_eq_true rfl) fun R hR => ?_
  iterate 3 refine hR (?_ : R (_, _, _, _, _, _))
  refine hR (?_ : R (_, _, _, (zMi c0 c1 c2 c3 c4 c5 c6 c7 c8 c9 c10 c11 c12 c13 f0 f9 f10 f11 f12 f13 f11 f16 f17 f20 f21 f22 f23 f26 f28 f31 f32 f33 f38 f41 f44 x14 g15 g16 g17 g18 g19 g20 g21 g22 g23 g24 g25 g26 g27 g28 g29 g30 g31 g32 g33 g34 g35 g36 g37 g38 g39 g40 g41 g42 g43 g44 t), _, _))
  refine hR (?_ : R (_, _, _, _, _, _))
  exact hR (zret_i rfl (Nat.le_refl _) (zbo (by omega)) (h _ _ (by omega)))
theorem m_later (d : Nat) (a1 a2 : Int) (hr0 : 0 ≤ f16 ∧ f16 ≤ 4) (hr1 : 1 ≤ a1 ∧ a1 ≤ 4) (Q : zQ) (h : ∀ (y16 : Int) (y17 : Int), (1 ≤ y16 ∧ y16 ≤ 4) → Q (none) (zMi c0 c1 c2 c3 c4 c5 c6 c7 c8 c9 c10 c11 c12 c13 f0 f9 f10 f11 f12 f13 f15 y16 y17 f20 f21 f22 f23 f26 f28 f31 f32 f33 f38 f41 f44 x14 g15 g16 g17 g18 g19 g20 g21 g22 g23 g24 g25 g26 g27 g28 g29 g30 g31 g32 g33 g34 g35 g36 g37 g38 g39 g40 g41 g42 g43 g44 t)) : zCl zTab (d + 1) iX12_later [.ref 14, .int (Int32.ofInt a1), .int (Int32.ofInt a2)] (zMi c0 c1 c2 c3 c4 c5 c6 c7 c8 c9 c10 c11 c12 c13 f0 f9 f10 f11 f12 f13 f15 f16 f17 f20 f21 f22 f23 f26 f28 f31 f32 f33 f38 f41 f44 x14 g15 g16 g17 g18 g19 g20 g21 g22 g23 g24 g25 g26 g27 g28 g29 g30 g31 g32 g33 g34 g35 g36 g37 g38 g39 g40 g41 g42 g43 g44 t) 0 0 Q := by
  refine zCl_i (M := kX12_later) rfl (Nat.le_of_ble_eq_true rfl) fun R hR => ?_
  iterate 2 refine hR (?_ : R (_, _, _, _, _, _))
  refine hR (k_eq (by omega) (fun hc1 => ?_) (fun hc1 => ?_))
  · skip
    iterate 2 refine hR (?_ : R (_, _, _, _, _, _))
    refine hR (?_ : R (_, _, _, (zMi c0 c1 c2 c3 c4 c5 c6 c7 c8 c9 c10 c11 c12 c13 f0 f9 f10 f11 f12 f13 f15 a1 f17 f20 f21 f22 f23 f26 f28 f31 f32 f33 f38 f41 f44 x14 g15 g16 g17 g18 g19 g20 g21 g22 g23 g24 g25 g26 g27 g28 g29 g30 g31 g32 g33 g34 g35 g36 g37 g38 g39 g40 g41 g42 g43 g44 t), _, _))
    iterate 2 refine hR (?_ : R (_, _, _, _, _, _))
    refine hR (?_ : R (_, _, _, (zMi c0 c1 c2 c3 c4 c5 c6 c7 c8 c9 c10 c11 c12 c13 f0 f9 f10 f11 f12 f13 f15 a1 a2 f20 f21 f22 f23 f26 f28 f31 f32 f33 f38 f41 f44 x14 g15 g16 g17 g18 g19 g20 g21 g22 g23 g24 g25 g26 g27 g28 g29 g30 g31 g32 g33 g34 g35 g36 g37 g38 g39 g40 g41 g42 g43 g44 t), _, _))
    exact hR (zret_i rfl (Nat.le_refl _) rfl (h _ _ (by omega)))
  iterate 3 refine hR (?_ : R (_, _, _, _, _, _))
  refine hR (j_any ?_ ?_)
  · skip
    iterate 2 refine hR (?_ : R (_, _, _, _, _, _))
    refine hR (?_ : R (_, _, _, (zMi c0 c1 c2 c3 c4 c5 c6 c7 c8 c9 c10 c11 c12 c13 f0 f9 f10 f11 f12 f13 f15 a1 f17 f20 f21 f22 f23 f26 f28 f31 f32 f33 f38 f41 f44 x14 g15 g16 g17 g18 g19 g20 g21 g22 g23 g24 g25 g26 g27 g28 g29 g30 g31 g32 g33 g34 g35 g36 g37 g38 g39 g40 g41 g42 g43 g44 t), _, _))
    iterate 2 refine hR (?_ : R (_, _, _, _, _, _))
    refine hR (?_ : R (_, _, _, (zMi c0 c1 c2 c3 c4 c5 c6 c7 c8 c9 c10 c11 c12 c13 f0 f9 f10 f11 f12 f13 f15 a1 a2 f20 f21 f22 f23 f26 f28 f31 f32 f33 f38 f41 f44 x14 g15 g16 g17 g18 g19 g20 g21 g22 g23 g24 g25 g26 g27 g28 g29 g30 g31 g32 g33 g34 g35 g36 g37 g38 g39 g40 g41 g42 g43 g44 t), _, _))
    exact hR (zret_i rfl (Nat.le_refl _) rfl (h _ _ (by omega)))
  iterate 3 refine hR (?_ : R (_, _, _, _, _, _))
  refine hR (j_any ?_ ?_)
  · skip
    exact hR (zret_i rfl (Nat.le_refl _) rfl (h _ _ (by omega)))
  iterate 3 refine hR (?_ : R (_, _, _, _, _, _))
  refine hR (j_ge (by omega) (by omega) (fun hc2 => ?_) (fun hc2 => ?_))
  · skip
    exact hR (zret_i rfl (Nat.le_refl _) rfl (h _ _ (by omega)))
  iterate 2 refine hR (?_ : R (_, _, _, _, _, _))
  refine hR (?_ : R (_, _, _, (zMi c0 c1 c2 c3 c4 c5 c6 c7 c8 c9 c10 c11 c12 c13 f0 f9 f10 f11 f12 f13 f15 a1 f17 f20 f21 f22 f23 f26 f28 f31 f32 f33 f38 f41 f44 x14 g15 g16 g17 g18 g19 g20 g21 g22 g23 g24 g25 g26 g27 g28 g29 g30 g31 g32 g33 g34 g35 g36 g37 g38 g39 g40 g41 g42 g43 g44 t), _, _))
  iterate 2 refine hR (?_ : R (_, _, _, _, _, _))
  refine hR (?_ : R (_, _, _, (zMi c0 c1 c2 c3 c4 c5 c6 c7 c8 c9 c10 c11 c12 c13 f0 f9 f10 f11 f12 f13 f15 a1 a2 f20 f21 f22 f23 f26 f28 f31 f32 f33 f38 f41 f44 x14 g15 g16 g17 g18 g19 g20 g21 g22 g23 g24 g25 g26 g27 g28 g29 g30 g31 g32 g33 g34 g35 g36 g37 g38 g39 g40 g41 g42 g43 g44 t), _, _))
  exact hR (zret_i rfl (Nat.le_refl _) rfl (h _ _ (by omega)))
theorem m_takeBut0 (d : Nat) (a2 a3 a4 : Int) (hr0 : 0 ≤ f9 ∧ f9 ≤ f10 ∧ f10 ≤ 600) (hr1 : 0 ≤ f12 ∧ f12 ≤ 4 ∧ (f12 = 3 → 0 ≤ f13 ∧ f13 ≤ 99)) (hr2 : 0 ≤ f16 ∧ f16 ≤ 4) (hr3 : -2147483648 ≤ a2 ∧ a2 ≤ 2147483647) (hr4 : -2147483648 ≤ a3 ∧ a3 ≤ 2147483647) (hr5 : -2147483648 ≤ a4 ∧ a4 ≤ 2147483647) (Q : zQ) (h : ∀ (v : Int) (y9 : Int) (y11 : Int) (y12 : Int) (y13 : Int) (y14 : Int64) (y15 : Int) (y16 : Int) (y17 : Int) (k24 : Nat → Int32), (f9 ≤ y9 ∧ y9 ≤ f10) → (0 ≤ y12 ∧ y12 ≤ 4 ∧ (y12 = 3 → 0 ≤ y13 ∧ y13 ≤ 99)) → (0 ≤ y16 ∧ y16 ≤ 4) → ((v = 1 ∧ f12 = 3 ∧ (y12 = 0 ∨ f9 < y9) ∧ (y16 = 0 → f16 = 0 ∧ a2 ≤ f13 ∧ f13 ≤ a3 ∧ f13 ≠ a4) ∧ (k24 0).toInt = f13) ∨ (v = 0 ∧ f12 ≠ 3)) → ((k24 1).toInt = (g24 1).toInt) → ((k24 2).toInt = (g24 2).toInt) → Q (some (.int (Int32.ofInt v))) (zMi c0 c1 c2 c3 c4 c5 c6 c7 c8 c9 c10 c11 c12 c13 f0 y9 f10 y11 y12 y13 y15 y16 y17 f20 f21 f22 f23 f26 f28 f31 f32 f33 f38 f41 f44 y14 g15 g16 g17 g18 g19 g20 g21 g22 g23 k24 g25 g26 g27 g28 g29 g30 g31 g32 g33 g34 g35 g36 g37 g38 g39 g40 g41 g42 g43 g44 t)) : zCl zTab (d + 3) iX12_takeBut [.ref 14, .int (Int32.ofInt 0), .int (Int32.ofInt a2), .int (Int32.ofInt a3), .int (Int32.ofInt a4)] (zMi c0 c1 c2 c3 c4 c5 c6 c7 c8 c9 c10 c11 c12 c13 f0 f9 f10 f11 f12 f13 f15 f16 f17 f20 f21 f22 f23 f26 f28 f31 f32 f33 f38 f41 f44 x14 g15 g16 g17 g18 g19 g20 g21 g22 g23 g24 g25 g26 g27 g28 g29 g30 g31 g32 g33 g34 g35 g36 g37 g38 g39 g40 g41 g42 g43 g44 t) 0 0 Q := by
  refine zCl_i (M := kX12_takeBut) rfl (Nat.le_of_ble_eq_true rfl) fun R hR => ?_
  iterate 3 refine hR (?_ : R (_, _, _, _, _, _))
  refine hR (j_eq (by omega) (by omega) (fun hc1 => ?_) (fun hc1 => ?_))
  rotate_left
  · skip
    refine hR (?_ : R (_, _, _, _, _, _))
    refine hR (zcall_i 0 0 (Nat.le_of_ble_eq_true rfl) (Nat.le_of_ble_eq_true rfl) (m_fails _ _ fun v40 y15_41 hp42 => ?_))
    refine (?_ : R (_, _, (.int (Int32.ofInt v40)) :: [], (zMi c0 c1 c2 c3 c4 c5 c6 c7 c8 c9 c10 c11 c12 c13 f0 f9 f10 f11 f12 f13 y15_41 f16 f17 f20 f21 f22 f23 f26 f28 f31 f32 f33 f38 f41 f44 x14 g15 g16 g17 g18 g19 g20 g21 g22 g23 g24 g25 g26 g27 g28 g29 g30 g31 g32 g33 g34 g35 g36 g37 g38 g39 g40 g41 g42 g43 g44 t), 0, 0))
    exact hR (zret_i rfl (Nat.le_refl _) (zbo (by omega)) (h _ _ _ _ _ _ _ _ _ _ (by omega) (by omega) (by omega) (by omega) (by omega) (by omega)))
  iterate 5 refine hR (?_ : R (_, _, _, _, _, _))
  refine hR (t_stV 0 rfl (by omega) (by omega) (by omega) (by omega) (Nat.le_of_ble_eq_true rfl) fun k24_2 hvk24_2 hwk24_2 => (?_ : R (_, _, _, (zMi c0 c1 c2 c3 c4 c5 c6 c7 c8 c9 c10 c11 c12 c13 f0 f9 f10 f11 f12 f13 f15 f16 f17 f20 f21 f22 f23 f26 f28 f31 f32 f33 f38 f41 f44 x14 g15 g16 g17 g18 g19 g20 g21 g22 g23 k24_2 g25 g26 g27 g28 g29 g30 g31 g32 g33 g34 g35 g36 g37 g38 g39 g40 g41 g42 g43 g44 t), _, _)))
  have hxk24_2_1 : (k24_2 1).toInt = (g24 1).toInt := by rw [hwk24_2 1 (by decide)]
  have hxk24_2_2 : (k24_2 2).toInt = (g24 2).toInt := by rw [hwk24_2 2 (by decide)]
  iterate 4 refine hR (?_ : R (_, _, _, _, _, _))
  refine hR (zcall_i 0 0 (Nat.le_of_ble_eq_true rfl) (Nat.le_of_ble_eq_true rfl) (m_in _ f13 a2 a3 _ (by omega) (by omega) (by omega) _ fun v3 hp4 => ?_))
  refine (?_ : R (_, _, (.int (Int32.ofInt v3)) :: [], (zMi c0 c1 c2 c3 c4 c5 c6 c7 c8 c9 c10 c11 c12 c13 f0 f9 f10 f11 f12 f13 f15 f16 f17 f20 f21 f22 f23 f26 f28 f31 f32 f33 f38 f41 f44 x14 g15 g16 g17 g18 g19 g20 g21 g22 g23 k24_2 g25 g26 g27 g28 g29 g30 g31 g32 g33 g34 g35 g36 g37 g38 g39 g40 g41 g42 g43 g44 t), 0, 0))
  refine hR (k_eq (by omega) (fun hc5 => ?_) (fun hc5 => ?_))
  · skip
    iterate 4 refine hR (?_ : R (_, _, _, _, _, _))
    refine hR (zcall_i 0 0 (Nat.le_of_ble_eq_true rfl) (Nat.le_of_ble_eq_true rfl) (m_later _ 2 f11 (by omega) (by omega) _ fun y16_6 y17_7 hp8 => ?_))
    refine (?_ : R (_, _, [], (zMi c0 c1 c2 c3 c4 c5 c6 c7 c8 c9 c10 c11 c12 c13 f0 f9 f10 f11 f12 f13 f15 y16_6 y17_7 f20 f21 f22 f23 f26 f28 f31 f32 f33 f38 f41 f44 x14 g15 g16 g17 g18 g19 g20 g21 g22 g23 k24_2 g25 g26 g27 g28 g29 g30 g31 g32 g33 g34 g35 g36 g37 g38 g39 g40 g41 g42 g43 g44 t), 0, 0))
    refine hR (?_ : R (_, _, _, _, _, _))
    refine hR (zcall_i 0 0 (Nat.le_of_ble_eq_true rfl) (Nat.le_of_ble_eq_true rfl) (m_token _ (by omega) _ fun y9_9 y11_10 y12_11 y13_12 y14_13 hp14 hp15 hp16 hp17 => ?_))
    refine (?_ : R (_, _, [], (zMi c0 c1 c2 c3 c4 c5 c6 c7 c8 c9 c10 c11 c12 c13 f0 y9_9 f10 y11_10 y12_11 y13_12 f15 y16_6 y17_7 f20 f21 f22 f23 f26 f28 f31 f32 f33 f38 f41 f44 y14_13 g15 g16 g17 g18 g19 g20 g21 g22 g23 k24_2 g25 g26 g27 g28 g29 g30 g31 g32 g33 g34 g35 g36 g37 g38 g39 g40 g41 g42 g43 g44 t), 0, 0))
    refine hR (?_ : R (_, _, _, _, _, _))
    exact hR (zret_i rfl (Nat.le_refl _) (zbo (by omega)) (h _ _ _ _ _ _ _ _ _ _ (by omega) (by omega) (by omega) (by omega) (by omega) (by omega)))
  iterate 3 refine hR (?_ : R (_, _, _, _, _, _))
  refine hR (j_ne (by omega) (by omega) (fun hc18 => ?_) (fun hc18 => ?_))
  · skip
    refine hR (?_ : R (_, _, _, _, _, _))
    refine hR (zcall_i 0 0 (Nat.le_of_ble_eq_true rfl) (Nat.le_of_ble_eq_true rfl) (m_token _ (by omega) _ fun y9_19 y11_20 y12_21 y13_22 y14_23 hp24 hp25 hp26 hp27 => ?_))
    refine (?_ : R (_, _, [], (zMi c0 c1 c2 c3 c4 c5 c6 c7 c8 c9 c10 c11 c12 c13 f0 y9_19 f10 y11_20 y12_21 y13_22 f15 f16 f17 f20 f21 f22 f23 f26 f28 f31 f32 f33 f38 f41 f44 y14_23 g15 g16 g17 g18 g19 g20 g21 g22 g23 k24_2 g25 g26 g27 g28 g29 g30 g31 g32 g33 g34 g35 g36 g37 g38 g39 g40 g41 g42 g43 g44 t), 0, 0))
    refine hR (?_ : R (_, _, _, _, _, _))
    exact hR (zret_i rfl (Nat.le_refl _) (zbo (by omega)) (h _ _ _ _ _ _ _ _ _ _ (by omega) (by omega) (by omega) (by omega) (by omega) (by omega)))
  iterate 4 refine hR (?_ : R (_, _, _, _, _, _))
  refine hR (zcall_i 0 0 (Nat.le_of_ble_eq_true rfl) (Nat.le_of_ble_eq_true rfl) (m_later _ 2 f11 (by omega) (by omega) _ fun y16_28 y17_29 hp30 => ?_))
  refine (?_ : R (_, _, [], (zMi c0 c1 c2 c3 c4 c5 c6 c7 c8 c9 c10 c11 c12 c13 f0 f9 f10 f11 f12 f13 f15 y16_28 y17_29 f20 f21 f22 f23 f26 f28 f31 f32 f33 f38 f41 f44 x14 g15 g16 g17 g18 g19 g20 g21 g22 g23 k24_2 g25 g26 g27 g28 g29 g30 g31 g32 g33 g34 g35 g36 g37 g38 g39 g40 g41 g42 g43 g44 t), 0, 0))
  refine hR (?_ : R (_, _, _, _, _, _))
  refine hR (zcall_i 0 0 (Nat.le_of_ble_eq_true rfl) (Nat.le_of_ble_eq_true rfl) (m_token _ (by omega) _ fun y9_31 y11_32 y12_33 y13_34 y14_35 hp36 hp37 hp38 hp39 => ?_))
  refine (?_ : R (_, _, [], (zMi c0 c1 c2 c3 c4 c5 c6 c7 c8 c9 c10 c11 c12 c13 f0 y9_31 f10 y11_32 y12_33 y13_34 f15 y16_28 y17_29 f20 f21 f22 f23 f26 f28 f31 f32 f33 f38 f41 f44 y14_35 g15 g16 g17 g18 g19 g20 g21 g22 g23 k24_2 g25 g26 g27 g28 g29 g30 g31 g32 g33 g34 g35 g36 g37 g38 g39 g40 g41 g42 g43 g44 t), 0, 0))
  refine hR (?_ : R (_, _, _, _, _, _))
  exact hR (zret_i rfl (Nat.le_refl _) (zbo (by omega)) (h _ _ _ _ _ _ _ _ _ _ (by omega) (by omega) (by omega) (by omega) (by omega) (by omega)))
theorem m_takeBut1 (d : Nat) (a2 a3 a4 : Int) (hr0 : 0 ≤ f9 ∧ f9 ≤ f10 ∧ f10 ≤ 600) (hr1 : 0 ≤ f12 ∧ f12 ≤ 4 ∧ (f12 = 3 → 0 ≤ f13 ∧ f13 ≤ 99)) (hr2 : 0 ≤ f16 ∧ f16 ≤ 4) (hr3 : -2147483648 ≤ a2 ∧ a2 ≤ 2147483647) (hr4 : -2147483648 ≤ a3 ∧ a3 ≤ 2147483647) (hr5 : -2147483648 ≤ a4 ∧ a4 ≤ 2147483647) (Q : zQ) (h : ∀ (v : Int) (y9 : Int) (y11 : Int) (y12 : Int) (y13 : Int) (y14 : Int64) (y15 : Int) (y16 : Int) (y17 : Int) (k24 : Nat → Int32), (f9 ≤ y9 ∧ y9 ≤ f10) → (0 ≤ y12 ∧ y12 ≤ 4 ∧ (y12 = 3 → 0 ≤ y13 ∧ y13 ≤ 99)) → (0 ≤ y16 ∧ y16 ≤ 4) → ((v = 1 ∧ f12 = 3 ∧ (y12 = 0 ∨ f9 < y9) ∧ (y16 = 0 → f16 = 0 ∧ a2 ≤ f13 ∧ f13 ≤ a3 ∧ f13 ≠ a4) ∧ (k24 1).toInt = f13) ∨ (v = 0 ∧ f12 ≠ 3)) → ((k24 0).toInt = (g24 0).toInt) → ((k24 2).toInt = (g24 2).toInt) → Q (some (.int (Int32.ofInt v))) (zMi c0 c1 c2 c3 c4 c5 c6 c7 c8 c9 c10 c11 c12 c13 f0 y9 f10 y11 y12 y13 y15 y16 y17 f20 f21 f22 f23 f26 f28 f31 f32 f33 f38 f41 f44 y14 g15 g16 g17 g18 g19 g20 g21 g22 g23 k24 g25 g26 g27 g28 g29 g30 g31 g32 g33 g34 g35 g36 g37 g38 g39 g40 g41 g42 g43 g44 t)) : zCl zTab (d + 3) iX12_takeBut [.ref 14, .int (Int32.ofInt 1), .int (Int32.ofInt a2), .int (Int32.ofInt a3), .int (Int32.ofInt a4)] (zMi c0 c1 c2 c3 c4 c5 c6 c7 c8 c9 c10 c11 c12 c13 f0 f9 f10 f11 f12 f13 f15 f16 f17 f20 f21 f22 f23 f26 f28 f31 f32 f33 f38 f41 f44 x14 g15 g16 g17 g18 g19 g20 g21 g22 g23 g24 g25 g26 g27 g28 g29 g30 g31 g32 g33 g34 g35 g36 g37 g38 g39 g40 g41 g42 g43 g44 t) 0 0 Q := by
  refine zCl_i (M := kX12_takeBut) rfl (Nat.le_of_ble_eq_true rfl) fun R hR => ?_
  iterate 3 refine hR (?_ : R (_, _, _, _, _, _))
  refine hR (j_eq (by omega) (by omega) (fun hc1 => ?_) (fun hc1 => ?_))
  rotate_left
  · skip
    refine hR (?_ : R (_, _, _, _, _, _))
    refine hR (zcall_i 0 0 (Nat.le_of_ble_eq_true rfl) (Nat.le_of_ble_eq_true rfl) (m_fails _ _ fun v40 y15_41 hp42 => ?_))
    refine (?_ : R (_, _, (.int (Int32.ofInt v40)) :: [], (zMi c0 c1 c2 c3 c4 c5 c6 c7 c8 c9 c10 c11 c12 c13 f0 f9 f10 f11 f12 f13 y15_41 f16 f17 f20 f21 f22 f23 f26 f28 f31 f32 f33 f38 f41 f44 x14 g15 g16 g17 g18 g19 g20 g21 g22 g23 g24 g25 g26 g27 g28 g29 g30 g31 g32 g33 g34 g35 g36 g37 g38 g39 g40 g41 g42 g43 g44 t), 0, 0))
    exact hR (zret_i rfl (Nat.le_refl _) (zbo (by omega)) (h _ _ _ _ _ _ _ _ _ _ (by omega) (by omega) (by omega) (by omega) (by omega) (by omega)))
  iterate 5 refine hR (?_ : R (_, _, _, _, _, _))
  refine hR (t_stV 1 rfl (by omega) (by omega) (by omega) (by omega) (Nat.le_of_ble_eq_true rfl) fun k24_2 hvk24_2 hwk24_2 => (?_ : R (_, _, _, (zMi c0 c1 c2 c3 c4 c5 c6 c7 c8 c9 c10 c11 c12 c13 f0 f9 f10 f11 f12 f13 f15 f16 f17 f20 f21 f22 f23 f26 f28 f31 f32 f33 f38 f41 f44 x14 g15 g16 g17 g18 g19 g20 g21 g22 g23 k24_2 g25 g26 g27 g28 g29 g30 g31 g32 g33 g34 g35 g36 g37 g38 g39 g40 g41 g42 g43 g44 t), _, _)))
  have hxk24_2_0 : (k24_2 0).toInt = (g24 0).toInt := by rw [hwk24_2 0 (by decide)]
  have hxk24_2_2 : (k24_2 2).toInt = (g24 2).toInt := by rw [hwk24_2 2 (by decide)]
  iterate 4 refine hR (?_ : R (_, _, _, _, _, _))
  refine hR (zcall_i 0 0 (Nat.le_of_ble_eq_true rfl) (Nat.le_of_ble_eq_true rfl) (m_in _ f13 a2 a3 _ (by omega) (by omega) (by omega) _ fun v3 hp4 => ?_))
  refine (?_ : R (_, _, (.int (Int32.ofInt v3)) :: [], (zMi c0 c1 c2 c3 c4 c5 c6 c7 c8 c9 c10 c11 c12 c13 f0 f9 f10 f11 f12 f13 f15 f16 f17 f20 f21 f22 f23 f26 f28 f31 f32 f33 f38 f41 f44 x14 g15 g16 g17 g18 g19 g20 g21 g22 g23 k24_2 g25 g26 g27 g28 g29 g30 g31 g32 g33 g34 g35 g36 g37 g38 g39 g40 g41 g42 g43 g44 t), 0, 0))
  refine hR (k_eq (by omega) (fun hc5 => ?_) (fun hc5 => ?_))
  · skip
    iterate 4 refine hR (?_ : R (_, _, _, _, _, _))
    refine hR (zcall_i 0 0 (Nat.le_of_ble_eq_true rfl) (Nat.le_of_ble_eq_true rfl) (m_later _ 2 f11 (by omega) (by omega) _ fun y16_6 y17_7 hp8 => ?_))
    refine (?_ : R (_, _, [], (zMi c0 c1 c2 c3 c4 c5 c6 c7 c8 c9 c10 c11 c12 c13 f0 f9 f10 f11 f12 f13 f15 y16_6 y17_7 f20 f21 f22 f23 f26 f28 f31 f32 f33 f38 f41 f44 x14 g15 g16 g17 g18 g19 g20 g21 g22 g23 k24_2 g25 g26 g27 g28 g29 g30 g31 g32 g33 g34 g35 g36 g37 g38 g39 g40 g41 g42 g43 g44 t), 0, 0))
    refine hR (?_ : R (_, _, _, _, _, _))
    refine hR (zcall_i 0 0 (Nat.le_of_ble_eq_true rfl) (Nat.le_of_ble_eq_true rfl) (m_token _ (by omega) _ fun y9_9 y11_10 y12_11 y13_12 y14_13 hp14 hp15 hp16 hp17 => ?_))
    refine (?_ : R (_, _, [], (zMi c0 c1 c2 c3 c4 c5 c6 c7 c8 c9 c10 c11 c12 c13 f0 y9_9 f10 y11_10 y12_11 y13_12 f15 y16_6 y17_7 f20 f21 f22 f23 f26 f28 f31 f32 f33 f38 f41 f44 y14_13 g15 g16 g17 g18 g19 g20 g21 g22 g23 k24_2 g25 g26 g27 g28 g29 g30 g31 g32 g33 g34 g35 g36 g37 g38 g39 g40 g41 g42 g43 g44 t), 0, 0))
    refine hR (?_ : R (_, _, _, _, _, _))
    exact hR (zret_i rfl (Nat.le_refl _) (zbo (by omega)) (h _ _ _ _ _ _ _ _ _ _ (by omega) (by omega) (by omega) (by omega) (by omega) (by omega)))
  iterate 3 refine hR (?_ : R (_, _, _, _, _, _))
  refine hR (j_ne (by omega) (by omega) (fun hc18 => ?_) (fun hc18 => ?_))
  · skip
    refine hR (?_ : R (_, _, _, _, _, _))
    refine hR (zcall_i 0 0 (Nat.le_of_ble_eq_true rfl) (Nat.le_of_ble_eq_true rfl) (m_token _ (by omega) _ fun y9_19 y11_20 y12_21 y13_22 y14_23 hp24 hp25 hp26 hp27 => ?_))
    refine (?_ : R (_, _, [], (zMi c0 c1 c2 c3 c4 c5 c6 c7 c8 c9 c10 c11 c12 c13 f0 y9_19 f10 y11_20 y12_21 y13_22 f15 f16 f17 f20 f21 f22 f23 f26 f28 f31 f32 f33 f38 f41 f44 y14_23 g15 g16 g17 g18 g19 g20 g21 g22 g23 k24_2 g25 g26 g27 g28 g29 g30 g31 g32 g33 g34 g35 g36 g37 g38 g39 g40 g41 g42 g43 g44 t), 0, 0))
    refine hR (?_ : R (_, _, _, _, _, _))
    exact hR (zret_i rfl (Nat.le_refl _) (zbo (by omega)) (h _ _ _ _ _ _ _ _ _ _ (by omega) (by omega) (by omega) (by omega) (by omega) (by omega)))
  iterate 4 refine hR (?_ : R (_, _, _, _, _, _))
  refine hR (zcall_i 0 0 (Nat.le_of_ble_eq_true rfl) (Nat.le_of_ble_eq_true rfl) (m_later _ 2 f11 (by omega) (by omega) _ fun y16_28 y17_29 hp30 => ?_))
  refine (?_ : R (_, _, [], (zMi c0 c1 c2 c3 c4 c5 c6 c7 c8 c9 c10 c11 c12 c13 f0 f9 f10 f11 f12 f13 f15 y16_28 y17_29 f20 f21 f22 f23 f26 f28 f31 f32 f33 f38 f41 f44 x14 g15 g16 g17 g18 g19 g20 g21 g22 g23 k24_2 g25 g26 g27 g28 g29 g30 g31 g32 g33 g34 g35 g36 g37 g38 g39 g40 g41 g42 g43 g44 t), 0, 0))
  refine hR (?_ : R (_, _, _, _, _, _))
  refine hR (zcall_i 0 0 (Nat.le_of_ble_eq_true rfl) (Nat.le_of_ble_eq_true rfl) (m_token _ (by omega) _ fun y9_31 y11_32 y12_33 y13_34 y14_35 hp36 hp37 hp38 hp39 => ?_))
  refine (?_ : R (_, _, [], (zMi c0 c1 c2 c3 c4 c5 c6 c7 c8 c9 c10 c11 c12 c13 f0 y9_31 f10 y11_32 y12_33 y13_34 f15 y16_28 y17_29 f20 f21 f22 f23 f26 f28 f31 f32 f33 f38 f41 f44 y14_35 g15 g16 g17 g18 g19 g20 g21 g22 g23 k24_2 g25 g26 g27 g28 g29 g30 g31 g32 g33 g34 g35 g36 g37 g38 g39 g40 g41 g42 g43 g44 t), 0, 0))
  refine hR (?_ : R (_, _, _, _, _, _))
  exact hR (zret_i rfl (Nat.le_refl _) (zbo (by omega)) (h _ _ _ _ _ _ _ _ _ _ (by omega) (by omega) (by omega) (by omega) (by omega) (by omega)))
theorem m_takeBut2 (d : Nat) (a2 a3 a4 : Int) (hr0 : 0 ≤ f9 ∧ f9 ≤ f10 ∧ f10 ≤ 600) (hr1 : 0 ≤ f12 ∧ f12 ≤ 4 ∧ (f12 = 3 → 0 ≤ f13 ∧ f13 ≤ 99)) (hr2 : 0 ≤ f16 ∧ f16 ≤ 4) (hr3 : -2147483648 ≤ a2 ∧ a2 ≤ 2147483647) (hr4 : -2147483648 ≤ a3 ∧ a3 ≤ 2147483647) (hr5 : -2147483648 ≤ a4 ∧ a4 ≤ 2147483647) (Q : zQ) (h : ∀ (v : Int) (y9 : Int) (y11 : Int) (y12 : Int) (y13 : Int) (y14 : Int64) (y15 : Int) (y16 : Int) (y17 : Int) (k24 : Nat → Int32), (f9 ≤ y9 ∧ y9 ≤ f10) → (0 ≤ y12 ∧ y12 ≤ 4 ∧ (y12 = 3 → 0 ≤ y13 ∧ y13 ≤ 99)) → (0 ≤ y16 ∧ y16 ≤ 4) → ((v = 1 ∧ f12 = 3 ∧ (y12 = 0 ∨ f9 < y9) ∧ (y16 = 0 → f16 = 0 ∧ a2 ≤ f13 ∧ f13 ≤ a3 ∧ f13 ≠ a4) ∧ (k24 2).toInt = f13) ∨ (v = 0 ∧ f12 ≠ 3)) → ((k24 0).toInt = (g24 0).toInt) → ((k24 1).toInt = (g24 1).toInt) → Q (some (.int (Int32.ofInt v))) (zMi c0 c1 c2 c3 c4 c5 c6 c7 c8 c9 c10 c11 c12 c13 f0 y9 f10 y11 y12 y13 y15 y16 y17 f20 f21 f22 f23 f26 f28 f31 f32 f33 f38 f41 f44 y14 g15 g16 g17 g18 g19 g20 g21 g22 g23 k24 g25 g26 g27 g28 g29 g30 g31 g32 g33 g34 g35 g36 g37 g38 g39 g40 g41 g42 g43 g44 t)) : zCl zTab (d + 3) iX12_takeBut [.ref 14, .int (Int32.ofInt 2), .int (Int32.ofInt a2), .int (Int32.ofInt a3), .int (Int32.ofInt a4)] (zMi c0 c1 c2 c3 c4 c5 c6 c7 c8 c9 c10 c11 c12 c13 f0 f9 f10 f11 f12 f13 f15 f16 f17 f20 f21 f22 f23 f26 f28 f31 f32 f33 f38 f41 f44 x14 g15 g16 g17 g18 g19 g20 g21 g22 g23 g24 g25 g26 g27 g28 g29 g30 g31 g32 g33 g34 g35 g36 g37 g38 g39 g40 g41 g42 g43 g44 t) 0 0 Q := by
  refine zCl_i (M := kX12_takeBut) rfl (Nat.le_of_ble_eq_true rfl) fun R hR => ?_
  iterate 3 refine hR (?_ : R (_, _, _, _, _, _))
  refine hR (j_eq (by omega) (by omega) (fun hc1 => ?_) (fun hc1 => ?_))
  rotate_left
  · skip
    refine hR (?_ : R (_, _, _, _, _, _))
    refine hR (zcall_i 0 0 (Nat.le_of_ble_eq_true rfl) (Nat.le_of_ble_eq_true rfl) (m_fails _ _ fun v40 y15_41 hp42 => ?_))
    refine (?_ : R (_, _, (.int (Int32.ofInt v40)) :: [], (zMi c0 c1 c2 c3 c4 c5 c6 c7 c8 c9 c10 c11 c12 c13 f0 f9 f10 f11 f12 f13 y15_41 f16 f17 f20 f21 f22 f23 f26 f28 f31 f32 f33 f38 f41 f44 x14 g15 g16 g17 g18 g19 g20 g21 g22 g23 g24 g25 g26 g27 g28 g29 g30 g31 g32 g33 g34 g35 g36 g37 g38 g39 g40 g41 g42 g43 g44 t), 0, 0))
    exact hR (zret_i rfl (Nat.le_refl _) (zbo (by omega)) (h _ _ _ _ _ _ _ _ _ _ (by omega) (by omega) (by omega) (by omega) (by omega) (by omega)))
  iterate 5 refine hR (?_ : R (_, _, _, _, _, _))
  refine hR (t_stV 2 rfl (by omega) (by omega) (by omega) (by omega) (Nat.le_of_ble_eq_true rfl) fun k24_2 hvk24_2 hwk24_2 => (?_ : R (_, _, _, (zMi c0 c1 c2 c3 c4 c5 c6 c7 c8 c9 c10 c11 c12 c13 f0 f9 f10 f11 f12 f13 f15 f16 f17 f20 f21 f22 f23 f26 f28 f31 f32 f33 f38 f41 f44 x14 g15 g16 g17 g18 g19 g20 g21 g22 g23 k24_2 g25 g26 g27 g28 g29 g30 g31 g32 g33 g34 g35 g36 g37 g38 g39 g40 g41 g42 g43 g44 t), _, _)))
  have hxk24_2_0 : (k24_2 0).toInt = (g24 0).toInt := by rw [hwk24_2 0 (by decide)]
  have hxk24_2_1 : (k24_2 1).toInt = (g24 1).toInt := by rw [hwk24_2 1 (by decide)]
  iterate 4 refine hR (?_ : R (_, _, _, _, _, _))
  refine hR (zcall_i 0 0 (Nat.le_of_ble_eq_true rfl) (Nat.le_of_ble_eq_true rfl) (m_in _ f13 a2 a3 _ (by omega) (by omega) (by omega) _ fun v3 hp4 => ?_))
  refine (?_ : R (_, _, (.int (Int32.ofInt v3)) :: [], (zMi c0 c1 c2 c3 c4 c5 c6 c7 c8 c9 c10 c11 c12 c13 f0 f9 f10 f11 f12 f13 f15 f16 f17 f20 f21 f22 f23 f26 f28 f31 f32 f33 f38 f41 f44 x14 g15 g16 g17 g18 g19 g20 g21 g22 g23 k24_2 g25 g26 g27 g28 g29 g30 g31 g32 g33 g34 g35 g36 g37 g38 g39 g40 g41 g42 g43 g44 t), 0, 0))
  refine hR (k_eq (by omega) (fun hc5 => ?_) (fun hc5 => ?_))
  · skip
    iterate 4 refine hR (?_ : R (_, _, _, _, _, _))
    refine hR (zcall_i 0 0 (Nat.le_of_ble_eq_true rfl) (Nat.le_of_ble_eq_true rfl) (m_later _ 2 f11 (by omega) (by omega) _ fun y16_6 y17_7 hp8 => ?_))
    refine (?_ : R (_, _, [], (zMi c0 c1 c2 c3 c4 c5 c6 c7 c8 c9 c10 c11 c12 c13 f0 f9 f10 f11 f12 f13 f15 y16_6 y17_7 f20 f21 f22 f23 f26 f28 f31 f32 f33 f38 f41 f44 x14 g15 g16 g17 g18 g19 g20 g21 g22 g23 k24_2 g25 g26 g27 g28 g29 g30 g31 g32 g33 g34 g35 g36 g37 g38 g39 g40 g41 g42 g43 g44 t), 0, 0))
    refine hR (?_ : R (_, _, _, _, _, _))
    refine hR (zcall_i 0 0 (Nat.le_of_ble_eq_true rfl) (Nat.le_of_ble_eq_true rfl) (m_token _ (by omega) _ fun y9_9 y11_10 y12_11 y13_12 y14_13 hp14 hp15 hp16 hp17 => ?_))
    refine (?_ : R (_, _, [], (zMi c0 c1 c2 c3 c4 c5 c6 c7 c8 c9 c10 c11 c12 c13 f0 y9_9 f10 y11_10 y12_11 y13_12 f15 y16_6 y17_7 f20 f21 f22 f23 f26 f28 f31 f32 f33 f38 f41 f44 y14_13 g15 g16 g17 g18 g19 g20 g21 g22 g23 k24_2 g25 g26 g27 g28 g29 g30 g31 g32 g33 g34 g35 g36 g37 g38 g39 g40 g41 g42 g43 g44 t), 0, 0))
    refine hR (?_ : R (_, _, _, _, _, _))
    exact hR (zret_i rfl (Nat.le_refl _) (zbo (by omega)) (h _ _ _ _ _ _ _ _ _ _ (by omega) (by omega) (by omega) (by omega) (by omega) (by omega)))
  iterate 3 refine hR (?_ : R (_, _, _, _, _, _))
  refine hR (j_ne (by omega) (by omega) (fun hc18 => ?_) (fun hc18 => ?_))
  · skip
    refine hR (?_ : R (_, _, _, _, _, _))
    refine hR (zcall_i 0 0 (Nat.le_of_ble_eq_true rfl) (Nat.le_of_ble_eq_true rfl) (m_token _ (by omega) _ fun y9_19 y11_20 y12_21 y13_22 y14_23 hp24 hp25 hp26 hp27 => ?_))
    refine (?_ : R (_, _, [], (zMi c0 c1 c2 c3 c4 c5 c6 c7 c8 c9 c10 c11 c12 c13 f0 y9_19 f10 y11_20 y12_21 y13_22 f15 f16 f17 f20 f21 f22 f23 f26 f28 f31 f32 f33 f38 f41 f44 y14_23 g15 g16 g17 g18 g19 g20 g21 g22 g23 k24_2 g25 g26 g27 g28 g29 g30 g31 g32 g33 g34 g35 g36 g37 g38 g39 g40 g41 g42 g43 g44 t), 0, 0))
    refine hR (?_ : R (_, _, _, _, _, _))
    exact hR (zret_i rfl (Nat.le_refl _) (zbo (by omega)) (h _ _ _ _ _ _ _ _ _ _ (by omega) (by omega) (by omega) (by omega) (by omega) (by omega)))
  iterate 4 refine hR (?_ : R (_, _, _, _, _, _))
  refine hR (zcall_i 0 0 (Nat.le_of_ble_eq_true rfl) (Nat.le_of_ble_eq_true rfl) (m_later _ 2 f11 (by omega) (by omega) _ fun y16_28 y17_29 hp30 => ?_))
  refine (?_ : R (_, _, [], (zMi c0 c1 c2 c3 c4 c5 c6 c7 c8 c9 c10 c11 c12 c13 f0 f9 f10 f11 f12 f13 f15 y16_28 y17_29 f20 f21 f22 f23 f26 f28 f31 f32 f33 f38 f41 f44 x14 g15 g16 g17 g18 g19 g20 g21 g22 g23 k24_2 g25 g26 g27 g28 g29 g30 g31 g32 g33 g34 g35 g36 g37 g38 g39 g40 g41 g42 g43 g44 t), 0, 0))
  refine hR (?_ : R (_, _, _, _, _, _))
  refine hR (zcall_i 0 0 (Nat.le_of_ble_eq_true rfl) (Nat.le_of_ble_eq_true rfl) (m_token _ (by omega) _ fun y9_31 y11_32 y12_33 y13_34 y14_35 hp36 hp37 hp38 hp39 => ?_))
  refine (?_ : R (_, _, [], (zMi c0 c1 c2 c3 c4 c5 c6 c7 c8 c9 c10 c11 c12 c13 f0 y9_31 f10 y11_32 y12_33 y13_34 f15 y16_28 y17_29 f20 f21 f22 f23 f26 f28 f31 f32 f33 f38 f41 f44 y14_35 g15 g16 g17 g18 g19 g20 g21 g22 g23 k24_2 g25 g26 g27 g28 g29 g30 g31 g32 g33 g34 g35 g36 g37 g38 g39 g40 g41 g42 g43 g44 t), 0, 0))
  refine hR (?_ : R (_, _, _, _, _, _))
  exact hR (zret_i rfl (Nat.le_refl _) (zbo (by omega)) (h _ _ _ _ _ _ _ _ _ _ (by omega) (by omega) (by omega) (by omega) (by omega) (by omega)))
theorem m_take0 (d : Nat) (a2 a3 : Int) (hr0 : 0 ≤ f9 ∧ f9 ≤ f10 ∧ f10 ≤ 600) (hr1 : 0 ≤ f12 ∧ f12 ≤ 4 ∧ (f12 = 3 → 0 ≤ f13 ∧ f13 ≤ 99)) (hr2 : 0 ≤ f16 ∧ f16 ≤ 4) (hr3 : -2147483648 ≤ a2 ∧ a2 ≤ 2147483647) (hr4 : -2147483648 ≤ a3 ∧ a3 ≤ 2147483647) (Q : zQ) (h : ∀ (v : Int) (y9 : Int) (y11 : Int) (y12 : Int) (y13 : Int) (y14 : Int64) (y15 : Int) (y16 : Int) (y17 : Int) (k24 : Nat → Int32), (f9 ≤ y9 ∧ y9 ≤ f10) → (0 ≤ y12 ∧ y12 ≤ 4 ∧ (y12 = 3 → 0 ≤ y13 ∧ y13 ≤ 99)) → (0 ≤ y16 ∧ y16 ≤ 4) → ((v = 1 ∧ f12 = 3 ∧ (y12 = 0 ∨ f9 < y9) ∧ (y16 = 0 → f16 = 0 ∧ a2 ≤ f13 ∧ f13 ≤ a3) ∧ (k24 0).toInt = f13) ∨ (v = 0 ∧ f12 ≠ 3)) → ((k24 1).toInt = (g24 1).toInt) → ((k24 2).toInt = (g24 2).toInt) → Q (some (.int (Int32.ofInt v))) (zMi c0 c1 c2 c3 c4 c5 c6 c7 c8 c9 c10 c11 c12 c13 f0 y9 f10 y11 y12 y13 y15 y16 y17 f20 f21 f22 f23 f26 f28 f31 f32 f33 f38 f41 f44 y14 g15 g16 g17 g18 g19 g20 g21 g22 g23 k24 g25 g26 g27 g28 g29 g30 g31 g32 g33 g34 g35 g36 g37 g38 g39 g40 g41 g42 g43 g44 t)) : zCl zTab (d + 4) iX12_take [.ref 14, .int (Int32.ofInt 0), .int (Int32.ofInt a2), .int (Int32.ofInt a3)] (zMi c0 c1 c2 c3 c4 c5 c6 c7 c8 c9 c10 c11 c12 c13 f0 f9 f10 f11 f12 f13 f15 f16 f17 f20 f21 f22 f23 f26 f28 f31 f32 f33 f38 f41 f44 x14 g15 g16 g17 g18 g19 g20 g21 g22 g23 g24 g25 g26 g27 g28 g29 g30 g31 g32 g33 g34 g35 g36 g37 g38 g39 g40 g41 g42 g43 g44 t) 0 0 Q := by
  refine zCl_i (M := kX12_take) rfl (Nat.le_of_ble_eq_true rfl) fun R hR => ?_
  iterate 5 refine hR (?_ : R (_, _, _, _, _, _))
  refine hR (zcall_i 0 0 (Nat.le_of_ble_eq_true rfl) (Nat.le_of_ble_eq_true rfl) (m_takeBut0 _ a2 a3 ((-1)) (by omega) (by omega) (by omega) (by omega) (by omega) (by omega) _ fun v1 y9_2 y11_3 y12_4 y13_5 y14_6 y15_7 y16_8 y17_9 k24_10 hp11 hp12 hp13 hp14 hp15 hp16 => ?_))
  refine (?_ : R (_, _, (.int (Int32.ofInt v1)) :: [], (zMi c0 c1 c2 c3 c4 c5 c6 c7 c8 c9 c10 c11 c12 c13 f0 y9_2 f10 y11_3 y12_4 y13_5 y15_7 y16_8 y17_9 f20 f21 f22 f23 f26 f28 f31 f32 f33 f38 f41 f44 y14_6 g15 g16 g17 g18 g19 g20 g21 g22 g23 k24_10 g25 g26 g27 g28 g29 g30 g31 g32 g33 g34 g35 g36 g37 g38 g39 g40 g41 g42 g43 g44 t), 0, 0))
  exact hR (zret_i rfl (Nat.le_refl _) (zbo (by omega)) (h _ _ _ _ _ _ _ _ _ _ (by omega) (by omega) (by omega) (by omega) (by omega) (by omega)))
theorem m_take1 (d : Nat) (a2 a3 : Int) (hr0 : 0 ≤ f9 ∧ f9 ≤ f10 ∧ f10 ≤ 600) (hr1 : 0 ≤ f12 ∧ f12 ≤ 4 ∧ (f12 = 3 → 0 ≤ f13 ∧ f13 ≤ 99)) (hr2 : 0 ≤ f16 ∧ f16 ≤ 4) (hr3 : -2147483648 ≤ a2 ∧ a2 ≤ 2147483647) (hr4 : -2147483648 ≤ a3 ∧ a3 ≤ 2147483647) (Q : zQ) (h : ∀ (v : Int) (y9 : Int) (y11 : Int) (y12 : Int) (y13 : Int) (y14 : Int64) (y15 : Int) (y16 : Int) (y17 : Int) (k24 : Nat → Int32), (f9 ≤ y9 ∧ y9 ≤ f10) → (0 ≤ y12 ∧ y12 ≤ 4 ∧ (y12 = 3 → 0 ≤ y13 ∧ y13 ≤ 99)) → (0 ≤ y16 ∧ y16 ≤ 4) → ((v = 1 ∧ f12 = 3 ∧ (y12 = 0 ∨ f9 < y9) ∧ (y16 = 0 → f16 = 0 ∧ a2 ≤ f13 ∧ f13 ≤ a3) ∧ (k24 1).toInt = f13) ∨ (v = 0 ∧ f12 ≠ 3)) → ((k24 0).toInt = (g24 0).toInt) → ((k24 2).toInt = (g24 2).toInt) → Q (some (.int (Int32.ofInt v))) (zMi c0 c1 c2 c3 c4 c5 c6 c7 c8 c9 c10 c11 c12 c13 f0 y9 f10 y11 y12 y13 y15 y16 y17 f20 f21 f22 f23 f26 f28 f31 f32 f33 f38 f41 f44 y14 g15 g16 g17 g18 g19 g20 g21 g22 g23 k24 g25 g26 g27 g28 g29 g30 g31 g32 g33 g34 g35 g36 g37 g38 g39 g40 g41 g42 g43 g44 t)) : zCl zTab (d + 4) iX12_take [.ref 14, .int (Int32.ofInt 1), .int (Int32.ofInt a2), .int (Int32.ofInt a3)] (zMi c0 c1 c2 c3 c4 c5 c6 c7 c8 c9 c10 c11 c12 c13 f0 f9 f10 f11 f12 f13 f15 f16 f17 f20 f21 f22 f23 f26 f28 f31 f32 f33 f38 f41 f44 x14 g15 g16 g17 g18 g19 g20 g21 g22 g23 g24 g25 g26 g27 g28 g29 g30 g31 g32 g33 g34 g35 g36 g37 g38 g39 g40 g41 g42 g43 g44 t) 0 0 Q := by
  refine zCl_i (M := kX12_take) rfl (Nat.le_of_ble_eq_true rfl) fun R hR => ?_
  iterate 5 refine hR (?_ : R (_, _, _, _, _, _))
  refine hR (zcall_i 0 0 (Nat.le_of_ble_eq_true rfl) (Nat.le_of_ble_eq_true rfl) (m_takeBut1 _ a2 a3 ((-1)) (by omega) (by omega) (by omega) (by omega) (by omega) (by omega) _ fun v1 y9_2 y11_3 y12_4 y13_5 y14_6 y15_7 y16_8 y17_9 k24_10 hp11 hp12 hp13 hp14 hp15 hp16 => ?_))
  refine (?_ : R (_, _, (.int (Int32.ofInt v1)) :: [], (zMi c0 c1 c2 c3 c4 c5 c6 c7 c8 c9 c10 c11 c12 c13 f0 y9_2 f10 y11_3 y12_4 y13_5 y15_7 y16_8 y17_9 f20 f21 f22 f23 f26 f28 f31 f32 f33 f38 f41 f44 y14_6 g15 g16 g17 g18 g19 g20 g21 g22 g23 k24_10 g25 g26 g27 g28 g29 g30 g31 g32 g33 g34 g35 g36 g37 g38 g39 g40 g41 g42 g43 g44 t), 0, 0))
  exact hR (zret_i rfl (Nat.le_refl _) (zbo (by omega)) (h _ _ _ _ _ _ _ _ _ _ (by omega) (by omega) (by omega) (by omega) (by omega) (by omega)))
theorem m_take2 (d : Nat) (a2 a3 : Int) (hr0 : 0 ≤ f9 ∧ f9 ≤ f10 ∧ f10 ≤ 600) (hr1 : 0 ≤ f12 ∧ f12 ≤ 4 ∧ (f12 = 3 → 0 ≤ f13 ∧ f13 ≤ 99)) (hr2 : 0 ≤ f16 ∧ f16 ≤ 4) (hr3 : -2147483648 ≤ a2 ∧ a2 ≤ 2147483647) (hr4 : -2147483648 ≤ a3 ∧ a3 ≤ 2147483647) (Q : zQ) (h : ∀ (v : Int) (y9 : Int) (y11 : Int) (y12 : Int) (y13 : Int) (y14 : Int64) (y15 : Int) (y16 : Int) (y17 : Int) (k24 : Nat → Int32), (f9 ≤ y9 ∧ y9 ≤ f10) → (0 ≤ y12 ∧ y12 ≤ 4 ∧ (y12 = 3 → 0 ≤ y13 ∧ y13 ≤ 99)) → (0 ≤ y16 ∧ y16 ≤ 4) → ((v = 1 ∧ f12 = 3 ∧ (y12 = 0 ∨ f9 < y9) ∧ (y16 = 0 → f16 = 0 ∧ a2 ≤ f13 ∧ f13 ≤ a3) ∧ (k24 2).toInt = f13) ∨ (v = 0 ∧ f12 ≠ 3)) → ((k24 0).toInt = (g24 0).toInt) → ((k24 1).toInt = (g24 1).toInt) → Q (some (.int (Int32.ofInt v))) (zMi c0 c1 c2 c3 c4 c5 c6 c7 c8 c9 c10 c11 c12 c13 f0 y9 f10 y11 y12 y13 y15 y16 y17 f20 f21 f22 f23 f26 f28 f31 f32 f33 f38 f41 f44 y14 g15 g16 g17 g18 g19 g20 g21 g22 g23 k24 g25 g26 g27 g28 g29 g30 g31 g32 g33 g34 g35 g36 g37 g38 g39 g40 g41 g42 g43 g44 t)) : zCl zTab (d + 4) iX12_take [.ref 14, .int (Int32.ofInt 2), .int (Int32.ofInt a2), .int (Int32.ofInt a3)] (zMi c0 c1 c2 c3 c4 c5 c6 c7 c8 c9 c10 c11 c12 c13 f0 f9 f10 f11 f12 f13 f15 f16 f17 f20 f21 f22 f23 f26 f28 f31 f32 f33 f38 f41 f44 x14 g15 g16 g17 g18 g19 g20 g21 g22 g23 g24 g25 g26 g27 g28 g29 g30 g31 g32 g33 g34 g35 g36 g37 g38 g39 g40 g41 g42 g43 g44 t) 0 0 Q := by
  refine zCl_i (M := kX12_take) rfl (Nat.le_of_ble_eq_true rfl) fun R hR => ?_
  iterate 5 refine hR (?_ : R (_, _, _, _, _, _))
  refine hR (zcall_i 0 0 (Nat.le_of_ble_eq_true rfl) (Nat.le_of_ble_eq_true rfl) (m_takeBut2 _ a2 a3 ((-1)) (by omega) (by omega) (by omega) (by omega) (by omega) (by omega) _ fun v1 y9_2 y11_3 y12_4 y13_5 y14_6 y15_7 y16_8 y17_9 k24_10 hp11 hp12 hp13 hp14 hp15 hp16 => ?_))
  refine (?_ : R (_, _, (.int (Int32.ofInt v1)) :: [], (zMi c0 c1 c2 c3 c4 c5 c6 c7 c8 c9 c10 c11 c12 c13 f0 y9_2 f10 y11_3 y12_4 y13_5 y15_7 y16_8 y17_9 f20 f21 f22 f23 f26 f28 f31 f32 f33 f38 f41 f44 y14_6 g15 g16 g17 g18 g19 g20 g21 g22 g23 k24_10 g25 g26 g27 g28 g29 g30 g31 g32 g33 g34 g35 g36 g37 g38 g39 g40 g41 g42 g43 g44 t), 0, 0))
  exact hR (zret_i rfl (Nat.le_refl _) (zbo (by omega)) (h _ _ _ _ _ _ _ _ _ _ (by omega) (by omega) (by omega) (by omega) (by omega) (by omega)))
theorem m_full0 (d : Nat) (a2 a3 : Int) (hr0 : 0 ≤ f16 ∧ f16 ≤ 4) (hr1 : -2147483648 ≤ a2 ∧ a2 ≤ 2147483647) (Q : zQ) (h : ∀ (y16 : Int) (y17 : Int), (0 ≤ y16 ∧ y16 ≤ 4) → (y16 = 0 → f16 = 0 ∧ (g23 0).toInt ≠ a2) → Q (none) (zMi c0 c1 c2 c3 c4 c5 c6 c7 c8 c9 c10 c11 c12 c13 f0 f9 f10 f11 f12 f13 f15 y16 y17 f20 f21 f22 f23 f26 f28 f31 f32 f33 f38 f41 f44 x14 g15 g16 g17 g18 g19 g20 g21 g22 g23 g24 g25 g26 g27 g28 g29 g30 g31 g32 g33 g34 g35 g36 g37 g38 g39 g40 g41 g42 g43 g44 t)) : zCl zTab (d + 2) iX12_full [.ref 14, .int (Int32.ofInt 0), .int (Int32.ofInt a2), .int (Int32.ofInt a3)] (zMi c0 c1 c2 c3 c4 c5 c6 c7 c8 c9 c10 c11 c12 c13 f0 f9 f10 f11 f12 f13 f15 f16 f17 f20 f21 f22 f23 f26 f28 f31 f32 f33 f38 f41 f44 x14 g15 g16 g17 g18 g19 g20 g21 g22 g23 g24 g25 g26 g27 g28 g29 g30 g31 g32 g33 g34 g35 g36 g37 g38 g39 g40 g41 g42 g43 g44 t) 0 0 Q := by
  refine zCl_i (M := kX12_full) rfl (Nat.le_of_ble_eq_true rfl) fun R hR => ?_
  iterate 3 refine hR (?_ : R (_, _, _, _, _, _))
  refine hR (t_ldE (by omega) (by omega) (Nat.le_of_ble_eq_true rfl) fun v1 ev1 rv1 => ?_)
  have bv1 : v1 = (g23 0).toInt := ev1
  clear ev1
  refine hR (?_ : R (_, _, _, _, _, _))
  refine hR (j_ne (by omega) (by omega) (fun hc2 => ?_) (fun hc2 => ?_))
  · skip
    exact hR (zret_i rfl (Nat.le_refl _) rfl (h _ _ (by omega) (by omega)))
  iterate 3 refine hR (?_ : R (_, _, _, _, _, _))
  refine hR (zcall_i 0 0 (Nat.le_of_ble_eq_true rfl) (Nat.le_of_ble_eq_true rfl) (m_later _ 3 a3 (by omega) (by omega) _ fun y16_3 y17_4 hp5 => ?_))
  refine (?_ : R (_, _, [], (zMi c0 c1 c2 c3 c4 c5 c6 c7 c8 c9 c10 c11 c12 c13 f0 f9 f10 f11 f12 f13 f15 y16_3 y17_4 f20 f21 f22 f23 f26 f28 f31 f32 f33 f38 f41 f44 x14 g15 g16 g17 g18 g19 g20 g21 g22 g23 g24 g25 g26 g27 g28 g29 g30 g31 g32 g33 g34 g35 g36 g37 g38 g39 g40 g41 g42 g43 g44 t), 0, 0))
  exact hR (zret_i rfl (Nat.le_refl _) rfl (h _ _ (by omega) (by omega)))
theorem m_full1 (d : Nat) (a2 a3 : Int) (hr0 : 0 ≤ f16 ∧ f16 ≤ 4) (hr1 : -2147483648 ≤ a2 ∧ a2 ≤ 2147483647) (Q : zQ) (h : ∀ (y16 : Int) (y17 : Int), (0 ≤ y16 ∧ y16 ≤ 4) → (y16 = 0 → f16 = 0 ∧ (g23 1).toInt ≠ a2) → Q (none) (zMi c0 c1 c2 c3 c4 c5 c6 c7 c8 c9 c10 c11 c12 c13 f0 f9 f10 f11 f12 f13 f15 y16 y17 f20 f21 f22 f23 f26 f28 f31 f32 f33 f38 f41 f44 x14 g15 g16 g17 g18 g19 g20 g21 g22 g23 g24 g25 g26 g27 g28 g29 g30 g31 g32 g33 g34 g35 g36 g37 g38 g39 g40 g41 g42 g43 g44 t)) : zCl zTab (d + 2) iX12_full [.ref 14, .int (Int32.ofInt 1), .int (Int32.ofInt a2), .int (Int32.ofInt a3)] (zMi c0 c1 c2 c3 c4 c5 c6 c7 c8 c9 c10 c11 c12 c13 f0 f9 f10 f11 f12 f13 f15 f16 f17 f20 f21 f22 f23 f26 f28 f31 f32 f33 f38 f41 f44 x14 g15 g16 g17 g18 g19 g20 g21 g22 g23 g24 g25 g26 g27 g28 g29 g30 g31 g32 g33 g34 g35 g36 g37 g38 g39 g40 g41 g42 g43 g44 t) 0 0 Q := by
  refine zCl_i (M := kX12_full) rfl (Nat.le_of_ble_eq_true rfl) fun R hR => ?_
  iterate 3 refine hR (?_ : R (_, _, _, _, _, _))
  refine hR (t_ldE (by omega) (by omega) (Nat.le_of_ble_eq_true rfl) fun v1 ev1 rv1 => ?_)
  have bv1 : v1 = (g23 1).toInt := ev1
  clear ev1
  refine hR (?_ : R (_, _, _, _, _, _))
  refine hR (j_ne (by omega) (by omega) (fun hc2 => ?_) (fun hc2 => ?_))
  · skip
    exact hR (zret_i rfl (Nat.le_refl _) rfl (h _ _ (by omega) (by omega)))
  iterate 3 refine hR (?_ : R (_, _, _, _, _, _))
  refine hR (zcall_i 0 0 (Nat.le_of_ble_eq_true rfl) (Nat.le_of_ble_eq_true rfl) (m_later _ 3 a3 (by omega) (by omega) _ fun y16_3 y17_4 hp5 => ?_))
  refine (?_ : R (_, _, [], (zMi c0 c1 c2 c3 c4 c5 c6 c7 c8 c9 c10 c11 c12 c13 f0 f9 f10 f11 f12 f13 f15 y16_3 y17_4 f20 f21 f22 f23 f26 f28 f31 f32 f33 f38 f41 f44 x14 g15 g16 g17 g18 g19 g20 g21 g22 g23 g24 g25 g26 g27 g28 g29 g30 g31 g32 g33 g34 g35 g36 g37 g38 g39 g40 g41 g42 g43 g44 t), 0, 0))
  exact hR (zret_i rfl (Nat.le_refl _) rfl (h _ _ (by omega) (by omega)))
theorem m_takeText0 (d : Nat) (hr0 : 0 ≤ f9 ∧ f9 ≤ f10 ∧ f10 ≤ 600) (hr1 : 0 ≤ f12 ∧ f12 ≤ 4 ∧ (f12 = 3 → 0 ≤ f13 ∧ f13 ≤ 99)) (hr2 : 0 ≤ f16 ∧ f16 ≤ 4) (Q : zQ) (h : ∀ (y9 : Int) (y11 : Int) (y12 : Int) (y13 : Int) (y14 : Int64) (y15 : Int) (y16 : Int) (y17 : Int) (k24 : Nat → Int32), (f9 ≤ y9 ∧ y9 ≤ f10) → (0 ≤ y12 ∧ y12 ≤ 4 ∧ (y12 = 3 → 0 ≤ y13 ∧ y13 ≤ 99)) → (0 ≤ y16 ∧ y16 ≤ 4) → (y16 = 0 → f16 = 0 ∧ 0 ≤ (k24 0).toInt ∧ (k24 0).toInt ≤ 5460) → ((k24 1).toInt = (g24 1).toInt) → (y12 = 0 ∨ f9 < y9 ∨ y12 = f12) → Q (none) (zMi c0 c1 c2 c3 c4 c5 c6 c7 c8 c9 c10 c11 c12 c13 f0 y9 f10 y11 y12 y13 y15 y16 y17 f20 f21 f22 f23 f26 f28 f31 f32 f33 f38 f41 f44 y14 g15 g16 g17 g18 g19 g20 g21 g22 g23 k24 g25 g26 g27 g28 g29 g30 g31 g32 g33 g34 g35 g36 g37 g38 g39 g40 g41 g42 g43 g44 t)) : zCl zTab (d + 5) iX12_takeText [.ref 14, .int (Int32.ofInt 0)] (zMi c0 c1 c2 c3 c4 c5 c6 c7 c8 c9 c10 c11 c12 c13 f0 f9 f10 f11 f12 f13 f15 f16 f17 f20 f21 f22 f23 f26 f28 f31 f32 f33 f38 f41 f44 x14 g15 g16 g17 g18 g19 g20 g21 g22 g23 g24 g25 g26 g27 g28 g29 g30 g31 g32 g33 g34 g35 g36 g37 g38 g39 g40 g41 g42 g43 g44 t) 0 0 Q := by
  refine zCl_i (M := kX12_takeText) rfl (Nat.le_of_ble_eq_true rfl) fun R hR => ?_
  iterate 4 refine hR (?_ : R (_, _, _, _, _, _))
  have lp4 : ∀ (N : Nat) (n : Int) (fg : Int) (e9_4 : Int) (e11_4 : Int) (e12_4 : Int) (e13_4 : Int) (e14_4 : Int64) (e15_4 : Int) (e16_4 : Int) (e17_4 : Int) (q24_4 : Nat → Int32), (0 ≤ n ∧ n ≤ 6) → (0 ≤ fg ∧ fg ≤ 1000000) → (f9 ≤ e9_4 ∧ e9_4 ≤ f10) → (0 ≤ e12_4 ∧ e12_4 ≤ 4 ∧ (e12_4 = 3 → 0 ≤ e13_4 ∧ e13_4 ≤ 99)) → (0 ≤ e16_4 ∧ e16_4 ≤ 4) → (e16_4 = 0 → f16 = 0 ∧ fg < 4 ^ n.toNat) → (fg ≤ 33 * (4 ^ n.toNat - 1)) → ((q24_4 1).toInt = (g24 1).toInt) → (e12_4 = 0 ∨ f9 < e9_4 ∨ e12_4 = f12) → (5 * (f10 - e9_4) + e12_4 < N) → R (4, [some (.ref 14), some (.int (Int32.ofInt 0)), some (.int (Int32.ofInt n)), some (.int (Int32.ofInt fg))], [], (zMi c0 c1 c2 c3 c4 c5 c6 c7 c8 c9 c10 c11 c12 c13 f0 e9_4 f10 e11_4 e12_4 e13_4 e15_4 e16_4 e17_4 f20 f21 f22 f23 f26 f28 f31 f32 f33 f38 f41 f44 e14_4 g15 g16 g17 g18 g19 g20 g21 g22 g23 q24_4 g25 g26 g27 g28 g29 g30 g31 g32 g33 g34 g35 g36 g37 g38 g39 g40 g41 g42 g43 g44 t), 0, 0) := by
    intro N
    induction N with
    | zero => intros; omega
    | succ N ih4 =>
      intro n fg e9_4 e11_4 e12_4 e13_4 e14_4 e15_4 e16_4 e17_4 q24_4 hf0_4 hf1_4 hp0_4 hp1_4 hp2_4 hp3_4 hp4_4 hp5_4 hp6_4 hN4
      iterate 3 refine hR (?_ : R (_, _, _, _, _, _))
      refine hR (j_ne (by omega) (by omega) (fun hc1 => ?_) (fun hc1 => ?_))
      · skip
        iterate 4 refine hR (?_ : R (_, _, _, _, _, _))
        refine hR (zcall_i 0 0 (Nat.le_of_ble_eq_true rfl) (Nat.le_of_ble_eq_true rfl) (m_shorter _ n _ (by omega) _ fun v2 hp3 hp4 => ?_))
        refine (?_ : R (_, _, (.int (Int32.ofInt v2)) :: (.int (Int32.ofInt 0)) :: (.ref 24) :: [], (zMi c0 c1 c2 c3 c4 c5 c6 c7 c8 c9 c10 c11 c12 c13 f0 e9_4 f10 e11_4 e12_4 e13_4 e15_4 e16_4 e17_4 f20 f21 f22 f23 f26 f28 f31 f32 f33 f38 f41 f44 e14_4 g15 g16 g17 g18 g19 g20 g21 g22 g23 q24_4 g25 g26 g27 g28 g29 g30 g31 g32 g33 g34 g35 g36 g37 g38 g39 g40 g41 g42 g43 g44 t), 0, 0))
        have hz1 := tSh_b (i := n) (by omega) (by omega)
        have hz2 := zp4_b (i := n) (by omega) (by omega)
        refine hR (?_ : R (_, _, _, _, _, _))
        refine hR (t_add ?_)
        refine hR (t_stV 0 rfl (by omega) (by omega) (by omega) (by omega) (Nat.le_of_ble_eq_true rfl) fun k24_5 hvk24_5 hwk24_5 => (?_ : R (_, _, _, (zMi c0 c1 c2 c3 c4 c5 c6 c7 c8 c9 c10 c11 c12 c13 f0 e9_4 f10 e11_4 e12_4 e13_4 e15_4 e16_4 e17_4 f20 f21 f22 f23 f26 f28 f31 f32 f33 f38 f41 f44 e14_4 g15 g16 g17 g18 g19 g20 g21 g22 g23 k24_5 g25 g26 g27 g28 g29 g30 g31 g32 g33 g34 g35 g36 g37 g38 g39 g40 g41 g42 g43 g44 t), _, _)))
        have hxk24_5_1 : (k24_5 1).toInt = (q24_4 1).toInt := by rw [hwk24_5 1 (by decide)]
        have hxk24_5_2 : (k24_5 2).toInt = (q24_4 2).toInt := by rw [hwk24_5 2 (by decide)]
        exact hR (zret_i rfl (Nat.le_refl _) rfl (h _ _ _ _ _ _ _ _ _ (by omega) (by omega) (by omega) (by omega) (by omega) (by omega)))
      have hz0 := zp4_b (i := n) (by omega) (by omega)
      refine hR (?_ : R (_, _, _, _, _, _))
      refine hR (t_c 6 (by decide) ?_)
      refine hR (j_ne (by omega) (by omega) (fun hc6 => ?_) (fun hc6 => ?_))
      · skip
        iterate 4 refine hR (?_ : R (_, _, _, _, _, _))
        refine hR (zcall_i 0 0 (Nat.le_of_ble_eq_true rfl) (Nat.le_of_ble_eq_true rfl) (m_take2 _ 0 3 (by omega) (by omega) (by omega) (by omega) (by omega) _ fun v7 y9_8 y11_9 y12_10 y13_11 y14_12 y15_13 y16_14 y17_15 k24_16 hp17 hp18 hp19 hp20 hp21 hp22 => ?_))
        refine (?_ : R (_, _, (.int (Int32.ofInt v7)) :: [], (zMi c0 c1 c2 c3 c4 c5 c6 c7 c8 c9 c10 c11 c12 c13 f0 y9_8 f10 y11_9 y12_10 y13_11 y15_13 y16_14 y17_15 f20 f21 f22 f23 f26 f28 f31 f32 f33 f38 f41 f44 y14_12 g15 g16 g17 g18 g19 g20 g21 g22 g23 k24_16 g25 g26 g27 g28 g29 g30 g31 g32 g33 g34 g35 g36 g37 g38 g39 g40 g41 g42 g43 g44 t), 0, 0))
        iterate 2 refine hR (?_ : R (_, _, _, _, _, _))
        refine hR (t_c 6 (by decide) ?_)
        refine hR (j_ge (by omega) (by omega) (fun hc23 => ?_) (fun hc23 => ?_))
        · skip
          exact ih4 _ _ _ _ _ _ _ _ _ _ _ (by omega) (by omega) (by omega) (by omega) (by omega) (fun h => hp3_4 (by omega)) hp4_4 (by omega) (by omega) (by omega)
        iterate 2 refine hR (?_ : R (_, _, _, _, _, _))
        refine hR (t_mul ?_)
        iterate 3 refine hR (?_ : R (_, _, _, _, _, _))
        refine hR (t_ldE (by omega) (by omega) (Nat.le_of_ble_eq_true rfl) fun v24 ev24 rv24 => ?_)
        have bv24 : v24 = (k24_16 2).toInt := ev24
        clear ev24
        refine hR (t_add ?_)
        refine hR (?_ : R (_, _, _, _, _, _))
        refine hR (t_inc ?_)
        refine hR (?_ : R (_, _, _, _, _, _))
        exact ih4 _ _ _ _ _ _ _ _ _ _ _ (by omega) (by omega) (by omega) (by omega) (by omega) (fun h => tt_s (hp3_4 (by omega)).1 (hp3_4 (by omega)).2 (by omega) (by omega)) (tt_b (by omega) hp4_4 (by omega)) (by omega) (by omega) (by omega)
      iterate 4 refine hR (?_ : R (_, _, _, _, _, _))
      refine hR (zcall_i 0 0 (Nat.le_of_ble_eq_true rfl) (Nat.le_of_ble_eq_true rfl) (m_later _ 3 e11_4 (by omega) (by omega) _ fun y16_25 y17_26 hp27 => ?_))
      refine (?_ : R (_, _, [], (zMi c0 c1 c2 c3 c4 c5 c6 c7 c8 c9 c10 c11 c12 c13 f0 e9_4 f10 e11_4 e12_4 e13_4 e15_4 y16_25 y17_26 f20 f21 f22 f23 f26 f28 f31 f32 f33 f38 f41 f44 e14_4 g15 g16 g17 g18 g19 g20 g21 g22 g23 q24_4 g25 g26 g27 g28 g29 g30 g31 g32 g33 g34 g35 g36 g37 g38 g39 g40 g41 g42 g43 g44 t), 0, 0))
      iterate 4 refine hR (?_ : R (_, _, _, _, _, _))
      refine hR (zcall_i 0 0 (Nat.le_of_ble_eq_true rfl) (Nat.le_of_ble_eq_true rfl) (m_take2 _ 0 3 (by omega) (by omega) (by omega) (by omega) (by omega) _ fun v28 y9_29 y11_30 y12_31 y13_32 y14_33 y15_34 y16_35 y17_36 k24_37 hp38 hp39 hp40 hp41 hp42 hp43 => ?_))
      refine (?_ : R (_, _, (.int (Int32.ofInt v28)) :: [], (zMi c0 c1 c2 c3 c4 c5 c6 c7 c8 c9 c10 c11 c12 c13 f0 y9_29 f10 y11_30 y12_31 y13_32 y15_34 y16_35 y17_36 f20 f21 f22 f23 f26 f28 f31 f32 f33 f38 f41 f44 y14_33 g15 g16 g17 g18 g19 g20 g21 g22 g23 k24_37 g25 g26 g27 g28 g29 g30 g31 g32 g33 g34 g35 g36 g37 g38 g39 g40 g41 g42 g43 g44 t), 0, 0))
      iterate 2 refine hR (?_ : R (_, _, _, _, _, _))
      refine hR (t_c 6 (by decide) ?_)
      refine hR (j_ge (by omega) (by omega) (fun hc44 => ?_) (fun hc44 => ?_))
      · skip
        exact ih4 _ _ _ _ _ _ _ _ _ _ _ (by omega) (by omega) (by omega) (by omega) (by omega) (fun h => hp3_4 (by omega)) hp4_4 (by omega) (by omega) (by omega)
      iterate 2 refine hR (?_ : R (_, _, _, _, _, _))
      refine hR (t_mul ?_)
      iterate 3 refine hR (?_ : R (_, _, _, _, _, _))
      refine hR (t_ldE (by omega) (by omega) (Nat.le_of_ble_eq_true rfl) fun v45 ev45 rv45 => ?_)
      have bv45 : v45 = (k24_37 2).toInt := ev45
      clear ev45
      refine hR (t_add ?_)
      refine hR (?_ : R (_, _, _, _, _, _))
      refine hR (t_inc ?_)
      refine hR (?_ : R (_, _, _, _, _, _))
      exact ih4 _ _ _ _ _ _ _ _ _ _ _ (by omega) (by omega) (by omega) (by omega) (by omega) (fun h => tt_s (hp3_4 (by omega)).1 (hp3_4 (by omega)).2 (by omega) (by omega)) (tt_b (by omega) hp4_4 (by omega)) (by omega) (by omega) (by omega)
  exact lp4 400000000 _ _ _ _ _ _ _ _ _ _ _ (by omega) (by omega) (by omega) (by omega) (by omega) (fun h => ⟨by omega, by decide⟩) (by decide) (by omega) (by omega) (by omega)
theorem m_takeText1 (d : Nat) (hr0 : 0 ≤ f9 ∧ f9 ≤ f10 ∧ f10 ≤ 600) (hr1 : 0 ≤ f12 ∧ f12 ≤ 4 ∧ (f12 = 3 → 0 ≤ f13 ∧ f13 ≤ 99)) (hr2 : 0 ≤ f16 ∧ f16 ≤ 4) (Q : zQ) (h : ∀ (y9 : Int) (y11 : Int) (y12 : Int) (y13 : Int) (y14 : Int64) (y15 : Int) (y16 : Int) (y17 : Int) (k24 : Nat → Int32), (f9 ≤ y9 ∧ y9 ≤ f10) → (0 ≤ y12 ∧ y12 ≤ 4 ∧ (y12 = 3 → 0 ≤ y13 ∧ y13 ≤ 99)) → (0 ≤ y16 ∧ y16 ≤ 4) → (y16 = 0 → f16 = 0 ∧ 0 ≤ (k24 1).toInt ∧ (k24 1).toInt ≤ 5460) → ((k24 0).toInt = (g24 0).toInt) → (y12 = 0 ∨ f9 < y9 ∨ y12 = f12) → Q (none) (zMi c0 c1 c2 c3 c4 c5 c6 c7 c8 c9 c10 c11 c12 c13 f0 y9 f10 y11 y12 y13 y15 y16 y17 f20 f21 f22 f23 f26 f28 f31 f32 f33 f38 f41 f44 y14 g15 g16 g17 g18 g19 g20 g21 g22 g23 k24 g25 g26 g27 g28 g29 g30 g31 g32 g33 g34 g35 g36 g37 g38 g39 g40 g41 g42 g43 g44 t)) : zCl zTab (d + 5) iX12_takeText [.ref 14, .int (Int32.ofInt 1)] (zMi c0 c1 c2 c3 c4 c5 c6 c7 c8 c9 c10 c11 c12 c13 f0 f9 f10 f11 f12 f13 f15 f16 f17 f20 f21 f22 f23 f26 f28 f31 f32 f33 f38 f41 f44 x14 g15 g16 g17 g18 g19 g20 g21 g22 g23 g24 g25 g26 g27 g28 g29 g30 g31 g32 g33 g34 g35 g36 g37 g38 g39 g40 g41 g42 g43 g44 t) 0 0 Q := by
  refine zCl_i (M := kX12_takeText) rfl (Nat.le_of_ble_eq_true rfl) fun R hR => ?_
  iterate 4 refine hR (?_ : R (_, _, _, _, _, _))
  have lp4 : ∀ (N : Nat) (n : Int) (fg : Int) (e9_4 : Int) (e11_4 : Int) (e12_4 : Int) (e13_4 : Int) (e14_4 : Int64) (e15_4 : Int) (e16_4 : Int) (e17_4 : Int) (q24_4 : Nat → Int32), (0 ≤ n ∧ n ≤ 6) → (0 ≤ fg ∧ fg ≤ 1000000) → (f9 ≤ e9_4 ∧ e9_4 ≤ f10) → (0 ≤ e12_4 ∧ e12_4 ≤ 4 ∧ (e12_4 = 3 → 0 ≤ e13_4 ∧ e13_4 ≤ 99)) → (0 ≤ e16_4 ∧ e16_4 ≤ 4) → (e16_4 = 0 → f16 = 0 ∧ fg < 4 ^ n.toNat) → (fg ≤ 33 * (4 ^ n.toNat - 1)) → ((q24_4 0).toInt = (g24 0).toInt) → (e12_4 = 0 ∨ f9 < e9_4 ∨ e12_4 = f12) → (5 * (f10 - e9_4) + e12_4 < N) → R (4, [some (.ref 14), some (.int (Int32.ofInt 1)), some (.int (Int32.ofInt n)), some (.int (Int32.ofInt fg))], [], (zMi c0 c1 c2 c3 c4 c5 c6 c7 c8 c9 c10 c11 c12 c13 f0 e9_4 f10 e11_4 e12_4 e13_4 e15_4 e16_4 e17_4 f20 f21 f22 f23 f26 f28 f31 f32 f33 f38 f41 f44 e14_4 g15 g16 g17 g18 g19 g20 g21 g22 g23 q24_4 g25 g26 g27 g28 g29 g30 g31 g32 g33 g34 g35 g36 g37 g38 g39 g40 g41 g42 g43 g44 t), 0, 0) := by
    intro N
    induction N with
    | zero => intros; omega
    | succ N ih4 =>
      intro n fg e9_4 e11_4 e12_4 e13_4 e14_4 e15_4 e16_4 e17_4 q24_4 hf0_4 hf1_4 hp0_4 hp1_4 hp2_4 hp3_4 hp4_4 hp5_4 hp6_4 hN4
      iterate 3 refine hR (?_ : R (_, _, _, _, _, _))
      refine hR (j_ne (by omega) (by omega) (fun hc1 => ?_) (fun hc1 => ?_))
      · skip
        iterate 4 refine hR (?_ : R (_, _, _, _, _, _))
        refine hR (zcall_i 0 0 (Nat.le_of_ble_eq_true rfl) (Nat.le_of_ble_eq_true rfl) (m_shorter _ n _ (by omega) _ fun v2 hp3 hp4 => ?_))
        refine (?_ : R (_, _, (.int (Int32.ofInt v2)) :: (.int (Int32.ofInt 1)) :: (.ref 24) :: [], (zMi c0 c1 c2 c3 c4 c5 c6 c7 c8 c9 c10 c11 c12 c13 f0 e9_4 f10 e11_4 e12_4 e13_4 e15_4 e16_4 e17_4 f20 f21 f22 f23 f26 f28 f31 f32 f33 f38 f41 f44 e14_4 g15 g16 g17 g18 g19 g20 g21 g22 g23 q24_4 g25 g26 g27 g28 g29 g30 g31 g32 g33 g34 g35 g36 g37 g38 g39 g40 g41 g42 g43 g44 t), 0, 0))
        have hz1 := tSh_b (i := n) (by omega) (by omega)
        have hz2 := zp4_b (i := n) (by omega) (by omega)
        refine hR (?_ : R (_, _, _, _, _, _))
        refine hR (t_add ?_)
        refine hR (t_stV 1 rfl (by omega) (by omega) (by omega) (by omega) (Nat.le_of_ble_eq_true rfl) fun k24_5 hvk24_5 hwk24_5 => (?_ : R (_, _, _, (zMi c0 c1 c2 c3 c4 c5 c6 c7 c8 c9 c10 c11 c12 c13 f0 e9_4 f10 e11_4 e12_4 e13_4 e15_4 e16_4 e17_4 f20 f21 f22 f23 f26 f28 f31 f32 f33 f38 f41 f44 e14_4 g15 g16 g17 g18 g19 g20 g21 g22 g23 k24_5 g25 g26 g27 g28 g29 g30 g31 g32 g33 g34 g35 g36 g37 g38 g39 g40 g41 g42 g43 g44 t), _, _)))
        have hxk24_5_0 : (k24_5 0).toInt = (q24_4 0).toInt := by rw [hwk24_5 0 (by decide)]
        have hxk24_5_2 : (k24_5 2).toInt = (q24_4 2).toInt := by rw [hwk24_5 2 (by decide)]
        exact hR (zret_i rfl (Nat.le_refl _) rfl (h _ _ _ _ _ _ _ _ _ (by omega) (by omega) (by omega) (by omega) (by omega) (by omega)))
      have hz0 := zp4_b (i := n) (by omega) (by omega)
      refine hR (?_ : R (_, _, _, _, _, _))
      refine hR (t_c 6 (by decide) ?_)
      refine hR (j_ne (by omega) (by omega) (fun hc6 => ?_) (fun hc6 => ?_))
      · skip
        iterate 4 refine hR (?_ : R (_, _, _, _, _, _))
        refine hR (zcall_i 0 0 (Nat.le_of_ble_eq_true rfl) (Nat.le_of_ble_eq_true rfl) (m_take2 _ 0 3 (by omega) (by omega) (by omega) (by omega) (by omega) _ fun v7 y9_8 y11_9 y12_10 y13_11 y14_12 y15_13 y16_14 y17_15 k24_16 hp17 hp18 hp19 hp20 hp21 hp22 => ?_))
        refine (?_ : R (_, _, (.int (Int32.ofInt v7)) :: [], (zMi c0 c1 c2 c3 c4 c5 c6 c7 c8 c9 c10 c11 c12 c13 f0 y9_8 f10 y11_9 y12_10 y13_11 y15_13 y16_14 y17_15 f20 f21 f22 f23 f26 f28 f31 f32 f33 f38 f41 f44 y14_12 g15 g16 g17 g18 g19 g20 g21 g22 g23 k24_16 g25 g26 g27 g28 g29 g30 g31 g32 g33 g34 g35 g36 g37 g38 g39 g40 g41 g42 g43 g44 t), 0, 0))
        iterate 2 refine hR (?_ : R (_, _, _, _, _, _))
        refine hR (t_c 6 (by decide) ?_)
        refine hR (j_ge (by omega) (by omega) (fun hc23 => ?_) (fun hc23 => ?_))
        · skip
          exact ih4 _ _ _ _ _ _ _ _ _ _ _ (by omega) (by omega) (by omega) (by omega) (by omega) (fun h => hp3_4 (by omega)) hp4_4 (by omega) (by omega) (by omega)
        iterate 2 refine hR (?_ : R (_, _, _, _, _, _))
        refine hR (t_mul ?_)
        iterate 3 refine hR (?_ : R (_, _, _, _, _, _))
        refine hR (t_ldE (by omega) (by omega) (Nat.le_of_ble_eq_true rfl) fun v24 ev24 rv24 => ?_)
        have bv24 : v24 = (k24_16 2).toInt := ev24
        clear ev24
        refine hR (t_add ?_)
        refine hR (?_ : R (_, _, _, _, _, _))
        refine hR (t_inc ?_)
        refine hR (?_ : R (_, _, _, _, _, _))
        exact ih4 _ _ _ _ _ _ _ _ _ _ _ (by omega) (by omega) (by omega) (by omega) (by omega) (fun h => tt_s (hp3_4 (by omega)).1 (hp3_4 (by omega)).2 (by omega) (by omega)) (tt_b (by omega) hp4_4 (by omega)) (by omega) (by omega) (by omega)
      iterate 4 refine hR (?_ : R (_, _, _, _, _, _))
      refine hR (zcall_i 0 0 (Nat.le_of_ble_eq_true rfl) (Nat.le_of_ble_eq_true rfl) (m_later _ 3 e11_4 (by omega) (by omega) _ fun y16_25 y17_26 hp27 => ?_))
      refine (?_ : R (_, _, [], (zMi c0 c1 c2 c3 c4 c5 c6 c7 c8 c9 c10 c11 c12 c13 f0 e9_4 f10 e11_4 e12_4 e13_4 e15_4 y16_25 y17_26 f20 f21 f22 f23 f26 f28 f31 f32 f33 f38 f41 f44 e14_4 g15 g16 g17 g18 g19 g20 g21 g22 g23 q24_4 g25 g26 g27 g28 g29 g30 g31 g32 g33 g34 g35 g36 g37 g38 g39 g40 g41 g42 g43 g44 t), 0, 0))
      iterate 4 refine hR (?_ : R (_, _, _, _, _, _))
      refine hR (zcall_i 0 0 (Nat.le_of_ble_eq_true rfl) (Nat.le_of_ble_eq_true rfl) (m_take2 _ 0 3 (by omega) (by omega) (by omega) (by omega) (by omega) _ fun v28 y9_29 y11_30 y12_31 y13_32 y14_33 y15_34 y16_35 y17_36 k24_37 hp38 hp39 hp40 hp41 hp42 hp43 => ?_))
      refine (?_ : R (_, _, (.int (Int32.ofInt v28)) :: [], (zMi c0 c1 c2 c3 c4 c5 c6 c7 c8 c9 c10 c11 c12 c13 f0 y9_29 f10 y11_30 y12_31 y13_32 y15_34 y16_35 y17_36 f20 f21 f22 f23 f26 f28 f31 f32 f33 f38 f41 f44 y14_33 g15 g16 g17 g18 g19 g20 g21 g22 g23 k24_37 g25 g26 g27 g28 g29 g30 g31 g32 g33 g34 g35 g36 g37 g38 g39 g40 g41 g42 g43 g44 t), 0, 0))
      iterate 2 refine hR (?_ : R (_, _, _, _, _, _))
      refine hR (t_c 6 (by decide) ?_)
      refine hR (j_ge (by omega) (by omega) (fun hc44 => ?_) (fun hc44 => ?_))
      · skip
        exact ih4 _ _ _ _ _ _ _ _ _ _ _ (by omega) (by omega) (by omega) (by omega) (by omega) (fun h => hp3_4 (by omega)) hp4_4 (by omega) (by omega) (by omega)
      iterate 2 refine hR (?_ : R (_, _, _, _, _, _))
      refine hR (t_mul ?_)
      iterate 3 refine hR (?_ : R (_, _, _, _, _, _))
      refine hR (t_ldE (by omega) (by omega) (Nat.le_of_ble_eq_true rfl) fun v45 ev45 rv45 => ?_)
      have bv45 : v45 = (k24_37 2).toInt := ev45
      clear ev45
      refine hR (t_add ?_)
      refine hR (?_ : R (_, _, _, _, _, _))
      refine hR (t_inc ?_)
      refine hR (?_ : R (_, _, _, _, _, _))
      exact ih4 _ _ _ _ _ _ _ _ _ _ _ (by omega) (by omega) (by omega) (by omega) (by omega) (fun h => tt_s (hp3_4 (by omega)).1 (hp3_4 (by omega)).2 (by omega) (by omega)) (tt_b (by omega) hp4_4 (by omega)) (by omega) (by omega) (by omega)
  exact lp4 400000000 _ _ _ _ _ _ _ _ _ _ _ (by omega) (by omega) (by omega) (by omega) (by omega) (fun h => ⟨by omega, by decide⟩) (by decide) (by omega) (by omega) (by omega)
theorem m_stepBy (d : Nat) (lw : Int64) (w : zW)  (Q : zQ) (h : ∀ (v : Int), (-1 ≤ v ∧ v ≤ 4) → Q (some (.int (Int32.ofInt v))) w) : zCl zTab (d + 1) iX12_stepBy [.long lw] w 0 0 Q := by
  refine zCl_i (M := kX12_stepBy) rfl (Nat.le_of_ble_eq_true rfl) fun R hR => ?_
  iterate 2 refine hR (?_ : R (_, _, _, _, _, _))
  refine hR (t_o fun v1 rv1 => ?_)
  refine hR (j_any ?_ ?_)
  rotate_left
  · skip
    iterate 2 refine hR (?_ : R (_, _, _, _, _, _))
    exact hR (zret_i rfl (Nat.le_refl _) trivial (h _ (by omega)))
  iterate 2 refine hR (?_ : R (_, _, _, _, _, _))
  refine hR (t_o fun v2 rv2 => ?_)
  refine hR (j_any ?_ ?_)
  rotate_left
  · skip
    iterate 2 refine hR (?_ : R (_, _, _, _, _, _))
    exact hR (zret_i rfl (Nat.le_refl _) trivial (h _ (by omega)))
  iterate 2 refine hR (?_ : R (_, _, _, _, _, _))
  refine hR (t_o fun v3 rv3 => ?_)
  refine hR (j_any ?_ ?_)
  rotate_left
  · skip
    iterate 2 refine hR (?_ : R (_, _, _, _, _, _))
    exact hR (zret_i rfl (Nat.le_refl _) trivial (h _ (by omega)))
  iterate 2 refine hR (?_ : R (_, _, _, _, _, _))
  refine hR (t_o fun v4 rv4 => ?_)
  refine hR (j_any ?_ ?_)
  rotate_left
  · skip
    iterate 2 refine hR (?_ : R (_, _, _, _, _, _))
    exact hR (zret_i rfl (Nat.le_refl _) trivial (h _ (by omega)))
  iterate 2 refine hR (?_ : R (_, _, _, _, _, _))
  refine hR (t_o fun v5 rv5 => ?_)
  refine hR (j_any ?_ ?_)
  · skip
    refine hR (?_ : R (_, _, _, _, _, _))
    exact hR (zret_i rfl (Nat.le_refl _) trivial (h _ (by omega)))
  iterate 2 refine hR (?_ : R (_, _, _, _, _, _))
  exact hR (zret_i rfl (Nat.le_refl _) trivial (h _ (by omega)))
theorem m_deedBy (d : Nat) (lw : Int64) (w : zW)  (Q : zQ) (h : ∀ (v : Int), (-1 ≤ v ∧ v ≤ 5) → Q (some (.int (Int32.ofInt v))) w) : zCl zTab (d + 1) iX12_deedBy [.long lw] w 0 0 Q := by
  refine zCl_i (M := kX12_deedBy) rfl (Nat.le_of_ble_eq_true rfl) fun R hR => ?_
  iterate 2 refine hR (?_ : R (_, _, _, _, _, _))
  refine hR (t_o fun v1 rv1 => ?_)
  refine hR (j_any ?_ ?_)
  rotate_left
  · skip
    iterate 2 refine hR (?_ : R (_, _, _, _, _, _))
    exact hR (zret_i rfl (Nat.le_refl _) trivial (h _ (by omega)))
  iterate 2 refine hR (?_ : R (_, _, _, _, _, _))
  refine hR (t_o fun v2 rv2 => ?_)
  refine hR (j_any ?_ ?_)
  rotate_left
  · skip
    iterate 2 refine hR (?_ : R (_, _, _, _, _, _))
    exact hR (zret_i rfl (Nat.le_refl _) trivial (h _ (by omega)))
  iterate 2 refine hR (?_ : R (_, _, _, _, _, _))
  refine hR (t_o fun v3 rv3 => ?_)
  refine hR (j_any ?_ ?_)
  rotate_left
  · skip
    iterate 2 refine hR (?_ : R (_, _, _, _, _, _))
    exact hR (zret_i rfl (Nat.le_refl _) trivial (h _ (by omega)))
  iterate 2 refine hR (?_ : R (_, _, _, _, _, _))
  refine hR (t_o fun v4 rv4 => ?_)
  refine hR (j_any ?_ ?_)
  rotate_left
  · skip
    iterate 2 refine hR (?_ : R (_, _, _, _, _, _))
    exact hR (zret_i rfl (Nat.le_refl _) trivial (h _ (by omega)))
  iterate 2 refine hR (?_ : R (_, _, _, _, _, _))
  refine hR (t_o fun v5 rv5 => ?_)
  refine hR (j_any ?_ ?_)
  rotate_left
  · skip
    iterate 2 refine hR (?_ : R (_, _, _, _, _, _))
    exact hR (zret_i rfl (Nat.le_refl _) trivial (h _ (by omega)))
  iterate 2 refine hR (?_ : R (_, _, _, _, _, _))
  refine hR (t_o fun v6 rv6 => ?_)
  refine hR (j_any ?_ ?_)
  · skip
    refine hR (?_ : R (_, _, _, _, _, _))
    exact hR (zret_i rfl (Nat.le_refl _) trivial (h _ (by omega)))
  iterate 2 refine hR (?_ : R (_, _, _, _, _, _))
  exact hR (zret_i rfl (Nat.le_refl _) trivial (h _ (by omega)))
end MZ
